section
-- ===== PART A: goes FIRST, ahead of the names: the tables' words, and 'selects' of the private methods out of them =====
/-- a private method of a class that the tables say can be made, by its rows of tables_1 -/
def lw_okq (q : MethodName × Nat) : Prop := (q.1.cls ≠ "java/lang/invoke/MethodHandle" ∧ q.1.cls ≠ "java/lang/invoke/VarHandle") ∧ Cond.instantiable q.1.cls q.2 ∈ tables_1 ∧ Cond.privateMethod q.1 ∈ tables_1 ∧ Cond.instanceMethod q.1 ∈ tables_1
theorem lw_p0 : lw_okq (⟨"AdapterBench$Rules", "keep", "(IIIII)V"⟩, 12) := ⟨⟨by decide +kernel, by decide +kernel⟩, List.mem_of_getElem? (i := 27) (by decide +kernel), List.mem_of_getElem? (i := 41) (by decide +kernel), List.mem_of_getElem? (i := 42) (by decide +kernel)⟩
theorem lw_p1 : lw_okq (⟨"AdapterBench$Rules", "measure", "()V"⟩, 12) := ⟨⟨by decide +kernel, by decide +kernel⟩, List.mem_of_getElem? (i := 27) (by decide +kernel), List.mem_of_getElem? (i := 45) (by decide +kernel), List.mem_of_getElem? (i := 46) (by decide +kernel)⟩
theorem lw_p2 : lw_okq (⟨"AdapterBench$Rules", "weightOf", "(I)I"⟩, 12) := ⟨⟨by decide +kernel, by decide +kernel⟩, List.mem_of_getElem? (i := 27) (by decide +kernel), List.mem_of_getElem? (i := 53) (by decide +kernel), List.mem_of_getElem? (i := 54) (by decide +kernel)⟩
theorem lw_p3 : lw_okq (⟨"AdapterBench$Rules", "shortenBy", "(I)V"⟩, 12) := ⟨⟨by decide +kernel, by decide +kernel⟩, List.mem_of_getElem? (i := 27) (by decide +kernel), List.mem_of_getElem? (i := 60) (by decide +kernel), List.mem_of_getElem? (i := 61) (by decide +kernel)⟩
theorem lw_p4 : lw_okq (⟨"AdapterBench$Rules", "firstOf", "(II)I"⟩, 12) := ⟨⟨by decide +kernel, by decide +kernel⟩, List.mem_of_getElem? (i := 27) (by decide +kernel), List.mem_of_getElem? (i := 64) (by decide +kernel), List.mem_of_getElem? (i := 65) (by decide +kernel)⟩
theorem lw_p5 : lw_okq (⟨"AdapterBench$Rules", "follow", "(IJ)Z"⟩, 12) := ⟨⟨by decide +kernel, by decide +kernel⟩, List.mem_of_getElem? (i := 27) (by decide +kernel), List.mem_of_getElem? (i := 467) (by decide +kernel), List.mem_of_getElem? (i := 468) (by decide +kernel)⟩
theorem lw_p6 : lw_okq (⟨"AdapterBench$Aliases", "placeOf", "(II)I"⟩, 2) := ⟨⟨by decide +kernel, by decide +kernel⟩, List.mem_of_getElem? (i := 112) (by decide +kernel), List.mem_of_getElem? (i := 540) (by decide +kernel), List.mem_of_getElem? (i := 541) (by decide +kernel)⟩
theorem lw_p7 : lw_okq (⟨"AdapterBench$Fitter", "startOf", "(LAdapterBench$Member;LAdapterBench$Member;)I"⟩, 7) := ⟨⟨by decide +kernel, by decide +kernel⟩, List.mem_of_getElem? (i := 144) (by decide +kernel), List.mem_of_getElem? (i := 563) (by decide +kernel), List.mem_of_getElem? (i := 564) (by decide +kernel)⟩
theorem lw_p8 : lw_okq (⟨"AdapterBench$Fitter", "assign", "(LAdapterBench$Member;LAdapterBench$Member;III)Z"⟩, 7) := ⟨⟨by decide +kernel, by decide +kernel⟩, List.mem_of_getElem? (i := 144) (by decide +kernel), List.mem_of_getElem? (i := 569) (by decide +kernel), List.mem_of_getElem? (i := 570) (by decide +kernel)⟩
theorem lw_p9 : lw_okq (⟨"AdapterBench$Fitter", "settle", "(I)Z"⟩, 7) := ⟨⟨by decide +kernel, by decide +kernel⟩, List.mem_of_getElem? (i := 144) (by decide +kernel), List.mem_of_getElem? (i := 579) (by decide +kernel), List.mem_of_getElem? (i := 580) (by decide +kernel)⟩
theorem lw_p10 : lw_okq (⟨"AdapterBench$Fitter", "take", "(LAdapterBench$Member;LAdapterBench$Member;IIII)Z"⟩, 7) := ⟨⟨by decide +kernel, by decide +kernel⟩, List.mem_of_getElem? (i := 144) (by decide +kernel), List.mem_of_getElem? (i := 586) (by decide +kernel), List.mem_of_getElem? (i := 587) (by decide +kernel)⟩
theorem lw_p11 : lw_okq (⟨"AdapterBench$Ways", "weigh", "()V"⟩, 7) := ⟨⟨by decide +kernel, by decide +kernel⟩, List.mem_of_getElem? (i := 180) (by decide +kernel), List.mem_of_getElem? (i := 618) (by decide +kernel), List.mem_of_getElem? (i := 619) (by decide +kernel)⟩
theorem lw_p12 : lw_okq (⟨"AdapterBench$Ways", "measure", "(I)V"⟩, 7) := ⟨⟨by decide +kernel, by decide +kernel⟩, List.mem_of_getElem? (i := 180) (by decide +kernel), List.mem_of_getElem? (i := 624) (by decide +kernel), List.mem_of_getElem? (i := 625) (by decide +kernel)⟩
theorem lw_p13 : lw_okq (⟨"AdapterBench$Ways", "shorten", "(I)Z"⟩, 7) := ⟨⟨by decide +kernel, by decide +kernel⟩, List.mem_of_getElem? (i := 180) (by decide +kernel), List.mem_of_getElem? (i := 628) (by decide +kernel), List.mem_of_getElem? (i := 629) (by decide +kernel)⟩
theorem lw_p14 : lw_okq (⟨"AdapterBench$Ways", "nextOf", "(I)I"⟩, 7) := ⟨⟨by decide +kernel, by decide +kernel⟩, List.mem_of_getElem? (i := 180) (by decide +kernel), List.mem_of_getElem? (i := 633) (by decide +kernel), List.mem_of_getElem? (i := 634) (by decide +kernel)⟩
theorem lw_p15 : lw_okq (⟨"AdapterBench", "finish", "(I)I"⟩, 9) := ⟨⟨by decide +kernel, by decide +kernel⟩, List.mem_of_getElem? (i := 19) (by decide +kernel), List.mem_of_getElem? (i := 670) (by decide +kernel), List.mem_of_getElem? (i := 671) (by decide +kernel)⟩
def lw_privs_1 : List (MethodName × Nat) := [(⟨"AdapterBench$Rules", "keep", "(IIIII)V"⟩, 12), (⟨"AdapterBench$Rules", "measure", "()V"⟩, 12), (⟨"AdapterBench$Rules", "weightOf", "(I)I"⟩, 12), (⟨"AdapterBench$Rules", "shortenBy", "(I)V"⟩, 12), (⟨"AdapterBench$Rules", "firstOf", "(II)I"⟩, 12), (⟨"AdapterBench$Rules", "follow", "(IJ)Z"⟩, 12), (⟨"AdapterBench$Aliases", "placeOf", "(II)I"⟩, 2), (⟨"AdapterBench$Fitter", "startOf", "(LAdapterBench$Member;LAdapterBench$Member;)I"⟩, 7), (⟨"AdapterBench$Fitter", "assign", "(LAdapterBench$Member;LAdapterBench$Member;III)Z"⟩, 7), (⟨"AdapterBench$Fitter", "settle", "(I)Z"⟩, 7), (⟨"AdapterBench$Fitter", "take", "(LAdapterBench$Member;LAdapterBench$Member;IIII)Z"⟩, 7), (⟨"AdapterBench$Ways", "weigh", "()V"⟩, 7), (⟨"AdapterBench$Ways", "measure", "(I)V"⟩, 7), (⟨"AdapterBench$Ways", "shorten", "(I)Z"⟩, 7), (⟨"AdapterBench$Ways", "nextOf", "(I)I"⟩, 7), (⟨"AdapterBench", "finish", "(I)I"⟩, 9)]
theorem lw_r1 : ∀ q ∈ lw_privs_1, lw_okq q := List.forall_mem_cons.mpr ⟨lw_p0, List.forall_mem_cons.mpr ⟨lw_p1, List.forall_mem_cons.mpr ⟨lw_p2, List.forall_mem_cons.mpr ⟨lw_p3, List.forall_mem_cons.mpr ⟨lw_p4, List.forall_mem_cons.mpr ⟨lw_p5, List.forall_mem_cons.mpr ⟨lw_p6, List.forall_mem_cons.mpr ⟨lw_p7, List.forall_mem_cons.mpr ⟨lw_p8, List.forall_mem_cons.mpr ⟨lw_p9, List.forall_mem_cons.mpr ⟨lw_p10, List.forall_mem_cons.mpr ⟨lw_p11, List.forall_mem_cons.mpr ⟨lw_p12, List.forall_mem_cons.mpr ⟨lw_p13, List.forall_mem_cons.mpr ⟨lw_p14, List.forall_mem_cons.mpr ⟨lw_p15, fun _ h => absurd h List.not_mem_nil⟩⟩⟩⟩⟩⟩⟩⟩⟩⟩⟩⟩⟩⟩⟩⟩
theorem lw_p16 : lw_okq (⟨"AdapterBench$Caller", "takeHand", "()Z"⟩, 11) := ⟨⟨by decide +kernel, by decide +kernel⟩, List.mem_of_getElem? (i := 265) (by decide +kernel), List.mem_of_getElem? (i := 684) (by decide +kernel), List.mem_of_getElem? (i := 685) (by decide +kernel)⟩
theorem lw_p17 : lw_okq (⟨"AdapterBench$Caller", "passIn", "()Z"⟩, 11) := ⟨⟨by decide +kernel, by decide +kernel⟩, List.mem_of_getElem? (i := 265) (by decide +kernel), List.mem_of_getElem? (i := 690) (by decide +kernel), List.mem_of_getElem? (i := 691) (by decide +kernel)⟩
theorem lw_p18 : lw_okq (⟨"AdapterBench$Caller", "passTo", "(I)Z"⟩, 11) := ⟨⟨by decide +kernel, by decide +kernel⟩, List.mem_of_getElem? (i := 265) (by decide +kernel), List.mem_of_getElem? (i := 694) (by decide +kernel), List.mem_of_getElem? (i := 695) (by decide +kernel)⟩
theorem lw_p19 : lw_okq (⟨"AdapterBench$Caller", "doWork", "([JI)Z"⟩, 11) := ⟨⟨by decide +kernel, by decide +kernel⟩, List.mem_of_getElem? (i := 265) (by decide +kernel), List.mem_of_getElem? (i := 699) (by decide +kernel), List.mem_of_getElem? (i := 700) (by decide +kernel)⟩
theorem lw_p20 : lw_okq (⟨"AdapterBench$Caller", "giveIfOf", "(LAdapterBench$Member;J)Z"⟩, 11) := ⟨⟨by decide +kernel, by decide +kernel⟩, List.mem_of_getElem? (i := 265) (by decide +kernel), List.mem_of_getElem? (i := 703) (by decide +kernel), List.mem_of_getElem? (i := 704) (by decide +kernel)⟩
theorem lw_p21 : lw_okq (⟨"AdapterBench$Caller", "writeField", "(LAdapterBench$Member;[JI)Z"⟩, 11) := ⟨⟨by decide +kernel, by decide +kernel⟩, List.mem_of_getElem? (i := 265) (by decide +kernel), List.mem_of_getElem? (i := 707) (by decide +kernel), List.mem_of_getElem? (i := 708) (by decide +kernel)⟩
theorem lw_p22 : lw_okq (⟨"AdapterBench$Caller", "addTo", "(J)Z"⟩, 11) := ⟨⟨by decide +kernel, by decide +kernel⟩, List.mem_of_getElem? (i := 265) (by decide +kernel), List.mem_of_getElem? (i := 711) (by decide +kernel), List.mem_of_getElem? (i := 712) (by decide +kernel)⟩
theorem lw_p23 : lw_okq (⟨"AdapterBench$Caller", "addUp", "(LAdapterBench$Member;)Z"⟩, 11) := ⟨⟨by decide +kernel, by decide +kernel⟩, List.mem_of_getElem? (i := 265) (by decide +kernel), List.mem_of_getElem? (i := 718) (by decide +kernel), List.mem_of_getElem? (i := 719) (by decide +kernel)⟩
theorem lw_p24 : lw_okq (⟨"AdapterBench$Caller", "addField", "(LAdapterBench$Member;[JI)Z"⟩, 11) := ⟨⟨by decide +kernel, by decide +kernel⟩, List.mem_of_getElem? (i := 265) (by decide +kernel), List.mem_of_getElem? (i := 723) (by decide +kernel), List.mem_of_getElem? (i := 724) (by decide +kernel)⟩
theorem lw_p25 : lw_okq (⟨"AdapterBench$Caller", "passBack", "()Z"⟩, 11) := ⟨⟨by decide +kernel, by decide +kernel⟩, List.mem_of_getElem? (i := 265) (by decide +kernel), List.mem_of_getElem? (i := 727) (by decide +kernel), List.mem_of_getElem? (i := 728) (by decide +kernel)⟩
theorem lw_p26 : lw_okq (⟨"AdapterBench", "membersOf", "(II)I"⟩, 9) := ⟨⟨by decide +kernel, by decide +kernel⟩, List.mem_of_getElem? (i := 19) (by decide +kernel), List.mem_of_getElem? (i := 751) (by decide +kernel), List.mem_of_getElem? (i := 752) (by decide +kernel)⟩
theorem lw_p27 : lw_okq (⟨"AdapterBenchModel", "base", "(III)V"⟩, 56) := ⟨⟨by decide +kernel, by decide +kernel⟩, List.mem_of_getElem? (i := 755) (by decide +kernel), List.mem_of_getElem? (i := 761) (by decide +kernel), List.mem_of_getElem? (i := 762) (by decide +kernel)⟩
theorem lw_p28 : lw_okq (⟨"AdapterBenchModel", "measure", "()V"⟩, 56) := ⟨⟨by decide +kernel, by decide +kernel⟩, List.mem_of_getElem? (i := 755) (by decide +kernel), List.mem_of_getElem? (i := 953) (by decide +kernel), List.mem_of_getElem? (i := 954) (by decide +kernel)⟩
theorem lw_p29 : lw_okq (⟨"AdapterBenchModel", "turningsFrom", "(I)V"⟩, 56) := ⟨⟨by decide +kernel, by decide +kernel⟩, List.mem_of_getElem? (i := 755) (by decide +kernel), List.mem_of_getElem? (i := 957) (by decide +kernel), List.mem_of_getElem? (i := 958) (by decide +kernel)⟩
theorem lw_p30 : lw_okq (⟨"AdapterBenchModel", "isAhead", "(IIII)Z"⟩, 56) := ⟨⟨by decide +kernel, by decide +kernel⟩, List.mem_of_getElem? (i := 755) (by decide +kernel), List.mem_of_getElem? (i := 962) (by decide +kernel), List.mem_of_getElem? (i := 963) (by decide +kernel)⟩
theorem lw_p31 : lw_okq (⟨"AdapterBenchModel", "fail", "(II)V"⟩, 56) := ⟨⟨by decide +kernel, by decide +kernel⟩, List.mem_of_getElem? (i := 755) (by decide +kernel), List.mem_of_getElem? (i := 979) (by decide +kernel), List.mem_of_getElem? (i := 980) (by decide +kernel)⟩
def lw_privs_2 : List (MethodName × Nat) := [(⟨"AdapterBench$Caller", "takeHand", "()Z"⟩, 11), (⟨"AdapterBench$Caller", "passIn", "()Z"⟩, 11), (⟨"AdapterBench$Caller", "passTo", "(I)Z"⟩, 11), (⟨"AdapterBench$Caller", "doWork", "([JI)Z"⟩, 11), (⟨"AdapterBench$Caller", "giveIfOf", "(LAdapterBench$Member;J)Z"⟩, 11), (⟨"AdapterBench$Caller", "writeField", "(LAdapterBench$Member;[JI)Z"⟩, 11), (⟨"AdapterBench$Caller", "addTo", "(J)Z"⟩, 11), (⟨"AdapterBench$Caller", "addUp", "(LAdapterBench$Member;)Z"⟩, 11), (⟨"AdapterBench$Caller", "addField", "(LAdapterBench$Member;[JI)Z"⟩, 11), (⟨"AdapterBench$Caller", "passBack", "()Z"⟩, 11), (⟨"AdapterBench", "membersOf", "(II)I"⟩, 9), (⟨"AdapterBenchModel", "base", "(III)V"⟩, 56), (⟨"AdapterBenchModel", "measure", "()V"⟩, 56), (⟨"AdapterBenchModel", "turningsFrom", "(I)V"⟩, 56), (⟨"AdapterBenchModel", "isAhead", "(IIII)Z"⟩, 56), (⟨"AdapterBenchModel", "fail", "(II)V"⟩, 56)]
theorem lw_r2 : ∀ q ∈ lw_privs_2, lw_okq q := List.forall_mem_cons.mpr ⟨lw_p16, List.forall_mem_cons.mpr ⟨lw_p17, List.forall_mem_cons.mpr ⟨lw_p18, List.forall_mem_cons.mpr ⟨lw_p19, List.forall_mem_cons.mpr ⟨lw_p20, List.forall_mem_cons.mpr ⟨lw_p21, List.forall_mem_cons.mpr ⟨lw_p22, List.forall_mem_cons.mpr ⟨lw_p23, List.forall_mem_cons.mpr ⟨lw_p24, List.forall_mem_cons.mpr ⟨lw_p25, List.forall_mem_cons.mpr ⟨lw_p26, List.forall_mem_cons.mpr ⟨lw_p27, List.forall_mem_cons.mpr ⟨lw_p28, List.forall_mem_cons.mpr ⟨lw_p29, List.forall_mem_cons.mpr ⟨lw_p30, List.forall_mem_cons.mpr ⟨lw_p31, fun _ h => absurd h List.not_mem_nil⟩⟩⟩⟩⟩⟩⟩⟩⟩⟩⟩⟩⟩⟩⟩⟩
theorem lw_p32 : lw_okq (⟨"AdapterBenchModel", "turnIt", "(IIJI)Z"⟩, 56) := ⟨⟨by decide +kernel, by decide +kernel⟩, List.mem_of_getElem? (i := 755) (by decide +kernel), List.mem_of_getElem? (i := 983) (by decide +kernel), List.mem_of_getElem? (i := 984) (by decide +kernel)⟩
theorem lw_p33 : lw_okq (⟨"AdapterBenchModel", "apply", "(IJ)Z"⟩, 56) := ⟨⟨by decide +kernel, by decide +kernel⟩, List.mem_of_getElem? (i := 755) (by decide +kernel), List.mem_of_getElem? (i := 987) (by decide +kernel), List.mem_of_getElem? (i := 988) (by decide +kernel)⟩
theorem lw_p34 : lw_okq (⟨"AdapterBenchModel", "add", "(III)I"⟩, 56) := ⟨⟨by decide +kernel, by decide +kernel⟩, List.mem_of_getElem? (i := 755) (by decide +kernel), List.mem_of_getElem? (i := 1008) (by decide +kernel), List.mem_of_getElem? (i := 1009) (by decide +kernel)⟩
theorem lw_p35 : lw_okq (⟨"AdapterBenchModel", "isMember", "(II)Z"⟩, 56) := ⟨⟨by decide +kernel, by decide +kernel⟩, List.mem_of_getElem? (i := 755) (by decide +kernel), List.mem_of_getElem? (i := 1025) (by decide +kernel), List.mem_of_getElem? (i := 1026) (by decide +kernel)⟩
theorem lw_p36 : lw_okq (⟨"AdapterBenchModel", "findFit", "(II)Z"⟩, 56) := ⟨⟨by decide +kernel, by decide +kernel⟩, List.mem_of_getElem? (i := 755) (by decide +kernel), List.mem_of_getElem? (i := 1051) (by decide +kernel), List.mem_of_getElem? (i := 1052) (by decide +kernel)⟩
theorem lw_p37 : lw_okq (⟨"AdapterBenchModel", "serve", "(II)I"⟩, 56) := ⟨⟨by decide +kernel, by decide +kernel⟩, List.mem_of_getElem? (i := 755) (by decide +kernel), List.mem_of_getElem? (i := 1055) (by decide +kernel), List.mem_of_getElem? (i := 1056) (by decide +kernel)⟩
theorem lw_p38 : lw_okq (⟨"AdapterBenchModel", "costOf", "(II)I"⟩, 56) := ⟨⟨by decide +kernel, by decide +kernel⟩, List.mem_of_getElem? (i := 755) (by decide +kernel), List.mem_of_getElem? (i := 1059) (by decide +kernel), List.mem_of_getElem? (i := 1060) (by decide +kernel)⟩
theorem lw_p39 : lw_okq (⟨"AdapterBenchModel", "nextPlaces", "(I)Z"⟩, 56) := ⟨⟨by decide +kernel, by decide +kernel⟩, List.mem_of_getElem? (i := 755) (by decide +kernel), List.mem_of_getElem? (i := 1063) (by decide +kernel), List.mem_of_getElem? (i := 1064) (by decide +kernel)⟩
theorem lw_p40 : lw_okq (⟨"AdapterBenchModel", "fitsAt", "(II)I"⟩, 56) := ⟨⟨by decide +kernel, by decide +kernel⟩, List.mem_of_getElem? (i := 755) (by decide +kernel), List.mem_of_getElem? (i := 1071) (by decide +kernel), List.mem_of_getElem? (i := 1072) (by decide +kernel)⟩
theorem lw_p41 : lw_okq (⟨"AdapterBenchModel", "findWay", "(II)I"⟩, 56) := ⟨⟨by decide +kernel, by decide +kernel⟩, List.mem_of_getElem? (i := 755) (by decide +kernel), List.mem_of_getElem? (i := 1083) (by decide +kernel), List.mem_of_getElem? (i := 1084) (by decide +kernel)⟩
theorem lw_p42 : lw_okq (⟨"AdapterBenchModel", "isWayAhead", "(III)Z"⟩, 56) := ⟨⟨by decide +kernel, by decide +kernel⟩, List.mem_of_getElem? (i := 755) (by decide +kernel), List.mem_of_getElem? (i := 1087) (by decide +kernel), List.mem_of_getElem? (i := 1088) (by decide +kernel)⟩
theorem lw_p43 : lw_okq (⟨"AdapterBenchModel", "link", "(I)Z"⟩, 56) := ⟨⟨by decide +kernel, by decide +kernel⟩, List.mem_of_getElem? (i := 755) (by decide +kernel), List.mem_of_getElem? (i := 1112) (by decide +kernel), List.mem_of_getElem? (i := 1113) (by decide +kernel)⟩
theorem lw_p44 : lw_okq (⟨"AdapterBenchModel", "callChain", "(I)I"⟩, 56) := ⟨⟨by decide +kernel, by decide +kernel⟩, List.mem_of_getElem? (i := 755) (by decide +kernel), List.mem_of_getElem? (i := 1116) (by decide +kernel), List.mem_of_getElem? (i := 1117) (by decide +kernel)⟩
theorem lw_p45 : lw_okq (⟨"AdapterBenchModel", "goIn", "(I)Z"⟩, 56) := ⟨⟨by decide +kernel, by decide +kernel⟩, List.mem_of_getElem? (i := 755) (by decide +kernel), List.mem_of_getElem? (i := 1120) (by decide +kernel), List.mem_of_getElem? (i := 1121) (by decide +kernel)⟩
theorem lw_p46 : lw_okq (⟨"AdapterBenchModel", "doWork", "(II)Z"⟩, 56) := ⟨⟨by decide +kernel, by decide +kernel⟩, List.mem_of_getElem? (i := 755) (by decide +kernel), List.mem_of_getElem? (i := 1124) (by decide +kernel), List.mem_of_getElem? (i := 1125) (by decide +kernel)⟩
theorem lw_p47 : lw_okq (⟨"AdapterBenchModel", "plus", "(J)Z"⟩, 56) := ⟨⟨by decide +kernel, by decide +kernel⟩, List.mem_of_getElem? (i := 755) (by decide +kernel), List.mem_of_getElem? (i := 1128) (by decide +kernel), List.mem_of_getElem? (i := 1129) (by decide +kernel)⟩
def lw_privs_3 : List (MethodName × Nat) := [(⟨"AdapterBenchModel", "turnIt", "(IIJI)Z"⟩, 56), (⟨"AdapterBenchModel", "apply", "(IJ)Z"⟩, 56), (⟨"AdapterBenchModel", "add", "(III)I"⟩, 56), (⟨"AdapterBenchModel", "isMember", "(II)Z"⟩, 56), (⟨"AdapterBenchModel", "findFit", "(II)Z"⟩, 56), (⟨"AdapterBenchModel", "serve", "(II)I"⟩, 56), (⟨"AdapterBenchModel", "costOf", "(II)I"⟩, 56), (⟨"AdapterBenchModel", "nextPlaces", "(I)Z"⟩, 56), (⟨"AdapterBenchModel", "fitsAt", "(II)I"⟩, 56), (⟨"AdapterBenchModel", "findWay", "(II)I"⟩, 56), (⟨"AdapterBenchModel", "isWayAhead", "(III)Z"⟩, 56), (⟨"AdapterBenchModel", "link", "(I)Z"⟩, 56), (⟨"AdapterBenchModel", "callChain", "(I)I"⟩, 56), (⟨"AdapterBenchModel", "goIn", "(I)Z"⟩, 56), (⟨"AdapterBenchModel", "doWork", "(II)Z"⟩, 56), (⟨"AdapterBenchModel", "plus", "(J)Z"⟩, 56)]
theorem lw_r3 : ∀ q ∈ lw_privs_3, lw_okq q := List.forall_mem_cons.mpr ⟨lw_p32, List.forall_mem_cons.mpr ⟨lw_p33, List.forall_mem_cons.mpr ⟨lw_p34, List.forall_mem_cons.mpr ⟨lw_p35, List.forall_mem_cons.mpr ⟨lw_p36, List.forall_mem_cons.mpr ⟨lw_p37, List.forall_mem_cons.mpr ⟨lw_p38, List.forall_mem_cons.mpr ⟨lw_p39, List.forall_mem_cons.mpr ⟨lw_p40, List.forall_mem_cons.mpr ⟨lw_p41, List.forall_mem_cons.mpr ⟨lw_p42, List.forall_mem_cons.mpr ⟨lw_p43, List.forall_mem_cons.mpr ⟨lw_p44, List.forall_mem_cons.mpr ⟨lw_p45, List.forall_mem_cons.mpr ⟨lw_p46, List.forall_mem_cons.mpr ⟨lw_p47, fun _ h => absurd h List.not_mem_nil⟩⟩⟩⟩⟩⟩⟩⟩⟩⟩⟩⟩⟩⟩⟩⟩
theorem lw_p48 : lw_okq (⟨"AdapterBenchModel", "counted", "(I)I"⟩, 56) := ⟨⟨by decide +kernel, by decide +kernel⟩, List.mem_of_getElem? (i := 755) (by decide +kernel), List.mem_of_getElem? (i := 1132) (by decide +kernel), List.mem_of_getElem? (i := 1133) (by decide +kernel)⟩
def lw_privs_4 : List (MethodName × Nat) := [(⟨"AdapterBenchModel", "counted", "(I)I"⟩, 56)]
theorem lw_r4 : ∀ q ∈ lw_privs_4, lw_okq q := List.forall_mem_cons.mpr ⟨lw_p48, fun _ h => absurd h List.not_mem_nil⟩
def lw_privs : List (MethodName × Nat) := lw_privs_1 ++ (lw_privs_2 ++ (lw_privs_3 ++ (lw_privs_4)))
def lw_tbl : List Cond := k2_sels lw_privs ++ tables_1
theorem lw_privs_ok : ∀ q ∈ lw_privs, lw_okq q := by
  show ∀ q ∈ lw_privs_1 ++ (lw_privs_2 ++ (lw_privs_3 ++ (lw_privs_4))), lw_okq q
  exact List.forall_mem_append.mpr ⟨lw_r1, List.forall_mem_append.mpr ⟨lw_r2, List.forall_mem_append.mpr ⟨lw_r3, lw_r4⟩⟩⟩
end
section
def RX0 : String := "AdapterBench$Aliases"
def TX0 : u_T := fun k => match k with
  | 0 => ("AdapterBench$Aliases", "pairs", "[I", true)
  | _ => ("AdapterBench$Aliases", "size", "I", false)
def tyX0 : Nat → FieldType := fun k => match k with
  | 0 => .array .int
  | _ => .int
abbrev wsX00 : List Cond := u_ws RX0 TX0 2
theorem nmX0 : ∀ a, a < 2 → ∀ b, b < 2 → a ≠ b → (TX0 a).2.1 ≠ (TX0 b).2.1 := by decide +kernel
theorem tyX0_ok : ∀ k, k < 2 → parseFieldDescriptor (TX0 k).2.2.1 = some (tyX0 k) := by decide +kernel
abbrev cX0_init : ByteArray := prog_2_method_1_code
def yX0_init : MethodName := ⟨RX0, "<init>", "()V"⟩
abbrev cX0_has : ByteArray := prog_2_method_2_code
def yX0_has : MethodName := ⟨RX0, "has", "(II)Z"⟩
abbrev cX0_add : ByteArray := prog_2_method_3_code
def yX0_add : MethodName := ⟨RX0, "add", "(II)Z"⟩
abbrev cX0_remove : ByteArray := prog_2_method_4_code
def yX0_remove : MethodName := ⟨RX0, "remove", "(II)Z"⟩
abbrev cX0_placeOf : ByteArray := prog_2_method_5_code
def yX0_placeOf : MethodName := ⟨RX0, "placeOf", "(II)I"⟩
def RX1 : String := "AdapterBench$Caller"
def TX1 : u_T := fun k => match k with
  | 0 => ("AdapterBench$Caller", "rules", "LAdapterBench$Rules;", true)
  | 1 => ("AdapterBench$Caller", "constants", "LAdapterBench$Constants;", true)
  | 2 => ("AdapterBench$Caller", "fitter", "LAdapterBench$Fitter;", true)
  | 3 => ("AdapterBench$Caller", "latest", "LAdapterBench$Latest;", true)
  | 4 => ("AdapterBench$Caller", "inHand", "[J", true)
  | 5 => ("AdapterBench$Caller", "chain", "[LAdapterBench$Member;", true)
  | 6 => ("AdapterBench$Caller", "places", "[I", true)
  | 7 => ("AdapterBench$Caller", "links", "I", false)
  | 8 => ("AdapterBench$Caller", "arguments", "[J", false)
  | 9 => ("AdapterBench$Caller", "turned", "[J", false)
  | _ => ("AdapterBench$Caller", "result", "J", false)
def tyX1 : Nat → FieldType := fun k => match k with
  | 0 => .object "AdapterBench$Rules"
  | 1 => .object "AdapterBench$Constants"
  | 2 => .object "AdapterBench$Fitter"
  | 3 => .object "AdapterBench$Latest"
  | 4 => .array .long
  | 5 => .array (.object "AdapterBench$Member")
  | 6 => .array .int
  | 7 => .int
  | 8 => .array .long
  | 9 => .array .long
  | _ => .long
abbrev wsX10 : List Cond := u_ws RX1 TX1 11
theorem nmX1 : ∀ a, a < 11 → ∀ b, b < 11 → a ≠ b → (TX1 a).2.1 ≠ (TX1 b).2.1 := by decide +kernel
theorem tyX1_ok : ∀ k, k < 11 → parseFieldDescriptor (TX1 k).2.2.1 = some (tyX1 k) := by decide +kernel
abbrev cX1_init : ByteArray := prog_3_method_1_code
def yX1_init : MethodName := ⟨RX1, "<init>", "(LAdapterBench$Rules;LAdapterBench$Constants;LAdapterBench$Fitter;LAdapterBench$Latest;)V"⟩
abbrev cX1_begin : ByteArray := prog_3_method_2_code
def yX1_begin : MethodName := ⟨RX1, "begin", "(LAdapterBench$Member;)V"⟩
abbrev cX1_link : ByteArray := prog_3_method_3_code
def yX1_link : MethodName := ⟨RX1, "link", "(LAdapterBench$Shape;)Z"⟩
abbrev cX1_perform : ByteArray := prog_3_method_4_code
def yX1_perform : MethodName := ⟨RX1, "perform", "([JI)Z"⟩
abbrev cX1_takeHand : ByteArray := prog_3_method_5_code
def yX1_takeHand : MethodName := ⟨RX1, "takeHand", "()Z"⟩
abbrev cX1_passIn : ByteArray := prog_3_method_6_code
def yX1_passIn : MethodName := ⟨RX1, "passIn", "()Z"⟩
abbrev cX1_passTo : ByteArray := prog_3_method_7_code
def yX1_passTo : MethodName := ⟨RX1, "passTo", "(I)Z"⟩
abbrev cX1_doWork : ByteArray := prog_3_method_8_code
def yX1_doWork : MethodName := ⟨RX1, "doWork", "([JI)Z"⟩
abbrev cX1_giveIfOf : ByteArray := prog_3_method_9_code
def yX1_giveIfOf : MethodName := ⟨RX1, "giveIfOf", "(LAdapterBench$Member;J)Z"⟩
abbrev cX1_addUp : ByteArray := prog_3_method_10_code
def yX1_addUp : MethodName := ⟨RX1, "addUp", "(LAdapterBench$Member;)Z"⟩
abbrev cX1_addField : ByteArray := prog_3_method_11_code
def yX1_addField : MethodName := ⟨RX1, "addField", "(LAdapterBench$Member;[JI)Z"⟩
abbrev cX1_addTo : ByteArray := prog_3_method_12_code
def yX1_addTo : MethodName := ⟨RX1, "addTo", "(J)Z"⟩
abbrev cX1_writeField : ByteArray := prog_3_method_13_code
def yX1_writeField : MethodName := ⟨RX1, "writeField", "(LAdapterBench$Member;[JI)Z"⟩
abbrev cX1_passBack : ByteArray := prog_3_method_14_code
def yX1_passBack : MethodName := ⟨RX1, "passBack", "()Z"⟩
def RX2 : String := "AdapterBench$Constants"
def TX2 : u_T := fun k => match k with
  | 0 => ("AdapterBench$Constants", "there", "[Z", true)
  | _ => ("AdapterBench$Constants", "values", "[J", true)
def tyX2 : Nat → FieldType := fun k => match k with
  | 0 => .array .boolean
  | _ => .array .long
abbrev wsX20 : List Cond := u_ws RX2 TX2 2
theorem nmX2 : ∀ a, a < 2 → ∀ b, b < 2 → a ≠ b → (TX2 a).2.1 ≠ (TX2 b).2.1 := by decide +kernel
theorem tyX2_ok : ∀ k, k < 2 → parseFieldDescriptor (TX2 k).2.2.1 = some (tyX2 k) := by decide +kernel
abbrev cX2_init : ByteArray := prog_4_method_1_code
def yX2_init : MethodName := ⟨RX2, "<init>", "()V"⟩
abbrev cX2_held : ByteArray := prog_4_method_2_code
def yX2_held : MethodName := ⟨RX2, "held", "()I"⟩
def RX3 : String := "AdapterBench$Fitter"
def TX3 : u_T := fun k => match k with
  | 0 => ("AdapterBench$Fitter", "rules", "LAdapterBench$Rules;", true)
  | 1 => ("AdapterBench$Fitter", "aliases", "LAdapterBench$Aliases;", true)
  | 2 => ("AdapterBench$Fitter", "constants", "LAdapterBench$Constants;", true)
  | 3 => ("AdapterBench$Fitter", "trial", "[I", true)
  | 4 => ("AdapterBench$Fitter", "cost", "I", false)
  | 5 => ("AdapterBench$Fitter", "server", "I", false)
  | _ => ("AdapterBench$Fitter", "places", "[I", true)
def tyX3 : Nat → FieldType := fun k => match k with
  | 0 => .object "AdapterBench$Rules"
  | 1 => .object "AdapterBench$Aliases"
  | 2 => .object "AdapterBench$Constants"
  | 3 => .array .int
  | 4 => .int
  | 5 => .int
  | _ => .array .int
abbrev wsX30 : List Cond := u_ws RX3 TX3 7
theorem nmX3 : ∀ a, a < 7 → ∀ b, b < 7 → a ≠ b → (TX3 a).2.1 ≠ (TX3 b).2.1 := by decide +kernel
theorem tyX3_ok : ∀ k, k < 7 → parseFieldDescriptor (TX3 k).2.2.1 = some (tyX3 k) := by decide +kernel
abbrev cX3_init : ByteArray := prog_5_method_1_code
def yX3_init : MethodName := ⟨RX3, "<init>", "(LAdapterBench$Rules;LAdapterBench$Aliases;LAdapterBench$Constants;)V"⟩
abbrev cX3_find : ByteArray := prog_5_method_2_code
def yX3_find : MethodName := ⟨RX3, "find", "(LAdapterBench$Member;LAdapterBench$Shape;)Z"⟩
abbrev cX3_costOfAll : ByteArray := prog_5_method_3_code
def yX3_costOfAll : MethodName := ⟨RX3, "costOfAll", "(LAdapterBench$Shape;LAdapterBench$Shape;)I"⟩
abbrev cX3_firstGap : ByteArray := prog_5_method_4_code
def yX3_firstGap : MethodName := ⟨RX3, "firstGap", "(LAdapterBench$Shape;LAdapterBench$Shape;)I"⟩
abbrev cX3_startOf : ByteArray := prog_5_method_5_code
def yX3_startOf : MethodName := ⟨RX3, "startOf", "(LAdapterBench$Member;LAdapterBench$Member;)I"⟩
abbrev cX3_assign : ByteArray := prog_5_method_6_code
def yX3_assign : MethodName := ⟨RX3, "assign", "(LAdapterBench$Member;LAdapterBench$Member;III)Z"⟩
abbrev cX3_take : ByteArray := prog_5_method_7_code
def yX3_take : MethodName := ⟨RX3, "take", "(LAdapterBench$Member;LAdapterBench$Member;IIII)Z"⟩
abbrev cX3_settle : ByteArray := prog_5_method_8_code
def yX3_settle : MethodName := ⟨RX3, "settle", "(I)Z"⟩
def RX4 : String := "AdapterBench$Latest"
def TX4 : u_T := fun k => match k with
  | 0 => ("AdapterBench$Latest", "made", "J", false)
  | 1 => ("AdapterBench$Latest", "where", "I", false)
  | 2 => ("AdapterBench$Latest", "rule", "I", false)
  | 3 => ("AdapterBench$Latest", "callsDone", "I", false)
  | _ => ("AdapterBench$Latest", "callsFailed", "I", false)
def tyX4 : Nat → FieldType := fun k => match k with
  | 0 => .long
  | 1 => .int
  | 2 => .int
  | 3 => .int
  | _ => .int
abbrev wsX40 : List Cond := u_ws RX4 TX4 5
theorem nmX4 : ∀ a, a < 5 → ∀ b, b < 5 → a ≠ b → (TX4 a).2.1 ≠ (TX4 b).2.1 := by decide +kernel
theorem tyX4_ok : ∀ k, k < 5 → parseFieldDescriptor (TX4 k).2.2.1 = some (tyX4 k) := by decide +kernel
abbrev cX4_init : ByteArray := prog_6_method_1_code
def yX4_init : MethodName := ⟨RX4, "<init>", "()V"⟩
abbrev cX4_noteFailure : ByteArray := prog_6_method_2_code
def yX4_noteFailure : MethodName := ⟨RX4, "noteFailure", "(II)V"⟩
def RX5 : String := "AdapterBench$Member"
def TX5 : u_T := fun k => match k with
  | 0 => ("AdapterBench$Member", "name", "I", false)
  | 1 => ("AdapterBench$Member", "result", "I", false)
  | 2 => ("AdapterBench$Member", "arity", "I", false)
  | 3 => ("AdapterBench$Member", "sorts", "[I", true)
  | 4 => ("AdapterBench$Member", "kind", "I", false)
  | 5 => ("AdapterBench$Member", "part", "I", false)
  | 6 => ("AdapterBench$Member", "number", "I", false)
  | _ => ("AdapterBench$Member", "factors", "[I", true)
def tyX5 : Nat → FieldType := fun k => match k with
  | 0 => .int
  | 1 => .int
  | 2 => .int
  | 3 => .array .int
  | 4 => .int
  | 5 => .int
  | 6 => .int
  | _ => .array .int
abbrev wsX50 : List Cond := u_ws RX5 TX5 8
theorem nmX5 : ∀ a, a < 8 → ∀ b, b < 8 → a ≠ b → (TX5 a).2.1 ≠ (TX5 b).2.1 := by decide +kernel
theorem tyX5_ok : ∀ k, k < 8 → parseFieldDescriptor (TX5 k).2.2.1 = some (tyX5 k) := by decide +kernel
abbrev cX5_init : ByteArray := prog_7_method_1_code
def yX5_init : MethodName := ⟨RX5, "<init>", "()V"⟩
abbrev cX5_become : ByteArray := prog_7_method_2_code
def yX5_become : MethodName := ⟨RX5, "become", "(II)V"⟩
abbrev cX5_setWork : ByteArray := prog_7_method_3_code
def yX5_setWork : MethodName := ⟨RX5, "setWork", "(III)V"⟩
def RX6 : String := "AdapterBench$Rules"
def TX6 : u_T := fun k => match k with
  | 0 => ("AdapterBench$Rules", "from", "[I", true)
  | 1 => ("AdapterBench$Rules", "to", "[I", true)
  | 2 => ("AdapterBench$Rules", "cost", "[I", true)
  | 3 => ("AdapterBench$Rules", "by", "[I", true)
  | 4 => ("AdapterBench$Rules", "more", "[I", true)
  | 5 => ("AdapterBench$Rules", "there", "[Z", true)
  | 6 => ("AdapterBench$Rules", "told", "I", false)
  | 7 => ("AdapterBench$Rules", "held", "I", false)
  | 8 => ("AdapterBench$Rules", "weight", "[I", true)
  | 9 => ("AdapterBench$Rules", "first", "[I", true)
  | 10 => ("AdapterBench$Rules", "made", "J", false)
  | _ => ("AdapterBench$Rules", "broken", "I", false)
def tyX6 : Nat → FieldType := fun k => match k with
  | 0 => .array .int
  | 1 => .array .int
  | 2 => .array .int
  | 3 => .array .int
  | 4 => .array .int
  | 5 => .array .boolean
  | 6 => .int
  | 7 => .int
  | 8 => .array .int
  | 9 => .array .int
  | 10 => .long
  | _ => .int
abbrev wsX60 : List Cond := u_ws RX6 TX6 12
theorem nmX6 : ∀ a, a < 12 → ∀ b, b < 12 → a ≠ b → (TX6 a).2.1 ≠ (TX6 b).2.1 := by decide +kernel
theorem tyX6_ok : ∀ k, k < 12 → parseFieldDescriptor (TX6 k).2.2.1 = some (tyX6 k) := by decide +kernel
abbrev cX6_init : ByteArray := prog_8_method_1_code
def yX6_init : MethodName := ⟨RX6, "<init>", "()V"⟩
abbrev cX6_hasRoom : ByteArray := prog_8_method_2_code
def yX6_hasRoom : MethodName := ⟨RX6, "hasRoom", "()Z"⟩
abbrev cX6_tell : ByteArray := prog_8_method_3_code
def yX6_tell : MethodName := ⟨RX6, "tell", "(IIIII)I"⟩
abbrev cX6_canForget : ByteArray := prog_8_method_4_code
def yX6_canForget : MethodName := ⟨RX6, "canForget", "(I)Z"⟩
abbrev cX6_forget : ByteArray := prog_8_method_5_code
def yX6_forget : MethodName := ⟨RX6, "forget", "(I)V"⟩
abbrev cX6_costBetween : ByteArray := prog_8_method_6_code
def yX6_costBetween : MethodName := ⟨RX6, "costBetween", "(II)I"⟩
abbrev cX6_stepsBetween : ByteArray := prog_8_method_7_code
def yX6_stepsBetween : MethodName := ⟨RX6, "stepsBetween", "(II)I"⟩
abbrev cX6_stepAt : ByteArray := prog_8_method_8_code
def yX6_stepAt : MethodName := ⟨RX6, "stepAt", "(III)I"⟩
abbrev cX6_carry : ByteArray := prog_8_method_9_code
def yX6_carry : MethodName := ⟨RX6, "carry", "(IIJ)Z"⟩
abbrev cX6_follow : ByteArray := prog_8_method_10_code
def yX6_follow : MethodName := ⟨RX6, "follow", "(IJ)Z"⟩
abbrev cX6_keep : ByteArray := prog_8_method_11_code
def yX6_keep : MethodName := ⟨RX6, "keep", "(IIIII)V"⟩
abbrev cX6_measure : ByteArray := prog_8_method_12_code
def yX6_measure : MethodName := ⟨RX6, "measure", "()V"⟩
abbrev cX6_weightOf : ByteArray := prog_8_method_13_code
def yX6_weightOf : MethodName := ⟨RX6, "weightOf", "(I)I"⟩
abbrev cX6_shortenBy : ByteArray := prog_8_method_14_code
def yX6_shortenBy : MethodName := ⟨RX6, "shortenBy", "(I)V"⟩
abbrev cX6_firstOf : ByteArray := prog_8_method_15_code
def yX6_firstOf : MethodName := ⟨RX6, "firstOf", "(II)I"⟩
def RX7 : String := "AdapterBench$Shape"
def TX7 : u_T := fun k => match k with
  | 0 => ("AdapterBench$Shape", "members", "[LAdapterBench$Member;", true)
  | _ => ("AdapterBench$Shape", "size", "I", false)
def tyX7 : Nat → FieldType := fun k => match k with
  | 0 => .array (.object "AdapterBench$Member")
  | _ => .int
abbrev wsX70 : List Cond := u_ws RX7 TX7 2
theorem nmX7 : ∀ a, a < 2 → ∀ b, b < 2 → a ≠ b → (TX7 a).2.1 ≠ (TX7 b).2.1 := by decide +kernel
theorem tyX7_ok : ∀ k, k < 2 → parseFieldDescriptor (TX7 k).2.2.1 = some (tyX7 k) := by decide +kernel
abbrev cX7_init : ByteArray := prog_9_method_1_code
def yX7_init : MethodName := ⟨RX7, "<init>", "()V"⟩
abbrev cX7_has : ByteArray := prog_9_method_2_code
def yX7_has : MethodName := ⟨RX7, "has", "(I)Z"⟩
abbrev cX7_add : ByteArray := prog_9_method_3_code
def yX7_add : MethodName := ⟨RX7, "add", "(II)I"⟩
def RX8 : String := "AdapterBench$Things"
def TX8 : u_T := fun k => match k with
  | 0 => ("AdapterBench$Things", "classes", "[I", true)
  | 1 => ("AdapterBench$Things", "fields", "[J", true)
  | _ => ("AdapterBench$Things", "size", "I", false)
def tyX8 : Nat → FieldType := fun k => match k with
  | 0 => .array .int
  | 1 => .array .long
  | _ => .int
abbrev wsX80 : List Cond := u_ws RX8 TX8 3
theorem nmX8 : ∀ a, a < 3 → ∀ b, b < 3 → a ≠ b → (TX8 a).2.1 ≠ (TX8 b).2.1 := by decide +kernel
theorem tyX8_ok : ∀ k, k < 3 → parseFieldDescriptor (TX8 k).2.2.1 = some (tyX8 k) := by decide +kernel
abbrev cX8_init : ByteArray := prog_10_method_1_code
def yX8_init : MethodName := ⟨RX8, "<init>", "()V"⟩
abbrev cX8_has : ByteArray := prog_10_method_2_code
def yX8_has : MethodName := ⟨RX8, "has", "(I)Z"⟩
abbrev cX8_add : ByteArray := prog_10_method_3_code
def yX8_add : MethodName := ⟨RX8, "add", "(I)I"⟩
def RX9 : String := "AdapterBench$Ways"
def TX9 : u_T := fun k => match k with
  | 0 => ("AdapterBench$Ways", "fitter", "LAdapterBench$Fitter;", true)
  | 1 => ("AdapterBench$Ways", "shapes", "[LAdapterBench$Shape;", true)
  | 2 => ("AdapterBench$Ways", "weight", "[I", true)
  | 3 => ("AdapterBench$Ways", "left", "[I", true)
  | 4 => ("AdapterBench$Ways", "cost", "I", false)
  | 5 => ("AdapterBench$Ways", "length", "I", false)
  | _ => ("AdapterBench$Ways", "faces", "[I", true)
def tyX9 : Nat → FieldType := fun k => match k with
  | 0 => .object "AdapterBench$Fitter"
  | 1 => .array (.object "AdapterBench$Shape")
  | 2 => .array .int
  | 3 => .array .int
  | 4 => .int
  | 5 => .int
  | _ => .array .int
abbrev wsX90 : List Cond := u_ws RX9 TX9 7
theorem nmX9 : ∀ a, a < 7 → ∀ b, b < 7 → a ≠ b → (TX9 a).2.1 ≠ (TX9 b).2.1 := by decide +kernel
theorem tyX9_ok : ∀ k, k < 7 → parseFieldDescriptor (TX9 k).2.2.1 = some (tyX9 k) := by decide +kernel
abbrev cX9_init : ByteArray := prog_11_method_1_code
def yX9_init : MethodName := ⟨RX9, "<init>", "(LAdapterBench$Fitter;[LAdapterBench$Shape;)V"⟩
abbrev cX9_forgetAll : ByteArray := prog_11_method_2_code
def yX9_forgetAll : MethodName := ⟨RX9, "forgetAll", "()V"⟩
abbrev cX9_forgetFace : ByteArray := prog_11_method_3_code
def yX9_forgetFace : MethodName := ⟨RX9, "forgetFace", "(I)V"⟩
abbrev cX9_find : ByteArray := prog_11_method_4_code
def yX9_find : MethodName := ⟨RX9, "find", "(II)Z"⟩
abbrev cX9_weigh : ByteArray := prog_11_method_5_code
def yX9_weigh : MethodName := ⟨RX9, "weigh", "()V"⟩
abbrev cX9_measure : ByteArray := prog_11_method_6_code
def yX9_measure : MethodName := ⟨RX9, "measure", "(I)V"⟩
abbrev cX9_shorten : ByteArray := prog_11_method_7_code
def yX9_shorten : MethodName := ⟨RX9, "shorten", "(I)Z"⟩
abbrev cX9_nextOf : ByteArray := prog_11_method_8_code
def yX9_nextOf : MethodName := ⟨RX9, "nextOf", "(I)I"⟩
def RX10 : String := "AdapterBench"
def TX10 : u_T := fun k => match k with
  | 0 => ("AdapterBench", "rules", "LAdapterBench$Rules;", true)
  | 1 => ("AdapterBench", "aliases", "LAdapterBench$Aliases;", true)
  | 2 => ("AdapterBench", "constants", "LAdapterBench$Constants;", true)
  | 3 => ("AdapterBench", "fitter", "LAdapterBench$Fitter;", true)
  | 4 => ("AdapterBench", "shapes", "[LAdapterBench$Shape;", true)
  | 5 => ("AdapterBench", "ways", "LAdapterBench$Ways;", true)
  | 6 => ("AdapterBench", "things", "LAdapterBench$Things;", true)
  | 7 => ("AdapterBench", "latest", "LAdapterBench$Latest;", true)
  | _ => ("AdapterBench", "caller", "LAdapterBench$Caller;", true)
def tyX10 : Nat → FieldType := fun k => match k with
  | 0 => .object "AdapterBench$Rules"
  | 1 => .object "AdapterBench$Aliases"
  | 2 => .object "AdapterBench$Constants"
  | 3 => .object "AdapterBench$Fitter"
  | 4 => .array (.object "AdapterBench$Shape")
  | 5 => .object "AdapterBench$Ways"
  | 6 => .object "AdapterBench$Things"
  | 7 => .object "AdapterBench$Latest"
  | _ => .object "AdapterBench$Caller"
abbrev wsX100 : List Cond := u_ws RX10 TX10 9
theorem nmX10 : ∀ a, a < 9 → ∀ b, b < 9 → a ≠ b → (TX10 a).2.1 ≠ (TX10 b).2.1 := by decide +kernel
theorem tyX10_ok : ∀ k, k < 9 → parseFieldDescriptor (TX10 k).2.2.1 = some (tyX10 k) := by decide +kernel
abbrev cX10_init : ByteArray := prog_1_method_1_code
def yX10_init : MethodName := ⟨RX10, "<init>", "()V"⟩
abbrev cX10_rule : ByteArray := prog_1_method_2_code
def yX10_rule : MethodName := ⟨RX10, "rule", "(IIII)I"⟩
abbrev cX10_drop : ByteArray := prog_1_method_3_code
def yX10_drop : MethodName := ⟨RX10, "drop", "(I)I"⟩
abbrev cX10_turning : ByteArray := prog_1_method_4_code
def yX10_turning : MethodName := ⟨RX10, "turning", "(III)I"⟩
abbrev cX10_turn : ByteArray := prog_1_method_5_code
def yX10_turn : MethodName := ⟨RX10, "turn", "(IIJ)I"⟩
abbrev cX10_ask : ByteArray := prog_1_method_6_code
def yX10_ask : MethodName := ⟨RX10, "ask", "(III)I"⟩
abbrev cX10_offer : ByteArray := prog_1_method_7_code
def yX10_offer : MethodName := ⟨RX10, "offer", "(III)I"⟩
abbrev cX10_work : ByteArray := prog_1_method_8_code
def yX10_work : MethodName := ⟨RX10, "work", "(IIIII)I"⟩
abbrev cX10_times : ByteArray := prog_1_method_9_code
def yX10_times : MethodName := ⟨RX10, "times", "(IIII)I"⟩
abbrev cX10_strip : ByteArray := prog_1_method_10_code
def yX10_strip : MethodName := ⟨RX10, "strip", "(ZI)I"⟩
abbrev cX10_alias : ByteArray := prog_1_method_11_code
def yX10_alias : MethodName := ⟨RX10, "alias", "(IIZ)Z"⟩
abbrev cX10_constant : ByteArray := prog_1_method_12_code
def yX10_constant : MethodName := ⟨RX10, "constant", "(IZJ)I"⟩
abbrev cX10_fit : ByteArray := prog_1_method_13_code
def yX10_fit : MethodName := ⟨RX10, "fit", "(IIII)I"⟩
abbrev cX10_fits : ByteArray := prog_1_method_14_code
def yX10_fits : MethodName := ⟨RX10, "fits", "(II)I"⟩
abbrev cX10_gap : ByteArray := prog_1_method_15_code
def yX10_gap : MethodName := ⟨RX10, "gap", "(II)I"⟩
abbrev cX10_way : ByteArray := prog_1_method_16_code
def yX10_way : MethodName := ⟨RX10, "way", "(III)I"⟩
abbrev cX10_object : ByteArray := prog_1_method_17_code
def yX10_object : MethodName := ⟨RX10, "object", "(I)I"⟩
abbrev cX10_put : ByteArray := prog_1_method_18_code
def yX10_put : MethodName := ⟨RX10, "put", "(IIJ)I"⟩
abbrev cX10_field : ByteArray := prog_1_method_19_code
def yX10_field : MethodName := ⟨RX10, "field", "(II)J"⟩
abbrev cX10_hand : ByteArray := prog_1_method_20_code
def yX10_hand : MethodName := ⟨RX10, "hand", "(IJ)I"⟩
abbrev cX10_call : ByteArray := prog_1_method_21_code
def yX10_call : MethodName := ⟨RX10, "call", "(III)I"⟩
abbrev cX10_through : ByteArray := prog_1_method_22_code
def yX10_through : MethodName := ⟨RX10, "through", "(IIII)I"⟩
abbrev cX10_value : ByteArray := prog_1_method_23_code
def yX10_value : MethodName := ⟨RX10, "value", "()J"⟩
abbrev cX10_failed : ByteArray := prog_1_method_24_code
def yX10_failed : MethodName := ⟨RX10, "failed", "(I)I"⟩
abbrev cX10_count : ByteArray := prog_1_method_25_code
def yX10_count : MethodName := ⟨RX10, "count", "(I)I"⟩
abbrev cX10_finish : ByteArray := prog_1_method_26_code
def yX10_finish : MethodName := ⟨RX10, "finish", "(I)I"⟩
abbrev cX10_membersOf : ByteArray := prog_1_method_27_code
def yX10_membersOf : MethodName := ⟨RX10, "membersOf", "(II)I"⟩
abbrev cX10_isWithin : ByteArray := prog_1_method_28_code
def yX10_isWithin : MethodName := ⟨RX10, "isWithin", "(III)Z"⟩
abbrev cX10_isSort : ByteArray := prog_1_method_29_code
def yX10_isSort : MethodName := ⟨RX10, "isSort", "(I)Z"⟩
abbrev cX10_isName : ByteArray := prog_1_method_30_code
def yX10_isName : MethodName := ⟨RX10, "isName", "(I)Z"⟩
abbrev cX10_areFaces : ByteArray := prog_1_method_31_code
def yX10_areFaces : MethodName := ⟨RX10, "areFaces", "(II)Z"⟩
abbrev cX10_areFaceAndShape : ByteArray := prog_1_method_32_code
def yX10_areFaceAndShape : MethodName := ⟨RX10, "areFaceAndShape", "(II)Z"⟩
abbrev cX10_areSorts : ByteArray := prog_1_method_33_code
def yX10_areSorts : MethodName := ⟨RX10, "areSorts", "(I)Z"⟩
abbrev cX10_isOf : ByteArray := prog_1_method_34_code
def yX10_isOf : MethodName := ⟨RX10, "isOf", "(IJ)Z"⟩
abbrev cX10_staysIn64 : ByteArray := prog_1_method_35_code
def yX10_staysIn64 : MethodName := ⟨RX10, "staysIn64", "(JII)Z"⟩
abbrev cX10_sumStaysIn64 : ByteArray := prog_1_method_36_code
def yX10_sumStaysIn64 : MethodName := ⟨RX10, "sumStaysIn64", "(JJ)Z"⟩
def RX11 : String := "AdapterBenchModel"
def TX11 : u_T := fun k => match k with
  | 0 => ("AdapterBenchModel", "thrown", "I", false)
  | 1 => ("AdapterBenchModel", "rules", "I", false)
  | 2 => ("AdapterBenchModel", "ruleFrom", "[I", true)
  | 3 => ("AdapterBenchModel", "ruleTo", "[I", true)
  | 4 => ("AdapterBenchModel", "ruleCost", "[I", true)
  | 5 => ("AdapterBenchModel", "ruleTimes", "[I", true)
  | 6 => ("AdapterBenchModel", "rulePlus", "[I", true)
  | 7 => ("AdapterBenchModel", "isRule", "[Z", true)
  | 8 => ("AdapterBenchModel", "members", "[I", true)
  | 9 => ("AdapterBenchModel", "names", "[I", true)
  | 10 => ("AdapterBenchModel", "many", "[I", true)
  | 11 => ("AdapterBenchModel", "sorts", "[I", true)
  | 12 => ("AdapterBenchModel", "results", "[I", true)
  | 13 => ("AdapterBenchModel", "works", "[I", true)
  | 14 => ("AdapterBenchModel", "workField", "[I", true)
  | 15 => ("AdapterBenchModel", "workNumber", "[I", true)
  | 16 => ("AdapterBenchModel", "workTimes", "[I", true)
  | 17 => ("AdapterBenchModel", "aliases", "[Z", true)
  | 18 => ("AdapterBenchModel", "aliasMany", "I", false)
  | 19 => ("AdapterBenchModel", "hasConstant", "[Z", true)
  | 20 => ("AdapterBenchModel", "constants", "[J", true)
  | 21 => ("AdapterBenchModel", "objects", "I", false)
  | 22 => ("AdapterBenchModel", "classOf", "[I", true)
  | 23 => ("AdapterBenchModel", "fields", "[J", true)
  | 24 => ("AdapterBenchModel", "inHand", "[J", true)
  | 25 => ("AdapterBenchModel", "value", "J", false)
  | 26 => ("AdapterBenchModel", "hasFailed", "Z", false)
  | 27 => ("AdapterBenchModel", "failedWhere", "I", false)
  | 28 => ("AdapterBenchModel", "failedRule", "I", false)
  | 29 => ("AdapterBenchModel", "callsDone", "I", false)
  | 30 => ("AdapterBenchModel", "callsFailed", "I", false)
  | 31 => ("AdapterBenchModel", "made", "J", false)
  | 32 => ("AdapterBenchModel", "turnCost", "[I", true)
  | 33 => ("AdapterBenchModel", "turnMany", "[I", true)
  | 34 => ("AdapterBenchModel", "turnRules", "[I", true)
  | 35 => ("AdapterBenchModel", "stepCost", "[I", true)
  | 36 => ("AdapterBenchModel", "stepRules", "[I", true)
  | 37 => ("AdapterBenchModel", "turned", "J", false)
  | 38 => ("AdapterBenchModel", "places", "[I", true)
  | 39 => ("AdapterBenchModel", "bestPlaces", "[I", true)
  | 40 => ("AdapterBenchModel", "bestCost", "I", false)
  | 41 => ("AdapterBenchModel", "fitCost", "I", false)
  | 42 => ("AdapterBenchModel", "fitMember", "I", false)
  | 43 => ("AdapterBenchModel", "fitPlaces", "[I", true)
  | 44 => ("AdapterBenchModel", "wayCost", "[I", true)
  | 45 => ("AdapterBenchModel", "wayFaces", "[I", true)
  | 46 => ("AdapterBenchModel", "steps", "[I", true)
  | 47 => ("AdapterBenchModel", "wayMany", "I", false)
  | 48 => ("AdapterBenchModel", "theWay", "[I", true)
  | 49 => ("AdapterBenchModel", "chain", "I", false)
  | 50 => ("AdapterBenchModel", "called", "[I", true)
  | 51 => ("AdapterBenchModel", "chainPlaces", "[I", true)
  | 52 => ("AdapterBenchModel", "arguments", "[J", true)
  | 53 => ("AdapterBenchModel", "turnedArguments", "[J", true)
  | 54 => ("AdapterBenchModel", "result", "J", false)
  | _ => ("AdapterBenchModel", "sum", "J", false)
def tyX11 : Nat → FieldType := fun k => match k with
  | 0 => .int
  | 1 => .int
  | 2 => .array .int
  | 3 => .array .int
  | 4 => .array .int
  | 5 => .array .int
  | 6 => .array .int
  | 7 => .array .boolean
  | 8 => .array .int
  | 9 => .array .int
  | 10 => .array .int
  | 11 => .array .int
  | 12 => .array .int
  | 13 => .array .int
  | 14 => .array .int
  | 15 => .array .int
  | 16 => .array .int
  | 17 => .array .boolean
  | 18 => .int
  | 19 => .array .boolean
  | 20 => .array .long
  | 21 => .int
  | 22 => .array .int
  | 23 => .array .long
  | 24 => .array .long
  | 25 => .long
  | 26 => .boolean
  | 27 => .int
  | 28 => .int
  | 29 => .int
  | 30 => .int
  | 31 => .long
  | 32 => .array .int
  | 33 => .array .int
  | 34 => .array .int
  | 35 => .array .int
  | 36 => .array .int
  | 37 => .long
  | 38 => .array .int
  | 39 => .array .int
  | 40 => .int
  | 41 => .int
  | 42 => .int
  | 43 => .array .int
  | 44 => .array .int
  | 45 => .array .int
  | 46 => .array .int
  | 47 => .int
  | 48 => .array .int
  | 49 => .int
  | 50 => .array .int
  | 51 => .array .int
  | 52 => .array .long
  | 53 => .array .long
  | 54 => .long
  | _ => .long
abbrev wsX110 : List Cond := u_ws RX11 TX11 56
theorem nmX11 : ∀ a, a < 56 → ∀ b, b < 56 → a ≠ b → (TX11 a).2.1 ≠ (TX11 b).2.1 := by decide +kernel
theorem tyX11_ok : ∀ k, k < 56 → parseFieldDescriptor (TX11 k).2.2.1 = some (tyX11 k) := by decide +kernel
abbrev cX11_init : ByteArray := prog_13_method_1_code
def yX11_init : MethodName := ⟨RX11, "<init>", "()V"⟩
abbrev cX11_base : ByteArray := prog_13_method_2_code
def yX11_base : MethodName := ⟨RX11, "base", "(III)V"⟩
abbrev cX11_in : ByteArray := prog_13_method_4_code
def yX11_in : MethodName := ⟨RX11, "in", "(JJJ)Z"⟩
abbrev cX11_isOf : ByteArray := prog_13_method_5_code
def yX11_isOf : MethodName := ⟨RX11, "isOf", "(IJ)Z"⟩
abbrev cX11_rule : ByteArray := prog_13_method_6_code
def yX11_rule : MethodName := ⟨RX11, "rule", "(IIII)I"⟩
abbrev cX11_drop : ByteArray := prog_13_method_7_code
def yX11_drop : MethodName := ⟨RX11, "drop", "(I)I"⟩
abbrev cX11_apply : ByteArray := prog_13_method_8_code
def yX11_apply : MethodName := ⟨RX11, "apply", "(IJ)Z"⟩
abbrev cX11_isAhead : ByteArray := prog_13_method_9_code
def yX11_isAhead : MethodName := ⟨RX11, "isAhead", "(IIII)Z"⟩
abbrev cX11_turningsFrom : ByteArray := prog_13_method_10_code
def yX11_turningsFrom : MethodName := ⟨RX11, "turningsFrom", "(I)V"⟩
abbrev cX11_measure : ByteArray := prog_13_method_11_code
def yX11_measure : MethodName := ⟨RX11, "measure", "()V"⟩
abbrev cX11_turning : ByteArray := prog_13_method_12_code
def yX11_turning : MethodName := ⟨RX11, "turning", "(III)I"⟩
abbrev cX11_fail : ByteArray := prog_13_method_13_code
def yX11_fail : MethodName := ⟨RX11, "fail", "(II)V"⟩
abbrev cX11_turnIt : ByteArray := prog_13_method_14_code
def yX11_turnIt : MethodName := ⟨RX11, "turnIt", "(IIJI)Z"⟩
abbrev cX11_turn : ByteArray := prog_13_method_15_code
def yX11_turn : MethodName := ⟨RX11, "turn", "(IIJ)I"⟩
abbrev cX11_add : ByteArray := prog_13_method_16_code
def yX11_add : MethodName := ⟨RX11, "add", "(III)I"⟩
abbrev cX11_ask : ByteArray := prog_13_method_17_code
def yX11_ask : MethodName := ⟨RX11, "ask", "(III)I"⟩
abbrev cX11_offer : ByteArray := prog_13_method_18_code
def yX11_offer : MethodName := ⟨RX11, "offer", "(III)I"⟩
abbrev cX11_isMember : ByteArray := prog_13_method_19_code
def yX11_isMember : MethodName := ⟨RX11, "isMember", "(II)Z"⟩
abbrev cX11_work : ByteArray := prog_13_method_20_code
def yX11_work : MethodName := ⟨RX11, "work", "(IIIII)I"⟩
abbrev cX11_times : ByteArray := prog_13_method_21_code
def yX11_times : MethodName := ⟨RX11, "times", "(IIII)I"⟩
abbrev cX11_strip : ByteArray := prog_13_method_22_code
def yX11_strip : MethodName := ⟨RX11, "strip", "(ZI)I"⟩
abbrev cX11_alias : ByteArray := prog_13_method_23_code
def yX11_alias : MethodName := ⟨RX11, "alias", "(IIZ)Z"⟩
abbrev cX11_constant : ByteArray := prog_13_method_24_code
def yX11_constant : MethodName := ⟨RX11, "constant", "(IZJ)I"⟩
abbrev cX11_costOf : ByteArray := prog_13_method_25_code
def yX11_costOf : MethodName := ⟨RX11, "costOf", "(II)I"⟩
abbrev cX11_nextPlaces : ByteArray := prog_13_method_26_code
def yX11_nextPlaces : MethodName := ⟨RX11, "nextPlaces", "(I)Z"⟩
abbrev cX11_serve : ByteArray := prog_13_method_27_code
def yX11_serve : MethodName := ⟨RX11, "serve", "(II)I"⟩
abbrev cX11_findFit : ByteArray := prog_13_method_28_code
def yX11_findFit : MethodName := ⟨RX11, "findFit", "(II)Z"⟩
abbrev cX11_fit : ByteArray := prog_13_method_29_code
def yX11_fit : MethodName := ⟨RX11, "fit", "(IIII)I"⟩
abbrev cX11_fitsAt : ByteArray := prog_13_method_30_code
def yX11_fitsAt : MethodName := ⟨RX11, "fitsAt", "(II)I"⟩
abbrev cX11_fits : ByteArray := prog_13_method_31_code
def yX11_fits : MethodName := ⟨RX11, "fits", "(II)I"⟩
abbrev cX11_gap : ByteArray := prog_13_method_32_code
def yX11_gap : MethodName := ⟨RX11, "gap", "(II)I"⟩
abbrev cX11_isWayAhead : ByteArray := prog_13_method_33_code
def yX11_isWayAhead : MethodName := ⟨RX11, "isWayAhead", "(III)Z"⟩
abbrev cX11_findWay : ByteArray := prog_13_method_34_code
def yX11_findWay : MethodName := ⟨RX11, "findWay", "(II)I"⟩
abbrev cX11_way : ByteArray := prog_13_method_35_code
def yX11_way : MethodName := ⟨RX11, "way", "(III)I"⟩
abbrev cX11_object : ByteArray := prog_13_method_36_code
def yX11_object : MethodName := ⟨RX11, "object", "(I)I"⟩
abbrev cX11_put : ByteArray := prog_13_method_37_code
def yX11_put : MethodName := ⟨RX11, "put", "(IIJ)I"⟩
abbrev cX11_field : ByteArray := prog_13_method_38_code
def yX11_field : MethodName := ⟨RX11, "field", "(II)J"⟩
abbrev cX11_hand : ByteArray := prog_13_method_39_code
def yX11_hand : MethodName := ⟨RX11, "hand", "(IJ)I"⟩
abbrev cX11_link : ByteArray := prog_13_method_40_code
def yX11_link : MethodName := ⟨RX11, "link", "(I)Z"⟩
abbrev cX11_goIn : ByteArray := prog_13_method_41_code
def yX11_goIn : MethodName := ⟨RX11, "goIn", "(I)Z"⟩
abbrev cX11_plus : ByteArray := prog_13_method_42_code
def yX11_plus : MethodName := ⟨RX11, "plus", "(J)Z"⟩
abbrev cX11_doWork : ByteArray := prog_13_method_43_code
def yX11_doWork : MethodName := ⟨RX11, "doWork", "(II)Z"⟩
abbrev cX11_callChain : ByteArray := prog_13_method_44_code
def yX11_callChain : MethodName := ⟨RX11, "callChain", "(I)I"⟩
abbrev cX11_counted : ByteArray := prog_13_method_45_code
def yX11_counted : MethodName := ⟨RX11, "counted", "(I)I"⟩
abbrev cX11_call : ByteArray := prog_13_method_46_code
def yX11_call : MethodName := ⟨RX11, "call", "(III)I"⟩
abbrev cX11_through : ByteArray := prog_13_method_47_code
def yX11_through : MethodName := ⟨RX11, "through", "(IIII)I"⟩
abbrev cX11_value : ByteArray := prog_13_method_48_code
def yX11_value : MethodName := ⟨RX11, "value", "()J"⟩
abbrev cX11_failed : ByteArray := prog_13_method_49_code
def yX11_failed : MethodName := ⟨RX11, "failed", "(I)I"⟩
abbrev cX11_count : ByteArray := prog_13_method_50_code
def yX11_count : MethodName := ⟨RX11, "count", "(I)I"⟩
def RJ6 : String := "java/lang/Integer"
abbrev cJ6_bitCount_0f7a4 : ByteArray := prog_14_method_49_code
def yJ6_bitCount_0f7a4 : MethodName := ⟨RJ6, "bitCount", "(I)I"⟩
def RJ13 : String := "java/lang/Long"
abbrev cJ13_compare_74951 : ByteArray := prog_15_method_42_code
def yJ13_compare_74951 : MethodName := ⟨RJ13, "compare", "(JJ)I"⟩
abbrev cJ13_compareUnsigned_74951 : ByteArray := prog_15_method_43_code
def yJ13_compareUnsigned_74951 : MethodName := ⟨RJ13, "compareUnsigned", "(JJ)I"⟩
def RJ9 : String := "java/lang/Math"
abbrev cJ9_multiplyHigh_f86c9 : ByteArray := prog_16_method_45_code
def yJ9_multiplyHigh_f86c9 : MethodName := ⟨RJ9, "multiplyHigh", "(JJ)J"⟩
abbrev cJ9_min_7cf53 : ByteArray := prog_16_method_69_code
def yJ9_min_7cf53 : MethodName := ⟨RJ9, "min", "(II)I"⟩
def RJ10 : String := "java/lang/System"
def RJ7 : String := "java/util/Arrays"
abbrev cJ7_fill_53178 : ByteArray := prog_18_method_103_code
def yJ7_fill_53178 : MethodName := ⟨RJ7, "fill", "([II)V"⟩
def RL : String := "AdapterBenchLaw"
abbrev cL_law : ByteArray := code
def yL_law : MethodName := ⟨RL, "law", "([I)Z"⟩
abbrev vwCl : List vw_C := [(RX0, TX0, 2), (RX1, TX1, 11), (RX2, TX2, 2), (RX3, TX3, 7), (RX4, TX4, 5), (RX5, TX5, 8), (RX6, TX6, 12), (RX7, TX7, 2), (RX8, TX8, 3), (RX9, TX9, 7), (RX10, TX10, 9), (RX11, TX11, 56)]
end
section
theorem dX0_init_0 : decode cX0_init 0 = .ok (.aload_n 0, 1) := by decide +kernel
theorem dX0_init_1 : decode cX0_init 1 = .ok (.invokespecial 3, 3) := by decide +kernel
theorem dX0_init_4 : decode cX0_init 4 = .ok (.aload_n 0, 1) := by decide +kernel
theorem dX0_init_5 : decode cX0_init 5 = .ok (.bipush 30, 2) := by decide +kernel
theorem dX0_init_7 : decode cX0_init 7 = .ok (.newarray .int, 2) := by decide +kernel
theorem dX0_init_9 : decode cX0_init 9 = .ok (.putfield 11, 3) := by decide +kernel
theorem dX0_init_12 : decode cX0_init 12 = .ok (.aload_n 0, 1) := by decide +kernel
theorem dX0_init_13 : decode cX0_init 13 = .ok (.iconst 0, 1) := by decide +kernel
theorem dX0_init_14 : decode cX0_init 14 = .ok (.putfield 15, 3) := by decide +kernel
theorem dX0_init_17 : decode cX0_init 17 = .ok (.return_, 1) := by decide +kernel
theorem dX0_has_0 : decode cX0_has 0 = .ok (.aload_n 0, 1) := by decide +kernel
theorem dX0_has_1 : decode cX0_has 1 = .ok (.iload_n 1, 1) := by decide +kernel
theorem dX0_has_2 : decode cX0_has 2 = .ok (.iload_n 2, 1) := by decide +kernel
theorem dX0_has_3 : decode cX0_has 3 = .ok (.invokevirtual 19, 3) := by decide +kernel
theorem dX0_has_6 : decode cX0_has 6 = .ok (.iconst (-1), 1) := by decide +kernel
theorem dX0_has_7 : decode cX0_has 7 = .ok (.if_icmp .eq 7, 3) := by decide +kernel
theorem dX0_has_10 : decode cX0_has 10 = .ok (.iconst 1, 1) := by decide +kernel
theorem dX0_has_11 : decode cX0_has 11 = .ok (.goto 4, 3) := by decide +kernel
theorem dX0_has_14 : decode cX0_has 14 = .ok (.iconst 0, 1) := by decide +kernel
theorem dX0_has_15 : decode cX0_has 15 = .ok (.ireturn, 1) := by decide +kernel
theorem dX0_add_0 : decode cX0_add 0 = .ok (.aload_n 0, 1) := by decide +kernel
theorem dX0_add_1 : decode cX0_add 1 = .ok (.getfield 15, 3) := by decide +kernel
theorem dX0_add_4 : decode cX0_add 4 = .ok (.bipush 30, 2) := by decide +kernel
theorem dX0_add_6 : decode cX0_add 6 = .ok (.if_icmp .ge 12, 3) := by decide +kernel
theorem dX0_add_9 : decode cX0_add 9 = .ok (.aload_n 0, 1) := by decide +kernel
theorem dX0_add_10 : decode cX0_add 10 = .ok (.iload_n 1, 1) := by decide +kernel
theorem dX0_add_11 : decode cX0_add 11 = .ok (.iload_n 2, 1) := by decide +kernel
theorem dX0_add_12 : decode cX0_add 12 = .ok (.invokevirtual 23, 3) := by decide +kernel
theorem dX0_add_15 : decode cX0_add 15 = .ok (.ifCond .eq 5, 3) := by decide +kernel
theorem dX0_add_18 : decode cX0_add 18 = .ok (.iconst 0, 1) := by decide +kernel
theorem dX0_add_19 : decode cX0_add 19 = .ok (.ireturn, 1) := by decide +kernel
theorem dX0_add_20 : decode cX0_add 20 = .ok (.aload_n 0, 1) := by decide +kernel
theorem dX0_add_21 : decode cX0_add 21 = .ok (.getfield 11, 3) := by decide +kernel
theorem dX0_add_24 : decode cX0_add 24 = .ok (.aload_n 0, 1) := by decide +kernel
theorem dX0_add_25 : decode cX0_add 25 = .ok (.getfield 15, 3) := by decide +kernel
theorem dX0_add_28 : decode cX0_add 28 = .ok (.iload_n 1, 1) := by decide +kernel
theorem dX0_add_29 : decode cX0_add 29 = .ok (.bipush 100, 2) := by decide +kernel
theorem dX0_add_31 : decode cX0_add 31 = .ok (.imul, 1) := by decide +kernel
theorem dX0_add_32 : decode cX0_add 32 = .ok (.iload_n 2, 1) := by decide +kernel
theorem dX0_add_33 : decode cX0_add 33 = .ok (.iadd, 1) := by decide +kernel
theorem dX0_add_34 : decode cX0_add 34 = .ok (.iastore, 1) := by decide +kernel
theorem dX0_add_35 : decode cX0_add 35 = .ok (.aload_n 0, 1) := by decide +kernel
theorem dX0_add_36 : decode cX0_add 36 = .ok (.dup, 1) := by decide +kernel
theorem dX0_add_37 : decode cX0_add 37 = .ok (.getfield 15, 3) := by decide +kernel
theorem dX0_add_40 : decode cX0_add 40 = .ok (.iconst 1, 1) := by decide +kernel
theorem dX0_add_41 : decode cX0_add 41 = .ok (.iadd, 1) := by decide +kernel
theorem dX0_add_42 : decode cX0_add 42 = .ok (.putfield 15, 3) := by decide +kernel
theorem dX0_add_45 : decode cX0_add 45 = .ok (.iconst 1, 1) := by decide +kernel
theorem dX0_add_46 : decode cX0_add 46 = .ok (.ireturn, 1) := by decide +kernel
theorem dX0_remove_0 : decode cX0_remove 0 = .ok (.aload_n 0, 1) := by decide +kernel
theorem dX0_remove_1 : decode cX0_remove 1 = .ok (.iload_n 1, 1) := by decide +kernel
theorem dX0_remove_2 : decode cX0_remove 2 = .ok (.iload_n 2, 1) := by decide +kernel
theorem dX0_remove_3 : decode cX0_remove 3 = .ok (.invokevirtual 19, 3) := by decide +kernel
theorem dX0_remove_6 : decode cX0_remove 6 = .ok (.istore_n 3, 1) := by decide +kernel
theorem dX0_remove_7 : decode cX0_remove 7 = .ok (.iload_n 3, 1) := by decide +kernel
theorem dX0_remove_8 : decode cX0_remove 8 = .ok (.iconst (-1), 1) := by decide +kernel
theorem dX0_remove_9 : decode cX0_remove 9 = .ok (.if_icmp .ne 5, 3) := by decide +kernel
theorem dX0_remove_12 : decode cX0_remove 12 = .ok (.iconst 0, 1) := by decide +kernel
theorem dX0_remove_13 : decode cX0_remove 13 = .ok (.ireturn, 1) := by decide +kernel
theorem dX0_remove_14 : decode cX0_remove 14 = .ok (.aload_n 0, 1) := by decide +kernel
theorem dX0_remove_15 : decode cX0_remove 15 = .ok (.dup, 1) := by decide +kernel
theorem dX0_remove_16 : decode cX0_remove 16 = .ok (.getfield 15, 3) := by decide +kernel
theorem dX0_remove_19 : decode cX0_remove 19 = .ok (.iconst 1, 1) := by decide +kernel
theorem dX0_remove_20 : decode cX0_remove 20 = .ok (.isub, 1) := by decide +kernel
theorem dX0_remove_21 : decode cX0_remove 21 = .ok (.putfield 15, 3) := by decide +kernel
theorem dX0_remove_24 : decode cX0_remove 24 = .ok (.aload_n 0, 1) := by decide +kernel
theorem dX0_remove_25 : decode cX0_remove 25 = .ok (.getfield 11, 3) := by decide +kernel
theorem dX0_remove_28 : decode cX0_remove 28 = .ok (.iload_n 3, 1) := by decide +kernel
theorem dX0_remove_29 : decode cX0_remove 29 = .ok (.aload_n 0, 1) := by decide +kernel
theorem dX0_remove_30 : decode cX0_remove 30 = .ok (.getfield 11, 3) := by decide +kernel
theorem dX0_remove_33 : decode cX0_remove 33 = .ok (.aload_n 0, 1) := by decide +kernel
theorem dX0_remove_34 : decode cX0_remove 34 = .ok (.getfield 15, 3) := by decide +kernel
theorem dX0_remove_37 : decode cX0_remove 37 = .ok (.iaload, 1) := by decide +kernel
theorem dX0_remove_38 : decode cX0_remove 38 = .ok (.iastore, 1) := by decide +kernel
theorem dX0_remove_39 : decode cX0_remove 39 = .ok (.iconst 1, 1) := by decide +kernel
theorem dX0_remove_40 : decode cX0_remove 40 = .ok (.ireturn, 1) := by decide +kernel
theorem dX0_placeOf_0 : decode cX0_placeOf 0 = .ok (.iconst 0, 1) := by decide +kernel
theorem dX0_placeOf_1 : decode cX0_placeOf 1 = .ok (.istore_n 3, 1) := by decide +kernel
theorem dX0_placeOf_2 : decode cX0_placeOf 2 = .ok (.iload_n 3, 1) := by decide +kernel
theorem dX0_placeOf_3 : decode cX0_placeOf 3 = .ok (.aload_n 0, 1) := by decide +kernel
theorem dX0_placeOf_4 : decode cX0_placeOf 4 = .ok (.getfield 15, 3) := by decide +kernel
theorem dX0_placeOf_7 : decode cX0_placeOf 7 = .ok (.if_icmp .ge 26, 3) := by decide +kernel
theorem dX0_placeOf_10 : decode cX0_placeOf 10 = .ok (.aload_n 0, 1) := by decide +kernel
theorem dX0_placeOf_11 : decode cX0_placeOf 11 = .ok (.getfield 11, 3) := by decide +kernel
theorem dX0_placeOf_14 : decode cX0_placeOf 14 = .ok (.iload_n 3, 1) := by decide +kernel
theorem dX0_placeOf_15 : decode cX0_placeOf 15 = .ok (.iaload, 1) := by decide +kernel
theorem dX0_placeOf_16 : decode cX0_placeOf 16 = .ok (.iload_n 1, 1) := by decide +kernel
theorem dX0_placeOf_17 : decode cX0_placeOf 17 = .ok (.bipush 100, 2) := by decide +kernel
theorem dX0_placeOf_19 : decode cX0_placeOf 19 = .ok (.imul, 1) := by decide +kernel
theorem dX0_placeOf_20 : decode cX0_placeOf 20 = .ok (.iload_n 2, 1) := by decide +kernel
theorem dX0_placeOf_21 : decode cX0_placeOf 21 = .ok (.iadd, 1) := by decide +kernel
theorem dX0_placeOf_22 : decode cX0_placeOf 22 = .ok (.if_icmp .ne 5, 3) := by decide +kernel
theorem dX0_placeOf_25 : decode cX0_placeOf 25 = .ok (.iload_n 3, 1) := by decide +kernel
theorem dX0_placeOf_26 : decode cX0_placeOf 26 = .ok (.ireturn, 1) := by decide +kernel
theorem dX0_placeOf_27 : decode cX0_placeOf 27 = .ok (.iinc 3 1, 3) := by decide +kernel
theorem dX0_placeOf_30 : decode cX0_placeOf 30 = .ok (.goto (-28), 3) := by decide +kernel
theorem dX0_placeOf_33 : decode cX0_placeOf 33 = .ok (.iconst (-1), 1) := by decide +kernel
theorem dX0_placeOf_34 : decode cX0_placeOf 34 = .ok (.ireturn, 1) := by decide +kernel
theorem dX1_init_0 : decode cX1_init 0 = .ok (.aload_n 0, 1) := by decide +kernel
theorem dX1_init_1 : decode cX1_init 1 = .ok (.invokespecial 3, 3) := by decide +kernel
theorem dX1_init_4 : decode cX1_init 4 = .ok (.aload_n 0, 1) := by decide +kernel
theorem dX1_init_5 : decode cX1_init 5 = .ok (.iconst 4, 1) := by decide +kernel
theorem dX1_init_6 : decode cX1_init 6 = .ok (.newarray .long, 2) := by decide +kernel
theorem dX1_init_8 : decode cX1_init 8 = .ok (.putfield 9, 3) := by decide +kernel
theorem dX1_init_11 : decode cX1_init 11 = .ok (.aload_n 0, 1) := by decide +kernel
theorem dX1_init_12 : decode cX1_init 12 = .ok (.bipush 11, 2) := by decide +kernel
theorem dX1_init_14 : decode cX1_init 14 = .ok (.anewarray 15, 3) := by decide +kernel
theorem dX1_init_17 : decode cX1_init 17 = .ok (.putfield 17, 3) := by decide +kernel
theorem dX1_init_20 : decode cX1_init 20 = .ok (.aload_n 0, 1) := by decide +kernel
theorem dX1_init_21 : decode cX1_init 21 = .ok (.bipush 40, 2) := by decide +kernel
theorem dX1_init_23 : decode cX1_init 23 = .ok (.newarray .int, 2) := by decide +kernel
theorem dX1_init_25 : decode cX1_init 25 = .ok (.putfield 21, 3) := by decide +kernel
theorem dX1_init_28 : decode cX1_init 28 = .ok (.aload_n 0, 1) := by decide +kernel
theorem dX1_init_29 : decode cX1_init 29 = .ok (.iconst 0, 1) := by decide +kernel
theorem dX1_init_30 : decode cX1_init 30 = .ok (.putfield 25, 3) := by decide +kernel
theorem dX1_init_33 : decode cX1_init 33 = .ok (.aload_n 0, 1) := by decide +kernel
theorem dX1_init_34 : decode cX1_init 34 = .ok (.iconst 4, 1) := by decide +kernel
theorem dX1_init_35 : decode cX1_init 35 = .ok (.newarray .long, 2) := by decide +kernel
theorem dX1_init_37 : decode cX1_init 37 = .ok (.putfield 29, 3) := by decide +kernel
theorem dX1_init_40 : decode cX1_init 40 = .ok (.aload_n 0, 1) := by decide +kernel
theorem dX1_init_41 : decode cX1_init 41 = .ok (.iconst 4, 1) := by decide +kernel
theorem dX1_init_42 : decode cX1_init 42 = .ok (.newarray .long, 2) := by decide +kernel
theorem dX1_init_44 : decode cX1_init 44 = .ok (.putfield 32, 3) := by decide +kernel
theorem dX1_init_47 : decode cX1_init 47 = .ok (.aload_n 0, 1) := by decide +kernel
theorem dX1_init_48 : decode cX1_init 48 = .ok (.lconst 0, 1) := by decide +kernel
theorem dX1_init_49 : decode cX1_init 49 = .ok (.putfield 35, 3) := by decide +kernel
theorem dX1_init_52 : decode cX1_init 52 = .ok (.aload_n 0, 1) := by decide +kernel
theorem dX1_init_53 : decode cX1_init 53 = .ok (.aload_n 1, 1) := by decide +kernel
theorem dX1_init_54 : decode cX1_init 54 = .ok (.putfield 39, 3) := by decide +kernel
theorem dX1_init_57 : decode cX1_init 57 = .ok (.aload_n 0, 1) := by decide +kernel
theorem dX1_init_58 : decode cX1_init 58 = .ok (.aload_n 2, 1) := by decide +kernel
theorem dX1_init_59 : decode cX1_init 59 = .ok (.putfield 43, 3) := by decide +kernel
theorem dX1_init_62 : decode cX1_init 62 = .ok (.aload_n 0, 1) := by decide +kernel
theorem dX1_init_63 : decode cX1_init 63 = .ok (.aload_n 3, 1) := by decide +kernel
theorem dX1_init_64 : decode cX1_init 64 = .ok (.putfield 47, 3) := by decide +kernel
theorem dX1_init_67 : decode cX1_init 67 = .ok (.aload_n 0, 1) := by decide +kernel
theorem dX1_init_68 : decode cX1_init 68 = .ok (.aload 4, 2) := by decide +kernel
theorem dX1_init_70 : decode cX1_init 70 = .ok (.putfield 51, 3) := by decide +kernel
theorem dX1_init_73 : decode cX1_init 73 = .ok (.new 15, 3) := by decide +kernel
theorem dX1_init_76 : decode cX1_init 76 = .ok (.dup, 1) := by decide +kernel
theorem dX1_init_77 : decode cX1_init 77 = .ok (.invokespecial 55, 3) := by decide +kernel
theorem dX1_init_80 : decode cX1_init 80 = .ok (.astore 5, 2) := by decide +kernel
theorem dX1_init_82 : decode cX1_init 82 = .ok (.iconst 0, 1) := by decide +kernel
theorem dX1_init_83 : decode cX1_init 83 = .ok (.istore 6, 2) := by decide +kernel
theorem dX1_init_85 : decode cX1_init 85 = .ok (.iload 6, 2) := by decide +kernel
theorem dX1_init_87 : decode cX1_init 87 = .ok (.bipush 10, 2) := by decide +kernel
theorem dX1_init_89 : decode cX1_init 89 = .ok (.if_icmp .gt 18, 3) := by decide +kernel
theorem dX1_init_92 : decode cX1_init 92 = .ok (.aload_n 0, 1) := by decide +kernel
theorem dX1_init_93 : decode cX1_init 93 = .ok (.getfield 17, 3) := by decide +kernel
theorem dX1_init_96 : decode cX1_init 96 = .ok (.iload 6, 2) := by decide +kernel
theorem dX1_init_98 : decode cX1_init 98 = .ok (.aload 5, 2) := by decide +kernel
theorem dX1_init_100 : decode cX1_init 100 = .ok (.aastore, 1) := by decide +kernel
theorem dX1_init_101 : decode cX1_init 101 = .ok (.iinc 6 1, 3) := by decide +kernel
theorem dX1_init_104 : decode cX1_init 104 = .ok (.goto (-19), 3) := by decide +kernel
theorem dX1_init_107 : decode cX1_init 107 = .ok (.return_, 1) := by decide +kernel
theorem dX1_begin_0 : decode cX1_begin 0 = .ok (.aload_n 0, 1) := by decide +kernel
theorem dX1_begin_1 : decode cX1_begin 1 = .ok (.getfield 17, 3) := by decide +kernel
theorem dX1_begin_4 : decode cX1_begin 4 = .ok (.iconst 0, 1) := by decide +kernel
theorem dX1_begin_5 : decode cX1_begin 5 = .ok (.aload_n 1, 1) := by decide +kernel
theorem dX1_begin_6 : decode cX1_begin 6 = .ok (.aastore, 1) := by decide +kernel
theorem dX1_begin_7 : decode cX1_begin 7 = .ok (.aload_n 0, 1) := by decide +kernel
theorem dX1_begin_8 : decode cX1_begin 8 = .ok (.iconst 0, 1) := by decide +kernel
theorem dX1_begin_9 : decode cX1_begin 9 = .ok (.putfield 25, 3) := by decide +kernel
theorem dX1_begin_12 : decode cX1_begin 12 = .ok (.return_, 1) := by decide +kernel
theorem dX1_link_0 : decode cX1_link 0 = .ok (.aload_n 0, 1) := by decide +kernel
theorem dX1_link_1 : decode cX1_link 1 = .ok (.getfield 25, 3) := by decide +kernel
theorem dX1_link_4 : decode cX1_link 4 = .ok (.bipush 10, 2) := by decide +kernel
theorem dX1_link_6 : decode cX1_link 6 = .ok (.if_icmp .ge 23, 3) := by decide +kernel
theorem dX1_link_9 : decode cX1_link 9 = .ok (.aload_n 0, 1) := by decide +kernel
theorem dX1_link_10 : decode cX1_link 10 = .ok (.getfield 47, 3) := by decide +kernel
theorem dX1_link_13 : decode cX1_link 13 = .ok (.aload_n 0, 1) := by decide +kernel
theorem dX1_link_14 : decode cX1_link 14 = .ok (.getfield 17, 3) := by decide +kernel
theorem dX1_link_17 : decode cX1_link 17 = .ok (.aload_n 0, 1) := by decide +kernel
theorem dX1_link_18 : decode cX1_link 18 = .ok (.getfield 25, 3) := by decide +kernel
theorem dX1_link_21 : decode cX1_link 21 = .ok (.aaload, 1) := by decide +kernel
theorem dX1_link_22 : decode cX1_link 22 = .ok (.aload_n 1, 1) := by decide +kernel
theorem dX1_link_23 : decode cX1_link 23 = .ok (.invokevirtual 56, 3) := by decide +kernel
theorem dX1_link_26 : decode cX1_link 26 = .ok (.ifCond .ne 5, 3) := by decide +kernel
theorem dX1_link_29 : decode cX1_link 29 = .ok (.iconst 0, 1) := by decide +kernel
theorem dX1_link_30 : decode cX1_link 30 = .ok (.ireturn, 1) := by decide +kernel
theorem dX1_link_31 : decode cX1_link 31 = .ok (.aload_n 0, 1) := by decide +kernel
theorem dX1_link_32 : decode cX1_link 32 = .ok (.getfield 47, 3) := by decide +kernel
theorem dX1_link_35 : decode cX1_link 35 = .ok (.getfield 62, 3) := by decide +kernel
theorem dX1_link_38 : decode cX1_link 38 = .ok (.iconst 0, 1) := by decide +kernel
theorem dX1_link_39 : decode cX1_link 39 = .ok (.aload_n 0, 1) := by decide +kernel
theorem dX1_link_40 : decode cX1_link 40 = .ok (.getfield 21, 3) := by decide +kernel
theorem dX1_link_43 : decode cX1_link 43 = .ok (.aload_n 0, 1) := by decide +kernel
theorem dX1_link_44 : decode cX1_link 44 = .ok (.getfield 25, 3) := by decide +kernel
theorem dX1_link_47 : decode cX1_link 47 = .ok (.iconst 4, 1) := by decide +kernel
theorem dX1_link_48 : decode cX1_link 48 = .ok (.imul, 1) := by decide +kernel
theorem dX1_link_49 : decode cX1_link 49 = .ok (.iconst 4, 1) := by decide +kernel
theorem dX1_link_50 : decode cX1_link 50 = .ok (.invokestatic 63, 3) := by decide +kernel
theorem dX1_link_53 : decode cX1_link 53 = .ok (.aload_n 0, 1) := by decide +kernel
theorem dX1_link_54 : decode cX1_link 54 = .ok (.dup, 1) := by decide +kernel
theorem dX1_link_55 : decode cX1_link 55 = .ok (.getfield 25, 3) := by decide +kernel
theorem dX1_link_58 : decode cX1_link 58 = .ok (.iconst 1, 1) := by decide +kernel
theorem dX1_link_59 : decode cX1_link 59 = .ok (.iadd, 1) := by decide +kernel
theorem dX1_link_60 : decode cX1_link 60 = .ok (.putfield 25, 3) := by decide +kernel
theorem dX1_link_63 : decode cX1_link 63 = .ok (.aload_n 0, 1) := by decide +kernel
theorem dX1_link_64 : decode cX1_link 64 = .ok (.getfield 17, 3) := by decide +kernel
theorem dX1_link_67 : decode cX1_link 67 = .ok (.aload_n 0, 1) := by decide +kernel
theorem dX1_link_68 : decode cX1_link 68 = .ok (.getfield 25, 3) := by decide +kernel
theorem dX1_link_71 : decode cX1_link 71 = .ok (.aload_n 1, 1) := by decide +kernel
theorem dX1_link_72 : decode cX1_link 72 = .ok (.getfield 69, 3) := by decide +kernel
theorem dX1_link_75 : decode cX1_link 75 = .ok (.aload_n 0, 1) := by decide +kernel
theorem dX1_link_76 : decode cX1_link 76 = .ok (.getfield 47, 3) := by decide +kernel
theorem dX1_link_79 : decode cX1_link 79 = .ok (.getfield 74, 3) := by decide +kernel
theorem dX1_link_82 : decode cX1_link 82 = .ok (.aaload, 1) := by decide +kernel
theorem dX1_link_83 : decode cX1_link 83 = .ok (.aastore, 1) := by decide +kernel
theorem dX1_link_84 : decode cX1_link 84 = .ok (.iconst 1, 1) := by decide +kernel
theorem dX1_link_85 : decode cX1_link 85 = .ok (.ireturn, 1) := by decide +kernel
theorem dX1_perform_0 : decode cX1_perform 0 = .ok (.aload_n 0, 1) := by decide +kernel
theorem dX1_perform_1 : decode cX1_perform 1 = .ok (.invokevirtual 77, 3) := by decide +kernel
theorem dX1_perform_4 : decode cX1_perform 4 = .ok (.ifCond .eq 30, 3) := by decide +kernel
theorem dX1_perform_7 : decode cX1_perform 7 = .ok (.aload_n 0, 1) := by decide +kernel
theorem dX1_perform_8 : decode cX1_perform 8 = .ok (.invokevirtual 81, 3) := by decide +kernel
theorem dX1_perform_11 : decode cX1_perform 11 = .ok (.ifCond .eq 23, 3) := by decide +kernel
theorem dX1_perform_14 : decode cX1_perform 14 = .ok (.aload_n 0, 1) := by decide +kernel
theorem dX1_perform_15 : decode cX1_perform 15 = .ok (.aload_n 1, 1) := by decide +kernel
theorem dX1_perform_16 : decode cX1_perform 16 = .ok (.iload_n 2, 1) := by decide +kernel
theorem dX1_perform_17 : decode cX1_perform 17 = .ok (.invokevirtual 84, 3) := by decide +kernel
theorem dX1_perform_20 : decode cX1_perform 20 = .ok (.ifCond .eq 14, 3) := by decide +kernel
theorem dX1_perform_23 : decode cX1_perform 23 = .ok (.aload_n 0, 1) := by decide +kernel
theorem dX1_perform_24 : decode cX1_perform 24 = .ok (.invokevirtual 88, 3) := by decide +kernel
theorem dX1_perform_27 : decode cX1_perform 27 = .ok (.ifCond .eq 7, 3) := by decide +kernel
theorem dX1_perform_30 : decode cX1_perform 30 = .ok (.iconst 1, 1) := by decide +kernel
theorem dX1_perform_31 : decode cX1_perform 31 = .ok (.goto 4, 3) := by decide +kernel
theorem dX1_perform_34 : decode cX1_perform 34 = .ok (.iconst 0, 1) := by decide +kernel
theorem dX1_perform_35 : decode cX1_perform 35 = .ok (.istore_n 3, 1) := by decide +kernel
theorem dX1_perform_36 : decode cX1_perform 36 = .ok (.iload_n 3, 1) := by decide +kernel
theorem dX1_perform_37 : decode cX1_perform 37 = .ok (.ifCond .eq 30, 3) := by decide +kernel
theorem dX1_perform_40 : decode cX1_perform 40 = .ok (.aload_n 0, 1) := by decide +kernel
theorem dX1_perform_41 : decode cX1_perform 41 = .ok (.getfield 51, 3) := by decide +kernel
theorem dX1_perform_44 : decode cX1_perform 44 = .ok (.aload_n 0, 1) := by decide +kernel
theorem dX1_perform_45 : decode cX1_perform 45 = .ok (.getfield 35, 3) := by decide +kernel
theorem dX1_perform_48 : decode cX1_perform 48 = .ok (.putfield 91, 3) := by decide +kernel
theorem dX1_perform_51 : decode cX1_perform 51 = .ok (.aload_n 0, 1) := by decide +kernel
theorem dX1_perform_52 : decode cX1_perform 52 = .ok (.getfield 51, 3) := by decide +kernel
theorem dX1_perform_55 : decode cX1_perform 55 = .ok (.dup, 1) := by decide +kernel
theorem dX1_perform_56 : decode cX1_perform 56 = .ok (.getfield 96, 3) := by decide +kernel
theorem dX1_perform_59 : decode cX1_perform 59 = .ok (.iconst 1, 1) := by decide +kernel
theorem dX1_perform_60 : decode cX1_perform 60 = .ok (.iadd, 1) := by decide +kernel
theorem dX1_perform_61 : decode cX1_perform 61 = .ok (.putfield 96, 3) := by decide +kernel
theorem dX1_perform_64 : decode cX1_perform 64 = .ok (.goto 16, 3) := by decide +kernel
theorem dX1_perform_67 : decode cX1_perform 67 = .ok (.aload_n 0, 1) := by decide +kernel
theorem dX1_perform_68 : decode cX1_perform 68 = .ok (.getfield 51, 3) := by decide +kernel
theorem dX1_perform_71 : decode cX1_perform 71 = .ok (.dup, 1) := by decide +kernel
theorem dX1_perform_72 : decode cX1_perform 72 = .ok (.getfield 99, 3) := by decide +kernel
theorem dX1_perform_75 : decode cX1_perform 75 = .ok (.iconst 1, 1) := by decide +kernel
theorem dX1_perform_76 : decode cX1_perform 76 = .ok (.iadd, 1) := by decide +kernel
theorem dX1_perform_77 : decode cX1_perform 77 = .ok (.putfield 99, 3) := by decide +kernel
theorem dX1_perform_80 : decode cX1_perform 80 = .ok (.iload_n 3, 1) := by decide +kernel
theorem dX1_perform_81 : decode cX1_perform 81 = .ok (.ireturn, 1) := by decide +kernel
theorem dX1_takeHand_0 : decode cX1_takeHand 0 = .ok (.aload_n 0, 1) := by decide +kernel
theorem dX1_takeHand_1 : decode cX1_takeHand 1 = .ok (.getfield 17, 3) := by decide +kernel
theorem dX1_takeHand_4 : decode cX1_takeHand 4 = .ok (.iconst 0, 1) := by decide +kernel
theorem dX1_takeHand_5 : decode cX1_takeHand 5 = .ok (.aaload, 1) := by decide +kernel
theorem dX1_takeHand_6 : decode cX1_takeHand 6 = .ok (.astore_n 1, 1) := by decide +kernel
theorem dX1_takeHand_7 : decode cX1_takeHand 7 = .ok (.iconst 0, 1) := by decide +kernel
theorem dX1_takeHand_8 : decode cX1_takeHand 8 = .ok (.istore_n 2, 1) := by decide +kernel
theorem dX1_takeHand_9 : decode cX1_takeHand 9 = .ok (.iload_n 2, 1) := by decide +kernel
theorem dX1_takeHand_10 : decode cX1_takeHand 10 = .ok (.aload_n 1, 1) := by decide +kernel
theorem dX1_takeHand_11 : decode cX1_takeHand 11 = .ok (.getfield 102, 3) := by decide +kernel
theorem dX1_takeHand_14 : decode cX1_takeHand 14 = .ok (.if_icmp .ge 50, 3) := by decide +kernel
theorem dX1_takeHand_17 : decode cX1_takeHand 17 = .ok (.aload_n 1, 1) := by decide +kernel
theorem dX1_takeHand_18 : decode cX1_takeHand 18 = .ok (.getfield 105, 3) := by decide +kernel
theorem dX1_takeHand_21 : decode cX1_takeHand 21 = .ok (.iload_n 2, 1) := by decide +kernel
theorem dX1_takeHand_22 : decode cX1_takeHand 22 = .ok (.iaload, 1) := by decide +kernel
theorem dX1_takeHand_23 : decode cX1_takeHand 23 = .ok (.aload_n 0, 1) := by decide +kernel
theorem dX1_takeHand_24 : decode cX1_takeHand 24 = .ok (.getfield 9, 3) := by decide +kernel
theorem dX1_takeHand_27 : decode cX1_takeHand 27 = .ok (.iload_n 2, 1) := by decide +kernel
theorem dX1_takeHand_28 : decode cX1_takeHand 28 = .ok (.laload, 1) := by decide +kernel
theorem dX1_takeHand_29 : decode cX1_takeHand 29 = .ok (.invokestatic 108, 3) := by decide +kernel
theorem dX1_takeHand_32 : decode cX1_takeHand 32 = .ok (.ifCond .ne 14, 3) := by decide +kernel
theorem dX1_takeHand_35 : decode cX1_takeHand 35 = .ok (.aload_n 0, 1) := by decide +kernel
theorem dX1_takeHand_36 : decode cX1_takeHand 36 = .ok (.getfield 51, 3) := by decide +kernel
theorem dX1_takeHand_39 : decode cX1_takeHand 39 = .ok (.iconst 0, 1) := by decide +kernel
theorem dX1_takeHand_40 : decode cX1_takeHand 40 = .ok (.iconst (-1), 1) := by decide +kernel
theorem dX1_takeHand_41 : decode cX1_takeHand 41 = .ok (.invokevirtual 112, 3) := by decide +kernel
theorem dX1_takeHand_44 : decode cX1_takeHand 44 = .ok (.iconst 0, 1) := by decide +kernel
theorem dX1_takeHand_45 : decode cX1_takeHand 45 = .ok (.ireturn, 1) := by decide +kernel
theorem dX1_takeHand_46 : decode cX1_takeHand 46 = .ok (.aload_n 0, 1) := by decide +kernel
theorem dX1_takeHand_47 : decode cX1_takeHand 47 = .ok (.getfield 29, 3) := by decide +kernel
theorem dX1_takeHand_50 : decode cX1_takeHand 50 = .ok (.iload_n 2, 1) := by decide +kernel
theorem dX1_takeHand_51 : decode cX1_takeHand 51 = .ok (.aload_n 0, 1) := by decide +kernel
theorem dX1_takeHand_52 : decode cX1_takeHand 52 = .ok (.getfield 9, 3) := by decide +kernel
theorem dX1_takeHand_55 : decode cX1_takeHand 55 = .ok (.iload_n 2, 1) := by decide +kernel
theorem dX1_takeHand_56 : decode cX1_takeHand 56 = .ok (.laload, 1) := by decide +kernel
theorem dX1_takeHand_57 : decode cX1_takeHand 57 = .ok (.lastore, 1) := by decide +kernel
theorem dX1_takeHand_58 : decode cX1_takeHand 58 = .ok (.iinc 2 1, 3) := by decide +kernel
theorem dX1_takeHand_61 : decode cX1_takeHand 61 = .ok (.goto (-52), 3) := by decide +kernel
theorem dX1_takeHand_64 : decode cX1_takeHand 64 = .ok (.iconst 1, 1) := by decide +kernel
theorem dX1_takeHand_65 : decode cX1_takeHand 65 = .ok (.ireturn, 1) := by decide +kernel
theorem dX1_passIn_0 : decode cX1_passIn 0 = .ok (.iconst 0, 1) := by decide +kernel
theorem dX1_passIn_1 : decode cX1_passIn 1 = .ok (.istore_n 1, 1) := by decide +kernel
theorem dX1_passIn_2 : decode cX1_passIn 2 = .ok (.iload_n 1, 1) := by decide +kernel
theorem dX1_passIn_3 : decode cX1_passIn 3 = .ok (.aload_n 0, 1) := by decide +kernel
theorem dX1_passIn_4 : decode cX1_passIn 4 = .ok (.getfield 25, 3) := by decide +kernel
theorem dX1_passIn_7 : decode cX1_passIn 7 = .ok (.if_icmp .ge 52, 3) := by decide +kernel
theorem dX1_passIn_10 : decode cX1_passIn 10 = .ok (.aload_n 0, 1) := by decide +kernel
theorem dX1_passIn_11 : decode cX1_passIn 11 = .ok (.iload_n 1, 1) := by decide +kernel
theorem dX1_passIn_12 : decode cX1_passIn 12 = .ok (.invokevirtual 116, 3) := by decide +kernel
theorem dX1_passIn_15 : decode cX1_passIn 15 = .ok (.ifCond .ne 20, 3) := by decide +kernel
theorem dX1_passIn_18 : decode cX1_passIn 18 = .ok (.aload_n 0, 1) := by decide +kernel
theorem dX1_passIn_19 : decode cX1_passIn 19 = .ok (.getfield 51, 3) := by decide +kernel
theorem dX1_passIn_22 : decode cX1_passIn 22 = .ok (.iconst 1, 1) := by decide +kernel
theorem dX1_passIn_23 : decode cX1_passIn 23 = .ok (.aload_n 0, 1) := by decide +kernel
theorem dX1_passIn_24 : decode cX1_passIn 24 = .ok (.getfield 39, 3) := by decide +kernel
theorem dX1_passIn_27 : decode cX1_passIn 27 = .ok (.getfield 120, 3) := by decide +kernel
theorem dX1_passIn_30 : decode cX1_passIn 30 = .ok (.invokevirtual 112, 3) := by decide +kernel
theorem dX1_passIn_33 : decode cX1_passIn 33 = .ok (.iconst 0, 1) := by decide +kernel
theorem dX1_passIn_34 : decode cX1_passIn 34 = .ok (.ireturn, 1) := by decide +kernel
theorem dX1_passIn_35 : decode cX1_passIn 35 = .ok (.aload_n 0, 1) := by decide +kernel
theorem dX1_passIn_36 : decode cX1_passIn 36 = .ok (.getfield 29, 3) := by decide +kernel
theorem dX1_passIn_39 : decode cX1_passIn 39 = .ok (.astore_n 2, 1) := by decide +kernel
theorem dX1_passIn_40 : decode cX1_passIn 40 = .ok (.aload_n 0, 1) := by decide +kernel
theorem dX1_passIn_41 : decode cX1_passIn 41 = .ok (.aload_n 0, 1) := by decide +kernel
theorem dX1_passIn_42 : decode cX1_passIn 42 = .ok (.getfield 32, 3) := by decide +kernel
theorem dX1_passIn_45 : decode cX1_passIn 45 = .ok (.putfield 29, 3) := by decide +kernel
theorem dX1_passIn_48 : decode cX1_passIn 48 = .ok (.aload_n 0, 1) := by decide +kernel
theorem dX1_passIn_49 : decode cX1_passIn 49 = .ok (.aload_n 2, 1) := by decide +kernel
theorem dX1_passIn_50 : decode cX1_passIn 50 = .ok (.putfield 32, 3) := by decide +kernel
theorem dX1_passIn_53 : decode cX1_passIn 53 = .ok (.iinc 1 1, 3) := by decide +kernel
theorem dX1_passIn_56 : decode cX1_passIn 56 = .ok (.goto (-54), 3) := by decide +kernel
theorem dX1_passIn_59 : decode cX1_passIn 59 = .ok (.iconst 1, 1) := by decide +kernel
theorem dX1_passIn_60 : decode cX1_passIn 60 = .ok (.ireturn, 1) := by decide +kernel
theorem dX1_passTo_0 : decode cX1_passTo 0 = .ok (.aload_n 0, 1) := by decide +kernel
theorem dX1_passTo_1 : decode cX1_passTo 1 = .ok (.getfield 17, 3) := by decide +kernel
theorem dX1_passTo_4 : decode cX1_passTo 4 = .ok (.iload_n 1, 1) := by decide +kernel
theorem dX1_passTo_5 : decode cX1_passTo 5 = .ok (.aaload, 1) := by decide +kernel
theorem dX1_passTo_6 : decode cX1_passTo 6 = .ok (.astore_n 2, 1) := by decide +kernel
theorem dX1_passTo_7 : decode cX1_passTo 7 = .ok (.aload_n 0, 1) := by decide +kernel
theorem dX1_passTo_8 : decode cX1_passTo 8 = .ok (.getfield 17, 3) := by decide +kernel
theorem dX1_passTo_11 : decode cX1_passTo 11 = .ok (.iload_n 1, 1) := by decide +kernel
theorem dX1_passTo_12 : decode cX1_passTo 12 = .ok (.iconst 1, 1) := by decide +kernel
theorem dX1_passTo_13 : decode cX1_passTo 13 = .ok (.iadd, 1) := by decide +kernel
theorem dX1_passTo_14 : decode cX1_passTo 14 = .ok (.aaload, 1) := by decide +kernel
theorem dX1_passTo_15 : decode cX1_passTo 15 = .ok (.astore_n 3, 1) := by decide +kernel
theorem dX1_passTo_16 : decode cX1_passTo 16 = .ok (.iconst 0, 1) := by decide +kernel
theorem dX1_passTo_17 : decode cX1_passTo 17 = .ok (.istore 4, 2) := by decide +kernel
theorem dX1_passTo_19 : decode cX1_passTo 19 = .ok (.iload 4, 2) := by decide +kernel
theorem dX1_passTo_21 : decode cX1_passTo 21 = .ok (.aload_n 3, 1) := by decide +kernel
theorem dX1_passTo_22 : decode cX1_passTo 22 = .ok (.getfield 102, 3) := by decide +kernel
theorem dX1_passTo_25 : decode cX1_passTo 25 = .ok (.if_icmp .ge 104, 3) := by decide +kernel
theorem dX1_passTo_28 : decode cX1_passTo 28 = .ok (.aload_n 0, 1) := by decide +kernel
theorem dX1_passTo_29 : decode cX1_passTo 29 = .ok (.getfield 21, 3) := by decide +kernel
theorem dX1_passTo_32 : decode cX1_passTo 32 = .ok (.iload_n 1, 1) := by decide +kernel
theorem dX1_passTo_33 : decode cX1_passTo 33 = .ok (.iconst 4, 1) := by decide +kernel
theorem dX1_passTo_34 : decode cX1_passTo 34 = .ok (.imul, 1) := by decide +kernel
theorem dX1_passTo_35 : decode cX1_passTo 35 = .ok (.iload 4, 2) := by decide +kernel
theorem dX1_passTo_37 : decode cX1_passTo 37 = .ok (.iadd, 1) := by decide +kernel
theorem dX1_passTo_38 : decode cX1_passTo 38 = .ok (.iaload, 1) := by decide +kernel
theorem dX1_passTo_39 : decode cX1_passTo 39 = .ok (.istore 5, 2) := by decide +kernel
theorem dX1_passTo_41 : decode cX1_passTo 41 = .ok (.iload 5, 2) := by decide +kernel
theorem dX1_passTo_43 : decode cX1_passTo 43 = .ok (.bipush 9, 2) := by decide +kernel
theorem dX1_passTo_45 : decode cX1_passTo 45 = .ok (.if_icmp .ne 28, 3) := by decide +kernel
theorem dX1_passTo_48 : decode cX1_passTo 48 = .ok (.aload_n 0, 1) := by decide +kernel
theorem dX1_passTo_49 : decode cX1_passTo 49 = .ok (.getfield 32, 3) := by decide +kernel
theorem dX1_passTo_52 : decode cX1_passTo 52 = .ok (.iload 4, 2) := by decide +kernel
theorem dX1_passTo_54 : decode cX1_passTo 54 = .ok (.aload_n 0, 1) := by decide +kernel
theorem dX1_passTo_55 : decode cX1_passTo 55 = .ok (.getfield 43, 3) := by decide +kernel
theorem dX1_passTo_58 : decode cX1_passTo 58 = .ok (.getfield 125, 3) := by decide +kernel
theorem dX1_passTo_61 : decode cX1_passTo 61 = .ok (.aload_n 3, 1) := by decide +kernel
theorem dX1_passTo_62 : decode cX1_passTo 62 = .ok (.getfield 105, 3) := by decide +kernel
theorem dX1_passTo_65 : decode cX1_passTo 65 = .ok (.iload 4, 2) := by decide +kernel
theorem dX1_passTo_67 : decode cX1_passTo 67 = .ok (.iaload, 1) := by decide +kernel
theorem dX1_passTo_68 : decode cX1_passTo 68 = .ok (.laload, 1) := by decide +kernel
theorem dX1_passTo_69 : decode cX1_passTo 69 = .ok (.lastore, 1) := by decide +kernel
theorem dX1_passTo_70 : decode cX1_passTo 70 = .ok (.goto 53, 3) := by decide +kernel
theorem dX1_passTo_73 : decode cX1_passTo 73 = .ok (.aload_n 0, 1) := by decide +kernel
theorem dX1_passTo_74 : decode cX1_passTo 74 = .ok (.getfield 39, 3) := by decide +kernel
theorem dX1_passTo_77 : decode cX1_passTo 77 = .ok (.aload_n 2, 1) := by decide +kernel
theorem dX1_passTo_78 : decode cX1_passTo 78 = .ok (.getfield 105, 3) := by decide +kernel
theorem dX1_passTo_81 : decode cX1_passTo 81 = .ok (.iload 5, 2) := by decide +kernel
theorem dX1_passTo_83 : decode cX1_passTo 83 = .ok (.iaload, 1) := by decide +kernel
theorem dX1_passTo_84 : decode cX1_passTo 84 = .ok (.aload_n 3, 1) := by decide +kernel
theorem dX1_passTo_85 : decode cX1_passTo 85 = .ok (.getfield 105, 3) := by decide +kernel
theorem dX1_passTo_88 : decode cX1_passTo 88 = .ok (.iload 4, 2) := by decide +kernel
theorem dX1_passTo_90 : decode cX1_passTo 90 = .ok (.iaload, 1) := by decide +kernel
theorem dX1_passTo_91 : decode cX1_passTo 91 = .ok (.aload_n 0, 1) := by decide +kernel
theorem dX1_passTo_92 : decode cX1_passTo 92 = .ok (.getfield 29, 3) := by decide +kernel
theorem dX1_passTo_95 : decode cX1_passTo 95 = .ok (.iload 5, 2) := by decide +kernel
theorem dX1_passTo_97 : decode cX1_passTo 97 = .ok (.laload, 1) := by decide +kernel
theorem dX1_passTo_98 : decode cX1_passTo 98 = .ok (.invokevirtual 130, 3) := by decide +kernel
theorem dX1_passTo_101 : decode cX1_passTo 101 = .ok (.ifCond .eq 20, 3) := by decide +kernel
theorem dX1_passTo_104 : decode cX1_passTo 104 = .ok (.aload_n 0, 1) := by decide +kernel
theorem dX1_passTo_105 : decode cX1_passTo 105 = .ok (.getfield 32, 3) := by decide +kernel
theorem dX1_passTo_108 : decode cX1_passTo 108 = .ok (.iload 4, 2) := by decide +kernel
theorem dX1_passTo_110 : decode cX1_passTo 110 = .ok (.aload_n 0, 1) := by decide +kernel
theorem dX1_passTo_111 : decode cX1_passTo 111 = .ok (.getfield 39, 3) := by decide +kernel
theorem dX1_passTo_114 : decode cX1_passTo 114 = .ok (.getfield 134, 3) := by decide +kernel
theorem dX1_passTo_117 : decode cX1_passTo 117 = .ok (.lastore, 1) := by decide +kernel
theorem dX1_passTo_118 : decode cX1_passTo 118 = .ok (.goto 5, 3) := by decide +kernel
theorem dX1_passTo_121 : decode cX1_passTo 121 = .ok (.iconst 0, 1) := by decide +kernel
theorem dX1_passTo_122 : decode cX1_passTo 122 = .ok (.ireturn, 1) := by decide +kernel
theorem dX1_passTo_123 : decode cX1_passTo 123 = .ok (.iinc 4 1, 3) := by decide +kernel
theorem dX1_passTo_126 : decode cX1_passTo 126 = .ok (.goto (-107), 3) := by decide +kernel
theorem dX1_passTo_129 : decode cX1_passTo 129 = .ok (.iconst 1, 1) := by decide +kernel
theorem dX1_passTo_130 : decode cX1_passTo 130 = .ok (.ireturn, 1) := by decide +kernel
theorem dX1_doWork_0 : decode cX1_doWork 0 = .ok (.aload_n 0, 1) := by decide +kernel
end
section
theorem dX1_doWork_1 : decode cX1_doWork 1 = .ok (.getfield 17, 3) := by decide +kernel
theorem dX1_doWork_4 : decode cX1_doWork 4 = .ok (.aload_n 0, 1) := by decide +kernel
theorem dX1_doWork_5 : decode cX1_doWork 5 = .ok (.getfield 25, 3) := by decide +kernel
theorem dX1_doWork_8 : decode cX1_doWork 8 = .ok (.aaload, 1) := by decide +kernel
theorem dX1_doWork_9 : decode cX1_doWork 9 = .ok (.astore_n 3, 1) := by decide +kernel
theorem dX1_doWork_10 : decode cX1_doWork 10 = .ok (.aload_n 3, 1) := by decide +kernel
theorem dX1_doWork_11 : decode cX1_doWork 11 = .ok (.getfield 135, 3) := by decide +kernel
theorem dX1_doWork_14 : decode cX1_doWork 14 = .ok (.lookupswitch 61 #[(1, 26), (2, 44)], 26) := by decide +kernel
theorem dX1_doWork_40 : decode cX1_doWork 40 = .ok (.aload_n 0, 1) := by decide +kernel
theorem dX1_doWork_41 : decode cX1_doWork 41 = .ok (.aload_n 3, 1) := by decide +kernel
theorem dX1_doWork_42 : decode cX1_doWork 42 = .ok (.aload_n 1, 1) := by decide +kernel
theorem dX1_doWork_43 : decode cX1_doWork 43 = .ok (.iload_n 2, 1) := by decide +kernel
theorem dX1_doWork_44 : decode cX1_doWork 44 = .ok (.aload_n 3, 1) := by decide +kernel
theorem dX1_doWork_45 : decode cX1_doWork 45 = .ok (.getfield 138, 3) := by decide +kernel
theorem dX1_doWork_48 : decode cX1_doWork 48 = .ok (.iadd, 1) := by decide +kernel
theorem dX1_doWork_49 : decode cX1_doWork 49 = .ok (.laload, 1) := by decide +kernel
theorem dX1_doWork_50 : decode cX1_doWork 50 = .ok (.invokevirtual 141, 3) := by decide +kernel
theorem dX1_doWork_53 : decode cX1_doWork 53 = .ok (.istore 4, 2) := by decide +kernel
theorem dX1_doWork_55 : decode cX1_doWork 55 = .ok (.goto 57, 3) := by decide +kernel
theorem dX1_doWork_58 : decode cX1_doWork 58 = .ok (.aload_n 0, 1) := by decide +kernel
theorem dX1_doWork_59 : decode cX1_doWork 59 = .ok (.aload_n 3, 1) := by decide +kernel
theorem dX1_doWork_60 : decode cX1_doWork 60 = .ok (.aload_n 1, 1) := by decide +kernel
theorem dX1_doWork_61 : decode cX1_doWork 61 = .ok (.iload_n 2, 1) := by decide +kernel
theorem dX1_doWork_62 : decode cX1_doWork 62 = .ok (.aload_n 3, 1) := by decide +kernel
theorem dX1_doWork_63 : decode cX1_doWork 63 = .ok (.getfield 138, 3) := by decide +kernel
theorem dX1_doWork_66 : decode cX1_doWork 66 = .ok (.iadd, 1) := by decide +kernel
theorem dX1_doWork_67 : decode cX1_doWork 67 = .ok (.invokevirtual 145, 3) := by decide +kernel
theorem dX1_doWork_70 : decode cX1_doWork 70 = .ok (.istore 4, 2) := by decide +kernel
theorem dX1_doWork_72 : decode cX1_doWork 72 = .ok (.goto 40, 3) := by decide +kernel
theorem dX1_doWork_75 : decode cX1_doWork 75 = .ok (.aload_n 0, 1) := by decide +kernel
theorem dX1_doWork_76 : decode cX1_doWork 76 = .ok (.aload_n 3, 1) := by decide +kernel
theorem dX1_doWork_77 : decode cX1_doWork 77 = .ok (.invokevirtual 149, 3) := by decide +kernel
theorem dX1_doWork_80 : decode cX1_doWork 80 = .ok (.ifCond .eq 29, 3) := by decide +kernel
theorem dX1_doWork_83 : decode cX1_doWork 83 = .ok (.aload_n 0, 1) := by decide +kernel
theorem dX1_doWork_84 : decode cX1_doWork 84 = .ok (.aload_n 3, 1) := by decide +kernel
theorem dX1_doWork_85 : decode cX1_doWork 85 = .ok (.aload_n 1, 1) := by decide +kernel
theorem dX1_doWork_86 : decode cX1_doWork 86 = .ok (.iload_n 2, 1) := by decide +kernel
theorem dX1_doWork_87 : decode cX1_doWork 87 = .ok (.invokevirtual 153, 3) := by decide +kernel
theorem dX1_doWork_90 : decode cX1_doWork 90 = .ok (.ifCond .eq 19, 3) := by decide +kernel
theorem dX1_doWork_93 : decode cX1_doWork 93 = .ok (.aload_n 0, 1) := by decide +kernel
theorem dX1_doWork_94 : decode cX1_doWork 94 = .ok (.aload_n 3, 1) := by decide +kernel
theorem dX1_doWork_95 : decode cX1_doWork 95 = .ok (.aload_n 0, 1) := by decide +kernel
theorem dX1_doWork_96 : decode cX1_doWork 96 = .ok (.getfield 35, 3) := by decide +kernel
theorem dX1_doWork_99 : decode cX1_doWork 99 = .ok (.invokevirtual 141, 3) := by decide +kernel
theorem dX1_doWork_102 : decode cX1_doWork 102 = .ok (.ifCond .eq 7, 3) := by decide +kernel
theorem dX1_doWork_105 : decode cX1_doWork 105 = .ok (.iconst 1, 1) := by decide +kernel
theorem dX1_doWork_106 : decode cX1_doWork 106 = .ok (.goto 4, 3) := by decide +kernel
theorem dX1_doWork_109 : decode cX1_doWork 109 = .ok (.iconst 0, 1) := by decide +kernel
theorem dX1_doWork_110 : decode cX1_doWork 110 = .ok (.istore 4, 2) := by decide +kernel
theorem dX1_doWork_112 : decode cX1_doWork 112 = .ok (.iload 4, 2) := by decide +kernel
theorem dX1_doWork_114 : decode cX1_doWork 114 = .ok (.ifCond .ne 12, 3) := by decide +kernel
theorem dX1_doWork_117 : decode cX1_doWork 117 = .ok (.aload_n 0, 1) := by decide +kernel
theorem dX1_doWork_118 : decode cX1_doWork 118 = .ok (.getfield 51, 3) := by decide +kernel
theorem dX1_doWork_121 : decode cX1_doWork 121 = .ok (.iconst 2, 1) := by decide +kernel
theorem dX1_doWork_122 : decode cX1_doWork 122 = .ok (.iconst (-1), 1) := by decide +kernel
theorem dX1_doWork_123 : decode cX1_doWork 123 = .ok (.invokevirtual 112, 3) := by decide +kernel
theorem dX1_doWork_126 : decode cX1_doWork 126 = .ok (.iload 4, 2) := by decide +kernel
theorem dX1_doWork_128 : decode cX1_doWork 128 = .ok (.ireturn, 1) := by decide +kernel
theorem dX1_giveIfOf_0 : decode cX1_giveIfOf 0 = .ok (.aload_n 0, 1) := by decide +kernel
theorem dX1_giveIfOf_1 : decode cX1_giveIfOf 1 = .ok (.lload_n 2, 1) := by decide +kernel
theorem dX1_giveIfOf_2 : decode cX1_giveIfOf 2 = .ok (.putfield 35, 3) := by decide +kernel
theorem dX1_giveIfOf_5 : decode cX1_giveIfOf 5 = .ok (.aload_n 1, 1) := by decide +kernel
theorem dX1_giveIfOf_6 : decode cX1_giveIfOf 6 = .ok (.getfield 156, 3) := by decide +kernel
theorem dX1_giveIfOf_9 : decode cX1_giveIfOf 9 = .ok (.lload_n 2, 1) := by decide +kernel
theorem dX1_giveIfOf_10 : decode cX1_giveIfOf 10 = .ok (.invokestatic 108, 3) := by decide +kernel
theorem dX1_giveIfOf_13 : decode cX1_giveIfOf 13 = .ok (.ireturn, 1) := by decide +kernel
theorem dX1_addUp_0 : decode cX1_addUp 0 = .ok (.aload_n 0, 1) := by decide +kernel
theorem dX1_addUp_1 : decode cX1_addUp 1 = .ok (.aload_n 1, 1) := by decide +kernel
theorem dX1_addUp_2 : decode cX1_addUp 2 = .ok (.getfield 158, 3) := by decide +kernel
theorem dX1_addUp_5 : decode cX1_addUp 5 = .ok (.i2l, 1) := by decide +kernel
theorem dX1_addUp_6 : decode cX1_addUp 6 = .ok (.putfield 35, 3) := by decide +kernel
theorem dX1_addUp_9 : decode cX1_addUp 9 = .ok (.iconst 0, 1) := by decide +kernel
theorem dX1_addUp_10 : decode cX1_addUp 10 = .ok (.istore_n 2, 1) := by decide +kernel
theorem dX1_addUp_11 : decode cX1_addUp 11 = .ok (.iload_n 2, 1) := by decide +kernel
theorem dX1_addUp_12 : decode cX1_addUp 12 = .ok (.aload_n 1, 1) := by decide +kernel
theorem dX1_addUp_13 : decode cX1_addUp 13 = .ok (.getfield 102, 3) := by decide +kernel
theorem dX1_addUp_16 : decode cX1_addUp 16 = .ok (.if_icmp .ge 51, 3) := by decide +kernel
theorem dX1_addUp_19 : decode cX1_addUp 19 = .ok (.aload_n 0, 1) := by decide +kernel
theorem dX1_addUp_20 : decode cX1_addUp 20 = .ok (.getfield 29, 3) := by decide +kernel
theorem dX1_addUp_23 : decode cX1_addUp 23 = .ok (.iload_n 2, 1) := by decide +kernel
theorem dX1_addUp_24 : decode cX1_addUp 24 = .ok (.laload, 1) := by decide +kernel
theorem dX1_addUp_25 : decode cX1_addUp 25 = .ok (.aload_n 1, 1) := by decide +kernel
theorem dX1_addUp_26 : decode cX1_addUp 26 = .ok (.getfield 161, 3) := by decide +kernel
theorem dX1_addUp_29 : decode cX1_addUp 29 = .ok (.iload_n 2, 1) := by decide +kernel
theorem dX1_addUp_30 : decode cX1_addUp 30 = .ok (.iaload, 1) := by decide +kernel
theorem dX1_addUp_31 : decode cX1_addUp 31 = .ok (.iconst 0, 1) := by decide +kernel
theorem dX1_addUp_32 : decode cX1_addUp 32 = .ok (.invokestatic 164, 3) := by decide +kernel
theorem dX1_addUp_35 : decode cX1_addUp 35 = .ok (.ifCond .eq 24, 3) := by decide +kernel
theorem dX1_addUp_38 : decode cX1_addUp 38 = .ok (.aload_n 0, 1) := by decide +kernel
theorem dX1_addUp_39 : decode cX1_addUp 39 = .ok (.aload_n 0, 1) := by decide +kernel
theorem dX1_addUp_40 : decode cX1_addUp 40 = .ok (.getfield 29, 3) := by decide +kernel
theorem dX1_addUp_43 : decode cX1_addUp 43 = .ok (.iload_n 2, 1) := by decide +kernel
theorem dX1_addUp_44 : decode cX1_addUp 44 = .ok (.laload, 1) := by decide +kernel
theorem dX1_addUp_45 : decode cX1_addUp 45 = .ok (.aload_n 1, 1) := by decide +kernel
theorem dX1_addUp_46 : decode cX1_addUp 46 = .ok (.getfield 161, 3) := by decide +kernel
theorem dX1_addUp_49 : decode cX1_addUp 49 = .ok (.iload_n 2, 1) := by decide +kernel
theorem dX1_addUp_50 : decode cX1_addUp 50 = .ok (.iaload, 1) := by decide +kernel
theorem dX1_addUp_51 : decode cX1_addUp 51 = .ok (.i2l, 1) := by decide +kernel
theorem dX1_addUp_52 : decode cX1_addUp 52 = .ok (.lmul, 1) := by decide +kernel
theorem dX1_addUp_53 : decode cX1_addUp 53 = .ok (.invokevirtual 168, 3) := by decide +kernel
theorem dX1_addUp_56 : decode cX1_addUp 56 = .ok (.ifCond .ne 5, 3) := by decide +kernel
theorem dX1_addUp_59 : decode cX1_addUp 59 = .ok (.iconst 0, 1) := by decide +kernel
theorem dX1_addUp_60 : decode cX1_addUp 60 = .ok (.ireturn, 1) := by decide +kernel
theorem dX1_addUp_61 : decode cX1_addUp 61 = .ok (.iinc 2 1, 3) := by decide +kernel
theorem dX1_addUp_64 : decode cX1_addUp 64 = .ok (.goto (-53), 3) := by decide +kernel
theorem dX1_addUp_67 : decode cX1_addUp 67 = .ok (.iconst 1, 1) := by decide +kernel
theorem dX1_addUp_68 : decode cX1_addUp 68 = .ok (.ireturn, 1) := by decide +kernel
theorem dX1_addField_0 : decode cX1_addField 0 = .ok (.aload_n 1, 1) := by decide +kernel
theorem dX1_addField_1 : decode cX1_addField 1 = .ok (.getfield 138, 3) := by decide +kernel
theorem dX1_addField_4 : decode cX1_addField 4 = .ok (.iconst (-1), 1) := by decide +kernel
theorem dX1_addField_5 : decode cX1_addField 5 = .ok (.if_icmp .eq 18, 3) := by decide +kernel
theorem dX1_addField_8 : decode cX1_addField 8 = .ok (.aload_n 0, 1) := by decide +kernel
theorem dX1_addField_9 : decode cX1_addField 9 = .ok (.aload_n 2, 1) := by decide +kernel
theorem dX1_addField_10 : decode cX1_addField 10 = .ok (.iload_n 3, 1) := by decide +kernel
theorem dX1_addField_11 : decode cX1_addField 11 = .ok (.aload_n 1, 1) := by decide +kernel
theorem dX1_addField_12 : decode cX1_addField 12 = .ok (.getfield 138, 3) := by decide +kernel
theorem dX1_addField_15 : decode cX1_addField 15 = .ok (.iadd, 1) := by decide +kernel
theorem dX1_addField_16 : decode cX1_addField 16 = .ok (.laload, 1) := by decide +kernel
theorem dX1_addField_17 : decode cX1_addField 17 = .ok (.invokevirtual 168, 3) := by decide +kernel
theorem dX1_addField_20 : decode cX1_addField 20 = .ok (.ifCond .eq 7, 3) := by decide +kernel
theorem dX1_addField_23 : decode cX1_addField 23 = .ok (.iconst 1, 1) := by decide +kernel
theorem dX1_addField_24 : decode cX1_addField 24 = .ok (.goto 4, 3) := by decide +kernel
theorem dX1_addField_27 : decode cX1_addField 27 = .ok (.iconst 0, 1) := by decide +kernel
theorem dX1_addField_28 : decode cX1_addField 28 = .ok (.ireturn, 1) := by decide +kernel
theorem dX1_addTo_0 : decode cX1_addTo 0 = .ok (.aload_n 0, 1) := by decide +kernel
theorem dX1_addTo_1 : decode cX1_addTo 1 = .ok (.getfield 35, 3) := by decide +kernel
theorem dX1_addTo_4 : decode cX1_addTo 4 = .ok (.lload_n 1, 1) := by decide +kernel
theorem dX1_addTo_5 : decode cX1_addTo 5 = .ok (.invokestatic 172, 3) := by decide +kernel
theorem dX1_addTo_8 : decode cX1_addTo 8 = .ok (.istore_n 3, 1) := by decide +kernel
theorem dX1_addTo_9 : decode cX1_addTo 9 = .ok (.aload_n 0, 1) := by decide +kernel
theorem dX1_addTo_10 : decode cX1_addTo 10 = .ok (.dup, 1) := by decide +kernel
theorem dX1_addTo_11 : decode cX1_addTo 11 = .ok (.getfield 35, 3) := by decide +kernel
theorem dX1_addTo_14 : decode cX1_addTo 14 = .ok (.lload_n 1, 1) := by decide +kernel
theorem dX1_addTo_15 : decode cX1_addTo 15 = .ok (.ladd, 1) := by decide +kernel
theorem dX1_addTo_16 : decode cX1_addTo 16 = .ok (.putfield 35, 3) := by decide +kernel
theorem dX1_addTo_19 : decode cX1_addTo 19 = .ok (.iload_n 3, 1) := by decide +kernel
theorem dX1_addTo_20 : decode cX1_addTo 20 = .ok (.ireturn, 1) := by decide +kernel
theorem dX1_writeField_0 : decode cX1_writeField 0 = .ok (.aload_n 0, 1) := by decide +kernel
theorem dX1_writeField_1 : decode cX1_writeField 1 = .ok (.lconst 0, 1) := by decide +kernel
theorem dX1_writeField_2 : decode cX1_writeField 2 = .ok (.putfield 35, 3) := by decide +kernel
theorem dX1_writeField_5 : decode cX1_writeField 5 = .ok (.iconst 0, 1) := by decide +kernel
theorem dX1_writeField_6 : decode cX1_writeField 6 = .ok (.istore 4, 2) := by decide +kernel
theorem dX1_writeField_8 : decode cX1_writeField 8 = .ok (.iload 4, 2) := by decide +kernel
theorem dX1_writeField_10 : decode cX1_writeField 10 = .ok (.aload_n 1, 1) := by decide +kernel
theorem dX1_writeField_11 : decode cX1_writeField 11 = .ok (.getfield 102, 3) := by decide +kernel
theorem dX1_writeField_14 : decode cX1_writeField 14 = .ok (.if_icmp .ge 25, 3) := by decide +kernel
theorem dX1_writeField_17 : decode cX1_writeField 17 = .ok (.aload_n 0, 1) := by decide +kernel
theorem dX1_writeField_18 : decode cX1_writeField 18 = .ok (.aload_n 0, 1) := by decide +kernel
theorem dX1_writeField_19 : decode cX1_writeField 19 = .ok (.getfield 29, 3) := by decide +kernel
theorem dX1_writeField_22 : decode cX1_writeField 22 = .ok (.iload 4, 2) := by decide +kernel
theorem dX1_writeField_24 : decode cX1_writeField 24 = .ok (.laload, 1) := by decide +kernel
theorem dX1_writeField_25 : decode cX1_writeField 25 = .ok (.invokevirtual 168, 3) := by decide +kernel
theorem dX1_writeField_28 : decode cX1_writeField 28 = .ok (.ifCond .ne 5, 3) := by decide +kernel
theorem dX1_writeField_31 : decode cX1_writeField 31 = .ok (.iconst 0, 1) := by decide +kernel
theorem dX1_writeField_32 : decode cX1_writeField 32 = .ok (.ireturn, 1) := by decide +kernel
theorem dX1_writeField_33 : decode cX1_writeField 33 = .ok (.iinc 4 1, 3) := by decide +kernel
theorem dX1_writeField_36 : decode cX1_writeField 36 = .ok (.goto (-28), 3) := by decide +kernel
theorem dX1_writeField_39 : decode cX1_writeField 39 = .ok (.aload_n 0, 1) := by decide +kernel
theorem dX1_writeField_40 : decode cX1_writeField 40 = .ok (.getfield 35, 3) := by decide +kernel
theorem dX1_writeField_43 : decode cX1_writeField 43 = .ok (.lstore 4, 2) := by decide +kernel
theorem dX1_writeField_45 : decode cX1_writeField 45 = .ok (.aload_n 0, 1) := by decide +kernel
theorem dX1_writeField_46 : decode cX1_writeField 46 = .ok (.aload_n 1, 1) := by decide +kernel
theorem dX1_writeField_47 : decode cX1_writeField 47 = .ok (.aload_n 2, 1) := by decide +kernel
theorem dX1_writeField_48 : decode cX1_writeField 48 = .ok (.iload_n 3, 1) := by decide +kernel
theorem dX1_writeField_49 : decode cX1_writeField 49 = .ok (.laload, 1) := by decide +kernel
theorem dX1_writeField_50 : decode cX1_writeField 50 = .ok (.invokevirtual 141, 3) := by decide +kernel
theorem dX1_writeField_53 : decode cX1_writeField 53 = .ok (.ifCond .ne 5, 3) := by decide +kernel
theorem dX1_writeField_56 : decode cX1_writeField 56 = .ok (.iconst 0, 1) := by decide +kernel
theorem dX1_writeField_57 : decode cX1_writeField 57 = .ok (.ireturn, 1) := by decide +kernel
theorem dX1_writeField_58 : decode cX1_writeField 58 = .ok (.aload_n 2, 1) := by decide +kernel
theorem dX1_writeField_59 : decode cX1_writeField 59 = .ok (.iload_n 3, 1) := by decide +kernel
theorem dX1_writeField_60 : decode cX1_writeField 60 = .ok (.lload 4, 2) := by decide +kernel
theorem dX1_writeField_62 : decode cX1_writeField 62 = .ok (.lastore, 1) := by decide +kernel
theorem dX1_writeField_63 : decode cX1_writeField 63 = .ok (.iconst 1, 1) := by decide +kernel
theorem dX1_writeField_64 : decode cX1_writeField 64 = .ok (.ireturn, 1) := by decide +kernel
theorem dX1_passBack_0 : decode cX1_passBack 0 = .ok (.aload_n 0, 1) := by decide +kernel
theorem dX1_passBack_1 : decode cX1_passBack 1 = .ok (.getfield 25, 3) := by decide +kernel
theorem dX1_passBack_4 : decode cX1_passBack 4 = .ok (.istore_n 1, 1) := by decide +kernel
theorem dX1_passBack_5 : decode cX1_passBack 5 = .ok (.iload_n 1, 1) := by decide +kernel
theorem dX1_passBack_6 : decode cX1_passBack 6 = .ok (.ifCond .le 71, 3) := by decide +kernel
theorem dX1_passBack_9 : decode cX1_passBack 9 = .ok (.aload_n 0, 1) := by decide +kernel
theorem dX1_passBack_10 : decode cX1_passBack 10 = .ok (.getfield 39, 3) := by decide +kernel
theorem dX1_passBack_13 : decode cX1_passBack 13 = .ok (.aload_n 0, 1) := by decide +kernel
theorem dX1_passBack_14 : decode cX1_passBack 14 = .ok (.getfield 17, 3) := by decide +kernel
theorem dX1_passBack_17 : decode cX1_passBack 17 = .ok (.iload_n 1, 1) := by decide +kernel
theorem dX1_passBack_18 : decode cX1_passBack 18 = .ok (.aaload, 1) := by decide +kernel
theorem dX1_passBack_19 : decode cX1_passBack 19 = .ok (.getfield 156, 3) := by decide +kernel
theorem dX1_passBack_22 : decode cX1_passBack 22 = .ok (.aload_n 0, 1) := by decide +kernel
theorem dX1_passBack_23 : decode cX1_passBack 23 = .ok (.getfield 17, 3) := by decide +kernel
theorem dX1_passBack_26 : decode cX1_passBack 26 = .ok (.iload_n 1, 1) := by decide +kernel
theorem dX1_passBack_27 : decode cX1_passBack 27 = .ok (.iconst 1, 1) := by decide +kernel
theorem dX1_passBack_28 : decode cX1_passBack 28 = .ok (.isub, 1) := by decide +kernel
theorem dX1_passBack_29 : decode cX1_passBack 29 = .ok (.aaload, 1) := by decide +kernel
theorem dX1_passBack_30 : decode cX1_passBack 30 = .ok (.getfield 156, 3) := by decide +kernel
theorem dX1_passBack_33 : decode cX1_passBack 33 = .ok (.aload_n 0, 1) := by decide +kernel
theorem dX1_passBack_34 : decode cX1_passBack 34 = .ok (.getfield 35, 3) := by decide +kernel
theorem dX1_passBack_37 : decode cX1_passBack 37 = .ok (.invokevirtual 130, 3) := by decide +kernel
theorem dX1_passBack_40 : decode cX1_passBack 40 = .ok (.ifCond .ne 20, 3) := by decide +kernel
theorem dX1_passBack_43 : decode cX1_passBack 43 = .ok (.aload_n 0, 1) := by decide +kernel
theorem dX1_passBack_44 : decode cX1_passBack 44 = .ok (.getfield 51, 3) := by decide +kernel
theorem dX1_passBack_47 : decode cX1_passBack 47 = .ok (.iconst 3, 1) := by decide +kernel
theorem dX1_passBack_48 : decode cX1_passBack 48 = .ok (.aload_n 0, 1) := by decide +kernel
theorem dX1_passBack_49 : decode cX1_passBack 49 = .ok (.getfield 39, 3) := by decide +kernel
theorem dX1_passBack_52 : decode cX1_passBack 52 = .ok (.getfield 120, 3) := by decide +kernel
theorem dX1_passBack_55 : decode cX1_passBack 55 = .ok (.invokevirtual 112, 3) := by decide +kernel
theorem dX1_passBack_58 : decode cX1_passBack 58 = .ok (.iconst 0, 1) := by decide +kernel
theorem dX1_passBack_59 : decode cX1_passBack 59 = .ok (.ireturn, 1) := by decide +kernel
theorem dX1_passBack_60 : decode cX1_passBack 60 = .ok (.aload_n 0, 1) := by decide +kernel
theorem dX1_passBack_61 : decode cX1_passBack 61 = .ok (.aload_n 0, 1) := by decide +kernel
theorem dX1_passBack_62 : decode cX1_passBack 62 = .ok (.getfield 39, 3) := by decide +kernel
theorem dX1_passBack_65 : decode cX1_passBack 65 = .ok (.getfield 134, 3) := by decide +kernel
theorem dX1_passBack_68 : decode cX1_passBack 68 = .ok (.putfield 35, 3) := by decide +kernel
theorem dX1_passBack_71 : decode cX1_passBack 71 = .ok (.iinc 1 (-1), 3) := by decide +kernel
theorem dX1_passBack_74 : decode cX1_passBack 74 = .ok (.goto (-69), 3) := by decide +kernel
theorem dX1_passBack_77 : decode cX1_passBack 77 = .ok (.iconst 1, 1) := by decide +kernel
theorem dX1_passBack_78 : decode cX1_passBack 78 = .ok (.ireturn, 1) := by decide +kernel
theorem dX2_init_0 : decode cX2_init 0 = .ok (.aload_n 0, 1) := by decide +kernel
theorem dX2_init_1 : decode cX2_init 1 = .ok (.invokespecial 3, 3) := by decide +kernel
theorem dX2_init_4 : decode cX2_init 4 = .ok (.aload_n 0, 1) := by decide +kernel
theorem dX2_init_5 : decode cX2_init 5 = .ok (.bipush 7, 2) := by decide +kernel
theorem dX2_init_7 : decode cX2_init 7 = .ok (.newarray .boolean, 2) := by decide +kernel
theorem dX2_init_9 : decode cX2_init 9 = .ok (.putfield 9, 3) := by decide +kernel
theorem dX2_init_12 : decode cX2_init 12 = .ok (.aload_n 0, 1) := by decide +kernel
theorem dX2_init_13 : decode cX2_init 13 = .ok (.bipush 7, 2) := by decide +kernel
theorem dX2_init_15 : decode cX2_init 15 = .ok (.newarray .long, 2) := by decide +kernel
theorem dX2_init_17 : decode cX2_init 17 = .ok (.putfield 15, 3) := by decide +kernel
theorem dX2_init_20 : decode cX2_init 20 = .ok (.return_, 1) := by decide +kernel
theorem dX2_held_0 : decode cX2_held 0 = .ok (.iconst 0, 1) := by decide +kernel
theorem dX2_held_1 : decode cX2_held 1 = .ok (.istore_n 1, 1) := by decide +kernel
theorem dX2_held_2 : decode cX2_held 2 = .ok (.aload_n 0, 1) := by decide +kernel
theorem dX2_held_3 : decode cX2_held 3 = .ok (.getfield 9, 3) := by decide +kernel
theorem dX2_held_6 : decode cX2_held 6 = .ok (.astore_n 2, 1) := by decide +kernel
theorem dX2_held_7 : decode cX2_held 7 = .ok (.aload_n 2, 1) := by decide +kernel
theorem dX2_held_8 : decode cX2_held 8 = .ok (.arraylength, 1) := by decide +kernel
theorem dX2_held_9 : decode cX2_held 9 = .ok (.istore_n 3, 1) := by decide +kernel
theorem dX2_held_10 : decode cX2_held 10 = .ok (.iconst 0, 1) := by decide +kernel
theorem dX2_held_11 : decode cX2_held 11 = .ok (.istore 4, 2) := by decide +kernel
theorem dX2_held_13 : decode cX2_held 13 = .ok (.iload 4, 2) := by decide +kernel
theorem dX2_held_15 : decode cX2_held 15 = .ok (.iload_n 3, 1) := by decide +kernel
theorem dX2_held_16 : decode cX2_held 16 = .ok (.if_icmp .ge 28, 3) := by decide +kernel
theorem dX2_held_19 : decode cX2_held 19 = .ok (.aload_n 2, 1) := by decide +kernel
theorem dX2_held_20 : decode cX2_held 20 = .ok (.iload 4, 2) := by decide +kernel
theorem dX2_held_22 : decode cX2_held 22 = .ok (.baload, 1) := by decide +kernel
theorem dX2_held_23 : decode cX2_held 23 = .ok (.istore 5, 2) := by decide +kernel
theorem dX2_held_25 : decode cX2_held 25 = .ok (.iload_n 1, 1) := by decide +kernel
theorem dX2_held_26 : decode cX2_held 26 = .ok (.iload 5, 2) := by decide +kernel
theorem dX2_held_28 : decode cX2_held 28 = .ok (.ifCond .eq 7, 3) := by decide +kernel
theorem dX2_held_31 : decode cX2_held 31 = .ok (.iconst 1, 1) := by decide +kernel
theorem dX2_held_32 : decode cX2_held 32 = .ok (.goto 4, 3) := by decide +kernel
theorem dX2_held_35 : decode cX2_held 35 = .ok (.iconst 0, 1) := by decide +kernel
theorem dX2_held_36 : decode cX2_held 36 = .ok (.iadd, 1) := by decide +kernel
theorem dX2_held_37 : decode cX2_held 37 = .ok (.istore_n 1, 1) := by decide +kernel
theorem dX2_held_38 : decode cX2_held 38 = .ok (.iinc 4 1, 3) := by decide +kernel
theorem dX2_held_41 : decode cX2_held 41 = .ok (.goto (-28), 3) := by decide +kernel
theorem dX2_held_44 : decode cX2_held 44 = .ok (.iload_n 1, 1) := by decide +kernel
theorem dX2_held_45 : decode cX2_held 45 = .ok (.ireturn, 1) := by decide +kernel
theorem dX3_init_0 : decode cX3_init 0 = .ok (.aload_n 0, 1) := by decide +kernel
theorem dX3_init_1 : decode cX3_init 1 = .ok (.invokespecial 3, 3) := by decide +kernel
theorem dX3_init_4 : decode cX3_init 4 = .ok (.aload_n 0, 1) := by decide +kernel
theorem dX3_init_5 : decode cX3_init 5 = .ok (.iconst 4, 1) := by decide +kernel
theorem dX3_init_6 : decode cX3_init 6 = .ok (.newarray .int, 2) := by decide +kernel
theorem dX3_init_8 : decode cX3_init 8 = .ok (.putfield 9, 3) := by decide +kernel
theorem dX3_init_11 : decode cX3_init 11 = .ok (.aload_n 0, 1) := by decide +kernel
theorem dX3_init_12 : decode cX3_init 12 = .ok (.ldc 15, 2) := by decide +kernel
theorem dX3_init_14 : decode cX3_init 14 = .ok (.putfield 16, 3) := by decide +kernel
theorem dX3_init_17 : decode cX3_init 17 = .ok (.aload_n 0, 1) := by decide +kernel
theorem dX3_init_18 : decode cX3_init 18 = .ok (.iconst (-1), 1) := by decide +kernel
theorem dX3_init_19 : decode cX3_init 19 = .ok (.putfield 20, 3) := by decide +kernel
theorem dX3_init_22 : decode cX3_init 22 = .ok (.aload_n 0, 1) := by decide +kernel
theorem dX3_init_23 : decode cX3_init 23 = .ok (.iconst 4, 1) := by decide +kernel
theorem dX3_init_24 : decode cX3_init 24 = .ok (.newarray .int, 2) := by decide +kernel
theorem dX3_init_26 : decode cX3_init 26 = .ok (.putfield 23, 3) := by decide +kernel
theorem dX3_init_29 : decode cX3_init 29 = .ok (.aload_n 0, 1) := by decide +kernel
theorem dX3_init_30 : decode cX3_init 30 = .ok (.aload_n 1, 1) := by decide +kernel
theorem dX3_init_31 : decode cX3_init 31 = .ok (.putfield 26, 3) := by decide +kernel
theorem dX3_init_34 : decode cX3_init 34 = .ok (.aload_n 0, 1) := by decide +kernel
theorem dX3_init_35 : decode cX3_init 35 = .ok (.aload_n 2, 1) := by decide +kernel
theorem dX3_init_36 : decode cX3_init 36 = .ok (.putfield 30, 3) := by decide +kernel
theorem dX3_init_39 : decode cX3_init 39 = .ok (.aload_n 0, 1) := by decide +kernel
theorem dX3_init_40 : decode cX3_init 40 = .ok (.aload_n 3, 1) := by decide +kernel
theorem dX3_init_41 : decode cX3_init 41 = .ok (.putfield 34, 3) := by decide +kernel
theorem dX3_init_44 : decode cX3_init 44 = .ok (.return_, 1) := by decide +kernel
theorem dX3_find_0 : decode cX3_find 0 = .ok (.aload_n 0, 1) := by decide +kernel
theorem dX3_find_1 : decode cX3_find 1 = .ok (.ldc 15, 2) := by decide +kernel
theorem dX3_find_3 : decode cX3_find 3 = .ok (.putfield 16, 3) := by decide +kernel
theorem dX3_find_6 : decode cX3_find 6 = .ok (.aload_n 0, 1) := by decide +kernel
theorem dX3_find_7 : decode cX3_find 7 = .ok (.iconst (-1), 1) := by decide +kernel
theorem dX3_find_8 : decode cX3_find 8 = .ok (.putfield 20, 3) := by decide +kernel
theorem dX3_find_11 : decode cX3_find 11 = .ok (.iconst 0, 1) := by decide +kernel
theorem dX3_find_12 : decode cX3_find 12 = .ok (.istore_n 3, 1) := by decide +kernel
theorem dX3_find_13 : decode cX3_find 13 = .ok (.iload_n 3, 1) := by decide +kernel
theorem dX3_find_14 : decode cX3_find 14 = .ok (.aload_n 2, 1) := by decide +kernel
theorem dX3_find_15 : decode cX3_find 15 = .ok (.getfield 38, 3) := by decide +kernel
theorem dX3_find_18 : decode cX3_find 18 = .ok (.if_icmp .ge 51, 3) := by decide +kernel
theorem dX3_find_21 : decode cX3_find 21 = .ok (.aload_n 2, 1) := by decide +kernel
theorem dX3_find_22 : decode cX3_find 22 = .ok (.getfield 43, 3) := by decide +kernel
theorem dX3_find_25 : decode cX3_find 25 = .ok (.iload_n 3, 1) := by decide +kernel
theorem dX3_find_26 : decode cX3_find 26 = .ok (.aaload, 1) := by decide +kernel
theorem dX3_find_27 : decode cX3_find 27 = .ok (.astore 4, 2) := by decide +kernel
theorem dX3_find_29 : decode cX3_find 29 = .ok (.aload_n 0, 1) := by decide +kernel
theorem dX3_find_30 : decode cX3_find 30 = .ok (.aload_n 1, 1) := by decide +kernel
theorem dX3_find_31 : decode cX3_find 31 = .ok (.aload 4, 2) := by decide +kernel
theorem dX3_find_33 : decode cX3_find 33 = .ok (.invokevirtual 47, 3) := by decide +kernel
theorem dX3_find_36 : decode cX3_find 36 = .ok (.istore 5, 2) := by decide +kernel
theorem dX3_find_38 : decode cX3_find 38 = .ok (.iload 5, 2) := by decide +kernel
theorem dX3_find_40 : decode cX3_find 40 = .ok (.iconst (-1), 1) := by decide +kernel
theorem dX3_find_41 : decode cX3_find 41 = .ok (.if_icmp .eq 22, 3) := by decide +kernel
theorem dX3_find_44 : decode cX3_find 44 = .ok (.aload_n 0, 1) := by decide +kernel
theorem dX3_find_45 : decode cX3_find 45 = .ok (.aload_n 1, 1) := by decide +kernel
theorem dX3_find_46 : decode cX3_find 46 = .ok (.aload 4, 2) := by decide +kernel
theorem dX3_find_48 : decode cX3_find 48 = .ok (.iconst 0, 1) := by decide +kernel
theorem dX3_find_49 : decode cX3_find 49 = .ok (.iconst 0, 1) := by decide +kernel
theorem dX3_find_50 : decode cX3_find 50 = .ok (.iload 5, 2) := by decide +kernel
theorem dX3_find_52 : decode cX3_find 52 = .ok (.invokevirtual 51, 3) := by decide +kernel
theorem dX3_find_55 : decode cX3_find 55 = .ok (.ifCond .eq 8, 3) := by decide +kernel
theorem dX3_find_58 : decode cX3_find 58 = .ok (.aload_n 0, 1) := by decide +kernel
theorem dX3_find_59 : decode cX3_find 59 = .ok (.iload_n 3, 1) := by decide +kernel
theorem dX3_find_60 : decode cX3_find 60 = .ok (.putfield 20, 3) := by decide +kernel
theorem dX3_find_63 : decode cX3_find 63 = .ok (.iinc 3 1, 3) := by decide +kernel
theorem dX3_find_66 : decode cX3_find 66 = .ok (.goto (-53), 3) := by decide +kernel
theorem dX3_find_69 : decode cX3_find 69 = .ok (.aload_n 0, 1) := by decide +kernel
theorem dX3_find_70 : decode cX3_find 70 = .ok (.getfield 20, 3) := by decide +kernel
theorem dX3_find_73 : decode cX3_find 73 = .ok (.iconst (-1), 1) := by decide +kernel
theorem dX3_find_74 : decode cX3_find 74 = .ok (.if_icmp .eq 7, 3) := by decide +kernel
theorem dX3_find_77 : decode cX3_find 77 = .ok (.iconst 1, 1) := by decide +kernel
theorem dX3_find_78 : decode cX3_find 78 = .ok (.goto 4, 3) := by decide +kernel
theorem dX3_find_81 : decode cX3_find 81 = .ok (.iconst 0, 1) := by decide +kernel
theorem dX3_find_82 : decode cX3_find 82 = .ok (.ireturn, 1) := by decide +kernel
theorem dX3_costOfAll_0 : decode cX3_costOfAll 0 = .ok (.iconst 0, 1) := by decide +kernel
theorem dX3_costOfAll_1 : decode cX3_costOfAll 1 = .ok (.istore_n 3, 1) := by decide +kernel
theorem dX3_costOfAll_2 : decode cX3_costOfAll 2 = .ok (.iconst 0, 1) := by decide +kernel
theorem dX3_costOfAll_3 : decode cX3_costOfAll 3 = .ok (.istore 4, 2) := by decide +kernel
theorem dX3_costOfAll_5 : decode cX3_costOfAll 5 = .ok (.iload 4, 2) := by decide +kernel
theorem dX3_costOfAll_7 : decode cX3_costOfAll 7 = .ok (.aload_n 1, 1) := by decide +kernel
theorem dX3_costOfAll_8 : decode cX3_costOfAll 8 = .ok (.getfield 38, 3) := by decide +kernel
theorem dX3_costOfAll_11 : decode cX3_costOfAll 11 = .ok (.if_icmp .ge 34, 3) := by decide +kernel
theorem dX3_costOfAll_14 : decode cX3_costOfAll 14 = .ok (.aload_n 0, 1) := by decide +kernel
theorem dX3_costOfAll_15 : decode cX3_costOfAll 15 = .ok (.aload_n 1, 1) := by decide +kernel
theorem dX3_costOfAll_16 : decode cX3_costOfAll 16 = .ok (.getfield 43, 3) := by decide +kernel
theorem dX3_costOfAll_19 : decode cX3_costOfAll 19 = .ok (.iload 4, 2) := by decide +kernel
theorem dX3_costOfAll_21 : decode cX3_costOfAll 21 = .ok (.aaload, 1) := by decide +kernel
theorem dX3_costOfAll_22 : decode cX3_costOfAll 22 = .ok (.aload_n 2, 1) := by decide +kernel
theorem dX3_costOfAll_23 : decode cX3_costOfAll 23 = .ok (.invokevirtual 55, 3) := by decide +kernel
theorem dX3_costOfAll_26 : decode cX3_costOfAll 26 = .ok (.ifCond .ne 6, 3) := by decide +kernel
theorem dX3_costOfAll_29 : decode cX3_costOfAll 29 = .ok (.bipush (-6), 2) := by decide +kernel
theorem dX3_costOfAll_31 : decode cX3_costOfAll 31 = .ok (.ireturn, 1) := by decide +kernel
theorem dX3_costOfAll_32 : decode cX3_costOfAll 32 = .ok (.iload_n 3, 1) := by decide +kernel
theorem dX3_costOfAll_33 : decode cX3_costOfAll 33 = .ok (.aload_n 0, 1) := by decide +kernel
theorem dX3_costOfAll_34 : decode cX3_costOfAll 34 = .ok (.getfield 16, 3) := by decide +kernel
theorem dX3_costOfAll_37 : decode cX3_costOfAll 37 = .ok (.iadd, 1) := by decide +kernel
theorem dX3_costOfAll_38 : decode cX3_costOfAll 38 = .ok (.istore_n 3, 1) := by decide +kernel
theorem dX3_costOfAll_39 : decode cX3_costOfAll 39 = .ok (.iinc 4 1, 3) := by decide +kernel
theorem dX3_costOfAll_42 : decode cX3_costOfAll 42 = .ok (.goto (-37), 3) := by decide +kernel
theorem dX3_costOfAll_45 : decode cX3_costOfAll 45 = .ok (.iload_n 3, 1) := by decide +kernel
theorem dX3_costOfAll_46 : decode cX3_costOfAll 46 = .ok (.ireturn, 1) := by decide +kernel
theorem dX3_firstGap_0 : decode cX3_firstGap 0 = .ok (.iconst 0, 1) := by decide +kernel
theorem dX3_firstGap_1 : decode cX3_firstGap 1 = .ok (.istore_n 3, 1) := by decide +kernel
theorem dX3_firstGap_2 : decode cX3_firstGap 2 = .ok (.iload_n 3, 1) := by decide +kernel
theorem dX3_firstGap_3 : decode cX3_firstGap 3 = .ok (.aload_n 1, 1) := by decide +kernel
theorem dX3_firstGap_4 : decode cX3_firstGap 4 = .ok (.getfield 38, 3) := by decide +kernel
theorem dX3_firstGap_7 : decode cX3_firstGap 7 = .ok (.if_icmp .ge 25, 3) := by decide +kernel
theorem dX3_firstGap_10 : decode cX3_firstGap 10 = .ok (.aload_n 0, 1) := by decide +kernel
theorem dX3_firstGap_11 : decode cX3_firstGap 11 = .ok (.aload_n 1, 1) := by decide +kernel
theorem dX3_firstGap_12 : decode cX3_firstGap 12 = .ok (.getfield 43, 3) := by decide +kernel
theorem dX3_firstGap_15 : decode cX3_firstGap 15 = .ok (.iload_n 3, 1) := by decide +kernel
theorem dX3_firstGap_16 : decode cX3_firstGap 16 = .ok (.aaload, 1) := by decide +kernel
theorem dX3_firstGap_17 : decode cX3_firstGap 17 = .ok (.aload_n 2, 1) := by decide +kernel
theorem dX3_firstGap_18 : decode cX3_firstGap 18 = .ok (.invokevirtual 55, 3) := by decide +kernel
theorem dX3_firstGap_21 : decode cX3_firstGap 21 = .ok (.ifCond .ne 5, 3) := by decide +kernel
theorem dX3_firstGap_24 : decode cX3_firstGap 24 = .ok (.iload_n 3, 1) := by decide +kernel
theorem dX3_firstGap_25 : decode cX3_firstGap 25 = .ok (.ireturn, 1) := by decide +kernel
theorem dX3_firstGap_26 : decode cX3_firstGap 26 = .ok (.iinc 3 1, 3) := by decide +kernel
theorem dX3_firstGap_29 : decode cX3_firstGap 29 = .ok (.goto (-27), 3) := by decide +kernel
theorem dX3_firstGap_32 : decode cX3_firstGap 32 = .ok (.iconst (-1), 1) := by decide +kernel
theorem dX3_firstGap_33 : decode cX3_firstGap 33 = .ok (.ireturn, 1) := by decide +kernel
theorem dX3_startOf_0 : decode cX3_startOf 0 = .ok (.aload_n 1, 1) := by decide +kernel
theorem dX3_startOf_1 : decode cX3_startOf 1 = .ok (.getfield 59, 3) := by decide +kernel
theorem dX3_startOf_4 : decode cX3_startOf 4 = .ok (.aload_n 2, 1) := by decide +kernel
theorem dX3_startOf_5 : decode cX3_startOf 5 = .ok (.getfield 59, 3) := by decide +kernel
theorem dX3_startOf_8 : decode cX3_startOf 8 = .ok (.if_icmp .ne 7, 3) := by decide +kernel
theorem dX3_startOf_11 : decode cX3_startOf 11 = .ok (.iconst 1, 1) := by decide +kernel
theorem dX3_startOf_12 : decode cX3_startOf 12 = .ok (.goto 4, 3) := by decide +kernel
theorem dX3_startOf_15 : decode cX3_startOf 15 = .ok (.iconst 0, 1) := by decide +kernel
theorem dX3_startOf_16 : decode cX3_startOf 16 = .ok (.istore_n 3, 1) := by decide +kernel
theorem dX3_startOf_17 : decode cX3_startOf 17 = .ok (.iload_n 3, 1) := by decide +kernel
theorem dX3_startOf_18 : decode cX3_startOf 18 = .ok (.ifCond .ne 23, 3) := by decide +kernel
theorem dX3_startOf_21 : decode cX3_startOf 21 = .ok (.aload_n 0, 1) := by decide +kernel
theorem dX3_startOf_22 : decode cX3_startOf 22 = .ok (.getfield 30, 3) := by decide +kernel
theorem dX3_startOf_25 : decode cX3_startOf 25 = .ok (.aload_n 1, 1) := by decide +kernel
theorem dX3_startOf_26 : decode cX3_startOf 26 = .ok (.getfield 59, 3) := by decide +kernel
theorem dX3_startOf_29 : decode cX3_startOf 29 = .ok (.aload_n 2, 1) := by decide +kernel
theorem dX3_startOf_30 : decode cX3_startOf 30 = .ok (.getfield 59, 3) := by decide +kernel
theorem dX3_startOf_33 : decode cX3_startOf 33 = .ok (.invokevirtual 64, 3) := by decide +kernel
theorem dX3_startOf_36 : decode cX3_startOf 36 = .ok (.ifCond .ne 5, 3) := by decide +kernel
theorem dX3_startOf_39 : decode cX3_startOf 39 = .ok (.iconst (-1), 1) := by decide +kernel
theorem dX3_startOf_40 : decode cX3_startOf 40 = .ok (.ireturn, 1) := by decide +kernel
theorem dX3_startOf_41 : decode cX3_startOf 41 = .ok (.aload_n 0, 1) := by decide +kernel
theorem dX3_startOf_42 : decode cX3_startOf 42 = .ok (.getfield 26, 3) := by decide +kernel
theorem dX3_startOf_45 : decode cX3_startOf 45 = .ok (.aload_n 2, 1) := by decide +kernel
theorem dX3_startOf_46 : decode cX3_startOf 46 = .ok (.getfield 70, 3) := by decide +kernel
end
section
theorem dX3_startOf_49 : decode cX3_startOf 49 = .ok (.aload_n 1, 1) := by decide +kernel
theorem dX3_startOf_50 : decode cX3_startOf 50 = .ok (.getfield 70, 3) := by decide +kernel
theorem dX3_startOf_53 : decode cX3_startOf 53 = .ok (.invokevirtual 73, 3) := by decide +kernel
theorem dX3_startOf_56 : decode cX3_startOf 56 = .ok (.istore 4, 2) := by decide +kernel
theorem dX3_startOf_58 : decode cX3_startOf 58 = .ok (.iload 4, 2) := by decide +kernel
theorem dX3_startOf_60 : decode cX3_startOf 60 = .ok (.iconst (-1), 1) := by decide +kernel
theorem dX3_startOf_61 : decode cX3_startOf 61 = .ok (.if_icmp .eq 7, 3) := by decide +kernel
theorem dX3_startOf_64 : decode cX3_startOf 64 = .ok (.iload_n 3, 1) := by decide +kernel
theorem dX3_startOf_65 : decode cX3_startOf 65 = .ok (.ifCond .eq 8, 3) := by decide +kernel
theorem dX3_startOf_68 : decode cX3_startOf 68 = .ok (.iload 4, 2) := by decide +kernel
theorem dX3_startOf_70 : decode cX3_startOf 70 = .ok (.goto 7, 3) := by decide +kernel
theorem dX3_startOf_73 : decode cX3_startOf 73 = .ok (.iload 4, 2) := by decide +kernel
theorem dX3_startOf_75 : decode cX3_startOf 75 = .ok (.iconst 2, 1) := by decide +kernel
theorem dX3_startOf_76 : decode cX3_startOf 76 = .ok (.iadd, 1) := by decide +kernel
theorem dX3_startOf_77 : decode cX3_startOf 77 = .ok (.ireturn, 1) := by decide +kernel
theorem dX3_assign_0 : decode cX3_assign 0 = .ok (.iload 5, 2) := by decide +kernel
theorem dX3_assign_2 : decode cX3_assign 2 = .ok (.aload_n 0, 1) := by decide +kernel
theorem dX3_assign_3 : decode cX3_assign 3 = .ok (.getfield 16, 3) := by decide +kernel
theorem dX3_assign_6 : decode cX3_assign 6 = .ok (.if_icmp .lt 5, 3) := by decide +kernel
theorem dX3_assign_9 : decode cX3_assign 9 = .ok (.iconst 0, 1) := by decide +kernel
theorem dX3_assign_10 : decode cX3_assign 10 = .ok (.ireturn, 1) := by decide +kernel
theorem dX3_assign_11 : decode cX3_assign 11 = .ok (.iload_n 3, 1) := by decide +kernel
theorem dX3_assign_12 : decode cX3_assign 12 = .ok (.aload_n 2, 1) := by decide +kernel
theorem dX3_assign_13 : decode cX3_assign 13 = .ok (.getfield 79, 3) := by decide +kernel
theorem dX3_assign_16 : decode cX3_assign 16 = .ok (.if_icmp .lt 23, 3) := by decide +kernel
theorem dX3_assign_19 : decode cX3_assign 19 = .ok (.aload_n 0, 1) := by decide +kernel
theorem dX3_assign_20 : decode cX3_assign 20 = .ok (.iload 5, 2) := by decide +kernel
theorem dX3_assign_22 : decode cX3_assign 22 = .ok (.iconst 4, 1) := by decide +kernel
theorem dX3_assign_23 : decode cX3_assign 23 = .ok (.aload_n 1, 1) := by decide +kernel
theorem dX3_assign_24 : decode cX3_assign 24 = .ok (.getfield 79, 3) := by decide +kernel
theorem dX3_assign_27 : decode cX3_assign 27 = .ok (.iload 4, 2) := by decide +kernel
theorem dX3_assign_29 : decode cX3_assign 29 = .ok (.invokestatic 82, 3) := by decide +kernel
theorem dX3_assign_32 : decode cX3_assign 32 = .ok (.isub, 1) := by decide +kernel
theorem dX3_assign_33 : decode cX3_assign 33 = .ok (.imul, 1) := by decide +kernel
theorem dX3_assign_34 : decode cX3_assign 34 = .ok (.iadd, 1) := by decide +kernel
theorem dX3_assign_35 : decode cX3_assign 35 = .ok (.invokevirtual 88, 3) := by decide +kernel
theorem dX3_assign_38 : decode cX3_assign 38 = .ok (.ireturn, 1) := by decide +kernel
theorem dX3_assign_39 : decode cX3_assign 39 = .ok (.iconst 0, 1) := by decide +kernel
theorem dX3_assign_40 : decode cX3_assign 40 = .ok (.istore 6, 2) := by decide +kernel
theorem dX3_assign_42 : decode cX3_assign 42 = .ok (.iconst 0, 1) := by decide +kernel
theorem dX3_assign_43 : decode cX3_assign 43 = .ok (.istore 7, 2) := by decide +kernel
theorem dX3_assign_45 : decode cX3_assign 45 = .ok (.iload 7, 2) := by decide +kernel
theorem dX3_assign_47 : decode cX3_assign 47 = .ok (.aload_n 1, 1) := by decide +kernel
theorem dX3_assign_48 : decode cX3_assign 48 = .ok (.getfield 79, 3) := by decide +kernel
theorem dX3_assign_51 : decode cX3_assign 51 = .ok (.if_icmp .ge 38, 3) := by decide +kernel
theorem dX3_assign_54 : decode cX3_assign 54 = .ok (.iload 4, 2) := by decide +kernel
theorem dX3_assign_56 : decode cX3_assign 56 = .ok (.iload 7, 2) := by decide +kernel
theorem dX3_assign_58 : decode cX3_assign 58 = .ok (.ishr, 1) := by decide +kernel
theorem dX3_assign_59 : decode cX3_assign 59 = .ok (.iconst 1, 1) := by decide +kernel
theorem dX3_assign_60 : decode cX3_assign 60 = .ok (.iand, 1) := by decide +kernel
theorem dX3_assign_61 : decode cX3_assign 61 = .ok (.ifCond .ne 22, 3) := by decide +kernel
theorem dX3_assign_64 : decode cX3_assign 64 = .ok (.aload_n 0, 1) := by decide +kernel
theorem dX3_assign_65 : decode cX3_assign 65 = .ok (.aload_n 1, 1) := by decide +kernel
theorem dX3_assign_66 : decode cX3_assign 66 = .ok (.aload_n 2, 1) := by decide +kernel
theorem dX3_assign_67 : decode cX3_assign 67 = .ok (.iload_n 3, 1) := by decide +kernel
theorem dX3_assign_68 : decode cX3_assign 68 = .ok (.iload 7, 2) := by decide +kernel
theorem dX3_assign_70 : decode cX3_assign 70 = .ok (.iload 4, 2) := by decide +kernel
theorem dX3_assign_72 : decode cX3_assign 72 = .ok (.iload 5, 2) := by decide +kernel
theorem dX3_assign_74 : decode cX3_assign 74 = .ok (.invokevirtual 92, 3) := by decide +kernel
theorem dX3_assign_77 : decode cX3_assign 77 = .ok (.ifCond .eq 6, 3) := by decide +kernel
theorem dX3_assign_80 : decode cX3_assign 80 = .ok (.iconst 1, 1) := by decide +kernel
theorem dX3_assign_81 : decode cX3_assign 81 = .ok (.istore 6, 2) := by decide +kernel
theorem dX3_assign_83 : decode cX3_assign 83 = .ok (.iinc 7 1, 3) := by decide +kernel
theorem dX3_assign_86 : decode cX3_assign 86 = .ok (.goto (-41), 3) := by decide +kernel
theorem dX3_assign_89 : decode cX3_assign 89 = .ok (.aload_n 0, 1) := by decide +kernel
theorem dX3_assign_90 : decode cX3_assign 90 = .ok (.getfield 34, 3) := by decide +kernel
theorem dX3_assign_93 : decode cX3_assign 93 = .ok (.getfield 96, 3) := by decide +kernel
theorem dX3_assign_96 : decode cX3_assign 96 = .ok (.aload_n 2, 1) := by decide +kernel
theorem dX3_assign_97 : decode cX3_assign 97 = .ok (.getfield 102, 3) := by decide +kernel
theorem dX3_assign_100 : decode cX3_assign 100 = .ok (.iload_n 3, 1) := by decide +kernel
theorem dX3_assign_101 : decode cX3_assign 101 = .ok (.iaload, 1) := by decide +kernel
theorem dX3_assign_102 : decode cX3_assign 102 = .ok (.baload, 1) := by decide +kernel
theorem dX3_assign_103 : decode cX3_assign 103 = .ok (.ifCond .eq 42, 3) := by decide +kernel
theorem dX3_assign_106 : decode cX3_assign 106 = .ok (.aload_n 0, 1) := by decide +kernel
theorem dX3_assign_107 : decode cX3_assign 107 = .ok (.getfield 9, 3) := by decide +kernel
theorem dX3_assign_110 : decode cX3_assign 110 = .ok (.iload_n 3, 1) := by decide +kernel
theorem dX3_assign_111 : decode cX3_assign 111 = .ok (.bipush 9, 2) := by decide +kernel
theorem dX3_assign_113 : decode cX3_assign 113 = .ok (.iastore, 1) := by decide +kernel
theorem dX3_assign_114 : decode cX3_assign 114 = .ok (.aload_n 0, 1) := by decide +kernel
theorem dX3_assign_115 : decode cX3_assign 115 = .ok (.aload_n 1, 1) := by decide +kernel
theorem dX3_assign_116 : decode cX3_assign 116 = .ok (.aload_n 2, 1) := by decide +kernel
theorem dX3_assign_117 : decode cX3_assign 117 = .ok (.iload_n 3, 1) := by decide +kernel
theorem dX3_assign_118 : decode cX3_assign 118 = .ok (.iconst 1, 1) := by decide +kernel
theorem dX3_assign_119 : decode cX3_assign 119 = .ok (.iadd, 1) := by decide +kernel
theorem dX3_assign_120 : decode cX3_assign 120 = .ok (.iload 4, 2) := by decide +kernel
theorem dX3_assign_122 : decode cX3_assign 122 = .ok (.iload 5, 2) := by decide +kernel
theorem dX3_assign_124 : decode cX3_assign 124 = .ok (.bipush 7, 2) := by decide +kernel
theorem dX3_assign_126 : decode cX3_assign 126 = .ok (.iadd, 1) := by decide +kernel
theorem dX3_assign_127 : decode cX3_assign 127 = .ok (.invokevirtual 51, 3) := by decide +kernel
theorem dX3_assign_130 : decode cX3_assign 130 = .ok (.ifCond .ne 8, 3) := by decide +kernel
theorem dX3_assign_133 : decode cX3_assign 133 = .ok (.iload 6, 2) := by decide +kernel
theorem dX3_assign_135 : decode cX3_assign 135 = .ok (.ifCond .eq 7, 3) := by decide +kernel
theorem dX3_assign_138 : decode cX3_assign 138 = .ok (.iconst 1, 1) := by decide +kernel
theorem dX3_assign_139 : decode cX3_assign 139 = .ok (.goto 4, 3) := by decide +kernel
theorem dX3_assign_142 : decode cX3_assign 142 = .ok (.iconst 0, 1) := by decide +kernel
theorem dX3_assign_143 : decode cX3_assign 143 = .ok (.istore 6, 2) := by decide +kernel
theorem dX3_assign_145 : decode cX3_assign 145 = .ok (.iload 6, 2) := by decide +kernel
theorem dX3_assign_147 : decode cX3_assign 147 = .ok (.ireturn, 1) := by decide +kernel
theorem dX3_take_0 : decode cX3_take 0 = .ok (.aload_n 0, 1) := by decide +kernel
theorem dX3_take_1 : decode cX3_take 1 = .ok (.getfield 26, 3) := by decide +kernel
theorem dX3_take_4 : decode cX3_take 4 = .ok (.aload_n 1, 1) := by decide +kernel
theorem dX3_take_5 : decode cX3_take 5 = .ok (.getfield 102, 3) := by decide +kernel
theorem dX3_take_8 : decode cX3_take 8 = .ok (.iload 4, 2) := by decide +kernel
theorem dX3_take_10 : decode cX3_take 10 = .ok (.iaload, 1) := by decide +kernel
theorem dX3_take_11 : decode cX3_take 11 = .ok (.aload_n 2, 1) := by decide +kernel
theorem dX3_take_12 : decode cX3_take 12 = .ok (.getfield 102, 3) := by decide +kernel
theorem dX3_take_15 : decode cX3_take 15 = .ok (.iload_n 3, 1) := by decide +kernel
theorem dX3_take_16 : decode cX3_take 16 = .ok (.iaload, 1) := by decide +kernel
theorem dX3_take_17 : decode cX3_take 17 = .ok (.invokevirtual 73, 3) := by decide +kernel
theorem dX3_take_20 : decode cX3_take 20 = .ok (.istore 7, 2) := by decide +kernel
theorem dX3_take_22 : decode cX3_take 22 = .ok (.iload 7, 2) := by decide +kernel
theorem dX3_take_24 : decode cX3_take 24 = .ok (.iconst (-1), 1) := by decide +kernel
theorem dX3_take_25 : decode cX3_take 25 = .ok (.if_icmp .ne 5, 3) := by decide +kernel
theorem dX3_take_28 : decode cX3_take 28 = .ok (.iconst 0, 1) := by decide +kernel
theorem dX3_take_29 : decode cX3_take 29 = .ok (.ireturn, 1) := by decide +kernel
theorem dX3_take_30 : decode cX3_take 30 = .ok (.aload_n 0, 1) := by decide +kernel
theorem dX3_take_31 : decode cX3_take 31 = .ok (.getfield 9, 3) := by decide +kernel
theorem dX3_take_34 : decode cX3_take 34 = .ok (.iload_n 3, 1) := by decide +kernel
theorem dX3_take_35 : decode cX3_take 35 = .ok (.iload 4, 2) := by decide +kernel
theorem dX3_take_37 : decode cX3_take 37 = .ok (.iastore, 1) := by decide +kernel
theorem dX3_take_38 : decode cX3_take 38 = .ok (.iload 4, 2) := by decide +kernel
theorem dX3_take_40 : decode cX3_take 40 = .ok (.iload_n 3, 1) := by decide +kernel
theorem dX3_take_41 : decode cX3_take 41 = .ok (.if_icmp .ne 7, 3) := by decide +kernel
theorem dX3_take_44 : decode cX3_take 44 = .ok (.iconst 0, 1) := by decide +kernel
theorem dX3_take_45 : decode cX3_take 45 = .ok (.goto 4, 3) := by decide +kernel
theorem dX3_take_48 : decode cX3_take 48 = .ok (.iconst 1, 1) := by decide +kernel
theorem dX3_take_49 : decode cX3_take 49 = .ok (.istore 8, 2) := by decide +kernel
theorem dX3_take_51 : decode cX3_take 51 = .ok (.aload_n 0, 1) := by decide +kernel
theorem dX3_take_52 : decode cX3_take 52 = .ok (.aload_n 1, 1) := by decide +kernel
theorem dX3_take_53 : decode cX3_take 53 = .ok (.aload_n 2, 1) := by decide +kernel
theorem dX3_take_54 : decode cX3_take 54 = .ok (.iload_n 3, 1) := by decide +kernel
theorem dX3_take_55 : decode cX3_take 55 = .ok (.iconst 1, 1) := by decide +kernel
theorem dX3_take_56 : decode cX3_take 56 = .ok (.iadd, 1) := by decide +kernel
theorem dX3_take_57 : decode cX3_take 57 = .ok (.iload 5, 2) := by decide +kernel
theorem dX3_take_59 : decode cX3_take 59 = .ok (.iconst 1, 1) := by decide +kernel
theorem dX3_take_60 : decode cX3_take 60 = .ok (.iload 4, 2) := by decide +kernel
theorem dX3_take_62 : decode cX3_take 62 = .ok (.ishl, 1) := by decide +kernel
theorem dX3_take_63 : decode cX3_take 63 = .ok (.ior, 1) := by decide +kernel
theorem dX3_take_64 : decode cX3_take 64 = .ok (.iload 6, 2) := by decide +kernel
theorem dX3_take_66 : decode cX3_take 66 = .ok (.iload 7, 2) := by decide +kernel
theorem dX3_take_68 : decode cX3_take 68 = .ok (.iadd, 1) := by decide +kernel
theorem dX3_take_69 : decode cX3_take 69 = .ok (.iload 8, 2) := by decide +kernel
theorem dX3_take_71 : decode cX3_take 71 = .ok (.iadd, 1) := by decide +kernel
theorem dX3_take_72 : decode cX3_take 72 = .ok (.invokevirtual 51, 3) := by decide +kernel
theorem dX3_take_75 : decode cX3_take 75 = .ok (.ireturn, 1) := by decide +kernel
theorem dX3_settle_0 : decode cX3_settle 0 = .ok (.iload_n 1, 1) := by decide +kernel
theorem dX3_settle_1 : decode cX3_settle 1 = .ok (.aload_n 0, 1) := by decide +kernel
theorem dX3_settle_2 : decode cX3_settle 2 = .ok (.getfield 16, 3) := by decide +kernel
theorem dX3_settle_5 : decode cX3_settle 5 = .ok (.if_icmp .lt 5, 3) := by decide +kernel
theorem dX3_settle_8 : decode cX3_settle 8 = .ok (.iconst 0, 1) := by decide +kernel
theorem dX3_settle_9 : decode cX3_settle 9 = .ok (.ireturn, 1) := by decide +kernel
theorem dX3_settle_10 : decode cX3_settle 10 = .ok (.aload_n 0, 1) := by decide +kernel
theorem dX3_settle_11 : decode cX3_settle 11 = .ok (.iload_n 1, 1) := by decide +kernel
theorem dX3_settle_12 : decode cX3_settle 12 = .ok (.putfield 16, 3) := by decide +kernel
theorem dX3_settle_15 : decode cX3_settle 15 = .ok (.aload_n 0, 1) := by decide +kernel
theorem dX3_settle_16 : decode cX3_settle 16 = .ok (.getfield 9, 3) := by decide +kernel
theorem dX3_settle_19 : decode cX3_settle 19 = .ok (.iconst 0, 1) := by decide +kernel
theorem dX3_settle_20 : decode cX3_settle 20 = .ok (.aload_n 0, 1) := by decide +kernel
theorem dX3_settle_21 : decode cX3_settle 21 = .ok (.getfield 23, 3) := by decide +kernel
theorem dX3_settle_24 : decode cX3_settle 24 = .ok (.iconst 0, 1) := by decide +kernel
theorem dX3_settle_25 : decode cX3_settle 25 = .ok (.iconst 4, 1) := by decide +kernel
theorem dX3_settle_26 : decode cX3_settle 26 = .ok (.invokestatic 105, 3) := by decide +kernel
theorem dX3_settle_29 : decode cX3_settle 29 = .ok (.iconst 1, 1) := by decide +kernel
theorem dX3_settle_30 : decode cX3_settle 30 = .ok (.ireturn, 1) := by decide +kernel
theorem dX4_init_0 : decode cX4_init 0 = .ok (.aload_n 0, 1) := by decide +kernel
theorem dX4_init_1 : decode cX4_init 1 = .ok (.invokespecial 3, 3) := by decide +kernel
theorem dX4_init_4 : decode cX4_init 4 = .ok (.aload_n 0, 1) := by decide +kernel
theorem dX4_init_5 : decode cX4_init 5 = .ok (.lconst 0, 1) := by decide +kernel
theorem dX4_init_6 : decode cX4_init 6 = .ok (.putfield 9, 3) := by decide +kernel
theorem dX4_init_9 : decode cX4_init 9 = .ok (.aload_n 0, 1) := by decide +kernel
theorem dX4_init_10 : decode cX4_init 10 = .ok (.iconst (-1), 1) := by decide +kernel
theorem dX4_init_11 : decode cX4_init 11 = .ok (.putfield 15, 3) := by decide +kernel
theorem dX4_init_14 : decode cX4_init 14 = .ok (.aload_n 0, 1) := by decide +kernel
theorem dX4_init_15 : decode cX4_init 15 = .ok (.iconst (-1), 1) := by decide +kernel
theorem dX4_init_16 : decode cX4_init 16 = .ok (.putfield 19, 3) := by decide +kernel
theorem dX4_init_19 : decode cX4_init 19 = .ok (.aload_n 0, 1) := by decide +kernel
theorem dX4_init_20 : decode cX4_init 20 = .ok (.iconst 0, 1) := by decide +kernel
theorem dX4_init_21 : decode cX4_init 21 = .ok (.putfield 22, 3) := by decide +kernel
theorem dX4_init_24 : decode cX4_init 24 = .ok (.aload_n 0, 1) := by decide +kernel
theorem dX4_init_25 : decode cX4_init 25 = .ok (.iconst 0, 1) := by decide +kernel
theorem dX4_init_26 : decode cX4_init 26 = .ok (.putfield 25, 3) := by decide +kernel
theorem dX4_init_29 : decode cX4_init 29 = .ok (.return_, 1) := by decide +kernel
theorem dX4_noteFailure_0 : decode cX4_noteFailure 0 = .ok (.aload_n 0, 1) := by decide +kernel
theorem dX4_noteFailure_1 : decode cX4_noteFailure 1 = .ok (.iload_n 1, 1) := by decide +kernel
theorem dX4_noteFailure_2 : decode cX4_noteFailure 2 = .ok (.putfield 15, 3) := by decide +kernel
theorem dX4_noteFailure_5 : decode cX4_noteFailure 5 = .ok (.aload_n 0, 1) := by decide +kernel
theorem dX4_noteFailure_6 : decode cX4_noteFailure 6 = .ok (.iload_n 2, 1) := by decide +kernel
theorem dX4_noteFailure_7 : decode cX4_noteFailure 7 = .ok (.putfield 19, 3) := by decide +kernel
theorem dX4_noteFailure_10 : decode cX4_noteFailure 10 = .ok (.return_, 1) := by decide +kernel
theorem dX5_init_0 : decode cX5_init 0 = .ok (.aload_n 0, 1) := by decide +kernel
theorem dX5_init_1 : decode cX5_init 1 = .ok (.invokespecial 3, 3) := by decide +kernel
theorem dX5_init_4 : decode cX5_init 4 = .ok (.aload_n 0, 1) := by decide +kernel
theorem dX5_init_5 : decode cX5_init 5 = .ok (.iconst 0, 1) := by decide +kernel
theorem dX5_init_6 : decode cX5_init 6 = .ok (.putfield 9, 3) := by decide +kernel
theorem dX5_init_9 : decode cX5_init 9 = .ok (.aload_n 0, 1) := by decide +kernel
theorem dX5_init_10 : decode cX5_init 10 = .ok (.iconst 0, 1) := by decide +kernel
theorem dX5_init_11 : decode cX5_init 11 = .ok (.putfield 15, 3) := by decide +kernel
theorem dX5_init_14 : decode cX5_init 14 = .ok (.aload_n 0, 1) := by decide +kernel
theorem dX5_init_15 : decode cX5_init 15 = .ok (.iconst 0, 1) := by decide +kernel
theorem dX5_init_16 : decode cX5_init 16 = .ok (.putfield 18, 3) := by decide +kernel
theorem dX5_init_19 : decode cX5_init 19 = .ok (.aload_n 0, 1) := by decide +kernel
theorem dX5_init_20 : decode cX5_init 20 = .ok (.iconst 4, 1) := by decide +kernel
theorem dX5_init_21 : decode cX5_init 21 = .ok (.newarray .int, 2) := by decide +kernel
theorem dX5_init_23 : decode cX5_init 23 = .ok (.putfield 21, 3) := by decide +kernel
theorem dX5_init_26 : decode cX5_init 26 = .ok (.aload_n 0, 1) := by decide +kernel
theorem dX5_init_27 : decode cX5_init 27 = .ok (.iconst 0, 1) := by decide +kernel
theorem dX5_init_28 : decode cX5_init 28 = .ok (.putfield 25, 3) := by decide +kernel
theorem dX5_init_31 : decode cX5_init 31 = .ok (.aload_n 0, 1) := by decide +kernel
theorem dX5_init_32 : decode cX5_init 32 = .ok (.iconst (-1), 1) := by decide +kernel
theorem dX5_init_33 : decode cX5_init 33 = .ok (.putfield 28, 3) := by decide +kernel
theorem dX5_init_36 : decode cX5_init 36 = .ok (.aload_n 0, 1) := by decide +kernel
theorem dX5_init_37 : decode cX5_init 37 = .ok (.iconst 0, 1) := by decide +kernel
theorem dX5_init_38 : decode cX5_init 38 = .ok (.putfield 31, 3) := by decide +kernel
theorem dX5_init_41 : decode cX5_init 41 = .ok (.aload_n 0, 1) := by decide +kernel
theorem dX5_init_42 : decode cX5_init 42 = .ok (.iconst 4, 1) := by decide +kernel
theorem dX5_init_43 : decode cX5_init 43 = .ok (.newarray .int, 2) := by decide +kernel
theorem dX5_init_45 : decode cX5_init 45 = .ok (.putfield 34, 3) := by decide +kernel
theorem dX5_init_48 : decode cX5_init 48 = .ok (.return_, 1) := by decide +kernel
theorem dX5_become_0 : decode cX5_become 0 = .ok (.aload_n 0, 1) := by decide +kernel
theorem dX5_become_1 : decode cX5_become 1 = .ok (.iload_n 1, 1) := by decide +kernel
theorem dX5_become_2 : decode cX5_become 2 = .ok (.putfield 9, 3) := by decide +kernel
theorem dX5_become_5 : decode cX5_become 5 = .ok (.aload_n 0, 1) := by decide +kernel
theorem dX5_become_6 : decode cX5_become 6 = .ok (.iload_n 2, 1) := by decide +kernel
theorem dX5_become_7 : decode cX5_become 7 = .ok (.bipush 7, 2) := by decide +kernel
theorem dX5_become_9 : decode cX5_become 9 = .ok (.iand, 1) := by decide +kernel
theorem dX5_become_10 : decode cX5_become 10 = .ok (.putfield 15, 3) := by decide +kernel
theorem dX5_become_13 : decode cX5_become 13 = .ok (.aload_n 0, 1) := by decide +kernel
theorem dX5_become_14 : decode cX5_become 14 = .ok (.iconst 0, 1) := by decide +kernel
theorem dX5_become_15 : decode cX5_become 15 = .ok (.putfield 18, 3) := by decide +kernel
theorem dX5_become_18 : decode cX5_become 18 = .ok (.iload_n 2, 1) := by decide +kernel
theorem dX5_become_19 : decode cX5_become 19 = .ok (.iconst 3, 1) := by decide +kernel
theorem dX5_become_20 : decode cX5_become 20 = .ok (.ishr, 1) := by decide +kernel
theorem dX5_become_21 : decode cX5_become 21 = .ok (.istore_n 3, 1) := by decide +kernel
theorem dX5_become_22 : decode cX5_become 22 = .ok (.iconst 0, 1) := by decide +kernel
theorem dX5_become_23 : decode cX5_become 23 = .ok (.istore 4, 2) := by decide +kernel
theorem dX5_become_25 : decode cX5_become 25 = .ok (.iload 4, 2) := by decide +kernel
theorem dX5_become_27 : decode cX5_become 27 = .ok (.iconst 4, 1) := by decide +kernel
theorem dX5_become_28 : decode cX5_become 28 = .ok (.if_icmp .ge 40, 3) := by decide +kernel
theorem dX5_become_31 : decode cX5_become 31 = .ok (.iload_n 3, 1) := by decide +kernel
theorem dX5_become_32 : decode cX5_become 32 = .ok (.ifCond .eq 36, 3) := by decide +kernel
theorem dX5_become_35 : decode cX5_become 35 = .ok (.aload_n 0, 1) := by decide +kernel
theorem dX5_become_36 : decode cX5_become 36 = .ok (.getfield 21, 3) := by decide +kernel
theorem dX5_become_39 : decode cX5_become 39 = .ok (.iload 4, 2) := by decide +kernel
theorem dX5_become_41 : decode cX5_become 41 = .ok (.iload_n 3, 1) := by decide +kernel
theorem dX5_become_42 : decode cX5_become 42 = .ok (.bipush 7, 2) := by decide +kernel
theorem dX5_become_44 : decode cX5_become 44 = .ok (.iand, 1) := by decide +kernel
theorem dX5_become_45 : decode cX5_become 45 = .ok (.iconst 1, 1) := by decide +kernel
theorem dX5_become_46 : decode cX5_become 46 = .ok (.isub, 1) := by decide +kernel
theorem dX5_become_47 : decode cX5_become 47 = .ok (.iastore, 1) := by decide +kernel
theorem dX5_become_48 : decode cX5_become 48 = .ok (.iload_n 3, 1) := by decide +kernel
theorem dX5_become_49 : decode cX5_become 49 = .ok (.iconst 3, 1) := by decide +kernel
theorem dX5_become_50 : decode cX5_become 50 = .ok (.ishr, 1) := by decide +kernel
theorem dX5_become_51 : decode cX5_become 51 = .ok (.istore_n 3, 1) := by decide +kernel
theorem dX5_become_52 : decode cX5_become 52 = .ok (.aload_n 0, 1) := by decide +kernel
theorem dX5_become_53 : decode cX5_become 53 = .ok (.dup, 1) := by decide +kernel
theorem dX5_become_54 : decode cX5_become 54 = .ok (.getfield 18, 3) := by decide +kernel
theorem dX5_become_57 : decode cX5_become 57 = .ok (.iconst 1, 1) := by decide +kernel
theorem dX5_become_58 : decode cX5_become 58 = .ok (.iadd, 1) := by decide +kernel
theorem dX5_become_59 : decode cX5_become 59 = .ok (.putfield 18, 3) := by decide +kernel
theorem dX5_become_62 : decode cX5_become 62 = .ok (.iinc 4 1, 3) := by decide +kernel
theorem dX5_become_65 : decode cX5_become 65 = .ok (.goto (-40), 3) := by decide +kernel
theorem dX5_become_68 : decode cX5_become 68 = .ok (.aload_n 0, 1) := by decide +kernel
theorem dX5_become_69 : decode cX5_become 69 = .ok (.iconst 0, 1) := by decide +kernel
theorem dX5_become_70 : decode cX5_become 70 = .ok (.iconst (-1), 1) := by decide +kernel
theorem dX5_become_71 : decode cX5_become 71 = .ok (.iconst 0, 1) := by decide +kernel
theorem dX5_become_72 : decode cX5_become 72 = .ok (.invokevirtual 37, 3) := by decide +kernel
theorem dX5_become_75 : decode cX5_become 75 = .ok (.aload_n 0, 1) := by decide +kernel
theorem dX5_become_76 : decode cX5_become 76 = .ok (.getfield 34, 3) := by decide +kernel
theorem dX5_become_79 : decode cX5_become 79 = .ok (.iconst 1, 1) := by decide +kernel
theorem dX5_become_80 : decode cX5_become 80 = .ok (.invokestatic 41, 3) := by decide +kernel
theorem dX5_become_83 : decode cX5_become 83 = .ok (.return_, 1) := by decide +kernel
theorem dX5_setWork_0 : decode cX5_setWork 0 = .ok (.aload_n 0, 1) := by decide +kernel
theorem dX5_setWork_1 : decode cX5_setWork 1 = .ok (.iload_n 1, 1) := by decide +kernel
theorem dX5_setWork_2 : decode cX5_setWork 2 = .ok (.putfield 25, 3) := by decide +kernel
theorem dX5_setWork_5 : decode cX5_setWork 5 = .ok (.aload_n 0, 1) := by decide +kernel
theorem dX5_setWork_6 : decode cX5_setWork 6 = .ok (.iload_n 2, 1) := by decide +kernel
theorem dX5_setWork_7 : decode cX5_setWork 7 = .ok (.putfield 28, 3) := by decide +kernel
theorem dX5_setWork_10 : decode cX5_setWork 10 = .ok (.aload_n 0, 1) := by decide +kernel
theorem dX5_setWork_11 : decode cX5_setWork 11 = .ok (.iload_n 3, 1) := by decide +kernel
theorem dX5_setWork_12 : decode cX5_setWork 12 = .ok (.putfield 31, 3) := by decide +kernel
theorem dX5_setWork_15 : decode cX5_setWork 15 = .ok (.return_, 1) := by decide +kernel
theorem dX6_init_0 : decode cX6_init 0 = .ok (.aload_n 0, 1) := by decide +kernel
theorem dX6_init_1 : decode cX6_init 1 = .ok (.invokespecial 3, 3) := by decide +kernel
theorem dX6_init_4 : decode cX6_init 4 = .ok (.aload_n 0, 1) := by decide +kernel
theorem dX6_init_5 : decode cX6_init 5 = .ok (.bipush 32, 2) := by decide +kernel
theorem dX6_init_7 : decode cX6_init 7 = .ok (.newarray .int, 2) := by decide +kernel
theorem dX6_init_9 : decode cX6_init 9 = .ok (.putfield 11, 3) := by decide +kernel
theorem dX6_init_12 : decode cX6_init 12 = .ok (.aload_n 0, 1) := by decide +kernel
theorem dX6_init_13 : decode cX6_init 13 = .ok (.bipush 32, 2) := by decide +kernel
theorem dX6_init_15 : decode cX6_init 15 = .ok (.newarray .int, 2) := by decide +kernel
theorem dX6_init_17 : decode cX6_init 17 = .ok (.putfield 15, 3) := by decide +kernel
theorem dX6_init_20 : decode cX6_init 20 = .ok (.aload_n 0, 1) := by decide +kernel
theorem dX6_init_21 : decode cX6_init 21 = .ok (.bipush 32, 2) := by decide +kernel
theorem dX6_init_23 : decode cX6_init 23 = .ok (.newarray .int, 2) := by decide +kernel
theorem dX6_init_25 : decode cX6_init 25 = .ok (.putfield 18, 3) := by decide +kernel
theorem dX6_init_28 : decode cX6_init 28 = .ok (.aload_n 0, 1) := by decide +kernel
theorem dX6_init_29 : decode cX6_init 29 = .ok (.bipush 32, 2) := by decide +kernel
theorem dX6_init_31 : decode cX6_init 31 = .ok (.newarray .int, 2) := by decide +kernel
theorem dX6_init_33 : decode cX6_init 33 = .ok (.putfield 21, 3) := by decide +kernel
theorem dX6_init_36 : decode cX6_init 36 = .ok (.aload_n 0, 1) := by decide +kernel
theorem dX6_init_37 : decode cX6_init 37 = .ok (.bipush 32, 2) := by decide +kernel
theorem dX6_init_39 : decode cX6_init 39 = .ok (.newarray .int, 2) := by decide +kernel
theorem dX6_init_41 : decode cX6_init 41 = .ok (.putfield 24, 3) := by decide +kernel
theorem dX6_init_44 : decode cX6_init 44 = .ok (.aload_n 0, 1) := by decide +kernel
theorem dX6_init_45 : decode cX6_init 45 = .ok (.bipush 32, 2) := by decide +kernel
theorem dX6_init_47 : decode cX6_init 47 = .ok (.newarray .boolean, 2) := by decide +kernel
theorem dX6_init_49 : decode cX6_init 49 = .ok (.putfield 27, 3) := by decide +kernel
theorem dX6_init_52 : decode cX6_init 52 = .ok (.aload_n 0, 1) := by decide +kernel
theorem dX6_init_53 : decode cX6_init 53 = .ok (.iconst 0, 1) := by decide +kernel
theorem dX6_init_54 : decode cX6_init 54 = .ok (.putfield 31, 3) := by decide +kernel
theorem dX6_init_57 : decode cX6_init 57 = .ok (.aload_n 0, 1) := by decide +kernel
theorem dX6_init_58 : decode cX6_init 58 = .ok (.iconst 0, 1) := by decide +kernel
theorem dX6_init_59 : decode cX6_init 59 = .ok (.putfield 35, 3) := by decide +kernel
theorem dX6_init_62 : decode cX6_init 62 = .ok (.aload_n 0, 1) := by decide +kernel
theorem dX6_init_63 : decode cX6_init 63 = .ok (.bipush 49, 2) := by decide +kernel
theorem dX6_init_65 : decode cX6_init 65 = .ok (.newarray .int, 2) := by decide +kernel
theorem dX6_init_67 : decode cX6_init 67 = .ok (.putfield 38, 3) := by decide +kernel
theorem dX6_init_70 : decode cX6_init 70 = .ok (.aload_n 0, 1) := by decide +kernel
theorem dX6_init_71 : decode cX6_init 71 = .ok (.bipush 49, 2) := by decide +kernel
theorem dX6_init_73 : decode cX6_init 73 = .ok (.newarray .int, 2) := by decide +kernel
theorem dX6_init_75 : decode cX6_init 75 = .ok (.putfield 41, 3) := by decide +kernel
theorem dX6_init_78 : decode cX6_init 78 = .ok (.aload_n 0, 1) := by decide +kernel
theorem dX6_init_79 : decode cX6_init 79 = .ok (.lconst 0, 1) := by decide +kernel
theorem dX6_init_80 : decode cX6_init 80 = .ok (.putfield 44, 3) := by decide +kernel
theorem dX6_init_83 : decode cX6_init 83 = .ok (.aload_n 0, 1) := by decide +kernel
theorem dX6_init_84 : decode cX6_init 84 = .ok (.iconst (-1), 1) := by decide +kernel
theorem dX6_init_85 : decode cX6_init 85 = .ok (.putfield 48, 3) := by decide +kernel
theorem dX6_init_88 : decode cX6_init 88 = .ok (.iconst 0, 1) := by decide +kernel
theorem dX6_init_89 : decode cX6_init 89 = .ok (.istore_n 1, 1) := by decide +kernel
theorem dX6_init_90 : decode cX6_init 90 = .ok (.iload_n 1, 1) := by decide +kernel
theorem dX6_init_91 : decode cX6_init 91 = .ok (.bipush 12, 2) := by decide +kernel
theorem dX6_init_93 : decode cX6_init 93 = .ok (.if_icmp .ge 34, 3) := by decide +kernel
theorem dX6_init_96 : decode cX6_init 96 = .ok (.aload_n 0, 1) := by decide +kernel
theorem dX6_init_97 : decode cX6_init 97 = .ok (.getstatic 51, 3) := by decide +kernel
theorem dX6_init_100 : decode cX6_init 100 = .ok (.iload_n 1, 1) := by decide +kernel
theorem dX6_init_101 : decode cX6_init 101 = .ok (.iaload, 1) := by decide +kernel
theorem dX6_init_102 : decode cX6_init 102 = .ok (.getstatic 54, 3) := by decide +kernel
theorem dX6_init_105 : decode cX6_init 105 = .ok (.iload_n 1, 1) := by decide +kernel
theorem dX6_init_106 : decode cX6_init 106 = .ok (.iaload, 1) := by decide +kernel
theorem dX6_init_107 : decode cX6_init 107 = .ok (.getstatic 57, 3) := by decide +kernel
theorem dX6_init_110 : decode cX6_init 110 = .ok (.iload_n 1, 1) := by decide +kernel
theorem dX6_init_111 : decode cX6_init 111 = .ok (.iaload, 1) := by decide +kernel
theorem dX6_init_112 : decode cX6_init 112 = .ok (.getstatic 60, 3) := by decide +kernel
theorem dX6_init_115 : decode cX6_init 115 = .ok (.iload_n 1, 1) := by decide +kernel
theorem dX6_init_116 : decode cX6_init 116 = .ok (.iaload, 1) := by decide +kernel
theorem dX6_init_117 : decode cX6_init 117 = .ok (.iconst 0, 1) := by decide +kernel
theorem dX6_init_118 : decode cX6_init 118 = .ok (.invokevirtual 63, 3) := by decide +kernel
theorem dX6_init_121 : decode cX6_init 121 = .ok (.iinc 1 1, 3) := by decide +kernel
theorem dX6_init_124 : decode cX6_init 124 = .ok (.goto (-34), 3) := by decide +kernel
theorem dX6_init_127 : decode cX6_init 127 = .ok (.aload_n 0, 1) := by decide +kernel
theorem dX6_init_128 : decode cX6_init 128 = .ok (.invokevirtual 67, 3) := by decide +kernel
theorem dX6_init_131 : decode cX6_init 131 = .ok (.return_, 1) := by decide +kernel
theorem dX6_hasRoom_0 : decode cX6_hasRoom 0 = .ok (.aload_n 0, 1) := by decide +kernel
theorem dX6_hasRoom_1 : decode cX6_hasRoom 1 = .ok (.getfield 31, 3) := by decide +kernel
theorem dX6_hasRoom_4 : decode cX6_hasRoom 4 = .ok (.bipush 32, 2) := by decide +kernel
theorem dX6_hasRoom_6 : decode cX6_hasRoom 6 = .ok (.if_icmp .ge 7, 3) := by decide +kernel
theorem dX6_hasRoom_9 : decode cX6_hasRoom 9 = .ok (.iconst 1, 1) := by decide +kernel
theorem dX6_hasRoom_10 : decode cX6_hasRoom 10 = .ok (.goto 4, 3) := by decide +kernel
theorem dX6_hasRoom_13 : decode cX6_hasRoom 13 = .ok (.iconst 0, 1) := by decide +kernel
theorem dX6_hasRoom_14 : decode cX6_hasRoom 14 = .ok (.ireturn, 1) := by decide +kernel
theorem dX6_tell_0 : decode cX6_tell 0 = .ok (.aload_n 0, 1) := by decide +kernel
theorem dX6_tell_1 : decode cX6_tell 1 = .ok (.iload_n 1, 1) := by decide +kernel
theorem dX6_tell_2 : decode cX6_tell 2 = .ok (.iload_n 2, 1) := by decide +kernel
theorem dX6_tell_3 : decode cX6_tell 3 = .ok (.iload_n 3, 1) := by decide +kernel
theorem dX6_tell_4 : decode cX6_tell 4 = .ok (.iload 4, 2) := by decide +kernel
theorem dX6_tell_6 : decode cX6_tell 6 = .ok (.iload 5, 2) := by decide +kernel
theorem dX6_tell_8 : decode cX6_tell 8 = .ok (.invokevirtual 63, 3) := by decide +kernel
theorem dX6_tell_11 : decode cX6_tell 11 = .ok (.aload_n 0, 1) := by decide +kernel
theorem dX6_tell_12 : decode cX6_tell 12 = .ok (.invokevirtual 67, 3) := by decide +kernel
theorem dX6_tell_15 : decode cX6_tell 15 = .ok (.aload_n 0, 1) := by decide +kernel
theorem dX6_tell_16 : decode cX6_tell 16 = .ok (.getfield 31, 3) := by decide +kernel
theorem dX6_tell_19 : decode cX6_tell 19 = .ok (.iconst 1, 1) := by decide +kernel
theorem dX6_tell_20 : decode cX6_tell 20 = .ok (.isub, 1) := by decide +kernel
theorem dX6_tell_21 : decode cX6_tell 21 = .ok (.ireturn, 1) := by decide +kernel
theorem dX6_canForget_0 : decode cX6_canForget 0 = .ok (.iload_n 1, 1) := by decide +kernel
theorem dX6_canForget_1 : decode cX6_canForget 1 = .ok (.bipush 12, 2) := by decide +kernel
theorem dX6_canForget_3 : decode cX6_canForget 3 = .ok (.aload_n 0, 1) := by decide +kernel
theorem dX6_canForget_4 : decode cX6_canForget 4 = .ok (.getfield 31, 3) := by decide +kernel
theorem dX6_canForget_7 : decode cX6_canForget 7 = .ok (.iconst 1, 1) := by decide +kernel
theorem dX6_canForget_8 : decode cX6_canForget 8 = .ok (.isub, 1) := by decide +kernel
theorem dX6_canForget_9 : decode cX6_canForget 9 = .ok (.invokestatic 70, 3) := by decide +kernel
theorem dX6_canForget_12 : decode cX6_canForget 12 = .ok (.ifCond .eq 16, 3) := by decide +kernel
theorem dX6_canForget_15 : decode cX6_canForget 15 = .ok (.aload_n 0, 1) := by decide +kernel
theorem dX6_canForget_16 : decode cX6_canForget 16 = .ok (.getfield 27, 3) := by decide +kernel
theorem dX6_canForget_19 : decode cX6_canForget 19 = .ok (.iload_n 1, 1) := by decide +kernel
theorem dX6_canForget_20 : decode cX6_canForget 20 = .ok (.baload, 1) := by decide +kernel
theorem dX6_canForget_21 : decode cX6_canForget 21 = .ok (.ifCond .eq 7, 3) := by decide +kernel
theorem dX6_canForget_24 : decode cX6_canForget 24 = .ok (.iconst 1, 1) := by decide +kernel
theorem dX6_canForget_25 : decode cX6_canForget 25 = .ok (.goto 4, 3) := by decide +kernel
theorem dX6_canForget_28 : decode cX6_canForget 28 = .ok (.iconst 0, 1) := by decide +kernel
theorem dX6_canForget_29 : decode cX6_canForget 29 = .ok (.ireturn, 1) := by decide +kernel
theorem dX6_forget_0 : decode cX6_forget 0 = .ok (.aload_n 0, 1) := by decide +kernel
theorem dX6_forget_1 : decode cX6_forget 1 = .ok (.getfield 27, 3) := by decide +kernel
theorem dX6_forget_4 : decode cX6_forget 4 = .ok (.iload_n 1, 1) := by decide +kernel
theorem dX6_forget_5 : decode cX6_forget 5 = .ok (.iconst 0, 1) := by decide +kernel
theorem dX6_forget_6 : decode cX6_forget 6 = .ok (.bastore, 1) := by decide +kernel
theorem dX6_forget_7 : decode cX6_forget 7 = .ok (.aload_n 0, 1) := by decide +kernel
theorem dX6_forget_8 : decode cX6_forget 8 = .ok (.dup, 1) := by decide +kernel
theorem dX6_forget_9 : decode cX6_forget 9 = .ok (.getfield 35, 3) := by decide +kernel
theorem dX6_forget_12 : decode cX6_forget 12 = .ok (.iconst 1, 1) := by decide +kernel
end
section
theorem dX6_forget_13 : decode cX6_forget 13 = .ok (.isub, 1) := by decide +kernel
theorem dX6_forget_14 : decode cX6_forget 14 = .ok (.putfield 35, 3) := by decide +kernel
theorem dX6_forget_17 : decode cX6_forget 17 = .ok (.aload_n 0, 1) := by decide +kernel
theorem dX6_forget_18 : decode cX6_forget 18 = .ok (.invokevirtual 67, 3) := by decide +kernel
theorem dX6_forget_21 : decode cX6_forget 21 = .ok (.return_, 1) := by decide +kernel
theorem dX6_costBetween_0 : decode cX6_costBetween 0 = .ok (.aload_n 0, 1) := by decide +kernel
theorem dX6_costBetween_1 : decode cX6_costBetween 1 = .ok (.getfield 38, 3) := by decide +kernel
theorem dX6_costBetween_4 : decode cX6_costBetween 4 = .ok (.iload_n 1, 1) := by decide +kernel
theorem dX6_costBetween_5 : decode cX6_costBetween 5 = .ok (.bipush 7, 2) := by decide +kernel
theorem dX6_costBetween_7 : decode cX6_costBetween 7 = .ok (.imul, 1) := by decide +kernel
theorem dX6_costBetween_8 : decode cX6_costBetween 8 = .ok (.iload_n 2, 1) := by decide +kernel
theorem dX6_costBetween_9 : decode cX6_costBetween 9 = .ok (.iadd, 1) := by decide +kernel
theorem dX6_costBetween_10 : decode cX6_costBetween 10 = .ok (.iaload, 1) := by decide +kernel
theorem dX6_costBetween_11 : decode cX6_costBetween 11 = .ok (.istore_n 3, 1) := by decide +kernel
theorem dX6_costBetween_12 : decode cX6_costBetween 12 = .ok (.iload_n 3, 1) := by decide +kernel
theorem dX6_costBetween_13 : decode cX6_costBetween 13 = .ok (.ldc 74, 2) := by decide +kernel
theorem dX6_costBetween_15 : decode cX6_costBetween 15 = .ok (.if_icmp .lt 7, 3) := by decide +kernel
theorem dX6_costBetween_18 : decode cX6_costBetween 18 = .ok (.iconst (-1), 1) := by decide +kernel
theorem dX6_costBetween_19 : decode cX6_costBetween 19 = .ok (.goto 7, 3) := by decide +kernel
theorem dX6_costBetween_22 : decode cX6_costBetween 22 = .ok (.iload_n 3, 1) := by decide +kernel
theorem dX6_costBetween_23 : decode cX6_costBetween 23 = .ok (.bipush 8, 2) := by decide +kernel
theorem dX6_costBetween_25 : decode cX6_costBetween 25 = .ok (.idiv, 1) := by decide +kernel
theorem dX6_costBetween_26 : decode cX6_costBetween 26 = .ok (.ireturn, 1) := by decide +kernel
theorem dX6_stepsBetween_0 : decode cX6_stepsBetween 0 = .ok (.aload_n 0, 1) := by decide +kernel
theorem dX6_stepsBetween_1 : decode cX6_stepsBetween 1 = .ok (.getfield 38, 3) := by decide +kernel
theorem dX6_stepsBetween_4 : decode cX6_stepsBetween 4 = .ok (.iload_n 1, 1) := by decide +kernel
theorem dX6_stepsBetween_5 : decode cX6_stepsBetween 5 = .ok (.bipush 7, 2) := by decide +kernel
theorem dX6_stepsBetween_7 : decode cX6_stepsBetween 7 = .ok (.imul, 1) := by decide +kernel
theorem dX6_stepsBetween_8 : decode cX6_stepsBetween 8 = .ok (.iload_n 2, 1) := by decide +kernel
theorem dX6_stepsBetween_9 : decode cX6_stepsBetween 9 = .ok (.iadd, 1) := by decide +kernel
theorem dX6_stepsBetween_10 : decode cX6_stepsBetween 10 = .ok (.iaload, 1) := by decide +kernel
theorem dX6_stepsBetween_11 : decode cX6_stepsBetween 11 = .ok (.bipush 8, 2) := by decide +kernel
theorem dX6_stepsBetween_13 : decode cX6_stepsBetween 13 = .ok (.irem, 1) := by decide +kernel
theorem dX6_stepsBetween_14 : decode cX6_stepsBetween 14 = .ok (.ireturn, 1) := by decide +kernel
theorem dX6_stepAt_0 : decode cX6_stepAt 0 = .ok (.iload_n 1, 1) := by decide +kernel
theorem dX6_stepAt_1 : decode cX6_stepAt 1 = .ok (.istore 4, 2) := by decide +kernel
theorem dX6_stepAt_3 : decode cX6_stepAt 3 = .ok (.iconst 0, 1) := by decide +kernel
theorem dX6_stepAt_4 : decode cX6_stepAt 4 = .ok (.istore 5, 2) := by decide +kernel
theorem dX6_stepAt_6 : decode cX6_stepAt 6 = .ok (.iload 5, 2) := by decide +kernel
theorem dX6_stepAt_8 : decode cX6_stepAt 8 = .ok (.bipush 7, 2) := by decide +kernel
theorem dX6_stepAt_10 : decode cX6_stepAt 10 = .ok (.if_icmp .ge 53, 3) := by decide +kernel
theorem dX6_stepAt_13 : decode cX6_stepAt 13 = .ok (.iload 4, 2) := by decide +kernel
theorem dX6_stepAt_15 : decode cX6_stepAt 15 = .ok (.iload_n 2, 1) := by decide +kernel
theorem dX6_stepAt_16 : decode cX6_stepAt 16 = .ok (.if_icmp .eq 47, 3) := by decide +kernel
theorem dX6_stepAt_19 : decode cX6_stepAt 19 = .ok (.aload_n 0, 1) := by decide +kernel
theorem dX6_stepAt_20 : decode cX6_stepAt 20 = .ok (.getfield 41, 3) := by decide +kernel
theorem dX6_stepAt_23 : decode cX6_stepAt 23 = .ok (.iload 4, 2) := by decide +kernel
theorem dX6_stepAt_25 : decode cX6_stepAt 25 = .ok (.bipush 7, 2) := by decide +kernel
theorem dX6_stepAt_27 : decode cX6_stepAt 27 = .ok (.imul, 1) := by decide +kernel
theorem dX6_stepAt_28 : decode cX6_stepAt 28 = .ok (.iload_n 2, 1) := by decide +kernel
theorem dX6_stepAt_29 : decode cX6_stepAt 29 = .ok (.iadd, 1) := by decide +kernel
theorem dX6_stepAt_30 : decode cX6_stepAt 30 = .ok (.iaload, 1) := by decide +kernel
theorem dX6_stepAt_31 : decode cX6_stepAt 31 = .ok (.istore 6, 2) := by decide +kernel
theorem dX6_stepAt_33 : decode cX6_stepAt 33 = .ok (.iload 6, 2) := by decide +kernel
theorem dX6_stepAt_35 : decode cX6_stepAt 35 = .ok (.iconst (-1), 1) := by decide +kernel
theorem dX6_stepAt_36 : decode cX6_stepAt 36 = .ok (.if_icmp .eq 9, 3) := by decide +kernel
theorem dX6_stepAt_39 : decode cX6_stepAt 39 = .ok (.iload 5, 2) := by decide +kernel
theorem dX6_stepAt_41 : decode cX6_stepAt 41 = .ok (.iload_n 3, 1) := by decide +kernel
theorem dX6_stepAt_42 : decode cX6_stepAt 42 = .ok (.if_icmp .ne 6, 3) := by decide +kernel
theorem dX6_stepAt_45 : decode cX6_stepAt 45 = .ok (.iload 6, 2) := by decide +kernel
theorem dX6_stepAt_47 : decode cX6_stepAt 47 = .ok (.ireturn, 1) := by decide +kernel
theorem dX6_stepAt_48 : decode cX6_stepAt 48 = .ok (.aload_n 0, 1) := by decide +kernel
theorem dX6_stepAt_49 : decode cX6_stepAt 49 = .ok (.getfield 15, 3) := by decide +kernel
theorem dX6_stepAt_52 : decode cX6_stepAt 52 = .ok (.iload 6, 2) := by decide +kernel
theorem dX6_stepAt_54 : decode cX6_stepAt 54 = .ok (.iaload, 1) := by decide +kernel
theorem dX6_stepAt_55 : decode cX6_stepAt 55 = .ok (.istore 4, 2) := by decide +kernel
theorem dX6_stepAt_57 : decode cX6_stepAt 57 = .ok (.iinc 5 1, 3) := by decide +kernel
theorem dX6_stepAt_60 : decode cX6_stepAt 60 = .ok (.goto (-54), 3) := by decide +kernel
theorem dX6_stepAt_63 : decode cX6_stepAt 63 = .ok (.iconst (-1), 1) := by decide +kernel
theorem dX6_stepAt_64 : decode cX6_stepAt 64 = .ok (.ireturn, 1) := by decide +kernel
theorem dX6_carry_0 : decode cX6_carry 0 = .ok (.aload_n 0, 1) := by decide +kernel
theorem dX6_carry_1 : decode cX6_carry 1 = .ok (.lload_n 3, 1) := by decide +kernel
theorem dX6_carry_2 : decode cX6_carry 2 = .ok (.putfield 44, 3) := by decide +kernel
theorem dX6_carry_5 : decode cX6_carry 5 = .ok (.iload_n 1, 1) := by decide +kernel
theorem dX6_carry_6 : decode cX6_carry 6 = .ok (.istore 5, 2) := by decide +kernel
theorem dX6_carry_8 : decode cX6_carry 8 = .ok (.iconst 0, 1) := by decide +kernel
theorem dX6_carry_9 : decode cX6_carry 9 = .ok (.istore 6, 2) := by decide +kernel
theorem dX6_carry_11 : decode cX6_carry 11 = .ok (.iload 6, 2) := by decide +kernel
theorem dX6_carry_13 : decode cX6_carry 13 = .ok (.bipush 7, 2) := by decide +kernel
theorem dX6_carry_15 : decode cX6_carry 15 = .ok (.if_icmp .ge 65, 3) := by decide +kernel
theorem dX6_carry_18 : decode cX6_carry 18 = .ok (.iload 5, 2) := by decide +kernel
theorem dX6_carry_20 : decode cX6_carry 20 = .ok (.iload_n 2, 1) := by decide +kernel
theorem dX6_carry_21 : decode cX6_carry 21 = .ok (.if_icmp .eq 59, 3) := by decide +kernel
theorem dX6_carry_24 : decode cX6_carry 24 = .ok (.aload_n 0, 1) := by decide +kernel
theorem dX6_carry_25 : decode cX6_carry 25 = .ok (.getfield 41, 3) := by decide +kernel
theorem dX6_carry_28 : decode cX6_carry 28 = .ok (.iload 5, 2) := by decide +kernel
theorem dX6_carry_30 : decode cX6_carry 30 = .ok (.bipush 7, 2) := by decide +kernel
theorem dX6_carry_32 : decode cX6_carry 32 = .ok (.imul, 1) := by decide +kernel
theorem dX6_carry_33 : decode cX6_carry 33 = .ok (.iload_n 2, 1) := by decide +kernel
theorem dX6_carry_34 : decode cX6_carry 34 = .ok (.iadd, 1) := by decide +kernel
theorem dX6_carry_35 : decode cX6_carry 35 = .ok (.iaload, 1) := by decide +kernel
theorem dX6_carry_36 : decode cX6_carry 36 = .ok (.istore 7, 2) := by decide +kernel
theorem dX6_carry_38 : decode cX6_carry 38 = .ok (.aload_n 0, 1) := by decide +kernel
theorem dX6_carry_39 : decode cX6_carry 39 = .ok (.iload 7, 2) := by decide +kernel
theorem dX6_carry_41 : decode cX6_carry 41 = .ok (.putfield 48, 3) := by decide +kernel
theorem dX6_carry_44 : decode cX6_carry 44 = .ok (.iload 7, 2) := by decide +kernel
theorem dX6_carry_46 : decode cX6_carry 46 = .ok (.iconst (-1), 1) := by decide +kernel
theorem dX6_carry_47 : decode cX6_carry 47 = .ok (.if_icmp .eq 16, 3) := by decide +kernel
theorem dX6_carry_50 : decode cX6_carry 50 = .ok (.aload_n 0, 1) := by decide +kernel
theorem dX6_carry_51 : decode cX6_carry 51 = .ok (.iload 7, 2) := by decide +kernel
theorem dX6_carry_53 : decode cX6_carry 53 = .ok (.aload_n 0, 1) := by decide +kernel
theorem dX6_carry_54 : decode cX6_carry 54 = .ok (.getfield 44, 3) := by decide +kernel
theorem dX6_carry_57 : decode cX6_carry 57 = .ok (.invokevirtual 75, 3) := by decide +kernel
theorem dX6_carry_60 : decode cX6_carry 60 = .ok (.ifCond .ne 5, 3) := by decide +kernel
theorem dX6_carry_63 : decode cX6_carry 63 = .ok (.iconst 0, 1) := by decide +kernel
theorem dX6_carry_64 : decode cX6_carry 64 = .ok (.ireturn, 1) := by decide +kernel
theorem dX6_carry_65 : decode cX6_carry 65 = .ok (.aload_n 0, 1) := by decide +kernel
theorem dX6_carry_66 : decode cX6_carry 66 = .ok (.getfield 15, 3) := by decide +kernel
theorem dX6_carry_69 : decode cX6_carry 69 = .ok (.iload 7, 2) := by decide +kernel
theorem dX6_carry_71 : decode cX6_carry 71 = .ok (.iaload, 1) := by decide +kernel
theorem dX6_carry_72 : decode cX6_carry 72 = .ok (.istore 5, 2) := by decide +kernel
theorem dX6_carry_74 : decode cX6_carry 74 = .ok (.iinc 6 1, 3) := by decide +kernel
theorem dX6_carry_77 : decode cX6_carry 77 = .ok (.goto (-66), 3) := by decide +kernel
theorem dX6_carry_80 : decode cX6_carry 80 = .ok (.iconst 1, 1) := by decide +kernel
theorem dX6_carry_81 : decode cX6_carry 81 = .ok (.ireturn, 1) := by decide +kernel
theorem dX6_follow_0 : decode cX6_follow 0 = .ok (.iload_n 1, 1) := by decide +kernel
theorem dX6_follow_1 : decode cX6_follow 1 = .ok (.bipush 7, 2) := by decide +kernel
theorem dX6_follow_3 : decode cX6_follow 3 = .ok (.if_icmp .ne 21, 3) := by decide +kernel
theorem dX6_follow_6 : decode cX6_follow 6 = .ok (.aload_n 0, 1) := by decide +kernel
theorem dX6_follow_7 : decode cX6_follow 7 = .ok (.lload_n 2, 1) := by decide +kernel
theorem dX6_follow_8 : decode cX6_follow 8 = .ok (.lconst 0, 1) := by decide +kernel
theorem dX6_follow_9 : decode cX6_follow 9 = .ok (.lcmp, 1) := by decide +kernel
theorem dX6_follow_10 : decode cX6_follow 10 = .ok (.ifCond .ne 7, 3) := by decide +kernel
theorem dX6_follow_13 : decode cX6_follow 13 = .ok (.lconst 0, 1) := by decide +kernel
theorem dX6_follow_14 : decode cX6_follow 14 = .ok (.goto 4, 3) := by decide +kernel
theorem dX6_follow_17 : decode cX6_follow 17 = .ok (.lconst 1, 1) := by decide +kernel
theorem dX6_follow_18 : decode cX6_follow 18 = .ok (.putfield 44, 3) := by decide +kernel
theorem dX6_follow_21 : decode cX6_follow 21 = .ok (.goto 66, 3) := by decide +kernel
theorem dX6_follow_24 : decode cX6_follow 24 = .ok (.iload_n 1, 1) := by decide +kernel
theorem dX6_follow_25 : decode cX6_follow 25 = .ok (.bipush 9, 2) := by decide +kernel
theorem dX6_follow_27 : decode cX6_follow 27 = .ok (.if_icmp .ne 15, 3) := by decide +kernel
theorem dX6_follow_30 : decode cX6_follow 30 = .ok (.aload_n 0, 1) := by decide +kernel
theorem dX6_follow_31 : decode cX6_follow 31 = .ok (.lload_n 2, 1) := by decide +kernel
theorem dX6_follow_32 : decode cX6_follow 32 = .ok (.ldc2_w 79, 3) := by decide +kernel
theorem dX6_follow_35 : decode cX6_follow 35 = .ok (.ldiv, 1) := by decide +kernel
theorem dX6_follow_36 : decode cX6_follow 36 = .ok (.putfield 44, 3) := by decide +kernel
theorem dX6_follow_39 : decode cX6_follow 39 = .ok (.goto 48, 3) := by decide +kernel
theorem dX6_follow_42 : decode cX6_follow 42 = .ok (.lload_n 2, 1) := by decide +kernel
theorem dX6_follow_43 : decode cX6_follow 43 = .ok (.aload_n 0, 1) := by decide +kernel
theorem dX6_follow_44 : decode cX6_follow 44 = .ok (.getfield 21, 3) := by decide +kernel
theorem dX6_follow_47 : decode cX6_follow 47 = .ok (.iload_n 1, 1) := by decide +kernel
theorem dX6_follow_48 : decode cX6_follow 48 = .ok (.iaload, 1) := by decide +kernel
theorem dX6_follow_49 : decode cX6_follow 49 = .ok (.aload_n 0, 1) := by decide +kernel
theorem dX6_follow_50 : decode cX6_follow 50 = .ok (.getfield 24, 3) := by decide +kernel
theorem dX6_follow_53 : decode cX6_follow 53 = .ok (.iload_n 1, 1) := by decide +kernel
theorem dX6_follow_54 : decode cX6_follow 54 = .ok (.iaload, 1) := by decide +kernel
theorem dX6_follow_55 : decode cX6_follow 55 = .ok (.invokestatic 81, 3) := by decide +kernel
theorem dX6_follow_58 : decode cX6_follow 58 = .ok (.ifCond .eq 27, 3) := by decide +kernel
theorem dX6_follow_61 : decode cX6_follow 61 = .ok (.aload_n 0, 1) := by decide +kernel
theorem dX6_follow_62 : decode cX6_follow 62 = .ok (.lload_n 2, 1) := by decide +kernel
theorem dX6_follow_63 : decode cX6_follow 63 = .ok (.aload_n 0, 1) := by decide +kernel
theorem dX6_follow_64 : decode cX6_follow 64 = .ok (.getfield 21, 3) := by decide +kernel
theorem dX6_follow_67 : decode cX6_follow 67 = .ok (.iload_n 1, 1) := by decide +kernel
theorem dX6_follow_68 : decode cX6_follow 68 = .ok (.iaload, 1) := by decide +kernel
theorem dX6_follow_69 : decode cX6_follow 69 = .ok (.i2l, 1) := by decide +kernel
theorem dX6_follow_70 : decode cX6_follow 70 = .ok (.lmul, 1) := by decide +kernel
theorem dX6_follow_71 : decode cX6_follow 71 = .ok (.aload_n 0, 1) := by decide +kernel
theorem dX6_follow_72 : decode cX6_follow 72 = .ok (.getfield 24, 3) := by decide +kernel
theorem dX6_follow_75 : decode cX6_follow 75 = .ok (.iload_n 1, 1) := by decide +kernel
theorem dX6_follow_76 : decode cX6_follow 76 = .ok (.iaload, 1) := by decide +kernel
theorem dX6_follow_77 : decode cX6_follow 77 = .ok (.i2l, 1) := by decide +kernel
theorem dX6_follow_78 : decode cX6_follow 78 = .ok (.ladd, 1) := by decide +kernel
theorem dX6_follow_79 : decode cX6_follow 79 = .ok (.putfield 44, 3) := by decide +kernel
theorem dX6_follow_82 : decode cX6_follow 82 = .ok (.goto 5, 3) := by decide +kernel
theorem dX6_follow_85 : decode cX6_follow 85 = .ok (.iconst 0, 1) := by decide +kernel
theorem dX6_follow_86 : decode cX6_follow 86 = .ok (.ireturn, 1) := by decide +kernel
theorem dX6_follow_87 : decode cX6_follow 87 = .ok (.aload_n 0, 1) := by decide +kernel
theorem dX6_follow_88 : decode cX6_follow 88 = .ok (.getfield 15, 3) := by decide +kernel
theorem dX6_follow_91 : decode cX6_follow 91 = .ok (.iload_n 1, 1) := by decide +kernel
theorem dX6_follow_92 : decode cX6_follow 92 = .ok (.iaload, 1) := by decide +kernel
theorem dX6_follow_93 : decode cX6_follow 93 = .ok (.aload_n 0, 1) := by decide +kernel
theorem dX6_follow_94 : decode cX6_follow 94 = .ok (.getfield 44, 3) := by decide +kernel
theorem dX6_follow_97 : decode cX6_follow 97 = .ok (.invokestatic 85, 3) := by decide +kernel
theorem dX6_follow_100 : decode cX6_follow 100 = .ok (.ireturn, 1) := by decide +kernel
theorem dX6_keep_0 : decode cX6_keep 0 = .ok (.aload_n 0, 1) := by decide +kernel
theorem dX6_keep_1 : decode cX6_keep 1 = .ok (.getfield 11, 3) := by decide +kernel
theorem dX6_keep_4 : decode cX6_keep 4 = .ok (.aload_n 0, 1) := by decide +kernel
theorem dX6_keep_5 : decode cX6_keep 5 = .ok (.getfield 31, 3) := by decide +kernel
theorem dX6_keep_8 : decode cX6_keep 8 = .ok (.iload_n 1, 1) := by decide +kernel
theorem dX6_keep_9 : decode cX6_keep 9 = .ok (.iastore, 1) := by decide +kernel
theorem dX6_keep_10 : decode cX6_keep 10 = .ok (.aload_n 0, 1) := by decide +kernel
theorem dX6_keep_11 : decode cX6_keep 11 = .ok (.getfield 15, 3) := by decide +kernel
theorem dX6_keep_14 : decode cX6_keep 14 = .ok (.aload_n 0, 1) := by decide +kernel
theorem dX6_keep_15 : decode cX6_keep 15 = .ok (.getfield 31, 3) := by decide +kernel
theorem dX6_keep_18 : decode cX6_keep 18 = .ok (.iload_n 2, 1) := by decide +kernel
theorem dX6_keep_19 : decode cX6_keep 19 = .ok (.iastore, 1) := by decide +kernel
theorem dX6_keep_20 : decode cX6_keep 20 = .ok (.aload_n 0, 1) := by decide +kernel
theorem dX6_keep_21 : decode cX6_keep 21 = .ok (.getfield 18, 3) := by decide +kernel
theorem dX6_keep_24 : decode cX6_keep 24 = .ok (.aload_n 0, 1) := by decide +kernel
theorem dX6_keep_25 : decode cX6_keep 25 = .ok (.getfield 31, 3) := by decide +kernel
theorem dX6_keep_28 : decode cX6_keep 28 = .ok (.iload_n 3, 1) := by decide +kernel
theorem dX6_keep_29 : decode cX6_keep 29 = .ok (.iastore, 1) := by decide +kernel
theorem dX6_keep_30 : decode cX6_keep 30 = .ok (.aload_n 0, 1) := by decide +kernel
theorem dX6_keep_31 : decode cX6_keep 31 = .ok (.getfield 21, 3) := by decide +kernel
theorem dX6_keep_34 : decode cX6_keep 34 = .ok (.aload_n 0, 1) := by decide +kernel
theorem dX6_keep_35 : decode cX6_keep 35 = .ok (.getfield 31, 3) := by decide +kernel
theorem dX6_keep_38 : decode cX6_keep 38 = .ok (.iload 4, 2) := by decide +kernel
theorem dX6_keep_40 : decode cX6_keep 40 = .ok (.iastore, 1) := by decide +kernel
theorem dX6_keep_41 : decode cX6_keep 41 = .ok (.aload_n 0, 1) := by decide +kernel
theorem dX6_keep_42 : decode cX6_keep 42 = .ok (.getfield 24, 3) := by decide +kernel
theorem dX6_keep_45 : decode cX6_keep 45 = .ok (.aload_n 0, 1) := by decide +kernel
theorem dX6_keep_46 : decode cX6_keep 46 = .ok (.getfield 31, 3) := by decide +kernel
theorem dX6_keep_49 : decode cX6_keep 49 = .ok (.iload 5, 2) := by decide +kernel
theorem dX6_keep_51 : decode cX6_keep 51 = .ok (.iastore, 1) := by decide +kernel
theorem dX6_keep_52 : decode cX6_keep 52 = .ok (.aload_n 0, 1) := by decide +kernel
theorem dX6_keep_53 : decode cX6_keep 53 = .ok (.getfield 27, 3) := by decide +kernel
theorem dX6_keep_56 : decode cX6_keep 56 = .ok (.aload_n 0, 1) := by decide +kernel
theorem dX6_keep_57 : decode cX6_keep 57 = .ok (.getfield 31, 3) := by decide +kernel
theorem dX6_keep_60 : decode cX6_keep 60 = .ok (.iconst 1, 1) := by decide +kernel
theorem dX6_keep_61 : decode cX6_keep 61 = .ok (.bastore, 1) := by decide +kernel
theorem dX6_keep_62 : decode cX6_keep 62 = .ok (.aload_n 0, 1) := by decide +kernel
theorem dX6_keep_63 : decode cX6_keep 63 = .ok (.dup, 1) := by decide +kernel
theorem dX6_keep_64 : decode cX6_keep 64 = .ok (.getfield 31, 3) := by decide +kernel
theorem dX6_keep_67 : decode cX6_keep 67 = .ok (.iconst 1, 1) := by decide +kernel
theorem dX6_keep_68 : decode cX6_keep 68 = .ok (.iadd, 1) := by decide +kernel
theorem dX6_keep_69 : decode cX6_keep 69 = .ok (.putfield 31, 3) := by decide +kernel
theorem dX6_keep_72 : decode cX6_keep 72 = .ok (.aload_n 0, 1) := by decide +kernel
theorem dX6_keep_73 : decode cX6_keep 73 = .ok (.dup, 1) := by decide +kernel
theorem dX6_keep_74 : decode cX6_keep 74 = .ok (.getfield 35, 3) := by decide +kernel
theorem dX6_keep_77 : decode cX6_keep 77 = .ok (.iconst 1, 1) := by decide +kernel
theorem dX6_keep_78 : decode cX6_keep 78 = .ok (.iadd, 1) := by decide +kernel
theorem dX6_keep_79 : decode cX6_keep 79 = .ok (.putfield 35, 3) := by decide +kernel
theorem dX6_keep_82 : decode cX6_keep 82 = .ok (.return_, 1) := by decide +kernel
theorem dX6_measure_0 : decode cX6_measure 0 = .ok (.aload_n 0, 1) := by decide +kernel
theorem dX6_measure_1 : decode cX6_measure 1 = .ok (.getfield 38, 3) := by decide +kernel
theorem dX6_measure_4 : decode cX6_measure 4 = .ok (.ldc 74, 2) := by decide +kernel
theorem dX6_measure_6 : decode cX6_measure 6 = .ok (.invokestatic 88, 3) := by decide +kernel
theorem dX6_measure_9 : decode cX6_measure 9 = .ok (.iconst 0, 1) := by decide +kernel
theorem dX6_measure_10 : decode cX6_measure 10 = .ok (.istore_n 1, 1) := by decide +kernel
theorem dX6_measure_11 : decode cX6_measure 11 = .ok (.iload_n 1, 1) := by decide +kernel
theorem dX6_measure_12 : decode cX6_measure 12 = .ok (.bipush 7, 2) := by decide +kernel
theorem dX6_measure_14 : decode cX6_measure 14 = .ok (.if_icmp .ge 21, 3) := by decide +kernel
theorem dX6_measure_17 : decode cX6_measure 17 = .ok (.aload_n 0, 1) := by decide +kernel
theorem dX6_measure_18 : decode cX6_measure 18 = .ok (.getfield 38, 3) := by decide +kernel
theorem dX6_measure_21 : decode cX6_measure 21 = .ok (.iload_n 1, 1) := by decide +kernel
theorem dX6_measure_22 : decode cX6_measure 22 = .ok (.bipush 7, 2) := by decide +kernel
theorem dX6_measure_24 : decode cX6_measure 24 = .ok (.imul, 1) := by decide +kernel
theorem dX6_measure_25 : decode cX6_measure 25 = .ok (.iload_n 1, 1) := by decide +kernel
theorem dX6_measure_26 : decode cX6_measure 26 = .ok (.iadd, 1) := by decide +kernel
theorem dX6_measure_27 : decode cX6_measure 27 = .ok (.iconst 0, 1) := by decide +kernel
theorem dX6_measure_28 : decode cX6_measure 28 = .ok (.iastore, 1) := by decide +kernel
theorem dX6_measure_29 : decode cX6_measure 29 = .ok (.iinc 1 1, 3) := by decide +kernel
theorem dX6_measure_32 : decode cX6_measure 32 = .ok (.goto (-21), 3) := by decide +kernel
theorem dX6_measure_35 : decode cX6_measure 35 = .ok (.iconst 0, 1) := by decide +kernel
theorem dX6_measure_36 : decode cX6_measure 36 = .ok (.istore_n 1, 1) := by decide +kernel
theorem dX6_measure_37 : decode cX6_measure 37 = .ok (.iload_n 1, 1) := by decide +kernel
theorem dX6_measure_38 : decode cX6_measure 38 = .ok (.aload_n 0, 1) := by decide +kernel
theorem dX6_measure_39 : decode cX6_measure 39 = .ok (.getfield 31, 3) := by decide +kernel
theorem dX6_measure_42 : decode cX6_measure 42 = .ok (.if_icmp .ge 55, 3) := by decide +kernel
theorem dX6_measure_45 : decode cX6_measure 45 = .ok (.aload_n 0, 1) := by decide +kernel
theorem dX6_measure_46 : decode cX6_measure 46 = .ok (.getfield 27, 3) := by decide +kernel
theorem dX6_measure_49 : decode cX6_measure 49 = .ok (.iload_n 1, 1) := by decide +kernel
theorem dX6_measure_50 : decode cX6_measure 50 = .ok (.baload, 1) := by decide +kernel
theorem dX6_measure_51 : decode cX6_measure 51 = .ok (.ifCond .eq 40, 3) := by decide +kernel
theorem dX6_measure_54 : decode cX6_measure 54 = .ok (.aload_n 0, 1) := by decide +kernel
theorem dX6_measure_55 : decode cX6_measure 55 = .ok (.getfield 11, 3) := by decide +kernel
theorem dX6_measure_58 : decode cX6_measure 58 = .ok (.iload_n 1, 1) := by decide +kernel
theorem dX6_measure_59 : decode cX6_measure 59 = .ok (.iaload, 1) := by decide +kernel
theorem dX6_measure_60 : decode cX6_measure 60 = .ok (.bipush 7, 2) := by decide +kernel
theorem dX6_measure_62 : decode cX6_measure 62 = .ok (.imul, 1) := by decide +kernel
theorem dX6_measure_63 : decode cX6_measure 63 = .ok (.aload_n 0, 1) := by decide +kernel
theorem dX6_measure_64 : decode cX6_measure 64 = .ok (.getfield 15, 3) := by decide +kernel
theorem dX6_measure_67 : decode cX6_measure 67 = .ok (.iload_n 1, 1) := by decide +kernel
theorem dX6_measure_68 : decode cX6_measure 68 = .ok (.iaload, 1) := by decide +kernel
theorem dX6_measure_69 : decode cX6_measure 69 = .ok (.iadd, 1) := by decide +kernel
theorem dX6_measure_70 : decode cX6_measure 70 = .ok (.istore_n 2, 1) := by decide +kernel
theorem dX6_measure_71 : decode cX6_measure 71 = .ok (.aload_n 0, 1) := by decide +kernel
theorem dX6_measure_72 : decode cX6_measure 72 = .ok (.getfield 38, 3) := by decide +kernel
theorem dX6_measure_75 : decode cX6_measure 75 = .ok (.iload_n 2, 1) := by decide +kernel
theorem dX6_measure_76 : decode cX6_measure 76 = .ok (.aload_n 0, 1) := by decide +kernel
theorem dX6_measure_77 : decode cX6_measure 77 = .ok (.getfield 38, 3) := by decide +kernel
theorem dX6_measure_80 : decode cX6_measure 80 = .ok (.iload_n 2, 1) := by decide +kernel
theorem dX6_measure_81 : decode cX6_measure 81 = .ok (.iaload, 1) := by decide +kernel
theorem dX6_measure_82 : decode cX6_measure 82 = .ok (.aload_n 0, 1) := by decide +kernel
theorem dX6_measure_83 : decode cX6_measure 83 = .ok (.iload_n 1, 1) := by decide +kernel
theorem dX6_measure_84 : decode cX6_measure 84 = .ok (.invokevirtual 94, 3) := by decide +kernel
theorem dX6_measure_87 : decode cX6_measure 87 = .ok (.invokestatic 98, 3) := by decide +kernel
theorem dX6_measure_90 : decode cX6_measure 90 = .ok (.iastore, 1) := by decide +kernel
theorem dX6_measure_91 : decode cX6_measure 91 = .ok (.iinc 1 1, 3) := by decide +kernel
theorem dX6_measure_94 : decode cX6_measure 94 = .ok (.goto (-57), 3) := by decide +kernel
theorem dX6_measure_97 : decode cX6_measure 97 = .ok (.iconst 0, 1) := by decide +kernel
theorem dX6_measure_98 : decode cX6_measure 98 = .ok (.istore_n 1, 1) := by decide +kernel
theorem dX6_measure_99 : decode cX6_measure 99 = .ok (.iload_n 1, 1) := by decide +kernel
theorem dX6_measure_100 : decode cX6_measure 100 = .ok (.bipush 7, 2) := by decide +kernel
theorem dX6_measure_102 : decode cX6_measure 102 = .ok (.if_icmp .ge 14, 3) := by decide +kernel
theorem dX6_measure_105 : decode cX6_measure 105 = .ok (.aload_n 0, 1) := by decide +kernel
theorem dX6_measure_106 : decode cX6_measure 106 = .ok (.iload_n 1, 1) := by decide +kernel
theorem dX6_measure_107 : decode cX6_measure 107 = .ok (.invokevirtual 104, 3) := by decide +kernel
theorem dX6_measure_110 : decode cX6_measure 110 = .ok (.iinc 1 1, 3) := by decide +kernel
theorem dX6_measure_113 : decode cX6_measure 113 = .ok (.goto (-14), 3) := by decide +kernel
theorem dX6_measure_116 : decode cX6_measure 116 = .ok (.iconst 0, 1) := by decide +kernel
theorem dX6_measure_117 : decode cX6_measure 117 = .ok (.istore_n 1, 1) := by decide +kernel
theorem dX6_measure_118 : decode cX6_measure 118 = .ok (.iload_n 1, 1) := by decide +kernel
theorem dX6_measure_119 : decode cX6_measure 119 = .ok (.bipush 49, 2) := by decide +kernel
theorem dX6_measure_121 : decode cX6_measure 121 = .ok (.if_icmp .ge 27, 3) := by decide +kernel
theorem dX6_measure_124 : decode cX6_measure 124 = .ok (.aload_n 0, 1) := by decide +kernel
theorem dX6_measure_125 : decode cX6_measure 125 = .ok (.getfield 41, 3) := by decide +kernel
theorem dX6_measure_128 : decode cX6_measure 128 = .ok (.iload_n 1, 1) := by decide +kernel
theorem dX6_measure_129 : decode cX6_measure 129 = .ok (.aload_n 0, 1) := by decide +kernel
theorem dX6_measure_130 : decode cX6_measure 130 = .ok (.iload_n 1, 1) := by decide +kernel
theorem dX6_measure_131 : decode cX6_measure 131 = .ok (.bipush 7, 2) := by decide +kernel
theorem dX6_measure_133 : decode cX6_measure 133 = .ok (.idiv, 1) := by decide +kernel
theorem dX6_measure_134 : decode cX6_measure 134 = .ok (.iload_n 1, 1) := by decide +kernel
theorem dX6_measure_135 : decode cX6_measure 135 = .ok (.bipush 7, 2) := by decide +kernel
theorem dX6_measure_137 : decode cX6_measure 137 = .ok (.irem, 1) := by decide +kernel
theorem dX6_measure_138 : decode cX6_measure 138 = .ok (.invokevirtual 108, 3) := by decide +kernel
theorem dX6_measure_141 : decode cX6_measure 141 = .ok (.iastore, 1) := by decide +kernel
theorem dX6_measure_142 : decode cX6_measure 142 = .ok (.iinc 1 1, 3) := by decide +kernel
theorem dX6_measure_145 : decode cX6_measure 145 = .ok (.goto (-27), 3) := by decide +kernel
theorem dX6_measure_148 : decode cX6_measure 148 = .ok (.return_, 1) := by decide +kernel
theorem dX6_weightOf_0 : decode cX6_weightOf 0 = .ok (.bipush 8, 2) := by decide +kernel
theorem dX6_weightOf_2 : decode cX6_weightOf 2 = .ok (.aload_n 0, 1) := by decide +kernel
theorem dX6_weightOf_3 : decode cX6_weightOf 3 = .ok (.getfield 18, 3) := by decide +kernel
theorem dX6_weightOf_6 : decode cX6_weightOf 6 = .ok (.iload_n 1, 1) := by decide +kernel
theorem dX6_weightOf_7 : decode cX6_weightOf 7 = .ok (.iaload, 1) := by decide +kernel
theorem dX6_weightOf_8 : decode cX6_weightOf 8 = .ok (.imul, 1) := by decide +kernel
theorem dX6_weightOf_9 : decode cX6_weightOf 9 = .ok (.iconst 1, 1) := by decide +kernel
theorem dX6_weightOf_10 : decode cX6_weightOf 10 = .ok (.iadd, 1) := by decide +kernel
theorem dX6_weightOf_11 : decode cX6_weightOf 11 = .ok (.ireturn, 1) := by decide +kernel
theorem dX6_shortenBy_0 : decode cX6_shortenBy 0 = .ok (.iconst 0, 1) := by decide +kernel
theorem dX6_shortenBy_1 : decode cX6_shortenBy 1 = .ok (.istore_n 2, 1) := by decide +kernel
theorem dX6_shortenBy_2 : decode cX6_shortenBy 2 = .ok (.iload_n 2, 1) := by decide +kernel
theorem dX6_shortenBy_3 : decode cX6_shortenBy 3 = .ok (.bipush 49, 2) := by decide +kernel
theorem dX6_shortenBy_5 : decode cX6_shortenBy 5 = .ok (.if_icmp .ge 59, 3) := by decide +kernel
theorem dX6_shortenBy_8 : decode cX6_shortenBy 8 = .ok (.aload_n 0, 1) := by decide +kernel
theorem dX6_shortenBy_9 : decode cX6_shortenBy 9 = .ok (.getfield 38, 3) := by decide +kernel
theorem dX6_shortenBy_12 : decode cX6_shortenBy 12 = .ok (.iload_n 2, 1) := by decide +kernel
theorem dX6_shortenBy_13 : decode cX6_shortenBy 13 = .ok (.bipush 7, 2) := by decide +kernel
theorem dX6_shortenBy_15 : decode cX6_shortenBy 15 = .ok (.idiv, 1) := by decide +kernel
theorem dX6_shortenBy_16 : decode cX6_shortenBy 16 = .ok (.bipush 7, 2) := by decide +kernel
theorem dX6_shortenBy_18 : decode cX6_shortenBy 18 = .ok (.imul, 1) := by decide +kernel
theorem dX6_shortenBy_19 : decode cX6_shortenBy 19 = .ok (.iload_n 1, 1) := by decide +kernel
theorem dX6_shortenBy_20 : decode cX6_shortenBy 20 = .ok (.iadd, 1) := by decide +kernel
theorem dX6_shortenBy_21 : decode cX6_shortenBy 21 = .ok (.iaload, 1) := by decide +kernel
theorem dX6_shortenBy_22 : decode cX6_shortenBy 22 = .ok (.istore_n 3, 1) := by decide +kernel
theorem dX6_shortenBy_23 : decode cX6_shortenBy 23 = .ok (.aload_n 0, 1) := by decide +kernel
theorem dX6_shortenBy_24 : decode cX6_shortenBy 24 = .ok (.getfield 38, 3) := by decide +kernel
theorem dX6_shortenBy_27 : decode cX6_shortenBy 27 = .ok (.iload_n 1, 1) := by decide +kernel
theorem dX6_shortenBy_28 : decode cX6_shortenBy 28 = .ok (.bipush 7, 2) := by decide +kernel
theorem dX6_shortenBy_30 : decode cX6_shortenBy 30 = .ok (.imul, 1) := by decide +kernel
theorem dX6_shortenBy_31 : decode cX6_shortenBy 31 = .ok (.iload_n 2, 1) := by decide +kernel
theorem dX6_shortenBy_32 : decode cX6_shortenBy 32 = .ok (.bipush 7, 2) := by decide +kernel
theorem dX6_shortenBy_34 : decode cX6_shortenBy 34 = .ok (.irem, 1) := by decide +kernel
theorem dX6_shortenBy_35 : decode cX6_shortenBy 35 = .ok (.iadd, 1) := by decide +kernel
theorem dX6_shortenBy_36 : decode cX6_shortenBy 36 = .ok (.iaload, 1) := by decide +kernel
theorem dX6_shortenBy_37 : decode cX6_shortenBy 37 = .ok (.istore 4, 2) := by decide +kernel
theorem dX6_shortenBy_39 : decode cX6_shortenBy 39 = .ok (.aload_n 0, 1) := by decide +kernel
theorem dX6_shortenBy_40 : decode cX6_shortenBy 40 = .ok (.getfield 38, 3) := by decide +kernel
theorem dX6_shortenBy_43 : decode cX6_shortenBy 43 = .ok (.iload_n 2, 1) := by decide +kernel
theorem dX6_shortenBy_44 : decode cX6_shortenBy 44 = .ok (.aload_n 0, 1) := by decide +kernel
theorem dX6_shortenBy_45 : decode cX6_shortenBy 45 = .ok (.getfield 38, 3) := by decide +kernel
theorem dX6_shortenBy_48 : decode cX6_shortenBy 48 = .ok (.iload_n 2, 1) := by decide +kernel
theorem dX6_shortenBy_49 : decode cX6_shortenBy 49 = .ok (.iaload, 1) := by decide +kernel
theorem dX6_shortenBy_50 : decode cX6_shortenBy 50 = .ok (.iload_n 3, 1) := by decide +kernel
theorem dX6_shortenBy_51 : decode cX6_shortenBy 51 = .ok (.iload 4, 2) := by decide +kernel
theorem dX6_shortenBy_53 : decode cX6_shortenBy 53 = .ok (.iadd, 1) := by decide +kernel
theorem dX6_shortenBy_54 : decode cX6_shortenBy 54 = .ok (.invokestatic 98, 3) := by decide +kernel
theorem dX6_shortenBy_57 : decode cX6_shortenBy 57 = .ok (.iastore, 1) := by decide +kernel
theorem dX6_shortenBy_58 : decode cX6_shortenBy 58 = .ok (.iinc 2 1, 3) := by decide +kernel
theorem dX6_shortenBy_61 : decode cX6_shortenBy 61 = .ok (.goto (-59), 3) := by decide +kernel
theorem dX6_shortenBy_64 : decode cX6_shortenBy 64 = .ok (.return_, 1) := by decide +kernel
theorem dX6_firstOf_0 : decode cX6_firstOf 0 = .ok (.aload_n 0, 1) := by decide +kernel
theorem dX6_firstOf_1 : decode cX6_firstOf 1 = .ok (.getfield 38, 3) := by decide +kernel
theorem dX6_firstOf_4 : decode cX6_firstOf 4 = .ok (.iload_n 1, 1) := by decide +kernel
theorem dX6_firstOf_5 : decode cX6_firstOf 5 = .ok (.bipush 7, 2) := by decide +kernel
theorem dX6_firstOf_7 : decode cX6_firstOf 7 = .ok (.imul, 1) := by decide +kernel
theorem dX6_firstOf_8 : decode cX6_firstOf 8 = .ok (.iload_n 2, 1) := by decide +kernel
theorem dX6_firstOf_9 : decode cX6_firstOf 9 = .ok (.iadd, 1) := by decide +kernel
theorem dX6_firstOf_10 : decode cX6_firstOf 10 = .ok (.iaload, 1) := by decide +kernel
theorem dX6_firstOf_11 : decode cX6_firstOf 11 = .ok (.istore_n 3, 1) := by decide +kernel
theorem dX6_firstOf_12 : decode cX6_firstOf 12 = .ok (.iconst 0, 1) := by decide +kernel
theorem dX6_firstOf_13 : decode cX6_firstOf 13 = .ok (.istore 4, 2) := by decide +kernel
theorem dX6_firstOf_15 : decode cX6_firstOf 15 = .ok (.iload 4, 2) := by decide +kernel
theorem dX6_firstOf_17 : decode cX6_firstOf 17 = .ok (.aload_n 0, 1) := by decide +kernel
theorem dX6_firstOf_18 : decode cX6_firstOf 18 = .ok (.getfield 31, 3) := by decide +kernel
theorem dX6_firstOf_21 : decode cX6_firstOf 21 = .ok (.if_icmp .ge 67, 3) := by decide +kernel
theorem dX6_firstOf_24 : decode cX6_firstOf 24 = .ok (.iload_n 3, 1) := by decide +kernel
theorem dX6_firstOf_25 : decode cX6_firstOf 25 = .ok (.ldc 74, 2) := by decide +kernel
theorem dX6_firstOf_27 : decode cX6_firstOf 27 = .ok (.if_icmp .ge 61, 3) := by decide +kernel
theorem dX6_firstOf_30 : decode cX6_firstOf 30 = .ok (.aload_n 0, 1) := by decide +kernel
theorem dX6_firstOf_31 : decode cX6_firstOf 31 = .ok (.getfield 27, 3) := by decide +kernel
theorem dX6_firstOf_34 : decode cX6_firstOf 34 = .ok (.iload 4, 2) := by decide +kernel
theorem dX6_firstOf_36 : decode cX6_firstOf 36 = .ok (.baload, 1) := by decide +kernel
theorem dX6_firstOf_37 : decode cX6_firstOf 37 = .ok (.ifCond .eq 45, 3) := by decide +kernel
theorem dX6_firstOf_40 : decode cX6_firstOf 40 = .ok (.aload_n 0, 1) := by decide +kernel
theorem dX6_firstOf_41 : decode cX6_firstOf 41 = .ok (.getfield 11, 3) := by decide +kernel
theorem dX6_firstOf_44 : decode cX6_firstOf 44 = .ok (.iload 4, 2) := by decide +kernel
theorem dX6_firstOf_46 : decode cX6_firstOf 46 = .ok (.iaload, 1) := by decide +kernel
theorem dX6_firstOf_47 : decode cX6_firstOf 47 = .ok (.iload_n 1, 1) := by decide +kernel
theorem dX6_firstOf_48 : decode cX6_firstOf 48 = .ok (.if_icmp .ne 34, 3) := by decide +kernel
theorem dX6_firstOf_51 : decode cX6_firstOf 51 = .ok (.aload_n 0, 1) := by decide +kernel
theorem dX6_firstOf_52 : decode cX6_firstOf 52 = .ok (.iload 4, 2) := by decide +kernel
theorem dX6_firstOf_54 : decode cX6_firstOf 54 = .ok (.invokevirtual 94, 3) := by decide +kernel
theorem dX6_firstOf_57 : decode cX6_firstOf 57 = .ok (.aload_n 0, 1) := by decide +kernel
theorem dX6_firstOf_58 : decode cX6_firstOf 58 = .ok (.getfield 38, 3) := by decide +kernel
theorem dX6_firstOf_61 : decode cX6_firstOf 61 = .ok (.aload_n 0, 1) := by decide +kernel
theorem dX6_firstOf_62 : decode cX6_firstOf 62 = .ok (.getfield 15, 3) := by decide +kernel
theorem dX6_firstOf_65 : decode cX6_firstOf 65 = .ok (.iload 4, 2) := by decide +kernel
theorem dX6_firstOf_67 : decode cX6_firstOf 67 = .ok (.iaload, 1) := by decide +kernel
theorem dX6_firstOf_68 : decode cX6_firstOf 68 = .ok (.bipush 7, 2) := by decide +kernel
end
section
theorem dX6_firstOf_70 : decode cX6_firstOf 70 = .ok (.imul, 1) := by decide +kernel
theorem dX6_firstOf_71 : decode cX6_firstOf 71 = .ok (.iload_n 2, 1) := by decide +kernel
theorem dX6_firstOf_72 : decode cX6_firstOf 72 = .ok (.iadd, 1) := by decide +kernel
theorem dX6_firstOf_73 : decode cX6_firstOf 73 = .ok (.iaload, 1) := by decide +kernel
theorem dX6_firstOf_74 : decode cX6_firstOf 74 = .ok (.iadd, 1) := by decide +kernel
theorem dX6_firstOf_75 : decode cX6_firstOf 75 = .ok (.iload_n 3, 1) := by decide +kernel
theorem dX6_firstOf_76 : decode cX6_firstOf 76 = .ok (.if_icmp .ne 6, 3) := by decide +kernel
theorem dX6_firstOf_79 : decode cX6_firstOf 79 = .ok (.iload 4, 2) := by decide +kernel
theorem dX6_firstOf_81 : decode cX6_firstOf 81 = .ok (.ireturn, 1) := by decide +kernel
theorem dX6_firstOf_82 : decode cX6_firstOf 82 = .ok (.iinc 4 1, 3) := by decide +kernel
theorem dX6_firstOf_85 : decode cX6_firstOf 85 = .ok (.goto (-70), 3) := by decide +kernel
theorem dX6_firstOf_88 : decode cX6_firstOf 88 = .ok (.iconst (-1), 1) := by decide +kernel
theorem dX6_firstOf_89 : decode cX6_firstOf 89 = .ok (.ireturn, 1) := by decide +kernel
theorem dX7_init_0 : decode cX7_init 0 = .ok (.aload_n 0, 1) := by decide +kernel
theorem dX7_init_1 : decode cX7_init 1 = .ok (.invokespecial 3, 3) := by decide +kernel
theorem dX7_init_4 : decode cX7_init 4 = .ok (.aload_n 0, 1) := by decide +kernel
theorem dX7_init_5 : decode cX7_init 5 = .ok (.bipush 6, 2) := by decide +kernel
theorem dX7_init_7 : decode cX7_init 7 = .ok (.anewarray 9, 3) := by decide +kernel
theorem dX7_init_10 : decode cX7_init 10 = .ok (.putfield 11, 3) := by decide +kernel
theorem dX7_init_13 : decode cX7_init 13 = .ok (.aload_n 0, 1) := by decide +kernel
theorem dX7_init_14 : decode cX7_init 14 = .ok (.iconst 0, 1) := by decide +kernel
theorem dX7_init_15 : decode cX7_init 15 = .ok (.putfield 17, 3) := by decide +kernel
theorem dX7_init_18 : decode cX7_init 18 = .ok (.iconst 0, 1) := by decide +kernel
theorem dX7_init_19 : decode cX7_init 19 = .ok (.istore_n 1, 1) := by decide +kernel
theorem dX7_init_20 : decode cX7_init 20 = .ok (.iload_n 1, 1) := by decide +kernel
theorem dX7_init_21 : decode cX7_init 21 = .ok (.bipush 6, 2) := by decide +kernel
theorem dX7_init_23 : decode cX7_init 23 = .ok (.if_icmp .ge 22, 3) := by decide +kernel
theorem dX7_init_26 : decode cX7_init 26 = .ok (.aload_n 0, 1) := by decide +kernel
theorem dX7_init_27 : decode cX7_init 27 = .ok (.getfield 11, 3) := by decide +kernel
theorem dX7_init_30 : decode cX7_init 30 = .ok (.iload_n 1, 1) := by decide +kernel
theorem dX7_init_31 : decode cX7_init 31 = .ok (.new 9, 3) := by decide +kernel
theorem dX7_init_34 : decode cX7_init 34 = .ok (.dup, 1) := by decide +kernel
theorem dX7_init_35 : decode cX7_init 35 = .ok (.invokespecial 21, 3) := by decide +kernel
theorem dX7_init_38 : decode cX7_init 38 = .ok (.aastore, 1) := by decide +kernel
theorem dX7_init_39 : decode cX7_init 39 = .ok (.iinc 1 1, 3) := by decide +kernel
theorem dX7_init_42 : decode cX7_init 42 = .ok (.goto (-22), 3) := by decide +kernel
theorem dX7_init_45 : decode cX7_init 45 = .ok (.return_, 1) := by decide +kernel
theorem dX7_has_0 : decode cX7_has 0 = .ok (.iload_n 1, 1) := by decide +kernel
theorem dX7_has_1 : decode cX7_has 1 = .ok (.iconst 0, 1) := by decide +kernel
theorem dX7_has_2 : decode cX7_has 2 = .ok (.aload_n 0, 1) := by decide +kernel
theorem dX7_has_3 : decode cX7_has 3 = .ok (.getfield 17, 3) := by decide +kernel
theorem dX7_has_6 : decode cX7_has 6 = .ok (.iconst 1, 1) := by decide +kernel
theorem dX7_has_7 : decode cX7_has 7 = .ok (.isub, 1) := by decide +kernel
theorem dX7_has_8 : decode cX7_has 8 = .ok (.invokestatic 22, 3) := by decide +kernel
theorem dX7_has_11 : decode cX7_has 11 = .ok (.ireturn, 1) := by decide +kernel
theorem dX7_add_0 : decode cX7_add 0 = .ok (.aload_n 0, 1) := by decide +kernel
theorem dX7_add_1 : decode cX7_add 1 = .ok (.getfield 11, 3) := by decide +kernel
theorem dX7_add_4 : decode cX7_add 4 = .ok (.aload_n 0, 1) := by decide +kernel
theorem dX7_add_5 : decode cX7_add 5 = .ok (.getfield 17, 3) := by decide +kernel
theorem dX7_add_8 : decode cX7_add 8 = .ok (.aaload, 1) := by decide +kernel
theorem dX7_add_9 : decode cX7_add 9 = .ok (.iload_n 1, 1) := by decide +kernel
theorem dX7_add_10 : decode cX7_add 10 = .ok (.iload_n 2, 1) := by decide +kernel
theorem dX7_add_11 : decode cX7_add 11 = .ok (.invokevirtual 26, 3) := by decide +kernel
theorem dX7_add_14 : decode cX7_add 14 = .ok (.aload_n 0, 1) := by decide +kernel
theorem dX7_add_15 : decode cX7_add 15 = .ok (.dup, 1) := by decide +kernel
theorem dX7_add_16 : decode cX7_add 16 = .ok (.getfield 17, 3) := by decide +kernel
theorem dX7_add_19 : decode cX7_add 19 = .ok (.iconst 1, 1) := by decide +kernel
theorem dX7_add_20 : decode cX7_add 20 = .ok (.iadd, 1) := by decide +kernel
theorem dX7_add_21 : decode cX7_add 21 = .ok (.putfield 17, 3) := by decide +kernel
theorem dX7_add_24 : decode cX7_add 24 = .ok (.aload_n 0, 1) := by decide +kernel
theorem dX7_add_25 : decode cX7_add 25 = .ok (.getfield 17, 3) := by decide +kernel
theorem dX7_add_28 : decode cX7_add 28 = .ok (.iconst 1, 1) := by decide +kernel
theorem dX7_add_29 : decode cX7_add 29 = .ok (.isub, 1) := by decide +kernel
theorem dX7_add_30 : decode cX7_add 30 = .ok (.ireturn, 1) := by decide +kernel
theorem dX8_init_0 : decode cX8_init 0 = .ok (.aload_n 0, 1) := by decide +kernel
theorem dX8_init_1 : decode cX8_init 1 = .ok (.invokespecial 3, 3) := by decide +kernel
theorem dX8_init_4 : decode cX8_init 4 = .ok (.aload_n 0, 1) := by decide +kernel
theorem dX8_init_5 : decode cX8_init 5 = .ok (.bipush 20, 2) := by decide +kernel
theorem dX8_init_7 : decode cX8_init 7 = .ok (.newarray .int, 2) := by decide +kernel
theorem dX8_init_9 : decode cX8_init 9 = .ok (.putfield 9, 3) := by decide +kernel
theorem dX8_init_12 : decode cX8_init 12 = .ok (.aload_n 0, 1) := by decide +kernel
theorem dX8_init_13 : decode cX8_init 13 = .ok (.bipush 60, 2) := by decide +kernel
theorem dX8_init_15 : decode cX8_init 15 = .ok (.newarray .long, 2) := by decide +kernel
theorem dX8_init_17 : decode cX8_init 17 = .ok (.putfield 15, 3) := by decide +kernel
theorem dX8_init_20 : decode cX8_init 20 = .ok (.aload_n 0, 1) := by decide +kernel
theorem dX8_init_21 : decode cX8_init 21 = .ok (.iconst 0, 1) := by decide +kernel
theorem dX8_init_22 : decode cX8_init 22 = .ok (.putfield 19, 3) := by decide +kernel
theorem dX8_init_25 : decode cX8_init 25 = .ok (.return_, 1) := by decide +kernel
theorem dX8_has_0 : decode cX8_has 0 = .ok (.iload_n 1, 1) := by decide +kernel
theorem dX8_has_1 : decode cX8_has 1 = .ok (.iconst 0, 1) := by decide +kernel
theorem dX8_has_2 : decode cX8_has 2 = .ok (.aload_n 0, 1) := by decide +kernel
theorem dX8_has_3 : decode cX8_has 3 = .ok (.getfield 19, 3) := by decide +kernel
theorem dX8_has_6 : decode cX8_has 6 = .ok (.iconst 1, 1) := by decide +kernel
theorem dX8_has_7 : decode cX8_has 7 = .ok (.isub, 1) := by decide +kernel
theorem dX8_has_8 : decode cX8_has 8 = .ok (.invokestatic 23, 3) := by decide +kernel
theorem dX8_has_11 : decode cX8_has 11 = .ok (.ireturn, 1) := by decide +kernel
theorem dX8_add_0 : decode cX8_add 0 = .ok (.aload_n 0, 1) := by decide +kernel
theorem dX8_add_1 : decode cX8_add 1 = .ok (.getfield 9, 3) := by decide +kernel
theorem dX8_add_4 : decode cX8_add 4 = .ok (.aload_n 0, 1) := by decide +kernel
theorem dX8_add_5 : decode cX8_add 5 = .ok (.getfield 19, 3) := by decide +kernel
theorem dX8_add_8 : decode cX8_add 8 = .ok (.iload_n 1, 1) := by decide +kernel
theorem dX8_add_9 : decode cX8_add 9 = .ok (.iastore, 1) := by decide +kernel
theorem dX8_add_10 : decode cX8_add 10 = .ok (.aload_n 0, 1) := by decide +kernel
theorem dX8_add_11 : decode cX8_add 11 = .ok (.dup, 1) := by decide +kernel
theorem dX8_add_12 : decode cX8_add 12 = .ok (.getfield 19, 3) := by decide +kernel
theorem dX8_add_15 : decode cX8_add 15 = .ok (.iconst 1, 1) := by decide +kernel
theorem dX8_add_16 : decode cX8_add 16 = .ok (.iadd, 1) := by decide +kernel
theorem dX8_add_17 : decode cX8_add 17 = .ok (.putfield 19, 3) := by decide +kernel
theorem dX8_add_20 : decode cX8_add 20 = .ok (.aload_n 0, 1) := by decide +kernel
theorem dX8_add_21 : decode cX8_add 21 = .ok (.getfield 19, 3) := by decide +kernel
theorem dX8_add_24 : decode cX8_add 24 = .ok (.iconst 1, 1) := by decide +kernel
theorem dX8_add_25 : decode cX8_add 25 = .ok (.isub, 1) := by decide +kernel
theorem dX8_add_26 : decode cX8_add 26 = .ok (.ireturn, 1) := by decide +kernel
theorem dX9_init_0 : decode cX9_init 0 = .ok (.aload_n 0, 1) := by decide +kernel
theorem dX9_init_1 : decode cX9_init 1 = .ok (.invokespecial 3, 3) := by decide +kernel
theorem dX9_init_4 : decode cX9_init 4 = .ok (.aload_n 0, 1) := by decide +kernel
theorem dX9_init_5 : decode cX9_init 5 = .ok (.bipush 100, 2) := by decide +kernel
theorem dX9_init_7 : decode cX9_init 7 = .ok (.newarray .int, 2) := by decide +kernel
theorem dX9_init_9 : decode cX9_init 9 = .ok (.putfield 9, 3) := by decide +kernel
theorem dX9_init_12 : decode cX9_init 12 = .ok (.aload_n 0, 1) := by decide +kernel
theorem dX9_init_13 : decode cX9_init 13 = .ok (.bipush 10, 2) := by decide +kernel
theorem dX9_init_15 : decode cX9_init 15 = .ok (.newarray .int, 2) := by decide +kernel
theorem dX9_init_17 : decode cX9_init 17 = .ok (.putfield 15, 3) := by decide +kernel
theorem dX9_init_20 : decode cX9_init 20 = .ok (.aload_n 0, 1) := by decide +kernel
theorem dX9_init_21 : decode cX9_init 21 = .ok (.iconst 0, 1) := by decide +kernel
theorem dX9_init_22 : decode cX9_init 22 = .ok (.putfield 18, 3) := by decide +kernel
theorem dX9_init_25 : decode cX9_init 25 = .ok (.aload_n 0, 1) := by decide +kernel
theorem dX9_init_26 : decode cX9_init 26 = .ok (.iconst 0, 1) := by decide +kernel
theorem dX9_init_27 : decode cX9_init 27 = .ok (.putfield 22, 3) := by decide +kernel
theorem dX9_init_30 : decode cX9_init 30 = .ok (.aload_n 0, 1) := by decide +kernel
theorem dX9_init_31 : decode cX9_init 31 = .ok (.bipush 10, 2) := by decide +kernel
theorem dX9_init_33 : decode cX9_init 33 = .ok (.newarray .int, 2) := by decide +kernel
theorem dX9_init_35 : decode cX9_init 35 = .ok (.putfield 25, 3) := by decide +kernel
theorem dX9_init_38 : decode cX9_init 38 = .ok (.aload_n 0, 1) := by decide +kernel
theorem dX9_init_39 : decode cX9_init 39 = .ok (.aload_n 1, 1) := by decide +kernel
theorem dX9_init_40 : decode cX9_init 40 = .ok (.putfield 28, 3) := by decide +kernel
theorem dX9_init_43 : decode cX9_init 43 = .ok (.aload_n 0, 1) := by decide +kernel
theorem dX9_init_44 : decode cX9_init 44 = .ok (.aload_n 2, 1) := by decide +kernel
theorem dX9_init_45 : decode cX9_init 45 = .ok (.putfield 32, 3) := by decide +kernel
theorem dX9_init_48 : decode cX9_init 48 = .ok (.aload_n 0, 1) := by decide +kernel
theorem dX9_init_49 : decode cX9_init 49 = .ok (.invokevirtual 36, 3) := by decide +kernel
theorem dX9_init_52 : decode cX9_init 52 = .ok (.return_, 1) := by decide +kernel
theorem dX9_forgetAll_0 : decode cX9_forgetAll 0 = .ok (.aload_n 0, 1) := by decide +kernel
theorem dX9_forgetAll_1 : decode cX9_forgetAll 1 = .ok (.getfield 9, 3) := by decide +kernel
theorem dX9_forgetAll_4 : decode cX9_forgetAll 4 = .ok (.iconst (-1), 1) := by decide +kernel
theorem dX9_forgetAll_5 : decode cX9_forgetAll 5 = .ok (.invokestatic 39, 3) := by decide +kernel
theorem dX9_forgetAll_8 : decode cX9_forgetAll 8 = .ok (.return_, 1) := by decide +kernel
theorem dX9_forgetFace_0 : decode cX9_forgetFace 0 = .ok (.iconst 0, 1) := by decide +kernel
theorem dX9_forgetFace_1 : decode cX9_forgetFace 1 = .ok (.istore_n 2, 1) := by decide +kernel
theorem dX9_forgetFace_2 : decode cX9_forgetFace 2 = .ok (.iload_n 2, 1) := by decide +kernel
theorem dX9_forgetFace_3 : decode cX9_forgetFace 3 = .ok (.bipush 10, 2) := by decide +kernel
theorem dX9_forgetFace_5 : decode cX9_forgetFace 5 = .ok (.if_icmp .ge 33, 3) := by decide +kernel
theorem dX9_forgetFace_8 : decode cX9_forgetFace 8 = .ok (.aload_n 0, 1) := by decide +kernel
theorem dX9_forgetFace_9 : decode cX9_forgetFace 9 = .ok (.getfield 9, 3) := by decide +kernel
theorem dX9_forgetFace_12 : decode cX9_forgetFace 12 = .ok (.iload_n 1, 1) := by decide +kernel
theorem dX9_forgetFace_13 : decode cX9_forgetFace 13 = .ok (.bipush 10, 2) := by decide +kernel
theorem dX9_forgetFace_15 : decode cX9_forgetFace 15 = .ok (.imul, 1) := by decide +kernel
theorem dX9_forgetFace_16 : decode cX9_forgetFace 16 = .ok (.iload_n 2, 1) := by decide +kernel
theorem dX9_forgetFace_17 : decode cX9_forgetFace 17 = .ok (.iadd, 1) := by decide +kernel
theorem dX9_forgetFace_18 : decode cX9_forgetFace 18 = .ok (.iconst (-1), 1) := by decide +kernel
theorem dX9_forgetFace_19 : decode cX9_forgetFace 19 = .ok (.iastore, 1) := by decide +kernel
theorem dX9_forgetFace_20 : decode cX9_forgetFace 20 = .ok (.aload_n 0, 1) := by decide +kernel
theorem dX9_forgetFace_21 : decode cX9_forgetFace 21 = .ok (.getfield 9, 3) := by decide +kernel
theorem dX9_forgetFace_24 : decode cX9_forgetFace 24 = .ok (.iload_n 2, 1) := by decide +kernel
theorem dX9_forgetFace_25 : decode cX9_forgetFace 25 = .ok (.bipush 10, 2) := by decide +kernel
theorem dX9_forgetFace_27 : decode cX9_forgetFace 27 = .ok (.imul, 1) := by decide +kernel
theorem dX9_forgetFace_28 : decode cX9_forgetFace 28 = .ok (.iload_n 1, 1) := by decide +kernel
theorem dX9_forgetFace_29 : decode cX9_forgetFace 29 = .ok (.iadd, 1) := by decide +kernel
theorem dX9_forgetFace_30 : decode cX9_forgetFace 30 = .ok (.iconst (-1), 1) := by decide +kernel
theorem dX9_forgetFace_31 : decode cX9_forgetFace 31 = .ok (.iastore, 1) := by decide +kernel
theorem dX9_forgetFace_32 : decode cX9_forgetFace 32 = .ok (.iinc 2 1, 3) := by decide +kernel
theorem dX9_forgetFace_35 : decode cX9_forgetFace 35 = .ok (.goto (-33), 3) := by decide +kernel
theorem dX9_forgetFace_38 : decode cX9_forgetFace 38 = .ok (.return_, 1) := by decide +kernel
theorem dX9_find_0 : decode cX9_find 0 = .ok (.aload_n 0, 1) := by decide +kernel
theorem dX9_find_1 : decode cX9_find 1 = .ok (.invokevirtual 45, 3) := by decide +kernel
theorem dX9_find_4 : decode cX9_find 4 = .ok (.aload_n 0, 1) := by decide +kernel
theorem dX9_find_5 : decode cX9_find 5 = .ok (.iload_n 2, 1) := by decide +kernel
theorem dX9_find_6 : decode cX9_find 6 = .ok (.invokevirtual 48, 3) := by decide +kernel
theorem dX9_find_9 : decode cX9_find 9 = .ok (.aload_n 0, 1) := by decide +kernel
theorem dX9_find_10 : decode cX9_find 10 = .ok (.iconst 0, 1) := by decide +kernel
theorem dX9_find_11 : decode cX9_find 11 = .ok (.putfield 22, 3) := by decide +kernel
theorem dX9_find_14 : decode cX9_find 14 = .ok (.aload_n 0, 1) := by decide +kernel
theorem dX9_find_15 : decode cX9_find 15 = .ok (.getfield 15, 3) := by decide +kernel
theorem dX9_find_18 : decode cX9_find 18 = .ok (.iload_n 1, 1) := by decide +kernel
theorem dX9_find_19 : decode cX9_find 19 = .ok (.iaload, 1) := by decide +kernel
theorem dX9_find_20 : decode cX9_find 20 = .ok (.ldc 52, 2) := by decide +kernel
theorem dX9_find_22 : decode cX9_find 22 = .ok (.if_icmp .lt 5, 3) := by decide +kernel
theorem dX9_find_25 : decode cX9_find 25 = .ok (.iconst 0, 1) := by decide +kernel
theorem dX9_find_26 : decode cX9_find 26 = .ok (.ireturn, 1) := by decide +kernel
theorem dX9_find_27 : decode cX9_find 27 = .ok (.aload_n 0, 1) := by decide +kernel
theorem dX9_find_28 : decode cX9_find 28 = .ok (.aload_n 0, 1) := by decide +kernel
theorem dX9_find_29 : decode cX9_find 29 = .ok (.getfield 15, 3) := by decide +kernel
theorem dX9_find_32 : decode cX9_find 32 = .ok (.iload_n 1, 1) := by decide +kernel
theorem dX9_find_33 : decode cX9_find 33 = .ok (.iaload, 1) := by decide +kernel
theorem dX9_find_34 : decode cX9_find 34 = .ok (.bipush 16, 2) := by decide +kernel
theorem dX9_find_36 : decode cX9_find 36 = .ok (.idiv, 1) := by decide +kernel
theorem dX9_find_37 : decode cX9_find 37 = .ok (.putfield 18, 3) := by decide +kernel
theorem dX9_find_40 : decode cX9_find 40 = .ok (.iload_n 1, 1) := by decide +kernel
theorem dX9_find_41 : decode cX9_find 41 = .ok (.istore_n 3, 1) := by decide +kernel
theorem dX9_find_42 : decode cX9_find 42 = .ok (.iconst 0, 1) := by decide +kernel
theorem dX9_find_43 : decode cX9_find 43 = .ok (.istore 4, 2) := by decide +kernel
theorem dX9_find_45 : decode cX9_find 45 = .ok (.iload 4, 2) := by decide +kernel
theorem dX9_find_47 : decode cX9_find 47 = .ok (.bipush 10, 2) := by decide +kernel
theorem dX9_find_49 : decode cX9_find 49 = .ok (.if_icmp .ge 47, 3) := by decide +kernel
theorem dX9_find_52 : decode cX9_find 52 = .ok (.iload_n 3, 1) := by decide +kernel
theorem dX9_find_53 : decode cX9_find 53 = .ok (.iconst (-1), 1) := by decide +kernel
theorem dX9_find_54 : decode cX9_find 54 = .ok (.if_icmp .eq 42, 3) := by decide +kernel
theorem dX9_find_57 : decode cX9_find 57 = .ok (.aload_n 0, 1) := by decide +kernel
theorem dX9_find_58 : decode cX9_find 58 = .ok (.getfield 25, 3) := by decide +kernel
theorem dX9_find_61 : decode cX9_find 61 = .ok (.iload 4, 2) := by decide +kernel
theorem dX9_find_63 : decode cX9_find 63 = .ok (.iload_n 3, 1) := by decide +kernel
theorem dX9_find_64 : decode cX9_find 64 = .ok (.iastore, 1) := by decide +kernel
theorem dX9_find_65 : decode cX9_find 65 = .ok (.aload_n 0, 1) := by decide +kernel
theorem dX9_find_66 : decode cX9_find 66 = .ok (.dup, 1) := by decide +kernel
theorem dX9_find_67 : decode cX9_find 67 = .ok (.getfield 22, 3) := by decide +kernel
theorem dX9_find_70 : decode cX9_find 70 = .ok (.iconst 1, 1) := by decide +kernel
theorem dX9_find_71 : decode cX9_find 71 = .ok (.iadd, 1) := by decide +kernel
theorem dX9_find_72 : decode cX9_find 72 = .ok (.putfield 22, 3) := by decide +kernel
theorem dX9_find_75 : decode cX9_find 75 = .ok (.iload_n 3, 1) := by decide +kernel
theorem dX9_find_76 : decode cX9_find 76 = .ok (.iload_n 2, 1) := by decide +kernel
theorem dX9_find_77 : decode cX9_find 77 = .ok (.if_icmp .ne 7, 3) := by decide +kernel
theorem dX9_find_80 : decode cX9_find 80 = .ok (.iconst (-1), 1) := by decide +kernel
theorem dX9_find_81 : decode cX9_find 81 = .ok (.goto 8, 3) := by decide +kernel
theorem dX9_find_84 : decode cX9_find 84 = .ok (.aload_n 0, 1) := by decide +kernel
theorem dX9_find_85 : decode cX9_find 85 = .ok (.iload_n 3, 1) := by decide +kernel
theorem dX9_find_86 : decode cX9_find 86 = .ok (.invokevirtual 53, 3) := by decide +kernel
theorem dX9_find_89 : decode cX9_find 89 = .ok (.istore_n 3, 1) := by decide +kernel
theorem dX9_find_90 : decode cX9_find 90 = .ok (.iinc 4 1, 3) := by decide +kernel
theorem dX9_find_93 : decode cX9_find 93 = .ok (.goto (-48), 3) := by decide +kernel
theorem dX9_find_96 : decode cX9_find 96 = .ok (.iconst 1, 1) := by decide +kernel
theorem dX9_find_97 : decode cX9_find 97 = .ok (.ireturn, 1) := by decide +kernel
theorem dX9_weigh_0 : decode cX9_weigh 0 = .ok (.iconst 0, 1) := by decide +kernel
theorem dX9_weigh_1 : decode cX9_weigh 1 = .ok (.istore_n 1, 1) := by decide +kernel
theorem dX9_weigh_2 : decode cX9_weigh 2 = .ok (.iload_n 1, 1) := by decide +kernel
theorem dX9_weigh_3 : decode cX9_weigh 3 = .ok (.bipush 100, 2) := by decide +kernel
theorem dX9_weigh_5 : decode cX9_weigh 5 = .ok (.if_icmp .ge 97, 3) := by decide +kernel
theorem dX9_weigh_8 : decode cX9_weigh 8 = .ok (.aload_n 0, 1) := by decide +kernel
theorem dX9_weigh_9 : decode cX9_weigh 9 = .ok (.getfield 9, 3) := by decide +kernel
theorem dX9_weigh_12 : decode cX9_weigh 12 = .ok (.iload_n 1, 1) := by decide +kernel
theorem dX9_weigh_13 : decode cX9_weigh 13 = .ok (.iaload, 1) := by decide +kernel
theorem dX9_weigh_14 : decode cX9_weigh 14 = .ok (.iconst (-1), 1) := by decide +kernel
theorem dX9_weigh_15 : decode cX9_weigh 15 = .ok (.if_icmp .ne 81, 3) := by decide +kernel
theorem dX9_weigh_18 : decode cX9_weigh 18 = .ok (.aload_n 0, 1) := by decide +kernel
theorem dX9_weigh_19 : decode cX9_weigh 19 = .ok (.getfield 32, 3) := by decide +kernel
theorem dX9_weigh_22 : decode cX9_weigh 22 = .ok (.bipush 10, 2) := by decide +kernel
theorem dX9_weigh_24 : decode cX9_weigh 24 = .ok (.iload_n 1, 1) := by decide +kernel
theorem dX9_weigh_25 : decode cX9_weigh 25 = .ok (.bipush 10, 2) := by decide +kernel
theorem dX9_weigh_27 : decode cX9_weigh 27 = .ok (.idiv, 1) := by decide +kernel
theorem dX9_weigh_28 : decode cX9_weigh 28 = .ok (.iadd, 1) := by decide +kernel
theorem dX9_weigh_29 : decode cX9_weigh 29 = .ok (.aaload, 1) := by decide +kernel
theorem dX9_weigh_30 : decode cX9_weigh 30 = .ok (.astore_n 2, 1) := by decide +kernel
theorem dX9_weigh_31 : decode cX9_weigh 31 = .ok (.aload_n 0, 1) := by decide +kernel
theorem dX9_weigh_32 : decode cX9_weigh 32 = .ok (.getfield 32, 3) := by decide +kernel
theorem dX9_weigh_35 : decode cX9_weigh 35 = .ok (.bipush 10, 2) := by decide +kernel
theorem dX9_weigh_37 : decode cX9_weigh 37 = .ok (.iload_n 1, 1) := by decide +kernel
theorem dX9_weigh_38 : decode cX9_weigh 38 = .ok (.bipush 10, 2) := by decide +kernel
theorem dX9_weigh_40 : decode cX9_weigh 40 = .ok (.irem, 1) := by decide +kernel
theorem dX9_weigh_41 : decode cX9_weigh 41 = .ok (.iadd, 1) := by decide +kernel
theorem dX9_weigh_42 : decode cX9_weigh 42 = .ok (.aaload, 1) := by decide +kernel
theorem dX9_weigh_43 : decode cX9_weigh 43 = .ok (.astore_n 3, 1) := by decide +kernel
theorem dX9_weigh_44 : decode cX9_weigh 44 = .ok (.iload_n 1, 1) := by decide +kernel
theorem dX9_weigh_45 : decode cX9_weigh 45 = .ok (.bipush 10, 2) := by decide +kernel
theorem dX9_weigh_47 : decode cX9_weigh 47 = .ok (.idiv, 1) := by decide +kernel
theorem dX9_weigh_48 : decode cX9_weigh 48 = .ok (.iload_n 1, 1) := by decide +kernel
theorem dX9_weigh_49 : decode cX9_weigh 49 = .ok (.bipush 10, 2) := by decide +kernel
theorem dX9_weigh_51 : decode cX9_weigh 51 = .ok (.irem, 1) := by decide +kernel
theorem dX9_weigh_52 : decode cX9_weigh 52 = .ok (.if_icmp .ne 8, 3) := by decide +kernel
theorem dX9_weigh_55 : decode cX9_weigh 55 = .ok (.bipush (-6), 2) := by decide +kernel
theorem dX9_weigh_57 : decode cX9_weigh 57 = .ok (.goto 12, 3) := by decide +kernel
theorem dX9_weigh_60 : decode cX9_weigh 60 = .ok (.aload_n 0, 1) := by decide +kernel
theorem dX9_weigh_61 : decode cX9_weigh 61 = .ok (.getfield 28, 3) := by decide +kernel
theorem dX9_weigh_64 : decode cX9_weigh 64 = .ok (.aload_n 3, 1) := by decide +kernel
theorem dX9_weigh_65 : decode cX9_weigh 65 = .ok (.aload_n 2, 1) := by decide +kernel
theorem dX9_weigh_66 : decode cX9_weigh 66 = .ok (.invokevirtual 57, 3) := by decide +kernel
theorem dX9_weigh_69 : decode cX9_weigh 69 = .ok (.istore 4, 2) := by decide +kernel
theorem dX9_weigh_71 : decode cX9_weigh 71 = .ok (.aload_n 0, 1) := by decide +kernel
theorem dX9_weigh_72 : decode cX9_weigh 72 = .ok (.getfield 9, 3) := by decide +kernel
theorem dX9_weigh_75 : decode cX9_weigh 75 = .ok (.iload_n 1, 1) := by decide +kernel
theorem dX9_weigh_76 : decode cX9_weigh 76 = .ok (.iload 4, 2) := by decide +kernel
theorem dX9_weigh_78 : decode cX9_weigh 78 = .ok (.bipush (-6), 2) := by decide +kernel
theorem dX9_weigh_80 : decode cX9_weigh 80 = .ok (.if_icmp .ne 8, 3) := by decide +kernel
theorem dX9_weigh_83 : decode cX9_weigh 83 = .ok (.ldc 52, 2) := by decide +kernel
theorem dX9_weigh_85 : decode cX9_weigh 85 = .ok (.goto 10, 3) := by decide +kernel
theorem dX9_weigh_88 : decode cX9_weigh 88 = .ok (.bipush 16, 2) := by decide +kernel
theorem dX9_weigh_90 : decode cX9_weigh 90 = .ok (.iload 4, 2) := by decide +kernel
theorem dX9_weigh_92 : decode cX9_weigh 92 = .ok (.imul, 1) := by decide +kernel
theorem dX9_weigh_93 : decode cX9_weigh 93 = .ok (.iconst 1, 1) := by decide +kernel
theorem dX9_weigh_94 : decode cX9_weigh 94 = .ok (.iadd, 1) := by decide +kernel
theorem dX9_weigh_95 : decode cX9_weigh 95 = .ok (.iastore, 1) := by decide +kernel
theorem dX9_weigh_96 : decode cX9_weigh 96 = .ok (.iinc 1 1, 3) := by decide +kernel
theorem dX9_weigh_99 : decode cX9_weigh 99 = .ok (.goto (-97), 3) := by decide +kernel
theorem dX9_weigh_102 : decode cX9_weigh 102 = .ok (.return_, 1) := by decide +kernel
theorem dX9_measure_0 : decode cX9_measure 0 = .ok (.aload_n 0, 1) := by decide +kernel
theorem dX9_measure_1 : decode cX9_measure 1 = .ok (.getfield 15, 3) := by decide +kernel
theorem dX9_measure_4 : decode cX9_measure 4 = .ok (.ldc 52, 2) := by decide +kernel
theorem dX9_measure_6 : decode cX9_measure 6 = .ok (.invokestatic 39, 3) := by decide +kernel
theorem dX9_measure_9 : decode cX9_measure 9 = .ok (.aload_n 0, 1) := by decide +kernel
theorem dX9_measure_10 : decode cX9_measure 10 = .ok (.getfield 15, 3) := by decide +kernel
theorem dX9_measure_13 : decode cX9_measure 13 = .ok (.iload_n 1, 1) := by decide +kernel
theorem dX9_measure_14 : decode cX9_measure 14 = .ok (.iconst 0, 1) := by decide +kernel
theorem dX9_measure_15 : decode cX9_measure 15 = .ok (.iastore, 1) := by decide +kernel
theorem dX9_measure_16 : decode cX9_measure 16 = .ok (.iconst 1, 1) := by decide +kernel
theorem dX9_measure_17 : decode cX9_measure 17 = .ok (.istore_n 2, 1) := by decide +kernel
theorem dX9_measure_18 : decode cX9_measure 18 = .ok (.iconst 0, 1) := by decide +kernel
theorem dX9_measure_19 : decode cX9_measure 19 = .ok (.istore_n 3, 1) := by decide +kernel
theorem dX9_measure_20 : decode cX9_measure 20 = .ok (.iload_n 3, 1) := by decide +kernel
theorem dX9_measure_21 : decode cX9_measure 21 = .ok (.bipush 10, 2) := by decide +kernel
theorem dX9_measure_23 : decode cX9_measure 23 = .ok (.if_icmp .ge 50, 3) := by decide +kernel
theorem dX9_measure_26 : decode cX9_measure 26 = .ok (.iload_n 2, 1) := by decide +kernel
theorem dX9_measure_27 : decode cX9_measure 27 = .ok (.ifCond .eq 46, 3) := by decide +kernel
theorem dX9_measure_30 : decode cX9_measure 30 = .ok (.iconst 0, 1) := by decide +kernel
theorem dX9_measure_31 : decode cX9_measure 31 = .ok (.istore_n 2, 1) := by decide +kernel
theorem dX9_measure_32 : decode cX9_measure 32 = .ok (.iconst 0, 1) := by decide +kernel
theorem dX9_measure_33 : decode cX9_measure 33 = .ok (.istore 4, 2) := by decide +kernel
theorem dX9_measure_35 : decode cX9_measure 35 = .ok (.iload 4, 2) := by decide +kernel
theorem dX9_measure_37 : decode cX9_measure 37 = .ok (.bipush 10, 2) := by decide +kernel
theorem dX9_measure_39 : decode cX9_measure 39 = .ok (.if_icmp .ge 28, 3) := by decide +kernel
theorem dX9_measure_42 : decode cX9_measure 42 = .ok (.aload_n 0, 1) := by decide +kernel
theorem dX9_measure_43 : decode cX9_measure 43 = .ok (.iload 4, 2) := by decide +kernel
theorem dX9_measure_45 : decode cX9_measure 45 = .ok (.invokevirtual 63, 3) := by decide +kernel
theorem dX9_measure_48 : decode cX9_measure 48 = .ok (.ifCond .ne 7, 3) := by decide +kernel
theorem dX9_measure_51 : decode cX9_measure 51 = .ok (.iload_n 2, 1) := by decide +kernel
theorem dX9_measure_52 : decode cX9_measure 52 = .ok (.ifCond .eq 7, 3) := by decide +kernel
theorem dX9_measure_55 : decode cX9_measure 55 = .ok (.iconst 1, 1) := by decide +kernel
theorem dX9_measure_56 : decode cX9_measure 56 = .ok (.goto 4, 3) := by decide +kernel
theorem dX9_measure_59 : decode cX9_measure 59 = .ok (.iconst 0, 1) := by decide +kernel
theorem dX9_measure_60 : decode cX9_measure 60 = .ok (.istore_n 2, 1) := by decide +kernel
theorem dX9_measure_61 : decode cX9_measure 61 = .ok (.iinc 4 1, 3) := by decide +kernel
theorem dX9_measure_64 : decode cX9_measure 64 = .ok (.goto (-29), 3) := by decide +kernel
theorem dX9_measure_67 : decode cX9_measure 67 = .ok (.iinc 3 1, 3) := by decide +kernel
theorem dX9_measure_70 : decode cX9_measure 70 = .ok (.goto (-50), 3) := by decide +kernel
theorem dX9_measure_73 : decode cX9_measure 73 = .ok (.return_, 1) := by decide +kernel
theorem dX9_shorten_0 : decode cX9_shorten 0 = .ok (.aload_n 0, 1) := by decide +kernel
theorem dX9_shorten_1 : decode cX9_shorten 1 = .ok (.getfield 15, 3) := by decide +kernel
theorem dX9_shorten_4 : decode cX9_shorten 4 = .ok (.iload_n 1, 1) := by decide +kernel
theorem dX9_shorten_5 : decode cX9_shorten 5 = .ok (.iaload, 1) := by decide +kernel
theorem dX9_shorten_6 : decode cX9_shorten 6 = .ok (.istore_n 2, 1) := by decide +kernel
theorem dX9_shorten_7 : decode cX9_shorten 7 = .ok (.iconst 0, 1) := by decide +kernel
theorem dX9_shorten_8 : decode cX9_shorten 8 = .ok (.istore_n 3, 1) := by decide +kernel
theorem dX9_shorten_9 : decode cX9_shorten 9 = .ok (.iload_n 3, 1) := by decide +kernel
theorem dX9_shorten_10 : decode cX9_shorten 10 = .ok (.bipush 10, 2) := by decide +kernel
theorem dX9_shorten_12 : decode cX9_shorten 12 = .ok (.if_icmp .ge 42, 3) := by decide +kernel
theorem dX9_shorten_15 : decode cX9_shorten 15 = .ok (.aload_n 0, 1) := by decide +kernel
theorem dX9_shorten_16 : decode cX9_shorten 16 = .ok (.getfield 15, 3) := by decide +kernel
theorem dX9_shorten_19 : decode cX9_shorten 19 = .ok (.iload_n 1, 1) := by decide +kernel
theorem dX9_shorten_20 : decode cX9_shorten 20 = .ok (.aload_n 0, 1) := by decide +kernel
theorem dX9_shorten_21 : decode cX9_shorten 21 = .ok (.getfield 15, 3) := by decide +kernel
theorem dX9_shorten_24 : decode cX9_shorten 24 = .ok (.iload_n 1, 1) := by decide +kernel
theorem dX9_shorten_25 : decode cX9_shorten 25 = .ok (.iaload, 1) := by decide +kernel
theorem dX9_shorten_26 : decode cX9_shorten 26 = .ok (.aload_n 0, 1) := by decide +kernel
theorem dX9_shorten_27 : decode cX9_shorten 27 = .ok (.getfield 9, 3) := by decide +kernel
theorem dX9_shorten_30 : decode cX9_shorten 30 = .ok (.iload_n 1, 1) := by decide +kernel
theorem dX9_shorten_31 : decode cX9_shorten 31 = .ok (.bipush 10, 2) := by decide +kernel
theorem dX9_shorten_33 : decode cX9_shorten 33 = .ok (.imul, 1) := by decide +kernel
theorem dX9_shorten_34 : decode cX9_shorten 34 = .ok (.iload_n 3, 1) := by decide +kernel
theorem dX9_shorten_35 : decode cX9_shorten 35 = .ok (.iadd, 1) := by decide +kernel
theorem dX9_shorten_36 : decode cX9_shorten 36 = .ok (.iaload, 1) := by decide +kernel
theorem dX9_shorten_37 : decode cX9_shorten 37 = .ok (.aload_n 0, 1) := by decide +kernel
theorem dX9_shorten_38 : decode cX9_shorten 38 = .ok (.getfield 15, 3) := by decide +kernel
theorem dX9_shorten_41 : decode cX9_shorten 41 = .ok (.iload_n 3, 1) := by decide +kernel
theorem dX9_shorten_42 : decode cX9_shorten 42 = .ok (.iaload, 1) := by decide +kernel
theorem dX9_shorten_43 : decode cX9_shorten 43 = .ok (.iadd, 1) := by decide +kernel
theorem dX9_shorten_44 : decode cX9_shorten 44 = .ok (.invokestatic 67, 3) := by decide +kernel
theorem dX9_shorten_47 : decode cX9_shorten 47 = .ok (.iastore, 1) := by decide +kernel
theorem dX9_shorten_48 : decode cX9_shorten 48 = .ok (.iinc 3 1, 3) := by decide +kernel
theorem dX9_shorten_51 : decode cX9_shorten 51 = .ok (.goto (-42), 3) := by decide +kernel
theorem dX9_shorten_54 : decode cX9_shorten 54 = .ok (.aload_n 0, 1) := by decide +kernel
theorem dX9_shorten_55 : decode cX9_shorten 55 = .ok (.getfield 15, 3) := by decide +kernel
theorem dX9_shorten_58 : decode cX9_shorten 58 = .ok (.iload_n 1, 1) := by decide +kernel
theorem dX9_shorten_59 : decode cX9_shorten 59 = .ok (.iaload, 1) := by decide +kernel
theorem dX9_shorten_60 : decode cX9_shorten 60 = .ok (.iload_n 2, 1) := by decide +kernel
theorem dX9_shorten_61 : decode cX9_shorten 61 = .ok (.if_icmp .ge 7, 3) := by decide +kernel
theorem dX9_shorten_64 : decode cX9_shorten 64 = .ok (.iconst 1, 1) := by decide +kernel
theorem dX9_shorten_65 : decode cX9_shorten 65 = .ok (.goto 4, 3) := by decide +kernel
theorem dX9_shorten_68 : decode cX9_shorten 68 = .ok (.iconst 0, 1) := by decide +kernel
theorem dX9_shorten_69 : decode cX9_shorten 69 = .ok (.ireturn, 1) := by decide +kernel
theorem dX9_nextOf_0 : decode cX9_nextOf 0 = .ok (.iconst 0, 1) := by decide +kernel
theorem dX9_nextOf_1 : decode cX9_nextOf 1 = .ok (.istore_n 2, 1) := by decide +kernel
theorem dX9_nextOf_2 : decode cX9_nextOf 2 = .ok (.iload_n 2, 1) := by decide +kernel
theorem dX9_nextOf_3 : decode cX9_nextOf 3 = .ok (.bipush 10, 2) := by decide +kernel
theorem dX9_nextOf_5 : decode cX9_nextOf 5 = .ok (.if_icmp .ge 38, 3) := by decide +kernel
theorem dX9_nextOf_8 : decode cX9_nextOf 8 = .ok (.aload_n 0, 1) := by decide +kernel
theorem dX9_nextOf_9 : decode cX9_nextOf 9 = .ok (.getfield 9, 3) := by decide +kernel
theorem dX9_nextOf_12 : decode cX9_nextOf 12 = .ok (.iload_n 1, 1) := by decide +kernel
theorem dX9_nextOf_13 : decode cX9_nextOf 13 = .ok (.bipush 10, 2) := by decide +kernel
theorem dX9_nextOf_15 : decode cX9_nextOf 15 = .ok (.imul, 1) := by decide +kernel
theorem dX9_nextOf_16 : decode cX9_nextOf 16 = .ok (.iload_n 2, 1) := by decide +kernel
theorem dX9_nextOf_17 : decode cX9_nextOf 17 = .ok (.iadd, 1) := by decide +kernel
theorem dX9_nextOf_18 : decode cX9_nextOf 18 = .ok (.iaload, 1) := by decide +kernel
theorem dX9_nextOf_19 : decode cX9_nextOf 19 = .ok (.aload_n 0, 1) := by decide +kernel
theorem dX9_nextOf_20 : decode cX9_nextOf 20 = .ok (.getfield 15, 3) := by decide +kernel
theorem dX9_nextOf_23 : decode cX9_nextOf 23 = .ok (.iload_n 2, 1) := by decide +kernel
theorem dX9_nextOf_24 : decode cX9_nextOf 24 = .ok (.iaload, 1) := by decide +kernel
theorem dX9_nextOf_25 : decode cX9_nextOf 25 = .ok (.iadd, 1) := by decide +kernel
theorem dX9_nextOf_26 : decode cX9_nextOf 26 = .ok (.aload_n 0, 1) := by decide +kernel
theorem dX9_nextOf_27 : decode cX9_nextOf 27 = .ok (.getfield 15, 3) := by decide +kernel
theorem dX9_nextOf_30 : decode cX9_nextOf 30 = .ok (.iload_n 1, 1) := by decide +kernel
theorem dX9_nextOf_31 : decode cX9_nextOf 31 = .ok (.iaload, 1) := by decide +kernel
theorem dX9_nextOf_32 : decode cX9_nextOf 32 = .ok (.if_icmp .ne 5, 3) := by decide +kernel
theorem dX9_nextOf_35 : decode cX9_nextOf 35 = .ok (.iload_n 2, 1) := by decide +kernel
theorem dX9_nextOf_36 : decode cX9_nextOf 36 = .ok (.ireturn, 1) := by decide +kernel
theorem dX9_nextOf_37 : decode cX9_nextOf 37 = .ok (.iinc 2 1, 3) := by decide +kernel
theorem dX9_nextOf_40 : decode cX9_nextOf 40 = .ok (.goto (-38), 3) := by decide +kernel
theorem dX9_nextOf_43 : decode cX9_nextOf 43 = .ok (.iconst (-1), 1) := by decide +kernel
theorem dX9_nextOf_44 : decode cX9_nextOf 44 = .ok (.ireturn, 1) := by decide +kernel
theorem dX10_init_0 : decode cX10_init 0 = .ok (.aload_n 0, 1) := by decide +kernel
theorem dX10_init_1 : decode cX10_init 1 = .ok (.invokespecial 3, 3) := by decide +kernel
theorem dX10_init_4 : decode cX10_init 4 = .ok (.aload_n 0, 1) := by decide +kernel
theorem dX10_init_5 : decode cX10_init 5 = .ok (.new 9, 3) := by decide +kernel
theorem dX10_init_8 : decode cX10_init 8 = .ok (.dup, 1) := by decide +kernel
end
section
theorem dX10_init_9 : decode cX10_init 9 = .ok (.invokespecial 11, 3) := by decide +kernel
theorem dX10_init_12 : decode cX10_init 12 = .ok (.putfield 12, 3) := by decide +kernel
theorem dX10_init_15 : decode cX10_init 15 = .ok (.aload_n 0, 1) := by decide +kernel
theorem dX10_init_16 : decode cX10_init 16 = .ok (.new 16, 3) := by decide +kernel
theorem dX10_init_19 : decode cX10_init 19 = .ok (.dup, 1) := by decide +kernel
theorem dX10_init_20 : decode cX10_init 20 = .ok (.invokespecial 18, 3) := by decide +kernel
theorem dX10_init_23 : decode cX10_init 23 = .ok (.putfield 19, 3) := by decide +kernel
theorem dX10_init_26 : decode cX10_init 26 = .ok (.aload_n 0, 1) := by decide +kernel
theorem dX10_init_27 : decode cX10_init 27 = .ok (.new 23, 3) := by decide +kernel
theorem dX10_init_30 : decode cX10_init 30 = .ok (.dup, 1) := by decide +kernel
theorem dX10_init_31 : decode cX10_init 31 = .ok (.invokespecial 25, 3) := by decide +kernel
theorem dX10_init_34 : decode cX10_init 34 = .ok (.putfield 26, 3) := by decide +kernel
theorem dX10_init_37 : decode cX10_init 37 = .ok (.aload_n 0, 1) := by decide +kernel
theorem dX10_init_38 : decode cX10_init 38 = .ok (.new 30, 3) := by decide +kernel
theorem dX10_init_41 : decode cX10_init 41 = .ok (.dup, 1) := by decide +kernel
theorem dX10_init_42 : decode cX10_init 42 = .ok (.aload_n 0, 1) := by decide +kernel
theorem dX10_init_43 : decode cX10_init 43 = .ok (.getfield 12, 3) := by decide +kernel
theorem dX10_init_46 : decode cX10_init 46 = .ok (.aload_n 0, 1) := by decide +kernel
theorem dX10_init_47 : decode cX10_init 47 = .ok (.getfield 19, 3) := by decide +kernel
theorem dX10_init_50 : decode cX10_init 50 = .ok (.aload_n 0, 1) := by decide +kernel
theorem dX10_init_51 : decode cX10_init 51 = .ok (.getfield 26, 3) := by decide +kernel
theorem dX10_init_54 : decode cX10_init 54 = .ok (.invokespecial 32, 3) := by decide +kernel
theorem dX10_init_57 : decode cX10_init 57 = .ok (.putfield 35, 3) := by decide +kernel
theorem dX10_init_60 : decode cX10_init 60 = .ok (.aload_n 0, 1) := by decide +kernel
theorem dX10_init_61 : decode cX10_init 61 = .ok (.bipush 20, 2) := by decide +kernel
theorem dX10_init_63 : decode cX10_init 63 = .ok (.anewarray 39, 3) := by decide +kernel
theorem dX10_init_66 : decode cX10_init 66 = .ok (.putfield 41, 3) := by decide +kernel
theorem dX10_init_69 : decode cX10_init 69 = .ok (.aload_n 0, 1) := by decide +kernel
theorem dX10_init_70 : decode cX10_init 70 = .ok (.new 45, 3) := by decide +kernel
theorem dX10_init_73 : decode cX10_init 73 = .ok (.dup, 1) := by decide +kernel
theorem dX10_init_74 : decode cX10_init 74 = .ok (.aload_n 0, 1) := by decide +kernel
theorem dX10_init_75 : decode cX10_init 75 = .ok (.getfield 35, 3) := by decide +kernel
theorem dX10_init_78 : decode cX10_init 78 = .ok (.aload_n 0, 1) := by decide +kernel
theorem dX10_init_79 : decode cX10_init 79 = .ok (.getfield 41, 3) := by decide +kernel
theorem dX10_init_82 : decode cX10_init 82 = .ok (.invokespecial 47, 3) := by decide +kernel
theorem dX10_init_85 : decode cX10_init 85 = .ok (.putfield 50, 3) := by decide +kernel
theorem dX10_init_88 : decode cX10_init 88 = .ok (.aload_n 0, 1) := by decide +kernel
theorem dX10_init_89 : decode cX10_init 89 = .ok (.new 54, 3) := by decide +kernel
theorem dX10_init_92 : decode cX10_init 92 = .ok (.dup, 1) := by decide +kernel
theorem dX10_init_93 : decode cX10_init 93 = .ok (.invokespecial 56, 3) := by decide +kernel
theorem dX10_init_96 : decode cX10_init 96 = .ok (.putfield 57, 3) := by decide +kernel
theorem dX10_init_99 : decode cX10_init 99 = .ok (.aload_n 0, 1) := by decide +kernel
theorem dX10_init_100 : decode cX10_init 100 = .ok (.new 61, 3) := by decide +kernel
theorem dX10_init_103 : decode cX10_init 103 = .ok (.dup, 1) := by decide +kernel
theorem dX10_init_104 : decode cX10_init 104 = .ok (.invokespecial 63, 3) := by decide +kernel
theorem dX10_init_107 : decode cX10_init 107 = .ok (.putfield 64, 3) := by decide +kernel
theorem dX10_init_110 : decode cX10_init 110 = .ok (.aload_n 0, 1) := by decide +kernel
theorem dX10_init_111 : decode cX10_init 111 = .ok (.new 68, 3) := by decide +kernel
theorem dX10_init_114 : decode cX10_init 114 = .ok (.dup, 1) := by decide +kernel
theorem dX10_init_115 : decode cX10_init 115 = .ok (.aload_n 0, 1) := by decide +kernel
theorem dX10_init_116 : decode cX10_init 116 = .ok (.getfield 12, 3) := by decide +kernel
theorem dX10_init_119 : decode cX10_init 119 = .ok (.aload_n 0, 1) := by decide +kernel
theorem dX10_init_120 : decode cX10_init 120 = .ok (.getfield 26, 3) := by decide +kernel
theorem dX10_init_123 : decode cX10_init 123 = .ok (.aload_n 0, 1) := by decide +kernel
theorem dX10_init_124 : decode cX10_init 124 = .ok (.getfield 35, 3) := by decide +kernel
theorem dX10_init_127 : decode cX10_init 127 = .ok (.aload_n 0, 1) := by decide +kernel
theorem dX10_init_128 : decode cX10_init 128 = .ok (.getfield 64, 3) := by decide +kernel
theorem dX10_init_131 : decode cX10_init 131 = .ok (.invokespecial 70, 3) := by decide +kernel
theorem dX10_init_134 : decode cX10_init 134 = .ok (.putfield 73, 3) := by decide +kernel
theorem dX10_init_137 : decode cX10_init 137 = .ok (.iconst 0, 1) := by decide +kernel
theorem dX10_init_138 : decode cX10_init 138 = .ok (.istore_n 1, 1) := by decide +kernel
theorem dX10_init_139 : decode cX10_init 139 = .ok (.iload_n 1, 1) := by decide +kernel
theorem dX10_init_140 : decode cX10_init 140 = .ok (.bipush 20, 2) := by decide +kernel
theorem dX10_init_142 : decode cX10_init 142 = .ok (.if_icmp .ge 22, 3) := by decide +kernel
theorem dX10_init_145 : decode cX10_init 145 = .ok (.aload_n 0, 1) := by decide +kernel
theorem dX10_init_146 : decode cX10_init 146 = .ok (.getfield 41, 3) := by decide +kernel
theorem dX10_init_149 : decode cX10_init 149 = .ok (.iload_n 1, 1) := by decide +kernel
theorem dX10_init_150 : decode cX10_init 150 = .ok (.new 39, 3) := by decide +kernel
theorem dX10_init_153 : decode cX10_init 153 = .ok (.dup, 1) := by decide +kernel
theorem dX10_init_154 : decode cX10_init 154 = .ok (.invokespecial 77, 3) := by decide +kernel
theorem dX10_init_157 : decode cX10_init 157 = .ok (.aastore, 1) := by decide +kernel
theorem dX10_init_158 : decode cX10_init 158 = .ok (.iinc 1 1, 3) := by decide +kernel
theorem dX10_init_161 : decode cX10_init 161 = .ok (.goto (-22), 3) := by decide +kernel
theorem dX10_init_164 : decode cX10_init 164 = .ok (.return_, 1) := by decide +kernel
theorem dX10_rule_0 : decode cX10_rule 0 = .ok (.iload_n 1, 1) := by decide +kernel
theorem dX10_rule_1 : decode cX10_rule 1 = .ok (.invokestatic 78, 3) := by decide +kernel
theorem dX10_rule_4 : decode cX10_rule 4 = .ok (.ifCond .eq 25, 3) := by decide +kernel
theorem dX10_rule_7 : decode cX10_rule 7 = .ok (.iload_n 2, 1) := by decide +kernel
theorem dX10_rule_8 : decode cX10_rule 8 = .ok (.invokestatic 78, 3) := by decide +kernel
theorem dX10_rule_11 : decode cX10_rule 11 = .ok (.ifCond .eq 18, 3) := by decide +kernel
theorem dX10_rule_14 : decode cX10_rule 14 = .ok (.iload_n 1, 1) := by decide +kernel
theorem dX10_rule_15 : decode cX10_rule 15 = .ok (.iload_n 2, 1) := by decide +kernel
theorem dX10_rule_16 : decode cX10_rule 16 = .ok (.if_icmp .eq 13, 3) := by decide +kernel
theorem dX10_rule_19 : decode cX10_rule 19 = .ok (.iload_n 3, 1) := by decide +kernel
theorem dX10_rule_20 : decode cX10_rule 20 = .ok (.iconst 1, 1) := by decide +kernel
theorem dX10_rule_21 : decode cX10_rule 21 = .ok (.bipush 50, 2) := by decide +kernel
theorem dX10_rule_23 : decode cX10_rule 23 = .ok (.invokestatic 82, 3) := by decide +kernel
theorem dX10_rule_26 : decode cX10_rule 26 = .ok (.ifCond .ne 6, 3) := by decide +kernel
theorem dX10_rule_29 : decode cX10_rule 29 = .ok (.bipush (-3), 2) := by decide +kernel
theorem dX10_rule_31 : decode cX10_rule 31 = .ok (.ireturn, 1) := by decide +kernel
theorem dX10_rule_32 : decode cX10_rule 32 = .ok (.iload 4, 2) := by decide +kernel
theorem dX10_rule_34 : decode cX10_rule 34 = .ok (.ifCond .lt 27, 3) := by decide +kernel
theorem dX10_rule_37 : decode cX10_rule 37 = .ok (.iload 4, 2) := by decide +kernel
theorem dX10_rule_39 : decode cX10_rule 39 = .ok (.sipush 10000, 3) := by decide +kernel
theorem dX10_rule_42 : decode cX10_rule 42 = .ok (.idiv, 1) := by decide +kernel
theorem dX10_rule_43 : decode cX10_rule 43 = .ok (.sipush 2000, 3) := by decide +kernel
theorem dX10_rule_46 : decode cX10_rule 46 = .ok (.if_icmp .gt 15, 3) := by decide +kernel
theorem dX10_rule_49 : decode cX10_rule 49 = .ok (.iload 4, 2) := by decide +kernel
theorem dX10_rule_51 : decode cX10_rule 51 = .ok (.sipush 10000, 3) := by decide +kernel
theorem dX10_rule_54 : decode cX10_rule 54 = .ok (.irem, 1) := by decide +kernel
theorem dX10_rule_55 : decode cX10_rule 55 = .ok (.sipush 2000, 3) := by decide +kernel
theorem dX10_rule_58 : decode cX10_rule 58 = .ok (.if_icmp .le 6, 3) := by decide +kernel
theorem dX10_rule_61 : decode cX10_rule 61 = .ok (.bipush (-3), 2) := by decide +kernel
theorem dX10_rule_63 : decode cX10_rule 63 = .ok (.ireturn, 1) := by decide +kernel
theorem dX10_rule_64 : decode cX10_rule 64 = .ok (.aload_n 0, 1) := by decide +kernel
theorem dX10_rule_65 : decode cX10_rule 65 = .ok (.getfield 12, 3) := by decide +kernel
theorem dX10_rule_68 : decode cX10_rule 68 = .ok (.invokevirtual 86, 3) := by decide +kernel
theorem dX10_rule_71 : decode cX10_rule 71 = .ok (.ifCond .ne 6, 3) := by decide +kernel
theorem dX10_rule_74 : decode cX10_rule 74 = .ok (.bipush (-5), 2) := by decide +kernel
theorem dX10_rule_76 : decode cX10_rule 76 = .ok (.ireturn, 1) := by decide +kernel
theorem dX10_rule_77 : decode cX10_rule 77 = .ok (.aload_n 0, 1) := by decide +kernel
theorem dX10_rule_78 : decode cX10_rule 78 = .ok (.getfield 50, 3) := by decide +kernel
theorem dX10_rule_81 : decode cX10_rule 81 = .ok (.invokevirtual 90, 3) := by decide +kernel
theorem dX10_rule_84 : decode cX10_rule 84 = .ok (.aload_n 0, 1) := by decide +kernel
theorem dX10_rule_85 : decode cX10_rule 85 = .ok (.getfield 12, 3) := by decide +kernel
theorem dX10_rule_88 : decode cX10_rule 88 = .ok (.iload_n 1, 1) := by decide +kernel
theorem dX10_rule_89 : decode cX10_rule 89 = .ok (.iload_n 2, 1) := by decide +kernel
theorem dX10_rule_90 : decode cX10_rule 90 = .ok (.iload_n 3, 1) := by decide +kernel
theorem dX10_rule_91 : decode cX10_rule 91 = .ok (.iload 4, 2) := by decide +kernel
theorem dX10_rule_93 : decode cX10_rule 93 = .ok (.sipush 10000, 3) := by decide +kernel
theorem dX10_rule_96 : decode cX10_rule 96 = .ok (.idiv, 1) := by decide +kernel
theorem dX10_rule_97 : decode cX10_rule 97 = .ok (.sipush 1000, 3) := by decide +kernel
theorem dX10_rule_100 : decode cX10_rule 100 = .ok (.isub, 1) := by decide +kernel
theorem dX10_rule_101 : decode cX10_rule 101 = .ok (.iload 4, 2) := by decide +kernel
theorem dX10_rule_103 : decode cX10_rule 103 = .ok (.sipush 10000, 3) := by decide +kernel
theorem dX10_rule_106 : decode cX10_rule 106 = .ok (.irem, 1) := by decide +kernel
theorem dX10_rule_107 : decode cX10_rule 107 = .ok (.sipush 1000, 3) := by decide +kernel
theorem dX10_rule_110 : decode cX10_rule 110 = .ok (.isub, 1) := by decide +kernel
theorem dX10_rule_111 : decode cX10_rule 111 = .ok (.invokevirtual 93, 3) := by decide +kernel
theorem dX10_rule_114 : decode cX10_rule 114 = .ok (.ireturn, 1) := by decide +kernel
theorem dX10_drop_0 : decode cX10_drop 0 = .ok (.aload_n 0, 1) := by decide +kernel
theorem dX10_drop_1 : decode cX10_drop 1 = .ok (.getfield 12, 3) := by decide +kernel
theorem dX10_drop_4 : decode cX10_drop 4 = .ok (.iload_n 1, 1) := by decide +kernel
theorem dX10_drop_5 : decode cX10_drop 5 = .ok (.invokevirtual 97, 3) := by decide +kernel
theorem dX10_drop_8 : decode cX10_drop 8 = .ok (.ifCond .ne 6, 3) := by decide +kernel
theorem dX10_drop_11 : decode cX10_drop 11 = .ok (.bipush (-2), 2) := by decide +kernel
theorem dX10_drop_13 : decode cX10_drop 13 = .ok (.ireturn, 1) := by decide +kernel
theorem dX10_drop_14 : decode cX10_drop 14 = .ok (.aload_n 0, 1) := by decide +kernel
theorem dX10_drop_15 : decode cX10_drop 15 = .ok (.getfield 12, 3) := by decide +kernel
theorem dX10_drop_18 : decode cX10_drop 18 = .ok (.iload_n 1, 1) := by decide +kernel
theorem dX10_drop_19 : decode cX10_drop 19 = .ok (.invokevirtual 100, 3) := by decide +kernel
theorem dX10_drop_22 : decode cX10_drop 22 = .ok (.aload_n 0, 1) := by decide +kernel
theorem dX10_drop_23 : decode cX10_drop 23 = .ok (.getfield 50, 3) := by decide +kernel
theorem dX10_drop_26 : decode cX10_drop 26 = .ok (.invokevirtual 90, 3) := by decide +kernel
theorem dX10_drop_29 : decode cX10_drop 29 = .ok (.iconst 1, 1) := by decide +kernel
theorem dX10_drop_30 : decode cX10_drop 30 = .ok (.ireturn, 1) := by decide +kernel
theorem dX10_turning_0 : decode cX10_turning 0 = .ok (.iload_n 1, 1) := by decide +kernel
theorem dX10_turning_1 : decode cX10_turning 1 = .ok (.invokestatic 78, 3) := by decide +kernel
theorem dX10_turning_4 : decode cX10_turning 4 = .ok (.ifCond .eq 14, 3) := by decide +kernel
theorem dX10_turning_7 : decode cX10_turning 7 = .ok (.iload_n 2, 1) := by decide +kernel
theorem dX10_turning_8 : decode cX10_turning 8 = .ok (.invokestatic 78, 3) := by decide +kernel
theorem dX10_turning_11 : decode cX10_turning 11 = .ok (.ifCond .eq 7, 3) := by decide +kernel
theorem dX10_turning_14 : decode cX10_turning 14 = .ok (.iload_n 3, 1) := by decide +kernel
theorem dX10_turning_15 : decode cX10_turning 15 = .ok (.ifCond .ge 6, 3) := by decide +kernel
theorem dX10_turning_18 : decode cX10_turning 18 = .ok (.bipush (-3), 2) := by decide +kernel
theorem dX10_turning_20 : decode cX10_turning 20 = .ok (.ireturn, 1) := by decide +kernel
theorem dX10_turning_21 : decode cX10_turning 21 = .ok (.aload_n 0, 1) := by decide +kernel
theorem dX10_turning_22 : decode cX10_turning 22 = .ok (.getfield 12, 3) := by decide +kernel
theorem dX10_turning_25 : decode cX10_turning 25 = .ok (.iload_n 1, 1) := by decide +kernel
theorem dX10_turning_26 : decode cX10_turning 26 = .ok (.iload_n 2, 1) := by decide +kernel
theorem dX10_turning_27 : decode cX10_turning 27 = .ok (.invokevirtual 104, 3) := by decide +kernel
theorem dX10_turning_30 : decode cX10_turning 30 = .ok (.istore 4, 2) := by decide +kernel
theorem dX10_turning_32 : decode cX10_turning 32 = .ok (.iload_n 3, 1) := by decide +kernel
theorem dX10_turning_33 : decode cX10_turning 33 = .ok (.ifCond .eq 9, 3) := by decide +kernel
theorem dX10_turning_36 : decode cX10_turning 36 = .ok (.iload 4, 2) := by decide +kernel
theorem dX10_turning_38 : decode cX10_turning 38 = .ok (.iconst (-1), 1) := by decide +kernel
theorem dX10_turning_39 : decode cX10_turning 39 = .ok (.if_icmp .ne 6, 3) := by decide +kernel
theorem dX10_turning_42 : decode cX10_turning 42 = .ok (.iload 4, 2) := by decide +kernel
theorem dX10_turning_44 : decode cX10_turning 44 = .ok (.ireturn, 1) := by decide +kernel
theorem dX10_turning_45 : decode cX10_turning 45 = .ok (.iload_n 3, 1) := by decide +kernel
theorem dX10_turning_46 : decode cX10_turning 46 = .ok (.iconst 1, 1) := by decide +kernel
theorem dX10_turning_47 : decode cX10_turning 47 = .ok (.if_icmp .ne 15, 3) := by decide +kernel
theorem dX10_turning_50 : decode cX10_turning 50 = .ok (.aload_n 0, 1) := by decide +kernel
theorem dX10_turning_51 : decode cX10_turning 51 = .ok (.getfield 12, 3) := by decide +kernel
theorem dX10_turning_54 : decode cX10_turning 54 = .ok (.iload_n 1, 1) := by decide +kernel
theorem dX10_turning_55 : decode cX10_turning 55 = .ok (.iload_n 2, 1) := by decide +kernel
theorem dX10_turning_56 : decode cX10_turning 56 = .ok (.invokevirtual 108, 3) := by decide +kernel
theorem dX10_turning_59 : decode cX10_turning 59 = .ok (.goto 15, 3) := by decide +kernel
theorem dX10_turning_62 : decode cX10_turning 62 = .ok (.aload_n 0, 1) := by decide +kernel
theorem dX10_turning_63 : decode cX10_turning 63 = .ok (.getfield 12, 3) := by decide +kernel
theorem dX10_turning_66 : decode cX10_turning 66 = .ok (.iload_n 1, 1) := by decide +kernel
theorem dX10_turning_67 : decode cX10_turning 67 = .ok (.iload_n 2, 1) := by decide +kernel
theorem dX10_turning_68 : decode cX10_turning 68 = .ok (.iload_n 3, 1) := by decide +kernel
theorem dX10_turning_69 : decode cX10_turning 69 = .ok (.iconst 2, 1) := by decide +kernel
theorem dX10_turning_70 : decode cX10_turning 70 = .ok (.isub, 1) := by decide +kernel
theorem dX10_turning_71 : decode cX10_turning 71 = .ok (.invokevirtual 111, 3) := by decide +kernel
theorem dX10_turning_74 : decode cX10_turning 74 = .ok (.ireturn, 1) := by decide +kernel
theorem dX10_turn_0 : decode cX10_turn 0 = .ok (.iload_n 1, 1) := by decide +kernel
theorem dX10_turn_1 : decode cX10_turn 1 = .ok (.invokestatic 78, 3) := by decide +kernel
theorem dX10_turn_4 : decode cX10_turn 4 = .ok (.ifCond .eq 10, 3) := by decide +kernel
theorem dX10_turn_7 : decode cX10_turn 7 = .ok (.iload_n 2, 1) := by decide +kernel
theorem dX10_turn_8 : decode cX10_turn 8 = .ok (.invokestatic 78, 3) := by decide +kernel
theorem dX10_turn_11 : decode cX10_turn 11 = .ok (.ifCond .ne 6, 3) := by decide +kernel
theorem dX10_turn_14 : decode cX10_turn 14 = .ok (.bipush (-3), 2) := by decide +kernel
theorem dX10_turn_16 : decode cX10_turn 16 = .ok (.ireturn, 1) := by decide +kernel
theorem dX10_turn_17 : decode cX10_turn 17 = .ok (.aload_n 0, 1) := by decide +kernel
theorem dX10_turn_18 : decode cX10_turn 18 = .ok (.getfield 12, 3) := by decide +kernel
theorem dX10_turn_21 : decode cX10_turn 21 = .ok (.iload_n 1, 1) := by decide +kernel
theorem dX10_turn_22 : decode cX10_turn 22 = .ok (.iload_n 2, 1) := by decide +kernel
theorem dX10_turn_23 : decode cX10_turn 23 = .ok (.invokevirtual 104, 3) := by decide +kernel
theorem dX10_turn_26 : decode cX10_turn 26 = .ok (.iconst (-1), 1) := by decide +kernel
theorem dX10_turn_27 : decode cX10_turn 27 = .ok (.if_icmp .ne 5, 3) := by decide +kernel
theorem dX10_turn_30 : decode cX10_turn 30 = .ok (.iconst (-1), 1) := by decide +kernel
theorem dX10_turn_31 : decode cX10_turn 31 = .ok (.ireturn, 1) := by decide +kernel
theorem dX10_turn_32 : decode cX10_turn 32 = .ok (.iload_n 1, 1) := by decide +kernel
theorem dX10_turn_33 : decode cX10_turn 33 = .ok (.lload_n 3, 1) := by decide +kernel
theorem dX10_turn_34 : decode cX10_turn 34 = .ok (.invokestatic 115, 3) := by decide +kernel
theorem dX10_turn_37 : decode cX10_turn 37 = .ok (.ifCond .ne 15, 3) := by decide +kernel
theorem dX10_turn_40 : decode cX10_turn 40 = .ok (.aload_n 0, 1) := by decide +kernel
theorem dX10_turn_41 : decode cX10_turn 41 = .ok (.getfield 64, 3) := by decide +kernel
theorem dX10_turn_44 : decode cX10_turn 44 = .ok (.iconst 0, 1) := by decide +kernel
theorem dX10_turn_45 : decode cX10_turn 45 = .ok (.iconst (-1), 1) := by decide +kernel
theorem dX10_turn_46 : decode cX10_turn 46 = .ok (.invokevirtual 119, 3) := by decide +kernel
theorem dX10_turn_49 : decode cX10_turn 49 = .ok (.bipush (-7), 2) := by decide +kernel
theorem dX10_turn_51 : decode cX10_turn 51 = .ok (.ireturn, 1) := by decide +kernel
theorem dX10_turn_52 : decode cX10_turn 52 = .ok (.aload_n 0, 1) := by decide +kernel
theorem dX10_turn_53 : decode cX10_turn 53 = .ok (.getfield 12, 3) := by decide +kernel
theorem dX10_turn_56 : decode cX10_turn 56 = .ok (.iload_n 1, 1) := by decide +kernel
theorem dX10_turn_57 : decode cX10_turn 57 = .ok (.iload_n 2, 1) := by decide +kernel
theorem dX10_turn_58 : decode cX10_turn 58 = .ok (.lload_n 3, 1) := by decide +kernel
theorem dX10_turn_59 : decode cX10_turn 59 = .ok (.invokevirtual 123, 3) := by decide +kernel
theorem dX10_turn_62 : decode cX10_turn 62 = .ok (.ifCond .ne 21, 3) := by decide +kernel
theorem dX10_turn_65 : decode cX10_turn 65 = .ok (.aload_n 0, 1) := by decide +kernel
theorem dX10_turn_66 : decode cX10_turn 66 = .ok (.getfield 64, 3) := by decide +kernel
theorem dX10_turn_69 : decode cX10_turn 69 = .ok (.iconst 1, 1) := by decide +kernel
theorem dX10_turn_70 : decode cX10_turn 70 = .ok (.aload_n 0, 1) := by decide +kernel
theorem dX10_turn_71 : decode cX10_turn 71 = .ok (.getfield 12, 3) := by decide +kernel
theorem dX10_turn_74 : decode cX10_turn 74 = .ok (.getfield 127, 3) := by decide +kernel
theorem dX10_turn_77 : decode cX10_turn 77 = .ok (.invokevirtual 119, 3) := by decide +kernel
theorem dX10_turn_80 : decode cX10_turn 80 = .ok (.bipush (-7), 2) := by decide +kernel
theorem dX10_turn_82 : decode cX10_turn 82 = .ok (.ireturn, 1) := by decide +kernel
theorem dX10_turn_83 : decode cX10_turn 83 = .ok (.aload_n 0, 1) := by decide +kernel
theorem dX10_turn_84 : decode cX10_turn 84 = .ok (.getfield 64, 3) := by decide +kernel
theorem dX10_turn_87 : decode cX10_turn 87 = .ok (.aload_n 0, 1) := by decide +kernel
theorem dX10_turn_88 : decode cX10_turn 88 = .ok (.getfield 12, 3) := by decide +kernel
theorem dX10_turn_91 : decode cX10_turn 91 = .ok (.getfield 131, 3) := by decide +kernel
theorem dX10_turn_94 : decode cX10_turn 94 = .ok (.putfield 135, 3) := by decide +kernel
theorem dX10_turn_97 : decode cX10_turn 97 = .ok (.iconst 0, 1) := by decide +kernel
theorem dX10_turn_98 : decode cX10_turn 98 = .ok (.ireturn, 1) := by decide +kernel
theorem dX10_ask_0 : decode cX10_ask 0 = .ok (.iload_n 1, 1) := by decide +kernel
theorem dX10_ask_1 : decode cX10_ask 1 = .ok (.iconst 0, 1) := by decide +kernel
theorem dX10_ask_2 : decode cX10_ask 2 = .ok (.bipush 9, 2) := by decide +kernel
theorem dX10_ask_4 : decode cX10_ask 4 = .ok (.invokestatic 82, 3) := by decide +kernel
theorem dX10_ask_7 : decode cX10_ask 7 = .ok (.ifCond .eq 17, 3) := by decide +kernel
theorem dX10_ask_10 : decode cX10_ask 10 = .ok (.iload_n 2, 1) := by decide +kernel
theorem dX10_ask_11 : decode cX10_ask 11 = .ok (.invokestatic 136, 3) := by decide +kernel
theorem dX10_ask_14 : decode cX10_ask 14 = .ok (.ifCond .eq 10, 3) := by decide +kernel
theorem dX10_ask_17 : decode cX10_ask 17 = .ok (.iload_n 3, 1) := by decide +kernel
theorem dX10_ask_18 : decode cX10_ask 18 = .ok (.invokestatic 139, 3) := by decide +kernel
theorem dX10_ask_21 : decode cX10_ask 21 = .ok (.ifCond .ne 6, 3) := by decide +kernel
theorem dX10_ask_24 : decode cX10_ask 24 = .ok (.bipush (-3), 2) := by decide +kernel
theorem dX10_ask_26 : decode cX10_ask 26 = .ok (.ireturn, 1) := by decide +kernel
theorem dX10_ask_27 : decode cX10_ask 27 = .ok (.aload_n 0, 1) := by decide +kernel
theorem dX10_ask_28 : decode cX10_ask 28 = .ok (.getfield 41, 3) := by decide +kernel
theorem dX10_ask_31 : decode cX10_ask 31 = .ok (.bipush 10, 2) := by decide +kernel
theorem dX10_ask_33 : decode cX10_ask 33 = .ok (.iload_n 1, 1) := by decide +kernel
theorem dX10_ask_34 : decode cX10_ask 34 = .ok (.iadd, 1) := by decide +kernel
theorem dX10_ask_35 : decode cX10_ask 35 = .ok (.aaload, 1) := by decide +kernel
theorem dX10_ask_36 : decode cX10_ask 36 = .ok (.astore 4, 2) := by decide +kernel
theorem dX10_ask_38 : decode cX10_ask 38 = .ok (.aload 4, 2) := by decide +kernel
theorem dX10_ask_40 : decode cX10_ask 40 = .ok (.getfield 142, 3) := by decide +kernel
theorem dX10_ask_43 : decode cX10_ask 43 = .ok (.bipush 6, 2) := by decide +kernel
theorem dX10_ask_45 : decode cX10_ask 45 = .ok (.if_icmp .lt 6, 3) := by decide +kernel
theorem dX10_ask_48 : decode cX10_ask 48 = .ok (.bipush (-5), 2) := by decide +kernel
theorem dX10_ask_50 : decode cX10_ask 50 = .ok (.ireturn, 1) := by decide +kernel
theorem dX10_ask_51 : decode cX10_ask 51 = .ok (.aload_n 0, 1) := by decide +kernel
theorem dX10_ask_52 : decode cX10_ask 52 = .ok (.getfield 50, 3) := by decide +kernel
theorem dX10_ask_55 : decode cX10_ask 55 = .ok (.iload_n 1, 1) := by decide +kernel
theorem dX10_ask_56 : decode cX10_ask 56 = .ok (.invokevirtual 145, 3) := by decide +kernel
theorem dX10_ask_59 : decode cX10_ask 59 = .ok (.aload 4, 2) := by decide +kernel
theorem dX10_ask_61 : decode cX10_ask 61 = .ok (.iload_n 2, 1) := by decide +kernel
theorem dX10_ask_62 : decode cX10_ask 62 = .ok (.iload_n 3, 1) := by decide +kernel
theorem dX10_ask_63 : decode cX10_ask 63 = .ok (.invokevirtual 148, 3) := by decide +kernel
theorem dX10_ask_66 : decode cX10_ask 66 = .ok (.ireturn, 1) := by decide +kernel
theorem dX10_offer_0 : decode cX10_offer 0 = .ok (.iload_n 1, 1) := by decide +kernel
theorem dX10_offer_1 : decode cX10_offer 1 = .ok (.iconst 0, 1) := by decide +kernel
theorem dX10_offer_2 : decode cX10_offer 2 = .ok (.bipush 9, 2) := by decide +kernel
theorem dX10_offer_4 : decode cX10_offer 4 = .ok (.invokestatic 82, 3) := by decide +kernel
theorem dX10_offer_7 : decode cX10_offer 7 = .ok (.ifCond .eq 17, 3) := by decide +kernel
theorem dX10_offer_10 : decode cX10_offer 10 = .ok (.iload_n 2, 1) := by decide +kernel
theorem dX10_offer_11 : decode cX10_offer 11 = .ok (.invokestatic 136, 3) := by decide +kernel
theorem dX10_offer_14 : decode cX10_offer 14 = .ok (.ifCond .eq 10, 3) := by decide +kernel
theorem dX10_offer_17 : decode cX10_offer 17 = .ok (.iload_n 3, 1) := by decide +kernel
theorem dX10_offer_18 : decode cX10_offer 18 = .ok (.invokestatic 139, 3) := by decide +kernel
theorem dX10_offer_21 : decode cX10_offer 21 = .ok (.ifCond .ne 6, 3) := by decide +kernel
theorem dX10_offer_24 : decode cX10_offer 24 = .ok (.bipush (-3), 2) := by decide +kernel
theorem dX10_offer_26 : decode cX10_offer 26 = .ok (.ireturn, 1) := by decide +kernel
theorem dX10_offer_27 : decode cX10_offer 27 = .ok (.aload_n 0, 1) := by decide +kernel
theorem dX10_offer_28 : decode cX10_offer 28 = .ok (.getfield 41, 3) := by decide +kernel
theorem dX10_offer_31 : decode cX10_offer 31 = .ok (.iload_n 1, 1) := by decide +kernel
theorem dX10_offer_32 : decode cX10_offer 32 = .ok (.aaload, 1) := by decide +kernel
theorem dX10_offer_33 : decode cX10_offer 33 = .ok (.getfield 142, 3) := by decide +kernel
theorem dX10_offer_36 : decode cX10_offer 36 = .ok (.bipush 6, 2) := by decide +kernel
theorem dX10_offer_38 : decode cX10_offer 38 = .ok (.if_icmp .lt 8, 3) := by decide +kernel
theorem dX10_offer_41 : decode cX10_offer 41 = .ok (.bipush (-5), 2) := by decide +kernel
theorem dX10_offer_43 : decode cX10_offer 43 = .ok (.goto 14, 3) := by decide +kernel
theorem dX10_offer_46 : decode cX10_offer 46 = .ok (.aload_n 0, 1) := by decide +kernel
theorem dX10_offer_47 : decode cX10_offer 47 = .ok (.getfield 41, 3) := by decide +kernel
theorem dX10_offer_50 : decode cX10_offer 50 = .ok (.iload_n 1, 1) := by decide +kernel
theorem dX10_offer_51 : decode cX10_offer 51 = .ok (.aaload, 1) := by decide +kernel
theorem dX10_offer_52 : decode cX10_offer 52 = .ok (.iload_n 2, 1) := by decide +kernel
theorem dX10_offer_53 : decode cX10_offer 53 = .ok (.iload_n 3, 1) := by decide +kernel
theorem dX10_offer_54 : decode cX10_offer 54 = .ok (.invokevirtual 148, 3) := by decide +kernel
theorem dX10_offer_57 : decode cX10_offer 57 = .ok (.ireturn, 1) := by decide +kernel
theorem dX10_work_0 : decode cX10_work 0 = .ok (.iload_n 1, 1) := by decide +kernel
theorem dX10_work_1 : decode cX10_work 1 = .ok (.iconst 0, 1) := by decide +kernel
theorem dX10_work_2 : decode cX10_work 2 = .ok (.bipush 9, 2) := by decide +kernel
theorem dX10_work_4 : decode cX10_work 4 = .ok (.invokestatic 82, 3) := by decide +kernel
theorem dX10_work_7 : decode cX10_work 7 = .ok (.ifCond .eq 12, 3) := by decide +kernel
theorem dX10_work_10 : decode cX10_work 10 = .ok (.iload_n 3, 1) := by decide +kernel
theorem dX10_work_11 : decode cX10_work 11 = .ok (.iconst 0, 1) := by decide +kernel
theorem dX10_work_12 : decode cX10_work 12 = .ok (.iconst 2, 1) := by decide +kernel
theorem dX10_work_13 : decode cX10_work 13 = .ok (.invokestatic 82, 3) := by decide +kernel
theorem dX10_work_16 : decode cX10_work 16 = .ok (.ifCond .ne 6, 3) := by decide +kernel
theorem dX10_work_19 : decode cX10_work 19 = .ok (.bipush (-3), 2) := by decide +kernel
theorem dX10_work_21 : decode cX10_work 21 = .ok (.ireturn, 1) := by decide +kernel
theorem dX10_work_22 : decode cX10_work 22 = .ok (.iload_n 3, 1) := by decide +kernel
theorem dX10_work_23 : decode cX10_work 23 = .ok (.ifCond .ne 13, 3) := by decide +kernel
theorem dX10_work_26 : decode cX10_work 26 = .ok (.iload 4, 2) := by decide +kernel
theorem dX10_work_28 : decode cX10_work 28 = .ok (.iconst (-1), 1) := by decide +kernel
theorem dX10_work_29 : decode cX10_work 29 = .ok (.if_icmp .ne 7, 3) := by decide +kernel
theorem dX10_work_32 : decode cX10_work 32 = .ok (.iconst 1, 1) := by decide +kernel
theorem dX10_work_33 : decode cX10_work 33 = .ok (.goto 4, 3) := by decide +kernel
theorem dX10_work_36 : decode cX10_work 36 = .ok (.iconst 0, 1) := by decide +kernel
theorem dX10_work_37 : decode cX10_work 37 = .ok (.istore 6, 2) := by decide +kernel
theorem dX10_work_39 : decode cX10_work 39 = .ok (.iload 6, 2) := by decide +kernel
theorem dX10_work_41 : decode cX10_work 41 = .ok (.ifCond .ne 16, 3) := by decide +kernel
theorem dX10_work_44 : decode cX10_work 44 = .ok (.iload 4, 2) := by decide +kernel
theorem dX10_work_46 : decode cX10_work 46 = .ok (.iconst 0, 1) := by decide +kernel
theorem dX10_work_47 : decode cX10_work 47 = .ok (.iconst 2, 1) := by decide +kernel
theorem dX10_work_48 : decode cX10_work 48 = .ok (.invokestatic 82, 3) := by decide +kernel
theorem dX10_work_51 : decode cX10_work 51 = .ok (.ifCond .ne 6, 3) := by decide +kernel
theorem dX10_work_54 : decode cX10_work 54 = .ok (.bipush (-3), 2) := by decide +kernel
theorem dX10_work_56 : decode cX10_work 56 = .ok (.ireturn, 1) := by decide +kernel
theorem dX10_work_57 : decode cX10_work 57 = .ok (.iload_n 3, 1) := by decide +kernel
theorem dX10_work_58 : decode cX10_work 58 = .ok (.ifCond .ne 20, 3) := by decide +kernel
theorem dX10_work_61 : decode cX10_work 61 = .ok (.iload 5, 2) := by decide +kernel
theorem dX10_work_63 : decode cX10_work 63 = .ok (.sipush (-1000), 3) := by decide +kernel
theorem dX10_work_66 : decode cX10_work 66 = .ok (.sipush 1000, 3) := by decide +kernel
theorem dX10_work_69 : decode cX10_work 69 = .ok (.invokestatic 82, 3) := by decide +kernel
theorem dX10_work_72 : decode cX10_work 72 = .ok (.ifCond .ne 6, 3) := by decide +kernel
theorem dX10_work_75 : decode cX10_work 75 = .ok (.bipush (-3), 2) := by decide +kernel
theorem dX10_work_77 : decode cX10_work 77 = .ok (.ireturn, 1) := by decide +kernel
theorem dX10_work_78 : decode cX10_work 78 = .ok (.aload_n 0, 1) := by decide +kernel
theorem dX10_work_79 : decode cX10_work 79 = .ok (.getfield 41, 3) := by decide +kernel
theorem dX10_work_82 : decode cX10_work 82 = .ok (.iload_n 1, 1) := by decide +kernel
theorem dX10_work_83 : decode cX10_work 83 = .ok (.aaload, 1) := by decide +kernel
theorem dX10_work_84 : decode cX10_work 84 = .ok (.iload_n 2, 1) := by decide +kernel
theorem dX10_work_85 : decode cX10_work 85 = .ok (.invokevirtual 151, 3) := by decide +kernel
theorem dX10_work_88 : decode cX10_work 88 = .ok (.ifCond .ne 6, 3) := by decide +kernel
theorem dX10_work_91 : decode cX10_work 91 = .ok (.bipush (-2), 2) := by decide +kernel
theorem dX10_work_93 : decode cX10_work 93 = .ok (.ireturn, 1) := by decide +kernel
theorem dX10_work_94 : decode cX10_work 94 = .ok (.aload_n 0, 1) := by decide +kernel
theorem dX10_work_95 : decode cX10_work 95 = .ok (.getfield 41, 3) := by decide +kernel
theorem dX10_work_98 : decode cX10_work 98 = .ok (.iload_n 1, 1) := by decide +kernel
theorem dX10_work_99 : decode cX10_work 99 = .ok (.aaload, 1) := by decide +kernel
theorem dX10_work_100 : decode cX10_work 100 = .ok (.getfield 154, 3) := by decide +kernel
theorem dX10_work_103 : decode cX10_work 103 = .ok (.iload_n 2, 1) := by decide +kernel
theorem dX10_work_104 : decode cX10_work 104 = .ok (.aaload, 1) := by decide +kernel
theorem dX10_work_105 : decode cX10_work 105 = .ok (.iload_n 3, 1) := by decide +kernel
theorem dX10_work_106 : decode cX10_work 106 = .ok (.iload 4, 2) := by decide +kernel
theorem dX10_work_108 : decode cX10_work 108 = .ok (.iload 5, 2) := by decide +kernel
theorem dX10_work_110 : decode cX10_work 110 = .ok (.invokevirtual 158, 3) := by decide +kernel
theorem dX10_work_113 : decode cX10_work 113 = .ok (.iconst 0, 1) := by decide +kernel
theorem dX10_work_114 : decode cX10_work 114 = .ok (.ireturn, 1) := by decide +kernel
theorem dX10_times_0 : decode cX10_times 0 = .ok (.iload_n 1, 1) := by decide +kernel
theorem dX10_times_1 : decode cX10_times 1 = .ok (.iconst 0, 1) := by decide +kernel
theorem dX10_times_2 : decode cX10_times 2 = .ok (.bipush 9, 2) := by decide +kernel
theorem dX10_times_4 : decode cX10_times 4 = .ok (.invokestatic 82, 3) := by decide +kernel
theorem dX10_times_7 : decode cX10_times 7 = .ok (.ifCond .ne 6, 3) := by decide +kernel
theorem dX10_times_10 : decode cX10_times 10 = .ok (.bipush (-3), 2) := by decide +kernel
theorem dX10_times_12 : decode cX10_times 12 = .ok (.ireturn, 1) := by decide +kernel
theorem dX10_times_13 : decode cX10_times 13 = .ok (.aload_n 0, 1) := by decide +kernel
theorem dX10_times_14 : decode cX10_times 14 = .ok (.getfield 41, 3) := by decide +kernel
theorem dX10_times_17 : decode cX10_times 17 = .ok (.iload_n 1, 1) := by decide +kernel
theorem dX10_times_18 : decode cX10_times 18 = .ok (.aaload, 1) := by decide +kernel
theorem dX10_times_19 : decode cX10_times 19 = .ok (.iload_n 2, 1) := by decide +kernel
theorem dX10_times_20 : decode cX10_times 20 = .ok (.invokevirtual 151, 3) := by decide +kernel
theorem dX10_times_23 : decode cX10_times 23 = .ok (.ifCond .ne 6, 3) := by decide +kernel
theorem dX10_times_26 : decode cX10_times 26 = .ok (.bipush (-2), 2) := by decide +kernel
theorem dX10_times_28 : decode cX10_times 28 = .ok (.ireturn, 1) := by decide +kernel
theorem dX10_times_29 : decode cX10_times 29 = .ok (.aload_n 0, 1) := by decide +kernel
theorem dX10_times_30 : decode cX10_times 30 = .ok (.getfield 41, 3) := by decide +kernel
theorem dX10_times_33 : decode cX10_times 33 = .ok (.iload_n 1, 1) := by decide +kernel
theorem dX10_times_34 : decode cX10_times 34 = .ok (.aaload, 1) := by decide +kernel
theorem dX10_times_35 : decode cX10_times 35 = .ok (.getfield 154, 3) := by decide +kernel
theorem dX10_times_38 : decode cX10_times 38 = .ok (.iload_n 2, 1) := by decide +kernel
theorem dX10_times_39 : decode cX10_times 39 = .ok (.aaload, 1) := by decide +kernel
theorem dX10_times_40 : decode cX10_times 40 = .ok (.astore 5, 2) := by decide +kernel
theorem dX10_times_42 : decode cX10_times 42 = .ok (.iload_n 3, 1) := by decide +kernel
theorem dX10_times_43 : decode cX10_times 43 = .ok (.iconst 0, 1) := by decide +kernel
theorem dX10_times_44 : decode cX10_times 44 = .ok (.aload 5, 2) := by decide +kernel
theorem dX10_times_46 : decode cX10_times 46 = .ok (.getfield 164, 3) := by decide +kernel
theorem dX10_times_49 : decode cX10_times 49 = .ok (.iconst 1, 1) := by decide +kernel
theorem dX10_times_50 : decode cX10_times 50 = .ok (.isub, 1) := by decide +kernel
theorem dX10_times_51 : decode cX10_times 51 = .ok (.invokestatic 82, 3) := by decide +kernel
theorem dX10_times_54 : decode cX10_times 54 = .ok (.ifCond .eq 17, 3) := by decide +kernel
theorem dX10_times_57 : decode cX10_times 57 = .ok (.iload 4, 2) := by decide +kernel
theorem dX10_times_59 : decode cX10_times 59 = .ok (.sipush (-1000), 3) := by decide +kernel
theorem dX10_times_62 : decode cX10_times 62 = .ok (.sipush 1000, 3) := by decide +kernel
end
section
theorem dX10_times_65 : decode cX10_times 65 = .ok (.invokestatic 82, 3) := by decide +kernel
theorem dX10_times_68 : decode cX10_times 68 = .ok (.ifCond .ne 6, 3) := by decide +kernel
theorem dX10_times_71 : decode cX10_times 71 = .ok (.bipush (-3), 2) := by decide +kernel
theorem dX10_times_73 : decode cX10_times 73 = .ok (.ireturn, 1) := by decide +kernel
theorem dX10_times_74 : decode cX10_times 74 = .ok (.aload 5, 2) := by decide +kernel
theorem dX10_times_76 : decode cX10_times 76 = .ok (.getfield 167, 3) := by decide +kernel
theorem dX10_times_79 : decode cX10_times 79 = .ok (.iload_n 3, 1) := by decide +kernel
theorem dX10_times_80 : decode cX10_times 80 = .ok (.iaload, 1) := by decide +kernel
theorem dX10_times_81 : decode cX10_times 81 = .ok (.istore 6, 2) := by decide +kernel
theorem dX10_times_83 : decode cX10_times 83 = .ok (.aload 5, 2) := by decide +kernel
theorem dX10_times_85 : decode cX10_times 85 = .ok (.getfield 167, 3) := by decide +kernel
theorem dX10_times_88 : decode cX10_times 88 = .ok (.iload_n 3, 1) := by decide +kernel
theorem dX10_times_89 : decode cX10_times 89 = .ok (.iload 4, 2) := by decide +kernel
theorem dX10_times_91 : decode cX10_times 91 = .ok (.iastore, 1) := by decide +kernel
theorem dX10_times_92 : decode cX10_times 92 = .ok (.iload 6, 2) := by decide +kernel
theorem dX10_times_94 : decode cX10_times 94 = .ok (.ireturn, 1) := by decide +kernel
theorem dX10_strip_0 : decode cX10_strip 0 = .ok (.iload_n 2, 1) := by decide +kernel
theorem dX10_strip_1 : decode cX10_strip 1 = .ok (.iconst 0, 1) := by decide +kernel
theorem dX10_strip_2 : decode cX10_strip 2 = .ok (.iload_n 1, 1) := by decide +kernel
theorem dX10_strip_3 : decode cX10_strip 3 = .ok (.ifCond .eq 8, 3) := by decide +kernel
theorem dX10_strip_6 : decode cX10_strip 6 = .ok (.bipush 10, 2) := by decide +kernel
theorem dX10_strip_8 : decode cX10_strip 8 = .ok (.goto 5, 3) := by decide +kernel
theorem dX10_strip_11 : decode cX10_strip 11 = .ok (.bipush 10, 2) := by decide +kernel
theorem dX10_strip_13 : decode cX10_strip 13 = .ok (.iconst 1, 1) := by decide +kernel
theorem dX10_strip_14 : decode cX10_strip 14 = .ok (.isub, 1) := by decide +kernel
theorem dX10_strip_15 : decode cX10_strip 15 = .ok (.invokestatic 82, 3) := by decide +kernel
theorem dX10_strip_18 : decode cX10_strip 18 = .ok (.ifCond .ne 6, 3) := by decide +kernel
theorem dX10_strip_21 : decode cX10_strip 21 = .ok (.bipush (-3), 2) := by decide +kernel
theorem dX10_strip_23 : decode cX10_strip 23 = .ok (.ireturn, 1) := by decide +kernel
theorem dX10_strip_24 : decode cX10_strip 24 = .ok (.iload_n 1, 1) := by decide +kernel
theorem dX10_strip_25 : decode cX10_strip 25 = .ok (.ifCond .eq 11, 3) := by decide +kernel
theorem dX10_strip_28 : decode cX10_strip 28 = .ok (.aload_n 0, 1) := by decide +kernel
theorem dX10_strip_29 : decode cX10_strip 29 = .ok (.getfield 50, 3) := by decide +kernel
theorem dX10_strip_32 : decode cX10_strip 32 = .ok (.iload_n 2, 1) := by decide +kernel
theorem dX10_strip_33 : decode cX10_strip 33 = .ok (.invokevirtual 145, 3) := by decide +kernel
theorem dX10_strip_36 : decode cX10_strip 36 = .ok (.aload_n 0, 1) := by decide +kernel
theorem dX10_strip_37 : decode cX10_strip 37 = .ok (.getfield 41, 3) := by decide +kernel
theorem dX10_strip_40 : decode cX10_strip 40 = .ok (.iload_n 1, 1) := by decide +kernel
theorem dX10_strip_41 : decode cX10_strip 41 = .ok (.ifCond .eq 10, 3) := by decide +kernel
theorem dX10_strip_44 : decode cX10_strip 44 = .ok (.bipush 10, 2) := by decide +kernel
theorem dX10_strip_46 : decode cX10_strip 46 = .ok (.iload_n 2, 1) := by decide +kernel
theorem dX10_strip_47 : decode cX10_strip 47 = .ok (.iadd, 1) := by decide +kernel
theorem dX10_strip_48 : decode cX10_strip 48 = .ok (.goto 4, 3) := by decide +kernel
theorem dX10_strip_51 : decode cX10_strip 51 = .ok (.iload_n 2, 1) := by decide +kernel
theorem dX10_strip_52 : decode cX10_strip 52 = .ok (.aaload, 1) := by decide +kernel
theorem dX10_strip_53 : decode cX10_strip 53 = .ok (.astore_n 3, 1) := by decide +kernel
theorem dX10_strip_54 : decode cX10_strip 54 = .ok (.aload_n 3, 1) := by decide +kernel
theorem dX10_strip_55 : decode cX10_strip 55 = .ok (.getfield 142, 3) := by decide +kernel
theorem dX10_strip_58 : decode cX10_strip 58 = .ok (.istore 4, 2) := by decide +kernel
theorem dX10_strip_60 : decode cX10_strip 60 = .ok (.aload_n 3, 1) := by decide +kernel
theorem dX10_strip_61 : decode cX10_strip 61 = .ok (.iconst 0, 1) := by decide +kernel
theorem dX10_strip_62 : decode cX10_strip 62 = .ok (.putfield 142, 3) := by decide +kernel
theorem dX10_strip_65 : decode cX10_strip 65 = .ok (.iload 4, 2) := by decide +kernel
theorem dX10_strip_67 : decode cX10_strip 67 = .ok (.ireturn, 1) := by decide +kernel
theorem dX10_alias_0 : decode cX10_alias 0 = .ok (.iload_n 1, 1) := by decide +kernel
theorem dX10_alias_1 : decode cX10_alias 1 = .ok (.invokestatic 136, 3) := by decide +kernel
theorem dX10_alias_4 : decode cX10_alias 4 = .ok (.ifCond .eq 15, 3) := by decide +kernel
theorem dX10_alias_7 : decode cX10_alias 7 = .ok (.iload_n 2, 1) := by decide +kernel
theorem dX10_alias_8 : decode cX10_alias 8 = .ok (.invokestatic 136, 3) := by decide +kernel
theorem dX10_alias_11 : decode cX10_alias 11 = .ok (.ifCond .eq 8, 3) := by decide +kernel
theorem dX10_alias_14 : decode cX10_alias 14 = .ok (.iload_n 1, 1) := by decide +kernel
theorem dX10_alias_15 : decode cX10_alias 15 = .ok (.iload_n 2, 1) := by decide +kernel
theorem dX10_alias_16 : decode cX10_alias 16 = .ok (.if_icmp .ne 5, 3) := by decide +kernel
theorem dX10_alias_19 : decode cX10_alias 19 = .ok (.iconst 0, 1) := by decide +kernel
theorem dX10_alias_20 : decode cX10_alias 20 = .ok (.ireturn, 1) := by decide +kernel
theorem dX10_alias_21 : decode cX10_alias 21 = .ok (.iload_n 3, 1) := by decide +kernel
theorem dX10_alias_22 : decode cX10_alias 22 = .ok (.ifCond .eq 15, 3) := by decide +kernel
theorem dX10_alias_25 : decode cX10_alias 25 = .ok (.aload_n 0, 1) := by decide +kernel
theorem dX10_alias_26 : decode cX10_alias 26 = .ok (.getfield 19, 3) := by decide +kernel
theorem dX10_alias_29 : decode cX10_alias 29 = .ok (.iload_n 1, 1) := by decide +kernel
theorem dX10_alias_30 : decode cX10_alias 30 = .ok (.iload_n 2, 1) := by decide +kernel
theorem dX10_alias_31 : decode cX10_alias 31 = .ok (.invokevirtual 171, 3) := by decide +kernel
theorem dX10_alias_34 : decode cX10_alias 34 = .ok (.goto 12, 3) := by decide +kernel
theorem dX10_alias_37 : decode cX10_alias 37 = .ok (.aload_n 0, 1) := by decide +kernel
theorem dX10_alias_38 : decode cX10_alias 38 = .ok (.getfield 19, 3) := by decide +kernel
theorem dX10_alias_41 : decode cX10_alias 41 = .ok (.iload_n 1, 1) := by decide +kernel
theorem dX10_alias_42 : decode cX10_alias 42 = .ok (.iload_n 2, 1) := by decide +kernel
theorem dX10_alias_43 : decode cX10_alias 43 = .ok (.invokevirtual 174, 3) := by decide +kernel
theorem dX10_alias_46 : decode cX10_alias 46 = .ok (.istore 4, 2) := by decide +kernel
theorem dX10_alias_48 : decode cX10_alias 48 = .ok (.iload 4, 2) := by decide +kernel
theorem dX10_alias_50 : decode cX10_alias 50 = .ok (.ifCond .eq 10, 3) := by decide +kernel
theorem dX10_alias_53 : decode cX10_alias 53 = .ok (.aload_n 0, 1) := by decide +kernel
theorem dX10_alias_54 : decode cX10_alias 54 = .ok (.getfield 50, 3) := by decide +kernel
theorem dX10_alias_57 : decode cX10_alias 57 = .ok (.invokevirtual 90, 3) := by decide +kernel
theorem dX10_alias_60 : decode cX10_alias 60 = .ok (.iload 4, 2) := by decide +kernel
theorem dX10_alias_62 : decode cX10_alias 62 = .ok (.ireturn, 1) := by decide +kernel
theorem dX10_constant_0 : decode cX10_constant 0 = .ok (.iload_n 1, 1) := by decide +kernel
theorem dX10_constant_1 : decode cX10_constant 1 = .ok (.invokestatic 78, 3) := by decide +kernel
theorem dX10_constant_4 : decode cX10_constant 4 = .ok (.ifCond .eq 15, 3) := by decide +kernel
theorem dX10_constant_7 : decode cX10_constant 7 = .ok (.iload_n 2, 1) := by decide +kernel
theorem dX10_constant_8 : decode cX10_constant 8 = .ok (.ifCond .eq 14, 3) := by decide +kernel
theorem dX10_constant_11 : decode cX10_constant 11 = .ok (.iload_n 1, 1) := by decide +kernel
theorem dX10_constant_12 : decode cX10_constant 12 = .ok (.lload_n 3, 1) := by decide +kernel
theorem dX10_constant_13 : decode cX10_constant 13 = .ok (.invokestatic 115, 3) := by decide +kernel
theorem dX10_constant_16 : decode cX10_constant 16 = .ok (.ifCond .ne 6, 3) := by decide +kernel
theorem dX10_constant_19 : decode cX10_constant 19 = .ok (.bipush (-3), 2) := by decide +kernel
theorem dX10_constant_21 : decode cX10_constant 21 = .ok (.ireturn, 1) := by decide +kernel
theorem dX10_constant_22 : decode cX10_constant 22 = .ok (.aload_n 0, 1) := by decide +kernel
theorem dX10_constant_23 : decode cX10_constant 23 = .ok (.getfield 26, 3) := by decide +kernel
theorem dX10_constant_26 : decode cX10_constant 26 = .ok (.getfield 177, 3) := by decide +kernel
theorem dX10_constant_29 : decode cX10_constant 29 = .ok (.iload_n 1, 1) := by decide +kernel
theorem dX10_constant_30 : decode cX10_constant 30 = .ok (.baload, 1) := by decide +kernel
theorem dX10_constant_31 : decode cX10_constant 31 = .ok (.ifCond .eq 7, 3) := by decide +kernel
theorem dX10_constant_34 : decode cX10_constant 34 = .ok (.iconst 1, 1) := by decide +kernel
theorem dX10_constant_35 : decode cX10_constant 35 = .ok (.goto 4, 3) := by decide +kernel
theorem dX10_constant_38 : decode cX10_constant 38 = .ok (.iconst 0, 1) := by decide +kernel
theorem dX10_constant_39 : decode cX10_constant 39 = .ok (.istore 5, 2) := by decide +kernel
theorem dX10_constant_41 : decode cX10_constant 41 = .ok (.aload_n 0, 1) := by decide +kernel
theorem dX10_constant_42 : decode cX10_constant 42 = .ok (.getfield 26, 3) := by decide +kernel
theorem dX10_constant_45 : decode cX10_constant 45 = .ok (.getfield 177, 3) := by decide +kernel
theorem dX10_constant_48 : decode cX10_constant 48 = .ok (.iload_n 1, 1) := by decide +kernel
theorem dX10_constant_49 : decode cX10_constant 49 = .ok (.iload_n 2, 1) := by decide +kernel
theorem dX10_constant_50 : decode cX10_constant 50 = .ok (.bastore, 1) := by decide +kernel
theorem dX10_constant_51 : decode cX10_constant 51 = .ok (.aload_n 0, 1) := by decide +kernel
theorem dX10_constant_52 : decode cX10_constant 52 = .ok (.getfield 26, 3) := by decide +kernel
theorem dX10_constant_55 : decode cX10_constant 55 = .ok (.getfield 181, 3) := by decide +kernel
theorem dX10_constant_58 : decode cX10_constant 58 = .ok (.iload_n 1, 1) := by decide +kernel
theorem dX10_constant_59 : decode cX10_constant 59 = .ok (.lload_n 3, 1) := by decide +kernel
theorem dX10_constant_60 : decode cX10_constant 60 = .ok (.lastore, 1) := by decide +kernel
theorem dX10_constant_61 : decode cX10_constant 61 = .ok (.aload_n 0, 1) := by decide +kernel
theorem dX10_constant_62 : decode cX10_constant 62 = .ok (.getfield 50, 3) := by decide +kernel
theorem dX10_constant_65 : decode cX10_constant 65 = .ok (.invokevirtual 90, 3) := by decide +kernel
theorem dX10_constant_68 : decode cX10_constant 68 = .ok (.iload 5, 2) := by decide +kernel
theorem dX10_constant_70 : decode cX10_constant 70 = .ok (.ireturn, 1) := by decide +kernel
theorem dX10_fit_0 : decode cX10_fit 0 = .ok (.iload_n 1, 1) := by decide +kernel
theorem dX10_fit_1 : decode cX10_fit 1 = .ok (.iload_n 3, 1) := by decide +kernel
theorem dX10_fit_2 : decode cX10_fit 2 = .ok (.invokestatic 185, 3) := by decide +kernel
theorem dX10_fit_5 : decode cX10_fit 5 = .ok (.ifCond .eq 13, 3) := by decide +kernel
theorem dX10_fit_8 : decode cX10_fit 8 = .ok (.iload 4, 2) := by decide +kernel
theorem dX10_fit_10 : decode cX10_fit 10 = .ok (.iconst 0, 1) := by decide +kernel
theorem dX10_fit_11 : decode cX10_fit 11 = .ok (.iconst 5, 1) := by decide +kernel
theorem dX10_fit_12 : decode cX10_fit 12 = .ok (.invokestatic 82, 3) := by decide +kernel
theorem dX10_fit_15 : decode cX10_fit 15 = .ok (.ifCond .ne 6, 3) := by decide +kernel
theorem dX10_fit_18 : decode cX10_fit 18 = .ok (.bipush (-3), 2) := by decide +kernel
theorem dX10_fit_20 : decode cX10_fit 20 = .ok (.ireturn, 1) := by decide +kernel
theorem dX10_fit_21 : decode cX10_fit 21 = .ok (.aload_n 0, 1) := by decide +kernel
theorem dX10_fit_22 : decode cX10_fit 22 = .ok (.getfield 41, 3) := by decide +kernel
theorem dX10_fit_25 : decode cX10_fit 25 = .ok (.bipush 10, 2) := by decide +kernel
theorem dX10_fit_27 : decode cX10_fit 27 = .ok (.iload_n 1, 1) := by decide +kernel
theorem dX10_fit_28 : decode cX10_fit 28 = .ok (.iadd, 1) := by decide +kernel
theorem dX10_fit_29 : decode cX10_fit 29 = .ok (.aaload, 1) := by decide +kernel
theorem dX10_fit_30 : decode cX10_fit 30 = .ok (.astore 5, 2) := by decide +kernel
theorem dX10_fit_32 : decode cX10_fit 32 = .ok (.aload 5, 2) := by decide +kernel
theorem dX10_fit_34 : decode cX10_fit 34 = .ok (.iload_n 2, 1) := by decide +kernel
theorem dX10_fit_35 : decode cX10_fit 35 = .ok (.invokevirtual 151, 3) := by decide +kernel
theorem dX10_fit_38 : decode cX10_fit 38 = .ok (.ifCond .ne 6, 3) := by decide +kernel
theorem dX10_fit_41 : decode cX10_fit 41 = .ok (.bipush (-2), 2) := by decide +kernel
theorem dX10_fit_43 : decode cX10_fit 43 = .ok (.ireturn, 1) := by decide +kernel
theorem dX10_fit_44 : decode cX10_fit 44 = .ok (.aload_n 0, 1) := by decide +kernel
theorem dX10_fit_45 : decode cX10_fit 45 = .ok (.getfield 35, 3) := by decide +kernel
theorem dX10_fit_48 : decode cX10_fit 48 = .ok (.aload 5, 2) := by decide +kernel
theorem dX10_fit_50 : decode cX10_fit 50 = .ok (.getfield 154, 3) := by decide +kernel
theorem dX10_fit_53 : decode cX10_fit 53 = .ok (.iload_n 2, 1) := by decide +kernel
theorem dX10_fit_54 : decode cX10_fit 54 = .ok (.aaload, 1) := by decide +kernel
theorem dX10_fit_55 : decode cX10_fit 55 = .ok (.aload_n 0, 1) := by decide +kernel
theorem dX10_fit_56 : decode cX10_fit 56 = .ok (.getfield 41, 3) := by decide +kernel
theorem dX10_fit_59 : decode cX10_fit 59 = .ok (.iload_n 3, 1) := by decide +kernel
theorem dX10_fit_60 : decode cX10_fit 60 = .ok (.aaload, 1) := by decide +kernel
theorem dX10_fit_61 : decode cX10_fit 61 = .ok (.invokevirtual 188, 3) := by decide +kernel
theorem dX10_fit_64 : decode cX10_fit 64 = .ok (.ifCond .ne 6, 3) := by decide +kernel
theorem dX10_fit_67 : decode cX10_fit 67 = .ok (.bipush (-6), 2) := by decide +kernel
theorem dX10_fit_69 : decode cX10_fit 69 = .ok (.ireturn, 1) := by decide +kernel
theorem dX10_fit_70 : decode cX10_fit 70 = .ok (.iload 4, 2) := by decide +kernel
theorem dX10_fit_72 : decode cX10_fit 72 = .ok (.ifCond .ne 11, 3) := by decide +kernel
theorem dX10_fit_75 : decode cX10_fit 75 = .ok (.aload_n 0, 1) := by decide +kernel
theorem dX10_fit_76 : decode cX10_fit 76 = .ok (.getfield 35, 3) := by decide +kernel
theorem dX10_fit_79 : decode cX10_fit 79 = .ok (.getfield 192, 3) := by decide +kernel
theorem dX10_fit_82 : decode cX10_fit 82 = .ok (.ireturn, 1) := by decide +kernel
theorem dX10_fit_83 : decode cX10_fit 83 = .ok (.iload 4, 2) := by decide +kernel
theorem dX10_fit_85 : decode cX10_fit 85 = .ok (.iconst 1, 1) := by decide +kernel
theorem dX10_fit_86 : decode cX10_fit 86 = .ok (.if_icmp .ne 11, 3) := by decide +kernel
theorem dX10_fit_89 : decode cX10_fit 89 = .ok (.aload_n 0, 1) := by decide +kernel
theorem dX10_fit_90 : decode cX10_fit 90 = .ok (.getfield 35, 3) := by decide +kernel
theorem dX10_fit_93 : decode cX10_fit 93 = .ok (.getfield 195, 3) := by decide +kernel
theorem dX10_fit_96 : decode cX10_fit 96 = .ok (.ireturn, 1) := by decide +kernel
theorem dX10_fit_97 : decode cX10_fit 97 = .ok (.iload 4, 2) := by decide +kernel
theorem dX10_fit_99 : decode cX10_fit 99 = .ok (.iconst 2, 1) := by decide +kernel
theorem dX10_fit_100 : decode cX10_fit 100 = .ok (.isub, 1) := by decide +kernel
theorem dX10_fit_101 : decode cX10_fit 101 = .ok (.istore 6, 2) := by decide +kernel
theorem dX10_fit_103 : decode cX10_fit 103 = .ok (.iload 6, 2) := by decide +kernel
theorem dX10_fit_105 : decode cX10_fit 105 = .ok (.aload_n 0, 1) := by decide +kernel
theorem dX10_fit_106 : decode cX10_fit 106 = .ok (.getfield 41, 3) := by decide +kernel
theorem dX10_fit_109 : decode cX10_fit 109 = .ok (.iload_n 3, 1) := by decide +kernel
theorem dX10_fit_110 : decode cX10_fit 110 = .ok (.aaload, 1) := by decide +kernel
theorem dX10_fit_111 : decode cX10_fit 111 = .ok (.getfield 154, 3) := by decide +kernel
theorem dX10_fit_114 : decode cX10_fit 114 = .ok (.aload_n 0, 1) := by decide +kernel
theorem dX10_fit_115 : decode cX10_fit 115 = .ok (.getfield 35, 3) := by decide +kernel
theorem dX10_fit_118 : decode cX10_fit 118 = .ok (.getfield 195, 3) := by decide +kernel
theorem dX10_fit_121 : decode cX10_fit 121 = .ok (.aaload, 1) := by decide +kernel
theorem dX10_fit_122 : decode cX10_fit 122 = .ok (.getfield 164, 3) := by decide +kernel
theorem dX10_fit_125 : decode cX10_fit 125 = .ok (.if_icmp .ge 16, 3) := by decide +kernel
theorem dX10_fit_128 : decode cX10_fit 128 = .ok (.aload_n 0, 1) := by decide +kernel
theorem dX10_fit_129 : decode cX10_fit 129 = .ok (.getfield 35, 3) := by decide +kernel
theorem dX10_fit_132 : decode cX10_fit 132 = .ok (.getfield 198, 3) := by decide +kernel
theorem dX10_fit_135 : decode cX10_fit 135 = .ok (.iload 6, 2) := by decide +kernel
theorem dX10_fit_137 : decode cX10_fit 137 = .ok (.iaload, 1) := by decide +kernel
theorem dX10_fit_138 : decode cX10_fit 138 = .ok (.goto 4, 3) := by decide +kernel
theorem dX10_fit_141 : decode cX10_fit 141 = .ok (.iconst (-1), 1) := by decide +kernel
theorem dX10_fit_142 : decode cX10_fit 142 = .ok (.ireturn, 1) := by decide +kernel
theorem dX10_fits_0 : decode cX10_fits 0 = .ok (.iload_n 1, 1) := by decide +kernel
theorem dX10_fits_1 : decode cX10_fits 1 = .ok (.iload_n 2, 1) := by decide +kernel
theorem dX10_fits_2 : decode cX10_fits 2 = .ok (.invokestatic 185, 3) := by decide +kernel
theorem dX10_fits_5 : decode cX10_fits 5 = .ok (.ifCond .ne 6, 3) := by decide +kernel
theorem dX10_fits_8 : decode cX10_fits 8 = .ok (.bipush (-3), 2) := by decide +kernel
theorem dX10_fits_10 : decode cX10_fits 10 = .ok (.ireturn, 1) := by decide +kernel
theorem dX10_fits_11 : decode cX10_fits 11 = .ok (.aload_n 0, 1) := by decide +kernel
theorem dX10_fits_12 : decode cX10_fits 12 = .ok (.getfield 35, 3) := by decide +kernel
theorem dX10_fits_15 : decode cX10_fits 15 = .ok (.aload_n 0, 1) := by decide +kernel
theorem dX10_fits_16 : decode cX10_fits 16 = .ok (.getfield 41, 3) := by decide +kernel
theorem dX10_fits_19 : decode cX10_fits 19 = .ok (.bipush 10, 2) := by decide +kernel
theorem dX10_fits_21 : decode cX10_fits 21 = .ok (.iload_n 1, 1) := by decide +kernel
theorem dX10_fits_22 : decode cX10_fits 22 = .ok (.iadd, 1) := by decide +kernel
theorem dX10_fits_23 : decode cX10_fits 23 = .ok (.aaload, 1) := by decide +kernel
theorem dX10_fits_24 : decode cX10_fits 24 = .ok (.aload_n 0, 1) := by decide +kernel
theorem dX10_fits_25 : decode cX10_fits 25 = .ok (.getfield 41, 3) := by decide +kernel
theorem dX10_fits_28 : decode cX10_fits 28 = .ok (.iload_n 2, 1) := by decide +kernel
theorem dX10_fits_29 : decode cX10_fits 29 = .ok (.aaload, 1) := by decide +kernel
theorem dX10_fits_30 : decode cX10_fits 30 = .ok (.invokevirtual 201, 3) := by decide +kernel
theorem dX10_fits_33 : decode cX10_fits 33 = .ok (.ireturn, 1) := by decide +kernel
theorem dX10_gap_0 : decode cX10_gap 0 = .ok (.iload_n 1, 1) := by decide +kernel
theorem dX10_gap_1 : decode cX10_gap 1 = .ok (.iload_n 2, 1) := by decide +kernel
theorem dX10_gap_2 : decode cX10_gap 2 = .ok (.invokestatic 185, 3) := by decide +kernel
theorem dX10_gap_5 : decode cX10_gap 5 = .ok (.ifCond .ne 6, 3) := by decide +kernel
theorem dX10_gap_8 : decode cX10_gap 8 = .ok (.bipush (-3), 2) := by decide +kernel
theorem dX10_gap_10 : decode cX10_gap 10 = .ok (.ireturn, 1) := by decide +kernel
theorem dX10_gap_11 : decode cX10_gap 11 = .ok (.aload_n 0, 1) := by decide +kernel
theorem dX10_gap_12 : decode cX10_gap 12 = .ok (.getfield 35, 3) := by decide +kernel
theorem dX10_gap_15 : decode cX10_gap 15 = .ok (.aload_n 0, 1) := by decide +kernel
theorem dX10_gap_16 : decode cX10_gap 16 = .ok (.getfield 41, 3) := by decide +kernel
theorem dX10_gap_19 : decode cX10_gap 19 = .ok (.bipush 10, 2) := by decide +kernel
theorem dX10_gap_21 : decode cX10_gap 21 = .ok (.iload_n 1, 1) := by decide +kernel
theorem dX10_gap_22 : decode cX10_gap 22 = .ok (.iadd, 1) := by decide +kernel
theorem dX10_gap_23 : decode cX10_gap 23 = .ok (.aaload, 1) := by decide +kernel
theorem dX10_gap_24 : decode cX10_gap 24 = .ok (.aload_n 0, 1) := by decide +kernel
theorem dX10_gap_25 : decode cX10_gap 25 = .ok (.getfield 41, 3) := by decide +kernel
theorem dX10_gap_28 : decode cX10_gap 28 = .ok (.iload_n 2, 1) := by decide +kernel
theorem dX10_gap_29 : decode cX10_gap 29 = .ok (.aaload, 1) := by decide +kernel
theorem dX10_gap_30 : decode cX10_gap 30 = .ok (.invokevirtual 205, 3) := by decide +kernel
theorem dX10_gap_33 : decode cX10_gap 33 = .ok (.ireturn, 1) := by decide +kernel
theorem dX10_way_0 : decode cX10_way 0 = .ok (.iload_n 1, 1) := by decide +kernel
theorem dX10_way_1 : decode cX10_way 1 = .ok (.iload_n 2, 1) := by decide +kernel
theorem dX10_way_2 : decode cX10_way 2 = .ok (.invokestatic 208, 3) := by decide +kernel
theorem dX10_way_5 : decode cX10_way 5 = .ok (.ifCond .eq 7, 3) := by decide +kernel
theorem dX10_way_8 : decode cX10_way 8 = .ok (.iload_n 3, 1) := by decide +kernel
theorem dX10_way_9 : decode cX10_way 9 = .ok (.ifCond .ge 6, 3) := by decide +kernel
theorem dX10_way_12 : decode cX10_way 12 = .ok (.bipush (-3), 2) := by decide +kernel
theorem dX10_way_14 : decode cX10_way 14 = .ok (.ireturn, 1) := by decide +kernel
theorem dX10_way_15 : decode cX10_way 15 = .ok (.aload_n 0, 1) := by decide +kernel
theorem dX10_way_16 : decode cX10_way 16 = .ok (.getfield 50, 3) := by decide +kernel
theorem dX10_way_19 : decode cX10_way 19 = .ok (.iload_n 1, 1) := by decide +kernel
theorem dX10_way_20 : decode cX10_way 20 = .ok (.iload_n 2, 1) := by decide +kernel
theorem dX10_way_21 : decode cX10_way 21 = .ok (.invokevirtual 211, 3) := by decide +kernel
theorem dX10_way_24 : decode cX10_way 24 = .ok (.ifCond .ne 5, 3) := by decide +kernel
theorem dX10_way_27 : decode cX10_way 27 = .ok (.iconst (-1), 1) := by decide +kernel
theorem dX10_way_28 : decode cX10_way 28 = .ok (.ireturn, 1) := by decide +kernel
theorem dX10_way_29 : decode cX10_way 29 = .ok (.iload_n 3, 1) := by decide +kernel
theorem dX10_way_30 : decode cX10_way 30 = .ok (.ifCond .ne 11, 3) := by decide +kernel
theorem dX10_way_33 : decode cX10_way 33 = .ok (.aload_n 0, 1) := by decide +kernel
theorem dX10_way_34 : decode cX10_way 34 = .ok (.getfield 50, 3) := by decide +kernel
theorem dX10_way_37 : decode cX10_way 37 = .ok (.getfield 213, 3) := by decide +kernel
theorem dX10_way_40 : decode cX10_way 40 = .ok (.ireturn, 1) := by decide +kernel
theorem dX10_way_41 : decode cX10_way 41 = .ok (.iload_n 3, 1) := by decide +kernel
theorem dX10_way_42 : decode cX10_way 42 = .ok (.iconst 1, 1) := by decide +kernel
theorem dX10_way_43 : decode cX10_way 43 = .ok (.if_icmp .ne 11, 3) := by decide +kernel
theorem dX10_way_46 : decode cX10_way 46 = .ok (.aload_n 0, 1) := by decide +kernel
theorem dX10_way_47 : decode cX10_way 47 = .ok (.getfield 50, 3) := by decide +kernel
theorem dX10_way_50 : decode cX10_way 50 = .ok (.getfield 214, 3) := by decide +kernel
theorem dX10_way_53 : decode cX10_way 53 = .ok (.ireturn, 1) := by decide +kernel
theorem dX10_way_54 : decode cX10_way 54 = .ok (.iload_n 3, 1) := by decide +kernel
theorem dX10_way_55 : decode cX10_way 55 = .ok (.iconst 2, 1) := by decide +kernel
theorem dX10_way_56 : decode cX10_way 56 = .ok (.isub, 1) := by decide +kernel
theorem dX10_way_57 : decode cX10_way 57 = .ok (.aload_n 0, 1) := by decide +kernel
theorem dX10_way_58 : decode cX10_way 58 = .ok (.getfield 50, 3) := by decide +kernel
theorem dX10_way_61 : decode cX10_way 61 = .ok (.getfield 214, 3) := by decide +kernel
theorem dX10_way_64 : decode cX10_way 64 = .ok (.if_icmp .ge 17, 3) := by decide +kernel
theorem dX10_way_67 : decode cX10_way 67 = .ok (.aload_n 0, 1) := by decide +kernel
theorem dX10_way_68 : decode cX10_way 68 = .ok (.getfield 50, 3) := by decide +kernel
theorem dX10_way_71 : decode cX10_way 71 = .ok (.getfield 217, 3) := by decide +kernel
theorem dX10_way_74 : decode cX10_way 74 = .ok (.iload_n 3, 1) := by decide +kernel
theorem dX10_way_75 : decode cX10_way 75 = .ok (.iconst 2, 1) := by decide +kernel
theorem dX10_way_76 : decode cX10_way 76 = .ok (.isub, 1) := by decide +kernel
theorem dX10_way_77 : decode cX10_way 77 = .ok (.iaload, 1) := by decide +kernel
theorem dX10_way_78 : decode cX10_way 78 = .ok (.goto 4, 3) := by decide +kernel
theorem dX10_way_81 : decode cX10_way 81 = .ok (.iconst (-1), 1) := by decide +kernel
theorem dX10_way_82 : decode cX10_way 82 = .ok (.ireturn, 1) := by decide +kernel
theorem dX10_object_0 : decode cX10_object 0 = .ok (.iload_n 1, 1) := by decide +kernel
theorem dX10_object_1 : decode cX10_object 1 = .ok (.iconst 0, 1) := by decide +kernel
theorem dX10_object_2 : decode cX10_object 2 = .ok (.bipush 9, 2) := by decide +kernel
theorem dX10_object_4 : decode cX10_object 4 = .ok (.invokestatic 82, 3) := by decide +kernel
theorem dX10_object_7 : decode cX10_object 7 = .ok (.ifCond .ne 6, 3) := by decide +kernel
theorem dX10_object_10 : decode cX10_object 10 = .ok (.bipush (-3), 2) := by decide +kernel
theorem dX10_object_12 : decode cX10_object 12 = .ok (.ireturn, 1) := by decide +kernel
theorem dX10_object_13 : decode cX10_object 13 = .ok (.aload_n 0, 1) := by decide +kernel
theorem dX10_object_14 : decode cX10_object 14 = .ok (.getfield 57, 3) := by decide +kernel
theorem dX10_object_17 : decode cX10_object 17 = .ok (.getfield 220, 3) := by decide +kernel
theorem dX10_object_20 : decode cX10_object 20 = .ok (.bipush 20, 2) := by decide +kernel
theorem dX10_object_22 : decode cX10_object 22 = .ok (.if_icmp .lt 8, 3) := by decide +kernel
theorem dX10_object_25 : decode cX10_object 25 = .ok (.bipush (-5), 2) := by decide +kernel
theorem dX10_object_27 : decode cX10_object 27 = .ok (.goto 11, 3) := by decide +kernel
theorem dX10_object_30 : decode cX10_object 30 = .ok (.aload_n 0, 1) := by decide +kernel
theorem dX10_object_31 : decode cX10_object 31 = .ok (.getfield 57, 3) := by decide +kernel
theorem dX10_object_34 : decode cX10_object 34 = .ok (.iload_n 1, 1) := by decide +kernel
theorem dX10_object_35 : decode cX10_object 35 = .ok (.invokevirtual 221, 3) := by decide +kernel
theorem dX10_object_38 : decode cX10_object 38 = .ok (.ireturn, 1) := by decide +kernel
theorem dX10_put_0 : decode cX10_put 0 = .ok (.aload_n 0, 1) := by decide +kernel
theorem dX10_put_1 : decode cX10_put 1 = .ok (.getfield 57, 3) := by decide +kernel
theorem dX10_put_4 : decode cX10_put 4 = .ok (.iload_n 1, 1) := by decide +kernel
theorem dX10_put_5 : decode cX10_put 5 = .ok (.invokevirtual 224, 3) := by decide +kernel
theorem dX10_put_8 : decode cX10_put 8 = .ok (.ifCond .ne 6, 3) := by decide +kernel
theorem dX10_put_11 : decode cX10_put 11 = .ok (.bipush (-2), 2) := by decide +kernel
theorem dX10_put_13 : decode cX10_put 13 = .ok (.ireturn, 1) := by decide +kernel
theorem dX10_put_14 : decode cX10_put 14 = .ok (.iload_n 2, 1) := by decide +kernel
theorem dX10_put_15 : decode cX10_put 15 = .ok (.iconst 0, 1) := by decide +kernel
theorem dX10_put_16 : decode cX10_put 16 = .ok (.iconst 2, 1) := by decide +kernel
theorem dX10_put_17 : decode cX10_put 17 = .ok (.invokestatic 82, 3) := by decide +kernel
theorem dX10_put_20 : decode cX10_put 20 = .ok (.ifCond .ne 6, 3) := by decide +kernel
theorem dX10_put_23 : decode cX10_put 23 = .ok (.bipush (-3), 2) := by decide +kernel
theorem dX10_put_25 : decode cX10_put 25 = .ok (.ireturn, 1) := by decide +kernel
theorem dX10_put_26 : decode cX10_put 26 = .ok (.aload_n 0, 1) := by decide +kernel
theorem dX10_put_27 : decode cX10_put 27 = .ok (.getfield 57, 3) := by decide +kernel
theorem dX10_put_30 : decode cX10_put 30 = .ok (.getfield 225, 3) := by decide +kernel
theorem dX10_put_33 : decode cX10_put 33 = .ok (.iload_n 1, 1) := by decide +kernel
theorem dX10_put_34 : decode cX10_put 34 = .ok (.iconst 3, 1) := by decide +kernel
theorem dX10_put_35 : decode cX10_put 35 = .ok (.imul, 1) := by decide +kernel
theorem dX10_put_36 : decode cX10_put 36 = .ok (.iload_n 2, 1) := by decide +kernel
theorem dX10_put_37 : decode cX10_put 37 = .ok (.iadd, 1) := by decide +kernel
theorem dX10_put_38 : decode cX10_put 38 = .ok (.lload_n 3, 1) := by decide +kernel
theorem dX10_put_39 : decode cX10_put 39 = .ok (.lastore, 1) := by decide +kernel
theorem dX10_put_40 : decode cX10_put 40 = .ok (.iconst 0, 1) := by decide +kernel
theorem dX10_put_41 : decode cX10_put 41 = .ok (.ireturn, 1) := by decide +kernel
theorem dX10_field_0 : decode cX10_field 0 = .ok (.aload_n 0, 1) := by decide +kernel
theorem dX10_field_1 : decode cX10_field 1 = .ok (.getfield 57, 3) := by decide +kernel
theorem dX10_field_4 : decode cX10_field 4 = .ok (.iload_n 1, 1) := by decide +kernel
theorem dX10_field_5 : decode cX10_field 5 = .ok (.invokevirtual 224, 3) := by decide +kernel
theorem dX10_field_8 : decode cX10_field 8 = .ok (.ifCond .eq 12, 3) := by decide +kernel
theorem dX10_field_11 : decode cX10_field 11 = .ok (.iload_n 2, 1) := by decide +kernel
theorem dX10_field_12 : decode cX10_field 12 = .ok (.iconst 0, 1) := by decide +kernel
theorem dX10_field_13 : decode cX10_field 13 = .ok (.iconst 2, 1) := by decide +kernel
theorem dX10_field_14 : decode cX10_field 14 = .ok (.invokestatic 82, 3) := by decide +kernel
theorem dX10_field_17 : decode cX10_field 17 = .ok (.ifCond .ne 5, 3) := by decide +kernel
theorem dX10_field_20 : decode cX10_field 20 = .ok (.lconst 0, 1) := by decide +kernel
theorem dX10_field_21 : decode cX10_field 21 = .ok (.lreturn, 1) := by decide +kernel
theorem dX10_field_22 : decode cX10_field 22 = .ok (.aload_n 0, 1) := by decide +kernel
theorem dX10_field_23 : decode cX10_field 23 = .ok (.getfield 57, 3) := by decide +kernel
theorem dX10_field_26 : decode cX10_field 26 = .ok (.getfield 225, 3) := by decide +kernel
theorem dX10_field_29 : decode cX10_field 29 = .ok (.iload_n 1, 1) := by decide +kernel
theorem dX10_field_30 : decode cX10_field 30 = .ok (.iconst 3, 1) := by decide +kernel
theorem dX10_field_31 : decode cX10_field 31 = .ok (.imul, 1) := by decide +kernel
theorem dX10_field_32 : decode cX10_field 32 = .ok (.iload_n 2, 1) := by decide +kernel
theorem dX10_field_33 : decode cX10_field 33 = .ok (.iadd, 1) := by decide +kernel
theorem dX10_field_34 : decode cX10_field 34 = .ok (.laload, 1) := by decide +kernel
theorem dX10_field_35 : decode cX10_field 35 = .ok (.lreturn, 1) := by decide +kernel
theorem dX10_hand_0 : decode cX10_hand 0 = .ok (.iload_n 1, 1) := by decide +kernel
theorem dX10_hand_1 : decode cX10_hand 1 = .ok (.iconst 0, 1) := by decide +kernel
theorem dX10_hand_2 : decode cX10_hand 2 = .ok (.iconst 3, 1) := by decide +kernel
theorem dX10_hand_3 : decode cX10_hand 3 = .ok (.invokestatic 82, 3) := by decide +kernel
theorem dX10_hand_6 : decode cX10_hand 6 = .ok (.ifCond .ne 6, 3) := by decide +kernel
theorem dX10_hand_9 : decode cX10_hand 9 = .ok (.bipush (-3), 2) := by decide +kernel
theorem dX10_hand_11 : decode cX10_hand 11 = .ok (.ireturn, 1) := by decide +kernel
theorem dX10_hand_12 : decode cX10_hand 12 = .ok (.aload_n 0, 1) := by decide +kernel
theorem dX10_hand_13 : decode cX10_hand 13 = .ok (.getfield 73, 3) := by decide +kernel
theorem dX10_hand_16 : decode cX10_hand 16 = .ok (.getfield 228, 3) := by decide +kernel
theorem dX10_hand_19 : decode cX10_hand 19 = .ok (.iload_n 1, 1) := by decide +kernel
theorem dX10_hand_20 : decode cX10_hand 20 = .ok (.lload_n 2, 1) := by decide +kernel
theorem dX10_hand_21 : decode cX10_hand 21 = .ok (.lastore, 1) := by decide +kernel
theorem dX10_hand_22 : decode cX10_hand 22 = .ok (.iconst 0, 1) := by decide +kernel
theorem dX10_hand_23 : decode cX10_hand 23 = .ok (.ireturn, 1) := by decide +kernel
theorem dX10_call_0 : decode cX10_call 0 = .ok (.aload_n 0, 1) := by decide +kernel
theorem dX10_call_1 : decode cX10_call 1 = .ok (.getfield 57, 3) := by decide +kernel
theorem dX10_call_4 : decode cX10_call 4 = .ok (.iload_n 1, 1) := by decide +kernel
theorem dX10_call_5 : decode cX10_call 5 = .ok (.invokevirtual 224, 3) := by decide +kernel
theorem dX10_call_8 : decode cX10_call 8 = .ok (.ifCond .ne 6, 3) := by decide +kernel
theorem dX10_call_11 : decode cX10_call 11 = .ok (.bipush (-2), 2) := by decide +kernel
theorem dX10_call_13 : decode cX10_call 13 = .ok (.ireturn, 1) := by decide +kernel
theorem dX10_call_14 : decode cX10_call 14 = .ok (.iload_n 2, 1) := by decide +kernel
theorem dX10_call_15 : decode cX10_call 15 = .ok (.iconst 0, 1) := by decide +kernel
theorem dX10_call_16 : decode cX10_call 16 = .ok (.bipush 9, 2) := by decide +kernel
theorem dX10_call_18 : decode cX10_call 18 = .ok (.invokestatic 82, 3) := by decide +kernel
theorem dX10_call_21 : decode cX10_call 21 = .ok (.ifCond .ne 6, 3) := by decide +kernel
theorem dX10_call_24 : decode cX10_call 24 = .ok (.bipush (-3), 2) := by decide +kernel
theorem dX10_call_26 : decode cX10_call 26 = .ok (.ireturn, 1) := by decide +kernel
theorem dX10_call_27 : decode cX10_call 27 = .ok (.aload_n 0, 1) := by decide +kernel
theorem dX10_call_28 : decode cX10_call 28 = .ok (.getfield 41, 3) := by decide +kernel
theorem dX10_call_31 : decode cX10_call 31 = .ok (.bipush 10, 2) := by decide +kernel
theorem dX10_call_33 : decode cX10_call 33 = .ok (.iload_n 2, 1) := by decide +kernel
theorem dX10_call_34 : decode cX10_call 34 = .ok (.iadd, 1) := by decide +kernel
theorem dX10_call_35 : decode cX10_call 35 = .ok (.aaload, 1) := by decide +kernel
theorem dX10_call_36 : decode cX10_call 36 = .ok (.iload_n 3, 1) := by decide +kernel
theorem dX10_call_37 : decode cX10_call 37 = .ok (.invokevirtual 151, 3) := by decide +kernel
theorem dX10_call_40 : decode cX10_call 40 = .ok (.ifCond .ne 6, 3) := by decide +kernel
theorem dX10_call_43 : decode cX10_call 43 = .ok (.bipush (-2), 2) := by decide +kernel
theorem dX10_call_45 : decode cX10_call 45 = .ok (.ireturn, 1) := by decide +kernel
theorem dX10_call_46 : decode cX10_call 46 = .ok (.aload_n 0, 1) := by decide +kernel
theorem dX10_call_47 : decode cX10_call 47 = .ok (.getfield 73, 3) := by decide +kernel
theorem dX10_call_50 : decode cX10_call 50 = .ok (.aload_n 0, 1) := by decide +kernel
theorem dX10_call_51 : decode cX10_call 51 = .ok (.getfield 41, 3) := by decide +kernel
theorem dX10_call_54 : decode cX10_call 54 = .ok (.bipush 10, 2) := by decide +kernel
theorem dX10_call_56 : decode cX10_call 56 = .ok (.iload_n 2, 1) := by decide +kernel
theorem dX10_call_57 : decode cX10_call 57 = .ok (.iadd, 1) := by decide +kernel
theorem dX10_call_58 : decode cX10_call 58 = .ok (.aaload, 1) := by decide +kernel
end
section
theorem dX10_call_59 : decode cX10_call 59 = .ok (.getfield 154, 3) := by decide +kernel
theorem dX10_call_62 : decode cX10_call 62 = .ok (.iload_n 3, 1) := by decide +kernel
theorem dX10_call_63 : decode cX10_call 63 = .ok (.aaload, 1) := by decide +kernel
theorem dX10_call_64 : decode cX10_call 64 = .ok (.invokevirtual 231, 3) := by decide +kernel
theorem dX10_call_67 : decode cX10_call 67 = .ok (.aload_n 0, 1) := by decide +kernel
theorem dX10_call_68 : decode cX10_call 68 = .ok (.iload_n 1, 1) := by decide +kernel
theorem dX10_call_69 : decode cX10_call 69 = .ok (.invokevirtual 235, 3) := by decide +kernel
theorem dX10_call_72 : decode cX10_call 72 = .ok (.ireturn, 1) := by decide +kernel
theorem dX10_through_0 : decode cX10_through 0 = .ok (.aload_n 0, 1) := by decide +kernel
theorem dX10_through_1 : decode cX10_through 1 = .ok (.getfield 57, 3) := by decide +kernel
theorem dX10_through_4 : decode cX10_through 4 = .ok (.iload_n 1, 1) := by decide +kernel
theorem dX10_through_5 : decode cX10_through 5 = .ok (.invokevirtual 224, 3) := by decide +kernel
theorem dX10_through_8 : decode cX10_through 8 = .ok (.ifCond .ne 6, 3) := by decide +kernel
theorem dX10_through_11 : decode cX10_through 11 = .ok (.bipush (-2), 2) := by decide +kernel
theorem dX10_through_13 : decode cX10_through 13 = .ok (.ireturn, 1) := by decide +kernel
theorem dX10_through_14 : decode cX10_through 14 = .ok (.iload_n 2, 1) := by decide +kernel
theorem dX10_through_15 : decode cX10_through 15 = .ok (.iload_n 3, 1) := by decide +kernel
theorem dX10_through_16 : decode cX10_through 16 = .ok (.invokestatic 208, 3) := by decide +kernel
theorem dX10_through_19 : decode cX10_through 19 = .ok (.ifCond .ne 6, 3) := by decide +kernel
theorem dX10_through_22 : decode cX10_through 22 = .ok (.bipush (-3), 2) := by decide +kernel
theorem dX10_through_24 : decode cX10_through 24 = .ok (.ireturn, 1) := by decide +kernel
theorem dX10_through_25 : decode cX10_through 25 = .ok (.aload_n 0, 1) := by decide +kernel
theorem dX10_through_26 : decode cX10_through 26 = .ok (.getfield 50, 3) := by decide +kernel
theorem dX10_through_29 : decode cX10_through 29 = .ok (.iload_n 2, 1) := by decide +kernel
theorem dX10_through_30 : decode cX10_through 30 = .ok (.iload_n 3, 1) := by decide +kernel
theorem dX10_through_31 : decode cX10_through 31 = .ok (.invokevirtual 211, 3) := by decide +kernel
theorem dX10_through_34 : decode cX10_through 34 = .ok (.ifCond .ne 5, 3) := by decide +kernel
theorem dX10_through_37 : decode cX10_through 37 = .ok (.iconst (-1), 1) := by decide +kernel
theorem dX10_through_38 : decode cX10_through 38 = .ok (.ireturn, 1) := by decide +kernel
theorem dX10_through_39 : decode cX10_through 39 = .ok (.aload_n 0, 1) := by decide +kernel
theorem dX10_through_40 : decode cX10_through 40 = .ok (.getfield 41, 3) := by decide +kernel
theorem dX10_through_43 : decode cX10_through 43 = .ok (.bipush 10, 2) := by decide +kernel
theorem dX10_through_45 : decode cX10_through 45 = .ok (.iload_n 3, 1) := by decide +kernel
theorem dX10_through_46 : decode cX10_through 46 = .ok (.iadd, 1) := by decide +kernel
theorem dX10_through_47 : decode cX10_through 47 = .ok (.aaload, 1) := by decide +kernel
theorem dX10_through_48 : decode cX10_through 48 = .ok (.iload 4, 2) := by decide +kernel
theorem dX10_through_50 : decode cX10_through 50 = .ok (.invokevirtual 151, 3) := by decide +kernel
theorem dX10_through_53 : decode cX10_through 53 = .ok (.ifCond .ne 6, 3) := by decide +kernel
theorem dX10_through_56 : decode cX10_through 56 = .ok (.bipush (-2), 2) := by decide +kernel
theorem dX10_through_58 : decode cX10_through 58 = .ok (.ireturn, 1) := by decide +kernel
theorem dX10_through_59 : decode cX10_through 59 = .ok (.aload_n 0, 1) := by decide +kernel
theorem dX10_through_60 : decode cX10_through 60 = .ok (.getfield 73, 3) := by decide +kernel
theorem dX10_through_63 : decode cX10_through 63 = .ok (.aload_n 0, 1) := by decide +kernel
theorem dX10_through_64 : decode cX10_through 64 = .ok (.getfield 41, 3) := by decide +kernel
theorem dX10_through_67 : decode cX10_through 67 = .ok (.bipush 10, 2) := by decide +kernel
theorem dX10_through_69 : decode cX10_through 69 = .ok (.iload_n 3, 1) := by decide +kernel
theorem dX10_through_70 : decode cX10_through 70 = .ok (.iadd, 1) := by decide +kernel
theorem dX10_through_71 : decode cX10_through 71 = .ok (.aaload, 1) := by decide +kernel
theorem dX10_through_72 : decode cX10_through 72 = .ok (.getfield 154, 3) := by decide +kernel
theorem dX10_through_75 : decode cX10_through 75 = .ok (.iload 4, 2) := by decide +kernel
theorem dX10_through_77 : decode cX10_through 77 = .ok (.aaload, 1) := by decide +kernel
theorem dX10_through_78 : decode cX10_through 78 = .ok (.invokevirtual 231, 3) := by decide +kernel
theorem dX10_through_81 : decode cX10_through 81 = .ok (.aload_n 0, 1) := by decide +kernel
theorem dX10_through_82 : decode cX10_through 82 = .ok (.getfield 50, 3) := by decide +kernel
theorem dX10_through_85 : decode cX10_through 85 = .ok (.getfield 214, 3) := by decide +kernel
theorem dX10_through_88 : decode cX10_through 88 = .ok (.iconst 2, 1) := by decide +kernel
theorem dX10_through_89 : decode cX10_through 89 = .ok (.isub, 1) := by decide +kernel
theorem dX10_through_90 : decode cX10_through 90 = .ok (.istore 5, 2) := by decide +kernel
theorem dX10_through_92 : decode cX10_through 92 = .ok (.iload 5, 2) := by decide +kernel
theorem dX10_through_94 : decode cX10_through 94 = .ok (.ifCond .lt 40, 3) := by decide +kernel
theorem dX10_through_97 : decode cX10_through 97 = .ok (.aload_n 0, 1) := by decide +kernel
theorem dX10_through_98 : decode cX10_through 98 = .ok (.getfield 73, 3) := by decide +kernel
theorem dX10_through_101 : decode cX10_through 101 = .ok (.aload_n 0, 1) := by decide +kernel
theorem dX10_through_102 : decode cX10_through 102 = .ok (.getfield 41, 3) := by decide +kernel
theorem dX10_through_105 : decode cX10_through 105 = .ok (.bipush 10, 2) := by decide +kernel
theorem dX10_through_107 : decode cX10_through 107 = .ok (.aload_n 0, 1) := by decide +kernel
theorem dX10_through_108 : decode cX10_through 108 = .ok (.getfield 50, 3) := by decide +kernel
theorem dX10_through_111 : decode cX10_through 111 = .ok (.getfield 217, 3) := by decide +kernel
theorem dX10_through_114 : decode cX10_through 114 = .ok (.iload 5, 2) := by decide +kernel
theorem dX10_through_116 : decode cX10_through 116 = .ok (.iaload, 1) := by decide +kernel
theorem dX10_through_117 : decode cX10_through 117 = .ok (.iadd, 1) := by decide +kernel
theorem dX10_through_118 : decode cX10_through 118 = .ok (.aaload, 1) := by decide +kernel
theorem dX10_through_119 : decode cX10_through 119 = .ok (.invokevirtual 238, 3) := by decide +kernel
theorem dX10_through_122 : decode cX10_through 122 = .ok (.ifCond .ne 6, 3) := by decide +kernel
theorem dX10_through_125 : decode cX10_through 125 = .ok (.bipush (-6), 2) := by decide +kernel
theorem dX10_through_127 : decode cX10_through 127 = .ok (.ireturn, 1) := by decide +kernel
theorem dX10_through_128 : decode cX10_through 128 = .ok (.iinc 5 (-1), 3) := by decide +kernel
theorem dX10_through_131 : decode cX10_through 131 = .ok (.goto (-39), 3) := by decide +kernel
theorem dX10_through_134 : decode cX10_through 134 = .ok (.aload_n 0, 1) := by decide +kernel
theorem dX10_through_135 : decode cX10_through 135 = .ok (.iload_n 1, 1) := by decide +kernel
theorem dX10_through_136 : decode cX10_through 136 = .ok (.invokevirtual 235, 3) := by decide +kernel
theorem dX10_through_139 : decode cX10_through 139 = .ok (.ireturn, 1) := by decide +kernel
theorem dX10_value_0 : decode cX10_value 0 = .ok (.aload_n 0, 1) := by decide +kernel
theorem dX10_value_1 : decode cX10_value 1 = .ok (.getfield 64, 3) := by decide +kernel
theorem dX10_value_4 : decode cX10_value 4 = .ok (.getfield 135, 3) := by decide +kernel
theorem dX10_value_7 : decode cX10_value 7 = .ok (.lreturn, 1) := by decide +kernel
theorem dX10_failed_0 : decode cX10_failed 0 = .ok (.aload_n 0, 1) := by decide +kernel
theorem dX10_failed_1 : decode cX10_failed 1 = .ok (.getfield 64, 3) := by decide +kernel
theorem dX10_failed_4 : decode cX10_failed 4 = .ok (.getfield 242, 3) := by decide +kernel
theorem dX10_failed_7 : decode cX10_failed 7 = .ok (.iconst (-1), 1) := by decide +kernel
theorem dX10_failed_8 : decode cX10_failed 8 = .ok (.if_icmp .ne 5, 3) := by decide +kernel
theorem dX10_failed_11 : decode cX10_failed 11 = .ok (.iconst (-1), 1) := by decide +kernel
theorem dX10_failed_12 : decode cX10_failed 12 = .ok (.ireturn, 1) := by decide +kernel
theorem dX10_failed_13 : decode cX10_failed 13 = .ok (.iload_n 1, 1) := by decide +kernel
theorem dX10_failed_14 : decode cX10_failed 14 = .ok (.iconst 0, 1) := by decide +kernel
theorem dX10_failed_15 : decode cX10_failed 15 = .ok (.iconst 1, 1) := by decide +kernel
theorem dX10_failed_16 : decode cX10_failed 16 = .ok (.invokestatic 82, 3) := by decide +kernel
theorem dX10_failed_19 : decode cX10_failed 19 = .ok (.ifCond .ne 6, 3) := by decide +kernel
theorem dX10_failed_22 : decode cX10_failed 22 = .ok (.bipush (-3), 2) := by decide +kernel
theorem dX10_failed_24 : decode cX10_failed 24 = .ok (.ireturn, 1) := by decide +kernel
theorem dX10_failed_25 : decode cX10_failed 25 = .ok (.iload_n 1, 1) := by decide +kernel
theorem dX10_failed_26 : decode cX10_failed 26 = .ok (.ifCond .ne 13, 3) := by decide +kernel
theorem dX10_failed_29 : decode cX10_failed 29 = .ok (.aload_n 0, 1) := by decide +kernel
theorem dX10_failed_30 : decode cX10_failed 30 = .ok (.getfield 64, 3) := by decide +kernel
theorem dX10_failed_33 : decode cX10_failed 33 = .ok (.getfield 242, 3) := by decide +kernel
theorem dX10_failed_36 : decode cX10_failed 36 = .ok (.goto 10, 3) := by decide +kernel
theorem dX10_failed_39 : decode cX10_failed 39 = .ok (.aload_n 0, 1) := by decide +kernel
theorem dX10_failed_40 : decode cX10_failed 40 = .ok (.getfield 64, 3) := by decide +kernel
theorem dX10_failed_43 : decode cX10_failed 43 = .ok (.getfield 245, 3) := by decide +kernel
theorem dX10_failed_46 : decode cX10_failed 46 = .ok (.ireturn, 1) := by decide +kernel
theorem dX10_count_0 : decode cX10_count 0 = .ok (.iload_n 1, 1) := by decide +kernel
theorem dX10_count_1 : decode cX10_count 1 = .ok (.tableswitch 112 0 7 #[47, 55, 63, 71, 79, 88, 96, 104], 47) := by decide +kernel
theorem dX10_count_48 : decode cX10_count 48 = .ok (.aload_n 0, 1) := by decide +kernel
theorem dX10_count_49 : decode cX10_count 49 = .ok (.getfield 12, 3) := by decide +kernel
theorem dX10_count_52 : decode cX10_count 52 = .ok (.getfield 248, 3) := by decide +kernel
theorem dX10_count_55 : decode cX10_count 55 = .ok (.ireturn, 1) := by decide +kernel
theorem dX10_count_56 : decode cX10_count 56 = .ok (.aload_n 0, 1) := by decide +kernel
theorem dX10_count_57 : decode cX10_count 57 = .ok (.getfield 57, 3) := by decide +kernel
theorem dX10_count_60 : decode cX10_count 60 = .ok (.getfield 220, 3) := by decide +kernel
theorem dX10_count_63 : decode cX10_count 63 = .ok (.ireturn, 1) := by decide +kernel
theorem dX10_count_64 : decode cX10_count 64 = .ok (.aload_n 0, 1) := by decide +kernel
theorem dX10_count_65 : decode cX10_count 65 = .ok (.getfield 19, 3) := by decide +kernel
theorem dX10_count_68 : decode cX10_count 68 = .ok (.getfield 251, 3) := by decide +kernel
theorem dX10_count_71 : decode cX10_count 71 = .ok (.ireturn, 1) := by decide +kernel
theorem dX10_count_72 : decode cX10_count 72 = .ok (.aload_n 0, 1) := by decide +kernel
theorem dX10_count_73 : decode cX10_count 73 = .ok (.getfield 26, 3) := by decide +kernel
theorem dX10_count_76 : decode cX10_count 76 = .ok (.invokevirtual 252, 3) := by decide +kernel
theorem dX10_count_79 : decode cX10_count 79 = .ok (.ireturn, 1) := by decide +kernel
theorem dX10_count_80 : decode cX10_count 80 = .ok (.aload_n 0, 1) := by decide +kernel
theorem dX10_count_81 : decode cX10_count 81 = .ok (.bipush 10, 2) := by decide +kernel
theorem dX10_count_83 : decode cX10_count 83 = .ok (.bipush 20, 2) := by decide +kernel
theorem dX10_count_85 : decode cX10_count 85 = .ok (.invokevirtual 255, 3) := by decide +kernel
theorem dX10_count_88 : decode cX10_count 88 = .ok (.ireturn, 1) := by decide +kernel
theorem dX10_count_89 : decode cX10_count 89 = .ok (.aload_n 0, 1) := by decide +kernel
theorem dX10_count_90 : decode cX10_count 90 = .ok (.iconst 0, 1) := by decide +kernel
theorem dX10_count_91 : decode cX10_count 91 = .ok (.bipush 10, 2) := by decide +kernel
theorem dX10_count_93 : decode cX10_count 93 = .ok (.invokevirtual 255, 3) := by decide +kernel
theorem dX10_count_96 : decode cX10_count 96 = .ok (.ireturn, 1) := by decide +kernel
theorem dX10_count_97 : decode cX10_count 97 = .ok (.aload_n 0, 1) := by decide +kernel
theorem dX10_count_98 : decode cX10_count 98 = .ok (.getfield 64, 3) := by decide +kernel
theorem dX10_count_101 : decode cX10_count 101 = .ok (.getfield 258, 3) := by decide +kernel
theorem dX10_count_104 : decode cX10_count 104 = .ok (.ireturn, 1) := by decide +kernel
theorem dX10_count_105 : decode cX10_count 105 = .ok (.aload_n 0, 1) := by decide +kernel
theorem dX10_count_106 : decode cX10_count 106 = .ok (.getfield 64, 3) := by decide +kernel
theorem dX10_count_109 : decode cX10_count 109 = .ok (.getfield 261, 3) := by decide +kernel
theorem dX10_count_112 : decode cX10_count 112 = .ok (.ireturn, 1) := by decide +kernel
theorem dX10_count_113 : decode cX10_count 113 = .ok (.bipush (-3), 2) := by decide +kernel
theorem dX10_count_115 : decode cX10_count 115 = .ok (.ireturn, 1) := by decide +kernel
theorem dX10_finish_0 : decode cX10_finish 0 = .ok (.aload_n 0, 1) := by decide +kernel
theorem dX10_finish_1 : decode cX10_finish 1 = .ok (.getfield 73, 3) := by decide +kernel
theorem dX10_finish_4 : decode cX10_finish 4 = .ok (.aload_n 0, 1) := by decide +kernel
theorem dX10_finish_5 : decode cX10_finish 5 = .ok (.getfield 41, 3) := by decide +kernel
theorem dX10_finish_8 : decode cX10_finish 8 = .ok (.aload_n 0, 1) := by decide +kernel
theorem dX10_finish_9 : decode cX10_finish 9 = .ok (.getfield 57, 3) := by decide +kernel
theorem dX10_finish_12 : decode cX10_finish 12 = .ok (.getfield 264, 3) := by decide +kernel
theorem dX10_finish_15 : decode cX10_finish 15 = .ok (.iload_n 1, 1) := by decide +kernel
theorem dX10_finish_16 : decode cX10_finish 16 = .ok (.iaload, 1) := by decide +kernel
theorem dX10_finish_17 : decode cX10_finish 17 = .ok (.aaload, 1) := by decide +kernel
theorem dX10_finish_18 : decode cX10_finish 18 = .ok (.invokevirtual 238, 3) := by decide +kernel
theorem dX10_finish_21 : decode cX10_finish 21 = .ok (.ifCond .ne 6, 3) := by decide +kernel
theorem dX10_finish_24 : decode cX10_finish 24 = .ok (.bipush (-6), 2) := by decide +kernel
theorem dX10_finish_26 : decode cX10_finish 26 = .ok (.ireturn, 1) := by decide +kernel
theorem dX10_finish_27 : decode cX10_finish 27 = .ok (.aload_n 0, 1) := by decide +kernel
theorem dX10_finish_28 : decode cX10_finish 28 = .ok (.getfield 73, 3) := by decide +kernel
theorem dX10_finish_31 : decode cX10_finish 31 = .ok (.aload_n 0, 1) := by decide +kernel
theorem dX10_finish_32 : decode cX10_finish 32 = .ok (.getfield 57, 3) := by decide +kernel
theorem dX10_finish_35 : decode cX10_finish 35 = .ok (.getfield 225, 3) := by decide +kernel
theorem dX10_finish_38 : decode cX10_finish 38 = .ok (.iload_n 1, 1) := by decide +kernel
theorem dX10_finish_39 : decode cX10_finish 39 = .ok (.iconst 3, 1) := by decide +kernel
theorem dX10_finish_40 : decode cX10_finish 40 = .ok (.imul, 1) := by decide +kernel
theorem dX10_finish_41 : decode cX10_finish 41 = .ok (.invokevirtual 267, 3) := by decide +kernel
theorem dX10_finish_44 : decode cX10_finish 44 = .ok (.ifCond .eq 7, 3) := by decide +kernel
theorem dX10_finish_47 : decode cX10_finish 47 = .ok (.iconst 0, 1) := by decide +kernel
theorem dX10_finish_48 : decode cX10_finish 48 = .ok (.goto 5, 3) := by decide +kernel
theorem dX10_finish_51 : decode cX10_finish 51 = .ok (.bipush (-7), 2) := by decide +kernel
theorem dX10_finish_53 : decode cX10_finish 53 = .ok (.ireturn, 1) := by decide +kernel
theorem dX10_membersOf_0 : decode cX10_membersOf 0 = .ok (.iconst 0, 1) := by decide +kernel
theorem dX10_membersOf_1 : decode cX10_membersOf 1 = .ok (.istore_n 3, 1) := by decide +kernel
theorem dX10_membersOf_2 : decode cX10_membersOf 2 = .ok (.iload_n 1, 1) := by decide +kernel
theorem dX10_membersOf_3 : decode cX10_membersOf 3 = .ok (.istore 4, 2) := by decide +kernel
theorem dX10_membersOf_5 : decode cX10_membersOf 5 = .ok (.iload 4, 2) := by decide +kernel
theorem dX10_membersOf_7 : decode cX10_membersOf 7 = .ok (.iload_n 2, 1) := by decide +kernel
theorem dX10_membersOf_8 : decode cX10_membersOf 8 = .ok (.if_icmp .ge 22, 3) := by decide +kernel
theorem dX10_membersOf_11 : decode cX10_membersOf 11 = .ok (.iload_n 3, 1) := by decide +kernel
theorem dX10_membersOf_12 : decode cX10_membersOf 12 = .ok (.aload_n 0, 1) := by decide +kernel
theorem dX10_membersOf_13 : decode cX10_membersOf 13 = .ok (.getfield 41, 3) := by decide +kernel
theorem dX10_membersOf_16 : decode cX10_membersOf 16 = .ok (.iload 4, 2) := by decide +kernel
theorem dX10_membersOf_18 : decode cX10_membersOf 18 = .ok (.aaload, 1) := by decide +kernel
theorem dX10_membersOf_19 : decode cX10_membersOf 19 = .ok (.getfield 142, 3) := by decide +kernel
theorem dX10_membersOf_22 : decode cX10_membersOf 22 = .ok (.iadd, 1) := by decide +kernel
theorem dX10_membersOf_23 : decode cX10_membersOf 23 = .ok (.istore_n 3, 1) := by decide +kernel
theorem dX10_membersOf_24 : decode cX10_membersOf 24 = .ok (.iinc 4 1, 3) := by decide +kernel
theorem dX10_membersOf_27 : decode cX10_membersOf 27 = .ok (.goto (-22), 3) := by decide +kernel
theorem dX10_membersOf_30 : decode cX10_membersOf 30 = .ok (.iload_n 3, 1) := by decide +kernel
theorem dX10_membersOf_31 : decode cX10_membersOf 31 = .ok (.ireturn, 1) := by decide +kernel
theorem dX10_isWithin_0 : decode cX10_isWithin 0 = .ok (.iload_n 0, 1) := by decide +kernel
theorem dX10_isWithin_1 : decode cX10_isWithin 1 = .ok (.iload_n 1, 1) := by decide +kernel
theorem dX10_isWithin_2 : decode cX10_isWithin 2 = .ok (.if_icmp .lt 12, 3) := by decide +kernel
theorem dX10_isWithin_5 : decode cX10_isWithin 5 = .ok (.iload_n 0, 1) := by decide +kernel
theorem dX10_isWithin_6 : decode cX10_isWithin 6 = .ok (.iload_n 2, 1) := by decide +kernel
theorem dX10_isWithin_7 : decode cX10_isWithin 7 = .ok (.if_icmp .gt 7, 3) := by decide +kernel
theorem dX10_isWithin_10 : decode cX10_isWithin 10 = .ok (.iconst 1, 1) := by decide +kernel
theorem dX10_isWithin_11 : decode cX10_isWithin 11 = .ok (.goto 4, 3) := by decide +kernel
theorem dX10_isWithin_14 : decode cX10_isWithin 14 = .ok (.iconst 0, 1) := by decide +kernel
theorem dX10_isWithin_15 : decode cX10_isWithin 15 = .ok (.ireturn, 1) := by decide +kernel
theorem dX10_isSort_0 : decode cX10_isSort 0 = .ok (.iload_n 0, 1) := by decide +kernel
theorem dX10_isSort_1 : decode cX10_isSort 1 = .ok (.iconst 0, 1) := by decide +kernel
theorem dX10_isSort_2 : decode cX10_isSort 2 = .ok (.bipush 6, 2) := by decide +kernel
theorem dX10_isSort_4 : decode cX10_isSort 4 = .ok (.invokestatic 82, 3) := by decide +kernel
theorem dX10_isSort_7 : decode cX10_isSort 7 = .ok (.ireturn, 1) := by decide +kernel
theorem dX10_isName_0 : decode cX10_isName 0 = .ok (.iload_n 0, 1) := by decide +kernel
theorem dX10_isName_1 : decode cX10_isName 1 = .ok (.iconst 0, 1) := by decide +kernel
theorem dX10_isName_2 : decode cX10_isName 2 = .ok (.bipush 99, 2) := by decide +kernel
theorem dX10_isName_4 : decode cX10_isName 4 = .ok (.invokestatic 82, 3) := by decide +kernel
theorem dX10_isName_7 : decode cX10_isName 7 = .ok (.ireturn, 1) := by decide +kernel
theorem dX10_areFaces_0 : decode cX10_areFaces 0 = .ok (.iload_n 0, 1) := by decide +kernel
theorem dX10_areFaces_1 : decode cX10_areFaces 1 = .ok (.iconst 0, 1) := by decide +kernel
theorem dX10_areFaces_2 : decode cX10_areFaces 2 = .ok (.bipush 9, 2) := by decide +kernel
theorem dX10_areFaces_4 : decode cX10_areFaces 4 = .ok (.invokestatic 82, 3) := by decide +kernel
theorem dX10_areFaces_7 : decode cX10_areFaces 7 = .ok (.ifCond .eq 17, 3) := by decide +kernel
theorem dX10_areFaces_10 : decode cX10_areFaces 10 = .ok (.iload_n 1, 1) := by decide +kernel
theorem dX10_areFaces_11 : decode cX10_areFaces 11 = .ok (.iconst 0, 1) := by decide +kernel
theorem dX10_areFaces_12 : decode cX10_areFaces 12 = .ok (.bipush 9, 2) := by decide +kernel
theorem dX10_areFaces_14 : decode cX10_areFaces 14 = .ok (.invokestatic 82, 3) := by decide +kernel
theorem dX10_areFaces_17 : decode cX10_areFaces 17 = .ok (.ifCond .eq 7, 3) := by decide +kernel
theorem dX10_areFaces_20 : decode cX10_areFaces 20 = .ok (.iconst 1, 1) := by decide +kernel
theorem dX10_areFaces_21 : decode cX10_areFaces 21 = .ok (.goto 4, 3) := by decide +kernel
theorem dX10_areFaces_24 : decode cX10_areFaces 24 = .ok (.iconst 0, 1) := by decide +kernel
theorem dX10_areFaces_25 : decode cX10_areFaces 25 = .ok (.ireturn, 1) := by decide +kernel
theorem dX10_areFaceAndShape_0 : decode cX10_areFaceAndShape 0 = .ok (.iload_n 0, 1) := by decide +kernel
theorem dX10_areFaceAndShape_1 : decode cX10_areFaceAndShape 1 = .ok (.iconst 0, 1) := by decide +kernel
theorem dX10_areFaceAndShape_2 : decode cX10_areFaceAndShape 2 = .ok (.bipush 9, 2) := by decide +kernel
theorem dX10_areFaceAndShape_4 : decode cX10_areFaceAndShape 4 = .ok (.invokestatic 82, 3) := by decide +kernel
theorem dX10_areFaceAndShape_7 : decode cX10_areFaceAndShape 7 = .ok (.ifCond .eq 17, 3) := by decide +kernel
theorem dX10_areFaceAndShape_10 : decode cX10_areFaceAndShape 10 = .ok (.iload_n 1, 1) := by decide +kernel
theorem dX10_areFaceAndShape_11 : decode cX10_areFaceAndShape 11 = .ok (.iconst 0, 1) := by decide +kernel
theorem dX10_areFaceAndShape_12 : decode cX10_areFaceAndShape 12 = .ok (.bipush 19, 2) := by decide +kernel
theorem dX10_areFaceAndShape_14 : decode cX10_areFaceAndShape 14 = .ok (.invokestatic 82, 3) := by decide +kernel
theorem dX10_areFaceAndShape_17 : decode cX10_areFaceAndShape 17 = .ok (.ifCond .eq 7, 3) := by decide +kernel
theorem dX10_areFaceAndShape_20 : decode cX10_areFaceAndShape 20 = .ok (.iconst 1, 1) := by decide +kernel
theorem dX10_areFaceAndShape_21 : decode cX10_areFaceAndShape 21 = .ok (.goto 4, 3) := by decide +kernel
theorem dX10_areFaceAndShape_24 : decode cX10_areFaceAndShape 24 = .ok (.iconst 0, 1) := by decide +kernel
theorem dX10_areFaceAndShape_25 : decode cX10_areFaceAndShape 25 = .ok (.ireturn, 1) := by decide +kernel
theorem dX10_areSorts_0 : decode cX10_areSorts 0 = .ok (.iload_n 0, 1) := by decide +kernel
theorem dX10_areSorts_1 : decode cX10_areSorts 1 = .ok (.ifCond .lt 12, 3) := by decide +kernel
theorem dX10_areSorts_4 : decode cX10_areSorts 4 = .ok (.iload_n 0, 1) := by decide +kernel
theorem dX10_areSorts_5 : decode cX10_areSorts 5 = .ok (.bipush 7, 2) := by decide +kernel
theorem dX10_areSorts_7 : decode cX10_areSorts 7 = .ok (.iand, 1) := by decide +kernel
theorem dX10_areSorts_8 : decode cX10_areSorts 8 = .ok (.bipush 7, 2) := by decide +kernel
theorem dX10_areSorts_10 : decode cX10_areSorts 10 = .ok (.if_icmp .lt 5, 3) := by decide +kernel
theorem dX10_areSorts_13 : decode cX10_areSorts 13 = .ok (.iconst 0, 1) := by decide +kernel
theorem dX10_areSorts_14 : decode cX10_areSorts 14 = .ok (.ireturn, 1) := by decide +kernel
theorem dX10_areSorts_15 : decode cX10_areSorts 15 = .ok (.iload_n 0, 1) := by decide +kernel
theorem dX10_areSorts_16 : decode cX10_areSorts 16 = .ok (.iconst 3, 1) := by decide +kernel
theorem dX10_areSorts_17 : decode cX10_areSorts 17 = .ok (.ishr, 1) := by decide +kernel
theorem dX10_areSorts_18 : decode cX10_areSorts 18 = .ok (.istore_n 1, 1) := by decide +kernel
theorem dX10_areSorts_19 : decode cX10_areSorts 19 = .ok (.iconst 0, 1) := by decide +kernel
theorem dX10_areSorts_20 : decode cX10_areSorts 20 = .ok (.istore_n 2, 1) := by decide +kernel
theorem dX10_areSorts_21 : decode cX10_areSorts 21 = .ok (.iload_n 2, 1) := by decide +kernel
theorem dX10_areSorts_22 : decode cX10_areSorts 22 = .ok (.iconst 4, 1) := by decide +kernel
theorem dX10_areSorts_23 : decode cX10_areSorts 23 = .ok (.if_icmp .ge 20, 3) := by decide +kernel
theorem dX10_areSorts_26 : decode cX10_areSorts 26 = .ok (.iload_n 1, 1) := by decide +kernel
theorem dX10_areSorts_27 : decode cX10_areSorts 27 = .ok (.bipush 7, 2) := by decide +kernel
theorem dX10_areSorts_29 : decode cX10_areSorts 29 = .ok (.iand, 1) := by decide +kernel
theorem dX10_areSorts_30 : decode cX10_areSorts 30 = .ok (.ifCond .eq 13, 3) := by decide +kernel
theorem dX10_areSorts_33 : decode cX10_areSorts 33 = .ok (.iload_n 1, 1) := by decide +kernel
theorem dX10_areSorts_34 : decode cX10_areSorts 34 = .ok (.iconst 3, 1) := by decide +kernel
theorem dX10_areSorts_35 : decode cX10_areSorts 35 = .ok (.ishr, 1) := by decide +kernel
theorem dX10_areSorts_36 : decode cX10_areSorts 36 = .ok (.istore_n 1, 1) := by decide +kernel
theorem dX10_areSorts_37 : decode cX10_areSorts 37 = .ok (.iinc 2 1, 3) := by decide +kernel
theorem dX10_areSorts_40 : decode cX10_areSorts 40 = .ok (.goto (-19), 3) := by decide +kernel
theorem dX10_areSorts_43 : decode cX10_areSorts 43 = .ok (.iload_n 1, 1) := by decide +kernel
theorem dX10_areSorts_44 : decode cX10_areSorts 44 = .ok (.ifCond .ne 7, 3) := by decide +kernel
theorem dX10_areSorts_47 : decode cX10_areSorts 47 = .ok (.iconst 1, 1) := by decide +kernel
theorem dX10_areSorts_48 : decode cX10_areSorts 48 = .ok (.goto 4, 3) := by decide +kernel
theorem dX10_areSorts_51 : decode cX10_areSorts 51 = .ok (.iconst 0, 1) := by decide +kernel
theorem dX10_areSorts_52 : decode cX10_areSorts 52 = .ok (.ireturn, 1) := by decide +kernel
theorem dX10_isOf_0 : decode cX10_isOf 0 = .ok (.iload_n 0, 1) := by decide +kernel
theorem dX10_isOf_1 : decode cX10_isOf 1 = .ok (.tableswitch 147 0 6 #[43, 65, 87, 147, 109, 147, 127], 43) := by decide +kernel
theorem dX10_isOf_44 : decode cX10_isOf 44 = .ok (.lload_n 1, 1) := by decide +kernel
theorem dX10_isOf_45 : decode cX10_isOf 45 = .ok (.ldc2_w 271, 3) := by decide +kernel
theorem dX10_isOf_48 : decode cX10_isOf 48 = .ok (.lcmp, 1) := by decide +kernel
theorem dX10_isOf_49 : decode cX10_isOf 49 = .ok (.ifCond .lt 15, 3) := by decide +kernel
theorem dX10_isOf_52 : decode cX10_isOf 52 = .ok (.lload_n 1, 1) := by decide +kernel
theorem dX10_isOf_53 : decode cX10_isOf 53 = .ok (.ldc2_w 273, 3) := by decide +kernel
theorem dX10_isOf_56 : decode cX10_isOf 56 = .ok (.lcmp, 1) := by decide +kernel
theorem dX10_isOf_57 : decode cX10_isOf 57 = .ok (.ifCond .gt 7, 3) := by decide +kernel
theorem dX10_isOf_60 : decode cX10_isOf 60 = .ok (.iconst 1, 1) := by decide +kernel
theorem dX10_isOf_61 : decode cX10_isOf 61 = .ok (.goto 4, 3) := by decide +kernel
theorem dX10_isOf_64 : decode cX10_isOf 64 = .ok (.iconst 0, 1) := by decide +kernel
theorem dX10_isOf_65 : decode cX10_isOf 65 = .ok (.ireturn, 1) := by decide +kernel
theorem dX10_isOf_66 : decode cX10_isOf 66 = .ok (.lload_n 1, 1) := by decide +kernel
theorem dX10_isOf_67 : decode cX10_isOf 67 = .ok (.ldc2_w 275, 3) := by decide +kernel
theorem dX10_isOf_70 : decode cX10_isOf 70 = .ok (.lcmp, 1) := by decide +kernel
theorem dX10_isOf_71 : decode cX10_isOf 71 = .ok (.ifCond .lt 15, 3) := by decide +kernel
theorem dX10_isOf_74 : decode cX10_isOf 74 = .ok (.lload_n 1, 1) := by decide +kernel
theorem dX10_isOf_75 : decode cX10_isOf 75 = .ok (.ldc2_w 277, 3) := by decide +kernel
theorem dX10_isOf_78 : decode cX10_isOf 78 = .ok (.lcmp, 1) := by decide +kernel
theorem dX10_isOf_79 : decode cX10_isOf 79 = .ok (.ifCond .gt 7, 3) := by decide +kernel
theorem dX10_isOf_82 : decode cX10_isOf 82 = .ok (.iconst 1, 1) := by decide +kernel
theorem dX10_isOf_83 : decode cX10_isOf 83 = .ok (.goto 4, 3) := by decide +kernel
theorem dX10_isOf_86 : decode cX10_isOf 86 = .ok (.iconst 0, 1) := by decide +kernel
theorem dX10_isOf_87 : decode cX10_isOf 87 = .ok (.ireturn, 1) := by decide +kernel
theorem dX10_isOf_88 : decode cX10_isOf 88 = .ok (.lload_n 1, 1) := by decide +kernel
theorem dX10_isOf_89 : decode cX10_isOf 89 = .ok (.ldc2_w 279, 3) := by decide +kernel
theorem dX10_isOf_92 : decode cX10_isOf 92 = .ok (.lcmp, 1) := by decide +kernel
theorem dX10_isOf_93 : decode cX10_isOf 93 = .ok (.ifCond .lt 15, 3) := by decide +kernel
theorem dX10_isOf_96 : decode cX10_isOf 96 = .ok (.lload_n 1, 1) := by decide +kernel
theorem dX10_isOf_97 : decode cX10_isOf 97 = .ok (.ldc2_w 281, 3) := by decide +kernel
theorem dX10_isOf_100 : decode cX10_isOf 100 = .ok (.lcmp, 1) := by decide +kernel
theorem dX10_isOf_101 : decode cX10_isOf 101 = .ok (.ifCond .gt 7, 3) := by decide +kernel
theorem dX10_isOf_104 : decode cX10_isOf 104 = .ok (.iconst 1, 1) := by decide +kernel
theorem dX10_isOf_105 : decode cX10_isOf 105 = .ok (.goto 4, 3) := by decide +kernel
theorem dX10_isOf_108 : decode cX10_isOf 108 = .ok (.iconst 0, 1) := by decide +kernel
theorem dX10_isOf_109 : decode cX10_isOf 109 = .ok (.ireturn, 1) := by decide +kernel
theorem dX10_isOf_110 : decode cX10_isOf 110 = .ok (.lload_n 1, 1) := by decide +kernel
theorem dX10_isOf_111 : decode cX10_isOf 111 = .ok (.lconst 0, 1) := by decide +kernel
theorem dX10_isOf_112 : decode cX10_isOf 112 = .ok (.lcmp, 1) := by decide +kernel
theorem dX10_isOf_113 : decode cX10_isOf 113 = .ok (.ifCond .eq 9, 3) := by decide +kernel
theorem dX10_isOf_116 : decode cX10_isOf 116 = .ok (.lload_n 1, 1) := by decide +kernel
theorem dX10_isOf_117 : decode cX10_isOf 117 = .ok (.lconst 1, 1) := by decide +kernel
theorem dX10_isOf_118 : decode cX10_isOf 118 = .ok (.lcmp, 1) := by decide +kernel
theorem dX10_isOf_119 : decode cX10_isOf 119 = .ok (.ifCond .ne 7, 3) := by decide +kernel
theorem dX10_isOf_122 : decode cX10_isOf 122 = .ok (.iconst 1, 1) := by decide +kernel
theorem dX10_isOf_123 : decode cX10_isOf 123 = .ok (.goto 4, 3) := by decide +kernel
theorem dX10_isOf_126 : decode cX10_isOf 126 = .ok (.iconst 0, 1) := by decide +kernel
theorem dX10_isOf_127 : decode cX10_isOf 127 = .ok (.ireturn, 1) := by decide +kernel
theorem dX10_isOf_128 : decode cX10_isOf 128 = .ok (.lload_n 1, 1) := by decide +kernel
theorem dX10_isOf_129 : decode cX10_isOf 129 = .ok (.lconst 0, 1) := by decide +kernel
theorem dX10_isOf_130 : decode cX10_isOf 130 = .ok (.lcmp, 1) := by decide +kernel
theorem dX10_isOf_131 : decode cX10_isOf 131 = .ok (.ifCond .lt 15, 3) := by decide +kernel
theorem dX10_isOf_134 : decode cX10_isOf 134 = .ok (.lload_n 1, 1) := by decide +kernel
theorem dX10_isOf_135 : decode cX10_isOf 135 = .ok (.ldc2_w 273, 3) := by decide +kernel
theorem dX10_isOf_138 : decode cX10_isOf 138 = .ok (.lcmp, 1) := by decide +kernel
theorem dX10_isOf_139 : decode cX10_isOf 139 = .ok (.ifCond .gt 7, 3) := by decide +kernel
theorem dX10_isOf_142 : decode cX10_isOf 142 = .ok (.iconst 1, 1) := by decide +kernel
theorem dX10_isOf_143 : decode cX10_isOf 143 = .ok (.goto 4, 3) := by decide +kernel
theorem dX10_isOf_146 : decode cX10_isOf 146 = .ok (.iconst 0, 1) := by decide +kernel
theorem dX10_isOf_147 : decode cX10_isOf 147 = .ok (.ireturn, 1) := by decide +kernel
theorem dX10_isOf_148 : decode cX10_isOf 148 = .ok (.iconst 1, 1) := by decide +kernel
theorem dX10_isOf_149 : decode cX10_isOf 149 = .ok (.ireturn, 1) := by decide +kernel
theorem dX10_staysIn64_0 : decode cX10_staysIn64 0 = .ok (.lload_n 0, 1) := by decide +kernel
theorem dX10_staysIn64_1 : decode cX10_staysIn64 1 = .ok (.ldc2_w 283, 3) := by decide +kernel
theorem dX10_staysIn64_4 : decode cX10_staysIn64 4 = .ok (.land, 1) := by decide +kernel
theorem dX10_staysIn64_5 : decode cX10_staysIn64 5 = .ok (.iload_n 2, 1) := by decide +kernel
theorem dX10_staysIn64_6 : decode cX10_staysIn64 6 = .ok (.i2l, 1) := by decide +kernel
theorem dX10_staysIn64_7 : decode cX10_staysIn64 7 = .ok (.lmul, 1) := by decide +kernel
theorem dX10_staysIn64_8 : decode cX10_staysIn64 8 = .ok (.iload_n 3, 1) := by decide +kernel
theorem dX10_staysIn64_9 : decode cX10_staysIn64 9 = .ok (.i2l, 1) := by decide +kernel
theorem dX10_staysIn64_10 : decode cX10_staysIn64 10 = .ok (.ladd, 1) := by decide +kernel
theorem dX10_staysIn64_11 : decode cX10_staysIn64 11 = .ok (.lstore 4, 2) := by decide +kernel
theorem dX10_staysIn64_13 : decode cX10_staysIn64 13 = .ok (.lload_n 0, 1) := by decide +kernel
theorem dX10_staysIn64_14 : decode cX10_staysIn64 14 = .ok (.bipush 20, 2) := by decide +kernel
theorem dX10_staysIn64_16 : decode cX10_staysIn64 16 = .ok (.lshr, 1) := by decide +kernel
theorem dX10_staysIn64_17 : decode cX10_staysIn64 17 = .ok (.iload_n 2, 1) := by decide +kernel
theorem dX10_staysIn64_18 : decode cX10_staysIn64 18 = .ok (.i2l, 1) := by decide +kernel
theorem dX10_staysIn64_19 : decode cX10_staysIn64 19 = .ok (.lmul, 1) := by decide +kernel
theorem dX10_staysIn64_20 : decode cX10_staysIn64 20 = .ok (.lload 4, 2) := by decide +kernel
theorem dX10_staysIn64_22 : decode cX10_staysIn64 22 = .ok (.bipush 20, 2) := by decide +kernel
theorem dX10_staysIn64_24 : decode cX10_staysIn64 24 = .ok (.lshr, 1) := by decide +kernel
theorem dX10_staysIn64_25 : decode cX10_staysIn64 25 = .ok (.ladd, 1) := by decide +kernel
theorem dX10_staysIn64_26 : decode cX10_staysIn64 26 = .ok (.lstore 6, 2) := by decide +kernel
theorem dX10_staysIn64_28 : decode cX10_staysIn64 28 = .ok (.lload 6, 2) := by decide +kernel
theorem dX10_staysIn64_30 : decode cX10_staysIn64 30 = .ok (.ldc2_w 285, 3) := by decide +kernel
theorem dX10_staysIn64_33 : decode cX10_staysIn64 33 = .ok (.lcmp, 1) := by decide +kernel
theorem dX10_staysIn64_34 : decode cX10_staysIn64 34 = .ok (.ifCond .lt 16, 3) := by decide +kernel
theorem dX10_staysIn64_37 : decode cX10_staysIn64 37 = .ok (.lload 6, 2) := by decide +kernel
theorem dX10_staysIn64_39 : decode cX10_staysIn64 39 = .ok (.ldc2_w 287, 3) := by decide +kernel
theorem dX10_staysIn64_42 : decode cX10_staysIn64 42 = .ok (.lcmp, 1) := by decide +kernel
theorem dX10_staysIn64_43 : decode cX10_staysIn64 43 = .ok (.ifCond .ge 7, 3) := by decide +kernel
theorem dX10_staysIn64_46 : decode cX10_staysIn64 46 = .ok (.iconst 1, 1) := by decide +kernel
theorem dX10_staysIn64_47 : decode cX10_staysIn64 47 = .ok (.goto 4, 3) := by decide +kernel
theorem dX10_staysIn64_50 : decode cX10_staysIn64 50 = .ok (.iconst 0, 1) := by decide +kernel
theorem dX10_staysIn64_51 : decode cX10_staysIn64 51 = .ok (.ireturn, 1) := by decide +kernel
theorem dX10_sumStaysIn64_0 : decode cX10_sumStaysIn64 0 = .ok (.lload_n 0, 1) := by decide +kernel
theorem dX10_sumStaysIn64_1 : decode cX10_sumStaysIn64 1 = .ok (.lload_n 2, 1) := by decide +kernel
theorem dX10_sumStaysIn64_2 : decode cX10_sumStaysIn64 2 = .ok (.ladd, 1) := by decide +kernel
theorem dX10_sumStaysIn64_3 : decode cX10_sumStaysIn64 3 = .ok (.lstore 4, 2) := by decide +kernel
theorem dX10_sumStaysIn64_5 : decode cX10_sumStaysIn64 5 = .ok (.lload_n 0, 1) := by decide +kernel
theorem dX10_sumStaysIn64_6 : decode cX10_sumStaysIn64 6 = .ok (.lload 4, 2) := by decide +kernel
theorem dX10_sumStaysIn64_8 : decode cX10_sumStaysIn64 8 = .ok (.lxor, 1) := by decide +kernel
theorem dX10_sumStaysIn64_9 : decode cX10_sumStaysIn64 9 = .ok (.lload_n 2, 1) := by decide +kernel
theorem dX10_sumStaysIn64_10 : decode cX10_sumStaysIn64 10 = .ok (.lload 4, 2) := by decide +kernel
theorem dX10_sumStaysIn64_12 : decode cX10_sumStaysIn64 12 = .ok (.lxor, 1) := by decide +kernel
theorem dX10_sumStaysIn64_13 : decode cX10_sumStaysIn64 13 = .ok (.land, 1) := by decide +kernel
theorem dX10_sumStaysIn64_14 : decode cX10_sumStaysIn64 14 = .ok (.lconst 0, 1) := by decide +kernel
theorem dX10_sumStaysIn64_15 : decode cX10_sumStaysIn64 15 = .ok (.lcmp, 1) := by decide +kernel
theorem dX10_sumStaysIn64_16 : decode cX10_sumStaysIn64 16 = .ok (.ifCond .lt 7, 3) := by decide +kernel
theorem dX10_sumStaysIn64_19 : decode cX10_sumStaysIn64 19 = .ok (.iconst 1, 1) := by decide +kernel
theorem dX10_sumStaysIn64_20 : decode cX10_sumStaysIn64 20 = .ok (.goto 4, 3) := by decide +kernel
theorem dX10_sumStaysIn64_23 : decode cX10_sumStaysIn64 23 = .ok (.iconst 0, 1) := by decide +kernel
theorem dX10_sumStaysIn64_24 : decode cX10_sumStaysIn64 24 = .ok (.ireturn, 1) := by decide +kernel
theorem dX11_init_0 : decode cX11_init 0 = .ok (.aload_n 0, 1) := by decide +kernel
theorem dX11_init_1 : decode cX11_init 1 = .ok (.invokespecial 1, 3) := by decide +kernel
theorem dX11_init_4 : decode cX11_init 4 = .ok (.aload_n 0, 1) := by decide +kernel
theorem dX11_init_5 : decode cX11_init 5 = .ok (.bipush 32, 2) := by decide +kernel
theorem dX11_init_7 : decode cX11_init 7 = .ok (.newarray .int, 2) := by decide +kernel
theorem dX11_init_9 : decode cX11_init 9 = .ok (.putfield 7, 3) := by decide +kernel
theorem dX11_init_12 : decode cX11_init 12 = .ok (.aload_n 0, 1) := by decide +kernel
theorem dX11_init_13 : decode cX11_init 13 = .ok (.bipush 32, 2) := by decide +kernel
end
section
theorem dX11_init_15 : decode cX11_init 15 = .ok (.newarray .int, 2) := by decide +kernel
theorem dX11_init_17 : decode cX11_init 17 = .ok (.putfield 13, 3) := by decide +kernel
theorem dX11_init_20 : decode cX11_init 20 = .ok (.aload_n 0, 1) := by decide +kernel
theorem dX11_init_21 : decode cX11_init 21 = .ok (.bipush 32, 2) := by decide +kernel
theorem dX11_init_23 : decode cX11_init 23 = .ok (.newarray .int, 2) := by decide +kernel
theorem dX11_init_25 : decode cX11_init 25 = .ok (.putfield 16, 3) := by decide +kernel
theorem dX11_init_28 : decode cX11_init 28 = .ok (.aload_n 0, 1) := by decide +kernel
theorem dX11_init_29 : decode cX11_init 29 = .ok (.bipush 32, 2) := by decide +kernel
theorem dX11_init_31 : decode cX11_init 31 = .ok (.newarray .int, 2) := by decide +kernel
theorem dX11_init_33 : decode cX11_init 33 = .ok (.putfield 19, 3) := by decide +kernel
theorem dX11_init_36 : decode cX11_init 36 = .ok (.aload_n 0, 1) := by decide +kernel
theorem dX11_init_37 : decode cX11_init 37 = .ok (.bipush 32, 2) := by decide +kernel
theorem dX11_init_39 : decode cX11_init 39 = .ok (.newarray .int, 2) := by decide +kernel
theorem dX11_init_41 : decode cX11_init 41 = .ok (.putfield 22, 3) := by decide +kernel
theorem dX11_init_44 : decode cX11_init 44 = .ok (.aload_n 0, 1) := by decide +kernel
theorem dX11_init_45 : decode cX11_init 45 = .ok (.bipush 32, 2) := by decide +kernel
theorem dX11_init_47 : decode cX11_init 47 = .ok (.newarray .boolean, 2) := by decide +kernel
theorem dX11_init_49 : decode cX11_init 49 = .ok (.putfield 25, 3) := by decide +kernel
theorem dX11_init_52 : decode cX11_init 52 = .ok (.aload_n 0, 1) := by decide +kernel
theorem dX11_init_53 : decode cX11_init 53 = .ok (.bipush 20, 2) := by decide +kernel
theorem dX11_init_55 : decode cX11_init 55 = .ok (.newarray .int, 2) := by decide +kernel
theorem dX11_init_57 : decode cX11_init 57 = .ok (.putfield 29, 3) := by decide +kernel
theorem dX11_init_60 : decode cX11_init 60 = .ok (.aload_n 0, 1) := by decide +kernel
theorem dX11_init_61 : decode cX11_init 61 = .ok (.bipush 120, 2) := by decide +kernel
theorem dX11_init_63 : decode cX11_init 63 = .ok (.newarray .int, 2) := by decide +kernel
theorem dX11_init_65 : decode cX11_init 65 = .ok (.putfield 32, 3) := by decide +kernel
theorem dX11_init_68 : decode cX11_init 68 = .ok (.aload_n 0, 1) := by decide +kernel
theorem dX11_init_69 : decode cX11_init 69 = .ok (.bipush 120, 2) := by decide +kernel
theorem dX11_init_71 : decode cX11_init 71 = .ok (.newarray .int, 2) := by decide +kernel
theorem dX11_init_73 : decode cX11_init 73 = .ok (.putfield 35, 3) := by decide +kernel
theorem dX11_init_76 : decode cX11_init 76 = .ok (.aload_n 0, 1) := by decide +kernel
theorem dX11_init_77 : decode cX11_init 77 = .ok (.sipush 480, 3) := by decide +kernel
theorem dX11_init_80 : decode cX11_init 80 = .ok (.newarray .int, 2) := by decide +kernel
theorem dX11_init_82 : decode cX11_init 82 = .ok (.putfield 38, 3) := by decide +kernel
theorem dX11_init_85 : decode cX11_init 85 = .ok (.aload_n 0, 1) := by decide +kernel
theorem dX11_init_86 : decode cX11_init 86 = .ok (.bipush 120, 2) := by decide +kernel
theorem dX11_init_88 : decode cX11_init 88 = .ok (.newarray .int, 2) := by decide +kernel
theorem dX11_init_90 : decode cX11_init 90 = .ok (.putfield 41, 3) := by decide +kernel
theorem dX11_init_93 : decode cX11_init 93 = .ok (.aload_n 0, 1) := by decide +kernel
theorem dX11_init_94 : decode cX11_init 94 = .ok (.bipush 120, 2) := by decide +kernel
theorem dX11_init_96 : decode cX11_init 96 = .ok (.newarray .int, 2) := by decide +kernel
theorem dX11_init_98 : decode cX11_init 98 = .ok (.putfield 44, 3) := by decide +kernel
theorem dX11_init_101 : decode cX11_init 101 = .ok (.aload_n 0, 1) := by decide +kernel
theorem dX11_init_102 : decode cX11_init 102 = .ok (.bipush 120, 2) := by decide +kernel
theorem dX11_init_104 : decode cX11_init 104 = .ok (.newarray .int, 2) := by decide +kernel
theorem dX11_init_106 : decode cX11_init 106 = .ok (.putfield 47, 3) := by decide +kernel
theorem dX11_init_109 : decode cX11_init 109 = .ok (.aload_n 0, 1) := by decide +kernel
theorem dX11_init_110 : decode cX11_init 110 = .ok (.bipush 120, 2) := by decide +kernel
theorem dX11_init_112 : decode cX11_init 112 = .ok (.newarray .int, 2) := by decide +kernel
theorem dX11_init_114 : decode cX11_init 114 = .ok (.putfield 50, 3) := by decide +kernel
theorem dX11_init_117 : decode cX11_init 117 = .ok (.aload_n 0, 1) := by decide +kernel
theorem dX11_init_118 : decode cX11_init 118 = .ok (.sipush 480, 3) := by decide +kernel
theorem dX11_init_121 : decode cX11_init 121 = .ok (.newarray .int, 2) := by decide +kernel
theorem dX11_init_123 : decode cX11_init 123 = .ok (.putfield 53, 3) := by decide +kernel
theorem dX11_init_126 : decode cX11_init 126 = .ok (.aload_n 0, 1) := by decide +kernel
theorem dX11_init_127 : decode cX11_init 127 = .ok (.sipush 10000, 3) := by decide +kernel
theorem dX11_init_130 : decode cX11_init 130 = .ok (.newarray .boolean, 2) := by decide +kernel
theorem dX11_init_132 : decode cX11_init 132 = .ok (.putfield 56, 3) := by decide +kernel
theorem dX11_init_135 : decode cX11_init 135 = .ok (.aload_n 0, 1) := by decide +kernel
theorem dX11_init_136 : decode cX11_init 136 = .ok (.bipush 7, 2) := by decide +kernel
theorem dX11_init_138 : decode cX11_init 138 = .ok (.newarray .boolean, 2) := by decide +kernel
theorem dX11_init_140 : decode cX11_init 140 = .ok (.putfield 59, 3) := by decide +kernel
theorem dX11_init_143 : decode cX11_init 143 = .ok (.aload_n 0, 1) := by decide +kernel
theorem dX11_init_144 : decode cX11_init 144 = .ok (.bipush 7, 2) := by decide +kernel
theorem dX11_init_146 : decode cX11_init 146 = .ok (.newarray .long, 2) := by decide +kernel
theorem dX11_init_148 : decode cX11_init 148 = .ok (.putfield 62, 3) := by decide +kernel
theorem dX11_init_151 : decode cX11_init 151 = .ok (.aload_n 0, 1) := by decide +kernel
theorem dX11_init_152 : decode cX11_init 152 = .ok (.bipush 20, 2) := by decide +kernel
theorem dX11_init_154 : decode cX11_init 154 = .ok (.newarray .int, 2) := by decide +kernel
theorem dX11_init_156 : decode cX11_init 156 = .ok (.putfield 66, 3) := by decide +kernel
theorem dX11_init_159 : decode cX11_init 159 = .ok (.aload_n 0, 1) := by decide +kernel
theorem dX11_init_160 : decode cX11_init 160 = .ok (.bipush 60, 2) := by decide +kernel
theorem dX11_init_162 : decode cX11_init 162 = .ok (.newarray .long, 2) := by decide +kernel
theorem dX11_init_164 : decode cX11_init 164 = .ok (.putfield 69, 3) := by decide +kernel
theorem dX11_init_167 : decode cX11_init 167 = .ok (.aload_n 0, 1) := by decide +kernel
theorem dX11_init_168 : decode cX11_init 168 = .ok (.iconst 4, 1) := by decide +kernel
theorem dX11_init_169 : decode cX11_init 169 = .ok (.newarray .long, 2) := by decide +kernel
theorem dX11_init_171 : decode cX11_init 171 = .ok (.putfield 72, 3) := by decide +kernel
theorem dX11_init_174 : decode cX11_init 174 = .ok (.aload_n 0, 1) := by decide +kernel
theorem dX11_init_175 : decode cX11_init 175 = .ok (.bipush 49, 2) := by decide +kernel
theorem dX11_init_177 : decode cX11_init 177 = .ok (.newarray .int, 2) := by decide +kernel
theorem dX11_init_179 : decode cX11_init 179 = .ok (.putfield 75, 3) := by decide +kernel
theorem dX11_init_182 : decode cX11_init 182 = .ok (.aload_n 0, 1) := by decide +kernel
theorem dX11_init_183 : decode cX11_init 183 = .ok (.bipush 49, 2) := by decide +kernel
theorem dX11_init_185 : decode cX11_init 185 = .ok (.newarray .int, 2) := by decide +kernel
theorem dX11_init_187 : decode cX11_init 187 = .ok (.putfield 78, 3) := by decide +kernel
theorem dX11_init_190 : decode cX11_init 190 = .ok (.aload_n 0, 1) := by decide +kernel
theorem dX11_init_191 : decode cX11_init 191 = .ok (.sipush 294, 3) := by decide +kernel
theorem dX11_init_194 : decode cX11_init 194 = .ok (.newarray .int, 2) := by decide +kernel
theorem dX11_init_196 : decode cX11_init 196 = .ok (.putfield 81, 3) := by decide +kernel
theorem dX11_init_199 : decode cX11_init 199 = .ok (.aload_n 0, 1) := by decide +kernel
theorem dX11_init_200 : decode cX11_init 200 = .ok (.bipush 49, 2) := by decide +kernel
theorem dX11_init_202 : decode cX11_init 202 = .ok (.newarray .int, 2) := by decide +kernel
theorem dX11_init_204 : decode cX11_init 204 = .ok (.putfield 84, 3) := by decide +kernel
theorem dX11_init_207 : decode cX11_init 207 = .ok (.aload_n 0, 1) := by decide +kernel
theorem dX11_init_208 : decode cX11_init 208 = .ok (.sipush 294, 3) := by decide +kernel
theorem dX11_init_211 : decode cX11_init 211 = .ok (.newarray .int, 2) := by decide +kernel
theorem dX11_init_213 : decode cX11_init 213 = .ok (.putfield 87, 3) := by decide +kernel
theorem dX11_init_216 : decode cX11_init 216 = .ok (.aload_n 0, 1) := by decide +kernel
theorem dX11_init_217 : decode cX11_init 217 = .ok (.iconst 4, 1) := by decide +kernel
theorem dX11_init_218 : decode cX11_init 218 = .ok (.newarray .int, 2) := by decide +kernel
theorem dX11_init_220 : decode cX11_init 220 = .ok (.putfield 90, 3) := by decide +kernel
theorem dX11_init_223 : decode cX11_init 223 = .ok (.aload_n 0, 1) := by decide +kernel
theorem dX11_init_224 : decode cX11_init 224 = .ok (.iconst 4, 1) := by decide +kernel
theorem dX11_init_225 : decode cX11_init 225 = .ok (.newarray .int, 2) := by decide +kernel
theorem dX11_init_227 : decode cX11_init 227 = .ok (.putfield 93, 3) := by decide +kernel
theorem dX11_init_230 : decode cX11_init 230 = .ok (.aload_n 0, 1) := by decide +kernel
theorem dX11_init_231 : decode cX11_init 231 = .ok (.iconst 4, 1) := by decide +kernel
theorem dX11_init_232 : decode cX11_init 232 = .ok (.newarray .int, 2) := by decide +kernel
theorem dX11_init_234 : decode cX11_init 234 = .ok (.putfield 96, 3) := by decide +kernel
theorem dX11_init_237 : decode cX11_init 237 = .ok (.aload_n 0, 1) := by decide +kernel
theorem dX11_init_238 : decode cX11_init 238 = .ok (.bipush 100, 2) := by decide +kernel
theorem dX11_init_240 : decode cX11_init 240 = .ok (.newarray .int, 2) := by decide +kernel
theorem dX11_init_242 : decode cX11_init 242 = .ok (.putfield 99, 3) := by decide +kernel
theorem dX11_init_245 : decode cX11_init 245 = .ok (.aload_n 0, 1) := by decide +kernel
theorem dX11_init_246 : decode cX11_init 246 = .ok (.sipush 1000, 3) := by decide +kernel
theorem dX11_init_249 : decode cX11_init 249 = .ok (.newarray .int, 2) := by decide +kernel
theorem dX11_init_251 : decode cX11_init 251 = .ok (.putfield 102, 3) := by decide +kernel
theorem dX11_init_254 : decode cX11_init 254 = .ok (.aload_n 0, 1) := by decide +kernel
theorem dX11_init_255 : decode cX11_init 255 = .ok (.bipush 100, 2) := by decide +kernel
theorem dX11_init_257 : decode cX11_init 257 = .ok (.newarray .int, 2) := by decide +kernel
theorem dX11_init_259 : decode cX11_init 259 = .ok (.putfield 105, 3) := by decide +kernel
theorem dX11_init_262 : decode cX11_init 262 = .ok (.aload_n 0, 1) := by decide +kernel
theorem dX11_init_263 : decode cX11_init 263 = .ok (.bipush 10, 2) := by decide +kernel
theorem dX11_init_265 : decode cX11_init 265 = .ok (.newarray .int, 2) := by decide +kernel
theorem dX11_init_267 : decode cX11_init 267 = .ok (.putfield 108, 3) := by decide +kernel
theorem dX11_init_270 : decode cX11_init 270 = .ok (.aload_n 0, 1) := by decide +kernel
theorem dX11_init_271 : decode cX11_init 271 = .ok (.bipush 11, 2) := by decide +kernel
theorem dX11_init_273 : decode cX11_init 273 = .ok (.newarray .int, 2) := by decide +kernel
theorem dX11_init_275 : decode cX11_init 275 = .ok (.putfield 111, 3) := by decide +kernel
theorem dX11_init_278 : decode cX11_init 278 = .ok (.aload_n 0, 1) := by decide +kernel
theorem dX11_init_279 : decode cX11_init 279 = .ok (.bipush 44, 2) := by decide +kernel
theorem dX11_init_281 : decode cX11_init 281 = .ok (.newarray .int, 2) := by decide +kernel
theorem dX11_init_283 : decode cX11_init 283 = .ok (.putfield 114, 3) := by decide +kernel
theorem dX11_init_286 : decode cX11_init 286 = .ok (.aload_n 0, 1) := by decide +kernel
theorem dX11_init_287 : decode cX11_init 287 = .ok (.iconst 4, 1) := by decide +kernel
theorem dX11_init_288 : decode cX11_init 288 = .ok (.newarray .long, 2) := by decide +kernel
theorem dX11_init_290 : decode cX11_init 290 = .ok (.putfield 117, 3) := by decide +kernel
theorem dX11_init_293 : decode cX11_init 293 = .ok (.aload_n 0, 1) := by decide +kernel
theorem dX11_init_294 : decode cX11_init 294 = .ok (.iconst 4, 1) := by decide +kernel
theorem dX11_init_295 : decode cX11_init 295 = .ok (.newarray .long, 2) := by decide +kernel
theorem dX11_init_297 : decode cX11_init 297 = .ok (.putfield 120, 3) := by decide +kernel
theorem dX11_init_300 : decode cX11_init 300 = .ok (.aload_n 0, 1) := by decide +kernel
theorem dX11_init_301 : decode cX11_init 301 = .ok (.iconst 0, 1) := by decide +kernel
theorem dX11_init_302 : decode cX11_init 302 = .ok (.iconst 1, 1) := by decide +kernel
theorem dX11_init_303 : decode cX11_init 303 = .ok (.iconst 1, 1) := by decide +kernel
theorem dX11_init_304 : decode cX11_init 304 = .ok (.invokevirtual 123, 3) := by decide +kernel
theorem dX11_init_307 : decode cX11_init 307 = .ok (.aload_n 0, 1) := by decide +kernel
theorem dX11_init_308 : decode cX11_init 308 = .ok (.iconst 1, 1) := by decide +kernel
theorem dX11_init_309 : decode cX11_init 309 = .ok (.iconst 2, 1) := by decide +kernel
theorem dX11_init_310 : decode cX11_init 310 = .ok (.iconst 1, 1) := by decide +kernel
theorem dX11_init_311 : decode cX11_init 311 = .ok (.invokevirtual 123, 3) := by decide +kernel
theorem dX11_init_314 : decode cX11_init 314 = .ok (.aload_n 0, 1) := by decide +kernel
theorem dX11_init_315 : decode cX11_init 315 = .ok (.iconst 2, 1) := by decide +kernel
theorem dX11_init_316 : decode cX11_init 316 = .ok (.iconst 3, 1) := by decide +kernel
theorem dX11_init_317 : decode cX11_init 317 = .ok (.iconst 1, 1) := by decide +kernel
theorem dX11_init_318 : decode cX11_init 318 = .ok (.invokevirtual 123, 3) := by decide +kernel
theorem dX11_init_321 : decode cX11_init 321 = .ok (.aload_n 0, 1) := by decide +kernel
theorem dX11_init_322 : decode cX11_init 322 = .ok (.iconst 3, 1) := by decide +kernel
theorem dX11_init_323 : decode cX11_init 323 = .ok (.iconst 2, 1) := by decide +kernel
theorem dX11_init_324 : decode cX11_init 324 = .ok (.iconst 5, 1) := by decide +kernel
theorem dX11_init_325 : decode cX11_init 325 = .ok (.invokevirtual 123, 3) := by decide +kernel
theorem dX11_init_328 : decode cX11_init 328 = .ok (.aload_n 0, 1) := by decide +kernel
theorem dX11_init_329 : decode cX11_init 329 = .ok (.iconst 2, 1) := by decide +kernel
theorem dX11_init_330 : decode cX11_init 330 = .ok (.iconst 1, 1) := by decide +kernel
theorem dX11_init_331 : decode cX11_init 331 = .ok (.iconst 5, 1) := by decide +kernel
theorem dX11_init_332 : decode cX11_init 332 = .ok (.invokevirtual 123, 3) := by decide +kernel
theorem dX11_init_335 : decode cX11_init 335 = .ok (.aload_n 0, 1) := by decide +kernel
theorem dX11_init_336 : decode cX11_init 336 = .ok (.iconst 1, 1) := by decide +kernel
theorem dX11_init_337 : decode cX11_init 337 = .ok (.iconst 0, 1) := by decide +kernel
theorem dX11_init_338 : decode cX11_init 338 = .ok (.iconst 5, 1) := by decide +kernel
theorem dX11_init_339 : decode cX11_init 339 = .ok (.invokevirtual 123, 3) := by decide +kernel
theorem dX11_init_342 : decode cX11_init 342 = .ok (.aload_n 0, 1) := by decide +kernel
theorem dX11_init_343 : decode cX11_init 343 = .ok (.iconst 4, 1) := by decide +kernel
theorem dX11_init_344 : decode cX11_init 344 = .ok (.iconst 0, 1) := by decide +kernel
theorem dX11_init_345 : decode cX11_init 345 = .ok (.iconst 2, 1) := by decide +kernel
theorem dX11_init_346 : decode cX11_init 346 = .ok (.invokevirtual 123, 3) := by decide +kernel
theorem dX11_init_349 : decode cX11_init 349 = .ok (.aload_n 0, 1) := by decide +kernel
theorem dX11_init_350 : decode cX11_init 350 = .ok (.iconst 2, 1) := by decide +kernel
theorem dX11_init_351 : decode cX11_init 351 = .ok (.iconst 4, 1) := by decide +kernel
theorem dX11_init_352 : decode cX11_init 352 = .ok (.bipush 6, 2) := by decide +kernel
theorem dX11_init_354 : decode cX11_init 354 = .ok (.invokevirtual 123, 3) := by decide +kernel
theorem dX11_init_357 : decode cX11_init 357 = .ok (.aload_n 0, 1) := by decide +kernel
theorem dX11_init_358 : decode cX11_init 358 = .ok (.iconst 3, 1) := by decide +kernel
theorem dX11_init_359 : decode cX11_init 359 = .ok (.iconst 5, 1) := by decide +kernel
theorem dX11_init_360 : decode cX11_init 360 = .ok (.iconst 3, 1) := by decide +kernel
theorem dX11_init_361 : decode cX11_init 361 = .ok (.invokevirtual 123, 3) := by decide +kernel
theorem dX11_init_364 : decode cX11_init 364 = .ok (.aload_n 0, 1) := by decide +kernel
theorem dX11_init_365 : decode cX11_init 365 = .ok (.iconst 5, 1) := by decide +kernel
theorem dX11_init_366 : decode cX11_init 366 = .ok (.iconst 3, 1) := by decide +kernel
theorem dX11_init_367 : decode cX11_init 367 = .ok (.bipush 6, 2) := by decide +kernel
theorem dX11_init_369 : decode cX11_init 369 = .ok (.invokevirtual 123, 3) := by decide +kernel
theorem dX11_init_372 : decode cX11_init 372 = .ok (.aload_n 0, 1) := by decide +kernel
theorem dX11_init_373 : decode cX11_init 373 = .ok (.bipush 6, 2) := by decide +kernel
theorem dX11_init_375 : decode cX11_init 375 = .ok (.iconst 1, 1) := by decide +kernel
theorem dX11_init_376 : decode cX11_init 376 = .ok (.iconst 2, 1) := by decide +kernel
theorem dX11_init_377 : decode cX11_init 377 = .ok (.invokevirtual 123, 3) := by decide +kernel
theorem dX11_init_380 : decode cX11_init 380 = .ok (.aload_n 0, 1) := by decide +kernel
theorem dX11_init_381 : decode cX11_init 381 = .ok (.iconst 1, 1) := by decide +kernel
theorem dX11_init_382 : decode cX11_init 382 = .ok (.bipush 6, 2) := by decide +kernel
theorem dX11_init_384 : decode cX11_init 384 = .ok (.iconst 5, 1) := by decide +kernel
theorem dX11_init_385 : decode cX11_init 385 = .ok (.invokevirtual 123, 3) := by decide +kernel
theorem dX11_init_388 : decode cX11_init 388 = .ok (.return_, 1) := by decide +kernel
theorem dX11_base_0 : decode cX11_base 0 = .ok (.aload_n 0, 1) := by decide +kernel
theorem dX11_base_1 : decode cX11_base 1 = .ok (.getfield 7, 3) := by decide +kernel
theorem dX11_base_4 : decode cX11_base 4 = .ok (.aload_n 0, 1) := by decide +kernel
theorem dX11_base_5 : decode cX11_base 5 = .ok (.getfield 127, 3) := by decide +kernel
theorem dX11_base_8 : decode cX11_base 8 = .ok (.iload_n 1, 1) := by decide +kernel
theorem dX11_base_9 : decode cX11_base 9 = .ok (.iastore, 1) := by decide +kernel
theorem dX11_base_10 : decode cX11_base 10 = .ok (.aload_n 0, 1) := by decide +kernel
theorem dX11_base_11 : decode cX11_base 11 = .ok (.getfield 13, 3) := by decide +kernel
theorem dX11_base_14 : decode cX11_base 14 = .ok (.aload_n 0, 1) := by decide +kernel
theorem dX11_base_15 : decode cX11_base 15 = .ok (.getfield 127, 3) := by decide +kernel
theorem dX11_base_18 : decode cX11_base 18 = .ok (.iload_n 2, 1) := by decide +kernel
theorem dX11_base_19 : decode cX11_base 19 = .ok (.iastore, 1) := by decide +kernel
theorem dX11_base_20 : decode cX11_base 20 = .ok (.aload_n 0, 1) := by decide +kernel
theorem dX11_base_21 : decode cX11_base 21 = .ok (.getfield 16, 3) := by decide +kernel
theorem dX11_base_24 : decode cX11_base 24 = .ok (.aload_n 0, 1) := by decide +kernel
theorem dX11_base_25 : decode cX11_base 25 = .ok (.getfield 127, 3) := by decide +kernel
theorem dX11_base_28 : decode cX11_base 28 = .ok (.iload_n 3, 1) := by decide +kernel
theorem dX11_base_29 : decode cX11_base 29 = .ok (.iastore, 1) := by decide +kernel
theorem dX11_base_30 : decode cX11_base 30 = .ok (.aload_n 0, 1) := by decide +kernel
theorem dX11_base_31 : decode cX11_base 31 = .ok (.getfield 19, 3) := by decide +kernel
theorem dX11_base_34 : decode cX11_base 34 = .ok (.aload_n 0, 1) := by decide +kernel
theorem dX11_base_35 : decode cX11_base 35 = .ok (.getfield 127, 3) := by decide +kernel
theorem dX11_base_38 : decode cX11_base 38 = .ok (.iconst 1, 1) := by decide +kernel
theorem dX11_base_39 : decode cX11_base 39 = .ok (.iastore, 1) := by decide +kernel
theorem dX11_base_40 : decode cX11_base 40 = .ok (.aload_n 0, 1) := by decide +kernel
theorem dX11_base_41 : decode cX11_base 41 = .ok (.getfield 22, 3) := by decide +kernel
theorem dX11_base_44 : decode cX11_base 44 = .ok (.aload_n 0, 1) := by decide +kernel
theorem dX11_base_45 : decode cX11_base 45 = .ok (.getfield 127, 3) := by decide +kernel
theorem dX11_base_48 : decode cX11_base 48 = .ok (.iconst 0, 1) := by decide +kernel
theorem dX11_base_49 : decode cX11_base 49 = .ok (.iastore, 1) := by decide +kernel
theorem dX11_base_50 : decode cX11_base 50 = .ok (.aload_n 0, 1) := by decide +kernel
theorem dX11_base_51 : decode cX11_base 51 = .ok (.getfield 25, 3) := by decide +kernel
theorem dX11_base_54 : decode cX11_base 54 = .ok (.aload_n 0, 1) := by decide +kernel
theorem dX11_base_55 : decode cX11_base 55 = .ok (.getfield 127, 3) := by decide +kernel
theorem dX11_base_58 : decode cX11_base 58 = .ok (.iconst 1, 1) := by decide +kernel
theorem dX11_base_59 : decode cX11_base 59 = .ok (.bastore, 1) := by decide +kernel
theorem dX11_base_60 : decode cX11_base 60 = .ok (.aload_n 0, 1) := by decide +kernel
theorem dX11_base_61 : decode cX11_base 61 = .ok (.dup, 1) := by decide +kernel
theorem dX11_base_62 : decode cX11_base 62 = .ok (.getfield 127, 3) := by decide +kernel
theorem dX11_base_65 : decode cX11_base 65 = .ok (.iconst 1, 1) := by decide +kernel
theorem dX11_base_66 : decode cX11_base 66 = .ok (.iadd, 1) := by decide +kernel
theorem dX11_base_67 : decode cX11_base 67 = .ok (.putfield 127, 3) := by decide +kernel
theorem dX11_base_70 : decode cX11_base 70 = .ok (.return_, 1) := by decide +kernel
theorem dX11_in_0 : decode cX11_in 0 = .ok (.lload_n 0, 1) := by decide +kernel
theorem dX11_in_1 : decode cX11_in 1 = .ok (.lload_n 2, 1) := by decide +kernel
theorem dX11_in_2 : decode cX11_in 2 = .ok (.lcmp, 1) := by decide +kernel
theorem dX11_in_3 : decode cX11_in 3 = .ok (.ifCond .lt 14, 3) := by decide +kernel
theorem dX11_in_6 : decode cX11_in 6 = .ok (.lload_n 0, 1) := by decide +kernel
theorem dX11_in_7 : decode cX11_in 7 = .ok (.lload 4, 2) := by decide +kernel
theorem dX11_in_9 : decode cX11_in 9 = .ok (.lcmp, 1) := by decide +kernel
theorem dX11_in_10 : decode cX11_in 10 = .ok (.ifCond .gt 7, 3) := by decide +kernel
theorem dX11_in_13 : decode cX11_in 13 = .ok (.iconst 1, 1) := by decide +kernel
theorem dX11_in_14 : decode cX11_in 14 = .ok (.goto 4, 3) := by decide +kernel
theorem dX11_in_17 : decode cX11_in 17 = .ok (.iconst 0, 1) := by decide +kernel
theorem dX11_in_18 : decode cX11_in 18 = .ok (.ireturn, 1) := by decide +kernel
theorem dX11_isOf_0 : decode cX11_isOf 0 = .ok (.iload_n 0, 1) := by decide +kernel
theorem dX11_isOf_1 : decode cX11_isOf 1 = .ok (.tableswitch 92 0 6 #[43, 54, 65, 92, 76, 92, 83], 43) := by decide +kernel
theorem dX11_isOf_44 : decode cX11_isOf 44 = .ok (.lload_n 1, 1) := by decide +kernel
theorem dX11_isOf_45 : decode cX11_isOf 45 = .ok (.ldc2_w 134, 3) := by decide +kernel
theorem dX11_isOf_48 : decode cX11_isOf 48 = .ok (.ldc2_w 136, 3) := by decide +kernel
theorem dX11_isOf_51 : decode cX11_isOf 51 = .ok (.invokestatic 138, 3) := by decide +kernel
theorem dX11_isOf_54 : decode cX11_isOf 54 = .ok (.ireturn, 1) := by decide +kernel
theorem dX11_isOf_55 : decode cX11_isOf 55 = .ok (.lload_n 1, 1) := by decide +kernel
theorem dX11_isOf_56 : decode cX11_isOf 56 = .ok (.ldc2_w 142, 3) := by decide +kernel
theorem dX11_isOf_59 : decode cX11_isOf 59 = .ok (.ldc2_w 144, 3) := by decide +kernel
theorem dX11_isOf_62 : decode cX11_isOf 62 = .ok (.invokestatic 138, 3) := by decide +kernel
theorem dX11_isOf_65 : decode cX11_isOf 65 = .ok (.ireturn, 1) := by decide +kernel
theorem dX11_isOf_66 : decode cX11_isOf 66 = .ok (.lload_n 1, 1) := by decide +kernel
theorem dX11_isOf_67 : decode cX11_isOf 67 = .ok (.ldc2_w 146, 3) := by decide +kernel
theorem dX11_isOf_70 : decode cX11_isOf 70 = .ok (.ldc2_w 148, 3) := by decide +kernel
theorem dX11_isOf_73 : decode cX11_isOf 73 = .ok (.invokestatic 138, 3) := by decide +kernel
theorem dX11_isOf_76 : decode cX11_isOf 76 = .ok (.ireturn, 1) := by decide +kernel
theorem dX11_isOf_77 : decode cX11_isOf 77 = .ok (.lload_n 1, 1) := by decide +kernel
theorem dX11_isOf_78 : decode cX11_isOf 78 = .ok (.lconst 0, 1) := by decide +kernel
theorem dX11_isOf_79 : decode cX11_isOf 79 = .ok (.lconst 1, 1) := by decide +kernel
theorem dX11_isOf_80 : decode cX11_isOf 80 = .ok (.invokestatic 138, 3) := by decide +kernel
theorem dX11_isOf_83 : decode cX11_isOf 83 = .ok (.ireturn, 1) := by decide +kernel
theorem dX11_isOf_84 : decode cX11_isOf 84 = .ok (.lload_n 1, 1) := by decide +kernel
theorem dX11_isOf_85 : decode cX11_isOf 85 = .ok (.lconst 0, 1) := by decide +kernel
theorem dX11_isOf_86 : decode cX11_isOf 86 = .ok (.ldc2_w 136, 3) := by decide +kernel
theorem dX11_isOf_89 : decode cX11_isOf 89 = .ok (.invokestatic 138, 3) := by decide +kernel
theorem dX11_isOf_92 : decode cX11_isOf 92 = .ok (.ireturn, 1) := by decide +kernel
theorem dX11_isOf_93 : decode cX11_isOf 93 = .ok (.iconst 1, 1) := by decide +kernel
theorem dX11_isOf_94 : decode cX11_isOf 94 = .ok (.ireturn, 1) := by decide +kernel
theorem dX11_rule_0 : decode cX11_rule 0 = .ok (.aload_n 0, 1) := by decide +kernel
theorem dX11_rule_1 : decode cX11_rule 1 = .ok (.iconst 0, 1) := by decide +kernel
theorem dX11_rule_2 : decode cX11_rule 2 = .ok (.putfield 131, 3) := by decide +kernel
theorem dX11_rule_5 : decode cX11_rule 5 = .ok (.iload_n 1, 1) := by decide +kernel
theorem dX11_rule_6 : decode cX11_rule 6 = .ok (.i2l, 1) := by decide +kernel
theorem dX11_rule_7 : decode cX11_rule 7 = .ok (.lconst 0, 1) := by decide +kernel
theorem dX11_rule_8 : decode cX11_rule 8 = .ok (.ldc2_w 150, 3) := by decide +kernel
theorem dX11_rule_11 : decode cX11_rule 11 = .ok (.invokestatic 138, 3) := by decide +kernel
theorem dX11_rule_14 : decode cX11_rule 14 = .ok (.ifCond .eq 69, 3) := by decide +kernel
theorem dX11_rule_17 : decode cX11_rule 17 = .ok (.iload_n 2, 1) := by decide +kernel
theorem dX11_rule_18 : decode cX11_rule 18 = .ok (.i2l, 1) := by decide +kernel
theorem dX11_rule_19 : decode cX11_rule 19 = .ok (.lconst 0, 1) := by decide +kernel
theorem dX11_rule_20 : decode cX11_rule 20 = .ok (.ldc2_w 150, 3) := by decide +kernel
theorem dX11_rule_23 : decode cX11_rule 23 = .ok (.invokestatic 138, 3) := by decide +kernel
theorem dX11_rule_26 : decode cX11_rule 26 = .ok (.ifCond .eq 57, 3) := by decide +kernel
theorem dX11_rule_29 : decode cX11_rule 29 = .ok (.iload_n 1, 1) := by decide +kernel
theorem dX11_rule_30 : decode cX11_rule 30 = .ok (.iload_n 2, 1) := by decide +kernel
theorem dX11_rule_31 : decode cX11_rule 31 = .ok (.if_icmp .eq 52, 3) := by decide +kernel
theorem dX11_rule_34 : decode cX11_rule 34 = .ok (.iload_n 3, 1) := by decide +kernel
theorem dX11_rule_35 : decode cX11_rule 35 = .ok (.i2l, 1) := by decide +kernel
theorem dX11_rule_36 : decode cX11_rule 36 = .ok (.lconst 1, 1) := by decide +kernel
theorem dX11_rule_37 : decode cX11_rule 37 = .ok (.ldc2_w 152, 3) := by decide +kernel
theorem dX11_rule_40 : decode cX11_rule 40 = .ok (.invokestatic 138, 3) := by decide +kernel
theorem dX11_rule_43 : decode cX11_rule 43 = .ok (.ifCond .eq 40, 3) := by decide +kernel
theorem dX11_rule_46 : decode cX11_rule 46 = .ok (.iload 4, 2) := by decide +kernel
theorem dX11_rule_48 : decode cX11_rule 48 = .ok (.i2l, 1) := by decide +kernel
theorem dX11_rule_49 : decode cX11_rule 49 = .ok (.lconst 0, 1) := by decide +kernel
theorem dX11_rule_50 : decode cX11_rule 50 = .ok (.ldc2_w 154, 3) := by decide +kernel
theorem dX11_rule_53 : decode cX11_rule 53 = .ok (.invokestatic 138, 3) := by decide +kernel
theorem dX11_rule_56 : decode cX11_rule 56 = .ok (.ifCond .eq 27, 3) := by decide +kernel
theorem dX11_rule_59 : decode cX11_rule 59 = .ok (.iload 4, 2) := by decide +kernel
theorem dX11_rule_61 : decode cX11_rule 61 = .ok (.sipush 10000, 3) := by decide +kernel
theorem dX11_rule_64 : decode cX11_rule 64 = .ok (.idiv, 1) := by decide +kernel
theorem dX11_rule_65 : decode cX11_rule 65 = .ok (.sipush 2000, 3) := by decide +kernel
theorem dX11_rule_68 : decode cX11_rule 68 = .ok (.if_icmp .gt 15, 3) := by decide +kernel
theorem dX11_rule_71 : decode cX11_rule 71 = .ok (.iload 4, 2) := by decide +kernel
theorem dX11_rule_73 : decode cX11_rule 73 = .ok (.sipush 10000, 3) := by decide +kernel
theorem dX11_rule_76 : decode cX11_rule 76 = .ok (.irem, 1) := by decide +kernel
theorem dX11_rule_77 : decode cX11_rule 77 = .ok (.sipush 2000, 3) := by decide +kernel
theorem dX11_rule_80 : decode cX11_rule 80 = .ok (.if_icmp .le 6, 3) := by decide +kernel
theorem dX11_rule_83 : decode cX11_rule 83 = .ok (.bipush (-3), 2) := by decide +kernel
theorem dX11_rule_85 : decode cX11_rule 85 = .ok (.ireturn, 1) := by decide +kernel
theorem dX11_rule_86 : decode cX11_rule 86 = .ok (.aload_n 0, 1) := by decide +kernel
theorem dX11_rule_87 : decode cX11_rule 87 = .ok (.getfield 127, 3) := by decide +kernel
theorem dX11_rule_90 : decode cX11_rule 90 = .ok (.bipush 32, 2) := by decide +kernel
theorem dX11_rule_92 : decode cX11_rule 92 = .ok (.if_icmp .ne 6, 3) := by decide +kernel
theorem dX11_rule_95 : decode cX11_rule 95 = .ok (.bipush (-5), 2) := by decide +kernel
theorem dX11_rule_97 : decode cX11_rule 97 = .ok (.ireturn, 1) := by decide +kernel
theorem dX11_rule_98 : decode cX11_rule 98 = .ok (.aload_n 0, 1) := by decide +kernel
theorem dX11_rule_99 : decode cX11_rule 99 = .ok (.iload_n 1, 1) := by decide +kernel
theorem dX11_rule_100 : decode cX11_rule 100 = .ok (.iload_n 2, 1) := by decide +kernel
theorem dX11_rule_101 : decode cX11_rule 101 = .ok (.iload_n 3, 1) := by decide +kernel
theorem dX11_rule_102 : decode cX11_rule 102 = .ok (.invokevirtual 123, 3) := by decide +kernel
theorem dX11_rule_105 : decode cX11_rule 105 = .ok (.aload_n 0, 1) := by decide +kernel
theorem dX11_rule_106 : decode cX11_rule 106 = .ok (.getfield 19, 3) := by decide +kernel
theorem dX11_rule_109 : decode cX11_rule 109 = .ok (.aload_n 0, 1) := by decide +kernel
theorem dX11_rule_110 : decode cX11_rule 110 = .ok (.getfield 127, 3) := by decide +kernel
theorem dX11_rule_113 : decode cX11_rule 113 = .ok (.iconst 1, 1) := by decide +kernel
theorem dX11_rule_114 : decode cX11_rule 114 = .ok (.isub, 1) := by decide +kernel
theorem dX11_rule_115 : decode cX11_rule 115 = .ok (.iload 4, 2) := by decide +kernel
theorem dX11_rule_117 : decode cX11_rule 117 = .ok (.sipush 10000, 3) := by decide +kernel
theorem dX11_rule_120 : decode cX11_rule 120 = .ok (.idiv, 1) := by decide +kernel
theorem dX11_rule_121 : decode cX11_rule 121 = .ok (.sipush 1000, 3) := by decide +kernel
theorem dX11_rule_124 : decode cX11_rule 124 = .ok (.isub, 1) := by decide +kernel
theorem dX11_rule_125 : decode cX11_rule 125 = .ok (.iastore, 1) := by decide +kernel
theorem dX11_rule_126 : decode cX11_rule 126 = .ok (.aload_n 0, 1) := by decide +kernel
theorem dX11_rule_127 : decode cX11_rule 127 = .ok (.getfield 22, 3) := by decide +kernel
theorem dX11_rule_130 : decode cX11_rule 130 = .ok (.aload_n 0, 1) := by decide +kernel
theorem dX11_rule_131 : decode cX11_rule 131 = .ok (.getfield 127, 3) := by decide +kernel
theorem dX11_rule_134 : decode cX11_rule 134 = .ok (.iconst 1, 1) := by decide +kernel
theorem dX11_rule_135 : decode cX11_rule 135 = .ok (.isub, 1) := by decide +kernel
theorem dX11_rule_136 : decode cX11_rule 136 = .ok (.iload 4, 2) := by decide +kernel
theorem dX11_rule_138 : decode cX11_rule 138 = .ok (.sipush 10000, 3) := by decide +kernel
theorem dX11_rule_141 : decode cX11_rule 141 = .ok (.irem, 1) := by decide +kernel
theorem dX11_rule_142 : decode cX11_rule 142 = .ok (.sipush 1000, 3) := by decide +kernel
theorem dX11_rule_145 : decode cX11_rule 145 = .ok (.isub, 1) := by decide +kernel
theorem dX11_rule_146 : decode cX11_rule 146 = .ok (.iastore, 1) := by decide +kernel
theorem dX11_rule_147 : decode cX11_rule 147 = .ok (.aload_n 0, 1) := by decide +kernel
theorem dX11_rule_148 : decode cX11_rule 148 = .ok (.getfield 127, 3) := by decide +kernel
theorem dX11_rule_151 : decode cX11_rule 151 = .ok (.iconst 1, 1) := by decide +kernel
theorem dX11_rule_152 : decode cX11_rule 152 = .ok (.isub, 1) := by decide +kernel
theorem dX11_rule_153 : decode cX11_rule 153 = .ok (.ireturn, 1) := by decide +kernel
theorem dX11_drop_0 : decode cX11_drop 0 = .ok (.aload_n 0, 1) := by decide +kernel
theorem dX11_drop_1 : decode cX11_drop 1 = .ok (.iconst 0, 1) := by decide +kernel
theorem dX11_drop_2 : decode cX11_drop 2 = .ok (.putfield 131, 3) := by decide +kernel
theorem dX11_drop_5 : decode cX11_drop 5 = .ok (.iload_n 1, 1) := by decide +kernel
theorem dX11_drop_6 : decode cX11_drop 6 = .ok (.i2l, 1) := by decide +kernel
theorem dX11_drop_7 : decode cX11_drop 7 = .ok (.ldc2_w 156, 3) := by decide +kernel
theorem dX11_drop_10 : decode cX11_drop 10 = .ok (.aload_n 0, 1) := by decide +kernel
theorem dX11_drop_11 : decode cX11_drop 11 = .ok (.getfield 127, 3) := by decide +kernel
theorem dX11_drop_14 : decode cX11_drop 14 = .ok (.iconst 1, 1) := by decide +kernel
theorem dX11_drop_15 : decode cX11_drop 15 = .ok (.isub, 1) := by decide +kernel
theorem dX11_drop_16 : decode cX11_drop 16 = .ok (.i2l, 1) := by decide +kernel
theorem dX11_drop_17 : decode cX11_drop 17 = .ok (.invokestatic 138, 3) := by decide +kernel
theorem dX11_drop_20 : decode cX11_drop 20 = .ok (.ifCond .eq 12, 3) := by decide +kernel
theorem dX11_drop_23 : decode cX11_drop 23 = .ok (.aload_n 0, 1) := by decide +kernel
theorem dX11_drop_24 : decode cX11_drop 24 = .ok (.getfield 25, 3) := by decide +kernel
theorem dX11_drop_27 : decode cX11_drop 27 = .ok (.iload_n 1, 1) := by decide +kernel
theorem dX11_drop_28 : decode cX11_drop 28 = .ok (.baload, 1) := by decide +kernel
theorem dX11_drop_29 : decode cX11_drop 29 = .ok (.ifCond .ne 6, 3) := by decide +kernel
theorem dX11_drop_32 : decode cX11_drop 32 = .ok (.bipush (-2), 2) := by decide +kernel
theorem dX11_drop_34 : decode cX11_drop 34 = .ok (.ireturn, 1) := by decide +kernel
theorem dX11_drop_35 : decode cX11_drop 35 = .ok (.aload_n 0, 1) := by decide +kernel
theorem dX11_drop_36 : decode cX11_drop 36 = .ok (.getfield 25, 3) := by decide +kernel
theorem dX11_drop_39 : decode cX11_drop 39 = .ok (.iload_n 1, 1) := by decide +kernel
theorem dX11_drop_40 : decode cX11_drop 40 = .ok (.iconst 0, 1) := by decide +kernel
theorem dX11_drop_41 : decode cX11_drop 41 = .ok (.bastore, 1) := by decide +kernel
theorem dX11_drop_42 : decode cX11_drop 42 = .ok (.iconst 1, 1) := by decide +kernel
theorem dX11_drop_43 : decode cX11_drop 43 = .ok (.ireturn, 1) := by decide +kernel
theorem dX11_apply_0 : decode cX11_apply 0 = .ok (.iload_n 1, 1) := by decide +kernel
theorem dX11_apply_1 : decode cX11_apply 1 = .ok (.bipush 7, 2) := by decide +kernel
theorem dX11_apply_3 : decode cX11_apply 3 = .ok (.if_icmp .ne 20, 3) := by decide +kernel
theorem dX11_apply_6 : decode cX11_apply 6 = .ok (.aload_n 0, 1) := by decide +kernel
end
section
theorem dX11_apply_7 : decode cX11_apply 7 = .ok (.lload_n 2, 1) := by decide +kernel
theorem dX11_apply_8 : decode cX11_apply 8 = .ok (.lconst 0, 1) := by decide +kernel
theorem dX11_apply_9 : decode cX11_apply 9 = .ok (.lcmp, 1) := by decide +kernel
theorem dX11_apply_10 : decode cX11_apply 10 = .ok (.ifCond .ne 7, 3) := by decide +kernel
theorem dX11_apply_13 : decode cX11_apply 13 = .ok (.lconst 0, 1) := by decide +kernel
theorem dX11_apply_14 : decode cX11_apply 14 = .ok (.goto 4, 3) := by decide +kernel
theorem dX11_apply_17 : decode cX11_apply 17 = .ok (.lconst 1, 1) := by decide +kernel
theorem dX11_apply_18 : decode cX11_apply 18 = .ok (.putfield 158, 3) := by decide +kernel
theorem dX11_apply_21 : decode cX11_apply 21 = .ok (.iconst 1, 1) := by decide +kernel
theorem dX11_apply_22 : decode cX11_apply 22 = .ok (.ireturn, 1) := by decide +kernel
theorem dX11_apply_23 : decode cX11_apply 23 = .ok (.iload_n 1, 1) := by decide +kernel
theorem dX11_apply_24 : decode cX11_apply 24 = .ok (.bipush 9, 2) := by decide +kernel
theorem dX11_apply_26 : decode cX11_apply 26 = .ok (.if_icmp .ne 14, 3) := by decide +kernel
theorem dX11_apply_29 : decode cX11_apply 29 = .ok (.aload_n 0, 1) := by decide +kernel
theorem dX11_apply_30 : decode cX11_apply 30 = .ok (.lload_n 2, 1) := by decide +kernel
theorem dX11_apply_31 : decode cX11_apply 31 = .ok (.ldc2_w 162, 3) := by decide +kernel
theorem dX11_apply_34 : decode cX11_apply 34 = .ok (.ldiv, 1) := by decide +kernel
theorem dX11_apply_35 : decode cX11_apply 35 = .ok (.putfield 158, 3) := by decide +kernel
theorem dX11_apply_38 : decode cX11_apply 38 = .ok (.iconst 1, 1) := by decide +kernel
theorem dX11_apply_39 : decode cX11_apply 39 = .ok (.ireturn, 1) := by decide +kernel
theorem dX11_apply_40 : decode cX11_apply 40 = .ok (.iload_n 1, 1) := by decide +kernel
theorem dX11_apply_41 : decode cX11_apply 41 = .ok (.bipush 8, 2) := by decide +kernel
theorem dX11_apply_43 : decode cX11_apply 43 = .ok (.if_icmp .ne 9, 3) := by decide +kernel
theorem dX11_apply_46 : decode cX11_apply 46 = .ok (.ldc2_w 162, 3) := by decide +kernel
theorem dX11_apply_49 : decode cX11_apply 49 = .ok (.goto 10, 3) := by decide +kernel
theorem dX11_apply_52 : decode cX11_apply 52 = .ok (.aload_n 0, 1) := by decide +kernel
theorem dX11_apply_53 : decode cX11_apply 53 = .ok (.getfield 19, 3) := by decide +kernel
theorem dX11_apply_56 : decode cX11_apply 56 = .ok (.iload_n 1, 1) := by decide +kernel
theorem dX11_apply_57 : decode cX11_apply 57 = .ok (.iaload, 1) := by decide +kernel
theorem dX11_apply_58 : decode cX11_apply 58 = .ok (.i2l, 1) := by decide +kernel
theorem dX11_apply_59 : decode cX11_apply 59 = .ok (.lstore 4, 2) := by decide +kernel
theorem dX11_apply_61 : decode cX11_apply 61 = .ok (.aload_n 0, 1) := by decide +kernel
theorem dX11_apply_62 : decode cX11_apply 62 = .ok (.getfield 22, 3) := by decide +kernel
theorem dX11_apply_65 : decode cX11_apply 65 = .ok (.iload_n 1, 1) := by decide +kernel
theorem dX11_apply_66 : decode cX11_apply 66 = .ok (.iaload, 1) := by decide +kernel
theorem dX11_apply_67 : decode cX11_apply 67 = .ok (.i2l, 1) := by decide +kernel
theorem dX11_apply_68 : decode cX11_apply 68 = .ok (.lstore 6, 2) := by decide +kernel
theorem dX11_apply_70 : decode cX11_apply 70 = .ok (.lload_n 2, 1) := by decide +kernel
theorem dX11_apply_71 : decode cX11_apply 71 = .ok (.lload 4, 2) := by decide +kernel
theorem dX11_apply_73 : decode cX11_apply 73 = .ok (.invokestatic 164, 3) := by decide +kernel
theorem dX11_apply_76 : decode cX11_apply 76 = .ok (.lstore 8, 2) := by decide +kernel
theorem dX11_apply_78 : decode cX11_apply 78 = .ok (.lload_n 2, 1) := by decide +kernel
theorem dX11_apply_79 : decode cX11_apply 79 = .ok (.lload 4, 2) := by decide +kernel
theorem dX11_apply_81 : decode cX11_apply 81 = .ok (.lmul, 1) := by decide +kernel
theorem dX11_apply_82 : decode cX11_apply 82 = .ok (.lstore 10, 2) := by decide +kernel
theorem dX11_apply_84 : decode cX11_apply 84 = .ok (.lload 10, 2) := by decide +kernel
theorem dX11_apply_86 : decode cX11_apply 86 = .ok (.lload 6, 2) := by decide +kernel
theorem dX11_apply_88 : decode cX11_apply 88 = .ok (.ladd, 1) := by decide +kernel
theorem dX11_apply_89 : decode cX11_apply 89 = .ok (.lstore 12, 2) := by decide +kernel
theorem dX11_apply_91 : decode cX11_apply 91 = .ok (.lload 8, 2) := by decide +kernel
theorem dX11_apply_93 : decode cX11_apply 93 = .ok (.lload 6, 2) := by decide +kernel
theorem dX11_apply_95 : decode cX11_apply 95 = .ok (.bipush 63, 2) := by decide +kernel
theorem dX11_apply_97 : decode cX11_apply 97 = .ok (.lshr, 1) := by decide +kernel
theorem dX11_apply_98 : decode cX11_apply 98 = .ok (.ladd, 1) := by decide +kernel
theorem dX11_apply_99 : decode cX11_apply 99 = .ok (.lstore 8, 2) := by decide +kernel
theorem dX11_apply_101 : decode cX11_apply 101 = .ok (.lload 8, 2) := by decide +kernel
theorem dX11_apply_103 : decode cX11_apply 103 = .ok (.lload 12, 2) := by decide +kernel
theorem dX11_apply_105 : decode cX11_apply 105 = .ok (.lload 10, 2) := by decide +kernel
theorem dX11_apply_107 : decode cX11_apply 107 = .ok (.invokestatic 170, 3) := by decide +kernel
theorem dX11_apply_110 : decode cX11_apply 110 = .ok (.ifCond .ge 7, 3) := by decide +kernel
theorem dX11_apply_113 : decode cX11_apply 113 = .ok (.lconst 1, 1) := by decide +kernel
theorem dX11_apply_114 : decode cX11_apply 114 = .ok (.goto 4, 3) := by decide +kernel
theorem dX11_apply_117 : decode cX11_apply 117 = .ok (.lconst 0, 1) := by decide +kernel
theorem dX11_apply_118 : decode cX11_apply 118 = .ok (.ladd, 1) := by decide +kernel
theorem dX11_apply_119 : decode cX11_apply 119 = .ok (.lstore 8, 2) := by decide +kernel
theorem dX11_apply_121 : decode cX11_apply 121 = .ok (.aload_n 0, 1) := by decide +kernel
theorem dX11_apply_122 : decode cX11_apply 122 = .ok (.lload 12, 2) := by decide +kernel
theorem dX11_apply_124 : decode cX11_apply 124 = .ok (.putfield 158, 3) := by decide +kernel
theorem dX11_apply_127 : decode cX11_apply 127 = .ok (.lload 8, 2) := by decide +kernel
theorem dX11_apply_129 : decode cX11_apply 129 = .ok (.lload 12, 2) := by decide +kernel
theorem dX11_apply_131 : decode cX11_apply 131 = .ok (.bipush 63, 2) := by decide +kernel
theorem dX11_apply_133 : decode cX11_apply 133 = .ok (.lshr, 1) := by decide +kernel
theorem dX11_apply_134 : decode cX11_apply 134 = .ok (.lcmp, 1) := by decide +kernel
theorem dX11_apply_135 : decode cX11_apply 135 = .ok (.ifCond .ne 21, 3) := by decide +kernel
theorem dX11_apply_138 : decode cX11_apply 138 = .ok (.aload_n 0, 1) := by decide +kernel
theorem dX11_apply_139 : decode cX11_apply 139 = .ok (.getfield 13, 3) := by decide +kernel
theorem dX11_apply_142 : decode cX11_apply 142 = .ok (.iload_n 1, 1) := by decide +kernel
theorem dX11_apply_143 : decode cX11_apply 143 = .ok (.iaload, 1) := by decide +kernel
theorem dX11_apply_144 : decode cX11_apply 144 = .ok (.lload 12, 2) := by decide +kernel
theorem dX11_apply_146 : decode cX11_apply 146 = .ok (.invokestatic 176, 3) := by decide +kernel
theorem dX11_apply_149 : decode cX11_apply 149 = .ok (.ifCond .eq 7, 3) := by decide +kernel
theorem dX11_apply_152 : decode cX11_apply 152 = .ok (.iconst 1, 1) := by decide +kernel
theorem dX11_apply_153 : decode cX11_apply 153 = .ok (.goto 4, 3) := by decide +kernel
theorem dX11_apply_156 : decode cX11_apply 156 = .ok (.iconst 0, 1) := by decide +kernel
theorem dX11_apply_157 : decode cX11_apply 157 = .ok (.ireturn, 1) := by decide +kernel
theorem dX11_isAhead_0 : decode cX11_isAhead 0 = .ok (.iconst 0, 1) := by decide +kernel
theorem dX11_isAhead_1 : decode cX11_isAhead 1 = .ok (.istore 5, 2) := by decide +kernel
theorem dX11_isAhead_3 : decode cX11_isAhead 3 = .ok (.iload 5, 2) := by decide +kernel
theorem dX11_isAhead_5 : decode cX11_isAhead 5 = .ok (.iload 4, 2) := by decide +kernel
theorem dX11_isAhead_7 : decode cX11_isAhead 7 = .ok (.if_icmp .ge 67, 3) := by decide +kernel
theorem dX11_isAhead_10 : decode cX11_isAhead 10 = .ok (.iload 5, 2) := by decide +kernel
theorem dX11_isAhead_12 : decode cX11_isAhead 12 = .ok (.iload 4, 2) := by decide +kernel
theorem dX11_isAhead_14 : decode cX11_isAhead 14 = .ok (.iconst 1, 1) := by decide +kernel
theorem dX11_isAhead_15 : decode cX11_isAhead 15 = .ok (.isub, 1) := by decide +kernel
theorem dX11_isAhead_16 : decode cX11_isAhead 16 = .ok (.if_icmp .ne 7, 3) := by decide +kernel
theorem dX11_isAhead_19 : decode cX11_isAhead 19 = .ok (.iload_n 2, 1) := by decide +kernel
theorem dX11_isAhead_20 : decode cX11_isAhead 20 = .ok (.goto 12, 3) := by decide +kernel
theorem dX11_isAhead_23 : decode cX11_isAhead 23 = .ok (.aload_n 0, 1) := by decide +kernel
theorem dX11_isAhead_24 : decode cX11_isAhead 24 = .ok (.getfield 87, 3) := by decide +kernel
theorem dX11_isAhead_27 : decode cX11_isAhead 27 = .ok (.iload_n 1, 1) := by decide +kernel
theorem dX11_isAhead_28 : decode cX11_isAhead 28 = .ok (.iload 5, 2) := by decide +kernel
theorem dX11_isAhead_30 : decode cX11_isAhead 30 = .ok (.iadd, 1) := by decide +kernel
theorem dX11_isAhead_31 : decode cX11_isAhead 31 = .ok (.iaload, 1) := by decide +kernel
theorem dX11_isAhead_32 : decode cX11_isAhead 32 = .ok (.istore 6, 2) := by decide +kernel
theorem dX11_isAhead_34 : decode cX11_isAhead 34 = .ok (.iload 6, 2) := by decide +kernel
theorem dX11_isAhead_36 : decode cX11_isAhead 36 = .ok (.aload_n 0, 1) := by decide +kernel
theorem dX11_isAhead_37 : decode cX11_isAhead 37 = .ok (.getfield 87, 3) := by decide +kernel
theorem dX11_isAhead_40 : decode cX11_isAhead 40 = .ok (.iload_n 3, 1) := by decide +kernel
theorem dX11_isAhead_41 : decode cX11_isAhead 41 = .ok (.iload 5, 2) := by decide +kernel
theorem dX11_isAhead_43 : decode cX11_isAhead 43 = .ok (.iadd, 1) := by decide +kernel
theorem dX11_isAhead_44 : decode cX11_isAhead 44 = .ok (.iaload, 1) := by decide +kernel
theorem dX11_isAhead_45 : decode cX11_isAhead 45 = .ok (.if_icmp .eq 23, 3) := by decide +kernel
theorem dX11_isAhead_48 : decode cX11_isAhead 48 = .ok (.iload 6, 2) := by decide +kernel
theorem dX11_isAhead_50 : decode cX11_isAhead 50 = .ok (.aload_n 0, 1) := by decide +kernel
theorem dX11_isAhead_51 : decode cX11_isAhead 51 = .ok (.getfield 87, 3) := by decide +kernel
theorem dX11_isAhead_54 : decode cX11_isAhead 54 = .ok (.iload_n 3, 1) := by decide +kernel
theorem dX11_isAhead_55 : decode cX11_isAhead 55 = .ok (.iload 5, 2) := by decide +kernel
theorem dX11_isAhead_57 : decode cX11_isAhead 57 = .ok (.iadd, 1) := by decide +kernel
theorem dX11_isAhead_58 : decode cX11_isAhead 58 = .ok (.iaload, 1) := by decide +kernel
theorem dX11_isAhead_59 : decode cX11_isAhead 59 = .ok (.if_icmp .ge 7, 3) := by decide +kernel
theorem dX11_isAhead_62 : decode cX11_isAhead 62 = .ok (.iconst 1, 1) := by decide +kernel
theorem dX11_isAhead_63 : decode cX11_isAhead 63 = .ok (.goto 4, 3) := by decide +kernel
theorem dX11_isAhead_66 : decode cX11_isAhead 66 = .ok (.iconst 0, 1) := by decide +kernel
theorem dX11_isAhead_67 : decode cX11_isAhead 67 = .ok (.ireturn, 1) := by decide +kernel
theorem dX11_isAhead_68 : decode cX11_isAhead 68 = .ok (.iinc 5 1, 3) := by decide +kernel
theorem dX11_isAhead_71 : decode cX11_isAhead 71 = .ok (.goto (-68), 3) := by decide +kernel
theorem dX11_isAhead_74 : decode cX11_isAhead 74 = .ok (.iconst 0, 1) := by decide +kernel
theorem dX11_isAhead_75 : decode cX11_isAhead 75 = .ok (.ireturn, 1) := by decide +kernel
theorem dX11_turningsFrom_0 : decode cX11_turningsFrom 0 = .ok (.iconst 0, 1) := by decide +kernel
theorem dX11_turningsFrom_1 : decode cX11_turningsFrom 1 = .ok (.istore_n 2, 1) := by decide +kernel
theorem dX11_turningsFrom_2 : decode cX11_turningsFrom 2 = .ok (.iload_n 2, 1) := by decide +kernel
theorem dX11_turningsFrom_3 : decode cX11_turningsFrom 3 = .ok (.bipush 49, 2) := by decide +kernel
theorem dX11_turningsFrom_5 : decode cX11_turningsFrom 5 = .ok (.if_icmp .ge 26, 3) := by decide +kernel
theorem dX11_turningsFrom_8 : decode cX11_turningsFrom 8 = .ok (.aload_n 0, 1) := by decide +kernel
theorem dX11_turningsFrom_9 : decode cX11_turningsFrom 9 = .ok (.getfield 84, 3) := by decide +kernel
theorem dX11_turningsFrom_12 : decode cX11_turningsFrom 12 = .ok (.iload_n 2, 1) := by decide +kernel
theorem dX11_turningsFrom_13 : decode cX11_turningsFrom 13 = .ok (.iload_n 2, 1) := by decide +kernel
theorem dX11_turningsFrom_14 : decode cX11_turningsFrom 14 = .ok (.iload_n 1, 1) := by decide +kernel
theorem dX11_turningsFrom_15 : decode cX11_turningsFrom 15 = .ok (.if_icmp .ne 7, 3) := by decide +kernel
theorem dX11_turningsFrom_18 : decode cX11_turningsFrom 18 = .ok (.iconst 0, 1) := by decide +kernel
theorem dX11_turningsFrom_19 : decode cX11_turningsFrom 19 = .ok (.goto 5, 3) := by decide +kernel
theorem dX11_turningsFrom_22 : decode cX11_turningsFrom 22 = .ok (.ldc 180, 2) := by decide +kernel
theorem dX11_turningsFrom_24 : decode cX11_turningsFrom 24 = .ok (.iastore, 1) := by decide +kernel
theorem dX11_turningsFrom_25 : decode cX11_turningsFrom 25 = .ok (.iinc 2 1, 3) := by decide +kernel
theorem dX11_turningsFrom_28 : decode cX11_turningsFrom 28 = .ok (.goto (-26), 3) := by decide +kernel
theorem dX11_turningsFrom_31 : decode cX11_turningsFrom 31 = .ok (.iconst 1, 1) := by decide +kernel
theorem dX11_turningsFrom_32 : decode cX11_turningsFrom 32 = .ok (.istore_n 2, 1) := by decide +kernel
theorem dX11_turningsFrom_33 : decode cX11_turningsFrom 33 = .ok (.iload_n 2, 1) := by decide +kernel
theorem dX11_turningsFrom_34 : decode cX11_turningsFrom 34 = .ok (.bipush 7, 2) := by decide +kernel
theorem dX11_turningsFrom_36 : decode cX11_turningsFrom 36 = .ok (.if_icmp .ge 219, 3) := by decide +kernel
theorem dX11_turningsFrom_39 : decode cX11_turningsFrom 39 = .ok (.iconst 0, 1) := by decide +kernel
theorem dX11_turningsFrom_40 : decode cX11_turningsFrom 40 = .ok (.istore_n 3, 1) := by decide +kernel
theorem dX11_turningsFrom_41 : decode cX11_turningsFrom 41 = .ok (.iload_n 3, 1) := by decide +kernel
theorem dX11_turningsFrom_42 : decode cX11_turningsFrom 42 = .ok (.aload_n 0, 1) := by decide +kernel
theorem dX11_turningsFrom_43 : decode cX11_turningsFrom 43 = .ok (.getfield 127, 3) := by decide +kernel
theorem dX11_turningsFrom_46 : decode cX11_turningsFrom 46 = .ok (.if_icmp .ge 203, 3) := by decide +kernel
theorem dX11_turningsFrom_49 : decode cX11_turningsFrom 49 = .ok (.aload_n 0, 1) := by decide +kernel
theorem dX11_turningsFrom_50 : decode cX11_turningsFrom 50 = .ok (.getfield 84, 3) := by decide +kernel
theorem dX11_turningsFrom_53 : decode cX11_turningsFrom 53 = .ok (.bipush 7, 2) := by decide +kernel
theorem dX11_turningsFrom_55 : decode cX11_turningsFrom 55 = .ok (.iload_n 2, 1) := by decide +kernel
theorem dX11_turningsFrom_56 : decode cX11_turningsFrom 56 = .ok (.iconst 1, 1) := by decide +kernel
theorem dX11_turningsFrom_57 : decode cX11_turningsFrom 57 = .ok (.isub, 1) := by decide +kernel
theorem dX11_turningsFrom_58 : decode cX11_turningsFrom 58 = .ok (.imul, 1) := by decide +kernel
theorem dX11_turningsFrom_59 : decode cX11_turningsFrom 59 = .ok (.aload_n 0, 1) := by decide +kernel
theorem dX11_turningsFrom_60 : decode cX11_turningsFrom 60 = .ok (.getfield 7, 3) := by decide +kernel
theorem dX11_turningsFrom_63 : decode cX11_turningsFrom 63 = .ok (.iload_n 3, 1) := by decide +kernel
theorem dX11_turningsFrom_64 : decode cX11_turningsFrom 64 = .ok (.iaload, 1) := by decide +kernel
theorem dX11_turningsFrom_65 : decode cX11_turningsFrom 65 = .ok (.iadd, 1) := by decide +kernel
theorem dX11_turningsFrom_66 : decode cX11_turningsFrom 66 = .ok (.iaload, 1) := by decide +kernel
theorem dX11_turningsFrom_67 : decode cX11_turningsFrom 67 = .ok (.istore 4, 2) := by decide +kernel
theorem dX11_turningsFrom_69 : decode cX11_turningsFrom 69 = .ok (.bipush 7, 2) := by decide +kernel
theorem dX11_turningsFrom_71 : decode cX11_turningsFrom 71 = .ok (.iload_n 2, 1) := by decide +kernel
theorem dX11_turningsFrom_72 : decode cX11_turningsFrom 72 = .ok (.imul, 1) := by decide +kernel
theorem dX11_turningsFrom_73 : decode cX11_turningsFrom 73 = .ok (.aload_n 0, 1) := by decide +kernel
theorem dX11_turningsFrom_74 : decode cX11_turningsFrom 74 = .ok (.getfield 13, 3) := by decide +kernel
theorem dX11_turningsFrom_77 : decode cX11_turningsFrom 77 = .ok (.iload_n 3, 1) := by decide +kernel
theorem dX11_turningsFrom_78 : decode cX11_turningsFrom 78 = .ok (.iaload, 1) := by decide +kernel
theorem dX11_turningsFrom_79 : decode cX11_turningsFrom 79 = .ok (.iadd, 1) := by decide +kernel
theorem dX11_turningsFrom_80 : decode cX11_turningsFrom 80 = .ok (.istore 5, 2) := by decide +kernel
theorem dX11_turningsFrom_82 : decode cX11_turningsFrom 82 = .ok (.bipush 6, 2) := by decide +kernel
theorem dX11_turningsFrom_84 : decode cX11_turningsFrom 84 = .ok (.bipush 7, 2) := by decide +kernel
theorem dX11_turningsFrom_86 : decode cX11_turningsFrom 86 = .ok (.iload_n 2, 1) := by decide +kernel
theorem dX11_turningsFrom_87 : decode cX11_turningsFrom 87 = .ok (.iconst 1, 1) := by decide +kernel
theorem dX11_turningsFrom_88 : decode cX11_turningsFrom 88 = .ok (.isub, 1) := by decide +kernel
theorem dX11_turningsFrom_89 : decode cX11_turningsFrom 89 = .ok (.imul, 1) := by decide +kernel
theorem dX11_turningsFrom_90 : decode cX11_turningsFrom 90 = .ok (.aload_n 0, 1) := by decide +kernel
theorem dX11_turningsFrom_91 : decode cX11_turningsFrom 91 = .ok (.getfield 7, 3) := by decide +kernel
theorem dX11_turningsFrom_94 : decode cX11_turningsFrom 94 = .ok (.iload_n 3, 1) := by decide +kernel
theorem dX11_turningsFrom_95 : decode cX11_turningsFrom 95 = .ok (.iaload, 1) := by decide +kernel
theorem dX11_turningsFrom_96 : decode cX11_turningsFrom 96 = .ok (.iadd, 1) := by decide +kernel
theorem dX11_turningsFrom_97 : decode cX11_turningsFrom 97 = .ok (.imul, 1) := by decide +kernel
theorem dX11_turningsFrom_98 : decode cX11_turningsFrom 98 = .ok (.istore 6, 2) := by decide +kernel
theorem dX11_turningsFrom_100 : decode cX11_turningsFrom 100 = .ok (.iload 4, 2) := by decide +kernel
theorem dX11_turningsFrom_102 : decode cX11_turningsFrom 102 = .ok (.aload_n 0, 1) := by decide +kernel
theorem dX11_turningsFrom_103 : decode cX11_turningsFrom 103 = .ok (.getfield 16, 3) := by decide +kernel
theorem dX11_turningsFrom_106 : decode cX11_turningsFrom 106 = .ok (.iload_n 3, 1) := by decide +kernel
theorem dX11_turningsFrom_107 : decode cX11_turningsFrom 107 = .ok (.iaload, 1) := by decide +kernel
theorem dX11_turningsFrom_108 : decode cX11_turningsFrom 108 = .ok (.iadd, 1) := by decide +kernel
theorem dX11_turningsFrom_109 : decode cX11_turningsFrom 109 = .ok (.istore 7, 2) := by decide +kernel
theorem dX11_turningsFrom_111 : decode cX11_turningsFrom 111 = .ok (.aload_n 0, 1) := by decide +kernel
theorem dX11_turningsFrom_112 : decode cX11_turningsFrom 112 = .ok (.getfield 25, 3) := by decide +kernel
theorem dX11_turningsFrom_115 : decode cX11_turningsFrom 115 = .ok (.iload_n 3, 1) := by decide +kernel
theorem dX11_turningsFrom_116 : decode cX11_turningsFrom 116 = .ok (.baload, 1) := by decide +kernel
theorem dX11_turningsFrom_117 : decode cX11_turningsFrom 117 = .ok (.ifCond .eq 54, 3) := by decide +kernel
theorem dX11_turningsFrom_120 : decode cX11_turningsFrom 120 = .ok (.iload 4, 2) := by decide +kernel
theorem dX11_turningsFrom_122 : decode cX11_turningsFrom 122 = .ok (.ldc 180, 2) := by decide +kernel
theorem dX11_turningsFrom_124 : decode cX11_turningsFrom 124 = .ok (.if_icmp .ge 47, 3) := by decide +kernel
theorem dX11_turningsFrom_127 : decode cX11_turningsFrom 127 = .ok (.iload 7, 2) := by decide +kernel
theorem dX11_turningsFrom_129 : decode cX11_turningsFrom 129 = .ok (.aload_n 0, 1) := by decide +kernel
theorem dX11_turningsFrom_130 : decode cX11_turningsFrom 130 = .ok (.getfield 84, 3) := by decide +kernel
theorem dX11_turningsFrom_133 : decode cX11_turningsFrom 133 = .ok (.iload 5, 2) := by decide +kernel
theorem dX11_turningsFrom_135 : decode cX11_turningsFrom 135 = .ok (.iaload, 1) := by decide +kernel
theorem dX11_turningsFrom_136 : decode cX11_turningsFrom 136 = .ok (.if_icmp .lt 31, 3) := by decide +kernel
theorem dX11_turningsFrom_139 : decode cX11_turningsFrom 139 = .ok (.iload 7, 2) := by decide +kernel
theorem dX11_turningsFrom_141 : decode cX11_turningsFrom 141 = .ok (.aload_n 0, 1) := by decide +kernel
theorem dX11_turningsFrom_142 : decode cX11_turningsFrom 142 = .ok (.getfield 84, 3) := by decide +kernel
theorem dX11_turningsFrom_145 : decode cX11_turningsFrom 145 = .ok (.iload 5, 2) := by decide +kernel
theorem dX11_turningsFrom_147 : decode cX11_turningsFrom 147 = .ok (.iaload, 1) := by decide +kernel
theorem dX11_turningsFrom_148 : decode cX11_turningsFrom 148 = .ok (.if_icmp .ne 23, 3) := by decide +kernel
theorem dX11_turningsFrom_151 : decode cX11_turningsFrom 151 = .ok (.aload_n 0, 1) := by decide +kernel
theorem dX11_turningsFrom_152 : decode cX11_turningsFrom 152 = .ok (.iload 6, 2) := by decide +kernel
theorem dX11_turningsFrom_154 : decode cX11_turningsFrom 154 = .ok (.iload_n 3, 1) := by decide +kernel
theorem dX11_turningsFrom_155 : decode cX11_turningsFrom 155 = .ok (.bipush 6, 2) := by decide +kernel
theorem dX11_turningsFrom_157 : decode cX11_turningsFrom 157 = .ok (.iload 5, 2) := by decide +kernel
theorem dX11_turningsFrom_159 : decode cX11_turningsFrom 159 = .ok (.imul, 1) := by decide +kernel
theorem dX11_turningsFrom_160 : decode cX11_turningsFrom 160 = .ok (.iload_n 2, 1) := by decide +kernel
theorem dX11_turningsFrom_161 : decode cX11_turningsFrom 161 = .ok (.invokevirtual 181, 3) := by decide +kernel
theorem dX11_turningsFrom_164 : decode cX11_turningsFrom 164 = .ok (.ifCond .eq 7, 3) := by decide +kernel
theorem dX11_turningsFrom_167 : decode cX11_turningsFrom 167 = .ok (.iconst 1, 1) := by decide +kernel
theorem dX11_turningsFrom_168 : decode cX11_turningsFrom 168 = .ok (.goto 4, 3) := by decide +kernel
theorem dX11_turningsFrom_171 : decode cX11_turningsFrom 171 = .ok (.iconst 0, 1) := by decide +kernel
theorem dX11_turningsFrom_172 : decode cX11_turningsFrom 172 = .ok (.istore 8, 2) := by decide +kernel
theorem dX11_turningsFrom_174 : decode cX11_turningsFrom 174 = .ok (.iload 8, 2) := by decide +kernel
theorem dX11_turningsFrom_176 : decode cX11_turningsFrom 176 = .ok (.ifCond .eq 67, 3) := by decide +kernel
theorem dX11_turningsFrom_179 : decode cX11_turningsFrom 179 = .ok (.aload_n 0, 1) := by decide +kernel
theorem dX11_turningsFrom_180 : decode cX11_turningsFrom 180 = .ok (.getfield 84, 3) := by decide +kernel
theorem dX11_turningsFrom_183 : decode cX11_turningsFrom 183 = .ok (.iload 5, 2) := by decide +kernel
theorem dX11_turningsFrom_185 : decode cX11_turningsFrom 185 = .ok (.iload 7, 2) := by decide +kernel
theorem dX11_turningsFrom_187 : decode cX11_turningsFrom 187 = .ok (.iastore, 1) := by decide +kernel
theorem dX11_turningsFrom_188 : decode cX11_turningsFrom 188 = .ok (.iconst 0, 1) := by decide +kernel
theorem dX11_turningsFrom_189 : decode cX11_turningsFrom 189 = .ok (.istore 9, 2) := by decide +kernel
theorem dX11_turningsFrom_191 : decode cX11_turningsFrom 191 = .ok (.iload 9, 2) := by decide +kernel
theorem dX11_turningsFrom_193 : decode cX11_turningsFrom 193 = .ok (.iload_n 2, 1) := by decide +kernel
theorem dX11_turningsFrom_194 : decode cX11_turningsFrom 194 = .ok (.iconst 1, 1) := by decide +kernel
theorem dX11_turningsFrom_195 : decode cX11_turningsFrom 195 = .ok (.isub, 1) := by decide +kernel
theorem dX11_turningsFrom_196 : decode cX11_turningsFrom 196 = .ok (.if_icmp .ge 32, 3) := by decide +kernel
theorem dX11_turningsFrom_199 : decode cX11_turningsFrom 199 = .ok (.aload_n 0, 1) := by decide +kernel
theorem dX11_turningsFrom_200 : decode cX11_turningsFrom 200 = .ok (.getfield 87, 3) := by decide +kernel
theorem dX11_turningsFrom_203 : decode cX11_turningsFrom 203 = .ok (.bipush 6, 2) := by decide +kernel
theorem dX11_turningsFrom_205 : decode cX11_turningsFrom 205 = .ok (.iload 5, 2) := by decide +kernel
theorem dX11_turningsFrom_207 : decode cX11_turningsFrom 207 = .ok (.imul, 1) := by decide +kernel
theorem dX11_turningsFrom_208 : decode cX11_turningsFrom 208 = .ok (.iload 9, 2) := by decide +kernel
theorem dX11_turningsFrom_210 : decode cX11_turningsFrom 210 = .ok (.iadd, 1) := by decide +kernel
theorem dX11_turningsFrom_211 : decode cX11_turningsFrom 211 = .ok (.aload_n 0, 1) := by decide +kernel
theorem dX11_turningsFrom_212 : decode cX11_turningsFrom 212 = .ok (.getfield 87, 3) := by decide +kernel
theorem dX11_turningsFrom_215 : decode cX11_turningsFrom 215 = .ok (.iload 6, 2) := by decide +kernel
theorem dX11_turningsFrom_217 : decode cX11_turningsFrom 217 = .ok (.iload 9, 2) := by decide +kernel
theorem dX11_turningsFrom_219 : decode cX11_turningsFrom 219 = .ok (.iadd, 1) := by decide +kernel
theorem dX11_turningsFrom_220 : decode cX11_turningsFrom 220 = .ok (.iaload, 1) := by decide +kernel
theorem dX11_turningsFrom_221 : decode cX11_turningsFrom 221 = .ok (.iastore, 1) := by decide +kernel
theorem dX11_turningsFrom_222 : decode cX11_turningsFrom 222 = .ok (.iinc 9 1, 3) := by decide +kernel
theorem dX11_turningsFrom_225 : decode cX11_turningsFrom 225 = .ok (.goto (-34), 3) := by decide +kernel
theorem dX11_turningsFrom_228 : decode cX11_turningsFrom 228 = .ok (.aload_n 0, 1) := by decide +kernel
theorem dX11_turningsFrom_229 : decode cX11_turningsFrom 229 = .ok (.getfield 87, 3) := by decide +kernel
theorem dX11_turningsFrom_232 : decode cX11_turningsFrom 232 = .ok (.bipush 6, 2) := by decide +kernel
theorem dX11_turningsFrom_234 : decode cX11_turningsFrom 234 = .ok (.iload 5, 2) := by decide +kernel
theorem dX11_turningsFrom_236 : decode cX11_turningsFrom 236 = .ok (.imul, 1) := by decide +kernel
theorem dX11_turningsFrom_237 : decode cX11_turningsFrom 237 = .ok (.iload_n 2, 1) := by decide +kernel
theorem dX11_turningsFrom_238 : decode cX11_turningsFrom 238 = .ok (.iadd, 1) := by decide +kernel
theorem dX11_turningsFrom_239 : decode cX11_turningsFrom 239 = .ok (.iconst 1, 1) := by decide +kernel
theorem dX11_turningsFrom_240 : decode cX11_turningsFrom 240 = .ok (.isub, 1) := by decide +kernel
theorem dX11_turningsFrom_241 : decode cX11_turningsFrom 241 = .ok (.iload_n 3, 1) := by decide +kernel
theorem dX11_turningsFrom_242 : decode cX11_turningsFrom 242 = .ok (.iastore, 1) := by decide +kernel
theorem dX11_turningsFrom_243 : decode cX11_turningsFrom 243 = .ok (.iinc 3 1, 3) := by decide +kernel
theorem dX11_turningsFrom_246 : decode cX11_turningsFrom 246 = .ok (.goto (-205), 3) := by decide +kernel
theorem dX11_turningsFrom_249 : decode cX11_turningsFrom 249 = .ok (.iinc 2 1, 3) := by decide +kernel
theorem dX11_turningsFrom_252 : decode cX11_turningsFrom 252 = .ok (.goto (-219), 3) := by decide +kernel
theorem dX11_turningsFrom_255 : decode cX11_turningsFrom 255 = .ok (.iconst 0, 1) := by decide +kernel
theorem dX11_turningsFrom_256 : decode cX11_turningsFrom 256 = .ok (.istore_n 2, 1) := by decide +kernel
theorem dX11_turningsFrom_257 : decode cX11_turningsFrom 257 = .ok (.iload_n 2, 1) := by decide +kernel
theorem dX11_turningsFrom_258 : decode cX11_turningsFrom 258 = .ok (.bipush 7, 2) := by decide +kernel
theorem dX11_turningsFrom_260 : decode cX11_turningsFrom 260 = .ok (.if_icmp .ge 139, 3) := by decide +kernel
theorem dX11_turningsFrom_263 : decode cX11_turningsFrom 263 = .ok (.iconst 0, 1) := by decide +kernel
theorem dX11_turningsFrom_264 : decode cX11_turningsFrom 264 = .ok (.istore_n 3, 1) := by decide +kernel
theorem dX11_turningsFrom_265 : decode cX11_turningsFrom 265 = .ok (.iconst 1, 1) := by decide +kernel
theorem dX11_turningsFrom_266 : decode cX11_turningsFrom 266 = .ok (.istore 4, 2) := by decide +kernel
theorem dX11_turningsFrom_268 : decode cX11_turningsFrom 268 = .ok (.iload 4, 2) := by decide +kernel
theorem dX11_turningsFrom_270 : decode cX11_turningsFrom 270 = .ok (.bipush 7, 2) := by decide +kernel
theorem dX11_turningsFrom_272 : decode cX11_turningsFrom 272 = .ok (.if_icmp .ge 42, 3) := by decide +kernel
theorem dX11_turningsFrom_275 : decode cX11_turningsFrom 275 = .ok (.aload_n 0, 1) := by decide +kernel
theorem dX11_turningsFrom_276 : decode cX11_turningsFrom 276 = .ok (.getfield 84, 3) := by decide +kernel
theorem dX11_turningsFrom_279 : decode cX11_turningsFrom 279 = .ok (.bipush 7, 2) := by decide +kernel
theorem dX11_turningsFrom_281 : decode cX11_turningsFrom 281 = .ok (.iload 4, 2) := by decide +kernel
theorem dX11_turningsFrom_283 : decode cX11_turningsFrom 283 = .ok (.imul, 1) := by decide +kernel
theorem dX11_turningsFrom_284 : decode cX11_turningsFrom 284 = .ok (.iload_n 2, 1) := by decide +kernel
theorem dX11_turningsFrom_285 : decode cX11_turningsFrom 285 = .ok (.iadd, 1) := by decide +kernel
theorem dX11_turningsFrom_286 : decode cX11_turningsFrom 286 = .ok (.iaload, 1) := by decide +kernel
theorem dX11_turningsFrom_287 : decode cX11_turningsFrom 287 = .ok (.aload_n 0, 1) := by decide +kernel
theorem dX11_turningsFrom_288 : decode cX11_turningsFrom 288 = .ok (.getfield 84, 3) := by decide +kernel
theorem dX11_turningsFrom_291 : decode cX11_turningsFrom 291 = .ok (.bipush 7, 2) := by decide +kernel
theorem dX11_turningsFrom_293 : decode cX11_turningsFrom 293 = .ok (.iload_n 3, 1) := by decide +kernel
theorem dX11_turningsFrom_294 : decode cX11_turningsFrom 294 = .ok (.imul, 1) := by decide +kernel
theorem dX11_turningsFrom_295 : decode cX11_turningsFrom 295 = .ok (.iload_n 2, 1) := by decide +kernel
theorem dX11_turningsFrom_296 : decode cX11_turningsFrom 296 = .ok (.iadd, 1) := by decide +kernel
theorem dX11_turningsFrom_297 : decode cX11_turningsFrom 297 = .ok (.iaload, 1) := by decide +kernel
theorem dX11_turningsFrom_298 : decode cX11_turningsFrom 298 = .ok (.if_icmp .ge 8, 3) := by decide +kernel
theorem dX11_turningsFrom_301 : decode cX11_turningsFrom 301 = .ok (.iload 4, 2) := by decide +kernel
theorem dX11_turningsFrom_303 : decode cX11_turningsFrom 303 = .ok (.goto 4, 3) := by decide +kernel
theorem dX11_turningsFrom_306 : decode cX11_turningsFrom 306 = .ok (.iload_n 3, 1) := by decide +kernel
theorem dX11_turningsFrom_307 : decode cX11_turningsFrom 307 = .ok (.istore_n 3, 1) := by decide +kernel
theorem dX11_turningsFrom_308 : decode cX11_turningsFrom 308 = .ok (.iinc 4 1, 3) := by decide +kernel
theorem dX11_turningsFrom_311 : decode cX11_turningsFrom 311 = .ok (.goto (-43), 3) := by decide +kernel
theorem dX11_turningsFrom_314 : decode cX11_turningsFrom 314 = .ok (.bipush 7, 2) := by decide +kernel
theorem dX11_turningsFrom_316 : decode cX11_turningsFrom 316 = .ok (.iload_n 1, 1) := by decide +kernel
theorem dX11_turningsFrom_317 : decode cX11_turningsFrom 317 = .ok (.imul, 1) := by decide +kernel
theorem dX11_turningsFrom_318 : decode cX11_turningsFrom 318 = .ok (.iload_n 2, 1) := by decide +kernel
theorem dX11_turningsFrom_319 : decode cX11_turningsFrom 319 = .ok (.iadd, 1) := by decide +kernel
theorem dX11_turningsFrom_320 : decode cX11_turningsFrom 320 = .ok (.istore 4, 2) := by decide +kernel
theorem dX11_turningsFrom_322 : decode cX11_turningsFrom 322 = .ok (.aload_n 0, 1) := by decide +kernel
theorem dX11_turningsFrom_323 : decode cX11_turningsFrom 323 = .ok (.getfield 75, 3) := by decide +kernel
theorem dX11_turningsFrom_326 : decode cX11_turningsFrom 326 = .ok (.iload 4, 2) := by decide +kernel
theorem dX11_turningsFrom_328 : decode cX11_turningsFrom 328 = .ok (.aload_n 0, 1) := by decide +kernel
theorem dX11_turningsFrom_329 : decode cX11_turningsFrom 329 = .ok (.getfield 84, 3) := by decide +kernel
theorem dX11_turningsFrom_332 : decode cX11_turningsFrom 332 = .ok (.bipush 7, 2) := by decide +kernel
theorem dX11_turningsFrom_334 : decode cX11_turningsFrom 334 = .ok (.iload_n 3, 1) := by decide +kernel
theorem dX11_turningsFrom_335 : decode cX11_turningsFrom 335 = .ok (.imul, 1) := by decide +kernel
theorem dX11_turningsFrom_336 : decode cX11_turningsFrom 336 = .ok (.iload_n 2, 1) := by decide +kernel
theorem dX11_turningsFrom_337 : decode cX11_turningsFrom 337 = .ok (.iadd, 1) := by decide +kernel
theorem dX11_turningsFrom_338 : decode cX11_turningsFrom 338 = .ok (.iaload, 1) := by decide +kernel
theorem dX11_turningsFrom_339 : decode cX11_turningsFrom 339 = .ok (.iastore, 1) := by decide +kernel
theorem dX11_turningsFrom_340 : decode cX11_turningsFrom 340 = .ok (.aload_n 0, 1) := by decide +kernel
theorem dX11_turningsFrom_341 : decode cX11_turningsFrom 341 = .ok (.getfield 78, 3) := by decide +kernel
theorem dX11_turningsFrom_344 : decode cX11_turningsFrom 344 = .ok (.iload 4, 2) := by decide +kernel
theorem dX11_turningsFrom_346 : decode cX11_turningsFrom 346 = .ok (.iload_n 3, 1) := by decide +kernel
theorem dX11_turningsFrom_347 : decode cX11_turningsFrom 347 = .ok (.iastore, 1) := by decide +kernel
theorem dX11_turningsFrom_348 : decode cX11_turningsFrom 348 = .ok (.iconst 0, 1) := by decide +kernel
theorem dX11_turningsFrom_349 : decode cX11_turningsFrom 349 = .ok (.istore 5, 2) := by decide +kernel
theorem dX11_turningsFrom_351 : decode cX11_turningsFrom 351 = .ok (.iload 5, 2) := by decide +kernel
theorem dX11_turningsFrom_353 : decode cX11_turningsFrom 353 = .ok (.iload_n 3, 1) := by decide +kernel
theorem dX11_turningsFrom_354 : decode cX11_turningsFrom 354 = .ok (.if_icmp .ge 39, 3) := by decide +kernel
theorem dX11_turningsFrom_357 : decode cX11_turningsFrom 357 = .ok (.aload_n 0, 1) := by decide +kernel
theorem dX11_turningsFrom_358 : decode cX11_turningsFrom 358 = .ok (.getfield 81, 3) := by decide +kernel
theorem dX11_turningsFrom_361 : decode cX11_turningsFrom 361 = .ok (.bipush 6, 2) := by decide +kernel
theorem dX11_turningsFrom_363 : decode cX11_turningsFrom 363 = .ok (.iload 4, 2) := by decide +kernel
theorem dX11_turningsFrom_365 : decode cX11_turningsFrom 365 = .ok (.imul, 1) := by decide +kernel
theorem dX11_turningsFrom_366 : decode cX11_turningsFrom 366 = .ok (.iload 5, 2) := by decide +kernel
theorem dX11_turningsFrom_368 : decode cX11_turningsFrom 368 = .ok (.iadd, 1) := by decide +kernel
theorem dX11_turningsFrom_369 : decode cX11_turningsFrom 369 = .ok (.aload_n 0, 1) := by decide +kernel
theorem dX11_turningsFrom_370 : decode cX11_turningsFrom 370 = .ok (.getfield 87, 3) := by decide +kernel
theorem dX11_turningsFrom_373 : decode cX11_turningsFrom 373 = .ok (.bipush 6, 2) := by decide +kernel
theorem dX11_turningsFrom_375 : decode cX11_turningsFrom 375 = .ok (.bipush 7, 2) := by decide +kernel
theorem dX11_turningsFrom_377 : decode cX11_turningsFrom 377 = .ok (.iload_n 3, 1) := by decide +kernel
theorem dX11_turningsFrom_378 : decode cX11_turningsFrom 378 = .ok (.imul, 1) := by decide +kernel
theorem dX11_turningsFrom_379 : decode cX11_turningsFrom 379 = .ok (.iload_n 2, 1) := by decide +kernel
theorem dX11_turningsFrom_380 : decode cX11_turningsFrom 380 = .ok (.iadd, 1) := by decide +kernel
theorem dX11_turningsFrom_381 : decode cX11_turningsFrom 381 = .ok (.imul, 1) := by decide +kernel
theorem dX11_turningsFrom_382 : decode cX11_turningsFrom 382 = .ok (.iload 5, 2) := by decide +kernel
theorem dX11_turningsFrom_384 : decode cX11_turningsFrom 384 = .ok (.iadd, 1) := by decide +kernel
theorem dX11_turningsFrom_385 : decode cX11_turningsFrom 385 = .ok (.iaload, 1) := by decide +kernel
theorem dX11_turningsFrom_386 : decode cX11_turningsFrom 386 = .ok (.iastore, 1) := by decide +kernel
theorem dX11_turningsFrom_387 : decode cX11_turningsFrom 387 = .ok (.iinc 5 1, 3) := by decide +kernel
theorem dX11_turningsFrom_390 : decode cX11_turningsFrom 390 = .ok (.goto (-39), 3) := by decide +kernel
theorem dX11_turningsFrom_393 : decode cX11_turningsFrom 393 = .ok (.iinc 2 1, 3) := by decide +kernel
theorem dX11_turningsFrom_396 : decode cX11_turningsFrom 396 = .ok (.goto (-139), 3) := by decide +kernel
theorem dX11_turningsFrom_399 : decode cX11_turningsFrom 399 = .ok (.return_, 1) := by decide +kernel
theorem dX11_measure_0 : decode cX11_measure 0 = .ok (.iconst 0, 1) := by decide +kernel
theorem dX11_measure_1 : decode cX11_measure 1 = .ok (.istore_n 1, 1) := by decide +kernel
theorem dX11_measure_2 : decode cX11_measure 2 = .ok (.iload_n 1, 1) := by decide +kernel
theorem dX11_measure_3 : decode cX11_measure 3 = .ok (.bipush 7, 2) := by decide +kernel
theorem dX11_measure_5 : decode cX11_measure 5 = .ok (.if_icmp .ge 14, 3) := by decide +kernel
theorem dX11_measure_8 : decode cX11_measure 8 = .ok (.aload_n 0, 1) := by decide +kernel
theorem dX11_measure_9 : decode cX11_measure 9 = .ok (.iload_n 1, 1) := by decide +kernel
theorem dX11_measure_10 : decode cX11_measure 10 = .ok (.invokevirtual 185, 3) := by decide +kernel
theorem dX11_measure_13 : decode cX11_measure 13 = .ok (.iinc 1 1, 3) := by decide +kernel
theorem dX11_measure_16 : decode cX11_measure 16 = .ok (.goto (-14), 3) := by decide +kernel
theorem dX11_measure_19 : decode cX11_measure 19 = .ok (.return_, 1) := by decide +kernel
theorem dX11_turning_0 : decode cX11_turning 0 = .ok (.aload_n 0, 1) := by decide +kernel
theorem dX11_turning_1 : decode cX11_turning 1 = .ok (.iconst 0, 1) := by decide +kernel
theorem dX11_turning_2 : decode cX11_turning 2 = .ok (.putfield 131, 3) := by decide +kernel
theorem dX11_turning_5 : decode cX11_turning 5 = .ok (.iload_n 1, 1) := by decide +kernel
theorem dX11_turning_6 : decode cX11_turning 6 = .ok (.i2l, 1) := by decide +kernel
theorem dX11_turning_7 : decode cX11_turning 7 = .ok (.lconst 0, 1) := by decide +kernel
theorem dX11_turning_8 : decode cX11_turning 8 = .ok (.ldc2_w 150, 3) := by decide +kernel
theorem dX11_turning_11 : decode cX11_turning 11 = .ok (.invokestatic 138, 3) := by decide +kernel
theorem dX11_turning_14 : decode cX11_turning 14 = .ok (.ifCond .eq 19, 3) := by decide +kernel
theorem dX11_turning_17 : decode cX11_turning 17 = .ok (.iload_n 2, 1) := by decide +kernel
theorem dX11_turning_18 : decode cX11_turning 18 = .ok (.i2l, 1) := by decide +kernel
theorem dX11_turning_19 : decode cX11_turning 19 = .ok (.lconst 0, 1) := by decide +kernel
theorem dX11_turning_20 : decode cX11_turning 20 = .ok (.ldc2_w 150, 3) := by decide +kernel
theorem dX11_turning_23 : decode cX11_turning 23 = .ok (.invokestatic 138, 3) := by decide +kernel
theorem dX11_turning_26 : decode cX11_turning 26 = .ok (.ifCond .eq 7, 3) := by decide +kernel
theorem dX11_turning_29 : decode cX11_turning 29 = .ok (.iload_n 3, 1) := by decide +kernel
theorem dX11_turning_30 : decode cX11_turning 30 = .ok (.ifCond .ge 6, 3) := by decide +kernel
theorem dX11_turning_33 : decode cX11_turning 33 = .ok (.bipush (-3), 2) := by decide +kernel
theorem dX11_turning_35 : decode cX11_turning 35 = .ok (.ireturn, 1) := by decide +kernel
theorem dX11_turning_36 : decode cX11_turning 36 = .ok (.aload_n 0, 1) := by decide +kernel
theorem dX11_turning_37 : decode cX11_turning 37 = .ok (.invokevirtual 189, 3) := by decide +kernel
theorem dX11_turning_40 : decode cX11_turning 40 = .ok (.bipush 7, 2) := by decide +kernel
theorem dX11_turning_42 : decode cX11_turning 42 = .ok (.iload_n 1, 1) := by decide +kernel
theorem dX11_turning_43 : decode cX11_turning 43 = .ok (.imul, 1) := by decide +kernel
end
section
theorem dX11_turning_44 : decode cX11_turning 44 = .ok (.iload_n 2, 1) := by decide +kernel
theorem dX11_turning_45 : decode cX11_turning 45 = .ok (.iadd, 1) := by decide +kernel
theorem dX11_turning_46 : decode cX11_turning 46 = .ok (.istore 4, 2) := by decide +kernel
theorem dX11_turning_48 : decode cX11_turning 48 = .ok (.aload_n 0, 1) := by decide +kernel
theorem dX11_turning_49 : decode cX11_turning 49 = .ok (.getfield 75, 3) := by decide +kernel
theorem dX11_turning_52 : decode cX11_turning 52 = .ok (.iload 4, 2) := by decide +kernel
theorem dX11_turning_54 : decode cX11_turning 54 = .ok (.iaload, 1) := by decide +kernel
theorem dX11_turning_55 : decode cX11_turning 55 = .ok (.ldc 180, 2) := by decide +kernel
theorem dX11_turning_57 : decode cX11_turning 57 = .ok (.if_icmp .lt 5, 3) := by decide +kernel
theorem dX11_turning_60 : decode cX11_turning 60 = .ok (.iconst (-1), 1) := by decide +kernel
theorem dX11_turning_61 : decode cX11_turning 61 = .ok (.ireturn, 1) := by decide +kernel
theorem dX11_turning_62 : decode cX11_turning 62 = .ok (.iload_n 3, 1) := by decide +kernel
theorem dX11_turning_63 : decode cX11_turning 63 = .ok (.ifCond .ne 13, 3) := by decide +kernel
theorem dX11_turning_66 : decode cX11_turning 66 = .ok (.aload_n 0, 1) := by decide +kernel
theorem dX11_turning_67 : decode cX11_turning 67 = .ok (.getfield 75, 3) := by decide +kernel
theorem dX11_turning_70 : decode cX11_turning 70 = .ok (.iload 4, 2) := by decide +kernel
theorem dX11_turning_72 : decode cX11_turning 72 = .ok (.iaload, 1) := by decide +kernel
theorem dX11_turning_73 : decode cX11_turning 73 = .ok (.goto 49, 3) := by decide +kernel
theorem dX11_turning_76 : decode cX11_turning 76 = .ok (.iload_n 3, 1) := by decide +kernel
theorem dX11_turning_77 : decode cX11_turning 77 = .ok (.iconst 1, 1) := by decide +kernel
theorem dX11_turning_78 : decode cX11_turning 78 = .ok (.if_icmp .ne 13, 3) := by decide +kernel
theorem dX11_turning_81 : decode cX11_turning 81 = .ok (.aload_n 0, 1) := by decide +kernel
theorem dX11_turning_82 : decode cX11_turning 82 = .ok (.getfield 78, 3) := by decide +kernel
theorem dX11_turning_85 : decode cX11_turning 85 = .ok (.iload 4, 2) := by decide +kernel
theorem dX11_turning_87 : decode cX11_turning 87 = .ok (.iaload, 1) := by decide +kernel
theorem dX11_turning_88 : decode cX11_turning 88 = .ok (.goto 34, 3) := by decide +kernel
theorem dX11_turning_91 : decode cX11_turning 91 = .ok (.iload_n 3, 1) := by decide +kernel
theorem dX11_turning_92 : decode cX11_turning 92 = .ok (.iconst 2, 1) := by decide +kernel
theorem dX11_turning_93 : decode cX11_turning 93 = .ok (.isub, 1) := by decide +kernel
theorem dX11_turning_94 : decode cX11_turning 94 = .ok (.aload_n 0, 1) := by decide +kernel
theorem dX11_turning_95 : decode cX11_turning 95 = .ok (.getfield 78, 3) := by decide +kernel
theorem dX11_turning_98 : decode cX11_turning 98 = .ok (.iload 4, 2) := by decide +kernel
theorem dX11_turning_100 : decode cX11_turning 100 = .ok (.iaload, 1) := by decide +kernel
theorem dX11_turning_101 : decode cX11_turning 101 = .ok (.if_icmp .ge 20, 3) := by decide +kernel
theorem dX11_turning_104 : decode cX11_turning 104 = .ok (.aload_n 0, 1) := by decide +kernel
theorem dX11_turning_105 : decode cX11_turning 105 = .ok (.getfield 81, 3) := by decide +kernel
theorem dX11_turning_108 : decode cX11_turning 108 = .ok (.bipush 6, 2) := by decide +kernel
theorem dX11_turning_110 : decode cX11_turning 110 = .ok (.iload 4, 2) := by decide +kernel
theorem dX11_turning_112 : decode cX11_turning 112 = .ok (.imul, 1) := by decide +kernel
theorem dX11_turning_113 : decode cX11_turning 113 = .ok (.iload_n 3, 1) := by decide +kernel
theorem dX11_turning_114 : decode cX11_turning 114 = .ok (.iadd, 1) := by decide +kernel
theorem dX11_turning_115 : decode cX11_turning 115 = .ok (.iconst 2, 1) := by decide +kernel
theorem dX11_turning_116 : decode cX11_turning 116 = .ok (.isub, 1) := by decide +kernel
theorem dX11_turning_117 : decode cX11_turning 117 = .ok (.iaload, 1) := by decide +kernel
theorem dX11_turning_118 : decode cX11_turning 118 = .ok (.goto 4, 3) := by decide +kernel
theorem dX11_turning_121 : decode cX11_turning 121 = .ok (.iconst (-1), 1) := by decide +kernel
theorem dX11_turning_122 : decode cX11_turning 122 = .ok (.ireturn, 1) := by decide +kernel
theorem dX11_fail_0 : decode cX11_fail 0 = .ok (.aload_n 0, 1) := by decide +kernel
theorem dX11_fail_1 : decode cX11_fail 1 = .ok (.iconst 1, 1) := by decide +kernel
theorem dX11_fail_2 : decode cX11_fail 2 = .ok (.putfield 192, 3) := by decide +kernel
theorem dX11_fail_5 : decode cX11_fail 5 = .ok (.aload_n 0, 1) := by decide +kernel
theorem dX11_fail_6 : decode cX11_fail 6 = .ok (.iload_n 1, 1) := by decide +kernel
theorem dX11_fail_7 : decode cX11_fail 7 = .ok (.putfield 196, 3) := by decide +kernel
theorem dX11_fail_10 : decode cX11_fail 10 = .ok (.aload_n 0, 1) := by decide +kernel
theorem dX11_fail_11 : decode cX11_fail 11 = .ok (.iload_n 2, 1) := by decide +kernel
theorem dX11_fail_12 : decode cX11_fail 12 = .ok (.putfield 199, 3) := by decide +kernel
theorem dX11_fail_15 : decode cX11_fail 15 = .ok (.return_, 1) := by decide +kernel
theorem dX11_turnIt_0 : decode cX11_turnIt 0 = .ok (.bipush 7, 2) := by decide +kernel
theorem dX11_turnIt_2 : decode cX11_turnIt 2 = .ok (.iload_n 1, 1) := by decide +kernel
theorem dX11_turnIt_3 : decode cX11_turnIt 3 = .ok (.imul, 1) := by decide +kernel
theorem dX11_turnIt_4 : decode cX11_turnIt 4 = .ok (.iload_n 2, 1) := by decide +kernel
theorem dX11_turnIt_5 : decode cX11_turnIt 5 = .ok (.iadd, 1) := by decide +kernel
theorem dX11_turnIt_6 : decode cX11_turnIt 6 = .ok (.istore 6, 2) := by decide +kernel
theorem dX11_turnIt_8 : decode cX11_turnIt 8 = .ok (.aload_n 0, 1) := by decide +kernel
theorem dX11_turnIt_9 : decode cX11_turnIt 9 = .ok (.lload_n 3, 1) := by decide +kernel
theorem dX11_turnIt_10 : decode cX11_turnIt 10 = .ok (.putfield 202, 3) := by decide +kernel
theorem dX11_turnIt_13 : decode cX11_turnIt 13 = .ok (.iconst 0, 1) := by decide +kernel
theorem dX11_turnIt_14 : decode cX11_turnIt 14 = .ok (.istore 7, 2) := by decide +kernel
theorem dX11_turnIt_16 : decode cX11_turnIt 16 = .ok (.iload 7, 2) := by decide +kernel
theorem dX11_turnIt_18 : decode cX11_turnIt 18 = .ok (.aload_n 0, 1) := by decide +kernel
theorem dX11_turnIt_19 : decode cX11_turnIt 19 = .ok (.getfield 78, 3) := by decide +kernel
theorem dX11_turnIt_22 : decode cX11_turnIt 22 = .ok (.iload 6, 2) := by decide +kernel
theorem dX11_turnIt_24 : decode cX11_turnIt 24 = .ok (.iaload, 1) := by decide +kernel
theorem dX11_turnIt_25 : decode cX11_turnIt 25 = .ok (.if_icmp .ge 55, 3) := by decide +kernel
theorem dX11_turnIt_28 : decode cX11_turnIt 28 = .ok (.aload_n 0, 1) := by decide +kernel
theorem dX11_turnIt_29 : decode cX11_turnIt 29 = .ok (.getfield 81, 3) := by decide +kernel
theorem dX11_turnIt_32 : decode cX11_turnIt 32 = .ok (.bipush 6, 2) := by decide +kernel
theorem dX11_turnIt_34 : decode cX11_turnIt 34 = .ok (.iload 6, 2) := by decide +kernel
theorem dX11_turnIt_36 : decode cX11_turnIt 36 = .ok (.imul, 1) := by decide +kernel
theorem dX11_turnIt_37 : decode cX11_turnIt 37 = .ok (.iload 7, 2) := by decide +kernel
theorem dX11_turnIt_39 : decode cX11_turnIt 39 = .ok (.iadd, 1) := by decide +kernel
theorem dX11_turnIt_40 : decode cX11_turnIt 40 = .ok (.iaload, 1) := by decide +kernel
theorem dX11_turnIt_41 : decode cX11_turnIt 41 = .ok (.istore 8, 2) := by decide +kernel
theorem dX11_turnIt_43 : decode cX11_turnIt 43 = .ok (.aload_n 0, 1) := by decide +kernel
theorem dX11_turnIt_44 : decode cX11_turnIt 44 = .ok (.iload 8, 2) := by decide +kernel
theorem dX11_turnIt_46 : decode cX11_turnIt 46 = .ok (.aload_n 0, 1) := by decide +kernel
theorem dX11_turnIt_47 : decode cX11_turnIt 47 = .ok (.getfield 202, 3) := by decide +kernel
theorem dX11_turnIt_50 : decode cX11_turnIt 50 = .ok (.invokevirtual 205, 3) := by decide +kernel
theorem dX11_turnIt_53 : decode cX11_turnIt 53 = .ok (.ifCond .ne 13, 3) := by decide +kernel
theorem dX11_turnIt_56 : decode cX11_turnIt 56 = .ok (.aload_n 0, 1) := by decide +kernel
theorem dX11_turnIt_57 : decode cX11_turnIt 57 = .ok (.iload 5, 2) := by decide +kernel
theorem dX11_turnIt_59 : decode cX11_turnIt 59 = .ok (.iload 8, 2) := by decide +kernel
theorem dX11_turnIt_61 : decode cX11_turnIt 61 = .ok (.invokevirtual 208, 3) := by decide +kernel
theorem dX11_turnIt_64 : decode cX11_turnIt 64 = .ok (.iconst 0, 1) := by decide +kernel
theorem dX11_turnIt_65 : decode cX11_turnIt 65 = .ok (.ireturn, 1) := by decide +kernel
theorem dX11_turnIt_66 : decode cX11_turnIt 66 = .ok (.aload_n 0, 1) := by decide +kernel
theorem dX11_turnIt_67 : decode cX11_turnIt 67 = .ok (.aload_n 0, 1) := by decide +kernel
theorem dX11_turnIt_68 : decode cX11_turnIt 68 = .ok (.getfield 158, 3) := by decide +kernel
theorem dX11_turnIt_71 : decode cX11_turnIt 71 = .ok (.putfield 202, 3) := by decide +kernel
theorem dX11_turnIt_74 : decode cX11_turnIt 74 = .ok (.iinc 7 1, 3) := by decide +kernel
theorem dX11_turnIt_77 : decode cX11_turnIt 77 = .ok (.goto (-61), 3) := by decide +kernel
theorem dX11_turnIt_80 : decode cX11_turnIt 80 = .ok (.iconst 1, 1) := by decide +kernel
theorem dX11_turnIt_81 : decode cX11_turnIt 81 = .ok (.ireturn, 1) := by decide +kernel
theorem dX11_turn_0 : decode cX11_turn 0 = .ok (.aload_n 0, 1) := by decide +kernel
theorem dX11_turn_1 : decode cX11_turn 1 = .ok (.iconst 0, 1) := by decide +kernel
theorem dX11_turn_2 : decode cX11_turn 2 = .ok (.putfield 131, 3) := by decide +kernel
theorem dX11_turn_5 : decode cX11_turn 5 = .ok (.iload_n 1, 1) := by decide +kernel
theorem dX11_turn_6 : decode cX11_turn 6 = .ok (.i2l, 1) := by decide +kernel
theorem dX11_turn_7 : decode cX11_turn 7 = .ok (.lconst 0, 1) := by decide +kernel
theorem dX11_turn_8 : decode cX11_turn 8 = .ok (.ldc2_w 150, 3) := by decide +kernel
theorem dX11_turn_11 : decode cX11_turn 11 = .ok (.invokestatic 138, 3) := by decide +kernel
theorem dX11_turn_14 : decode cX11_turn 14 = .ok (.ifCond .eq 15, 3) := by decide +kernel
theorem dX11_turn_17 : decode cX11_turn 17 = .ok (.iload_n 2, 1) := by decide +kernel
theorem dX11_turn_18 : decode cX11_turn 18 = .ok (.i2l, 1) := by decide +kernel
theorem dX11_turn_19 : decode cX11_turn 19 = .ok (.lconst 0, 1) := by decide +kernel
theorem dX11_turn_20 : decode cX11_turn 20 = .ok (.ldc2_w 150, 3) := by decide +kernel
theorem dX11_turn_23 : decode cX11_turn 23 = .ok (.invokestatic 138, 3) := by decide +kernel
theorem dX11_turn_26 : decode cX11_turn 26 = .ok (.ifCond .ne 6, 3) := by decide +kernel
theorem dX11_turn_29 : decode cX11_turn 29 = .ok (.bipush (-3), 2) := by decide +kernel
theorem dX11_turn_31 : decode cX11_turn 31 = .ok (.ireturn, 1) := by decide +kernel
theorem dX11_turn_32 : decode cX11_turn 32 = .ok (.aload_n 0, 1) := by decide +kernel
theorem dX11_turn_33 : decode cX11_turn 33 = .ok (.invokevirtual 189, 3) := by decide +kernel
theorem dX11_turn_36 : decode cX11_turn 36 = .ok (.aload_n 0, 1) := by decide +kernel
theorem dX11_turn_37 : decode cX11_turn 37 = .ok (.getfield 75, 3) := by decide +kernel
theorem dX11_turn_40 : decode cX11_turn 40 = .ok (.bipush 7, 2) := by decide +kernel
theorem dX11_turn_42 : decode cX11_turn 42 = .ok (.iload_n 1, 1) := by decide +kernel
theorem dX11_turn_43 : decode cX11_turn 43 = .ok (.imul, 1) := by decide +kernel
theorem dX11_turn_44 : decode cX11_turn 44 = .ok (.iload_n 2, 1) := by decide +kernel
theorem dX11_turn_45 : decode cX11_turn 45 = .ok (.iadd, 1) := by decide +kernel
theorem dX11_turn_46 : decode cX11_turn 46 = .ok (.iaload, 1) := by decide +kernel
theorem dX11_turn_47 : decode cX11_turn 47 = .ok (.ldc 180, 2) := by decide +kernel
theorem dX11_turn_49 : decode cX11_turn 49 = .ok (.if_icmp .lt 5, 3) := by decide +kernel
theorem dX11_turn_52 : decode cX11_turn 52 = .ok (.iconst (-1), 1) := by decide +kernel
theorem dX11_turn_53 : decode cX11_turn 53 = .ok (.ireturn, 1) := by decide +kernel
theorem dX11_turn_54 : decode cX11_turn 54 = .ok (.iload_n 1, 1) := by decide +kernel
theorem dX11_turn_55 : decode cX11_turn 55 = .ok (.lload_n 3, 1) := by decide +kernel
theorem dX11_turn_56 : decode cX11_turn 56 = .ok (.invokestatic 176, 3) := by decide +kernel
theorem dX11_turn_59 : decode cX11_turn 59 = .ok (.ifCond .ne 12, 3) := by decide +kernel
theorem dX11_turn_62 : decode cX11_turn 62 = .ok (.aload_n 0, 1) := by decide +kernel
theorem dX11_turn_63 : decode cX11_turn 63 = .ok (.iconst 0, 1) := by decide +kernel
theorem dX11_turn_64 : decode cX11_turn 64 = .ok (.iconst (-1), 1) := by decide +kernel
theorem dX11_turn_65 : decode cX11_turn 65 = .ok (.invokevirtual 208, 3) := by decide +kernel
theorem dX11_turn_68 : decode cX11_turn 68 = .ok (.bipush (-7), 2) := by decide +kernel
theorem dX11_turn_70 : decode cX11_turn 70 = .ok (.ireturn, 1) := by decide +kernel
theorem dX11_turn_71 : decode cX11_turn 71 = .ok (.aload_n 0, 1) := by decide +kernel
theorem dX11_turn_72 : decode cX11_turn 72 = .ok (.iload_n 1, 1) := by decide +kernel
theorem dX11_turn_73 : decode cX11_turn 73 = .ok (.iload_n 2, 1) := by decide +kernel
theorem dX11_turn_74 : decode cX11_turn 74 = .ok (.lload_n 3, 1) := by decide +kernel
theorem dX11_turn_75 : decode cX11_turn 75 = .ok (.iconst 1, 1) := by decide +kernel
theorem dX11_turn_76 : decode cX11_turn 76 = .ok (.invokevirtual 212, 3) := by decide +kernel
theorem dX11_turn_79 : decode cX11_turn 79 = .ok (.ifCond .ne 6, 3) := by decide +kernel
theorem dX11_turn_82 : decode cX11_turn 82 = .ok (.bipush (-7), 2) := by decide +kernel
theorem dX11_turn_84 : decode cX11_turn 84 = .ok (.ireturn, 1) := by decide +kernel
theorem dX11_turn_85 : decode cX11_turn 85 = .ok (.aload_n 0, 1) := by decide +kernel
theorem dX11_turn_86 : decode cX11_turn 86 = .ok (.aload_n 0, 1) := by decide +kernel
theorem dX11_turn_87 : decode cX11_turn 87 = .ok (.getfield 202, 3) := by decide +kernel
theorem dX11_turn_90 : decode cX11_turn 90 = .ok (.putfield 216, 3) := by decide +kernel
theorem dX11_turn_93 : decode cX11_turn 93 = .ok (.iconst 0, 1) := by decide +kernel
theorem dX11_turn_94 : decode cX11_turn 94 = .ok (.ireturn, 1) := by decide +kernel
theorem dX11_add_0 : decode cX11_add 0 = .ok (.iload_n 2, 1) := by decide +kernel
theorem dX11_add_1 : decode cX11_add 1 = .ok (.i2l, 1) := by decide +kernel
theorem dX11_add_2 : decode cX11_add 2 = .ok (.lconst 0, 1) := by decide +kernel
theorem dX11_add_3 : decode cX11_add 3 = .ok (.ldc2_w 219, 3) := by decide +kernel
theorem dX11_add_6 : decode cX11_add 6 = .ok (.invokestatic 138, 3) := by decide +kernel
theorem dX11_add_9 : decode cX11_add 9 = .ok (.ifCond .eq 16, 3) := by decide +kernel
theorem dX11_add_12 : decode cX11_add 12 = .ok (.iload_n 3, 1) := by decide +kernel
theorem dX11_add_13 : decode cX11_add 13 = .ok (.ifCond .lt 12, 3) := by decide +kernel
theorem dX11_add_16 : decode cX11_add 16 = .ok (.iload_n 3, 1) := by decide +kernel
theorem dX11_add_17 : decode cX11_add 17 = .ok (.bipush 8, 2) := by decide +kernel
theorem dX11_add_19 : decode cX11_add 19 = .ok (.irem, 1) := by decide +kernel
theorem dX11_add_20 : decode cX11_add 20 = .ok (.bipush 7, 2) := by decide +kernel
theorem dX11_add_22 : decode cX11_add 22 = .ok (.if_icmp .ne 6, 3) := by decide +kernel
theorem dX11_add_25 : decode cX11_add 25 = .ok (.bipush (-3), 2) := by decide +kernel
theorem dX11_add_27 : decode cX11_add 27 = .ok (.ireturn, 1) := by decide +kernel
theorem dX11_add_28 : decode cX11_add 28 = .ok (.iconst 0, 1) := by decide +kernel
theorem dX11_add_29 : decode cX11_add 29 = .ok (.istore 4, 2) := by decide +kernel
theorem dX11_add_31 : decode cX11_add 31 = .ok (.iload_n 3, 1) := by decide +kernel
theorem dX11_add_32 : decode cX11_add 32 = .ok (.bipush 8, 2) := by decide +kernel
theorem dX11_add_34 : decode cX11_add 34 = .ok (.idiv, 1) := by decide +kernel
theorem dX11_add_35 : decode cX11_add 35 = .ok (.istore 5, 2) := by decide +kernel
theorem dX11_add_37 : decode cX11_add 37 = .ok (.iload 5, 2) := by decide +kernel
theorem dX11_add_39 : decode cX11_add 39 = .ok (.ifCond .le 33, 3) := by decide +kernel
theorem dX11_add_42 : decode cX11_add 42 = .ok (.iload 5, 2) := by decide +kernel
theorem dX11_add_44 : decode cX11_add 44 = .ok (.bipush 8, 2) := by decide +kernel
theorem dX11_add_46 : decode cX11_add 46 = .ok (.irem, 1) := by decide +kernel
theorem dX11_add_47 : decode cX11_add 47 = .ok (.ifCond .eq 9, 3) := by decide +kernel
theorem dX11_add_50 : decode cX11_add 50 = .ok (.iload 4, 2) := by decide +kernel
theorem dX11_add_52 : decode cX11_add 52 = .ok (.iconst 4, 1) := by decide +kernel
theorem dX11_add_53 : decode cX11_add 53 = .ok (.if_icmp .ne 6, 3) := by decide +kernel
theorem dX11_add_56 : decode cX11_add 56 = .ok (.bipush (-3), 2) := by decide +kernel
theorem dX11_add_58 : decode cX11_add 58 = .ok (.ireturn, 1) := by decide +kernel
theorem dX11_add_59 : decode cX11_add 59 = .ok (.iload 5, 2) := by decide +kernel
theorem dX11_add_61 : decode cX11_add 61 = .ok (.bipush 8, 2) := by decide +kernel
theorem dX11_add_63 : decode cX11_add 63 = .ok (.idiv, 1) := by decide +kernel
theorem dX11_add_64 : decode cX11_add 64 = .ok (.istore 5, 2) := by decide +kernel
theorem dX11_add_66 : decode cX11_add 66 = .ok (.iinc 4 1, 3) := by decide +kernel
theorem dX11_add_69 : decode cX11_add 69 = .ok (.goto (-32), 3) := by decide +kernel
theorem dX11_add_72 : decode cX11_add 72 = .ok (.aload_n 0, 1) := by decide +kernel
theorem dX11_add_73 : decode cX11_add 73 = .ok (.getfield 29, 3) := by decide +kernel
theorem dX11_add_76 : decode cX11_add 76 = .ok (.iload_n 1, 1) := by decide +kernel
theorem dX11_add_77 : decode cX11_add 77 = .ok (.iaload, 1) := by decide +kernel
theorem dX11_add_78 : decode cX11_add 78 = .ok (.bipush 6, 2) := by decide +kernel
theorem dX11_add_80 : decode cX11_add 80 = .ok (.if_icmp .ne 6, 3) := by decide +kernel
theorem dX11_add_83 : decode cX11_add 83 = .ok (.bipush (-5), 2) := by decide +kernel
theorem dX11_add_85 : decode cX11_add 85 = .ok (.ireturn, 1) := by decide +kernel
theorem dX11_add_86 : decode cX11_add 86 = .ok (.bipush 6, 2) := by decide +kernel
theorem dX11_add_88 : decode cX11_add 88 = .ok (.iload_n 1, 1) := by decide +kernel
theorem dX11_add_89 : decode cX11_add 89 = .ok (.imul, 1) := by decide +kernel
theorem dX11_add_90 : decode cX11_add 90 = .ok (.aload_n 0, 1) := by decide +kernel
theorem dX11_add_91 : decode cX11_add 91 = .ok (.getfield 29, 3) := by decide +kernel
theorem dX11_add_94 : decode cX11_add 94 = .ok (.iload_n 1, 1) := by decide +kernel
theorem dX11_add_95 : decode cX11_add 95 = .ok (.iaload, 1) := by decide +kernel
theorem dX11_add_96 : decode cX11_add 96 = .ok (.iadd, 1) := by decide +kernel
theorem dX11_add_97 : decode cX11_add 97 = .ok (.istore 6, 2) := by decide +kernel
theorem dX11_add_99 : decode cX11_add 99 = .ok (.aload_n 0, 1) := by decide +kernel
theorem dX11_add_100 : decode cX11_add 100 = .ok (.getfield 32, 3) := by decide +kernel
theorem dX11_add_103 : decode cX11_add 103 = .ok (.iload 6, 2) := by decide +kernel
theorem dX11_add_105 : decode cX11_add 105 = .ok (.iload_n 2, 1) := by decide +kernel
theorem dX11_add_106 : decode cX11_add 106 = .ok (.iastore, 1) := by decide +kernel
theorem dX11_add_107 : decode cX11_add 107 = .ok (.aload_n 0, 1) := by decide +kernel
theorem dX11_add_108 : decode cX11_add 108 = .ok (.getfield 41, 3) := by decide +kernel
theorem dX11_add_111 : decode cX11_add 111 = .ok (.iload 6, 2) := by decide +kernel
theorem dX11_add_113 : decode cX11_add 113 = .ok (.iload_n 3, 1) := by decide +kernel
theorem dX11_add_114 : decode cX11_add 114 = .ok (.bipush 8, 2) := by decide +kernel
theorem dX11_add_116 : decode cX11_add 116 = .ok (.irem, 1) := by decide +kernel
theorem dX11_add_117 : decode cX11_add 117 = .ok (.iastore, 1) := by decide +kernel
theorem dX11_add_118 : decode cX11_add 118 = .ok (.aload_n 0, 1) := by decide +kernel
theorem dX11_add_119 : decode cX11_add 119 = .ok (.getfield 35, 3) := by decide +kernel
theorem dX11_add_122 : decode cX11_add 122 = .ok (.iload 6, 2) := by decide +kernel
theorem dX11_add_124 : decode cX11_add 124 = .ok (.iload 4, 2) := by decide +kernel
theorem dX11_add_126 : decode cX11_add 126 = .ok (.iastore, 1) := by decide +kernel
theorem dX11_add_127 : decode cX11_add 127 = .ok (.iload_n 3, 1) := by decide +kernel
theorem dX11_add_128 : decode cX11_add 128 = .ok (.bipush 8, 2) := by decide +kernel
theorem dX11_add_130 : decode cX11_add 130 = .ok (.idiv, 1) := by decide +kernel
theorem dX11_add_131 : decode cX11_add 131 = .ok (.istore 5, 2) := by decide +kernel
theorem dX11_add_133 : decode cX11_add 133 = .ok (.iconst 0, 1) := by decide +kernel
theorem dX11_add_134 : decode cX11_add 134 = .ok (.istore 7, 2) := by decide +kernel
theorem dX11_add_136 : decode cX11_add 136 = .ok (.iload 7, 2) := by decide +kernel
theorem dX11_add_138 : decode cX11_add 138 = .ok (.iconst 4, 1) := by decide +kernel
theorem dX11_add_139 : decode cX11_add 139 = .ok (.if_icmp .ge 59, 3) := by decide +kernel
theorem dX11_add_142 : decode cX11_add 142 = .ok (.aload_n 0, 1) := by decide +kernel
theorem dX11_add_143 : decode cX11_add 143 = .ok (.getfield 38, 3) := by decide +kernel
theorem dX11_add_146 : decode cX11_add 146 = .ok (.iconst 4, 1) := by decide +kernel
theorem dX11_add_147 : decode cX11_add 147 = .ok (.iload 6, 2) := by decide +kernel
theorem dX11_add_149 : decode cX11_add 149 = .ok (.imul, 1) := by decide +kernel
theorem dX11_add_150 : decode cX11_add 150 = .ok (.iload 7, 2) := by decide +kernel
theorem dX11_add_152 : decode cX11_add 152 = .ok (.iadd, 1) := by decide +kernel
theorem dX11_add_153 : decode cX11_add 153 = .ok (.iload 7, 2) := by decide +kernel
theorem dX11_add_155 : decode cX11_add 155 = .ok (.iload 4, 2) := by decide +kernel
theorem dX11_add_157 : decode cX11_add 157 = .ok (.if_icmp .ge 13, 3) := by decide +kernel
theorem dX11_add_160 : decode cX11_add 160 = .ok (.iload 5, 2) := by decide +kernel
theorem dX11_add_162 : decode cX11_add 162 = .ok (.bipush 8, 2) := by decide +kernel
theorem dX11_add_164 : decode cX11_add 164 = .ok (.irem, 1) := by decide +kernel
theorem dX11_add_165 : decode cX11_add 165 = .ok (.iconst 1, 1) := by decide +kernel
theorem dX11_add_166 : decode cX11_add 166 = .ok (.isub, 1) := by decide +kernel
theorem dX11_add_167 : decode cX11_add 167 = .ok (.goto 4, 3) := by decide +kernel
theorem dX11_add_170 : decode cX11_add 170 = .ok (.iconst 0, 1) := by decide +kernel
theorem dX11_add_171 : decode cX11_add 171 = .ok (.iastore, 1) := by decide +kernel
theorem dX11_add_172 : decode cX11_add 172 = .ok (.aload_n 0, 1) := by decide +kernel
theorem dX11_add_173 : decode cX11_add 173 = .ok (.getfield 53, 3) := by decide +kernel
theorem dX11_add_176 : decode cX11_add 176 = .ok (.iconst 4, 1) := by decide +kernel
theorem dX11_add_177 : decode cX11_add 177 = .ok (.iload 6, 2) := by decide +kernel
theorem dX11_add_179 : decode cX11_add 179 = .ok (.imul, 1) := by decide +kernel
theorem dX11_add_180 : decode cX11_add 180 = .ok (.iload 7, 2) := by decide +kernel
theorem dX11_add_182 : decode cX11_add 182 = .ok (.iadd, 1) := by decide +kernel
theorem dX11_add_183 : decode cX11_add 183 = .ok (.iconst 1, 1) := by decide +kernel
theorem dX11_add_184 : decode cX11_add 184 = .ok (.iastore, 1) := by decide +kernel
theorem dX11_add_185 : decode cX11_add 185 = .ok (.iload 5, 2) := by decide +kernel
theorem dX11_add_187 : decode cX11_add 187 = .ok (.bipush 8, 2) := by decide +kernel
theorem dX11_add_189 : decode cX11_add 189 = .ok (.idiv, 1) := by decide +kernel
theorem dX11_add_190 : decode cX11_add 190 = .ok (.istore 5, 2) := by decide +kernel
theorem dX11_add_192 : decode cX11_add 192 = .ok (.iinc 7 1, 3) := by decide +kernel
theorem dX11_add_195 : decode cX11_add 195 = .ok (.goto (-59), 3) := by decide +kernel
theorem dX11_add_198 : decode cX11_add 198 = .ok (.aload_n 0, 1) := by decide +kernel
theorem dX11_add_199 : decode cX11_add 199 = .ok (.getfield 44, 3) := by decide +kernel
theorem dX11_add_202 : decode cX11_add 202 = .ok (.iload 6, 2) := by decide +kernel
theorem dX11_add_204 : decode cX11_add 204 = .ok (.iconst 0, 1) := by decide +kernel
theorem dX11_add_205 : decode cX11_add 205 = .ok (.iastore, 1) := by decide +kernel
theorem dX11_add_206 : decode cX11_add 206 = .ok (.aload_n 0, 1) := by decide +kernel
theorem dX11_add_207 : decode cX11_add 207 = .ok (.getfield 47, 3) := by decide +kernel
theorem dX11_add_210 : decode cX11_add 210 = .ok (.iload 6, 2) := by decide +kernel
theorem dX11_add_212 : decode cX11_add 212 = .ok (.iconst (-1), 1) := by decide +kernel
theorem dX11_add_213 : decode cX11_add 213 = .ok (.iastore, 1) := by decide +kernel
theorem dX11_add_214 : decode cX11_add 214 = .ok (.aload_n 0, 1) := by decide +kernel
theorem dX11_add_215 : decode cX11_add 215 = .ok (.getfield 50, 3) := by decide +kernel
theorem dX11_add_218 : decode cX11_add 218 = .ok (.iload 6, 2) := by decide +kernel
theorem dX11_add_220 : decode cX11_add 220 = .ok (.iconst 0, 1) := by decide +kernel
theorem dX11_add_221 : decode cX11_add 221 = .ok (.iastore, 1) := by decide +kernel
theorem dX11_add_222 : decode cX11_add 222 = .ok (.aload_n 0, 1) := by decide +kernel
theorem dX11_add_223 : decode cX11_add 223 = .ok (.getfield 29, 3) := by decide +kernel
theorem dX11_add_226 : decode cX11_add 226 = .ok (.iload_n 1, 1) := by decide +kernel
theorem dX11_add_227 : decode cX11_add 227 = .ok (.dup2, 1) := by decide +kernel
theorem dX11_add_228 : decode cX11_add 228 = .ok (.iaload, 1) := by decide +kernel
theorem dX11_add_229 : decode cX11_add 229 = .ok (.iconst 1, 1) := by decide +kernel
theorem dX11_add_230 : decode cX11_add 230 = .ok (.iadd, 1) := by decide +kernel
theorem dX11_add_231 : decode cX11_add 231 = .ok (.iastore, 1) := by decide +kernel
theorem dX11_add_232 : decode cX11_add 232 = .ok (.aload_n 0, 1) := by decide +kernel
theorem dX11_add_233 : decode cX11_add 233 = .ok (.getfield 29, 3) := by decide +kernel
theorem dX11_add_236 : decode cX11_add 236 = .ok (.iload_n 1, 1) := by decide +kernel
theorem dX11_add_237 : decode cX11_add 237 = .ok (.iaload, 1) := by decide +kernel
theorem dX11_add_238 : decode cX11_add 238 = .ok (.iconst 1, 1) := by decide +kernel
theorem dX11_add_239 : decode cX11_add 239 = .ok (.isub, 1) := by decide +kernel
theorem dX11_add_240 : decode cX11_add 240 = .ok (.ireturn, 1) := by decide +kernel
theorem dX11_ask_0 : decode cX11_ask 0 = .ok (.aload_n 0, 1) := by decide +kernel
theorem dX11_ask_1 : decode cX11_ask 1 = .ok (.iconst 0, 1) := by decide +kernel
theorem dX11_ask_2 : decode cX11_ask 2 = .ok (.putfield 131, 3) := by decide +kernel
theorem dX11_ask_5 : decode cX11_ask 5 = .ok (.iload_n 1, 1) := by decide +kernel
theorem dX11_ask_6 : decode cX11_ask 6 = .ok (.i2l, 1) := by decide +kernel
theorem dX11_ask_7 : decode cX11_ask 7 = .ok (.lconst 0, 1) := by decide +kernel
theorem dX11_ask_8 : decode cX11_ask 8 = .ok (.ldc2_w 221, 3) := by decide +kernel
theorem dX11_ask_11 : decode cX11_ask 11 = .ok (.invokestatic 138, 3) := by decide +kernel
theorem dX11_ask_14 : decode cX11_ask 14 = .ok (.ifCond .eq 16, 3) := by decide +kernel
theorem dX11_ask_17 : decode cX11_ask 17 = .ok (.aload_n 0, 1) := by decide +kernel
theorem dX11_ask_18 : decode cX11_ask 18 = .ok (.bipush 10, 2) := by decide +kernel
theorem dX11_ask_20 : decode cX11_ask 20 = .ok (.iload_n 1, 1) := by decide +kernel
theorem dX11_ask_21 : decode cX11_ask 21 = .ok (.iadd, 1) := by decide +kernel
theorem dX11_ask_22 : decode cX11_ask 22 = .ok (.iload_n 2, 1) := by decide +kernel
theorem dX11_ask_23 : decode cX11_ask 23 = .ok (.iload_n 3, 1) := by decide +kernel
theorem dX11_ask_24 : decode cX11_ask 24 = .ok (.invokevirtual 223, 3) := by decide +kernel
theorem dX11_ask_27 : decode cX11_ask 27 = .ok (.goto 5, 3) := by decide +kernel
theorem dX11_ask_30 : decode cX11_ask 30 = .ok (.bipush (-3), 2) := by decide +kernel
theorem dX11_ask_32 : decode cX11_ask 32 = .ok (.ireturn, 1) := by decide +kernel
theorem dX11_offer_0 : decode cX11_offer 0 = .ok (.aload_n 0, 1) := by decide +kernel
theorem dX11_offer_1 : decode cX11_offer 1 = .ok (.iconst 0, 1) := by decide +kernel
theorem dX11_offer_2 : decode cX11_offer 2 = .ok (.putfield 131, 3) := by decide +kernel
theorem dX11_offer_5 : decode cX11_offer 5 = .ok (.iload_n 1, 1) := by decide +kernel
theorem dX11_offer_6 : decode cX11_offer 6 = .ok (.i2l, 1) := by decide +kernel
theorem dX11_offer_7 : decode cX11_offer 7 = .ok (.lconst 0, 1) := by decide +kernel
theorem dX11_offer_8 : decode cX11_offer 8 = .ok (.ldc2_w 221, 3) := by decide +kernel
theorem dX11_offer_11 : decode cX11_offer 11 = .ok (.invokestatic 138, 3) := by decide +kernel
theorem dX11_offer_14 : decode cX11_offer 14 = .ok (.ifCond .eq 13, 3) := by decide +kernel
theorem dX11_offer_17 : decode cX11_offer 17 = .ok (.aload_n 0, 1) := by decide +kernel
theorem dX11_offer_18 : decode cX11_offer 18 = .ok (.iload_n 1, 1) := by decide +kernel
theorem dX11_offer_19 : decode cX11_offer 19 = .ok (.iload_n 2, 1) := by decide +kernel
theorem dX11_offer_20 : decode cX11_offer 20 = .ok (.iload_n 3, 1) := by decide +kernel
theorem dX11_offer_21 : decode cX11_offer 21 = .ok (.invokevirtual 223, 3) := by decide +kernel
theorem dX11_offer_24 : decode cX11_offer 24 = .ok (.goto 5, 3) := by decide +kernel
theorem dX11_offer_27 : decode cX11_offer 27 = .ok (.bipush (-3), 2) := by decide +kernel
theorem dX11_offer_29 : decode cX11_offer 29 = .ok (.ireturn, 1) := by decide +kernel
theorem dX11_isMember_0 : decode cX11_isMember 0 = .ok (.iload_n 2, 1) := by decide +kernel
theorem dX11_isMember_1 : decode cX11_isMember 1 = .ok (.i2l, 1) := by decide +kernel
theorem dX11_isMember_2 : decode cX11_isMember 2 = .ok (.lconst 0, 1) := by decide +kernel
theorem dX11_isMember_3 : decode cX11_isMember 3 = .ok (.aload_n 0, 1) := by decide +kernel
theorem dX11_isMember_4 : decode cX11_isMember 4 = .ok (.getfield 29, 3) := by decide +kernel
theorem dX11_isMember_7 : decode cX11_isMember 7 = .ok (.iload_n 1, 1) := by decide +kernel
theorem dX11_isMember_8 : decode cX11_isMember 8 = .ok (.iaload, 1) := by decide +kernel
theorem dX11_isMember_9 : decode cX11_isMember 9 = .ok (.iconst 1, 1) := by decide +kernel
theorem dX11_isMember_10 : decode cX11_isMember 10 = .ok (.isub, 1) := by decide +kernel
theorem dX11_isMember_11 : decode cX11_isMember 11 = .ok (.i2l, 1) := by decide +kernel
theorem dX11_isMember_12 : decode cX11_isMember 12 = .ok (.invokestatic 138, 3) := by decide +kernel
theorem dX11_isMember_15 : decode cX11_isMember 15 = .ok (.ireturn, 1) := by decide +kernel
theorem dX11_work_0 : decode cX11_work 0 = .ok (.aload_n 0, 1) := by decide +kernel
theorem dX11_work_1 : decode cX11_work 1 = .ok (.iconst 0, 1) := by decide +kernel
theorem dX11_work_2 : decode cX11_work 2 = .ok (.putfield 131, 3) := by decide +kernel
theorem dX11_work_5 : decode cX11_work 5 = .ok (.iload_n 1, 1) := by decide +kernel
theorem dX11_work_6 : decode cX11_work 6 = .ok (.i2l, 1) := by decide +kernel
theorem dX11_work_7 : decode cX11_work 7 = .ok (.lconst 0, 1) := by decide +kernel
theorem dX11_work_8 : decode cX11_work 8 = .ok (.ldc2_w 221, 3) := by decide +kernel
theorem dX11_work_11 : decode cX11_work 11 = .ok (.invokestatic 138, 3) := by decide +kernel
theorem dX11_work_14 : decode cX11_work 14 = .ok (.ifCond .eq 57, 3) := by decide +kernel
theorem dX11_work_17 : decode cX11_work 17 = .ok (.iload_n 3, 1) := by decide +kernel
theorem dX11_work_18 : decode cX11_work 18 = .ok (.i2l, 1) := by decide +kernel
theorem dX11_work_19 : decode cX11_work 19 = .ok (.lconst 0, 1) := by decide +kernel
theorem dX11_work_20 : decode cX11_work 20 = .ok (.ldc2_w 227, 3) := by decide +kernel
theorem dX11_work_23 : decode cX11_work 23 = .ok (.invokestatic 138, 3) := by decide +kernel
theorem dX11_work_26 : decode cX11_work 26 = .ok (.ifCond .eq 45, 3) := by decide +kernel
theorem dX11_work_29 : decode cX11_work 29 = .ok (.iload 4, 2) := by decide +kernel
theorem dX11_work_31 : decode cX11_work 31 = .ok (.i2l, 1) := by decide +kernel
theorem dX11_work_32 : decode cX11_work 32 = .ok (.iload_n 3, 1) := by decide +kernel
theorem dX11_work_33 : decode cX11_work 33 = .ok (.ifCond .ne 9, 3) := by decide +kernel
theorem dX11_work_36 : decode cX11_work 36 = .ok (.ldc2_w 229, 3) := by decide +kernel
theorem dX11_work_39 : decode cX11_work 39 = .ok (.goto 4, 3) := by decide +kernel
theorem dX11_work_42 : decode cX11_work 42 = .ok (.lconst 0, 1) := by decide +kernel
theorem dX11_work_43 : decode cX11_work 43 = .ok (.ldc2_w 227, 3) := by decide +kernel
theorem dX11_work_46 : decode cX11_work 46 = .ok (.invokestatic 138, 3) := by decide +kernel
theorem dX11_work_49 : decode cX11_work 49 = .ok (.ifCond .eq 22, 3) := by decide +kernel
theorem dX11_work_52 : decode cX11_work 52 = .ok (.iload_n 3, 1) := by decide +kernel
theorem dX11_work_53 : decode cX11_work 53 = .ok (.ifCond .ne 21, 3) := by decide +kernel
theorem dX11_work_56 : decode cX11_work 56 = .ok (.iload 5, 2) := by decide +kernel
theorem dX11_work_58 : decode cX11_work 58 = .ok (.i2l, 1) := by decide +kernel
theorem dX11_work_59 : decode cX11_work 59 = .ok (.ldc2_w 231, 3) := by decide +kernel
theorem dX11_work_62 : decode cX11_work 62 = .ok (.ldc2_w 233, 3) := by decide +kernel
theorem dX11_work_65 : decode cX11_work 65 = .ok (.invokestatic 138, 3) := by decide +kernel
theorem dX11_work_68 : decode cX11_work 68 = .ok (.ifCond .ne 6, 3) := by decide +kernel
theorem dX11_work_71 : decode cX11_work 71 = .ok (.bipush (-3), 2) := by decide +kernel
theorem dX11_work_73 : decode cX11_work 73 = .ok (.ireturn, 1) := by decide +kernel
theorem dX11_work_74 : decode cX11_work 74 = .ok (.aload_n 0, 1) := by decide +kernel
theorem dX11_work_75 : decode cX11_work 75 = .ok (.iload_n 1, 1) := by decide +kernel
theorem dX11_work_76 : decode cX11_work 76 = .ok (.iload_n 2, 1) := by decide +kernel
theorem dX11_work_77 : decode cX11_work 77 = .ok (.invokevirtual 235, 3) := by decide +kernel
theorem dX11_work_80 : decode cX11_work 80 = .ok (.ifCond .ne 6, 3) := by decide +kernel
theorem dX11_work_83 : decode cX11_work 83 = .ok (.bipush (-2), 2) := by decide +kernel
theorem dX11_work_85 : decode cX11_work 85 = .ok (.ireturn, 1) := by decide +kernel
theorem dX11_work_86 : decode cX11_work 86 = .ok (.bipush 6, 2) := by decide +kernel
theorem dX11_work_88 : decode cX11_work 88 = .ok (.iload_n 1, 1) := by decide +kernel
theorem dX11_work_89 : decode cX11_work 89 = .ok (.imul, 1) := by decide +kernel
theorem dX11_work_90 : decode cX11_work 90 = .ok (.iload_n 2, 1) := by decide +kernel
theorem dX11_work_91 : decode cX11_work 91 = .ok (.iadd, 1) := by decide +kernel
theorem dX11_work_92 : decode cX11_work 92 = .ok (.istore 6, 2) := by decide +kernel
theorem dX11_work_94 : decode cX11_work 94 = .ok (.aload_n 0, 1) := by decide +kernel
end
section
theorem dX11_work_95 : decode cX11_work 95 = .ok (.getfield 44, 3) := by decide +kernel
theorem dX11_work_98 : decode cX11_work 98 = .ok (.iload 6, 2) := by decide +kernel
theorem dX11_work_100 : decode cX11_work 100 = .ok (.iload_n 3, 1) := by decide +kernel
theorem dX11_work_101 : decode cX11_work 101 = .ok (.iastore, 1) := by decide +kernel
theorem dX11_work_102 : decode cX11_work 102 = .ok (.aload_n 0, 1) := by decide +kernel
theorem dX11_work_103 : decode cX11_work 103 = .ok (.getfield 47, 3) := by decide +kernel
theorem dX11_work_106 : decode cX11_work 106 = .ok (.iload 6, 2) := by decide +kernel
theorem dX11_work_108 : decode cX11_work 108 = .ok (.iload 4, 2) := by decide +kernel
theorem dX11_work_110 : decode cX11_work 110 = .ok (.iastore, 1) := by decide +kernel
theorem dX11_work_111 : decode cX11_work 111 = .ok (.aload_n 0, 1) := by decide +kernel
theorem dX11_work_112 : decode cX11_work 112 = .ok (.getfield 50, 3) := by decide +kernel
theorem dX11_work_115 : decode cX11_work 115 = .ok (.iload 6, 2) := by decide +kernel
theorem dX11_work_117 : decode cX11_work 117 = .ok (.iload_n 3, 1) := by decide +kernel
theorem dX11_work_118 : decode cX11_work 118 = .ok (.ifCond .ne 8, 3) := by decide +kernel
theorem dX11_work_121 : decode cX11_work 121 = .ok (.iload 5, 2) := by decide +kernel
theorem dX11_work_123 : decode cX11_work 123 = .ok (.goto 4, 3) := by decide +kernel
theorem dX11_work_126 : decode cX11_work 126 = .ok (.iconst 0, 1) := by decide +kernel
theorem dX11_work_127 : decode cX11_work 127 = .ok (.iastore, 1) := by decide +kernel
theorem dX11_work_128 : decode cX11_work 128 = .ok (.iconst 0, 1) := by decide +kernel
theorem dX11_work_129 : decode cX11_work 129 = .ok (.ireturn, 1) := by decide +kernel
theorem dX11_times_0 : decode cX11_times 0 = .ok (.aload_n 0, 1) := by decide +kernel
theorem dX11_times_1 : decode cX11_times 1 = .ok (.iconst 0, 1) := by decide +kernel
theorem dX11_times_2 : decode cX11_times 2 = .ok (.putfield 131, 3) := by decide +kernel
theorem dX11_times_5 : decode cX11_times 5 = .ok (.iload_n 1, 1) := by decide +kernel
theorem dX11_times_6 : decode cX11_times 6 = .ok (.i2l, 1) := by decide +kernel
theorem dX11_times_7 : decode cX11_times 7 = .ok (.lconst 0, 1) := by decide +kernel
theorem dX11_times_8 : decode cX11_times 8 = .ok (.ldc2_w 221, 3) := by decide +kernel
theorem dX11_times_11 : decode cX11_times 11 = .ok (.invokestatic 138, 3) := by decide +kernel
theorem dX11_times_14 : decode cX11_times 14 = .ok (.ifCond .ne 6, 3) := by decide +kernel
theorem dX11_times_17 : decode cX11_times 17 = .ok (.bipush (-3), 2) := by decide +kernel
theorem dX11_times_19 : decode cX11_times 19 = .ok (.ireturn, 1) := by decide +kernel
theorem dX11_times_20 : decode cX11_times 20 = .ok (.aload_n 0, 1) := by decide +kernel
theorem dX11_times_21 : decode cX11_times 21 = .ok (.iload_n 1, 1) := by decide +kernel
theorem dX11_times_22 : decode cX11_times 22 = .ok (.iload_n 2, 1) := by decide +kernel
theorem dX11_times_23 : decode cX11_times 23 = .ok (.invokevirtual 235, 3) := by decide +kernel
theorem dX11_times_26 : decode cX11_times 26 = .ok (.ifCond .ne 6, 3) := by decide +kernel
theorem dX11_times_29 : decode cX11_times 29 = .ok (.bipush (-2), 2) := by decide +kernel
theorem dX11_times_31 : decode cX11_times 31 = .ok (.ireturn, 1) := by decide +kernel
theorem dX11_times_32 : decode cX11_times 32 = .ok (.bipush 6, 2) := by decide +kernel
theorem dX11_times_34 : decode cX11_times 34 = .ok (.iload_n 1, 1) := by decide +kernel
theorem dX11_times_35 : decode cX11_times 35 = .ok (.imul, 1) := by decide +kernel
theorem dX11_times_36 : decode cX11_times 36 = .ok (.iload_n 2, 1) := by decide +kernel
theorem dX11_times_37 : decode cX11_times 37 = .ok (.iadd, 1) := by decide +kernel
theorem dX11_times_38 : decode cX11_times 38 = .ok (.istore 5, 2) := by decide +kernel
theorem dX11_times_40 : decode cX11_times 40 = .ok (.iload_n 3, 1) := by decide +kernel
theorem dX11_times_41 : decode cX11_times 41 = .ok (.i2l, 1) := by decide +kernel
theorem dX11_times_42 : decode cX11_times 42 = .ok (.lconst 0, 1) := by decide +kernel
theorem dX11_times_43 : decode cX11_times 43 = .ok (.aload_n 0, 1) := by decide +kernel
theorem dX11_times_44 : decode cX11_times 44 = .ok (.getfield 35, 3) := by decide +kernel
theorem dX11_times_47 : decode cX11_times 47 = .ok (.iload 5, 2) := by decide +kernel
theorem dX11_times_49 : decode cX11_times 49 = .ok (.iaload, 1) := by decide +kernel
theorem dX11_times_50 : decode cX11_times 50 = .ok (.iconst 1, 1) := by decide +kernel
theorem dX11_times_51 : decode cX11_times 51 = .ok (.isub, 1) := by decide +kernel
theorem dX11_times_52 : decode cX11_times 52 = .ok (.i2l, 1) := by decide +kernel
theorem dX11_times_53 : decode cX11_times 53 = .ok (.invokestatic 138, 3) := by decide +kernel
theorem dX11_times_56 : decode cX11_times 56 = .ok (.ifCond .eq 18, 3) := by decide +kernel
theorem dX11_times_59 : decode cX11_times 59 = .ok (.iload 4, 2) := by decide +kernel
theorem dX11_times_61 : decode cX11_times 61 = .ok (.i2l, 1) := by decide +kernel
theorem dX11_times_62 : decode cX11_times 62 = .ok (.ldc2_w 231, 3) := by decide +kernel
theorem dX11_times_65 : decode cX11_times 65 = .ok (.ldc2_w 233, 3) := by decide +kernel
theorem dX11_times_68 : decode cX11_times 68 = .ok (.invokestatic 138, 3) := by decide +kernel
theorem dX11_times_71 : decode cX11_times 71 = .ok (.ifCond .ne 6, 3) := by decide +kernel
theorem dX11_times_74 : decode cX11_times 74 = .ok (.bipush (-3), 2) := by decide +kernel
theorem dX11_times_76 : decode cX11_times 76 = .ok (.ireturn, 1) := by decide +kernel
theorem dX11_times_77 : decode cX11_times 77 = .ok (.aload_n 0, 1) := by decide +kernel
theorem dX11_times_78 : decode cX11_times 78 = .ok (.getfield 53, 3) := by decide +kernel
theorem dX11_times_81 : decode cX11_times 81 = .ok (.iconst 4, 1) := by decide +kernel
theorem dX11_times_82 : decode cX11_times 82 = .ok (.iload 5, 2) := by decide +kernel
theorem dX11_times_84 : decode cX11_times 84 = .ok (.imul, 1) := by decide +kernel
theorem dX11_times_85 : decode cX11_times 85 = .ok (.iload_n 3, 1) := by decide +kernel
theorem dX11_times_86 : decode cX11_times 86 = .ok (.iadd, 1) := by decide +kernel
theorem dX11_times_87 : decode cX11_times 87 = .ok (.iaload, 1) := by decide +kernel
theorem dX11_times_88 : decode cX11_times 88 = .ok (.istore 6, 2) := by decide +kernel
theorem dX11_times_90 : decode cX11_times 90 = .ok (.aload_n 0, 1) := by decide +kernel
theorem dX11_times_91 : decode cX11_times 91 = .ok (.getfield 53, 3) := by decide +kernel
theorem dX11_times_94 : decode cX11_times 94 = .ok (.iconst 4, 1) := by decide +kernel
theorem dX11_times_95 : decode cX11_times 95 = .ok (.iload 5, 2) := by decide +kernel
theorem dX11_times_97 : decode cX11_times 97 = .ok (.imul, 1) := by decide +kernel
theorem dX11_times_98 : decode cX11_times 98 = .ok (.iload_n 3, 1) := by decide +kernel
theorem dX11_times_99 : decode cX11_times 99 = .ok (.iadd, 1) := by decide +kernel
theorem dX11_times_100 : decode cX11_times 100 = .ok (.iload 4, 2) := by decide +kernel
theorem dX11_times_102 : decode cX11_times 102 = .ok (.iastore, 1) := by decide +kernel
theorem dX11_times_103 : decode cX11_times 103 = .ok (.iload 6, 2) := by decide +kernel
theorem dX11_times_105 : decode cX11_times 105 = .ok (.ireturn, 1) := by decide +kernel
theorem dX11_strip_0 : decode cX11_strip 0 = .ok (.aload_n 0, 1) := by decide +kernel
theorem dX11_strip_1 : decode cX11_strip 1 = .ok (.iconst 0, 1) := by decide +kernel
theorem dX11_strip_2 : decode cX11_strip 2 = .ok (.putfield 131, 3) := by decide +kernel
theorem dX11_strip_5 : decode cX11_strip 5 = .ok (.iload_n 2, 1) := by decide +kernel
theorem dX11_strip_6 : decode cX11_strip 6 = .ok (.i2l, 1) := by decide +kernel
theorem dX11_strip_7 : decode cX11_strip 7 = .ok (.lconst 0, 1) := by decide +kernel
theorem dX11_strip_8 : decode cX11_strip 8 = .ok (.ldc2_w 221, 3) := by decide +kernel
theorem dX11_strip_11 : decode cX11_strip 11 = .ok (.invokestatic 138, 3) := by decide +kernel
theorem dX11_strip_14 : decode cX11_strip 14 = .ok (.ifCond .ne 6, 3) := by decide +kernel
theorem dX11_strip_17 : decode cX11_strip 17 = .ok (.bipush (-3), 2) := by decide +kernel
theorem dX11_strip_19 : decode cX11_strip 19 = .ok (.ireturn, 1) := by decide +kernel
theorem dX11_strip_20 : decode cX11_strip 20 = .ok (.iload_n 1, 1) := by decide +kernel
theorem dX11_strip_21 : decode cX11_strip 21 = .ok (.ifCond .eq 10, 3) := by decide +kernel
theorem dX11_strip_24 : decode cX11_strip 24 = .ok (.bipush 10, 2) := by decide +kernel
theorem dX11_strip_26 : decode cX11_strip 26 = .ok (.iload_n 2, 1) := by decide +kernel
theorem dX11_strip_27 : decode cX11_strip 27 = .ok (.iadd, 1) := by decide +kernel
theorem dX11_strip_28 : decode cX11_strip 28 = .ok (.goto 4, 3) := by decide +kernel
theorem dX11_strip_31 : decode cX11_strip 31 = .ok (.iload_n 2, 1) := by decide +kernel
theorem dX11_strip_32 : decode cX11_strip 32 = .ok (.istore_n 3, 1) := by decide +kernel
theorem dX11_strip_33 : decode cX11_strip 33 = .ok (.aload_n 0, 1) := by decide +kernel
theorem dX11_strip_34 : decode cX11_strip 34 = .ok (.getfield 29, 3) := by decide +kernel
theorem dX11_strip_37 : decode cX11_strip 37 = .ok (.iload_n 3, 1) := by decide +kernel
theorem dX11_strip_38 : decode cX11_strip 38 = .ok (.iaload, 1) := by decide +kernel
theorem dX11_strip_39 : decode cX11_strip 39 = .ok (.istore 4, 2) := by decide +kernel
theorem dX11_strip_41 : decode cX11_strip 41 = .ok (.aload_n 0, 1) := by decide +kernel
theorem dX11_strip_42 : decode cX11_strip 42 = .ok (.getfield 29, 3) := by decide +kernel
theorem dX11_strip_45 : decode cX11_strip 45 = .ok (.iload_n 3, 1) := by decide +kernel
theorem dX11_strip_46 : decode cX11_strip 46 = .ok (.iconst 0, 1) := by decide +kernel
theorem dX11_strip_47 : decode cX11_strip 47 = .ok (.iastore, 1) := by decide +kernel
theorem dX11_strip_48 : decode cX11_strip 48 = .ok (.iload 4, 2) := by decide +kernel
theorem dX11_strip_50 : decode cX11_strip 50 = .ok (.ireturn, 1) := by decide +kernel
theorem dX11_alias_0 : decode cX11_alias 0 = .ok (.aload_n 0, 1) := by decide +kernel
theorem dX11_alias_1 : decode cX11_alias 1 = .ok (.iconst 0, 1) := by decide +kernel
theorem dX11_alias_2 : decode cX11_alias 2 = .ok (.putfield 131, 3) := by decide +kernel
theorem dX11_alias_5 : decode cX11_alias 5 = .ok (.iload_n 1, 1) := by decide +kernel
theorem dX11_alias_6 : decode cX11_alias 6 = .ok (.i2l, 1) := by decide +kernel
theorem dX11_alias_7 : decode cX11_alias 7 = .ok (.lconst 0, 1) := by decide +kernel
theorem dX11_alias_8 : decode cX11_alias 8 = .ok (.ldc2_w 219, 3) := by decide +kernel
theorem dX11_alias_11 : decode cX11_alias 11 = .ok (.invokestatic 138, 3) := by decide +kernel
theorem dX11_alias_14 : decode cX11_alias 14 = .ok (.ifCond .eq 20, 3) := by decide +kernel
theorem dX11_alias_17 : decode cX11_alias 17 = .ok (.iload_n 2, 1) := by decide +kernel
theorem dX11_alias_18 : decode cX11_alias 18 = .ok (.i2l, 1) := by decide +kernel
theorem dX11_alias_19 : decode cX11_alias 19 = .ok (.lconst 0, 1) := by decide +kernel
theorem dX11_alias_20 : decode cX11_alias 20 = .ok (.ldc2_w 219, 3) := by decide +kernel
theorem dX11_alias_23 : decode cX11_alias 23 = .ok (.invokestatic 138, 3) := by decide +kernel
theorem dX11_alias_26 : decode cX11_alias 26 = .ok (.ifCond .eq 8, 3) := by decide +kernel
theorem dX11_alias_29 : decode cX11_alias 29 = .ok (.iload_n 1, 1) := by decide +kernel
theorem dX11_alias_30 : decode cX11_alias 30 = .ok (.iload_n 2, 1) := by decide +kernel
theorem dX11_alias_31 : decode cX11_alias 31 = .ok (.if_icmp .ne 5, 3) := by decide +kernel
theorem dX11_alias_34 : decode cX11_alias 34 = .ok (.iconst 0, 1) := by decide +kernel
theorem dX11_alias_35 : decode cX11_alias 35 = .ok (.ireturn, 1) := by decide +kernel
theorem dX11_alias_36 : decode cX11_alias 36 = .ok (.bipush 100, 2) := by decide +kernel
theorem dX11_alias_38 : decode cX11_alias 38 = .ok (.iload_n 1, 1) := by decide +kernel
theorem dX11_alias_39 : decode cX11_alias 39 = .ok (.imul, 1) := by decide +kernel
theorem dX11_alias_40 : decode cX11_alias 40 = .ok (.iload_n 2, 1) := by decide +kernel
theorem dX11_alias_41 : decode cX11_alias 41 = .ok (.iadd, 1) := by decide +kernel
theorem dX11_alias_42 : decode cX11_alias 42 = .ok (.istore 4, 2) := by decide +kernel
theorem dX11_alias_44 : decode cX11_alias 44 = .ok (.aload_n 0, 1) := by decide +kernel
theorem dX11_alias_45 : decode cX11_alias 45 = .ok (.getfield 56, 3) := by decide +kernel
theorem dX11_alias_48 : decode cX11_alias 48 = .ok (.iload 4, 2) := by decide +kernel
theorem dX11_alias_50 : decode cX11_alias 50 = .ok (.baload, 1) := by decide +kernel
theorem dX11_alias_51 : decode cX11_alias 51 = .ok (.iload_n 3, 1) := by decide +kernel
theorem dX11_alias_52 : decode cX11_alias 52 = .ok (.if_icmp .eq 16, 3) := by decide +kernel
theorem dX11_alias_55 : decode cX11_alias 55 = .ok (.iload_n 3, 1) := by decide +kernel
theorem dX11_alias_56 : decode cX11_alias 56 = .ok (.ifCond .eq 14, 3) := by decide +kernel
theorem dX11_alias_59 : decode cX11_alias 59 = .ok (.aload_n 0, 1) := by decide +kernel
theorem dX11_alias_60 : decode cX11_alias 60 = .ok (.getfield 239, 3) := by decide +kernel
theorem dX11_alias_63 : decode cX11_alias 63 = .ok (.bipush 30, 2) := by decide +kernel
theorem dX11_alias_65 : decode cX11_alias 65 = .ok (.if_icmp .ne 5, 3) := by decide +kernel
theorem dX11_alias_68 : decode cX11_alias 68 = .ok (.iconst 0, 1) := by decide +kernel
theorem dX11_alias_69 : decode cX11_alias 69 = .ok (.ireturn, 1) := by decide +kernel
theorem dX11_alias_70 : decode cX11_alias 70 = .ok (.aload_n 0, 1) := by decide +kernel
theorem dX11_alias_71 : decode cX11_alias 71 = .ok (.getfield 56, 3) := by decide +kernel
theorem dX11_alias_74 : decode cX11_alias 74 = .ok (.iload 4, 2) := by decide +kernel
theorem dX11_alias_76 : decode cX11_alias 76 = .ok (.iload_n 3, 1) := by decide +kernel
theorem dX11_alias_77 : decode cX11_alias 77 = .ok (.bastore, 1) := by decide +kernel
theorem dX11_alias_78 : decode cX11_alias 78 = .ok (.aload_n 0, 1) := by decide +kernel
theorem dX11_alias_79 : decode cX11_alias 79 = .ok (.dup, 1) := by decide +kernel
theorem dX11_alias_80 : decode cX11_alias 80 = .ok (.getfield 239, 3) := by decide +kernel
theorem dX11_alias_83 : decode cX11_alias 83 = .ok (.iload_n 3, 1) := by decide +kernel
theorem dX11_alias_84 : decode cX11_alias 84 = .ok (.ifCond .eq 7, 3) := by decide +kernel
theorem dX11_alias_87 : decode cX11_alias 87 = .ok (.iconst 1, 1) := by decide +kernel
theorem dX11_alias_88 : decode cX11_alias 88 = .ok (.goto 4, 3) := by decide +kernel
theorem dX11_alias_91 : decode cX11_alias 91 = .ok (.iconst (-1), 1) := by decide +kernel
theorem dX11_alias_92 : decode cX11_alias 92 = .ok (.iadd, 1) := by decide +kernel
theorem dX11_alias_93 : decode cX11_alias 93 = .ok (.putfield 239, 3) := by decide +kernel
theorem dX11_alias_96 : decode cX11_alias 96 = .ok (.iconst 1, 1) := by decide +kernel
theorem dX11_alias_97 : decode cX11_alias 97 = .ok (.ireturn, 1) := by decide +kernel
theorem dX11_constant_0 : decode cX11_constant 0 = .ok (.aload_n 0, 1) := by decide +kernel
theorem dX11_constant_1 : decode cX11_constant 1 = .ok (.iconst 0, 1) := by decide +kernel
theorem dX11_constant_2 : decode cX11_constant 2 = .ok (.putfield 131, 3) := by decide +kernel
theorem dX11_constant_5 : decode cX11_constant 5 = .ok (.iload_n 1, 1) := by decide +kernel
theorem dX11_constant_6 : decode cX11_constant 6 = .ok (.i2l, 1) := by decide +kernel
theorem dX11_constant_7 : decode cX11_constant 7 = .ok (.lconst 0, 1) := by decide +kernel
theorem dX11_constant_8 : decode cX11_constant 8 = .ok (.ldc2_w 150, 3) := by decide +kernel
theorem dX11_constant_11 : decode cX11_constant 11 = .ok (.invokestatic 138, 3) := by decide +kernel
theorem dX11_constant_14 : decode cX11_constant 14 = .ok (.ifCond .eq 15, 3) := by decide +kernel
theorem dX11_constant_17 : decode cX11_constant 17 = .ok (.iload_n 2, 1) := by decide +kernel
theorem dX11_constant_18 : decode cX11_constant 18 = .ok (.ifCond .eq 14, 3) := by decide +kernel
theorem dX11_constant_21 : decode cX11_constant 21 = .ok (.iload_n 1, 1) := by decide +kernel
theorem dX11_constant_22 : decode cX11_constant 22 = .ok (.lload_n 3, 1) := by decide +kernel
theorem dX11_constant_23 : decode cX11_constant 23 = .ok (.invokestatic 176, 3) := by decide +kernel
theorem dX11_constant_26 : decode cX11_constant 26 = .ok (.ifCond .ne 6, 3) := by decide +kernel
theorem dX11_constant_29 : decode cX11_constant 29 = .ok (.bipush (-3), 2) := by decide +kernel
theorem dX11_constant_31 : decode cX11_constant 31 = .ok (.ireturn, 1) := by decide +kernel
theorem dX11_constant_32 : decode cX11_constant 32 = .ok (.aload_n 0, 1) := by decide +kernel
theorem dX11_constant_33 : decode cX11_constant 33 = .ok (.getfield 59, 3) := by decide +kernel
theorem dX11_constant_36 : decode cX11_constant 36 = .ok (.iload_n 1, 1) := by decide +kernel
theorem dX11_constant_37 : decode cX11_constant 37 = .ok (.baload, 1) := by decide +kernel
theorem dX11_constant_38 : decode cX11_constant 38 = .ok (.ifCond .eq 7, 3) := by decide +kernel
theorem dX11_constant_41 : decode cX11_constant 41 = .ok (.iconst 1, 1) := by decide +kernel
theorem dX11_constant_42 : decode cX11_constant 42 = .ok (.goto 4, 3) := by decide +kernel
theorem dX11_constant_45 : decode cX11_constant 45 = .ok (.iconst 0, 1) := by decide +kernel
theorem dX11_constant_46 : decode cX11_constant 46 = .ok (.istore 5, 2) := by decide +kernel
theorem dX11_constant_48 : decode cX11_constant 48 = .ok (.aload_n 0, 1) := by decide +kernel
theorem dX11_constant_49 : decode cX11_constant 49 = .ok (.getfield 59, 3) := by decide +kernel
theorem dX11_constant_52 : decode cX11_constant 52 = .ok (.iload_n 1, 1) := by decide +kernel
theorem dX11_constant_53 : decode cX11_constant 53 = .ok (.iload_n 2, 1) := by decide +kernel
theorem dX11_constant_54 : decode cX11_constant 54 = .ok (.bastore, 1) := by decide +kernel
theorem dX11_constant_55 : decode cX11_constant 55 = .ok (.aload_n 0, 1) := by decide +kernel
theorem dX11_constant_56 : decode cX11_constant 56 = .ok (.getfield 62, 3) := by decide +kernel
theorem dX11_constant_59 : decode cX11_constant 59 = .ok (.iload_n 1, 1) := by decide +kernel
theorem dX11_constant_60 : decode cX11_constant 60 = .ok (.lload_n 3, 1) := by decide +kernel
theorem dX11_constant_61 : decode cX11_constant 61 = .ok (.lastore, 1) := by decide +kernel
theorem dX11_constant_62 : decode cX11_constant 62 = .ok (.iload 5, 2) := by decide +kernel
theorem dX11_constant_64 : decode cX11_constant 64 = .ok (.ireturn, 1) := by decide +kernel
theorem dX11_costOf_0 : decode cX11_costOf 0 = .ok (.aload_n 0, 1) := by decide +kernel
theorem dX11_costOf_1 : decode cX11_costOf 1 = .ok (.getfield 75, 3) := by decide +kernel
theorem dX11_costOf_4 : decode cX11_costOf 4 = .ok (.bipush 7, 2) := by decide +kernel
theorem dX11_costOf_6 : decode cX11_costOf 6 = .ok (.aload_n 0, 1) := by decide +kernel
theorem dX11_costOf_7 : decode cX11_costOf 7 = .ok (.getfield 41, 3) := by decide +kernel
theorem dX11_costOf_10 : decode cX11_costOf 10 = .ok (.iload_n 2, 1) := by decide +kernel
theorem dX11_costOf_11 : decode cX11_costOf 11 = .ok (.iaload, 1) := by decide +kernel
theorem dX11_costOf_12 : decode cX11_costOf 12 = .ok (.imul, 1) := by decide +kernel
theorem dX11_costOf_13 : decode cX11_costOf 13 = .ok (.aload_n 0, 1) := by decide +kernel
theorem dX11_costOf_14 : decode cX11_costOf 14 = .ok (.getfield 41, 3) := by decide +kernel
theorem dX11_costOf_17 : decode cX11_costOf 17 = .ok (.iload_n 1, 1) := by decide +kernel
theorem dX11_costOf_18 : decode cX11_costOf 18 = .ok (.iaload, 1) := by decide +kernel
theorem dX11_costOf_19 : decode cX11_costOf 19 = .ok (.iadd, 1) := by decide +kernel
theorem dX11_costOf_20 : decode cX11_costOf 20 = .ok (.iaload, 1) := by decide +kernel
theorem dX11_costOf_21 : decode cX11_costOf 21 = .ok (.istore_n 3, 1) := by decide +kernel
theorem dX11_costOf_22 : decode cX11_costOf 22 = .ok (.iconst 0, 1) := by decide +kernel
theorem dX11_costOf_23 : decode cX11_costOf 23 = .ok (.istore 4, 2) := by decide +kernel
theorem dX11_costOf_25 : decode cX11_costOf 25 = .ok (.iconst 0, 1) := by decide +kernel
theorem dX11_costOf_26 : decode cX11_costOf 26 = .ok (.istore 5, 2) := by decide +kernel
theorem dX11_costOf_28 : decode cX11_costOf 28 = .ok (.iload 5, 2) := by decide +kernel
theorem dX11_costOf_30 : decode cX11_costOf 30 = .ok (.aload_n 0, 1) := by decide +kernel
theorem dX11_costOf_31 : decode cX11_costOf 31 = .ok (.getfield 35, 3) := by decide +kernel
theorem dX11_costOf_34 : decode cX11_costOf 34 = .ok (.iload_n 2, 1) := by decide +kernel
theorem dX11_costOf_35 : decode cX11_costOf 35 = .ok (.iaload, 1) := by decide +kernel
theorem dX11_costOf_36 : decode cX11_costOf 36 = .ok (.if_icmp .ge 137, 3) := by decide +kernel
theorem dX11_costOf_39 : decode cX11_costOf 39 = .ok (.aload_n 0, 1) := by decide +kernel
theorem dX11_costOf_40 : decode cX11_costOf 40 = .ok (.getfield 90, 3) := by decide +kernel
theorem dX11_costOf_43 : decode cX11_costOf 43 = .ok (.iload 5, 2) := by decide +kernel
theorem dX11_costOf_45 : decode cX11_costOf 45 = .ok (.iaload, 1) := by decide +kernel
theorem dX11_costOf_46 : decode cX11_costOf 46 = .ok (.istore 6, 2) := by decide +kernel
theorem dX11_costOf_48 : decode cX11_costOf 48 = .ok (.aload_n 0, 1) := by decide +kernel
theorem dX11_costOf_49 : decode cX11_costOf 49 = .ok (.getfield 38, 3) := by decide +kernel
theorem dX11_costOf_52 : decode cX11_costOf 52 = .ok (.iconst 4, 1) := by decide +kernel
theorem dX11_costOf_53 : decode cX11_costOf 53 = .ok (.iload_n 2, 1) := by decide +kernel
theorem dX11_costOf_54 : decode cX11_costOf 54 = .ok (.imul, 1) := by decide +kernel
theorem dX11_costOf_55 : decode cX11_costOf 55 = .ok (.iload 5, 2) := by decide +kernel
theorem dX11_costOf_57 : decode cX11_costOf 57 = .ok (.iadd, 1) := by decide +kernel
theorem dX11_costOf_58 : decode cX11_costOf 58 = .ok (.iaload, 1) := by decide +kernel
theorem dX11_costOf_59 : decode cX11_costOf 59 = .ok (.istore 7, 2) := by decide +kernel
theorem dX11_costOf_61 : decode cX11_costOf 61 = .ok (.iload 6, 2) := by decide +kernel
theorem dX11_costOf_63 : decode cX11_costOf 63 = .ok (.iconst 4, 1) := by decide +kernel
theorem dX11_costOf_64 : decode cX11_costOf 64 = .ok (.if_icmp .ne 26, 3) := by decide +kernel
theorem dX11_costOf_67 : decode cX11_costOf 67 = .ok (.iload_n 3, 1) := by decide +kernel
theorem dX11_costOf_68 : decode cX11_costOf 68 = .ok (.aload_n 0, 1) := by decide +kernel
theorem dX11_costOf_69 : decode cX11_costOf 69 = .ok (.getfield 59, 3) := by decide +kernel
theorem dX11_costOf_72 : decode cX11_costOf 72 = .ok (.iload 7, 2) := by decide +kernel
theorem dX11_costOf_74 : decode cX11_costOf 74 = .ok (.baload, 1) := by decide +kernel
theorem dX11_costOf_75 : decode cX11_costOf 75 = .ok (.ifCond .eq 8, 3) := by decide +kernel
theorem dX11_costOf_78 : decode cX11_costOf 78 = .ok (.bipush 7, 2) := by decide +kernel
theorem dX11_costOf_80 : decode cX11_costOf 80 = .ok (.goto 5, 3) := by decide +kernel
theorem dX11_costOf_83 : decode cX11_costOf 83 = .ok (.ldc 180, 2) := by decide +kernel
theorem dX11_costOf_85 : decode cX11_costOf 85 = .ok (.iadd, 1) := by decide +kernel
theorem dX11_costOf_86 : decode cX11_costOf 86 = .ok (.istore_n 3, 1) := by decide +kernel
theorem dX11_costOf_87 : decode cX11_costOf 87 = .ok (.goto 80, 3) := by decide +kernel
theorem dX11_costOf_90 : decode cX11_costOf 90 = .ok (.iload 6, 2) := by decide +kernel
theorem dX11_costOf_92 : decode cX11_costOf 92 = .ok (.aload_n 0, 1) := by decide +kernel
theorem dX11_costOf_93 : decode cX11_costOf 93 = .ok (.getfield 35, 3) := by decide +kernel
theorem dX11_costOf_96 : decode cX11_costOf 96 = .ok (.iload_n 1, 1) := by decide +kernel
theorem dX11_costOf_97 : decode cX11_costOf 97 = .ok (.iaload, 1) := by decide +kernel
theorem dX11_costOf_98 : decode cX11_costOf 98 = .ok (.if_icmp .ge 14, 3) := by decide +kernel
theorem dX11_costOf_101 : decode cX11_costOf 101 = .ok (.iload 4, 2) := by decide +kernel
theorem dX11_costOf_103 : decode cX11_costOf 103 = .ok (.iload 6, 2) := by decide +kernel
theorem dX11_costOf_105 : decode cX11_costOf 105 = .ok (.ishr, 1) := by decide +kernel
theorem dX11_costOf_106 : decode cX11_costOf 106 = .ok (.iconst 1, 1) := by decide +kernel
theorem dX11_costOf_107 : decode cX11_costOf 107 = .ok (.iand, 1) := by decide +kernel
theorem dX11_costOf_108 : decode cX11_costOf 108 = .ok (.iconst 1, 1) := by decide +kernel
theorem dX11_costOf_109 : decode cX11_costOf 109 = .ok (.if_icmp .ne 11, 3) := by decide +kernel
theorem dX11_costOf_112 : decode cX11_costOf 112 = .ok (.iload_n 3, 1) := by decide +kernel
theorem dX11_costOf_113 : decode cX11_costOf 113 = .ok (.ldc 180, 2) := by decide +kernel
theorem dX11_costOf_115 : decode cX11_costOf 115 = .ok (.iadd, 1) := by decide +kernel
theorem dX11_costOf_116 : decode cX11_costOf 116 = .ok (.istore_n 3, 1) := by decide +kernel
theorem dX11_costOf_117 : decode cX11_costOf 117 = .ok (.goto 50, 3) := by decide +kernel
theorem dX11_costOf_120 : decode cX11_costOf 120 = .ok (.iload 4, 2) := by decide +kernel
theorem dX11_costOf_122 : decode cX11_costOf 122 = .ok (.iconst 1, 1) := by decide +kernel
theorem dX11_costOf_123 : decode cX11_costOf 123 = .ok (.iload 6, 2) := by decide +kernel
theorem dX11_costOf_125 : decode cX11_costOf 125 = .ok (.ishl, 1) := by decide +kernel
theorem dX11_costOf_126 : decode cX11_costOf 126 = .ok (.ior, 1) := by decide +kernel
theorem dX11_costOf_127 : decode cX11_costOf 127 = .ok (.istore 4, 2) := by decide +kernel
theorem dX11_costOf_129 : decode cX11_costOf 129 = .ok (.iload_n 3, 1) := by decide +kernel
theorem dX11_costOf_130 : decode cX11_costOf 130 = .ok (.aload_n 0, 1) := by decide +kernel
theorem dX11_costOf_131 : decode cX11_costOf 131 = .ok (.getfield 75, 3) := by decide +kernel
theorem dX11_costOf_134 : decode cX11_costOf 134 = .ok (.bipush 7, 2) := by decide +kernel
theorem dX11_costOf_136 : decode cX11_costOf 136 = .ok (.aload_n 0, 1) := by decide +kernel
theorem dX11_costOf_137 : decode cX11_costOf 137 = .ok (.getfield 38, 3) := by decide +kernel
theorem dX11_costOf_140 : decode cX11_costOf 140 = .ok (.iconst 4, 1) := by decide +kernel
theorem dX11_costOf_141 : decode cX11_costOf 141 = .ok (.iload_n 1, 1) := by decide +kernel
theorem dX11_costOf_142 : decode cX11_costOf 142 = .ok (.imul, 1) := by decide +kernel
theorem dX11_costOf_143 : decode cX11_costOf 143 = .ok (.iload 6, 2) := by decide +kernel
theorem dX11_costOf_145 : decode cX11_costOf 145 = .ok (.iadd, 1) := by decide +kernel
theorem dX11_costOf_146 : decode cX11_costOf 146 = .ok (.iaload, 1) := by decide +kernel
theorem dX11_costOf_147 : decode cX11_costOf 147 = .ok (.imul, 1) := by decide +kernel
theorem dX11_costOf_148 : decode cX11_costOf 148 = .ok (.iload 7, 2) := by decide +kernel
theorem dX11_costOf_150 : decode cX11_costOf 150 = .ok (.iadd, 1) := by decide +kernel
theorem dX11_costOf_151 : decode cX11_costOf 151 = .ok (.iaload, 1) := by decide +kernel
theorem dX11_costOf_152 : decode cX11_costOf 152 = .ok (.iload 5, 2) := by decide +kernel
theorem dX11_costOf_154 : decode cX11_costOf 154 = .ok (.iload 6, 2) := by decide +kernel
theorem dX11_costOf_156 : decode cX11_costOf 156 = .ok (.if_icmp .eq 7, 3) := by decide +kernel
theorem dX11_costOf_159 : decode cX11_costOf 159 = .ok (.iconst 1, 1) := by decide +kernel
theorem dX11_costOf_160 : decode cX11_costOf 160 = .ok (.goto 4, 3) := by decide +kernel
theorem dX11_costOf_163 : decode cX11_costOf 163 = .ok (.iconst 0, 1) := by decide +kernel
theorem dX11_costOf_164 : decode cX11_costOf 164 = .ok (.iadd, 1) := by decide +kernel
theorem dX11_costOf_165 : decode cX11_costOf 165 = .ok (.iadd, 1) := by decide +kernel
theorem dX11_costOf_166 : decode cX11_costOf 166 = .ok (.istore_n 3, 1) := by decide +kernel
theorem dX11_costOf_167 : decode cX11_costOf 167 = .ok (.iinc 5 1, 3) := by decide +kernel
theorem dX11_costOf_170 : decode cX11_costOf 170 = .ok (.goto (-142), 3) := by decide +kernel
theorem dX11_costOf_173 : decode cX11_costOf 173 = .ok (.iconst 0, 1) := by decide +kernel
theorem dX11_costOf_174 : decode cX11_costOf 174 = .ok (.istore 5, 2) := by decide +kernel
theorem dX11_costOf_176 : decode cX11_costOf 176 = .ok (.iload 5, 2) := by decide +kernel
theorem dX11_costOf_178 : decode cX11_costOf 178 = .ok (.aload_n 0, 1) := by decide +kernel
theorem dX11_costOf_179 : decode cX11_costOf 179 = .ok (.getfield 35, 3) := by decide +kernel
theorem dX11_costOf_182 : decode cX11_costOf 182 = .ok (.iload_n 1, 1) := by decide +kernel
theorem dX11_costOf_183 : decode cX11_costOf 183 = .ok (.iaload, 1) := by decide +kernel
theorem dX11_costOf_184 : decode cX11_costOf 184 = .ok (.if_icmp .ge 27, 3) := by decide +kernel
theorem dX11_costOf_187 : decode cX11_costOf 187 = .ok (.iload_n 3, 1) := by decide +kernel
theorem dX11_costOf_188 : decode cX11_costOf 188 = .ok (.iload 4, 2) := by decide +kernel
theorem dX11_costOf_190 : decode cX11_costOf 190 = .ok (.iload 5, 2) := by decide +kernel
theorem dX11_costOf_192 : decode cX11_costOf 192 = .ok (.ishr, 1) := by decide +kernel
theorem dX11_costOf_193 : decode cX11_costOf 193 = .ok (.iconst 1, 1) := by decide +kernel
theorem dX11_costOf_194 : decode cX11_costOf 194 = .ok (.iand, 1) := by decide +kernel
theorem dX11_costOf_195 : decode cX11_costOf 195 = .ok (.ifCond .ne 7, 3) := by decide +kernel
theorem dX11_costOf_198 : decode cX11_costOf 198 = .ok (.iconst 4, 1) := by decide +kernel
theorem dX11_costOf_199 : decode cX11_costOf 199 = .ok (.goto 4, 3) := by decide +kernel
theorem dX11_costOf_202 : decode cX11_costOf 202 = .ok (.iconst 0, 1) := by decide +kernel
theorem dX11_costOf_203 : decode cX11_costOf 203 = .ok (.iadd, 1) := by decide +kernel
theorem dX11_costOf_204 : decode cX11_costOf 204 = .ok (.istore_n 3, 1) := by decide +kernel
theorem dX11_costOf_205 : decode cX11_costOf 205 = .ok (.iinc 5 1, 3) := by decide +kernel
theorem dX11_costOf_208 : decode cX11_costOf 208 = .ok (.goto (-32), 3) := by decide +kernel
theorem dX11_costOf_211 : decode cX11_costOf 211 = .ok (.iload_n 3, 1) := by decide +kernel
theorem dX11_costOf_212 : decode cX11_costOf 212 = .ok (.ireturn, 1) := by decide +kernel
theorem dX11_nextPlaces_0 : decode cX11_nextPlaces 0 = .ok (.aload_n 0, 1) := by decide +kernel
theorem dX11_nextPlaces_1 : decode cX11_nextPlaces 1 = .ok (.getfield 35, 3) := by decide +kernel
theorem dX11_nextPlaces_4 : decode cX11_nextPlaces 4 = .ok (.iload_n 1, 1) := by decide +kernel
theorem dX11_nextPlaces_5 : decode cX11_nextPlaces 5 = .ok (.iaload, 1) := by decide +kernel
theorem dX11_nextPlaces_6 : decode cX11_nextPlaces 6 = .ok (.iconst 1, 1) := by decide +kernel
theorem dX11_nextPlaces_7 : decode cX11_nextPlaces 7 = .ok (.isub, 1) := by decide +kernel
theorem dX11_nextPlaces_8 : decode cX11_nextPlaces 8 = .ok (.istore_n 2, 1) := by decide +kernel
theorem dX11_nextPlaces_9 : decode cX11_nextPlaces 9 = .ok (.iload_n 2, 1) := by decide +kernel
theorem dX11_nextPlaces_10 : decode cX11_nextPlaces 10 = .ok (.ifCond .lt 26, 3) := by decide +kernel
theorem dX11_nextPlaces_13 : decode cX11_nextPlaces 13 = .ok (.aload_n 0, 1) := by decide +kernel
theorem dX11_nextPlaces_14 : decode cX11_nextPlaces 14 = .ok (.getfield 90, 3) := by decide +kernel
theorem dX11_nextPlaces_17 : decode cX11_nextPlaces 17 = .ok (.iload_n 2, 1) := by decide +kernel
theorem dX11_nextPlaces_18 : decode cX11_nextPlaces 18 = .ok (.iaload, 1) := by decide +kernel
theorem dX11_nextPlaces_19 : decode cX11_nextPlaces 19 = .ok (.iconst 4, 1) := by decide +kernel
theorem dX11_nextPlaces_20 : decode cX11_nextPlaces 20 = .ok (.if_icmp .ne 16, 3) := by decide +kernel
theorem dX11_nextPlaces_23 : decode cX11_nextPlaces 23 = .ok (.aload_n 0, 1) := by decide +kernel
theorem dX11_nextPlaces_24 : decode cX11_nextPlaces 24 = .ok (.getfield 90, 3) := by decide +kernel
theorem dX11_nextPlaces_27 : decode cX11_nextPlaces 27 = .ok (.iload_n 2, 1) := by decide +kernel
theorem dX11_nextPlaces_28 : decode cX11_nextPlaces 28 = .ok (.iconst 0, 1) := by decide +kernel
theorem dX11_nextPlaces_29 : decode cX11_nextPlaces 29 = .ok (.iastore, 1) := by decide +kernel
theorem dX11_nextPlaces_30 : decode cX11_nextPlaces 30 = .ok (.iinc 2 (-1), 3) := by decide +kernel
theorem dX11_nextPlaces_33 : decode cX11_nextPlaces 33 = .ok (.goto (-24), 3) := by decide +kernel
theorem dX11_nextPlaces_36 : decode cX11_nextPlaces 36 = .ok (.iload_n 2, 1) := by decide +kernel
theorem dX11_nextPlaces_37 : decode cX11_nextPlaces 37 = .ok (.ifCond .ge 5, 3) := by decide +kernel
theorem dX11_nextPlaces_40 : decode cX11_nextPlaces 40 = .ok (.iconst 0, 1) := by decide +kernel
theorem dX11_nextPlaces_41 : decode cX11_nextPlaces 41 = .ok (.ireturn, 1) := by decide +kernel
theorem dX11_nextPlaces_42 : decode cX11_nextPlaces 42 = .ok (.aload_n 0, 1) := by decide +kernel
theorem dX11_nextPlaces_43 : decode cX11_nextPlaces 43 = .ok (.getfield 90, 3) := by decide +kernel
theorem dX11_nextPlaces_46 : decode cX11_nextPlaces 46 = .ok (.iload_n 2, 1) := by decide +kernel
theorem dX11_nextPlaces_47 : decode cX11_nextPlaces 47 = .ok (.dup2, 1) := by decide +kernel
theorem dX11_nextPlaces_48 : decode cX11_nextPlaces 48 = .ok (.iaload, 1) := by decide +kernel
theorem dX11_nextPlaces_49 : decode cX11_nextPlaces 49 = .ok (.iconst 1, 1) := by decide +kernel
theorem dX11_nextPlaces_50 : decode cX11_nextPlaces 50 = .ok (.iadd, 1) := by decide +kernel
theorem dX11_nextPlaces_51 : decode cX11_nextPlaces 51 = .ok (.iastore, 1) := by decide +kernel
theorem dX11_nextPlaces_52 : decode cX11_nextPlaces 52 = .ok (.iconst 1, 1) := by decide +kernel
theorem dX11_nextPlaces_53 : decode cX11_nextPlaces 53 = .ok (.ireturn, 1) := by decide +kernel
theorem dX11_serve_0 : decode cX11_serve 0 = .ok (.aload_n 0, 1) := by decide +kernel
theorem dX11_serve_1 : decode cX11_serve 1 = .ok (.ldc 180, 2) := by decide +kernel
theorem dX11_serve_3 : decode cX11_serve 3 = .ok (.putfield 242, 3) := by decide +kernel
theorem dX11_serve_6 : decode cX11_serve 6 = .ok (.aload_n 0, 1) := by decide +kernel
theorem dX11_serve_7 : decode cX11_serve 7 = .ok (.getfield 32, 3) := by decide +kernel
theorem dX11_serve_10 : decode cX11_serve 10 = .ok (.iload_n 1, 1) := by decide +kernel
theorem dX11_serve_11 : decode cX11_serve 11 = .ok (.iaload, 1) := by decide +kernel
theorem dX11_serve_12 : decode cX11_serve 12 = .ok (.aload_n 0, 1) := by decide +kernel
theorem dX11_serve_13 : decode cX11_serve 13 = .ok (.getfield 32, 3) := by decide +kernel
theorem dX11_serve_16 : decode cX11_serve 16 = .ok (.iload_n 2, 1) := by decide +kernel
theorem dX11_serve_17 : decode cX11_serve 17 = .ok (.iaload, 1) := by decide +kernel
theorem dX11_serve_18 : decode cX11_serve 18 = .ok (.if_icmp .ne 7, 3) := by decide +kernel
theorem dX11_serve_21 : decode cX11_serve 21 = .ok (.iconst 0, 1) := by decide +kernel
theorem dX11_serve_22 : decode cX11_serve 22 = .ok (.goto 33, 3) := by decide +kernel
theorem dX11_serve_25 : decode cX11_serve 25 = .ok (.aload_n 0, 1) := by decide +kernel
theorem dX11_serve_26 : decode cX11_serve 26 = .ok (.getfield 56, 3) := by decide +kernel
theorem dX11_serve_29 : decode cX11_serve 29 = .ok (.bipush 100, 2) := by decide +kernel
theorem dX11_serve_31 : decode cX11_serve 31 = .ok (.aload_n 0, 1) := by decide +kernel
theorem dX11_serve_32 : decode cX11_serve 32 = .ok (.getfield 32, 3) := by decide +kernel
theorem dX11_serve_35 : decode cX11_serve 35 = .ok (.iload_n 1, 1) := by decide +kernel
theorem dX11_serve_36 : decode cX11_serve 36 = .ok (.iaload, 1) := by decide +kernel
theorem dX11_serve_37 : decode cX11_serve 37 = .ok (.imul, 1) := by decide +kernel
theorem dX11_serve_38 : decode cX11_serve 38 = .ok (.aload_n 0, 1) := by decide +kernel
theorem dX11_serve_39 : decode cX11_serve 39 = .ok (.getfield 32, 3) := by decide +kernel
theorem dX11_serve_42 : decode cX11_serve 42 = .ok (.iload_n 2, 1) := by decide +kernel
end
section
theorem dX11_serve_43 : decode cX11_serve 43 = .ok (.iaload, 1) := by decide +kernel
theorem dX11_serve_44 : decode cX11_serve 44 = .ok (.iadd, 1) := by decide +kernel
theorem dX11_serve_45 : decode cX11_serve 45 = .ok (.baload, 1) := by decide +kernel
theorem dX11_serve_46 : decode cX11_serve 46 = .ok (.ifCond .eq 7, 3) := by decide +kernel
theorem dX11_serve_49 : decode cX11_serve 49 = .ok (.iconst 2, 1) := by decide +kernel
theorem dX11_serve_50 : decode cX11_serve 50 = .ok (.goto 5, 3) := by decide +kernel
theorem dX11_serve_53 : decode cX11_serve 53 = .ok (.ldc 180, 2) := by decide +kernel
theorem dX11_serve_55 : decode cX11_serve 55 = .ok (.istore_n 3, 1) := by decide +kernel
theorem dX11_serve_56 : decode cX11_serve 56 = .ok (.iload_n 3, 1) := by decide +kernel
theorem dX11_serve_57 : decode cX11_serve 57 = .ok (.ldc 180, 2) := by decide +kernel
theorem dX11_serve_59 : decode cX11_serve 59 = .ok (.if_icmp .ne 6, 3) := by decide +kernel
theorem dX11_serve_62 : decode cX11_serve 62 = .ok (.ldc 180, 2) := by decide +kernel
theorem dX11_serve_64 : decode cX11_serve 64 = .ok (.ireturn, 1) := by decide +kernel
theorem dX11_serve_65 : decode cX11_serve 65 = .ok (.iconst 0, 1) := by decide +kernel
theorem dX11_serve_66 : decode cX11_serve 66 = .ok (.istore 4, 2) := by decide +kernel
theorem dX11_serve_68 : decode cX11_serve 68 = .ok (.iload 4, 2) := by decide +kernel
theorem dX11_serve_70 : decode cX11_serve 70 = .ok (.iconst 4, 1) := by decide +kernel
theorem dX11_serve_71 : decode cX11_serve 71 = .ok (.if_icmp .ge 17, 3) := by decide +kernel
theorem dX11_serve_74 : decode cX11_serve 74 = .ok (.aload_n 0, 1) := by decide +kernel
theorem dX11_serve_75 : decode cX11_serve 75 = .ok (.getfield 90, 3) := by decide +kernel
theorem dX11_serve_78 : decode cX11_serve 78 = .ok (.iload 4, 2) := by decide +kernel
theorem dX11_serve_80 : decode cX11_serve 80 = .ok (.iconst 0, 1) := by decide +kernel
theorem dX11_serve_81 : decode cX11_serve 81 = .ok (.iastore, 1) := by decide +kernel
theorem dX11_serve_82 : decode cX11_serve 82 = .ok (.iinc 4 1, 3) := by decide +kernel
theorem dX11_serve_85 : decode cX11_serve 85 = .ok (.goto (-17), 3) := by decide +kernel
theorem dX11_serve_88 : decode cX11_serve 88 = .ok (.iconst 1, 1) := by decide +kernel
theorem dX11_serve_89 : decode cX11_serve 89 = .ok (.istore 4, 2) := by decide +kernel
theorem dX11_serve_91 : decode cX11_serve 91 = .ok (.iload 4, 2) := by decide +kernel
theorem dX11_serve_93 : decode cX11_serve 93 = .ok (.ifCond .eq 67, 3) := by decide +kernel
theorem dX11_serve_96 : decode cX11_serve 96 = .ok (.aload_n 0, 1) := by decide +kernel
theorem dX11_serve_97 : decode cX11_serve 97 = .ok (.iload_n 1, 1) := by decide +kernel
theorem dX11_serve_98 : decode cX11_serve 98 = .ok (.iload_n 2, 1) := by decide +kernel
theorem dX11_serve_99 : decode cX11_serve 99 = .ok (.invokevirtual 245, 3) := by decide +kernel
theorem dX11_serve_102 : decode cX11_serve 102 = .ok (.iload_n 3, 1) := by decide +kernel
theorem dX11_serve_103 : decode cX11_serve 103 = .ok (.iadd, 1) := by decide +kernel
theorem dX11_serve_104 : decode cX11_serve 104 = .ok (.istore 5, 2) := by decide +kernel
theorem dX11_serve_106 : decode cX11_serve 106 = .ok (.iload 5, 2) := by decide +kernel
theorem dX11_serve_108 : decode cX11_serve 108 = .ok (.aload_n 0, 1) := by decide +kernel
theorem dX11_serve_109 : decode cX11_serve 109 = .ok (.getfield 242, 3) := by decide +kernel
theorem dX11_serve_112 : decode cX11_serve 112 = .ok (.if_icmp .ge 38, 3) := by decide +kernel
theorem dX11_serve_115 : decode cX11_serve 115 = .ok (.aload_n 0, 1) := by decide +kernel
theorem dX11_serve_116 : decode cX11_serve 116 = .ok (.iload 5, 2) := by decide +kernel
theorem dX11_serve_118 : decode cX11_serve 118 = .ok (.putfield 242, 3) := by decide +kernel
theorem dX11_serve_121 : decode cX11_serve 121 = .ok (.iconst 0, 1) := by decide +kernel
theorem dX11_serve_122 : decode cX11_serve 122 = .ok (.istore 6, 2) := by decide +kernel
theorem dX11_serve_124 : decode cX11_serve 124 = .ok (.iload 6, 2) := by decide +kernel
theorem dX11_serve_126 : decode cX11_serve 126 = .ok (.iconst 4, 1) := by decide +kernel
theorem dX11_serve_127 : decode cX11_serve 127 = .ok (.if_icmp .ge 23, 3) := by decide +kernel
theorem dX11_serve_130 : decode cX11_serve 130 = .ok (.aload_n 0, 1) := by decide +kernel
theorem dX11_serve_131 : decode cX11_serve 131 = .ok (.getfield 93, 3) := by decide +kernel
theorem dX11_serve_134 : decode cX11_serve 134 = .ok (.iload 6, 2) := by decide +kernel
theorem dX11_serve_136 : decode cX11_serve 136 = .ok (.aload_n 0, 1) := by decide +kernel
theorem dX11_serve_137 : decode cX11_serve 137 = .ok (.getfield 90, 3) := by decide +kernel
theorem dX11_serve_140 : decode cX11_serve 140 = .ok (.iload 6, 2) := by decide +kernel
theorem dX11_serve_142 : decode cX11_serve 142 = .ok (.iaload, 1) := by decide +kernel
theorem dX11_serve_143 : decode cX11_serve 143 = .ok (.iastore, 1) := by decide +kernel
theorem dX11_serve_144 : decode cX11_serve 144 = .ok (.iinc 6 1, 3) := by decide +kernel
theorem dX11_serve_147 : decode cX11_serve 147 = .ok (.goto (-23), 3) := by decide +kernel
theorem dX11_serve_150 : decode cX11_serve 150 = .ok (.aload_n 0, 1) := by decide +kernel
theorem dX11_serve_151 : decode cX11_serve 151 = .ok (.iload_n 2, 1) := by decide +kernel
theorem dX11_serve_152 : decode cX11_serve 152 = .ok (.invokevirtual 249, 3) := by decide +kernel
theorem dX11_serve_155 : decode cX11_serve 155 = .ok (.istore 4, 2) := by decide +kernel
theorem dX11_serve_157 : decode cX11_serve 157 = .ok (.goto (-66), 3) := by decide +kernel
theorem dX11_serve_160 : decode cX11_serve 160 = .ok (.aload_n 0, 1) := by decide +kernel
theorem dX11_serve_161 : decode cX11_serve 161 = .ok (.getfield 242, 3) := by decide +kernel
theorem dX11_serve_164 : decode cX11_serve 164 = .ok (.ireturn, 1) := by decide +kernel
theorem dX11_findFit_0 : decode cX11_findFit 0 = .ok (.aload_n 0, 1) := by decide +kernel
theorem dX11_findFit_1 : decode cX11_findFit 1 = .ok (.ldc 180, 2) := by decide +kernel
theorem dX11_findFit_3 : decode cX11_findFit 3 = .ok (.putfield 253, 3) := by decide +kernel
theorem dX11_findFit_6 : decode cX11_findFit 6 = .ok (.iconst 0, 1) := by decide +kernel
theorem dX11_findFit_7 : decode cX11_findFit 7 = .ok (.istore_n 3, 1) := by decide +kernel
theorem dX11_findFit_8 : decode cX11_findFit 8 = .ok (.iload_n 3, 1) := by decide +kernel
theorem dX11_findFit_9 : decode cX11_findFit 9 = .ok (.aload_n 0, 1) := by decide +kernel
theorem dX11_findFit_10 : decode cX11_findFit 10 = .ok (.getfield 29, 3) := by decide +kernel
theorem dX11_findFit_13 : decode cX11_findFit 13 = .ok (.iload_n 2, 1) := by decide +kernel
theorem dX11_findFit_14 : decode cX11_findFit 14 = .ok (.iaload, 1) := by decide +kernel
theorem dX11_findFit_15 : decode cX11_findFit 15 = .ok (.if_icmp .ge 71, 3) := by decide +kernel
theorem dX11_findFit_18 : decode cX11_findFit 18 = .ok (.aload_n 0, 1) := by decide +kernel
theorem dX11_findFit_19 : decode cX11_findFit 19 = .ok (.iload_n 1, 1) := by decide +kernel
theorem dX11_findFit_20 : decode cX11_findFit 20 = .ok (.bipush 6, 2) := by decide +kernel
theorem dX11_findFit_22 : decode cX11_findFit 22 = .ok (.iload_n 2, 1) := by decide +kernel
theorem dX11_findFit_23 : decode cX11_findFit 23 = .ok (.imul, 1) := by decide +kernel
theorem dX11_findFit_24 : decode cX11_findFit 24 = .ok (.iload_n 3, 1) := by decide +kernel
theorem dX11_findFit_25 : decode cX11_findFit 25 = .ok (.iadd, 1) := by decide +kernel
theorem dX11_findFit_26 : decode cX11_findFit 26 = .ok (.invokevirtual 256, 3) := by decide +kernel
theorem dX11_findFit_29 : decode cX11_findFit 29 = .ok (.istore 4, 2) := by decide +kernel
theorem dX11_findFit_31 : decode cX11_findFit 31 = .ok (.iload 4, 2) := by decide +kernel
theorem dX11_findFit_33 : decode cX11_findFit 33 = .ok (.aload_n 0, 1) := by decide +kernel
theorem dX11_findFit_34 : decode cX11_findFit 34 = .ok (.getfield 253, 3) := by decide +kernel
theorem dX11_findFit_37 : decode cX11_findFit 37 = .ok (.if_icmp .ge 43, 3) := by decide +kernel
theorem dX11_findFit_40 : decode cX11_findFit 40 = .ok (.aload_n 0, 1) := by decide +kernel
theorem dX11_findFit_41 : decode cX11_findFit 41 = .ok (.iload 4, 2) := by decide +kernel
theorem dX11_findFit_43 : decode cX11_findFit 43 = .ok (.putfield 253, 3) := by decide +kernel
theorem dX11_findFit_46 : decode cX11_findFit 46 = .ok (.aload_n 0, 1) := by decide +kernel
theorem dX11_findFit_47 : decode cX11_findFit 47 = .ok (.iload_n 3, 1) := by decide +kernel
theorem dX11_findFit_48 : decode cX11_findFit 48 = .ok (.putfield 259, 3) := by decide +kernel
theorem dX11_findFit_51 : decode cX11_findFit 51 = .ok (.iconst 0, 1) := by decide +kernel
theorem dX11_findFit_52 : decode cX11_findFit 52 = .ok (.istore 5, 2) := by decide +kernel
theorem dX11_findFit_54 : decode cX11_findFit 54 = .ok (.iload 5, 2) := by decide +kernel
theorem dX11_findFit_56 : decode cX11_findFit 56 = .ok (.iconst 4, 1) := by decide +kernel
theorem dX11_findFit_57 : decode cX11_findFit 57 = .ok (.if_icmp .ge 23, 3) := by decide +kernel
theorem dX11_findFit_60 : decode cX11_findFit 60 = .ok (.aload_n 0, 1) := by decide +kernel
theorem dX11_findFit_61 : decode cX11_findFit 61 = .ok (.getfield 96, 3) := by decide +kernel
theorem dX11_findFit_64 : decode cX11_findFit 64 = .ok (.iload 5, 2) := by decide +kernel
theorem dX11_findFit_66 : decode cX11_findFit 66 = .ok (.aload_n 0, 1) := by decide +kernel
theorem dX11_findFit_67 : decode cX11_findFit 67 = .ok (.getfield 93, 3) := by decide +kernel
theorem dX11_findFit_70 : decode cX11_findFit 70 = .ok (.iload 5, 2) := by decide +kernel
theorem dX11_findFit_72 : decode cX11_findFit 72 = .ok (.iaload, 1) := by decide +kernel
theorem dX11_findFit_73 : decode cX11_findFit 73 = .ok (.iastore, 1) := by decide +kernel
theorem dX11_findFit_74 : decode cX11_findFit 74 = .ok (.iinc 5 1, 3) := by decide +kernel
theorem dX11_findFit_77 : decode cX11_findFit 77 = .ok (.goto (-23), 3) := by decide +kernel
theorem dX11_findFit_80 : decode cX11_findFit 80 = .ok (.iinc 3 1, 3) := by decide +kernel
theorem dX11_findFit_83 : decode cX11_findFit 83 = .ok (.goto (-75), 3) := by decide +kernel
theorem dX11_findFit_86 : decode cX11_findFit 86 = .ok (.aload_n 0, 1) := by decide +kernel
theorem dX11_findFit_87 : decode cX11_findFit 87 = .ok (.getfield 253, 3) := by decide +kernel
theorem dX11_findFit_90 : decode cX11_findFit 90 = .ok (.ldc 180, 2) := by decide +kernel
theorem dX11_findFit_92 : decode cX11_findFit 92 = .ok (.if_icmp .ge 7, 3) := by decide +kernel
theorem dX11_findFit_95 : decode cX11_findFit 95 = .ok (.iconst 1, 1) := by decide +kernel
theorem dX11_findFit_96 : decode cX11_findFit 96 = .ok (.goto 4, 3) := by decide +kernel
theorem dX11_findFit_99 : decode cX11_findFit 99 = .ok (.iconst 0, 1) := by decide +kernel
theorem dX11_findFit_100 : decode cX11_findFit 100 = .ok (.ireturn, 1) := by decide +kernel
theorem dX11_fit_0 : decode cX11_fit 0 = .ok (.aload_n 0, 1) := by decide +kernel
theorem dX11_fit_1 : decode cX11_fit 1 = .ok (.iconst 0, 1) := by decide +kernel
theorem dX11_fit_2 : decode cX11_fit 2 = .ok (.putfield 131, 3) := by decide +kernel
theorem dX11_fit_5 : decode cX11_fit 5 = .ok (.iload_n 1, 1) := by decide +kernel
theorem dX11_fit_6 : decode cX11_fit 6 = .ok (.i2l, 1) := by decide +kernel
theorem dX11_fit_7 : decode cX11_fit 7 = .ok (.lconst 0, 1) := by decide +kernel
theorem dX11_fit_8 : decode cX11_fit 8 = .ok (.ldc2_w 221, 3) := by decide +kernel
theorem dX11_fit_11 : decode cX11_fit 11 = .ok (.invokestatic 138, 3) := by decide +kernel
theorem dX11_fit_14 : decode cX11_fit 14 = .ok (.ifCond .eq 28, 3) := by decide +kernel
theorem dX11_fit_17 : decode cX11_fit 17 = .ok (.iload_n 3, 1) := by decide +kernel
theorem dX11_fit_18 : decode cX11_fit 18 = .ok (.i2l, 1) := by decide +kernel
theorem dX11_fit_19 : decode cX11_fit 19 = .ok (.lconst 0, 1) := by decide +kernel
theorem dX11_fit_20 : decode cX11_fit 20 = .ok (.ldc2_w 262, 3) := by decide +kernel
theorem dX11_fit_23 : decode cX11_fit 23 = .ok (.invokestatic 138, 3) := by decide +kernel
theorem dX11_fit_26 : decode cX11_fit 26 = .ok (.ifCond .eq 16, 3) := by decide +kernel
theorem dX11_fit_29 : decode cX11_fit 29 = .ok (.iload 4, 2) := by decide +kernel
theorem dX11_fit_31 : decode cX11_fit 31 = .ok (.i2l, 1) := by decide +kernel
theorem dX11_fit_32 : decode cX11_fit 32 = .ok (.lconst 0, 1) := by decide +kernel
theorem dX11_fit_33 : decode cX11_fit 33 = .ok (.ldc2_w 264, 3) := by decide +kernel
theorem dX11_fit_36 : decode cX11_fit 36 = .ok (.invokestatic 138, 3) := by decide +kernel
theorem dX11_fit_39 : decode cX11_fit 39 = .ok (.ifCond .ne 6, 3) := by decide +kernel
theorem dX11_fit_42 : decode cX11_fit 42 = .ok (.bipush (-3), 2) := by decide +kernel
theorem dX11_fit_44 : decode cX11_fit 44 = .ok (.ireturn, 1) := by decide +kernel
theorem dX11_fit_45 : decode cX11_fit 45 = .ok (.aload_n 0, 1) := by decide +kernel
theorem dX11_fit_46 : decode cX11_fit 46 = .ok (.bipush 10, 2) := by decide +kernel
theorem dX11_fit_48 : decode cX11_fit 48 = .ok (.iload_n 1, 1) := by decide +kernel
theorem dX11_fit_49 : decode cX11_fit 49 = .ok (.iadd, 1) := by decide +kernel
theorem dX11_fit_50 : decode cX11_fit 50 = .ok (.iload_n 2, 1) := by decide +kernel
theorem dX11_fit_51 : decode cX11_fit 51 = .ok (.invokevirtual 235, 3) := by decide +kernel
theorem dX11_fit_54 : decode cX11_fit 54 = .ok (.ifCond .ne 6, 3) := by decide +kernel
theorem dX11_fit_57 : decode cX11_fit 57 = .ok (.bipush (-2), 2) := by decide +kernel
theorem dX11_fit_59 : decode cX11_fit 59 = .ok (.ireturn, 1) := by decide +kernel
theorem dX11_fit_60 : decode cX11_fit 60 = .ok (.aload_n 0, 1) := by decide +kernel
theorem dX11_fit_61 : decode cX11_fit 61 = .ok (.invokevirtual 189, 3) := by decide +kernel
theorem dX11_fit_64 : decode cX11_fit 64 = .ok (.aload_n 0, 1) := by decide +kernel
theorem dX11_fit_65 : decode cX11_fit 65 = .ok (.bipush 6, 2) := by decide +kernel
theorem dX11_fit_67 : decode cX11_fit 67 = .ok (.bipush 10, 2) := by decide +kernel
theorem dX11_fit_69 : decode cX11_fit 69 = .ok (.iload_n 1, 1) := by decide +kernel
theorem dX11_fit_70 : decode cX11_fit 70 = .ok (.iadd, 1) := by decide +kernel
theorem dX11_fit_71 : decode cX11_fit 71 = .ok (.imul, 1) := by decide +kernel
theorem dX11_fit_72 : decode cX11_fit 72 = .ok (.iload_n 2, 1) := by decide +kernel
theorem dX11_fit_73 : decode cX11_fit 73 = .ok (.iadd, 1) := by decide +kernel
theorem dX11_fit_74 : decode cX11_fit 74 = .ok (.iload_n 3, 1) := by decide +kernel
theorem dX11_fit_75 : decode cX11_fit 75 = .ok (.invokevirtual 266, 3) := by decide +kernel
theorem dX11_fit_78 : decode cX11_fit 78 = .ok (.ifCond .ne 6, 3) := by decide +kernel
theorem dX11_fit_81 : decode cX11_fit 81 = .ok (.bipush (-6), 2) := by decide +kernel
theorem dX11_fit_83 : decode cX11_fit 83 = .ok (.ireturn, 1) := by decide +kernel
theorem dX11_fit_84 : decode cX11_fit 84 = .ok (.iload 4, 2) := by decide +kernel
theorem dX11_fit_86 : decode cX11_fit 86 = .ok (.iconst 2, 1) := by decide +kernel
theorem dX11_fit_87 : decode cX11_fit 87 = .ok (.if_icmp .ge 20, 3) := by decide +kernel
theorem dX11_fit_90 : decode cX11_fit 90 = .ok (.iload 4, 2) := by decide +kernel
theorem dX11_fit_92 : decode cX11_fit 92 = .ok (.ifCond .ne 10, 3) := by decide +kernel
theorem dX11_fit_95 : decode cX11_fit 95 = .ok (.aload_n 0, 1) := by decide +kernel
theorem dX11_fit_96 : decode cX11_fit 96 = .ok (.getfield 253, 3) := by decide +kernel
theorem dX11_fit_99 : decode cX11_fit 99 = .ok (.goto 7, 3) := by decide +kernel
theorem dX11_fit_102 : decode cX11_fit 102 = .ok (.aload_n 0, 1) := by decide +kernel
theorem dX11_fit_103 : decode cX11_fit 103 = .ok (.getfield 259, 3) := by decide +kernel
theorem dX11_fit_106 : decode cX11_fit 106 = .ok (.ireturn, 1) := by decide +kernel
theorem dX11_fit_107 : decode cX11_fit 107 = .ok (.iload 4, 2) := by decide +kernel
theorem dX11_fit_109 : decode cX11_fit 109 = .ok (.iconst 2, 1) := by decide +kernel
theorem dX11_fit_110 : decode cX11_fit 110 = .ok (.isub, 1) := by decide +kernel
theorem dX11_fit_111 : decode cX11_fit 111 = .ok (.aload_n 0, 1) := by decide +kernel
theorem dX11_fit_112 : decode cX11_fit 112 = .ok (.getfield 35, 3) := by decide +kernel
theorem dX11_fit_115 : decode cX11_fit 115 = .ok (.bipush 6, 2) := by decide +kernel
theorem dX11_fit_117 : decode cX11_fit 117 = .ok (.iload_n 3, 1) := by decide +kernel
theorem dX11_fit_118 : decode cX11_fit 118 = .ok (.imul, 1) := by decide +kernel
theorem dX11_fit_119 : decode cX11_fit 119 = .ok (.aload_n 0, 1) := by decide +kernel
theorem dX11_fit_120 : decode cX11_fit 120 = .ok (.getfield 259, 3) := by decide +kernel
theorem dX11_fit_123 : decode cX11_fit 123 = .ok (.iadd, 1) := by decide +kernel
theorem dX11_fit_124 : decode cX11_fit 124 = .ok (.iaload, 1) := by decide +kernel
theorem dX11_fit_125 : decode cX11_fit 125 = .ok (.if_icmp .lt 7, 3) := by decide +kernel
theorem dX11_fit_128 : decode cX11_fit 128 = .ok (.iconst (-1), 1) := by decide +kernel
theorem dX11_fit_129 : decode cX11_fit 129 = .ok (.goto 30, 3) := by decide +kernel
theorem dX11_fit_132 : decode cX11_fit 132 = .ok (.aload_n 0, 1) := by decide +kernel
theorem dX11_fit_133 : decode cX11_fit 133 = .ok (.getfield 96, 3) := by decide +kernel
theorem dX11_fit_136 : decode cX11_fit 136 = .ok (.iload 4, 2) := by decide +kernel
theorem dX11_fit_138 : decode cX11_fit 138 = .ok (.iconst 2, 1) := by decide +kernel
theorem dX11_fit_139 : decode cX11_fit 139 = .ok (.isub, 1) := by decide +kernel
theorem dX11_fit_140 : decode cX11_fit 140 = .ok (.iaload, 1) := by decide +kernel
theorem dX11_fit_141 : decode cX11_fit 141 = .ok (.iconst 4, 1) := by decide +kernel
theorem dX11_fit_142 : decode cX11_fit 142 = .ok (.if_icmp .ne 8, 3) := by decide +kernel
theorem dX11_fit_145 : decode cX11_fit 145 = .ok (.bipush 9, 2) := by decide +kernel
theorem dX11_fit_147 : decode cX11_fit 147 = .ok (.goto 12, 3) := by decide +kernel
theorem dX11_fit_150 : decode cX11_fit 150 = .ok (.aload_n 0, 1) := by decide +kernel
theorem dX11_fit_151 : decode cX11_fit 151 = .ok (.getfield 96, 3) := by decide +kernel
theorem dX11_fit_154 : decode cX11_fit 154 = .ok (.iload 4, 2) := by decide +kernel
theorem dX11_fit_156 : decode cX11_fit 156 = .ok (.iconst 2, 1) := by decide +kernel
theorem dX11_fit_157 : decode cX11_fit 157 = .ok (.isub, 1) := by decide +kernel
theorem dX11_fit_158 : decode cX11_fit 158 = .ok (.iaload, 1) := by decide +kernel
theorem dX11_fit_159 : decode cX11_fit 159 = .ok (.ireturn, 1) := by decide +kernel
theorem dX11_fitsAt_0 : decode cX11_fitsAt 0 = .ok (.iconst 0, 1) := by decide +kernel
theorem dX11_fitsAt_1 : decode cX11_fitsAt 1 = .ok (.istore_n 3, 1) := by decide +kernel
theorem dX11_fitsAt_2 : decode cX11_fitsAt 2 = .ok (.iconst 0, 1) := by decide +kernel
theorem dX11_fitsAt_3 : decode cX11_fitsAt 3 = .ok (.istore 4, 2) := by decide +kernel
theorem dX11_fitsAt_5 : decode cX11_fitsAt 5 = .ok (.iload 4, 2) := by decide +kernel
theorem dX11_fitsAt_7 : decode cX11_fitsAt 7 = .ok (.aload_n 0, 1) := by decide +kernel
theorem dX11_fitsAt_8 : decode cX11_fitsAt 8 = .ok (.getfield 29, 3) := by decide +kernel
theorem dX11_fitsAt_11 : decode cX11_fitsAt 11 = .ok (.bipush 10, 2) := by decide +kernel
theorem dX11_fitsAt_13 : decode cX11_fitsAt 13 = .ok (.iload_n 1, 1) := by decide +kernel
theorem dX11_fitsAt_14 : decode cX11_fitsAt 14 = .ok (.iadd, 1) := by decide +kernel
theorem dX11_fitsAt_15 : decode cX11_fitsAt 15 = .ok (.iaload, 1) := by decide +kernel
theorem dX11_fitsAt_16 : decode cX11_fitsAt 16 = .ok (.if_icmp .ge 39, 3) := by decide +kernel
theorem dX11_fitsAt_19 : decode cX11_fitsAt 19 = .ok (.iload_n 3, 1) := by decide +kernel
theorem dX11_fitsAt_20 : decode cX11_fitsAt 20 = .ok (.aload_n 0, 1) := by decide +kernel
theorem dX11_fitsAt_21 : decode cX11_fitsAt 21 = .ok (.bipush 6, 2) := by decide +kernel
theorem dX11_fitsAt_23 : decode cX11_fitsAt 23 = .ok (.bipush 10, 2) := by decide +kernel
theorem dX11_fitsAt_25 : decode cX11_fitsAt 25 = .ok (.iload_n 1, 1) := by decide +kernel
theorem dX11_fitsAt_26 : decode cX11_fitsAt 26 = .ok (.iadd, 1) := by decide +kernel
theorem dX11_fitsAt_27 : decode cX11_fitsAt 27 = .ok (.imul, 1) := by decide +kernel
theorem dX11_fitsAt_28 : decode cX11_fitsAt 28 = .ok (.iload 4, 2) := by decide +kernel
theorem dX11_fitsAt_30 : decode cX11_fitsAt 30 = .ok (.iadd, 1) := by decide +kernel
theorem dX11_fitsAt_31 : decode cX11_fitsAt 31 = .ok (.iload_n 2, 1) := by decide +kernel
theorem dX11_fitsAt_32 : decode cX11_fitsAt 32 = .ok (.invokevirtual 266, 3) := by decide +kernel
theorem dX11_fitsAt_35 : decode cX11_fitsAt 35 = .ok (.ifCond .eq 10, 3) := by decide +kernel
theorem dX11_fitsAt_38 : decode cX11_fitsAt 38 = .ok (.aload_n 0, 1) := by decide +kernel
theorem dX11_fitsAt_39 : decode cX11_fitsAt 39 = .ok (.getfield 253, 3) := by decide +kernel
theorem dX11_fitsAt_42 : decode cX11_fitsAt 42 = .ok (.goto 5, 3) := by decide +kernel
theorem dX11_fitsAt_45 : decode cX11_fitsAt 45 = .ok (.ldc 180, 2) := by decide +kernel
theorem dX11_fitsAt_47 : decode cX11_fitsAt 47 = .ok (.iadd, 1) := by decide +kernel
theorem dX11_fitsAt_48 : decode cX11_fitsAt 48 = .ok (.istore_n 3, 1) := by decide +kernel
theorem dX11_fitsAt_49 : decode cX11_fitsAt 49 = .ok (.iinc 4 1, 3) := by decide +kernel
theorem dX11_fitsAt_52 : decode cX11_fitsAt 52 = .ok (.goto (-47), 3) := by decide +kernel
theorem dX11_fitsAt_55 : decode cX11_fitsAt 55 = .ok (.iload_n 3, 1) := by decide +kernel
theorem dX11_fitsAt_56 : decode cX11_fitsAt 56 = .ok (.ireturn, 1) := by decide +kernel
theorem dX11_fits_0 : decode cX11_fits 0 = .ok (.aload_n 0, 1) := by decide +kernel
theorem dX11_fits_1 : decode cX11_fits 1 = .ok (.iconst 0, 1) := by decide +kernel
theorem dX11_fits_2 : decode cX11_fits 2 = .ok (.putfield 131, 3) := by decide +kernel
theorem dX11_fits_5 : decode cX11_fits 5 = .ok (.iload_n 1, 1) := by decide +kernel
theorem dX11_fits_6 : decode cX11_fits 6 = .ok (.i2l, 1) := by decide +kernel
theorem dX11_fits_7 : decode cX11_fits 7 = .ok (.lconst 0, 1) := by decide +kernel
theorem dX11_fits_8 : decode cX11_fits 8 = .ok (.ldc2_w 221, 3) := by decide +kernel
theorem dX11_fits_11 : decode cX11_fits 11 = .ok (.invokestatic 138, 3) := by decide +kernel
theorem dX11_fits_14 : decode cX11_fits 14 = .ok (.ifCond .eq 15, 3) := by decide +kernel
theorem dX11_fits_17 : decode cX11_fits 17 = .ok (.iload_n 2, 1) := by decide +kernel
theorem dX11_fits_18 : decode cX11_fits 18 = .ok (.i2l, 1) := by decide +kernel
theorem dX11_fits_19 : decode cX11_fits 19 = .ok (.lconst 0, 1) := by decide +kernel
theorem dX11_fits_20 : decode cX11_fits 20 = .ok (.ldc2_w 262, 3) := by decide +kernel
theorem dX11_fits_23 : decode cX11_fits 23 = .ok (.invokestatic 138, 3) := by decide +kernel
theorem dX11_fits_26 : decode cX11_fits 26 = .ok (.ifCond .ne 6, 3) := by decide +kernel
theorem dX11_fits_29 : decode cX11_fits 29 = .ok (.bipush (-3), 2) := by decide +kernel
theorem dX11_fits_31 : decode cX11_fits 31 = .ok (.ireturn, 1) := by decide +kernel
theorem dX11_fits_32 : decode cX11_fits 32 = .ok (.aload_n 0, 1) := by decide +kernel
theorem dX11_fits_33 : decode cX11_fits 33 = .ok (.invokevirtual 189, 3) := by decide +kernel
theorem dX11_fits_36 : decode cX11_fits 36 = .ok (.aload_n 0, 1) := by decide +kernel
theorem dX11_fits_37 : decode cX11_fits 37 = .ok (.iload_n 1, 1) := by decide +kernel
theorem dX11_fits_38 : decode cX11_fits 38 = .ok (.iload_n 2, 1) := by decide +kernel
theorem dX11_fits_39 : decode cX11_fits 39 = .ok (.invokevirtual 269, 3) := by decide +kernel
theorem dX11_fits_42 : decode cX11_fits 42 = .ok (.istore_n 3, 1) := by decide +kernel
theorem dX11_fits_43 : decode cX11_fits 43 = .ok (.iload_n 3, 1) := by decide +kernel
theorem dX11_fits_44 : decode cX11_fits 44 = .ok (.ldc 180, 2) := by decide +kernel
theorem dX11_fits_46 : decode cX11_fits 46 = .ok (.if_icmp .ge 7, 3) := by decide +kernel
theorem dX11_fits_49 : decode cX11_fits 49 = .ok (.iload_n 3, 1) := by decide +kernel
theorem dX11_fits_50 : decode cX11_fits 50 = .ok (.goto 5, 3) := by decide +kernel
theorem dX11_fits_53 : decode cX11_fits 53 = .ok (.bipush (-6), 2) := by decide +kernel
theorem dX11_fits_55 : decode cX11_fits 55 = .ok (.ireturn, 1) := by decide +kernel
theorem dX11_gap_0 : decode cX11_gap 0 = .ok (.aload_n 0, 1) := by decide +kernel
theorem dX11_gap_1 : decode cX11_gap 1 = .ok (.iconst 0, 1) := by decide +kernel
theorem dX11_gap_2 : decode cX11_gap 2 = .ok (.putfield 131, 3) := by decide +kernel
theorem dX11_gap_5 : decode cX11_gap 5 = .ok (.iload_n 1, 1) := by decide +kernel
theorem dX11_gap_6 : decode cX11_gap 6 = .ok (.i2l, 1) := by decide +kernel
theorem dX11_gap_7 : decode cX11_gap 7 = .ok (.lconst 0, 1) := by decide +kernel
theorem dX11_gap_8 : decode cX11_gap 8 = .ok (.ldc2_w 221, 3) := by decide +kernel
theorem dX11_gap_11 : decode cX11_gap 11 = .ok (.invokestatic 138, 3) := by decide +kernel
theorem dX11_gap_14 : decode cX11_gap 14 = .ok (.ifCond .eq 15, 3) := by decide +kernel
theorem dX11_gap_17 : decode cX11_gap 17 = .ok (.iload_n 2, 1) := by decide +kernel
theorem dX11_gap_18 : decode cX11_gap 18 = .ok (.i2l, 1) := by decide +kernel
theorem dX11_gap_19 : decode cX11_gap 19 = .ok (.lconst 0, 1) := by decide +kernel
theorem dX11_gap_20 : decode cX11_gap 20 = .ok (.ldc2_w 262, 3) := by decide +kernel
theorem dX11_gap_23 : decode cX11_gap 23 = .ok (.invokestatic 138, 3) := by decide +kernel
theorem dX11_gap_26 : decode cX11_gap 26 = .ok (.ifCond .ne 6, 3) := by decide +kernel
theorem dX11_gap_29 : decode cX11_gap 29 = .ok (.bipush (-3), 2) := by decide +kernel
theorem dX11_gap_31 : decode cX11_gap 31 = .ok (.ireturn, 1) := by decide +kernel
theorem dX11_gap_32 : decode cX11_gap 32 = .ok (.aload_n 0, 1) := by decide +kernel
theorem dX11_gap_33 : decode cX11_gap 33 = .ok (.invokevirtual 189, 3) := by decide +kernel
theorem dX11_gap_36 : decode cX11_gap 36 = .ok (.iconst 0, 1) := by decide +kernel
theorem dX11_gap_37 : decode cX11_gap 37 = .ok (.istore_n 3, 1) := by decide +kernel
theorem dX11_gap_38 : decode cX11_gap 38 = .ok (.iload_n 3, 1) := by decide +kernel
theorem dX11_gap_39 : decode cX11_gap 39 = .ok (.aload_n 0, 1) := by decide +kernel
theorem dX11_gap_40 : decode cX11_gap 40 = .ok (.getfield 29, 3) := by decide +kernel
theorem dX11_gap_43 : decode cX11_gap 43 = .ok (.bipush 10, 2) := by decide +kernel
theorem dX11_gap_45 : decode cX11_gap 45 = .ok (.iload_n 1, 1) := by decide +kernel
theorem dX11_gap_46 : decode cX11_gap 46 = .ok (.iadd, 1) := by decide +kernel
theorem dX11_gap_47 : decode cX11_gap 47 = .ok (.iaload, 1) := by decide +kernel
theorem dX11_gap_48 : decode cX11_gap 48 = .ok (.if_icmp .ge 28, 3) := by decide +kernel
theorem dX11_gap_51 : decode cX11_gap 51 = .ok (.aload_n 0, 1) := by decide +kernel
theorem dX11_gap_52 : decode cX11_gap 52 = .ok (.bipush 6, 2) := by decide +kernel
theorem dX11_gap_54 : decode cX11_gap 54 = .ok (.bipush 10, 2) := by decide +kernel
theorem dX11_gap_56 : decode cX11_gap 56 = .ok (.iload_n 1, 1) := by decide +kernel
theorem dX11_gap_57 : decode cX11_gap 57 = .ok (.iadd, 1) := by decide +kernel
theorem dX11_gap_58 : decode cX11_gap 58 = .ok (.imul, 1) := by decide +kernel
theorem dX11_gap_59 : decode cX11_gap 59 = .ok (.iload_n 3, 1) := by decide +kernel
theorem dX11_gap_60 : decode cX11_gap 60 = .ok (.iadd, 1) := by decide +kernel
theorem dX11_gap_61 : decode cX11_gap 61 = .ok (.iload_n 2, 1) := by decide +kernel
theorem dX11_gap_62 : decode cX11_gap 62 = .ok (.invokevirtual 266, 3) := by decide +kernel
theorem dX11_gap_65 : decode cX11_gap 65 = .ok (.ifCond .ne 5, 3) := by decide +kernel
theorem dX11_gap_68 : decode cX11_gap 68 = .ok (.iload_n 3, 1) := by decide +kernel
theorem dX11_gap_69 : decode cX11_gap 69 = .ok (.ireturn, 1) := by decide +kernel
theorem dX11_gap_70 : decode cX11_gap 70 = .ok (.iinc 3 1, 3) := by decide +kernel
theorem dX11_gap_73 : decode cX11_gap 73 = .ok (.goto (-35), 3) := by decide +kernel
theorem dX11_gap_76 : decode cX11_gap 76 = .ok (.iconst (-1), 1) := by decide +kernel
theorem dX11_gap_77 : decode cX11_gap 77 = .ok (.ireturn, 1) := by decide +kernel
theorem dX11_isWayAhead_0 : decode cX11_isWayAhead 0 = .ok (.iconst 0, 1) := by decide +kernel
theorem dX11_isWayAhead_1 : decode cX11_isWayAhead 1 = .ok (.istore 4, 2) := by decide +kernel
theorem dX11_isWayAhead_3 : decode cX11_isWayAhead 3 = .ok (.iload 4, 2) := by decide +kernel
theorem dX11_isWayAhead_5 : decode cX11_isWayAhead 5 = .ok (.iload_n 3, 1) := by decide +kernel
theorem dX11_isWayAhead_6 : decode cX11_isWayAhead 6 = .ok (.if_icmp .ge 57, 3) := by decide +kernel
theorem dX11_isWayAhead_9 : decode cX11_isWayAhead 9 = .ok (.aload_n 0, 1) := by decide +kernel
theorem dX11_isWayAhead_10 : decode cX11_isWayAhead 10 = .ok (.getfield 102, 3) := by decide +kernel
theorem dX11_isWayAhead_13 : decode cX11_isWayAhead 13 = .ok (.iload_n 1, 1) := by decide +kernel
theorem dX11_isWayAhead_14 : decode cX11_isWayAhead 14 = .ok (.iload 4, 2) := by decide +kernel
theorem dX11_isWayAhead_16 : decode cX11_isWayAhead 16 = .ok (.iadd, 1) := by decide +kernel
theorem dX11_isWayAhead_17 : decode cX11_isWayAhead 17 = .ok (.iaload, 1) := by decide +kernel
theorem dX11_isWayAhead_18 : decode cX11_isWayAhead 18 = .ok (.aload_n 0, 1) := by decide +kernel
theorem dX11_isWayAhead_19 : decode cX11_isWayAhead 19 = .ok (.getfield 102, 3) := by decide +kernel
theorem dX11_isWayAhead_22 : decode cX11_isWayAhead 22 = .ok (.iload_n 2, 1) := by decide +kernel
theorem dX11_isWayAhead_23 : decode cX11_isWayAhead 23 = .ok (.iload 4, 2) := by decide +kernel
theorem dX11_isWayAhead_25 : decode cX11_isWayAhead 25 = .ok (.iadd, 1) := by decide +kernel
theorem dX11_isWayAhead_26 : decode cX11_isWayAhead 26 = .ok (.iaload, 1) := by decide +kernel
theorem dX11_isWayAhead_27 : decode cX11_isWayAhead 27 = .ok (.if_icmp .eq 30, 3) := by decide +kernel
theorem dX11_isWayAhead_30 : decode cX11_isWayAhead 30 = .ok (.aload_n 0, 1) := by decide +kernel
theorem dX11_isWayAhead_31 : decode cX11_isWayAhead 31 = .ok (.getfield 102, 3) := by decide +kernel
theorem dX11_isWayAhead_34 : decode cX11_isWayAhead 34 = .ok (.iload_n 1, 1) := by decide +kernel
theorem dX11_isWayAhead_35 : decode cX11_isWayAhead 35 = .ok (.iload 4, 2) := by decide +kernel
theorem dX11_isWayAhead_37 : decode cX11_isWayAhead 37 = .ok (.iadd, 1) := by decide +kernel
theorem dX11_isWayAhead_38 : decode cX11_isWayAhead 38 = .ok (.iaload, 1) := by decide +kernel
theorem dX11_isWayAhead_39 : decode cX11_isWayAhead 39 = .ok (.aload_n 0, 1) := by decide +kernel
theorem dX11_isWayAhead_40 : decode cX11_isWayAhead 40 = .ok (.getfield 102, 3) := by decide +kernel
theorem dX11_isWayAhead_43 : decode cX11_isWayAhead 43 = .ok (.iload_n 2, 1) := by decide +kernel
theorem dX11_isWayAhead_44 : decode cX11_isWayAhead 44 = .ok (.iload 4, 2) := by decide +kernel
theorem dX11_isWayAhead_46 : decode cX11_isWayAhead 46 = .ok (.iadd, 1) := by decide +kernel
theorem dX11_isWayAhead_47 : decode cX11_isWayAhead 47 = .ok (.iaload, 1) := by decide +kernel
theorem dX11_isWayAhead_48 : decode cX11_isWayAhead 48 = .ok (.if_icmp .ge 7, 3) := by decide +kernel
theorem dX11_isWayAhead_51 : decode cX11_isWayAhead 51 = .ok (.iconst 1, 1) := by decide +kernel
theorem dX11_isWayAhead_52 : decode cX11_isWayAhead 52 = .ok (.goto 4, 3) := by decide +kernel
theorem dX11_isWayAhead_55 : decode cX11_isWayAhead 55 = .ok (.iconst 0, 1) := by decide +kernel
theorem dX11_isWayAhead_56 : decode cX11_isWayAhead 56 = .ok (.ireturn, 1) := by decide +kernel
theorem dX11_isWayAhead_57 : decode cX11_isWayAhead 57 = .ok (.iinc 4 1, 3) := by decide +kernel
theorem dX11_isWayAhead_60 : decode cX11_isWayAhead 60 = .ok (.goto (-57), 3) := by decide +kernel
theorem dX11_isWayAhead_63 : decode cX11_isWayAhead 63 = .ok (.iconst 0, 1) := by decide +kernel
theorem dX11_isWayAhead_64 : decode cX11_isWayAhead 64 = .ok (.ireturn, 1) := by decide +kernel
theorem dX11_findWay_0 : decode cX11_findWay 0 = .ok (.iconst 0, 1) := by decide +kernel
theorem dX11_findWay_1 : decode cX11_findWay 1 = .ok (.istore_n 3, 1) := by decide +kernel
theorem dX11_findWay_2 : decode cX11_findWay 2 = .ok (.iload_n 3, 1) := by decide +kernel
theorem dX11_findWay_3 : decode cX11_findWay 3 = .ok (.bipush 10, 2) := by decide +kernel
theorem dX11_findWay_5 : decode cX11_findWay 5 = .ok (.if_icmp .ge 63, 3) := by decide +kernel
theorem dX11_findWay_8 : decode cX11_findWay 8 = .ok (.iconst 0, 1) := by decide +kernel
theorem dX11_findWay_9 : decode cX11_findWay 9 = .ok (.istore 4, 2) := by decide +kernel
theorem dX11_findWay_11 : decode cX11_findWay 11 = .ok (.iload 4, 2) := by decide +kernel
theorem dX11_findWay_13 : decode cX11_findWay 13 = .ok (.bipush 10, 2) := by decide +kernel
theorem dX11_findWay_15 : decode cX11_findWay 15 = .ok (.if_icmp .ge 47, 3) := by decide +kernel
theorem dX11_findWay_18 : decode cX11_findWay 18 = .ok (.aload_n 0, 1) := by decide +kernel
theorem dX11_findWay_19 : decode cX11_findWay 19 = .ok (.iload 4, 2) := by decide +kernel
theorem dX11_findWay_21 : decode cX11_findWay 21 = .ok (.bipush 10, 2) := by decide +kernel
theorem dX11_findWay_23 : decode cX11_findWay 23 = .ok (.iload_n 3, 1) := by decide +kernel
theorem dX11_findWay_24 : decode cX11_findWay 24 = .ok (.iadd, 1) := by decide +kernel
theorem dX11_findWay_25 : decode cX11_findWay 25 = .ok (.invokevirtual 269, 3) := by decide +kernel
theorem dX11_findWay_28 : decode cX11_findWay 28 = .ok (.istore 5, 2) := by decide +kernel
theorem dX11_findWay_30 : decode cX11_findWay 30 = .ok (.aload_n 0, 1) := by decide +kernel
theorem dX11_findWay_31 : decode cX11_findWay 31 = .ok (.getfield 105, 3) := by decide +kernel
theorem dX11_findWay_34 : decode cX11_findWay 34 = .ok (.bipush 10, 2) := by decide +kernel
theorem dX11_findWay_36 : decode cX11_findWay 36 = .ok (.iload_n 3, 1) := by decide +kernel
theorem dX11_findWay_37 : decode cX11_findWay 37 = .ok (.imul, 1) := by decide +kernel
theorem dX11_findWay_38 : decode cX11_findWay 38 = .ok (.iload 4, 2) := by decide +kernel
theorem dX11_findWay_40 : decode cX11_findWay 40 = .ok (.iadd, 1) := by decide +kernel
theorem dX11_findWay_41 : decode cX11_findWay 41 = .ok (.iload 5, 2) := by decide +kernel
theorem dX11_findWay_43 : decode cX11_findWay 43 = .ok (.ldc 180, 2) := by decide +kernel
theorem dX11_findWay_45 : decode cX11_findWay 45 = .ok (.if_icmp .ge 8, 3) := by decide +kernel
theorem dX11_findWay_48 : decode cX11_findWay 48 = .ok (.iload 5, 2) := by decide +kernel
theorem dX11_findWay_50 : decode cX11_findWay 50 = .ok (.goto 5, 3) := by decide +kernel
theorem dX11_findWay_53 : decode cX11_findWay 53 = .ok (.ldc 180, 2) := by decide +kernel
theorem dX11_findWay_55 : decode cX11_findWay 55 = .ok (.iastore, 1) := by decide +kernel
theorem dX11_findWay_56 : decode cX11_findWay 56 = .ok (.iinc 4 1, 3) := by decide +kernel
theorem dX11_findWay_59 : decode cX11_findWay 59 = .ok (.goto (-48), 3) := by decide +kernel
theorem dX11_findWay_62 : decode cX11_findWay 62 = .ok (.iinc 3 1, 3) := by decide +kernel
theorem dX11_findWay_65 : decode cX11_findWay 65 = .ok (.goto (-63), 3) := by decide +kernel
theorem dX11_findWay_68 : decode cX11_findWay 68 = .ok (.iconst 0, 1) := by decide +kernel
theorem dX11_findWay_69 : decode cX11_findWay 69 = .ok (.istore_n 3, 1) := by decide +kernel
theorem dX11_findWay_70 : decode cX11_findWay 70 = .ok (.iload_n 3, 1) := by decide +kernel
theorem dX11_findWay_71 : decode cX11_findWay 71 = .ok (.bipush 100, 2) := by decide +kernel
end
section
theorem dX11_findWay_73 : decode cX11_findWay 73 = .ok (.if_icmp .ge 26, 3) := by decide +kernel
theorem dX11_findWay_76 : decode cX11_findWay 76 = .ok (.aload_n 0, 1) := by decide +kernel
theorem dX11_findWay_77 : decode cX11_findWay 77 = .ok (.getfield 99, 3) := by decide +kernel
theorem dX11_findWay_80 : decode cX11_findWay 80 = .ok (.iload_n 3, 1) := by decide +kernel
theorem dX11_findWay_81 : decode cX11_findWay 81 = .ok (.iload_n 3, 1) := by decide +kernel
theorem dX11_findWay_82 : decode cX11_findWay 82 = .ok (.iload_n 1, 1) := by decide +kernel
theorem dX11_findWay_83 : decode cX11_findWay 83 = .ok (.if_icmp .ne 7, 3) := by decide +kernel
theorem dX11_findWay_86 : decode cX11_findWay 86 = .ok (.iconst 0, 1) := by decide +kernel
theorem dX11_findWay_87 : decode cX11_findWay 87 = .ok (.goto 5, 3) := by decide +kernel
theorem dX11_findWay_90 : decode cX11_findWay 90 = .ok (.ldc 180, 2) := by decide +kernel
theorem dX11_findWay_92 : decode cX11_findWay 92 = .ok (.iastore, 1) := by decide +kernel
theorem dX11_findWay_93 : decode cX11_findWay 93 = .ok (.iinc 3 1, 3) := by decide +kernel
theorem dX11_findWay_96 : decode cX11_findWay 96 = .ok (.goto (-26), 3) := by decide +kernel
theorem dX11_findWay_99 : decode cX11_findWay 99 = .ok (.aload_n 0, 1) := by decide +kernel
theorem dX11_findWay_100 : decode cX11_findWay 100 = .ok (.getfield 102, 3) := by decide +kernel
theorem dX11_findWay_103 : decode cX11_findWay 103 = .ok (.bipush 10, 2) := by decide +kernel
theorem dX11_findWay_105 : decode cX11_findWay 105 = .ok (.iload_n 1, 1) := by decide +kernel
theorem dX11_findWay_106 : decode cX11_findWay 106 = .ok (.imul, 1) := by decide +kernel
theorem dX11_findWay_107 : decode cX11_findWay 107 = .ok (.iload_n 1, 1) := by decide +kernel
theorem dX11_findWay_108 : decode cX11_findWay 108 = .ok (.iastore, 1) := by decide +kernel
theorem dX11_findWay_109 : decode cX11_findWay 109 = .ok (.iconst 1, 1) := by decide +kernel
theorem dX11_findWay_110 : decode cX11_findWay 110 = .ok (.istore_n 3, 1) := by decide +kernel
theorem dX11_findWay_111 : decode cX11_findWay 111 = .ok (.iload_n 3, 1) := by decide +kernel
theorem dX11_findWay_112 : decode cX11_findWay 112 = .ok (.bipush 10, 2) := by decide +kernel
theorem dX11_findWay_114 : decode cX11_findWay 114 = .ok (.if_icmp .ge 197, 3) := by decide +kernel
theorem dX11_findWay_117 : decode cX11_findWay 117 = .ok (.iconst 0, 1) := by decide +kernel
theorem dX11_findWay_118 : decode cX11_findWay 118 = .ok (.istore 4, 2) := by decide +kernel
theorem dX11_findWay_120 : decode cX11_findWay 120 = .ok (.iload 4, 2) := by decide +kernel
theorem dX11_findWay_122 : decode cX11_findWay 122 = .ok (.bipush 10, 2) := by decide +kernel
theorem dX11_findWay_124 : decode cX11_findWay 124 = .ok (.if_icmp .ge 181, 3) := by decide +kernel
theorem dX11_findWay_127 : decode cX11_findWay 127 = .ok (.iconst 0, 1) := by decide +kernel
theorem dX11_findWay_128 : decode cX11_findWay 128 = .ok (.istore 5, 2) := by decide +kernel
theorem dX11_findWay_130 : decode cX11_findWay 130 = .ok (.iload 5, 2) := by decide +kernel
theorem dX11_findWay_132 : decode cX11_findWay 132 = .ok (.bipush 10, 2) := by decide +kernel
theorem dX11_findWay_134 : decode cX11_findWay 134 = .ok (.if_icmp .ge 165, 3) := by decide +kernel
theorem dX11_findWay_137 : decode cX11_findWay 137 = .ok (.bipush 10, 2) := by decide +kernel
theorem dX11_findWay_139 : decode cX11_findWay 139 = .ok (.iload_n 3, 1) := by decide +kernel
theorem dX11_findWay_140 : decode cX11_findWay 140 = .ok (.iconst 1, 1) := by decide +kernel
theorem dX11_findWay_141 : decode cX11_findWay 141 = .ok (.isub, 1) := by decide +kernel
theorem dX11_findWay_142 : decode cX11_findWay 142 = .ok (.imul, 1) := by decide +kernel
theorem dX11_findWay_143 : decode cX11_findWay 143 = .ok (.iload 4, 2) := by decide +kernel
theorem dX11_findWay_145 : decode cX11_findWay 145 = .ok (.iadd, 1) := by decide +kernel
theorem dX11_findWay_146 : decode cX11_findWay 146 = .ok (.istore 6, 2) := by decide +kernel
theorem dX11_findWay_148 : decode cX11_findWay 148 = .ok (.bipush 10, 2) := by decide +kernel
theorem dX11_findWay_150 : decode cX11_findWay 150 = .ok (.iload_n 3, 1) := by decide +kernel
theorem dX11_findWay_151 : decode cX11_findWay 151 = .ok (.imul, 1) := by decide +kernel
theorem dX11_findWay_152 : decode cX11_findWay 152 = .ok (.iload 5, 2) := by decide +kernel
theorem dX11_findWay_154 : decode cX11_findWay 154 = .ok (.iadd, 1) := by decide +kernel
theorem dX11_findWay_155 : decode cX11_findWay 155 = .ok (.istore 7, 2) := by decide +kernel
theorem dX11_findWay_157 : decode cX11_findWay 157 = .ok (.aload_n 0, 1) := by decide +kernel
theorem dX11_findWay_158 : decode cX11_findWay 158 = .ok (.getfield 99, 3) := by decide +kernel
theorem dX11_findWay_161 : decode cX11_findWay 161 = .ok (.iload 6, 2) := by decide +kernel
theorem dX11_findWay_163 : decode cX11_findWay 163 = .ok (.iaload, 1) := by decide +kernel
theorem dX11_findWay_164 : decode cX11_findWay 164 = .ok (.aload_n 0, 1) := by decide +kernel
theorem dX11_findWay_165 : decode cX11_findWay 165 = .ok (.getfield 105, 3) := by decide +kernel
theorem dX11_findWay_168 : decode cX11_findWay 168 = .ok (.bipush 10, 2) := by decide +kernel
theorem dX11_findWay_170 : decode cX11_findWay 170 = .ok (.iload 4, 2) := by decide +kernel
theorem dX11_findWay_172 : decode cX11_findWay 172 = .ok (.imul, 1) := by decide +kernel
theorem dX11_findWay_173 : decode cX11_findWay 173 = .ok (.iload 5, 2) := by decide +kernel
theorem dX11_findWay_175 : decode cX11_findWay 175 = .ok (.iadd, 1) := by decide +kernel
theorem dX11_findWay_176 : decode cX11_findWay 176 = .ok (.iaload, 1) := by decide +kernel
theorem dX11_findWay_177 : decode cX11_findWay 177 = .ok (.iadd, 1) := by decide +kernel
theorem dX11_findWay_178 : decode cX11_findWay 178 = .ok (.istore 8, 2) := by decide +kernel
theorem dX11_findWay_180 : decode cX11_findWay 180 = .ok (.iload 8, 2) := by decide +kernel
theorem dX11_findWay_182 : decode cX11_findWay 182 = .ok (.ldc 180, 2) := by decide +kernel
theorem dX11_findWay_184 : decode cX11_findWay 184 = .ok (.if_icmp .ge 109, 3) := by decide +kernel
theorem dX11_findWay_187 : decode cX11_findWay 187 = .ok (.iload 8, 2) := by decide +kernel
theorem dX11_findWay_189 : decode cX11_findWay 189 = .ok (.aload_n 0, 1) := by decide +kernel
theorem dX11_findWay_190 : decode cX11_findWay 190 = .ok (.getfield 99, 3) := by decide +kernel
theorem dX11_findWay_193 : decode cX11_findWay 193 = .ok (.iload 7, 2) := by decide +kernel
theorem dX11_findWay_195 : decode cX11_findWay 195 = .ok (.iaload, 1) := by decide +kernel
theorem dX11_findWay_196 : decode cX11_findWay 196 = .ok (.if_icmp .lt 33, 3) := by decide +kernel
theorem dX11_findWay_199 : decode cX11_findWay 199 = .ok (.iload 8, 2) := by decide +kernel
theorem dX11_findWay_201 : decode cX11_findWay 201 = .ok (.aload_n 0, 1) := by decide +kernel
theorem dX11_findWay_202 : decode cX11_findWay 202 = .ok (.getfield 99, 3) := by decide +kernel
theorem dX11_findWay_205 : decode cX11_findWay 205 = .ok (.iload 7, 2) := by decide +kernel
theorem dX11_findWay_207 : decode cX11_findWay 207 = .ok (.iaload, 1) := by decide +kernel
theorem dX11_findWay_208 : decode cX11_findWay 208 = .ok (.if_icmp .ne 85, 3) := by decide +kernel
theorem dX11_findWay_211 : decode cX11_findWay 211 = .ok (.aload_n 0, 1) := by decide +kernel
theorem dX11_findWay_212 : decode cX11_findWay 212 = .ok (.bipush 10, 2) := by decide +kernel
theorem dX11_findWay_214 : decode cX11_findWay 214 = .ok (.iload 6, 2) := by decide +kernel
theorem dX11_findWay_216 : decode cX11_findWay 216 = .ok (.imul, 1) := by decide +kernel
theorem dX11_findWay_217 : decode cX11_findWay 217 = .ok (.bipush 10, 2) := by decide +kernel
theorem dX11_findWay_219 : decode cX11_findWay 219 = .ok (.iload 7, 2) := by decide +kernel
theorem dX11_findWay_221 : decode cX11_findWay 221 = .ok (.imul, 1) := by decide +kernel
theorem dX11_findWay_222 : decode cX11_findWay 222 = .ok (.iload_n 3, 1) := by decide +kernel
theorem dX11_findWay_223 : decode cX11_findWay 223 = .ok (.invokevirtual 272, 3) := by decide +kernel
theorem dX11_findWay_226 : decode cX11_findWay 226 = .ok (.ifCond .eq 67, 3) := by decide +kernel
theorem dX11_findWay_229 : decode cX11_findWay 229 = .ok (.aload_n 0, 1) := by decide +kernel
theorem dX11_findWay_230 : decode cX11_findWay 230 = .ok (.getfield 99, 3) := by decide +kernel
theorem dX11_findWay_233 : decode cX11_findWay 233 = .ok (.iload 7, 2) := by decide +kernel
theorem dX11_findWay_235 : decode cX11_findWay 235 = .ok (.iload 8, 2) := by decide +kernel
theorem dX11_findWay_237 : decode cX11_findWay 237 = .ok (.iastore, 1) := by decide +kernel
theorem dX11_findWay_238 : decode cX11_findWay 238 = .ok (.iconst 0, 1) := by decide +kernel
theorem dX11_findWay_239 : decode cX11_findWay 239 = .ok (.istore 9, 2) := by decide +kernel
theorem dX11_findWay_241 : decode cX11_findWay 241 = .ok (.iload 9, 2) := by decide +kernel
theorem dX11_findWay_243 : decode cX11_findWay 243 = .ok (.iload_n 3, 1) := by decide +kernel
theorem dX11_findWay_244 : decode cX11_findWay 244 = .ok (.if_icmp .ge 35, 3) := by decide +kernel
theorem dX11_findWay_247 : decode cX11_findWay 247 = .ok (.aload_n 0, 1) := by decide +kernel
theorem dX11_findWay_248 : decode cX11_findWay 248 = .ok (.getfield 102, 3) := by decide +kernel
theorem dX11_findWay_251 : decode cX11_findWay 251 = .ok (.bipush 10, 2) := by decide +kernel
theorem dX11_findWay_253 : decode cX11_findWay 253 = .ok (.iload 7, 2) := by decide +kernel
theorem dX11_findWay_255 : decode cX11_findWay 255 = .ok (.imul, 1) := by decide +kernel
theorem dX11_findWay_256 : decode cX11_findWay 256 = .ok (.iload 9, 2) := by decide +kernel
theorem dX11_findWay_258 : decode cX11_findWay 258 = .ok (.iadd, 1) := by decide +kernel
theorem dX11_findWay_259 : decode cX11_findWay 259 = .ok (.aload_n 0, 1) := by decide +kernel
theorem dX11_findWay_260 : decode cX11_findWay 260 = .ok (.getfield 102, 3) := by decide +kernel
theorem dX11_findWay_263 : decode cX11_findWay 263 = .ok (.bipush 10, 2) := by decide +kernel
theorem dX11_findWay_265 : decode cX11_findWay 265 = .ok (.iload 6, 2) := by decide +kernel
theorem dX11_findWay_267 : decode cX11_findWay 267 = .ok (.imul, 1) := by decide +kernel
theorem dX11_findWay_268 : decode cX11_findWay 268 = .ok (.iload 9, 2) := by decide +kernel
theorem dX11_findWay_270 : decode cX11_findWay 270 = .ok (.iadd, 1) := by decide +kernel
theorem dX11_findWay_271 : decode cX11_findWay 271 = .ok (.iaload, 1) := by decide +kernel
theorem dX11_findWay_272 : decode cX11_findWay 272 = .ok (.iastore, 1) := by decide +kernel
theorem dX11_findWay_273 : decode cX11_findWay 273 = .ok (.iinc 9 1, 3) := by decide +kernel
theorem dX11_findWay_276 : decode cX11_findWay 276 = .ok (.goto (-35), 3) := by decide +kernel
theorem dX11_findWay_279 : decode cX11_findWay 279 = .ok (.aload_n 0, 1) := by decide +kernel
theorem dX11_findWay_280 : decode cX11_findWay 280 = .ok (.getfield 102, 3) := by decide +kernel
theorem dX11_findWay_283 : decode cX11_findWay 283 = .ok (.bipush 10, 2) := by decide +kernel
theorem dX11_findWay_285 : decode cX11_findWay 285 = .ok (.iload 7, 2) := by decide +kernel
theorem dX11_findWay_287 : decode cX11_findWay 287 = .ok (.imul, 1) := by decide +kernel
theorem dX11_findWay_288 : decode cX11_findWay 288 = .ok (.iload_n 3, 1) := by decide +kernel
theorem dX11_findWay_289 : decode cX11_findWay 289 = .ok (.iadd, 1) := by decide +kernel
theorem dX11_findWay_290 : decode cX11_findWay 290 = .ok (.iload 5, 2) := by decide +kernel
theorem dX11_findWay_292 : decode cX11_findWay 292 = .ok (.iastore, 1) := by decide +kernel
theorem dX11_findWay_293 : decode cX11_findWay 293 = .ok (.iinc 5 1, 3) := by decide +kernel
theorem dX11_findWay_296 : decode cX11_findWay 296 = .ok (.goto (-166), 3) := by decide +kernel
theorem dX11_findWay_299 : decode cX11_findWay 299 = .ok (.iinc 4 1, 3) := by decide +kernel
theorem dX11_findWay_302 : decode cX11_findWay 302 = .ok (.goto (-182), 3) := by decide +kernel
theorem dX11_findWay_305 : decode cX11_findWay 305 = .ok (.iinc 3 1, 3) := by decide +kernel
theorem dX11_findWay_308 : decode cX11_findWay 308 = .ok (.goto (-197), 3) := by decide +kernel
theorem dX11_findWay_311 : decode cX11_findWay 311 = .ok (.iconst 0, 1) := by decide +kernel
theorem dX11_findWay_312 : decode cX11_findWay 312 = .ok (.istore_n 3, 1) := by decide +kernel
theorem dX11_findWay_313 : decode cX11_findWay 313 = .ok (.iconst 1, 1) := by decide +kernel
theorem dX11_findWay_314 : decode cX11_findWay 314 = .ok (.istore 4, 2) := by decide +kernel
theorem dX11_findWay_316 : decode cX11_findWay 316 = .ok (.iload 4, 2) := by decide +kernel
theorem dX11_findWay_318 : decode cX11_findWay 318 = .ok (.bipush 10, 2) := by decide +kernel
theorem dX11_findWay_320 : decode cX11_findWay 320 = .ok (.if_icmp .ge 42, 3) := by decide +kernel
theorem dX11_findWay_323 : decode cX11_findWay 323 = .ok (.aload_n 0, 1) := by decide +kernel
theorem dX11_findWay_324 : decode cX11_findWay 324 = .ok (.getfield 99, 3) := by decide +kernel
theorem dX11_findWay_327 : decode cX11_findWay 327 = .ok (.bipush 10, 2) := by decide +kernel
theorem dX11_findWay_329 : decode cX11_findWay 329 = .ok (.iload 4, 2) := by decide +kernel
theorem dX11_findWay_331 : decode cX11_findWay 331 = .ok (.imul, 1) := by decide +kernel
theorem dX11_findWay_332 : decode cX11_findWay 332 = .ok (.iload_n 2, 1) := by decide +kernel
theorem dX11_findWay_333 : decode cX11_findWay 333 = .ok (.iadd, 1) := by decide +kernel
theorem dX11_findWay_334 : decode cX11_findWay 334 = .ok (.iaload, 1) := by decide +kernel
theorem dX11_findWay_335 : decode cX11_findWay 335 = .ok (.aload_n 0, 1) := by decide +kernel
theorem dX11_findWay_336 : decode cX11_findWay 336 = .ok (.getfield 99, 3) := by decide +kernel
theorem dX11_findWay_339 : decode cX11_findWay 339 = .ok (.bipush 10, 2) := by decide +kernel
theorem dX11_findWay_341 : decode cX11_findWay 341 = .ok (.iload_n 3, 1) := by decide +kernel
theorem dX11_findWay_342 : decode cX11_findWay 342 = .ok (.imul, 1) := by decide +kernel
theorem dX11_findWay_343 : decode cX11_findWay 343 = .ok (.iload_n 2, 1) := by decide +kernel
theorem dX11_findWay_344 : decode cX11_findWay 344 = .ok (.iadd, 1) := by decide +kernel
theorem dX11_findWay_345 : decode cX11_findWay 345 = .ok (.iaload, 1) := by decide +kernel
theorem dX11_findWay_346 : decode cX11_findWay 346 = .ok (.if_icmp .ge 8, 3) := by decide +kernel
theorem dX11_findWay_349 : decode cX11_findWay 349 = .ok (.iload 4, 2) := by decide +kernel
theorem dX11_findWay_351 : decode cX11_findWay 351 = .ok (.goto 4, 3) := by decide +kernel
theorem dX11_findWay_354 : decode cX11_findWay 354 = .ok (.iload_n 3, 1) := by decide +kernel
theorem dX11_findWay_355 : decode cX11_findWay 355 = .ok (.istore_n 3, 1) := by decide +kernel
theorem dX11_findWay_356 : decode cX11_findWay 356 = .ok (.iinc 4 1, 3) := by decide +kernel
theorem dX11_findWay_359 : decode cX11_findWay 359 = .ok (.goto (-43), 3) := by decide +kernel
theorem dX11_findWay_362 : decode cX11_findWay 362 = .ok (.aload_n 0, 1) := by decide +kernel
theorem dX11_findWay_363 : decode cX11_findWay 363 = .ok (.iload_n 3, 1) := by decide +kernel
theorem dX11_findWay_364 : decode cX11_findWay 364 = .ok (.iconst 1, 1) := by decide +kernel
theorem dX11_findWay_365 : decode cX11_findWay 365 = .ok (.iadd, 1) := by decide +kernel
theorem dX11_findWay_366 : decode cX11_findWay 366 = .ok (.putfield 276, 3) := by decide +kernel
theorem dX11_findWay_369 : decode cX11_findWay 369 = .ok (.iconst 0, 1) := by decide +kernel
theorem dX11_findWay_370 : decode cX11_findWay 370 = .ok (.istore 4, 2) := by decide +kernel
theorem dX11_findWay_372 : decode cX11_findWay 372 = .ok (.iload 4, 2) := by decide +kernel
theorem dX11_findWay_374 : decode cX11_findWay 374 = .ok (.aload_n 0, 1) := by decide +kernel
theorem dX11_findWay_375 : decode cX11_findWay 375 = .ok (.getfield 276, 3) := by decide +kernel
theorem dX11_findWay_378 : decode cX11_findWay 378 = .ok (.if_icmp .ge 33, 3) := by decide +kernel
theorem dX11_findWay_381 : decode cX11_findWay 381 = .ok (.aload_n 0, 1) := by decide +kernel
theorem dX11_findWay_382 : decode cX11_findWay 382 = .ok (.getfield 108, 3) := by decide +kernel
theorem dX11_findWay_385 : decode cX11_findWay 385 = .ok (.iload 4, 2) := by decide +kernel
theorem dX11_findWay_387 : decode cX11_findWay 387 = .ok (.aload_n 0, 1) := by decide +kernel
theorem dX11_findWay_388 : decode cX11_findWay 388 = .ok (.getfield 102, 3) := by decide +kernel
theorem dX11_findWay_391 : decode cX11_findWay 391 = .ok (.bipush 10, 2) := by decide +kernel
theorem dX11_findWay_393 : decode cX11_findWay 393 = .ok (.bipush 10, 2) := by decide +kernel
theorem dX11_findWay_395 : decode cX11_findWay 395 = .ok (.iload_n 3, 1) := by decide +kernel
theorem dX11_findWay_396 : decode cX11_findWay 396 = .ok (.imul, 1) := by decide +kernel
theorem dX11_findWay_397 : decode cX11_findWay 397 = .ok (.iload_n 2, 1) := by decide +kernel
theorem dX11_findWay_398 : decode cX11_findWay 398 = .ok (.iadd, 1) := by decide +kernel
theorem dX11_findWay_399 : decode cX11_findWay 399 = .ok (.imul, 1) := by decide +kernel
theorem dX11_findWay_400 : decode cX11_findWay 400 = .ok (.iload 4, 2) := by decide +kernel
theorem dX11_findWay_402 : decode cX11_findWay 402 = .ok (.iadd, 1) := by decide +kernel
theorem dX11_findWay_403 : decode cX11_findWay 403 = .ok (.iaload, 1) := by decide +kernel
theorem dX11_findWay_404 : decode cX11_findWay 404 = .ok (.iastore, 1) := by decide +kernel
theorem dX11_findWay_405 : decode cX11_findWay 405 = .ok (.iinc 4 1, 3) := by decide +kernel
theorem dX11_findWay_408 : decode cX11_findWay 408 = .ok (.goto (-36), 3) := by decide +kernel
theorem dX11_findWay_411 : decode cX11_findWay 411 = .ok (.aload_n 0, 1) := by decide +kernel
theorem dX11_findWay_412 : decode cX11_findWay 412 = .ok (.getfield 99, 3) := by decide +kernel
theorem dX11_findWay_415 : decode cX11_findWay 415 = .ok (.bipush 10, 2) := by decide +kernel
theorem dX11_findWay_417 : decode cX11_findWay 417 = .ok (.iload_n 3, 1) := by decide +kernel
theorem dX11_findWay_418 : decode cX11_findWay 418 = .ok (.imul, 1) := by decide +kernel
theorem dX11_findWay_419 : decode cX11_findWay 419 = .ok (.iload_n 2, 1) := by decide +kernel
theorem dX11_findWay_420 : decode cX11_findWay 420 = .ok (.iadd, 1) := by decide +kernel
theorem dX11_findWay_421 : decode cX11_findWay 421 = .ok (.iaload, 1) := by decide +kernel
theorem dX11_findWay_422 : decode cX11_findWay 422 = .ok (.ireturn, 1) := by decide +kernel
theorem dX11_way_0 : decode cX11_way 0 = .ok (.aload_n 0, 1) := by decide +kernel
theorem dX11_way_1 : decode cX11_way 1 = .ok (.iconst 0, 1) := by decide +kernel
theorem dX11_way_2 : decode cX11_way 2 = .ok (.putfield 131, 3) := by decide +kernel
theorem dX11_way_5 : decode cX11_way 5 = .ok (.iload_n 1, 1) := by decide +kernel
theorem dX11_way_6 : decode cX11_way 6 = .ok (.i2l, 1) := by decide +kernel
theorem dX11_way_7 : decode cX11_way 7 = .ok (.lconst 0, 1) := by decide +kernel
theorem dX11_way_8 : decode cX11_way 8 = .ok (.ldc2_w 221, 3) := by decide +kernel
theorem dX11_way_11 : decode cX11_way 11 = .ok (.invokestatic 138, 3) := by decide +kernel
theorem dX11_way_14 : decode cX11_way 14 = .ok (.ifCond .eq 19, 3) := by decide +kernel
theorem dX11_way_17 : decode cX11_way 17 = .ok (.iload_n 2, 1) := by decide +kernel
theorem dX11_way_18 : decode cX11_way 18 = .ok (.i2l, 1) := by decide +kernel
theorem dX11_way_19 : decode cX11_way 19 = .ok (.lconst 0, 1) := by decide +kernel
theorem dX11_way_20 : decode cX11_way 20 = .ok (.ldc2_w 221, 3) := by decide +kernel
theorem dX11_way_23 : decode cX11_way 23 = .ok (.invokestatic 138, 3) := by decide +kernel
theorem dX11_way_26 : decode cX11_way 26 = .ok (.ifCond .eq 7, 3) := by decide +kernel
theorem dX11_way_29 : decode cX11_way 29 = .ok (.iload_n 3, 1) := by decide +kernel
theorem dX11_way_30 : decode cX11_way 30 = .ok (.ifCond .ge 6, 3) := by decide +kernel
theorem dX11_way_33 : decode cX11_way 33 = .ok (.bipush (-3), 2) := by decide +kernel
theorem dX11_way_35 : decode cX11_way 35 = .ok (.ireturn, 1) := by decide +kernel
theorem dX11_way_36 : decode cX11_way 36 = .ok (.aload_n 0, 1) := by decide +kernel
theorem dX11_way_37 : decode cX11_way 37 = .ok (.invokevirtual 189, 3) := by decide +kernel
theorem dX11_way_40 : decode cX11_way 40 = .ok (.aload_n 0, 1) := by decide +kernel
theorem dX11_way_41 : decode cX11_way 41 = .ok (.iload_n 1, 1) := by decide +kernel
theorem dX11_way_42 : decode cX11_way 42 = .ok (.iload_n 2, 1) := by decide +kernel
theorem dX11_way_43 : decode cX11_way 43 = .ok (.invokevirtual 279, 3) := by decide +kernel
theorem dX11_way_46 : decode cX11_way 46 = .ok (.istore 4, 2) := by decide +kernel
theorem dX11_way_48 : decode cX11_way 48 = .ok (.iload 4, 2) := by decide +kernel
theorem dX11_way_50 : decode cX11_way 50 = .ok (.ldc 180, 2) := by decide +kernel
theorem dX11_way_52 : decode cX11_way 52 = .ok (.if_icmp .lt 5, 3) := by decide +kernel
theorem dX11_way_55 : decode cX11_way 55 = .ok (.iconst (-1), 1) := by decide +kernel
theorem dX11_way_56 : decode cX11_way 56 = .ok (.ireturn, 1) := by decide +kernel
theorem dX11_way_57 : decode cX11_way 57 = .ok (.iload_n 3, 1) := by decide +kernel
theorem dX11_way_58 : decode cX11_way 58 = .ok (.ifCond .ne 8, 3) := by decide +kernel
theorem dX11_way_61 : decode cX11_way 61 = .ok (.iload 4, 2) := by decide +kernel
theorem dX11_way_63 : decode cX11_way 63 = .ok (.goto 37, 3) := by decide +kernel
theorem dX11_way_66 : decode cX11_way 66 = .ok (.iload_n 3, 1) := by decide +kernel
theorem dX11_way_67 : decode cX11_way 67 = .ok (.iconst 1, 1) := by decide +kernel
theorem dX11_way_68 : decode cX11_way 68 = .ok (.if_icmp .ne 10, 3) := by decide +kernel
theorem dX11_way_71 : decode cX11_way 71 = .ok (.aload_n 0, 1) := by decide +kernel
theorem dX11_way_72 : decode cX11_way 72 = .ok (.getfield 276, 3) := by decide +kernel
theorem dX11_way_75 : decode cX11_way 75 = .ok (.goto 25, 3) := by decide +kernel
theorem dX11_way_78 : decode cX11_way 78 = .ok (.iload_n 3, 1) := by decide +kernel
theorem dX11_way_79 : decode cX11_way 79 = .ok (.iconst 2, 1) := by decide +kernel
theorem dX11_way_80 : decode cX11_way 80 = .ok (.isub, 1) := by decide +kernel
theorem dX11_way_81 : decode cX11_way 81 = .ok (.aload_n 0, 1) := by decide +kernel
theorem dX11_way_82 : decode cX11_way 82 = .ok (.getfield 276, 3) := by decide +kernel
theorem dX11_way_85 : decode cX11_way 85 = .ok (.if_icmp .ge 14, 3) := by decide +kernel
theorem dX11_way_88 : decode cX11_way 88 = .ok (.aload_n 0, 1) := by decide +kernel
theorem dX11_way_89 : decode cX11_way 89 = .ok (.getfield 108, 3) := by decide +kernel
theorem dX11_way_92 : decode cX11_way 92 = .ok (.iload_n 3, 1) := by decide +kernel
theorem dX11_way_93 : decode cX11_way 93 = .ok (.iconst 2, 1) := by decide +kernel
theorem dX11_way_94 : decode cX11_way 94 = .ok (.isub, 1) := by decide +kernel
theorem dX11_way_95 : decode cX11_way 95 = .ok (.iaload, 1) := by decide +kernel
theorem dX11_way_96 : decode cX11_way 96 = .ok (.goto 4, 3) := by decide +kernel
theorem dX11_way_99 : decode cX11_way 99 = .ok (.iconst (-1), 1) := by decide +kernel
theorem dX11_way_100 : decode cX11_way 100 = .ok (.ireturn, 1) := by decide +kernel
theorem dX11_object_0 : decode cX11_object 0 = .ok (.aload_n 0, 1) := by decide +kernel
theorem dX11_object_1 : decode cX11_object 1 = .ok (.iconst 0, 1) := by decide +kernel
theorem dX11_object_2 : decode cX11_object 2 = .ok (.putfield 131, 3) := by decide +kernel
theorem dX11_object_5 : decode cX11_object 5 = .ok (.iload_n 1, 1) := by decide +kernel
theorem dX11_object_6 : decode cX11_object 6 = .ok (.i2l, 1) := by decide +kernel
theorem dX11_object_7 : decode cX11_object 7 = .ok (.lconst 0, 1) := by decide +kernel
theorem dX11_object_8 : decode cX11_object 8 = .ok (.ldc2_w 221, 3) := by decide +kernel
theorem dX11_object_11 : decode cX11_object 11 = .ok (.invokestatic 138, 3) := by decide +kernel
theorem dX11_object_14 : decode cX11_object 14 = .ok (.ifCond .ne 6, 3) := by decide +kernel
theorem dX11_object_17 : decode cX11_object 17 = .ok (.bipush (-3), 2) := by decide +kernel
theorem dX11_object_19 : decode cX11_object 19 = .ok (.ireturn, 1) := by decide +kernel
theorem dX11_object_20 : decode cX11_object 20 = .ok (.aload_n 0, 1) := by decide +kernel
theorem dX11_object_21 : decode cX11_object 21 = .ok (.getfield 282, 3) := by decide +kernel
theorem dX11_object_24 : decode cX11_object 24 = .ok (.bipush 20, 2) := by decide +kernel
theorem dX11_object_26 : decode cX11_object 26 = .ok (.if_icmp .ne 6, 3) := by decide +kernel
theorem dX11_object_29 : decode cX11_object 29 = .ok (.bipush (-5), 2) := by decide +kernel
theorem dX11_object_31 : decode cX11_object 31 = .ok (.ireturn, 1) := by decide +kernel
theorem dX11_object_32 : decode cX11_object 32 = .ok (.aload_n 0, 1) := by decide +kernel
theorem dX11_object_33 : decode cX11_object 33 = .ok (.getfield 66, 3) := by decide +kernel
theorem dX11_object_36 : decode cX11_object 36 = .ok (.aload_n 0, 1) := by decide +kernel
theorem dX11_object_37 : decode cX11_object 37 = .ok (.getfield 282, 3) := by decide +kernel
theorem dX11_object_40 : decode cX11_object 40 = .ok (.iload_n 1, 1) := by decide +kernel
theorem dX11_object_41 : decode cX11_object 41 = .ok (.iastore, 1) := by decide +kernel
theorem dX11_object_42 : decode cX11_object 42 = .ok (.aload_n 0, 1) := by decide +kernel
theorem dX11_object_43 : decode cX11_object 43 = .ok (.dup, 1) := by decide +kernel
theorem dX11_object_44 : decode cX11_object 44 = .ok (.getfield 282, 3) := by decide +kernel
theorem dX11_object_47 : decode cX11_object 47 = .ok (.iconst 1, 1) := by decide +kernel
theorem dX11_object_48 : decode cX11_object 48 = .ok (.iadd, 1) := by decide +kernel
theorem dX11_object_49 : decode cX11_object 49 = .ok (.putfield 282, 3) := by decide +kernel
theorem dX11_object_52 : decode cX11_object 52 = .ok (.aload_n 0, 1) := by decide +kernel
theorem dX11_object_53 : decode cX11_object 53 = .ok (.getfield 282, 3) := by decide +kernel
theorem dX11_object_56 : decode cX11_object 56 = .ok (.iconst 1, 1) := by decide +kernel
theorem dX11_object_57 : decode cX11_object 57 = .ok (.isub, 1) := by decide +kernel
theorem dX11_object_58 : decode cX11_object 58 = .ok (.ireturn, 1) := by decide +kernel
theorem dX11_put_0 : decode cX11_put 0 = .ok (.aload_n 0, 1) := by decide +kernel
theorem dX11_put_1 : decode cX11_put 1 = .ok (.iconst 0, 1) := by decide +kernel
theorem dX11_put_2 : decode cX11_put 2 = .ok (.putfield 131, 3) := by decide +kernel
theorem dX11_put_5 : decode cX11_put 5 = .ok (.iload_n 1, 1) := by decide +kernel
theorem dX11_put_6 : decode cX11_put 6 = .ok (.i2l, 1) := by decide +kernel
theorem dX11_put_7 : decode cX11_put 7 = .ok (.lconst 0, 1) := by decide +kernel
theorem dX11_put_8 : decode cX11_put 8 = .ok (.aload_n 0, 1) := by decide +kernel
theorem dX11_put_9 : decode cX11_put 9 = .ok (.getfield 282, 3) := by decide +kernel
theorem dX11_put_12 : decode cX11_put 12 = .ok (.iconst 1, 1) := by decide +kernel
theorem dX11_put_13 : decode cX11_put 13 = .ok (.isub, 1) := by decide +kernel
theorem dX11_put_14 : decode cX11_put 14 = .ok (.i2l, 1) := by decide +kernel
theorem dX11_put_15 : decode cX11_put 15 = .ok (.invokestatic 138, 3) := by decide +kernel
theorem dX11_put_18 : decode cX11_put 18 = .ok (.ifCond .ne 6, 3) := by decide +kernel
theorem dX11_put_21 : decode cX11_put 21 = .ok (.bipush (-2), 2) := by decide +kernel
theorem dX11_put_23 : decode cX11_put 23 = .ok (.ireturn, 1) := by decide +kernel
theorem dX11_put_24 : decode cX11_put 24 = .ok (.iload_n 2, 1) := by decide +kernel
theorem dX11_put_25 : decode cX11_put 25 = .ok (.i2l, 1) := by decide +kernel
theorem dX11_put_26 : decode cX11_put 26 = .ok (.lconst 0, 1) := by decide +kernel
theorem dX11_put_27 : decode cX11_put 27 = .ok (.ldc2_w 227, 3) := by decide +kernel
theorem dX11_put_30 : decode cX11_put 30 = .ok (.invokestatic 138, 3) := by decide +kernel
theorem dX11_put_33 : decode cX11_put 33 = .ok (.ifCond .ne 6, 3) := by decide +kernel
theorem dX11_put_36 : decode cX11_put 36 = .ok (.bipush (-3), 2) := by decide +kernel
theorem dX11_put_38 : decode cX11_put 38 = .ok (.ireturn, 1) := by decide +kernel
theorem dX11_put_39 : decode cX11_put 39 = .ok (.aload_n 0, 1) := by decide +kernel
theorem dX11_put_40 : decode cX11_put 40 = .ok (.getfield 69, 3) := by decide +kernel
theorem dX11_put_43 : decode cX11_put 43 = .ok (.iconst 3, 1) := by decide +kernel
theorem dX11_put_44 : decode cX11_put 44 = .ok (.iload_n 1, 1) := by decide +kernel
theorem dX11_put_45 : decode cX11_put 45 = .ok (.imul, 1) := by decide +kernel
theorem dX11_put_46 : decode cX11_put 46 = .ok (.iload_n 2, 1) := by decide +kernel
theorem dX11_put_47 : decode cX11_put 47 = .ok (.iadd, 1) := by decide +kernel
theorem dX11_put_48 : decode cX11_put 48 = .ok (.lload_n 3, 1) := by decide +kernel
theorem dX11_put_49 : decode cX11_put 49 = .ok (.lastore, 1) := by decide +kernel
theorem dX11_put_50 : decode cX11_put 50 = .ok (.iconst 0, 1) := by decide +kernel
theorem dX11_put_51 : decode cX11_put 51 = .ok (.ireturn, 1) := by decide +kernel
theorem dX11_field_0 : decode cX11_field 0 = .ok (.aload_n 0, 1) := by decide +kernel
theorem dX11_field_1 : decode cX11_field 1 = .ok (.iconst 0, 1) := by decide +kernel
theorem dX11_field_2 : decode cX11_field 2 = .ok (.putfield 131, 3) := by decide +kernel
theorem dX11_field_5 : decode cX11_field 5 = .ok (.iload_n 1, 1) := by decide +kernel
theorem dX11_field_6 : decode cX11_field 6 = .ok (.i2l, 1) := by decide +kernel
theorem dX11_field_7 : decode cX11_field 7 = .ok (.lconst 0, 1) := by decide +kernel
theorem dX11_field_8 : decode cX11_field 8 = .ok (.aload_n 0, 1) := by decide +kernel
theorem dX11_field_9 : decode cX11_field 9 = .ok (.getfield 282, 3) := by decide +kernel
theorem dX11_field_12 : decode cX11_field 12 = .ok (.iconst 1, 1) := by decide +kernel
theorem dX11_field_13 : decode cX11_field 13 = .ok (.isub, 1) := by decide +kernel
theorem dX11_field_14 : decode cX11_field 14 = .ok (.i2l, 1) := by decide +kernel
theorem dX11_field_15 : decode cX11_field 15 = .ok (.invokestatic 138, 3) := by decide +kernel
theorem dX11_field_18 : decode cX11_field 18 = .ok (.ifCond .eq 28, 3) := by decide +kernel
theorem dX11_field_21 : decode cX11_field 21 = .ok (.iload_n 2, 1) := by decide +kernel
theorem dX11_field_22 : decode cX11_field 22 = .ok (.i2l, 1) := by decide +kernel
theorem dX11_field_23 : decode cX11_field 23 = .ok (.lconst 0, 1) := by decide +kernel
theorem dX11_field_24 : decode cX11_field 24 = .ok (.ldc2_w 227, 3) := by decide +kernel
theorem dX11_field_27 : decode cX11_field 27 = .ok (.invokestatic 138, 3) := by decide +kernel
theorem dX11_field_30 : decode cX11_field 30 = .ok (.ifCond .eq 16, 3) := by decide +kernel
theorem dX11_field_33 : decode cX11_field 33 = .ok (.aload_n 0, 1) := by decide +kernel
theorem dX11_field_34 : decode cX11_field 34 = .ok (.getfield 69, 3) := by decide +kernel
theorem dX11_field_37 : decode cX11_field 37 = .ok (.iconst 3, 1) := by decide +kernel
theorem dX11_field_38 : decode cX11_field 38 = .ok (.iload_n 1, 1) := by decide +kernel
theorem dX11_field_39 : decode cX11_field 39 = .ok (.imul, 1) := by decide +kernel
theorem dX11_field_40 : decode cX11_field 40 = .ok (.iload_n 2, 1) := by decide +kernel
theorem dX11_field_41 : decode cX11_field 41 = .ok (.iadd, 1) := by decide +kernel
theorem dX11_field_42 : decode cX11_field 42 = .ok (.laload, 1) := by decide +kernel
theorem dX11_field_43 : decode cX11_field 43 = .ok (.goto 4, 3) := by decide +kernel
theorem dX11_field_46 : decode cX11_field 46 = .ok (.lconst 0, 1) := by decide +kernel
theorem dX11_field_47 : decode cX11_field 47 = .ok (.lreturn, 1) := by decide +kernel
theorem dX11_hand_0 : decode cX11_hand 0 = .ok (.aload_n 0, 1) := by decide +kernel
theorem dX11_hand_1 : decode cX11_hand 1 = .ok (.iconst 0, 1) := by decide +kernel
theorem dX11_hand_2 : decode cX11_hand 2 = .ok (.putfield 131, 3) := by decide +kernel
theorem dX11_hand_5 : decode cX11_hand 5 = .ok (.iload_n 1, 1) := by decide +kernel
theorem dX11_hand_6 : decode cX11_hand 6 = .ok (.i2l, 1) := by decide +kernel
theorem dX11_hand_7 : decode cX11_hand 7 = .ok (.lconst 0, 1) := by decide +kernel
theorem dX11_hand_8 : decode cX11_hand 8 = .ok (.ldc2_w 285, 3) := by decide +kernel
theorem dX11_hand_11 : decode cX11_hand 11 = .ok (.invokestatic 138, 3) := by decide +kernel
theorem dX11_hand_14 : decode cX11_hand 14 = .ok (.ifCond .ne 6, 3) := by decide +kernel
theorem dX11_hand_17 : decode cX11_hand 17 = .ok (.bipush (-3), 2) := by decide +kernel
theorem dX11_hand_19 : decode cX11_hand 19 = .ok (.ireturn, 1) := by decide +kernel
theorem dX11_hand_20 : decode cX11_hand 20 = .ok (.aload_n 0, 1) := by decide +kernel
theorem dX11_hand_21 : decode cX11_hand 21 = .ok (.getfield 72, 3) := by decide +kernel
theorem dX11_hand_24 : decode cX11_hand 24 = .ok (.iload_n 1, 1) := by decide +kernel
theorem dX11_hand_25 : decode cX11_hand 25 = .ok (.lload_n 2, 1) := by decide +kernel
theorem dX11_hand_26 : decode cX11_hand 26 = .ok (.lastore, 1) := by decide +kernel
theorem dX11_hand_27 : decode cX11_hand 27 = .ok (.iconst 0, 1) := by decide +kernel
theorem dX11_hand_28 : decode cX11_hand 28 = .ok (.ireturn, 1) := by decide +kernel
theorem dX11_link_0 : decode cX11_link 0 = .ok (.aload_n 0, 1) := by decide +kernel
theorem dX11_link_1 : decode cX11_link 1 = .ok (.aload_n 0, 1) := by decide +kernel
theorem dX11_link_2 : decode cX11_link 2 = .ok (.getfield 111, 3) := by decide +kernel
theorem dX11_link_5 : decode cX11_link 5 = .ok (.aload_n 0, 1) := by decide +kernel
theorem dX11_link_6 : decode cX11_link 6 = .ok (.getfield 287, 3) := by decide +kernel
theorem dX11_link_9 : decode cX11_link 9 = .ok (.iconst 1, 1) := by decide +kernel
theorem dX11_link_10 : decode cX11_link 10 = .ok (.isub, 1) := by decide +kernel
theorem dX11_link_11 : decode cX11_link 11 = .ok (.iaload, 1) := by decide +kernel
theorem dX11_link_12 : decode cX11_link 12 = .ok (.iload_n 1, 1) := by decide +kernel
theorem dX11_link_13 : decode cX11_link 13 = .ok (.invokevirtual 266, 3) := by decide +kernel
theorem dX11_link_16 : decode cX11_link 16 = .ok (.ifCond .ne 5, 3) := by decide +kernel
theorem dX11_link_19 : decode cX11_link 19 = .ok (.iconst 0, 1) := by decide +kernel
theorem dX11_link_20 : decode cX11_link 20 = .ok (.ireturn, 1) := by decide +kernel
theorem dX11_link_21 : decode cX11_link 21 = .ok (.iconst 0, 1) := by decide +kernel
theorem dX11_link_22 : decode cX11_link 22 = .ok (.istore_n 2, 1) := by decide +kernel
theorem dX11_link_23 : decode cX11_link 23 = .ok (.iload_n 2, 1) := by decide +kernel
theorem dX11_link_24 : decode cX11_link 24 = .ok (.iconst 4, 1) := by decide +kernel
theorem dX11_link_25 : decode cX11_link 25 = .ok (.if_icmp .ge 28, 3) := by decide +kernel
theorem dX11_link_28 : decode cX11_link 28 = .ok (.aload_n 0, 1) := by decide +kernel
theorem dX11_link_29 : decode cX11_link 29 = .ok (.getfield 114, 3) := by decide +kernel
theorem dX11_link_32 : decode cX11_link 32 = .ok (.iconst 4, 1) := by decide +kernel
theorem dX11_link_33 : decode cX11_link 33 = .ok (.aload_n 0, 1) := by decide +kernel
theorem dX11_link_34 : decode cX11_link 34 = .ok (.getfield 287, 3) := by decide +kernel
theorem dX11_link_37 : decode cX11_link 37 = .ok (.imul, 1) := by decide +kernel
theorem dX11_link_38 : decode cX11_link 38 = .ok (.iload_n 2, 1) := by decide +kernel
theorem dX11_link_39 : decode cX11_link 39 = .ok (.iadd, 1) := by decide +kernel
theorem dX11_link_40 : decode cX11_link 40 = .ok (.aload_n 0, 1) := by decide +kernel
theorem dX11_link_41 : decode cX11_link 41 = .ok (.getfield 96, 3) := by decide +kernel
theorem dX11_link_44 : decode cX11_link 44 = .ok (.iload_n 2, 1) := by decide +kernel
end
section
theorem dX11_link_45 : decode cX11_link 45 = .ok (.iaload, 1) := by decide +kernel
theorem dX11_link_46 : decode cX11_link 46 = .ok (.iastore, 1) := by decide +kernel
theorem dX11_link_47 : decode cX11_link 47 = .ok (.iinc 2 1, 3) := by decide +kernel
theorem dX11_link_50 : decode cX11_link 50 = .ok (.goto (-27), 3) := by decide +kernel
theorem dX11_link_53 : decode cX11_link 53 = .ok (.aload_n 0, 1) := by decide +kernel
theorem dX11_link_54 : decode cX11_link 54 = .ok (.getfield 111, 3) := by decide +kernel
theorem dX11_link_57 : decode cX11_link 57 = .ok (.aload_n 0, 1) := by decide +kernel
theorem dX11_link_58 : decode cX11_link 58 = .ok (.getfield 287, 3) := by decide +kernel
theorem dX11_link_61 : decode cX11_link 61 = .ok (.bipush 6, 2) := by decide +kernel
theorem dX11_link_63 : decode cX11_link 63 = .ok (.iload_n 1, 1) := by decide +kernel
theorem dX11_link_64 : decode cX11_link 64 = .ok (.imul, 1) := by decide +kernel
theorem dX11_link_65 : decode cX11_link 65 = .ok (.aload_n 0, 1) := by decide +kernel
theorem dX11_link_66 : decode cX11_link 66 = .ok (.getfield 259, 3) := by decide +kernel
theorem dX11_link_69 : decode cX11_link 69 = .ok (.iadd, 1) := by decide +kernel
theorem dX11_link_70 : decode cX11_link 70 = .ok (.iastore, 1) := by decide +kernel
theorem dX11_link_71 : decode cX11_link 71 = .ok (.aload_n 0, 1) := by decide +kernel
theorem dX11_link_72 : decode cX11_link 72 = .ok (.dup, 1) := by decide +kernel
theorem dX11_link_73 : decode cX11_link 73 = .ok (.getfield 287, 3) := by decide +kernel
theorem dX11_link_76 : decode cX11_link 76 = .ok (.iconst 1, 1) := by decide +kernel
theorem dX11_link_77 : decode cX11_link 77 = .ok (.iadd, 1) := by decide +kernel
theorem dX11_link_78 : decode cX11_link 78 = .ok (.putfield 287, 3) := by decide +kernel
theorem dX11_link_81 : decode cX11_link 81 = .ok (.iconst 1, 1) := by decide +kernel
theorem dX11_link_82 : decode cX11_link 82 = .ok (.ireturn, 1) := by decide +kernel
theorem dX11_goIn_0 : decode cX11_goIn 0 = .ok (.aload_n 0, 1) := by decide +kernel
theorem dX11_goIn_1 : decode cX11_goIn 1 = .ok (.getfield 111, 3) := by decide +kernel
theorem dX11_goIn_4 : decode cX11_goIn 4 = .ok (.iload_n 1, 1) := by decide +kernel
theorem dX11_goIn_5 : decode cX11_goIn 5 = .ok (.iconst 1, 1) := by decide +kernel
theorem dX11_goIn_6 : decode cX11_goIn 6 = .ok (.isub, 1) := by decide +kernel
theorem dX11_goIn_7 : decode cX11_goIn 7 = .ok (.iaload, 1) := by decide +kernel
theorem dX11_goIn_8 : decode cX11_goIn 8 = .ok (.istore_n 2, 1) := by decide +kernel
theorem dX11_goIn_9 : decode cX11_goIn 9 = .ok (.aload_n 0, 1) := by decide +kernel
theorem dX11_goIn_10 : decode cX11_goIn 10 = .ok (.getfield 111, 3) := by decide +kernel
theorem dX11_goIn_13 : decode cX11_goIn 13 = .ok (.iload_n 1, 1) := by decide +kernel
theorem dX11_goIn_14 : decode cX11_goIn 14 = .ok (.iaload, 1) := by decide +kernel
theorem dX11_goIn_15 : decode cX11_goIn 15 = .ok (.istore_n 3, 1) := by decide +kernel
theorem dX11_goIn_16 : decode cX11_goIn 16 = .ok (.iconst 0, 1) := by decide +kernel
theorem dX11_goIn_17 : decode cX11_goIn 17 = .ok (.istore 4, 2) := by decide +kernel
theorem dX11_goIn_19 : decode cX11_goIn 19 = .ok (.iload 4, 2) := by decide +kernel
theorem dX11_goIn_21 : decode cX11_goIn 21 = .ok (.aload_n 0, 1) := by decide +kernel
theorem dX11_goIn_22 : decode cX11_goIn 22 = .ok (.getfield 35, 3) := by decide +kernel
theorem dX11_goIn_25 : decode cX11_goIn 25 = .ok (.iload_n 3, 1) := by decide +kernel
theorem dX11_goIn_26 : decode cX11_goIn 26 = .ok (.iaload, 1) := by decide +kernel
theorem dX11_goIn_27 : decode cX11_goIn 27 = .ok (.if_icmp .ge 99, 3) := by decide +kernel
theorem dX11_goIn_30 : decode cX11_goIn 30 = .ok (.aload_n 0, 1) := by decide +kernel
theorem dX11_goIn_31 : decode cX11_goIn 31 = .ok (.getfield 38, 3) := by decide +kernel
theorem dX11_goIn_34 : decode cX11_goIn 34 = .ok (.iconst 4, 1) := by decide +kernel
theorem dX11_goIn_35 : decode cX11_goIn 35 = .ok (.iload_n 3, 1) := by decide +kernel
theorem dX11_goIn_36 : decode cX11_goIn 36 = .ok (.imul, 1) := by decide +kernel
theorem dX11_goIn_37 : decode cX11_goIn 37 = .ok (.iload 4, 2) := by decide +kernel
theorem dX11_goIn_39 : decode cX11_goIn 39 = .ok (.iadd, 1) := by decide +kernel
theorem dX11_goIn_40 : decode cX11_goIn 40 = .ok (.iaload, 1) := by decide +kernel
theorem dX11_goIn_41 : decode cX11_goIn 41 = .ok (.istore 5, 2) := by decide +kernel
theorem dX11_goIn_43 : decode cX11_goIn 43 = .ok (.aload_n 0, 1) := by decide +kernel
theorem dX11_goIn_44 : decode cX11_goIn 44 = .ok (.getfield 114, 3) := by decide +kernel
theorem dX11_goIn_47 : decode cX11_goIn 47 = .ok (.iconst 4, 1) := by decide +kernel
theorem dX11_goIn_48 : decode cX11_goIn 48 = .ok (.iload_n 1, 1) := by decide +kernel
theorem dX11_goIn_49 : decode cX11_goIn 49 = .ok (.imul, 1) := by decide +kernel
theorem dX11_goIn_50 : decode cX11_goIn 50 = .ok (.iload 4, 2) := by decide +kernel
theorem dX11_goIn_52 : decode cX11_goIn 52 = .ok (.iadd, 1) := by decide +kernel
theorem dX11_goIn_53 : decode cX11_goIn 53 = .ok (.iaload, 1) := by decide +kernel
theorem dX11_goIn_54 : decode cX11_goIn 54 = .ok (.istore 6, 2) := by decide +kernel
theorem dX11_goIn_56 : decode cX11_goIn 56 = .ok (.iload 6, 2) := by decide +kernel
theorem dX11_goIn_58 : decode cX11_goIn 58 = .ok (.iconst 4, 1) := by decide +kernel
theorem dX11_goIn_59 : decode cX11_goIn 59 = .ok (.if_icmp .ne 20, 3) := by decide +kernel
theorem dX11_goIn_62 : decode cX11_goIn 62 = .ok (.aload_n 0, 1) := by decide +kernel
theorem dX11_goIn_63 : decode cX11_goIn 63 = .ok (.getfield 120, 3) := by decide +kernel
theorem dX11_goIn_66 : decode cX11_goIn 66 = .ok (.iload 4, 2) := by decide +kernel
theorem dX11_goIn_68 : decode cX11_goIn 68 = .ok (.aload_n 0, 1) := by decide +kernel
theorem dX11_goIn_69 : decode cX11_goIn 69 = .ok (.getfield 62, 3) := by decide +kernel
theorem dX11_goIn_72 : decode cX11_goIn 72 = .ok (.iload 5, 2) := by decide +kernel
theorem dX11_goIn_74 : decode cX11_goIn 74 = .ok (.laload, 1) := by decide +kernel
theorem dX11_goIn_75 : decode cX11_goIn 75 = .ok (.lastore, 1) := by decide +kernel
theorem dX11_goIn_76 : decode cX11_goIn 76 = .ok (.goto 44, 3) := by decide +kernel
theorem dX11_goIn_79 : decode cX11_goIn 79 = .ok (.aload_n 0, 1) := by decide +kernel
theorem dX11_goIn_80 : decode cX11_goIn 80 = .ok (.aload_n 0, 1) := by decide +kernel
theorem dX11_goIn_81 : decode cX11_goIn 81 = .ok (.getfield 38, 3) := by decide +kernel
theorem dX11_goIn_84 : decode cX11_goIn 84 = .ok (.iconst 4, 1) := by decide +kernel
theorem dX11_goIn_85 : decode cX11_goIn 85 = .ok (.iload_n 2, 1) := by decide +kernel
theorem dX11_goIn_86 : decode cX11_goIn 86 = .ok (.imul, 1) := by decide +kernel
theorem dX11_goIn_87 : decode cX11_goIn 87 = .ok (.iload 6, 2) := by decide +kernel
theorem dX11_goIn_89 : decode cX11_goIn 89 = .ok (.iadd, 1) := by decide +kernel
theorem dX11_goIn_90 : decode cX11_goIn 90 = .ok (.iaload, 1) := by decide +kernel
theorem dX11_goIn_91 : decode cX11_goIn 91 = .ok (.iload 5, 2) := by decide +kernel
theorem dX11_goIn_93 : decode cX11_goIn 93 = .ok (.aload_n 0, 1) := by decide +kernel
theorem dX11_goIn_94 : decode cX11_goIn 94 = .ok (.getfield 117, 3) := by decide +kernel
theorem dX11_goIn_97 : decode cX11_goIn 97 = .ok (.iload 6, 2) := by decide +kernel
theorem dX11_goIn_99 : decode cX11_goIn 99 = .ok (.laload, 1) := by decide +kernel
theorem dX11_goIn_100 : decode cX11_goIn 100 = .ok (.iconst 1, 1) := by decide +kernel
theorem dX11_goIn_101 : decode cX11_goIn 101 = .ok (.invokevirtual 212, 3) := by decide +kernel
theorem dX11_goIn_104 : decode cX11_goIn 104 = .ok (.ifCond .ne 5, 3) := by decide +kernel
theorem dX11_goIn_107 : decode cX11_goIn 107 = .ok (.iconst 0, 1) := by decide +kernel
theorem dX11_goIn_108 : decode cX11_goIn 108 = .ok (.ireturn, 1) := by decide +kernel
theorem dX11_goIn_109 : decode cX11_goIn 109 = .ok (.aload_n 0, 1) := by decide +kernel
theorem dX11_goIn_110 : decode cX11_goIn 110 = .ok (.getfield 120, 3) := by decide +kernel
theorem dX11_goIn_113 : decode cX11_goIn 113 = .ok (.iload 4, 2) := by decide +kernel
theorem dX11_goIn_115 : decode cX11_goIn 115 = .ok (.aload_n 0, 1) := by decide +kernel
theorem dX11_goIn_116 : decode cX11_goIn 116 = .ok (.getfield 202, 3) := by decide +kernel
theorem dX11_goIn_119 : decode cX11_goIn 119 = .ok (.lastore, 1) := by decide +kernel
theorem dX11_goIn_120 : decode cX11_goIn 120 = .ok (.iinc 4 1, 3) := by decide +kernel
theorem dX11_goIn_123 : decode cX11_goIn 123 = .ok (.goto (-104), 3) := by decide +kernel
theorem dX11_goIn_126 : decode cX11_goIn 126 = .ok (.iconst 0, 1) := by decide +kernel
theorem dX11_goIn_127 : decode cX11_goIn 127 = .ok (.istore 4, 2) := by decide +kernel
theorem dX11_goIn_129 : decode cX11_goIn 129 = .ok (.iload 4, 2) := by decide +kernel
theorem dX11_goIn_131 : decode cX11_goIn 131 = .ok (.aload_n 0, 1) := by decide +kernel
theorem dX11_goIn_132 : decode cX11_goIn 132 = .ok (.getfield 35, 3) := by decide +kernel
theorem dX11_goIn_135 : decode cX11_goIn 135 = .ok (.iload_n 3, 1) := by decide +kernel
theorem dX11_goIn_136 : decode cX11_goIn 136 = .ok (.iaload, 1) := by decide +kernel
theorem dX11_goIn_137 : decode cX11_goIn 137 = .ok (.if_icmp .ge 23, 3) := by decide +kernel
theorem dX11_goIn_140 : decode cX11_goIn 140 = .ok (.aload_n 0, 1) := by decide +kernel
theorem dX11_goIn_141 : decode cX11_goIn 141 = .ok (.getfield 117, 3) := by decide +kernel
theorem dX11_goIn_144 : decode cX11_goIn 144 = .ok (.iload 4, 2) := by decide +kernel
theorem dX11_goIn_146 : decode cX11_goIn 146 = .ok (.aload_n 0, 1) := by decide +kernel
theorem dX11_goIn_147 : decode cX11_goIn 147 = .ok (.getfield 120, 3) := by decide +kernel
theorem dX11_goIn_150 : decode cX11_goIn 150 = .ok (.iload 4, 2) := by decide +kernel
theorem dX11_goIn_152 : decode cX11_goIn 152 = .ok (.laload, 1) := by decide +kernel
theorem dX11_goIn_153 : decode cX11_goIn 153 = .ok (.lastore, 1) := by decide +kernel
theorem dX11_goIn_154 : decode cX11_goIn 154 = .ok (.iinc 4 1, 3) := by decide +kernel
theorem dX11_goIn_157 : decode cX11_goIn 157 = .ok (.goto (-28), 3) := by decide +kernel
theorem dX11_goIn_160 : decode cX11_goIn 160 = .ok (.iconst 1, 1) := by decide +kernel
theorem dX11_goIn_161 : decode cX11_goIn 161 = .ok (.ireturn, 1) := by decide +kernel
theorem dX11_plus_0 : decode cX11_plus 0 = .ok (.aload_n 0, 1) := by decide +kernel
theorem dX11_plus_1 : decode cX11_plus 1 = .ok (.getfield 290, 3) := by decide +kernel
theorem dX11_plus_4 : decode cX11_plus 4 = .ok (.lload_n 1, 1) := by decide +kernel
theorem dX11_plus_5 : decode cX11_plus 5 = .ok (.ladd, 1) := by decide +kernel
theorem dX11_plus_6 : decode cX11_plus 6 = .ok (.lstore_n 3, 1) := by decide +kernel
theorem dX11_plus_7 : decode cX11_plus 7 = .ok (.aload_n 0, 1) := by decide +kernel
theorem dX11_plus_8 : decode cX11_plus 8 = .ok (.getfield 290, 3) := by decide +kernel
theorem dX11_plus_11 : decode cX11_plus 11 = .ok (.lload_n 3, 1) := by decide +kernel
theorem dX11_plus_12 : decode cX11_plus 12 = .ok (.lxor, 1) := by decide +kernel
theorem dX11_plus_13 : decode cX11_plus 13 = .ok (.lload_n 1, 1) := by decide +kernel
theorem dX11_plus_14 : decode cX11_plus 14 = .ok (.lload_n 3, 1) := by decide +kernel
theorem dX11_plus_15 : decode cX11_plus 15 = .ok (.lxor, 1) := by decide +kernel
theorem dX11_plus_16 : decode cX11_plus 16 = .ok (.land, 1) := by decide +kernel
theorem dX11_plus_17 : decode cX11_plus 17 = .ok (.lconst 0, 1) := by decide +kernel
theorem dX11_plus_18 : decode cX11_plus 18 = .ok (.lcmp, 1) := by decide +kernel
theorem dX11_plus_19 : decode cX11_plus 19 = .ok (.ifCond .lt 7, 3) := by decide +kernel
theorem dX11_plus_22 : decode cX11_plus 22 = .ok (.iconst 1, 1) := by decide +kernel
theorem dX11_plus_23 : decode cX11_plus 23 = .ok (.goto 4, 3) := by decide +kernel
theorem dX11_plus_26 : decode cX11_plus 26 = .ok (.iconst 0, 1) := by decide +kernel
theorem dX11_plus_27 : decode cX11_plus 27 = .ok (.istore 5, 2) := by decide +kernel
theorem dX11_plus_29 : decode cX11_plus 29 = .ok (.aload_n 0, 1) := by decide +kernel
theorem dX11_plus_30 : decode cX11_plus 30 = .ok (.lload_n 3, 1) := by decide +kernel
theorem dX11_plus_31 : decode cX11_plus 31 = .ok (.putfield 290, 3) := by decide +kernel
theorem dX11_plus_34 : decode cX11_plus 34 = .ok (.iload 5, 2) := by decide +kernel
theorem dX11_plus_36 : decode cX11_plus 36 = .ok (.ireturn, 1) := by decide +kernel
theorem dX11_doWork_0 : decode cX11_doWork 0 = .ok (.iconst 3, 1) := by decide +kernel
theorem dX11_doWork_1 : decode cX11_doWork 1 = .ok (.iload_n 2, 1) := by decide +kernel
theorem dX11_doWork_2 : decode cX11_doWork 2 = .ok (.imul, 1) := by decide +kernel
theorem dX11_doWork_3 : decode cX11_doWork 3 = .ok (.aload_n 0, 1) := by decide +kernel
theorem dX11_doWork_4 : decode cX11_doWork 4 = .ok (.getfield 47, 3) := by decide +kernel
theorem dX11_doWork_7 : decode cX11_doWork 7 = .ok (.iload_n 1, 1) := by decide +kernel
theorem dX11_doWork_8 : decode cX11_doWork 8 = .ok (.iaload, 1) := by decide +kernel
theorem dX11_doWork_9 : decode cX11_doWork 9 = .ok (.iadd, 1) := by decide +kernel
theorem dX11_doWork_10 : decode cX11_doWork 10 = .ok (.istore_n 3, 1) := by decide +kernel
theorem dX11_doWork_11 : decode cX11_doWork 11 = .ok (.aload_n 0, 1) := by decide +kernel
theorem dX11_doWork_12 : decode cX11_doWork 12 = .ok (.aload_n 0, 1) := by decide +kernel
theorem dX11_doWork_13 : decode cX11_doWork 13 = .ok (.getfield 44, 3) := by decide +kernel
theorem dX11_doWork_16 : decode cX11_doWork 16 = .ok (.iload_n 1, 1) := by decide +kernel
theorem dX11_doWork_17 : decode cX11_doWork 17 = .ok (.iaload, 1) := by decide +kernel
theorem dX11_doWork_18 : decode cX11_doWork 18 = .ok (.ifCond .ne 13, 3) := by decide +kernel
theorem dX11_doWork_21 : decode cX11_doWork 21 = .ok (.aload_n 0, 1) := by decide +kernel
theorem dX11_doWork_22 : decode cX11_doWork 22 = .ok (.getfield 50, 3) := by decide +kernel
theorem dX11_doWork_25 : decode cX11_doWork 25 = .ok (.iload_n 1, 1) := by decide +kernel
theorem dX11_doWork_26 : decode cX11_doWork 26 = .ok (.iaload, 1) := by decide +kernel
theorem dX11_doWork_27 : decode cX11_doWork 27 = .ok (.i2l, 1) := by decide +kernel
theorem dX11_doWork_28 : decode cX11_doWork 28 = .ok (.goto 4, 3) := by decide +kernel
theorem dX11_doWork_31 : decode cX11_doWork 31 = .ok (.lconst 0, 1) := by decide +kernel
theorem dX11_doWork_32 : decode cX11_doWork 32 = .ok (.putfield 290, 3) := by decide +kernel
theorem dX11_doWork_35 : decode cX11_doWork 35 = .ok (.iconst 1, 1) := by decide +kernel
theorem dX11_doWork_36 : decode cX11_doWork 36 = .ok (.istore 4, 2) := by decide +kernel
theorem dX11_doWork_38 : decode cX11_doWork 38 = .ok (.iconst 0, 1) := by decide +kernel
theorem dX11_doWork_39 : decode cX11_doWork 39 = .ok (.istore 5, 2) := by decide +kernel
theorem dX11_doWork_41 : decode cX11_doWork 41 = .ok (.iload 5, 2) := by decide +kernel
theorem dX11_doWork_43 : decode cX11_doWork 43 = .ok (.aload_n 0, 1) := by decide +kernel
theorem dX11_doWork_44 : decode cX11_doWork 44 = .ok (.getfield 35, 3) := by decide +kernel
theorem dX11_doWork_47 : decode cX11_doWork 47 = .ok (.iload_n 1, 1) := by decide +kernel
theorem dX11_doWork_48 : decode cX11_doWork 48 = .ok (.iaload, 1) := by decide +kernel
theorem dX11_doWork_49 : decode cX11_doWork 49 = .ok (.if_icmp .ge 100, 3) := by decide +kernel
theorem dX11_doWork_52 : decode cX11_doWork 52 = .ok (.aload_n 0, 1) := by decide +kernel
theorem dX11_doWork_53 : decode cX11_doWork 53 = .ok (.getfield 44, 3) := by decide +kernel
theorem dX11_doWork_56 : decode cX11_doWork 56 = .ok (.iload_n 1, 1) := by decide +kernel
theorem dX11_doWork_57 : decode cX11_doWork 57 = .ok (.iaload, 1) := by decide +kernel
theorem dX11_doWork_58 : decode cX11_doWork 58 = .ok (.iconst 1, 1) := by decide +kernel
theorem dX11_doWork_59 : decode cX11_doWork 59 = .ok (.if_icmp .eq 90, 3) := by decide +kernel
theorem dX11_doWork_62 : decode cX11_doWork 62 = .ok (.aload_n 0, 1) := by decide +kernel
theorem dX11_doWork_63 : decode cX11_doWork 63 = .ok (.getfield 44, 3) := by decide +kernel
theorem dX11_doWork_66 : decode cX11_doWork 66 = .ok (.iload_n 1, 1) := by decide +kernel
theorem dX11_doWork_67 : decode cX11_doWork 67 = .ok (.iaload, 1) := by decide +kernel
theorem dX11_doWork_68 : decode cX11_doWork 68 = .ok (.ifCond .ne 18, 3) := by decide +kernel
theorem dX11_doWork_71 : decode cX11_doWork 71 = .ok (.aload_n 0, 1) := by decide +kernel
theorem dX11_doWork_72 : decode cX11_doWork 72 = .ok (.getfield 53, 3) := by decide +kernel
theorem dX11_doWork_75 : decode cX11_doWork 75 = .ok (.iconst 4, 1) := by decide +kernel
theorem dX11_doWork_76 : decode cX11_doWork 76 = .ok (.iload_n 1, 1) := by decide +kernel
theorem dX11_doWork_77 : decode cX11_doWork 77 = .ok (.imul, 1) := by decide +kernel
theorem dX11_doWork_78 : decode cX11_doWork 78 = .ok (.iload 5, 2) := by decide +kernel
theorem dX11_doWork_80 : decode cX11_doWork 80 = .ok (.iadd, 1) := by decide +kernel
theorem dX11_doWork_81 : decode cX11_doWork 81 = .ok (.iaload, 1) := by decide +kernel
theorem dX11_doWork_82 : decode cX11_doWork 82 = .ok (.i2l, 1) := by decide +kernel
theorem dX11_doWork_83 : decode cX11_doWork 83 = .ok (.goto 4, 3) := by decide +kernel
theorem dX11_doWork_86 : decode cX11_doWork 86 = .ok (.lconst 1, 1) := by decide +kernel
theorem dX11_doWork_87 : decode cX11_doWork 87 = .ok (.lstore 6, 2) := by decide +kernel
theorem dX11_doWork_89 : decode cX11_doWork 89 = .ok (.aload_n 0, 1) := by decide +kernel
theorem dX11_doWork_90 : decode cX11_doWork 90 = .ok (.getfield 117, 3) := by decide +kernel
theorem dX11_doWork_93 : decode cX11_doWork 93 = .ok (.iload 5, 2) := by decide +kernel
theorem dX11_doWork_95 : decode cX11_doWork 95 = .ok (.laload, 1) := by decide +kernel
theorem dX11_doWork_96 : decode cX11_doWork 96 = .ok (.lload 6, 2) := by decide +kernel
theorem dX11_doWork_98 : decode cX11_doWork 98 = .ok (.lmul, 1) := by decide +kernel
theorem dX11_doWork_99 : decode cX11_doWork 99 = .ok (.lstore 8, 2) := by decide +kernel
theorem dX11_doWork_101 : decode cX11_doWork 101 = .ok (.iload 4, 2) := by decide +kernel
theorem dX11_doWork_103 : decode cX11_doWork 103 = .ok (.ifCond .eq 37, 3) := by decide +kernel
theorem dX11_doWork_106 : decode cX11_doWork 106 = .ok (.aload_n 0, 1) := by decide +kernel
theorem dX11_doWork_107 : decode cX11_doWork 107 = .ok (.getfield 117, 3) := by decide +kernel
theorem dX11_doWork_110 : decode cX11_doWork 110 = .ok (.iload 5, 2) := by decide +kernel
theorem dX11_doWork_112 : decode cX11_doWork 112 = .ok (.laload, 1) := by decide +kernel
theorem dX11_doWork_113 : decode cX11_doWork 113 = .ok (.lload 6, 2) := by decide +kernel
theorem dX11_doWork_115 : decode cX11_doWork 115 = .ok (.invokestatic 164, 3) := by decide +kernel
theorem dX11_doWork_118 : decode cX11_doWork 118 = .ok (.lload 8, 2) := by decide +kernel
theorem dX11_doWork_120 : decode cX11_doWork 120 = .ok (.bipush 63, 2) := by decide +kernel
theorem dX11_doWork_122 : decode cX11_doWork 122 = .ok (.lshr, 1) := by decide +kernel
theorem dX11_doWork_123 : decode cX11_doWork 123 = .ok (.lcmp, 1) := by decide +kernel
theorem dX11_doWork_124 : decode cX11_doWork 124 = .ok (.ifCond .ne 16, 3) := by decide +kernel
theorem dX11_doWork_127 : decode cX11_doWork 127 = .ok (.aload_n 0, 1) := by decide +kernel
theorem dX11_doWork_128 : decode cX11_doWork 128 = .ok (.lload 8, 2) := by decide +kernel
theorem dX11_doWork_130 : decode cX11_doWork 130 = .ok (.invokevirtual 293, 3) := by decide +kernel
theorem dX11_doWork_133 : decode cX11_doWork 133 = .ok (.ifCond .eq 7, 3) := by decide +kernel
theorem dX11_doWork_136 : decode cX11_doWork 136 = .ok (.iconst 1, 1) := by decide +kernel
theorem dX11_doWork_137 : decode cX11_doWork 137 = .ok (.goto 4, 3) := by decide +kernel
theorem dX11_doWork_140 : decode cX11_doWork 140 = .ok (.iconst 0, 1) := by decide +kernel
theorem dX11_doWork_141 : decode cX11_doWork 141 = .ok (.istore 4, 2) := by decide +kernel
theorem dX11_doWork_143 : decode cX11_doWork 143 = .ok (.iinc 5 1, 3) := by decide +kernel
theorem dX11_doWork_146 : decode cX11_doWork 146 = .ok (.goto (-105), 3) := by decide +kernel
theorem dX11_doWork_149 : decode cX11_doWork 149 = .ok (.aload_n 0, 1) := by decide +kernel
theorem dX11_doWork_150 : decode cX11_doWork 150 = .ok (.getfield 44, 3) := by decide +kernel
theorem dX11_doWork_153 : decode cX11_doWork 153 = .ok (.iload_n 1, 1) := by decide +kernel
theorem dX11_doWork_154 : decode cX11_doWork 154 = .ok (.iaload, 1) := by decide +kernel
theorem dX11_doWork_155 : decode cX11_doWork 155 = .ok (.ifCond .ne 49, 3) := by decide +kernel
theorem dX11_doWork_158 : decode cX11_doWork 158 = .ok (.iload 4, 2) := by decide +kernel
theorem dX11_doWork_160 : decode cX11_doWork 160 = .ok (.ifCond .eq 30, 3) := by decide +kernel
theorem dX11_doWork_163 : decode cX11_doWork 163 = .ok (.aload_n 0, 1) := by decide +kernel
theorem dX11_doWork_164 : decode cX11_doWork 164 = .ok (.getfield 47, 3) := by decide +kernel
theorem dX11_doWork_167 : decode cX11_doWork 167 = .ok (.iload_n 1, 1) := by decide +kernel
theorem dX11_doWork_168 : decode cX11_doWork 168 = .ok (.iaload, 1) := by decide +kernel
theorem dX11_doWork_169 : decode cX11_doWork 169 = .ok (.iconst (-1), 1) := by decide +kernel
theorem dX11_doWork_170 : decode cX11_doWork 170 = .ok (.if_icmp .eq 16, 3) := by decide +kernel
theorem dX11_doWork_173 : decode cX11_doWork 173 = .ok (.aload_n 0, 1) := by decide +kernel
theorem dX11_doWork_174 : decode cX11_doWork 174 = .ok (.aload_n 0, 1) := by decide +kernel
theorem dX11_doWork_175 : decode cX11_doWork 175 = .ok (.getfield 69, 3) := by decide +kernel
theorem dX11_doWork_178 : decode cX11_doWork 178 = .ok (.iload_n 3, 1) := by decide +kernel
theorem dX11_doWork_179 : decode cX11_doWork 179 = .ok (.laload, 1) := by decide +kernel
theorem dX11_doWork_180 : decode cX11_doWork 180 = .ok (.invokevirtual 293, 3) := by decide +kernel
theorem dX11_doWork_183 : decode cX11_doWork 183 = .ok (.ifCond .eq 7, 3) := by decide +kernel
theorem dX11_doWork_186 : decode cX11_doWork 186 = .ok (.iconst 1, 1) := by decide +kernel
theorem dX11_doWork_187 : decode cX11_doWork 187 = .ok (.goto 4, 3) := by decide +kernel
theorem dX11_doWork_190 : decode cX11_doWork 190 = .ok (.iconst 0, 1) := by decide +kernel
theorem dX11_doWork_191 : decode cX11_doWork 191 = .ok (.istore 4, 2) := by decide +kernel
theorem dX11_doWork_193 : decode cX11_doWork 193 = .ok (.aload_n 0, 1) := by decide +kernel
theorem dX11_doWork_194 : decode cX11_doWork 194 = .ok (.aload_n 0, 1) := by decide +kernel
theorem dX11_doWork_195 : decode cX11_doWork 195 = .ok (.getfield 290, 3) := by decide +kernel
theorem dX11_doWork_198 : decode cX11_doWork 198 = .ok (.putfield 297, 3) := by decide +kernel
theorem dX11_doWork_201 : decode cX11_doWork 201 = .ok (.goto 13, 3) := by decide +kernel
theorem dX11_doWork_204 : decode cX11_doWork 204 = .ok (.aload_n 0, 1) := by decide +kernel
theorem dX11_doWork_205 : decode cX11_doWork 205 = .ok (.aload_n 0, 1) := by decide +kernel
theorem dX11_doWork_206 : decode cX11_doWork 206 = .ok (.getfield 69, 3) := by decide +kernel
theorem dX11_doWork_209 : decode cX11_doWork 209 = .ok (.iload_n 3, 1) := by decide +kernel
theorem dX11_doWork_210 : decode cX11_doWork 210 = .ok (.laload, 1) := by decide +kernel
theorem dX11_doWork_211 : decode cX11_doWork 211 = .ok (.putfield 297, 3) := by decide +kernel
theorem dX11_doWork_214 : decode cX11_doWork 214 = .ok (.iload 4, 2) := by decide +kernel
theorem dX11_doWork_216 : decode cX11_doWork 216 = .ok (.ifCond .eq 19, 3) := by decide +kernel
theorem dX11_doWork_219 : decode cX11_doWork 219 = .ok (.aload_n 0, 1) := by decide +kernel
theorem dX11_doWork_220 : decode cX11_doWork 220 = .ok (.getfield 41, 3) := by decide +kernel
theorem dX11_doWork_223 : decode cX11_doWork 223 = .ok (.iload_n 1, 1) := by decide +kernel
theorem dX11_doWork_224 : decode cX11_doWork 224 = .ok (.iaload, 1) := by decide +kernel
theorem dX11_doWork_225 : decode cX11_doWork 225 = .ok (.aload_n 0, 1) := by decide +kernel
theorem dX11_doWork_226 : decode cX11_doWork 226 = .ok (.getfield 297, 3) := by decide +kernel
theorem dX11_doWork_229 : decode cX11_doWork 229 = .ok (.invokestatic 176, 3) := by decide +kernel
theorem dX11_doWork_232 : decode cX11_doWork 232 = .ok (.ifCond .ne 5, 3) := by decide +kernel
theorem dX11_doWork_235 : decode cX11_doWork 235 = .ok (.iconst 0, 1) := by decide +kernel
theorem dX11_doWork_236 : decode cX11_doWork 236 = .ok (.ireturn, 1) := by decide +kernel
theorem dX11_doWork_237 : decode cX11_doWork 237 = .ok (.aload_n 0, 1) := by decide +kernel
theorem dX11_doWork_238 : decode cX11_doWork 238 = .ok (.getfield 44, 3) := by decide +kernel
theorem dX11_doWork_241 : decode cX11_doWork 241 = .ok (.iload_n 1, 1) := by decide +kernel
theorem dX11_doWork_242 : decode cX11_doWork 242 = .ok (.iaload, 1) := by decide +kernel
theorem dX11_doWork_243 : decode cX11_doWork 243 = .ok (.iconst 2, 1) := by decide +kernel
theorem dX11_doWork_244 : decode cX11_doWork 244 = .ok (.if_icmp .ne 13, 3) := by decide +kernel
theorem dX11_doWork_247 : decode cX11_doWork 247 = .ok (.aload_n 0, 1) := by decide +kernel
theorem dX11_doWork_248 : decode cX11_doWork 248 = .ok (.getfield 69, 3) := by decide +kernel
theorem dX11_doWork_251 : decode cX11_doWork 251 = .ok (.iload_n 3, 1) := by decide +kernel
theorem dX11_doWork_252 : decode cX11_doWork 252 = .ok (.aload_n 0, 1) := by decide +kernel
theorem dX11_doWork_253 : decode cX11_doWork 253 = .ok (.getfield 290, 3) := by decide +kernel
theorem dX11_doWork_256 : decode cX11_doWork 256 = .ok (.lastore, 1) := by decide +kernel
theorem dX11_doWork_257 : decode cX11_doWork 257 = .ok (.iconst 1, 1) := by decide +kernel
theorem dX11_doWork_258 : decode cX11_doWork 258 = .ok (.ireturn, 1) := by decide +kernel
theorem dX11_callChain_0 : decode cX11_callChain 0 = .ok (.aload_n 0, 1) := by decide +kernel
theorem dX11_callChain_1 : decode cX11_callChain 1 = .ok (.getfield 111, 3) := by decide +kernel
theorem dX11_callChain_4 : decode cX11_callChain 4 = .ok (.iconst 0, 1) := by decide +kernel
theorem dX11_callChain_5 : decode cX11_callChain 5 = .ok (.iaload, 1) := by decide +kernel
theorem dX11_callChain_6 : decode cX11_callChain 6 = .ok (.istore_n 2, 1) := by decide +kernel
theorem dX11_callChain_7 : decode cX11_callChain 7 = .ok (.iconst 0, 1) := by decide +kernel
theorem dX11_callChain_8 : decode cX11_callChain 8 = .ok (.istore_n 3, 1) := by decide +kernel
theorem dX11_callChain_9 : decode cX11_callChain 9 = .ok (.iload_n 3, 1) := by decide +kernel
theorem dX11_callChain_10 : decode cX11_callChain 10 = .ok (.aload_n 0, 1) := by decide +kernel
theorem dX11_callChain_11 : decode cX11_callChain 11 = .ok (.getfield 35, 3) := by decide +kernel
theorem dX11_callChain_14 : decode cX11_callChain 14 = .ok (.iload_n 2, 1) := by decide +kernel
theorem dX11_callChain_15 : decode cX11_callChain 15 = .ok (.iaload, 1) := by decide +kernel
theorem dX11_callChain_16 : decode cX11_callChain 16 = .ok (.if_icmp .ge 52, 3) := by decide +kernel
theorem dX11_callChain_19 : decode cX11_callChain 19 = .ok (.aload_n 0, 1) := by decide +kernel
theorem dX11_callChain_20 : decode cX11_callChain 20 = .ok (.getfield 117, 3) := by decide +kernel
theorem dX11_callChain_23 : decode cX11_callChain 23 = .ok (.iload_n 3, 1) := by decide +kernel
theorem dX11_callChain_24 : decode cX11_callChain 24 = .ok (.aload_n 0, 1) := by decide +kernel
theorem dX11_callChain_25 : decode cX11_callChain 25 = .ok (.getfield 72, 3) := by decide +kernel
theorem dX11_callChain_28 : decode cX11_callChain 28 = .ok (.iload_n 3, 1) := by decide +kernel
theorem dX11_callChain_29 : decode cX11_callChain 29 = .ok (.laload, 1) := by decide +kernel
theorem dX11_callChain_30 : decode cX11_callChain 30 = .ok (.lastore, 1) := by decide +kernel
theorem dX11_callChain_31 : decode cX11_callChain 31 = .ok (.aload_n 0, 1) := by decide +kernel
theorem dX11_callChain_32 : decode cX11_callChain 32 = .ok (.getfield 38, 3) := by decide +kernel
theorem dX11_callChain_35 : decode cX11_callChain 35 = .ok (.iconst 4, 1) := by decide +kernel
theorem dX11_callChain_36 : decode cX11_callChain 36 = .ok (.iload_n 2, 1) := by decide +kernel
theorem dX11_callChain_37 : decode cX11_callChain 37 = .ok (.imul, 1) := by decide +kernel
theorem dX11_callChain_38 : decode cX11_callChain 38 = .ok (.iload_n 3, 1) := by decide +kernel
theorem dX11_callChain_39 : decode cX11_callChain 39 = .ok (.iadd, 1) := by decide +kernel
theorem dX11_callChain_40 : decode cX11_callChain 40 = .ok (.iaload, 1) := by decide +kernel
theorem dX11_callChain_41 : decode cX11_callChain 41 = .ok (.aload_n 0, 1) := by decide +kernel
theorem dX11_callChain_42 : decode cX11_callChain 42 = .ok (.getfield 72, 3) := by decide +kernel
theorem dX11_callChain_45 : decode cX11_callChain 45 = .ok (.iload_n 3, 1) := by decide +kernel
theorem dX11_callChain_46 : decode cX11_callChain 46 = .ok (.laload, 1) := by decide +kernel
theorem dX11_callChain_47 : decode cX11_callChain 47 = .ok (.invokestatic 176, 3) := by decide +kernel
theorem dX11_callChain_50 : decode cX11_callChain 50 = .ok (.ifCond .ne 12, 3) := by decide +kernel
theorem dX11_callChain_53 : decode cX11_callChain 53 = .ok (.aload_n 0, 1) := by decide +kernel
theorem dX11_callChain_54 : decode cX11_callChain 54 = .ok (.iconst 0, 1) := by decide +kernel
theorem dX11_callChain_55 : decode cX11_callChain 55 = .ok (.iconst (-1), 1) := by decide +kernel
theorem dX11_callChain_56 : decode cX11_callChain 56 = .ok (.invokevirtual 208, 3) := by decide +kernel
theorem dX11_callChain_59 : decode cX11_callChain 59 = .ok (.bipush (-7), 2) := by decide +kernel
theorem dX11_callChain_61 : decode cX11_callChain 61 = .ok (.ireturn, 1) := by decide +kernel
theorem dX11_callChain_62 : decode cX11_callChain 62 = .ok (.iinc 3 1, 3) := by decide +kernel
theorem dX11_callChain_65 : decode cX11_callChain 65 = .ok (.goto (-56), 3) := by decide +kernel
theorem dX11_callChain_68 : decode cX11_callChain 68 = .ok (.iconst 1, 1) := by decide +kernel
theorem dX11_callChain_69 : decode cX11_callChain 69 = .ok (.istore_n 3, 1) := by decide +kernel
theorem dX11_callChain_70 : decode cX11_callChain 70 = .ok (.iload_n 3, 1) := by decide +kernel
theorem dX11_callChain_71 : decode cX11_callChain 71 = .ok (.aload_n 0, 1) := by decide +kernel
theorem dX11_callChain_72 : decode cX11_callChain 72 = .ok (.getfield 287, 3) := by decide +kernel
theorem dX11_callChain_75 : decode cX11_callChain 75 = .ok (.if_icmp .ge 20, 3) := by decide +kernel
theorem dX11_callChain_78 : decode cX11_callChain 78 = .ok (.aload_n 0, 1) := by decide +kernel
theorem dX11_callChain_79 : decode cX11_callChain 79 = .ok (.iload_n 3, 1) := by decide +kernel
theorem dX11_callChain_80 : decode cX11_callChain 80 = .ok (.invokevirtual 300, 3) := by decide +kernel
theorem dX11_callChain_83 : decode cX11_callChain 83 = .ok (.ifCond .ne 6, 3) := by decide +kernel
theorem dX11_callChain_86 : decode cX11_callChain 86 = .ok (.bipush (-7), 2) := by decide +kernel
theorem dX11_callChain_88 : decode cX11_callChain 88 = .ok (.ireturn, 1) := by decide +kernel
theorem dX11_callChain_89 : decode cX11_callChain 89 = .ok (.iinc 3 1, 3) := by decide +kernel
theorem dX11_callChain_92 : decode cX11_callChain 92 = .ok (.goto (-22), 3) := by decide +kernel
theorem dX11_callChain_95 : decode cX11_callChain 95 = .ok (.aload_n 0, 1) := by decide +kernel
theorem dX11_callChain_96 : decode cX11_callChain 96 = .ok (.aload_n 0, 1) := by decide +kernel
theorem dX11_callChain_97 : decode cX11_callChain 97 = .ok (.getfield 111, 3) := by decide +kernel
theorem dX11_callChain_100 : decode cX11_callChain 100 = .ok (.aload_n 0, 1) := by decide +kernel
theorem dX11_callChain_101 : decode cX11_callChain 101 = .ok (.getfield 287, 3) := by decide +kernel
theorem dX11_callChain_104 : decode cX11_callChain 104 = .ok (.iconst 1, 1) := by decide +kernel
theorem dX11_callChain_105 : decode cX11_callChain 105 = .ok (.isub, 1) := by decide +kernel
theorem dX11_callChain_106 : decode cX11_callChain 106 = .ok (.iaload, 1) := by decide +kernel
theorem dX11_callChain_107 : decode cX11_callChain 107 = .ok (.iload_n 1, 1) := by decide +kernel
theorem dX11_callChain_108 : decode cX11_callChain 108 = .ok (.invokevirtual 303, 3) := by decide +kernel
theorem dX11_callChain_111 : decode cX11_callChain 111 = .ok (.ifCond .ne 12, 3) := by decide +kernel
theorem dX11_callChain_114 : decode cX11_callChain 114 = .ok (.aload_n 0, 1) := by decide +kernel
theorem dX11_callChain_115 : decode cX11_callChain 115 = .ok (.iconst 2, 1) := by decide +kernel
theorem dX11_callChain_116 : decode cX11_callChain 116 = .ok (.iconst (-1), 1) := by decide +kernel
theorem dX11_callChain_117 : decode cX11_callChain 117 = .ok (.invokevirtual 208, 3) := by decide +kernel
theorem dX11_callChain_120 : decode cX11_callChain 120 = .ok (.bipush (-7), 2) := by decide +kernel
theorem dX11_callChain_122 : decode cX11_callChain 122 = .ok (.ireturn, 1) := by decide +kernel
theorem dX11_callChain_123 : decode cX11_callChain 123 = .ok (.aload_n 0, 1) := by decide +kernel
theorem dX11_callChain_124 : decode cX11_callChain 124 = .ok (.getfield 287, 3) := by decide +kernel
theorem dX11_callChain_127 : decode cX11_callChain 127 = .ok (.iconst 1, 1) := by decide +kernel
theorem dX11_callChain_128 : decode cX11_callChain 128 = .ok (.isub, 1) := by decide +kernel
theorem dX11_callChain_129 : decode cX11_callChain 129 = .ok (.istore_n 3, 1) := by decide +kernel
theorem dX11_callChain_130 : decode cX11_callChain 130 = .ok (.iload_n 3, 1) := by decide +kernel
theorem dX11_callChain_131 : decode cX11_callChain 131 = .ok (.ifCond .le 56, 3) := by decide +kernel
theorem dX11_callChain_134 : decode cX11_callChain 134 = .ok (.aload_n 0, 1) := by decide +kernel
theorem dX11_callChain_135 : decode cX11_callChain 135 = .ok (.aload_n 0, 1) := by decide +kernel
theorem dX11_callChain_136 : decode cX11_callChain 136 = .ok (.getfield 41, 3) := by decide +kernel
theorem dX11_callChain_139 : decode cX11_callChain 139 = .ok (.aload_n 0, 1) := by decide +kernel
theorem dX11_callChain_140 : decode cX11_callChain 140 = .ok (.getfield 111, 3) := by decide +kernel
theorem dX11_callChain_143 : decode cX11_callChain 143 = .ok (.iload_n 3, 1) := by decide +kernel
theorem dX11_callChain_144 : decode cX11_callChain 144 = .ok (.iaload, 1) := by decide +kernel
theorem dX11_callChain_145 : decode cX11_callChain 145 = .ok (.iaload, 1) := by decide +kernel
theorem dX11_callChain_146 : decode cX11_callChain 146 = .ok (.aload_n 0, 1) := by decide +kernel
theorem dX11_callChain_147 : decode cX11_callChain 147 = .ok (.getfield 41, 3) := by decide +kernel
theorem dX11_callChain_150 : decode cX11_callChain 150 = .ok (.aload_n 0, 1) := by decide +kernel
theorem dX11_callChain_151 : decode cX11_callChain 151 = .ok (.getfield 111, 3) := by decide +kernel
theorem dX11_callChain_154 : decode cX11_callChain 154 = .ok (.iload_n 3, 1) := by decide +kernel
theorem dX11_callChain_155 : decode cX11_callChain 155 = .ok (.iconst 1, 1) := by decide +kernel
theorem dX11_callChain_156 : decode cX11_callChain 156 = .ok (.isub, 1) := by decide +kernel
theorem dX11_callChain_157 : decode cX11_callChain 157 = .ok (.iaload, 1) := by decide +kernel
theorem dX11_callChain_158 : decode cX11_callChain 158 = .ok (.iaload, 1) := by decide +kernel
theorem dX11_callChain_159 : decode cX11_callChain 159 = .ok (.aload_n 0, 1) := by decide +kernel
theorem dX11_callChain_160 : decode cX11_callChain 160 = .ok (.getfield 297, 3) := by decide +kernel
theorem dX11_callChain_163 : decode cX11_callChain 163 = .ok (.iconst 3, 1) := by decide +kernel
theorem dX11_callChain_164 : decode cX11_callChain 164 = .ok (.invokevirtual 212, 3) := by decide +kernel
theorem dX11_callChain_167 : decode cX11_callChain 167 = .ok (.ifCond .ne 6, 3) := by decide +kernel
theorem dX11_callChain_170 : decode cX11_callChain 170 = .ok (.bipush (-7), 2) := by decide +kernel
theorem dX11_callChain_172 : decode cX11_callChain 172 = .ok (.ireturn, 1) := by decide +kernel
theorem dX11_callChain_173 : decode cX11_callChain 173 = .ok (.aload_n 0, 1) := by decide +kernel
theorem dX11_callChain_174 : decode cX11_callChain 174 = .ok (.aload_n 0, 1) := by decide +kernel
theorem dX11_callChain_175 : decode cX11_callChain 175 = .ok (.getfield 202, 3) := by decide +kernel
end
section
theorem dX11_callChain_178 : decode cX11_callChain 178 = .ok (.putfield 297, 3) := by decide +kernel
theorem dX11_callChain_181 : decode cX11_callChain 181 = .ok (.iinc 3 (-1), 3) := by decide +kernel
theorem dX11_callChain_184 : decode cX11_callChain 184 = .ok (.goto (-54), 3) := by decide +kernel
theorem dX11_callChain_187 : decode cX11_callChain 187 = .ok (.aload_n 0, 1) := by decide +kernel
theorem dX11_callChain_188 : decode cX11_callChain 188 = .ok (.aload_n 0, 1) := by decide +kernel
theorem dX11_callChain_189 : decode cX11_callChain 189 = .ok (.getfield 297, 3) := by decide +kernel
theorem dX11_callChain_192 : decode cX11_callChain 192 = .ok (.putfield 216, 3) := by decide +kernel
theorem dX11_callChain_195 : decode cX11_callChain 195 = .ok (.iconst 0, 1) := by decide +kernel
theorem dX11_callChain_196 : decode cX11_callChain 196 = .ok (.ireturn, 1) := by decide +kernel
theorem dX11_counted_0 : decode cX11_counted 0 = .ok (.aload_n 0, 1) := by decide +kernel
theorem dX11_counted_1 : decode cX11_counted 1 = .ok (.dup, 1) := by decide +kernel
theorem dX11_counted_2 : decode cX11_counted 2 = .ok (.getfield 306, 3) := by decide +kernel
theorem dX11_counted_5 : decode cX11_counted 5 = .ok (.iload_n 1, 1) := by decide +kernel
theorem dX11_counted_6 : decode cX11_counted 6 = .ok (.ifCond .ne 7, 3) := by decide +kernel
theorem dX11_counted_9 : decode cX11_counted 9 = .ok (.iconst 1, 1) := by decide +kernel
theorem dX11_counted_10 : decode cX11_counted 10 = .ok (.goto 4, 3) := by decide +kernel
theorem dX11_counted_13 : decode cX11_counted 13 = .ok (.iconst 0, 1) := by decide +kernel
theorem dX11_counted_14 : decode cX11_counted 14 = .ok (.iadd, 1) := by decide +kernel
theorem dX11_counted_15 : decode cX11_counted 15 = .ok (.putfield 306, 3) := by decide +kernel
theorem dX11_counted_18 : decode cX11_counted 18 = .ok (.aload_n 0, 1) := by decide +kernel
theorem dX11_counted_19 : decode cX11_counted 19 = .ok (.dup, 1) := by decide +kernel
theorem dX11_counted_20 : decode cX11_counted 20 = .ok (.getfield 309, 3) := by decide +kernel
theorem dX11_counted_23 : decode cX11_counted 23 = .ok (.iload_n 1, 1) := by decide +kernel
theorem dX11_counted_24 : decode cX11_counted 24 = .ok (.bipush (-7), 2) := by decide +kernel
theorem dX11_counted_26 : decode cX11_counted 26 = .ok (.if_icmp .ne 7, 3) := by decide +kernel
theorem dX11_counted_29 : decode cX11_counted 29 = .ok (.iconst 1, 1) := by decide +kernel
theorem dX11_counted_30 : decode cX11_counted 30 = .ok (.goto 4, 3) := by decide +kernel
theorem dX11_counted_33 : decode cX11_counted 33 = .ok (.iconst 0, 1) := by decide +kernel
theorem dX11_counted_34 : decode cX11_counted 34 = .ok (.iadd, 1) := by decide +kernel
theorem dX11_counted_35 : decode cX11_counted 35 = .ok (.putfield 309, 3) := by decide +kernel
theorem dX11_counted_38 : decode cX11_counted 38 = .ok (.iload_n 1, 1) := by decide +kernel
theorem dX11_counted_39 : decode cX11_counted 39 = .ok (.ireturn, 1) := by decide +kernel
theorem dX11_call_0 : decode cX11_call 0 = .ok (.aload_n 0, 1) := by decide +kernel
theorem dX11_call_1 : decode cX11_call 1 = .ok (.iconst 0, 1) := by decide +kernel
theorem dX11_call_2 : decode cX11_call 2 = .ok (.putfield 131, 3) := by decide +kernel
theorem dX11_call_5 : decode cX11_call 5 = .ok (.iload_n 1, 1) := by decide +kernel
theorem dX11_call_6 : decode cX11_call 6 = .ok (.i2l, 1) := by decide +kernel
theorem dX11_call_7 : decode cX11_call 7 = .ok (.lconst 0, 1) := by decide +kernel
theorem dX11_call_8 : decode cX11_call 8 = .ok (.aload_n 0, 1) := by decide +kernel
theorem dX11_call_9 : decode cX11_call 9 = .ok (.getfield 282, 3) := by decide +kernel
theorem dX11_call_12 : decode cX11_call 12 = .ok (.iconst 1, 1) := by decide +kernel
theorem dX11_call_13 : decode cX11_call 13 = .ok (.isub, 1) := by decide +kernel
theorem dX11_call_14 : decode cX11_call 14 = .ok (.i2l, 1) := by decide +kernel
theorem dX11_call_15 : decode cX11_call 15 = .ok (.invokestatic 138, 3) := by decide +kernel
theorem dX11_call_18 : decode cX11_call 18 = .ok (.ifCond .ne 6, 3) := by decide +kernel
theorem dX11_call_21 : decode cX11_call 21 = .ok (.bipush (-2), 2) := by decide +kernel
theorem dX11_call_23 : decode cX11_call 23 = .ok (.ireturn, 1) := by decide +kernel
theorem dX11_call_24 : decode cX11_call 24 = .ok (.iload_n 2, 1) := by decide +kernel
theorem dX11_call_25 : decode cX11_call 25 = .ok (.i2l, 1) := by decide +kernel
theorem dX11_call_26 : decode cX11_call 26 = .ok (.lconst 0, 1) := by decide +kernel
theorem dX11_call_27 : decode cX11_call 27 = .ok (.ldc2_w 221, 3) := by decide +kernel
theorem dX11_call_30 : decode cX11_call 30 = .ok (.invokestatic 138, 3) := by decide +kernel
theorem dX11_call_33 : decode cX11_call 33 = .ok (.ifCond .ne 6, 3) := by decide +kernel
theorem dX11_call_36 : decode cX11_call 36 = .ok (.bipush (-3), 2) := by decide +kernel
theorem dX11_call_38 : decode cX11_call 38 = .ok (.ireturn, 1) := by decide +kernel
theorem dX11_call_39 : decode cX11_call 39 = .ok (.aload_n 0, 1) := by decide +kernel
theorem dX11_call_40 : decode cX11_call 40 = .ok (.bipush 10, 2) := by decide +kernel
theorem dX11_call_42 : decode cX11_call 42 = .ok (.iload_n 2, 1) := by decide +kernel
theorem dX11_call_43 : decode cX11_call 43 = .ok (.iadd, 1) := by decide +kernel
theorem dX11_call_44 : decode cX11_call 44 = .ok (.iload_n 3, 1) := by decide +kernel
theorem dX11_call_45 : decode cX11_call 45 = .ok (.invokevirtual 235, 3) := by decide +kernel
theorem dX11_call_48 : decode cX11_call 48 = .ok (.ifCond .ne 6, 3) := by decide +kernel
theorem dX11_call_51 : decode cX11_call 51 = .ok (.bipush (-2), 2) := by decide +kernel
theorem dX11_call_53 : decode cX11_call 53 = .ok (.ireturn, 1) := by decide +kernel
theorem dX11_call_54 : decode cX11_call 54 = .ok (.aload_n 0, 1) := by decide +kernel
theorem dX11_call_55 : decode cX11_call 55 = .ok (.invokevirtual 189, 3) := by decide +kernel
theorem dX11_call_58 : decode cX11_call 58 = .ok (.aload_n 0, 1) := by decide +kernel
theorem dX11_call_59 : decode cX11_call 59 = .ok (.getfield 111, 3) := by decide +kernel
theorem dX11_call_62 : decode cX11_call 62 = .ok (.iconst 0, 1) := by decide +kernel
theorem dX11_call_63 : decode cX11_call 63 = .ok (.bipush 6, 2) := by decide +kernel
theorem dX11_call_65 : decode cX11_call 65 = .ok (.bipush 10, 2) := by decide +kernel
theorem dX11_call_67 : decode cX11_call 67 = .ok (.iload_n 2, 1) := by decide +kernel
theorem dX11_call_68 : decode cX11_call 68 = .ok (.iadd, 1) := by decide +kernel
theorem dX11_call_69 : decode cX11_call 69 = .ok (.imul, 1) := by decide +kernel
theorem dX11_call_70 : decode cX11_call 70 = .ok (.iload_n 3, 1) := by decide +kernel
theorem dX11_call_71 : decode cX11_call 71 = .ok (.iadd, 1) := by decide +kernel
theorem dX11_call_72 : decode cX11_call 72 = .ok (.iastore, 1) := by decide +kernel
theorem dX11_call_73 : decode cX11_call 73 = .ok (.aload_n 0, 1) := by decide +kernel
theorem dX11_call_74 : decode cX11_call 74 = .ok (.iconst 1, 1) := by decide +kernel
theorem dX11_call_75 : decode cX11_call 75 = .ok (.putfield 287, 3) := by decide +kernel
theorem dX11_call_78 : decode cX11_call 78 = .ok (.aload_n 0, 1) := by decide +kernel
theorem dX11_call_79 : decode cX11_call 79 = .ok (.aload_n 0, 1) := by decide +kernel
theorem dX11_call_80 : decode cX11_call 80 = .ok (.getfield 66, 3) := by decide +kernel
theorem dX11_call_83 : decode cX11_call 83 = .ok (.iload_n 1, 1) := by decide +kernel
theorem dX11_call_84 : decode cX11_call 84 = .ok (.iaload, 1) := by decide +kernel
theorem dX11_call_85 : decode cX11_call 85 = .ok (.invokevirtual 312, 3) := by decide +kernel
theorem dX11_call_88 : decode cX11_call 88 = .ok (.ifCond .eq 15, 3) := by decide +kernel
theorem dX11_call_91 : decode cX11_call 91 = .ok (.aload_n 0, 1) := by decide +kernel
theorem dX11_call_92 : decode cX11_call 92 = .ok (.aload_n 0, 1) := by decide +kernel
theorem dX11_call_93 : decode cX11_call 93 = .ok (.iload_n 1, 1) := by decide +kernel
theorem dX11_call_94 : decode cX11_call 94 = .ok (.invokevirtual 315, 3) := by decide +kernel
theorem dX11_call_97 : decode cX11_call 97 = .ok (.invokevirtual 319, 3) := by decide +kernel
theorem dX11_call_100 : decode cX11_call 100 = .ok (.goto 5, 3) := by decide +kernel
theorem dX11_call_103 : decode cX11_call 103 = .ok (.bipush (-6), 2) := by decide +kernel
theorem dX11_call_105 : decode cX11_call 105 = .ok (.ireturn, 1) := by decide +kernel
theorem dX11_through_0 : decode cX11_through 0 = .ok (.aload_n 0, 1) := by decide +kernel
theorem dX11_through_1 : decode cX11_through 1 = .ok (.iconst 0, 1) := by decide +kernel
theorem dX11_through_2 : decode cX11_through 2 = .ok (.putfield 131, 3) := by decide +kernel
theorem dX11_through_5 : decode cX11_through 5 = .ok (.iload_n 1, 1) := by decide +kernel
theorem dX11_through_6 : decode cX11_through 6 = .ok (.i2l, 1) := by decide +kernel
theorem dX11_through_7 : decode cX11_through 7 = .ok (.lconst 0, 1) := by decide +kernel
theorem dX11_through_8 : decode cX11_through 8 = .ok (.aload_n 0, 1) := by decide +kernel
theorem dX11_through_9 : decode cX11_through 9 = .ok (.getfield 282, 3) := by decide +kernel
theorem dX11_through_12 : decode cX11_through 12 = .ok (.iconst 1, 1) := by decide +kernel
theorem dX11_through_13 : decode cX11_through 13 = .ok (.isub, 1) := by decide +kernel
theorem dX11_through_14 : decode cX11_through 14 = .ok (.i2l, 1) := by decide +kernel
theorem dX11_through_15 : decode cX11_through 15 = .ok (.invokestatic 138, 3) := by decide +kernel
theorem dX11_through_18 : decode cX11_through 18 = .ok (.ifCond .ne 6, 3) := by decide +kernel
theorem dX11_through_21 : decode cX11_through 21 = .ok (.bipush (-2), 2) := by decide +kernel
theorem dX11_through_23 : decode cX11_through 23 = .ok (.ireturn, 1) := by decide +kernel
theorem dX11_through_24 : decode cX11_through 24 = .ok (.iload_n 2, 1) := by decide +kernel
theorem dX11_through_25 : decode cX11_through 25 = .ok (.i2l, 1) := by decide +kernel
theorem dX11_through_26 : decode cX11_through 26 = .ok (.lconst 0, 1) := by decide +kernel
theorem dX11_through_27 : decode cX11_through 27 = .ok (.ldc2_w 221, 3) := by decide +kernel
theorem dX11_through_30 : decode cX11_through 30 = .ok (.invokestatic 138, 3) := by decide +kernel
theorem dX11_through_33 : decode cX11_through 33 = .ok (.ifCond .eq 15, 3) := by decide +kernel
theorem dX11_through_36 : decode cX11_through 36 = .ok (.iload_n 3, 1) := by decide +kernel
theorem dX11_through_37 : decode cX11_through 37 = .ok (.i2l, 1) := by decide +kernel
theorem dX11_through_38 : decode cX11_through 38 = .ok (.lconst 0, 1) := by decide +kernel
theorem dX11_through_39 : decode cX11_through 39 = .ok (.ldc2_w 221, 3) := by decide +kernel
theorem dX11_through_42 : decode cX11_through 42 = .ok (.invokestatic 138, 3) := by decide +kernel
theorem dX11_through_45 : decode cX11_through 45 = .ok (.ifCond .ne 6, 3) := by decide +kernel
theorem dX11_through_48 : decode cX11_through 48 = .ok (.bipush (-3), 2) := by decide +kernel
theorem dX11_through_50 : decode cX11_through 50 = .ok (.ireturn, 1) := by decide +kernel
theorem dX11_through_51 : decode cX11_through 51 = .ok (.aload_n 0, 1) := by decide +kernel
theorem dX11_through_52 : decode cX11_through 52 = .ok (.invokevirtual 189, 3) := by decide +kernel
theorem dX11_through_55 : decode cX11_through 55 = .ok (.aload_n 0, 1) := by decide +kernel
theorem dX11_through_56 : decode cX11_through 56 = .ok (.iload_n 2, 1) := by decide +kernel
theorem dX11_through_57 : decode cX11_through 57 = .ok (.iload_n 3, 1) := by decide +kernel
theorem dX11_through_58 : decode cX11_through 58 = .ok (.invokevirtual 279, 3) := by decide +kernel
theorem dX11_through_61 : decode cX11_through 61 = .ok (.ldc 180, 2) := by decide +kernel
theorem dX11_through_63 : decode cX11_through 63 = .ok (.if_icmp .lt 5, 3) := by decide +kernel
theorem dX11_through_66 : decode cX11_through 66 = .ok (.iconst (-1), 1) := by decide +kernel
theorem dX11_through_67 : decode cX11_through 67 = .ok (.ireturn, 1) := by decide +kernel
theorem dX11_through_68 : decode cX11_through 68 = .ok (.aload_n 0, 1) := by decide +kernel
theorem dX11_through_69 : decode cX11_through 69 = .ok (.bipush 10, 2) := by decide +kernel
theorem dX11_through_71 : decode cX11_through 71 = .ok (.iload_n 3, 1) := by decide +kernel
theorem dX11_through_72 : decode cX11_through 72 = .ok (.iadd, 1) := by decide +kernel
theorem dX11_through_73 : decode cX11_through 73 = .ok (.iload 4, 2) := by decide +kernel
theorem dX11_through_75 : decode cX11_through 75 = .ok (.invokevirtual 235, 3) := by decide +kernel
theorem dX11_through_78 : decode cX11_through 78 = .ok (.ifCond .ne 6, 3) := by decide +kernel
theorem dX11_through_81 : decode cX11_through 81 = .ok (.bipush (-2), 2) := by decide +kernel
theorem dX11_through_83 : decode cX11_through 83 = .ok (.ireturn, 1) := by decide +kernel
theorem dX11_through_84 : decode cX11_through 84 = .ok (.aload_n 0, 1) := by decide +kernel
theorem dX11_through_85 : decode cX11_through 85 = .ok (.getfield 111, 3) := by decide +kernel
theorem dX11_through_88 : decode cX11_through 88 = .ok (.iconst 0, 1) := by decide +kernel
theorem dX11_through_89 : decode cX11_through 89 = .ok (.bipush 6, 2) := by decide +kernel
theorem dX11_through_91 : decode cX11_through 91 = .ok (.bipush 10, 2) := by decide +kernel
theorem dX11_through_93 : decode cX11_through 93 = .ok (.iload_n 3, 1) := by decide +kernel
theorem dX11_through_94 : decode cX11_through 94 = .ok (.iadd, 1) := by decide +kernel
theorem dX11_through_95 : decode cX11_through 95 = .ok (.imul, 1) := by decide +kernel
theorem dX11_through_96 : decode cX11_through 96 = .ok (.iload 4, 2) := by decide +kernel
theorem dX11_through_98 : decode cX11_through 98 = .ok (.iadd, 1) := by decide +kernel
theorem dX11_through_99 : decode cX11_through 99 = .ok (.iastore, 1) := by decide +kernel
theorem dX11_through_100 : decode cX11_through 100 = .ok (.aload_n 0, 1) := by decide +kernel
theorem dX11_through_101 : decode cX11_through 101 = .ok (.iconst 1, 1) := by decide +kernel
theorem dX11_through_102 : decode cX11_through 102 = .ok (.putfield 287, 3) := by decide +kernel
theorem dX11_through_105 : decode cX11_through 105 = .ok (.iconst 1, 1) := by decide +kernel
theorem dX11_through_106 : decode cX11_through 106 = .ok (.istore 5, 2) := by decide +kernel
theorem dX11_through_108 : decode cX11_through 108 = .ok (.aload_n 0, 1) := by decide +kernel
theorem dX11_through_109 : decode cX11_through 109 = .ok (.getfield 276, 3) := by decide +kernel
theorem dX11_through_112 : decode cX11_through 112 = .ok (.iconst 2, 1) := by decide +kernel
theorem dX11_through_113 : decode cX11_through 113 = .ok (.isub, 1) := by decide +kernel
theorem dX11_through_114 : decode cX11_through 114 = .ok (.istore 6, 2) := by decide +kernel
theorem dX11_through_116 : decode cX11_through 116 = .ok (.iload 6, 2) := by decide +kernel
theorem dX11_through_118 : decode cX11_through 118 = .ok (.ifCond .lt 30, 3) := by decide +kernel
theorem dX11_through_121 : decode cX11_through 121 = .ok (.iload 5, 2) := by decide +kernel
theorem dX11_through_123 : decode cX11_through 123 = .ok (.ifCond .eq 25, 3) := by decide +kernel
theorem dX11_through_126 : decode cX11_through 126 = .ok (.aload_n 0, 1) := by decide +kernel
theorem dX11_through_127 : decode cX11_through 127 = .ok (.bipush 10, 2) := by decide +kernel
theorem dX11_through_129 : decode cX11_through 129 = .ok (.aload_n 0, 1) := by decide +kernel
theorem dX11_through_130 : decode cX11_through 130 = .ok (.getfield 108, 3) := by decide +kernel
theorem dX11_through_133 : decode cX11_through 133 = .ok (.iload 6, 2) := by decide +kernel
theorem dX11_through_135 : decode cX11_through 135 = .ok (.iaload, 1) := by decide +kernel
theorem dX11_through_136 : decode cX11_through 136 = .ok (.iadd, 1) := by decide +kernel
theorem dX11_through_137 : decode cX11_through 137 = .ok (.invokevirtual 312, 3) := by decide +kernel
theorem dX11_through_140 : decode cX11_through 140 = .ok (.istore 5, 2) := by decide +kernel
theorem dX11_through_142 : decode cX11_through 142 = .ok (.iinc 6 (-1), 3) := by decide +kernel
theorem dX11_through_145 : decode cX11_through 145 = .ok (.goto (-29), 3) := by decide +kernel
theorem dX11_through_148 : decode cX11_through 148 = .ok (.iload 5, 2) := by decide +kernel
theorem dX11_through_150 : decode cX11_through 150 = .ok (.ifCond .eq 28, 3) := by decide +kernel
theorem dX11_through_153 : decode cX11_through 153 = .ok (.aload_n 0, 1) := by decide +kernel
theorem dX11_through_154 : decode cX11_through 154 = .ok (.aload_n 0, 1) := by decide +kernel
theorem dX11_through_155 : decode cX11_through 155 = .ok (.getfield 66, 3) := by decide +kernel
theorem dX11_through_158 : decode cX11_through 158 = .ok (.iload_n 1, 1) := by decide +kernel
theorem dX11_through_159 : decode cX11_through 159 = .ok (.iaload, 1) := by decide +kernel
theorem dX11_through_160 : decode cX11_through 160 = .ok (.invokevirtual 312, 3) := by decide +kernel
theorem dX11_through_163 : decode cX11_through 163 = .ok (.ifCond .eq 15, 3) := by decide +kernel
theorem dX11_through_166 : decode cX11_through 166 = .ok (.aload_n 0, 1) := by decide +kernel
theorem dX11_through_167 : decode cX11_through 167 = .ok (.aload_n 0, 1) := by decide +kernel
theorem dX11_through_168 : decode cX11_through 168 = .ok (.iload_n 1, 1) := by decide +kernel
theorem dX11_through_169 : decode cX11_through 169 = .ok (.invokevirtual 315, 3) := by decide +kernel
theorem dX11_through_172 : decode cX11_through 172 = .ok (.invokevirtual 319, 3) := by decide +kernel
theorem dX11_through_175 : decode cX11_through 175 = .ok (.goto 5, 3) := by decide +kernel
theorem dX11_through_178 : decode cX11_through 178 = .ok (.bipush (-6), 2) := by decide +kernel
theorem dX11_through_180 : decode cX11_through 180 = .ok (.ireturn, 1) := by decide +kernel
theorem dX11_value_0 : decode cX11_value 0 = .ok (.aload_n 0, 1) := by decide +kernel
theorem dX11_value_1 : decode cX11_value 1 = .ok (.iconst 0, 1) := by decide +kernel
theorem dX11_value_2 : decode cX11_value 2 = .ok (.putfield 131, 3) := by decide +kernel
theorem dX11_value_5 : decode cX11_value 5 = .ok (.aload_n 0, 1) := by decide +kernel
theorem dX11_value_6 : decode cX11_value 6 = .ok (.getfield 216, 3) := by decide +kernel
theorem dX11_value_9 : decode cX11_value 9 = .ok (.lreturn, 1) := by decide +kernel
theorem dX11_failed_0 : decode cX11_failed 0 = .ok (.aload_n 0, 1) := by decide +kernel
theorem dX11_failed_1 : decode cX11_failed 1 = .ok (.iconst 0, 1) := by decide +kernel
theorem dX11_failed_2 : decode cX11_failed 2 = .ok (.putfield 131, 3) := by decide +kernel
theorem dX11_failed_5 : decode cX11_failed 5 = .ok (.iload_n 1, 1) := by decide +kernel
theorem dX11_failed_6 : decode cX11_failed 6 = .ok (.i2l, 1) := by decide +kernel
theorem dX11_failed_7 : decode cX11_failed 7 = .ok (.lconst 0, 1) := by decide +kernel
theorem dX11_failed_8 : decode cX11_failed 8 = .ok (.lconst 1, 1) := by decide +kernel
theorem dX11_failed_9 : decode cX11_failed 9 = .ok (.invokestatic 138, 3) := by decide +kernel
theorem dX11_failed_12 : decode cX11_failed 12 = .ok (.ifCond .ne 6, 3) := by decide +kernel
theorem dX11_failed_15 : decode cX11_failed 15 = .ok (.bipush (-3), 2) := by decide +kernel
theorem dX11_failed_17 : decode cX11_failed 17 = .ok (.ireturn, 1) := by decide +kernel
theorem dX11_failed_18 : decode cX11_failed 18 = .ok (.aload_n 0, 1) := by decide +kernel
theorem dX11_failed_19 : decode cX11_failed 19 = .ok (.getfield 192, 3) := by decide +kernel
theorem dX11_failed_22 : decode cX11_failed 22 = .ok (.ifCond .ne 7, 3) := by decide +kernel
theorem dX11_failed_25 : decode cX11_failed 25 = .ok (.iconst (-1), 1) := by decide +kernel
theorem dX11_failed_26 : decode cX11_failed 26 = .ok (.goto 18, 3) := by decide +kernel
theorem dX11_failed_29 : decode cX11_failed 29 = .ok (.iload_n 1, 1) := by decide +kernel
theorem dX11_failed_30 : decode cX11_failed 30 = .ok (.ifCond .ne 10, 3) := by decide +kernel
theorem dX11_failed_33 : decode cX11_failed 33 = .ok (.aload_n 0, 1) := by decide +kernel
theorem dX11_failed_34 : decode cX11_failed 34 = .ok (.getfield 196, 3) := by decide +kernel
theorem dX11_failed_37 : decode cX11_failed 37 = .ok (.goto 7, 3) := by decide +kernel
theorem dX11_failed_40 : decode cX11_failed 40 = .ok (.aload_n 0, 1) := by decide +kernel
theorem dX11_failed_41 : decode cX11_failed 41 = .ok (.getfield 199, 3) := by decide +kernel
theorem dX11_failed_44 : decode cX11_failed 44 = .ok (.ireturn, 1) := by decide +kernel
theorem dX11_count_0 : decode cX11_count 0 = .ok (.aload_n 0, 1) := by decide +kernel
theorem dX11_count_1 : decode cX11_count 1 = .ok (.iconst 0, 1) := by decide +kernel
theorem dX11_count_2 : decode cX11_count 2 = .ok (.putfield 131, 3) := by decide +kernel
theorem dX11_count_5 : decode cX11_count 5 = .ok (.iconst 0, 1) := by decide +kernel
theorem dX11_count_6 : decode cX11_count 6 = .ok (.istore_n 2, 1) := by decide +kernel
theorem dX11_count_7 : decode cX11_count 7 = .ok (.iload_n 1, 1) := by decide +kernel
theorem dX11_count_8 : decode cX11_count 8 = .ok (.tableswitch 173 0 7 #[48, 83, 88, 93, 126, 126, 163, 168], 48) := by decide +kernel
theorem dX11_count_56 : decode cX11_count 56 = .ok (.iconst 0, 1) := by decide +kernel
theorem dX11_count_57 : decode cX11_count 57 = .ok (.istore_n 3, 1) := by decide +kernel
theorem dX11_count_58 : decode cX11_count 58 = .ok (.iload_n 3, 1) := by decide +kernel
theorem dX11_count_59 : decode cX11_count 59 = .ok (.aload_n 0, 1) := by decide +kernel
theorem dX11_count_60 : decode cX11_count 60 = .ok (.getfield 127, 3) := by decide +kernel
theorem dX11_count_63 : decode cX11_count 63 = .ok (.if_icmp .ge 26, 3) := by decide +kernel
theorem dX11_count_66 : decode cX11_count 66 = .ok (.iload_n 2, 1) := by decide +kernel
theorem dX11_count_67 : decode cX11_count 67 = .ok (.aload_n 0, 1) := by decide +kernel
theorem dX11_count_68 : decode cX11_count 68 = .ok (.getfield 25, 3) := by decide +kernel
theorem dX11_count_71 : decode cX11_count 71 = .ok (.iload_n 3, 1) := by decide +kernel
theorem dX11_count_72 : decode cX11_count 72 = .ok (.baload, 1) := by decide +kernel
theorem dX11_count_73 : decode cX11_count 73 = .ok (.ifCond .eq 7, 3) := by decide +kernel
theorem dX11_count_76 : decode cX11_count 76 = .ok (.iconst 1, 1) := by decide +kernel
theorem dX11_count_77 : decode cX11_count 77 = .ok (.goto 4, 3) := by decide +kernel
theorem dX11_count_80 : decode cX11_count 80 = .ok (.iconst 0, 1) := by decide +kernel
theorem dX11_count_81 : decode cX11_count 81 = .ok (.iadd, 1) := by decide +kernel
theorem dX11_count_82 : decode cX11_count 82 = .ok (.istore_n 2, 1) := by decide +kernel
theorem dX11_count_83 : decode cX11_count 83 = .ok (.iinc 3 1, 3) := by decide +kernel
theorem dX11_count_86 : decode cX11_count 86 = .ok (.goto (-28), 3) := by decide +kernel
theorem dX11_count_89 : decode cX11_count 89 = .ok (.iload_n 2, 1) := by decide +kernel
theorem dX11_count_90 : decode cX11_count 90 = .ok (.ireturn, 1) := by decide +kernel
theorem dX11_count_91 : decode cX11_count 91 = .ok (.aload_n 0, 1) := by decide +kernel
theorem dX11_count_92 : decode cX11_count 92 = .ok (.getfield 282, 3) := by decide +kernel
theorem dX11_count_95 : decode cX11_count 95 = .ok (.ireturn, 1) := by decide +kernel
theorem dX11_count_96 : decode cX11_count 96 = .ok (.aload_n 0, 1) := by decide +kernel
theorem dX11_count_97 : decode cX11_count 97 = .ok (.getfield 239, 3) := by decide +kernel
theorem dX11_count_100 : decode cX11_count 100 = .ok (.ireturn, 1) := by decide +kernel
theorem dX11_count_101 : decode cX11_count 101 = .ok (.iconst 0, 1) := by decide +kernel
theorem dX11_count_102 : decode cX11_count 102 = .ok (.istore_n 3, 1) := by decide +kernel
theorem dX11_count_103 : decode cX11_count 103 = .ok (.iload_n 3, 1) := by decide +kernel
theorem dX11_count_104 : decode cX11_count 104 = .ok (.bipush 7, 2) := by decide +kernel
theorem dX11_count_106 : decode cX11_count 106 = .ok (.if_icmp .ge 26, 3) := by decide +kernel
theorem dX11_count_109 : decode cX11_count 109 = .ok (.iload_n 2, 1) := by decide +kernel
theorem dX11_count_110 : decode cX11_count 110 = .ok (.aload_n 0, 1) := by decide +kernel
theorem dX11_count_111 : decode cX11_count 111 = .ok (.getfield 59, 3) := by decide +kernel
theorem dX11_count_114 : decode cX11_count 114 = .ok (.iload_n 3, 1) := by decide +kernel
theorem dX11_count_115 : decode cX11_count 115 = .ok (.baload, 1) := by decide +kernel
theorem dX11_count_116 : decode cX11_count 116 = .ok (.ifCond .eq 7, 3) := by decide +kernel
theorem dX11_count_119 : decode cX11_count 119 = .ok (.iconst 1, 1) := by decide +kernel
theorem dX11_count_120 : decode cX11_count 120 = .ok (.goto 4, 3) := by decide +kernel
theorem dX11_count_123 : decode cX11_count 123 = .ok (.iconst 0, 1) := by decide +kernel
theorem dX11_count_124 : decode cX11_count 124 = .ok (.iadd, 1) := by decide +kernel
theorem dX11_count_125 : decode cX11_count 125 = .ok (.istore_n 2, 1) := by decide +kernel
theorem dX11_count_126 : decode cX11_count 126 = .ok (.iinc 3 1, 3) := by decide +kernel
theorem dX11_count_129 : decode cX11_count 129 = .ok (.goto (-26), 3) := by decide +kernel
theorem dX11_count_132 : decode cX11_count 132 = .ok (.iload_n 2, 1) := by decide +kernel
theorem dX11_count_133 : decode cX11_count 133 = .ok (.ireturn, 1) := by decide +kernel
theorem dX11_count_134 : decode cX11_count 134 = .ok (.iconst 0, 1) := by decide +kernel
theorem dX11_count_135 : decode cX11_count 135 = .ok (.istore_n 3, 1) := by decide +kernel
theorem dX11_count_136 : decode cX11_count 136 = .ok (.iload_n 3, 1) := by decide +kernel
theorem dX11_count_137 : decode cX11_count 137 = .ok (.bipush 10, 2) := by decide +kernel
theorem dX11_count_139 : decode cX11_count 139 = .ok (.if_icmp .ge 30, 3) := by decide +kernel
theorem dX11_count_142 : decode cX11_count 142 = .ok (.iload_n 2, 1) := by decide +kernel
theorem dX11_count_143 : decode cX11_count 143 = .ok (.aload_n 0, 1) := by decide +kernel
theorem dX11_count_144 : decode cX11_count 144 = .ok (.getfield 29, 3) := by decide +kernel
theorem dX11_count_147 : decode cX11_count 147 = .ok (.iload_n 1, 1) := by decide +kernel
theorem dX11_count_148 : decode cX11_count 148 = .ok (.iconst 4, 1) := by decide +kernel
theorem dX11_count_149 : decode cX11_count 149 = .ok (.if_icmp .ne 10, 3) := by decide +kernel
theorem dX11_count_152 : decode cX11_count 152 = .ok (.bipush 10, 2) := by decide +kernel
theorem dX11_count_154 : decode cX11_count 154 = .ok (.iload_n 3, 1) := by decide +kernel
theorem dX11_count_155 : decode cX11_count 155 = .ok (.iadd, 1) := by decide +kernel
theorem dX11_count_156 : decode cX11_count 156 = .ok (.goto 4, 3) := by decide +kernel
theorem dX11_count_159 : decode cX11_count 159 = .ok (.iload_n 3, 1) := by decide +kernel
theorem dX11_count_160 : decode cX11_count 160 = .ok (.iaload, 1) := by decide +kernel
theorem dX11_count_161 : decode cX11_count 161 = .ok (.iadd, 1) := by decide +kernel
theorem dX11_count_162 : decode cX11_count 162 = .ok (.istore_n 2, 1) := by decide +kernel
theorem dX11_count_163 : decode cX11_count 163 = .ok (.iinc 3 1, 3) := by decide +kernel
theorem dX11_count_166 : decode cX11_count 166 = .ok (.goto (-30), 3) := by decide +kernel
theorem dX11_count_169 : decode cX11_count 169 = .ok (.iload_n 2, 1) := by decide +kernel
theorem dX11_count_170 : decode cX11_count 170 = .ok (.ireturn, 1) := by decide +kernel
theorem dX11_count_171 : decode cX11_count 171 = .ok (.aload_n 0, 1) := by decide +kernel
theorem dX11_count_172 : decode cX11_count 172 = .ok (.getfield 306, 3) := by decide +kernel
theorem dX11_count_175 : decode cX11_count 175 = .ok (.ireturn, 1) := by decide +kernel
theorem dX11_count_176 : decode cX11_count 176 = .ok (.aload_n 0, 1) := by decide +kernel
theorem dX11_count_177 : decode cX11_count 177 = .ok (.getfield 309, 3) := by decide +kernel
theorem dX11_count_180 : decode cX11_count 180 = .ok (.ireturn, 1) := by decide +kernel
theorem dX11_count_181 : decode cX11_count 181 = .ok (.bipush (-3), 2) := by decide +kernel
theorem dX11_count_183 : decode cX11_count 183 = .ok (.ireturn, 1) := by decide +kernel
theorem dJ6_bitCount_0f7a4_0 : decode cJ6_bitCount_0f7a4 0 = .ok (.iload_n 0, 1) := by decide +kernel
theorem dJ6_bitCount_0f7a4_1 : decode cJ6_bitCount_0f7a4 1 = .ok (.iload_n 0, 1) := by decide +kernel
theorem dJ6_bitCount_0f7a4_2 : decode cJ6_bitCount_0f7a4 2 = .ok (.iconst 1, 1) := by decide +kernel
theorem dJ6_bitCount_0f7a4_3 : decode cJ6_bitCount_0f7a4 3 = .ok (.iushr, 1) := by decide +kernel
theorem dJ6_bitCount_0f7a4_4 : decode cJ6_bitCount_0f7a4 4 = .ok (.ldc_w 265, 3) := by decide +kernel
theorem dJ6_bitCount_0f7a4_7 : decode cJ6_bitCount_0f7a4 7 = .ok (.iand, 1) := by decide +kernel
theorem dJ6_bitCount_0f7a4_8 : decode cJ6_bitCount_0f7a4 8 = .ok (.isub, 1) := by decide +kernel
theorem dJ6_bitCount_0f7a4_9 : decode cJ6_bitCount_0f7a4 9 = .ok (.istore_n 0, 1) := by decide +kernel
theorem dJ6_bitCount_0f7a4_10 : decode cJ6_bitCount_0f7a4 10 = .ok (.iload_n 0, 1) := by decide +kernel
theorem dJ6_bitCount_0f7a4_11 : decode cJ6_bitCount_0f7a4 11 = .ok (.ldc_w 266, 3) := by decide +kernel
theorem dJ6_bitCount_0f7a4_14 : decode cJ6_bitCount_0f7a4 14 = .ok (.iand, 1) := by decide +kernel
theorem dJ6_bitCount_0f7a4_15 : decode cJ6_bitCount_0f7a4 15 = .ok (.iload_n 0, 1) := by decide +kernel
theorem dJ6_bitCount_0f7a4_16 : decode cJ6_bitCount_0f7a4 16 = .ok (.iconst 2, 1) := by decide +kernel
theorem dJ6_bitCount_0f7a4_17 : decode cJ6_bitCount_0f7a4 17 = .ok (.iushr, 1) := by decide +kernel
theorem dJ6_bitCount_0f7a4_18 : decode cJ6_bitCount_0f7a4 18 = .ok (.ldc_w 266, 3) := by decide +kernel
theorem dJ6_bitCount_0f7a4_21 : decode cJ6_bitCount_0f7a4 21 = .ok (.iand, 1) := by decide +kernel
theorem dJ6_bitCount_0f7a4_22 : decode cJ6_bitCount_0f7a4 22 = .ok (.iadd, 1) := by decide +kernel
theorem dJ6_bitCount_0f7a4_23 : decode cJ6_bitCount_0f7a4 23 = .ok (.istore_n 0, 1) := by decide +kernel
theorem dJ6_bitCount_0f7a4_24 : decode cJ6_bitCount_0f7a4 24 = .ok (.iload_n 0, 1) := by decide +kernel
theorem dJ6_bitCount_0f7a4_25 : decode cJ6_bitCount_0f7a4 25 = .ok (.iload_n 0, 1) := by decide +kernel
theorem dJ6_bitCount_0f7a4_26 : decode cJ6_bitCount_0f7a4 26 = .ok (.iconst 4, 1) := by decide +kernel
theorem dJ6_bitCount_0f7a4_27 : decode cJ6_bitCount_0f7a4 27 = .ok (.iushr, 1) := by decide +kernel
theorem dJ6_bitCount_0f7a4_28 : decode cJ6_bitCount_0f7a4 28 = .ok (.iadd, 1) := by decide +kernel
theorem dJ6_bitCount_0f7a4_29 : decode cJ6_bitCount_0f7a4 29 = .ok (.ldc_w 267, 3) := by decide +kernel
theorem dJ6_bitCount_0f7a4_32 : decode cJ6_bitCount_0f7a4 32 = .ok (.iand, 1) := by decide +kernel
theorem dJ6_bitCount_0f7a4_33 : decode cJ6_bitCount_0f7a4 33 = .ok (.istore_n 0, 1) := by decide +kernel
theorem dJ6_bitCount_0f7a4_34 : decode cJ6_bitCount_0f7a4 34 = .ok (.iload_n 0, 1) := by decide +kernel
theorem dJ6_bitCount_0f7a4_35 : decode cJ6_bitCount_0f7a4 35 = .ok (.iload_n 0, 1) := by decide +kernel
theorem dJ6_bitCount_0f7a4_36 : decode cJ6_bitCount_0f7a4 36 = .ok (.bipush 8, 2) := by decide +kernel
theorem dJ6_bitCount_0f7a4_38 : decode cJ6_bitCount_0f7a4 38 = .ok (.iushr, 1) := by decide +kernel
theorem dJ6_bitCount_0f7a4_39 : decode cJ6_bitCount_0f7a4 39 = .ok (.iadd, 1) := by decide +kernel
theorem dJ6_bitCount_0f7a4_40 : decode cJ6_bitCount_0f7a4 40 = .ok (.istore_n 0, 1) := by decide +kernel
theorem dJ6_bitCount_0f7a4_41 : decode cJ6_bitCount_0f7a4 41 = .ok (.iload_n 0, 1) := by decide +kernel
theorem dJ6_bitCount_0f7a4_42 : decode cJ6_bitCount_0f7a4 42 = .ok (.iload_n 0, 1) := by decide +kernel
theorem dJ6_bitCount_0f7a4_43 : decode cJ6_bitCount_0f7a4 43 = .ok (.bipush 16, 2) := by decide +kernel
theorem dJ6_bitCount_0f7a4_45 : decode cJ6_bitCount_0f7a4 45 = .ok (.iushr, 1) := by decide +kernel
theorem dJ6_bitCount_0f7a4_46 : decode cJ6_bitCount_0f7a4 46 = .ok (.iadd, 1) := by decide +kernel
theorem dJ6_bitCount_0f7a4_47 : decode cJ6_bitCount_0f7a4 47 = .ok (.istore_n 0, 1) := by decide +kernel
theorem dJ6_bitCount_0f7a4_48 : decode cJ6_bitCount_0f7a4 48 = .ok (.iload_n 0, 1) := by decide +kernel
theorem dJ6_bitCount_0f7a4_49 : decode cJ6_bitCount_0f7a4 49 = .ok (.bipush 63, 2) := by decide +kernel
theorem dJ6_bitCount_0f7a4_51 : decode cJ6_bitCount_0f7a4 51 = .ok (.iand, 1) := by decide +kernel
theorem dJ6_bitCount_0f7a4_52 : decode cJ6_bitCount_0f7a4 52 = .ok (.ireturn, 1) := by decide +kernel
theorem dJ13_compare_74951_0 : decode cJ13_compare_74951 0 = .ok (.lload_n 0, 1) := by decide +kernel
theorem dJ13_compare_74951_1 : decode cJ13_compare_74951 1 = .ok (.lload_n 2, 1) := by decide +kernel
theorem dJ13_compare_74951_2 : decode cJ13_compare_74951 2 = .ok (.lcmp, 1) := by decide +kernel
theorem dJ13_compare_74951_3 : decode cJ13_compare_74951 3 = .ok (.ifCond .ge 7, 3) := by decide +kernel
theorem dJ13_compare_74951_6 : decode cJ13_compare_74951 6 = .ok (.iconst (-1), 1) := by decide +kernel
theorem dJ13_compare_74951_7 : decode cJ13_compare_74951 7 = .ok (.goto 14, 3) := by decide +kernel
theorem dJ13_compare_74951_10 : decode cJ13_compare_74951 10 = .ok (.lload_n 0, 1) := by decide +kernel
theorem dJ13_compare_74951_11 : decode cJ13_compare_74951 11 = .ok (.lload_n 2, 1) := by decide +kernel
theorem dJ13_compare_74951_12 : decode cJ13_compare_74951 12 = .ok (.lcmp, 1) := by decide +kernel
theorem dJ13_compare_74951_13 : decode cJ13_compare_74951 13 = .ok (.ifCond .ne 7, 3) := by decide +kernel
theorem dJ13_compare_74951_16 : decode cJ13_compare_74951 16 = .ok (.iconst 0, 1) := by decide +kernel
theorem dJ13_compare_74951_17 : decode cJ13_compare_74951 17 = .ok (.goto 4, 3) := by decide +kernel
theorem dJ13_compare_74951_20 : decode cJ13_compare_74951 20 = .ok (.iconst 1, 1) := by decide +kernel
theorem dJ13_compare_74951_21 : decode cJ13_compare_74951 21 = .ok (.ireturn, 1) := by decide +kernel
theorem dJ13_compareUnsigned_74951_0 : decode cJ13_compareUnsigned_74951 0 = .ok (.lload_n 0, 1) := by decide +kernel
theorem dJ13_compareUnsigned_74951_1 : decode cJ13_compareUnsigned_74951 1 = .ok (.ldc2_w 168, 3) := by decide +kernel
theorem dJ13_compareUnsigned_74951_4 : decode cJ13_compareUnsigned_74951 4 = .ok (.ladd, 1) := by decide +kernel
theorem dJ13_compareUnsigned_74951_5 : decode cJ13_compareUnsigned_74951 5 = .ok (.lload_n 2, 1) := by decide +kernel
theorem dJ13_compareUnsigned_74951_6 : decode cJ13_compareUnsigned_74951 6 = .ok (.ldc2_w 168, 3) := by decide +kernel
theorem dJ13_compareUnsigned_74951_9 : decode cJ13_compareUnsigned_74951 9 = .ok (.ladd, 1) := by decide +kernel
theorem dJ13_compareUnsigned_74951_10 : decode cJ13_compareUnsigned_74951 10 = .ok (.invokestatic 302, 3) := by decide +kernel
theorem dJ13_compareUnsigned_74951_13 : decode cJ13_compareUnsigned_74951 13 = .ok (.ireturn, 1) := by decide +kernel
theorem dJ9_multiplyHigh_f86c9_0 : decode cJ9_multiplyHigh_f86c9 0 = .ok (.lload_n 0, 1) := by decide +kernel
theorem dJ9_multiplyHigh_f86c9_1 : decode cJ9_multiplyHigh_f86c9 1 = .ok (.bipush 32, 2) := by decide +kernel
theorem dJ9_multiplyHigh_f86c9_3 : decode cJ9_multiplyHigh_f86c9 3 = .ok (.lshr, 1) := by decide +kernel
theorem dJ9_multiplyHigh_f86c9_4 : decode cJ9_multiplyHigh_f86c9 4 = .ok (.lstore 4, 2) := by decide +kernel
theorem dJ9_multiplyHigh_f86c9_6 : decode cJ9_multiplyHigh_f86c9 6 = .ok (.lload_n 0, 1) := by decide +kernel
theorem dJ9_multiplyHigh_f86c9_7 : decode cJ9_multiplyHigh_f86c9 7 = .ok (.ldc2_w 138, 3) := by decide +kernel
theorem dJ9_multiplyHigh_f86c9_10 : decode cJ9_multiplyHigh_f86c9 10 = .ok (.land, 1) := by decide +kernel
theorem dJ9_multiplyHigh_f86c9_11 : decode cJ9_multiplyHigh_f86c9 11 = .ok (.lstore 6, 2) := by decide +kernel
theorem dJ9_multiplyHigh_f86c9_13 : decode cJ9_multiplyHigh_f86c9 13 = .ok (.lload_n 2, 1) := by decide +kernel
theorem dJ9_multiplyHigh_f86c9_14 : decode cJ9_multiplyHigh_f86c9 14 = .ok (.bipush 32, 2) := by decide +kernel
theorem dJ9_multiplyHigh_f86c9_16 : decode cJ9_multiplyHigh_f86c9 16 = .ok (.lshr, 1) := by decide +kernel
theorem dJ9_multiplyHigh_f86c9_17 : decode cJ9_multiplyHigh_f86c9 17 = .ok (.lstore 8, 2) := by decide +kernel
theorem dJ9_multiplyHigh_f86c9_19 : decode cJ9_multiplyHigh_f86c9 19 = .ok (.lload_n 2, 1) := by decide +kernel
theorem dJ9_multiplyHigh_f86c9_20 : decode cJ9_multiplyHigh_f86c9 20 = .ok (.ldc2_w 138, 3) := by decide +kernel
theorem dJ9_multiplyHigh_f86c9_23 : decode cJ9_multiplyHigh_f86c9 23 = .ok (.land, 1) := by decide +kernel
theorem dJ9_multiplyHigh_f86c9_24 : decode cJ9_multiplyHigh_f86c9 24 = .ok (.lstore 10, 2) := by decide +kernel
theorem dJ9_multiplyHigh_f86c9_26 : decode cJ9_multiplyHigh_f86c9 26 = .ok (.lload 6, 2) := by decide +kernel
theorem dJ9_multiplyHigh_f86c9_28 : decode cJ9_multiplyHigh_f86c9 28 = .ok (.lload 10, 2) := by decide +kernel
theorem dJ9_multiplyHigh_f86c9_30 : decode cJ9_multiplyHigh_f86c9 30 = .ok (.lmul, 1) := by decide +kernel
theorem dJ9_multiplyHigh_f86c9_31 : decode cJ9_multiplyHigh_f86c9 31 = .ok (.lstore 12, 2) := by decide +kernel
theorem dJ9_multiplyHigh_f86c9_33 : decode cJ9_multiplyHigh_f86c9 33 = .ok (.lload 4, 2) := by decide +kernel
theorem dJ9_multiplyHigh_f86c9_35 : decode cJ9_multiplyHigh_f86c9 35 = .ok (.lload 10, 2) := by decide +kernel
theorem dJ9_multiplyHigh_f86c9_37 : decode cJ9_multiplyHigh_f86c9 37 = .ok (.lmul, 1) := by decide +kernel
theorem dJ9_multiplyHigh_f86c9_38 : decode cJ9_multiplyHigh_f86c9 38 = .ok (.lload 12, 2) := by decide +kernel
theorem dJ9_multiplyHigh_f86c9_40 : decode cJ9_multiplyHigh_f86c9 40 = .ok (.bipush 32, 2) := by decide +kernel
end
section
theorem dJ9_multiplyHigh_f86c9_42 : decode cJ9_multiplyHigh_f86c9 42 = .ok (.lushr, 1) := by decide +kernel
theorem dJ9_multiplyHigh_f86c9_43 : decode cJ9_multiplyHigh_f86c9 43 = .ok (.ladd, 1) := by decide +kernel
theorem dJ9_multiplyHigh_f86c9_44 : decode cJ9_multiplyHigh_f86c9 44 = .ok (.lstore 14, 2) := by decide +kernel
theorem dJ9_multiplyHigh_f86c9_46 : decode cJ9_multiplyHigh_f86c9 46 = .ok (.lload 14, 2) := by decide +kernel
theorem dJ9_multiplyHigh_f86c9_48 : decode cJ9_multiplyHigh_f86c9 48 = .ok (.ldc2_w 138, 3) := by decide +kernel
theorem dJ9_multiplyHigh_f86c9_51 : decode cJ9_multiplyHigh_f86c9 51 = .ok (.land, 1) := by decide +kernel
theorem dJ9_multiplyHigh_f86c9_52 : decode cJ9_multiplyHigh_f86c9 52 = .ok (.lstore 16, 2) := by decide +kernel
theorem dJ9_multiplyHigh_f86c9_54 : decode cJ9_multiplyHigh_f86c9 54 = .ok (.lload 14, 2) := by decide +kernel
theorem dJ9_multiplyHigh_f86c9_56 : decode cJ9_multiplyHigh_f86c9 56 = .ok (.bipush 32, 2) := by decide +kernel
theorem dJ9_multiplyHigh_f86c9_58 : decode cJ9_multiplyHigh_f86c9 58 = .ok (.lshr, 1) := by decide +kernel
theorem dJ9_multiplyHigh_f86c9_59 : decode cJ9_multiplyHigh_f86c9 59 = .ok (.lstore 18, 2) := by decide +kernel
theorem dJ9_multiplyHigh_f86c9_61 : decode cJ9_multiplyHigh_f86c9 61 = .ok (.lload 16, 2) := by decide +kernel
theorem dJ9_multiplyHigh_f86c9_63 : decode cJ9_multiplyHigh_f86c9 63 = .ok (.lload 6, 2) := by decide +kernel
theorem dJ9_multiplyHigh_f86c9_65 : decode cJ9_multiplyHigh_f86c9 65 = .ok (.lload 8, 2) := by decide +kernel
theorem dJ9_multiplyHigh_f86c9_67 : decode cJ9_multiplyHigh_f86c9 67 = .ok (.lmul, 1) := by decide +kernel
theorem dJ9_multiplyHigh_f86c9_68 : decode cJ9_multiplyHigh_f86c9 68 = .ok (.ladd, 1) := by decide +kernel
theorem dJ9_multiplyHigh_f86c9_69 : decode cJ9_multiplyHigh_f86c9 69 = .ok (.lstore 16, 2) := by decide +kernel
theorem dJ9_multiplyHigh_f86c9_71 : decode cJ9_multiplyHigh_f86c9 71 = .ok (.lload 4, 2) := by decide +kernel
theorem dJ9_multiplyHigh_f86c9_73 : decode cJ9_multiplyHigh_f86c9 73 = .ok (.lload 8, 2) := by decide +kernel
theorem dJ9_multiplyHigh_f86c9_75 : decode cJ9_multiplyHigh_f86c9 75 = .ok (.lmul, 1) := by decide +kernel
theorem dJ9_multiplyHigh_f86c9_76 : decode cJ9_multiplyHigh_f86c9 76 = .ok (.lload 18, 2) := by decide +kernel
theorem dJ9_multiplyHigh_f86c9_78 : decode cJ9_multiplyHigh_f86c9 78 = .ok (.ladd, 1) := by decide +kernel
theorem dJ9_multiplyHigh_f86c9_79 : decode cJ9_multiplyHigh_f86c9 79 = .ok (.lload 16, 2) := by decide +kernel
theorem dJ9_multiplyHigh_f86c9_81 : decode cJ9_multiplyHigh_f86c9 81 = .ok (.bipush 32, 2) := by decide +kernel
theorem dJ9_multiplyHigh_f86c9_83 : decode cJ9_multiplyHigh_f86c9 83 = .ok (.lshr, 1) := by decide +kernel
theorem dJ9_multiplyHigh_f86c9_84 : decode cJ9_multiplyHigh_f86c9 84 = .ok (.ladd, 1) := by decide +kernel
theorem dJ9_multiplyHigh_f86c9_85 : decode cJ9_multiplyHigh_f86c9 85 = .ok (.lreturn, 1) := by decide +kernel
theorem dJ9_min_7cf53_0 : decode cJ9_min_7cf53 0 = .ok (.iload_n 0, 1) := by decide +kernel
theorem dJ9_min_7cf53_1 : decode cJ9_min_7cf53 1 = .ok (.iload_n 1, 1) := by decide +kernel
theorem dJ9_min_7cf53_2 : decode cJ9_min_7cf53 2 = .ok (.if_icmp .gt 7, 3) := by decide +kernel
theorem dJ9_min_7cf53_5 : decode cJ9_min_7cf53 5 = .ok (.iload_n 0, 1) := by decide +kernel
theorem dJ9_min_7cf53_6 : decode cJ9_min_7cf53 6 = .ok (.goto 4, 3) := by decide +kernel
theorem dJ9_min_7cf53_9 : decode cJ9_min_7cf53 9 = .ok (.iload_n 1, 1) := by decide +kernel
theorem dJ9_min_7cf53_10 : decode cJ9_min_7cf53 10 = .ok (.ireturn, 1) := by decide +kernel
theorem dJ7_fill_53178_0 : decode cJ7_fill_53178 0 = .ok (.iconst 0, 1) := by decide +kernel
theorem dJ7_fill_53178_1 : decode cJ7_fill_53178 1 = .ok (.istore_n 2, 1) := by decide +kernel
theorem dJ7_fill_53178_2 : decode cJ7_fill_53178 2 = .ok (.aload_n 0, 1) := by decide +kernel
theorem dJ7_fill_53178_3 : decode cJ7_fill_53178 3 = .ok (.arraylength, 1) := by decide +kernel
theorem dJ7_fill_53178_4 : decode cJ7_fill_53178 4 = .ok (.istore_n 3, 1) := by decide +kernel
theorem dJ7_fill_53178_5 : decode cJ7_fill_53178 5 = .ok (.iload_n 2, 1) := by decide +kernel
theorem dJ7_fill_53178_6 : decode cJ7_fill_53178 6 = .ok (.iload_n 3, 1) := by decide +kernel
theorem dJ7_fill_53178_7 : decode cJ7_fill_53178 7 = .ok (.if_icmp .ge 13, 3) := by decide +kernel
theorem dJ7_fill_53178_10 : decode cJ7_fill_53178 10 = .ok (.aload_n 0, 1) := by decide +kernel
theorem dJ7_fill_53178_11 : decode cJ7_fill_53178 11 = .ok (.iload_n 2, 1) := by decide +kernel
theorem dJ7_fill_53178_12 : decode cJ7_fill_53178 12 = .ok (.iload_n 1, 1) := by decide +kernel
theorem dJ7_fill_53178_13 : decode cJ7_fill_53178 13 = .ok (.iastore, 1) := by decide +kernel
theorem dJ7_fill_53178_14 : decode cJ7_fill_53178 14 = .ok (.iinc 2 1, 3) := by decide +kernel
theorem dJ7_fill_53178_17 : decode cJ7_fill_53178 17 = .ok (.goto (-12), 3) := by decide +kernel
theorem dJ7_fill_53178_20 : decode cJ7_fill_53178 20 = .ok (.return_, 1) := by decide +kernel
theorem dL_law_0 : decode cL_law 0 = .ok (.new 7, 3) := by decide +kernel
theorem dL_law_3 : decode cL_law 3 = .ok (.dup, 1) := by decide +kernel
theorem dL_law_4 : decode cL_law 4 = .ok (.invokespecial 9, 3) := by decide +kernel
theorem dL_law_7 : decode cL_law 7 = .ok (.astore_n 1, 1) := by decide +kernel
theorem dL_law_8 : decode cL_law 8 = .ok (.new 10, 3) := by decide +kernel
theorem dL_law_11 : decode cL_law 11 = .ok (.dup, 1) := by decide +kernel
theorem dL_law_12 : decode cL_law 12 = .ok (.invokespecial 12, 3) := by decide +kernel
theorem dL_law_15 : decode cL_law 15 = .ok (.astore_n 2, 1) := by decide +kernel
theorem dL_law_16 : decode cL_law 16 = .ok (.iconst 0, 1) := by decide +kernel
theorem dL_law_17 : decode cL_law 17 = .ok (.istore_n 3, 1) := by decide +kernel
theorem dL_law_18 : decode cL_law 18 = .ok (.iload_n 3, 1) := by decide +kernel
theorem dL_law_19 : decode cL_law 19 = .ok (.aload_n 0, 1) := by decide +kernel
theorem dL_law_20 : decode cL_law 20 = .ok (.arraylength, 1) := by decide +kernel
theorem dL_law_21 : decode cL_law 21 = .ok (.bipush 6, 2) := by decide +kernel
theorem dL_law_23 : decode cL_law 23 = .ok (.isub, 1) := by decide +kernel
theorem dL_law_24 : decode cL_law 24 = .ok (.if_icmp .gt 1226, 3) := by decide +kernel
theorem dL_law_27 : decode cL_law 27 = .ok (.aload_n 0, 1) := by decide +kernel
theorem dL_law_28 : decode cL_law 28 = .ok (.iload_n 3, 1) := by decide +kernel
theorem dL_law_29 : decode cL_law 29 = .ok (.iaload, 1) := by decide +kernel
theorem dL_law_30 : decode cL_law 30 = .ok (.bipush 31, 2) := by decide +kernel
theorem dL_law_32 : decode cL_law 32 = .ok (.iand, 1) := by decide +kernel
theorem dL_law_33 : decode cL_law 33 = .ok (.tableswitch 1211 0 23 #[111, 164, 187, 230, 303, 346, 389, 452, 505, 554, 613, 702, 755, 788, 821, 864, 887, 960, 993, 1056, 1099, 1152, 1165, 1188], 111) := by decide +kernel
theorem dL_law_144 : decode cL_law 144 = .ok (.aload_n 1, 1) := by decide +kernel
theorem dL_law_145 : decode cL_law 145 = .ok (.aload_n 0, 1) := by decide +kernel
theorem dL_law_146 : decode cL_law 146 = .ok (.iload_n 3, 1) := by decide +kernel
theorem dL_law_147 : decode cL_law 147 = .ok (.iconst 1, 1) := by decide +kernel
theorem dL_law_148 : decode cL_law 148 = .ok (.iadd, 1) := by decide +kernel
theorem dL_law_149 : decode cL_law 149 = .ok (.iaload, 1) := by decide +kernel
theorem dL_law_150 : decode cL_law 150 = .ok (.aload_n 0, 1) := by decide +kernel
theorem dL_law_151 : decode cL_law 151 = .ok (.iload_n 3, 1) := by decide +kernel
theorem dL_law_152 : decode cL_law 152 = .ok (.iconst 2, 1) := by decide +kernel
theorem dL_law_153 : decode cL_law 153 = .ok (.iadd, 1) := by decide +kernel
theorem dL_law_154 : decode cL_law 154 = .ok (.iaload, 1) := by decide +kernel
theorem dL_law_155 : decode cL_law 155 = .ok (.aload_n 0, 1) := by decide +kernel
theorem dL_law_156 : decode cL_law 156 = .ok (.iload_n 3, 1) := by decide +kernel
theorem dL_law_157 : decode cL_law 157 = .ok (.iconst 3, 1) := by decide +kernel
theorem dL_law_158 : decode cL_law 158 = .ok (.iadd, 1) := by decide +kernel
theorem dL_law_159 : decode cL_law 159 = .ok (.iaload, 1) := by decide +kernel
theorem dL_law_160 : decode cL_law 160 = .ok (.aload_n 0, 1) := by decide +kernel
theorem dL_law_161 : decode cL_law 161 = .ok (.iload_n 3, 1) := by decide +kernel
theorem dL_law_162 : decode cL_law 162 = .ok (.iconst 4, 1) := by decide +kernel
theorem dL_law_163 : decode cL_law 163 = .ok (.iadd, 1) := by decide +kernel
theorem dL_law_164 : decode cL_law 164 = .ok (.iaload, 1) := by decide +kernel
theorem dL_law_165 : decode cL_law 165 = .ok (.invokevirtual 13, 3) := by decide +kernel
theorem dL_law_168 : decode cL_law 168 = .ok (.pop, 1) := by decide +kernel
theorem dL_law_169 : decode cL_law 169 = .ok (.aload_n 2, 1) := by decide +kernel
theorem dL_law_170 : decode cL_law 170 = .ok (.aload_n 0, 1) := by decide +kernel
theorem dL_law_171 : decode cL_law 171 = .ok (.iload_n 3, 1) := by decide +kernel
theorem dL_law_172 : decode cL_law 172 = .ok (.iconst 1, 1) := by decide +kernel
theorem dL_law_173 : decode cL_law 173 = .ok (.iadd, 1) := by decide +kernel
theorem dL_law_174 : decode cL_law 174 = .ok (.iaload, 1) := by decide +kernel
theorem dL_law_175 : decode cL_law 175 = .ok (.aload_n 0, 1) := by decide +kernel
theorem dL_law_176 : decode cL_law 176 = .ok (.iload_n 3, 1) := by decide +kernel
theorem dL_law_177 : decode cL_law 177 = .ok (.iconst 2, 1) := by decide +kernel
theorem dL_law_178 : decode cL_law 178 = .ok (.iadd, 1) := by decide +kernel
theorem dL_law_179 : decode cL_law 179 = .ok (.iaload, 1) := by decide +kernel
theorem dL_law_180 : decode cL_law 180 = .ok (.aload_n 0, 1) := by decide +kernel
theorem dL_law_181 : decode cL_law 181 = .ok (.iload_n 3, 1) := by decide +kernel
theorem dL_law_182 : decode cL_law 182 = .ok (.iconst 3, 1) := by decide +kernel
theorem dL_law_183 : decode cL_law 183 = .ok (.iadd, 1) := by decide +kernel
theorem dL_law_184 : decode cL_law 184 = .ok (.iaload, 1) := by decide +kernel
theorem dL_law_185 : decode cL_law 185 = .ok (.aload_n 0, 1) := by decide +kernel
theorem dL_law_186 : decode cL_law 186 = .ok (.iload_n 3, 1) := by decide +kernel
theorem dL_law_187 : decode cL_law 187 = .ok (.iconst 4, 1) := by decide +kernel
theorem dL_law_188 : decode cL_law 188 = .ok (.iadd, 1) := by decide +kernel
theorem dL_law_189 : decode cL_law 189 = .ok (.iaload, 1) := by decide +kernel
theorem dL_law_190 : decode cL_law 190 = .ok (.invokevirtual 17, 3) := by decide +kernel
theorem dL_law_193 : decode cL_law 193 = .ok (.pop, 1) := by decide +kernel
theorem dL_law_194 : decode cL_law 194 = .ok (.goto 1050, 3) := by decide +kernel
theorem dL_law_197 : decode cL_law 197 = .ok (.aload_n 1, 1) := by decide +kernel
theorem dL_law_198 : decode cL_law 198 = .ok (.aload_n 0, 1) := by decide +kernel
theorem dL_law_199 : decode cL_law 199 = .ok (.iload_n 3, 1) := by decide +kernel
theorem dL_law_200 : decode cL_law 200 = .ok (.iconst 1, 1) := by decide +kernel
theorem dL_law_201 : decode cL_law 201 = .ok (.iadd, 1) := by decide +kernel
theorem dL_law_202 : decode cL_law 202 = .ok (.iaload, 1) := by decide +kernel
theorem dL_law_203 : decode cL_law 203 = .ok (.invokevirtual 18, 3) := by decide +kernel
theorem dL_law_206 : decode cL_law 206 = .ok (.pop, 1) := by decide +kernel
theorem dL_law_207 : decode cL_law 207 = .ok (.aload_n 2, 1) := by decide +kernel
theorem dL_law_208 : decode cL_law 208 = .ok (.aload_n 0, 1) := by decide +kernel
theorem dL_law_209 : decode cL_law 209 = .ok (.iload_n 3, 1) := by decide +kernel
theorem dL_law_210 : decode cL_law 210 = .ok (.iconst 1, 1) := by decide +kernel
theorem dL_law_211 : decode cL_law 211 = .ok (.iadd, 1) := by decide +kernel
theorem dL_law_212 : decode cL_law 212 = .ok (.iaload, 1) := by decide +kernel
theorem dL_law_213 : decode cL_law 213 = .ok (.invokevirtual 22, 3) := by decide +kernel
theorem dL_law_216 : decode cL_law 216 = .ok (.pop, 1) := by decide +kernel
theorem dL_law_217 : decode cL_law 217 = .ok (.goto 1027, 3) := by decide +kernel
theorem dL_law_220 : decode cL_law 220 = .ok (.aload_n 1, 1) := by decide +kernel
theorem dL_law_221 : decode cL_law 221 = .ok (.aload_n 0, 1) := by decide +kernel
theorem dL_law_222 : decode cL_law 222 = .ok (.iload_n 3, 1) := by decide +kernel
theorem dL_law_223 : decode cL_law 223 = .ok (.iconst 1, 1) := by decide +kernel
theorem dL_law_224 : decode cL_law 224 = .ok (.iadd, 1) := by decide +kernel
theorem dL_law_225 : decode cL_law 225 = .ok (.iaload, 1) := by decide +kernel
theorem dL_law_226 : decode cL_law 226 = .ok (.aload_n 0, 1) := by decide +kernel
theorem dL_law_227 : decode cL_law 227 = .ok (.iload_n 3, 1) := by decide +kernel
theorem dL_law_228 : decode cL_law 228 = .ok (.iconst 2, 1) := by decide +kernel
theorem dL_law_229 : decode cL_law 229 = .ok (.iadd, 1) := by decide +kernel
theorem dL_law_230 : decode cL_law 230 = .ok (.iaload, 1) := by decide +kernel
theorem dL_law_231 : decode cL_law 231 = .ok (.aload_n 0, 1) := by decide +kernel
theorem dL_law_232 : decode cL_law 232 = .ok (.iload_n 3, 1) := by decide +kernel
theorem dL_law_233 : decode cL_law 233 = .ok (.iconst 3, 1) := by decide +kernel
theorem dL_law_234 : decode cL_law 234 = .ok (.iadd, 1) := by decide +kernel
theorem dL_law_235 : decode cL_law 235 = .ok (.iaload, 1) := by decide +kernel
theorem dL_law_236 : decode cL_law 236 = .ok (.invokevirtual 23, 3) := by decide +kernel
theorem dL_law_239 : decode cL_law 239 = .ok (.pop, 1) := by decide +kernel
theorem dL_law_240 : decode cL_law 240 = .ok (.aload_n 2, 1) := by decide +kernel
theorem dL_law_241 : decode cL_law 241 = .ok (.aload_n 0, 1) := by decide +kernel
theorem dL_law_242 : decode cL_law 242 = .ok (.iload_n 3, 1) := by decide +kernel
theorem dL_law_243 : decode cL_law 243 = .ok (.iconst 1, 1) := by decide +kernel
theorem dL_law_244 : decode cL_law 244 = .ok (.iadd, 1) := by decide +kernel
theorem dL_law_245 : decode cL_law 245 = .ok (.iaload, 1) := by decide +kernel
theorem dL_law_246 : decode cL_law 246 = .ok (.aload_n 0, 1) := by decide +kernel
theorem dL_law_247 : decode cL_law 247 = .ok (.iload_n 3, 1) := by decide +kernel
theorem dL_law_248 : decode cL_law 248 = .ok (.iconst 2, 1) := by decide +kernel
theorem dL_law_249 : decode cL_law 249 = .ok (.iadd, 1) := by decide +kernel
theorem dL_law_250 : decode cL_law 250 = .ok (.iaload, 1) := by decide +kernel
theorem dL_law_251 : decode cL_law 251 = .ok (.aload_n 0, 1) := by decide +kernel
theorem dL_law_252 : decode cL_law 252 = .ok (.iload_n 3, 1) := by decide +kernel
theorem dL_law_253 : decode cL_law 253 = .ok (.iconst 3, 1) := by decide +kernel
theorem dL_law_254 : decode cL_law 254 = .ok (.iadd, 1) := by decide +kernel
theorem dL_law_255 : decode cL_law 255 = .ok (.iaload, 1) := by decide +kernel
theorem dL_law_256 : decode cL_law 256 = .ok (.invokevirtual 27, 3) := by decide +kernel
theorem dL_law_259 : decode cL_law 259 = .ok (.pop, 1) := by decide +kernel
theorem dL_law_260 : decode cL_law 260 = .ok (.goto 984, 3) := by decide +kernel
theorem dL_law_263 : decode cL_law 263 = .ok (.aload_n 1, 1) := by decide +kernel
theorem dL_law_264 : decode cL_law 264 = .ok (.aload_n 0, 1) := by decide +kernel
theorem dL_law_265 : decode cL_law 265 = .ok (.iload_n 3, 1) := by decide +kernel
theorem dL_law_266 : decode cL_law 266 = .ok (.iconst 1, 1) := by decide +kernel
theorem dL_law_267 : decode cL_law 267 = .ok (.iadd, 1) := by decide +kernel
theorem dL_law_268 : decode cL_law 268 = .ok (.iaload, 1) := by decide +kernel
theorem dL_law_269 : decode cL_law 269 = .ok (.aload_n 0, 1) := by decide +kernel
theorem dL_law_270 : decode cL_law 270 = .ok (.iload_n 3, 1) := by decide +kernel
theorem dL_law_271 : decode cL_law 271 = .ok (.iconst 2, 1) := by decide +kernel
theorem dL_law_272 : decode cL_law 272 = .ok (.iadd, 1) := by decide +kernel
theorem dL_law_273 : decode cL_law 273 = .ok (.iaload, 1) := by decide +kernel
theorem dL_law_274 : decode cL_law 274 = .ok (.aload_n 0, 1) := by decide +kernel
theorem dL_law_275 : decode cL_law 275 = .ok (.iload_n 3, 1) := by decide +kernel
theorem dL_law_276 : decode cL_law 276 = .ok (.iconst 3, 1) := by decide +kernel
theorem dL_law_277 : decode cL_law 277 = .ok (.iadd, 1) := by decide +kernel
theorem dL_law_278 : decode cL_law 278 = .ok (.iaload, 1) := by decide +kernel
theorem dL_law_279 : decode cL_law 279 = .ok (.i2l, 1) := by decide +kernel
theorem dL_law_280 : decode cL_law 280 = .ok (.bipush 32, 2) := by decide +kernel
theorem dL_law_282 : decode cL_law 282 = .ok (.lshl, 1) := by decide +kernel
theorem dL_law_283 : decode cL_law 283 = .ok (.aload_n 0, 1) := by decide +kernel
theorem dL_law_284 : decode cL_law 284 = .ok (.iload_n 3, 1) := by decide +kernel
theorem dL_law_285 : decode cL_law 285 = .ok (.iconst 4, 1) := by decide +kernel
theorem dL_law_286 : decode cL_law 286 = .ok (.iadd, 1) := by decide +kernel
theorem dL_law_287 : decode cL_law 287 = .ok (.iaload, 1) := by decide +kernel
theorem dL_law_288 : decode cL_law 288 = .ok (.i2l, 1) := by decide +kernel
theorem dL_law_289 : decode cL_law 289 = .ok (.ldc2_w 28, 3) := by decide +kernel
theorem dL_law_292 : decode cL_law 292 = .ok (.land, 1) := by decide +kernel
theorem dL_law_293 : decode cL_law 293 = .ok (.lor, 1) := by decide +kernel
theorem dL_law_294 : decode cL_law 294 = .ok (.invokevirtual 30, 3) := by decide +kernel
theorem dL_law_297 : decode cL_law 297 = .ok (.pop, 1) := by decide +kernel
theorem dL_law_298 : decode cL_law 298 = .ok (.aload_n 2, 1) := by decide +kernel
theorem dL_law_299 : decode cL_law 299 = .ok (.aload_n 0, 1) := by decide +kernel
theorem dL_law_300 : decode cL_law 300 = .ok (.iload_n 3, 1) := by decide +kernel
theorem dL_law_301 : decode cL_law 301 = .ok (.iconst 1, 1) := by decide +kernel
theorem dL_law_302 : decode cL_law 302 = .ok (.iadd, 1) := by decide +kernel
theorem dL_law_303 : decode cL_law 303 = .ok (.iaload, 1) := by decide +kernel
theorem dL_law_304 : decode cL_law 304 = .ok (.aload_n 0, 1) := by decide +kernel
theorem dL_law_305 : decode cL_law 305 = .ok (.iload_n 3, 1) := by decide +kernel
theorem dL_law_306 : decode cL_law 306 = .ok (.iconst 2, 1) := by decide +kernel
theorem dL_law_307 : decode cL_law 307 = .ok (.iadd, 1) := by decide +kernel
theorem dL_law_308 : decode cL_law 308 = .ok (.iaload, 1) := by decide +kernel
theorem dL_law_309 : decode cL_law 309 = .ok (.aload_n 0, 1) := by decide +kernel
theorem dL_law_310 : decode cL_law 310 = .ok (.iload_n 3, 1) := by decide +kernel
theorem dL_law_311 : decode cL_law 311 = .ok (.iconst 3, 1) := by decide +kernel
theorem dL_law_312 : decode cL_law 312 = .ok (.iadd, 1) := by decide +kernel
theorem dL_law_313 : decode cL_law 313 = .ok (.iaload, 1) := by decide +kernel
theorem dL_law_314 : decode cL_law 314 = .ok (.i2l, 1) := by decide +kernel
theorem dL_law_315 : decode cL_law 315 = .ok (.bipush 32, 2) := by decide +kernel
theorem dL_law_317 : decode cL_law 317 = .ok (.lshl, 1) := by decide +kernel
theorem dL_law_318 : decode cL_law 318 = .ok (.aload_n 0, 1) := by decide +kernel
theorem dL_law_319 : decode cL_law 319 = .ok (.iload_n 3, 1) := by decide +kernel
theorem dL_law_320 : decode cL_law 320 = .ok (.iconst 4, 1) := by decide +kernel
theorem dL_law_321 : decode cL_law 321 = .ok (.iadd, 1) := by decide +kernel
theorem dL_law_322 : decode cL_law 322 = .ok (.iaload, 1) := by decide +kernel
theorem dL_law_323 : decode cL_law 323 = .ok (.i2l, 1) := by decide +kernel
theorem dL_law_324 : decode cL_law 324 = .ok (.ldc2_w 28, 3) := by decide +kernel
theorem dL_law_327 : decode cL_law 327 = .ok (.land, 1) := by decide +kernel
theorem dL_law_328 : decode cL_law 328 = .ok (.lor, 1) := by decide +kernel
theorem dL_law_329 : decode cL_law 329 = .ok (.invokevirtual 34, 3) := by decide +kernel
theorem dL_law_332 : decode cL_law 332 = .ok (.pop, 1) := by decide +kernel
theorem dL_law_333 : decode cL_law 333 = .ok (.goto 911, 3) := by decide +kernel
theorem dL_law_336 : decode cL_law 336 = .ok (.aload_n 1, 1) := by decide +kernel
theorem dL_law_337 : decode cL_law 337 = .ok (.aload_n 0, 1) := by decide +kernel
theorem dL_law_338 : decode cL_law 338 = .ok (.iload_n 3, 1) := by decide +kernel
theorem dL_law_339 : decode cL_law 339 = .ok (.iconst 1, 1) := by decide +kernel
theorem dL_law_340 : decode cL_law 340 = .ok (.iadd, 1) := by decide +kernel
theorem dL_law_341 : decode cL_law 341 = .ok (.iaload, 1) := by decide +kernel
theorem dL_law_342 : decode cL_law 342 = .ok (.aload_n 0, 1) := by decide +kernel
theorem dL_law_343 : decode cL_law 343 = .ok (.iload_n 3, 1) := by decide +kernel
theorem dL_law_344 : decode cL_law 344 = .ok (.iconst 2, 1) := by decide +kernel
theorem dL_law_345 : decode cL_law 345 = .ok (.iadd, 1) := by decide +kernel
theorem dL_law_346 : decode cL_law 346 = .ok (.iaload, 1) := by decide +kernel
theorem dL_law_347 : decode cL_law 347 = .ok (.aload_n 0, 1) := by decide +kernel
theorem dL_law_348 : decode cL_law 348 = .ok (.iload_n 3, 1) := by decide +kernel
theorem dL_law_349 : decode cL_law 349 = .ok (.iconst 3, 1) := by decide +kernel
theorem dL_law_350 : decode cL_law 350 = .ok (.iadd, 1) := by decide +kernel
theorem dL_law_351 : decode cL_law 351 = .ok (.iaload, 1) := by decide +kernel
theorem dL_law_352 : decode cL_law 352 = .ok (.invokevirtual 35, 3) := by decide +kernel
theorem dL_law_355 : decode cL_law 355 = .ok (.pop, 1) := by decide +kernel
theorem dL_law_356 : decode cL_law 356 = .ok (.aload_n 2, 1) := by decide +kernel
theorem dL_law_357 : decode cL_law 357 = .ok (.aload_n 0, 1) := by decide +kernel
theorem dL_law_358 : decode cL_law 358 = .ok (.iload_n 3, 1) := by decide +kernel
theorem dL_law_359 : decode cL_law 359 = .ok (.iconst 1, 1) := by decide +kernel
theorem dL_law_360 : decode cL_law 360 = .ok (.iadd, 1) := by decide +kernel
theorem dL_law_361 : decode cL_law 361 = .ok (.iaload, 1) := by decide +kernel
theorem dL_law_362 : decode cL_law 362 = .ok (.aload_n 0, 1) := by decide +kernel
theorem dL_law_363 : decode cL_law 363 = .ok (.iload_n 3, 1) := by decide +kernel
theorem dL_law_364 : decode cL_law 364 = .ok (.iconst 2, 1) := by decide +kernel
theorem dL_law_365 : decode cL_law 365 = .ok (.iadd, 1) := by decide +kernel
theorem dL_law_366 : decode cL_law 366 = .ok (.iaload, 1) := by decide +kernel
theorem dL_law_367 : decode cL_law 367 = .ok (.aload_n 0, 1) := by decide +kernel
theorem dL_law_368 : decode cL_law 368 = .ok (.iload_n 3, 1) := by decide +kernel
theorem dL_law_369 : decode cL_law 369 = .ok (.iconst 3, 1) := by decide +kernel
theorem dL_law_370 : decode cL_law 370 = .ok (.iadd, 1) := by decide +kernel
theorem dL_law_371 : decode cL_law 371 = .ok (.iaload, 1) := by decide +kernel
theorem dL_law_372 : decode cL_law 372 = .ok (.invokevirtual 38, 3) := by decide +kernel
theorem dL_law_375 : decode cL_law 375 = .ok (.pop, 1) := by decide +kernel
theorem dL_law_376 : decode cL_law 376 = .ok (.goto 868, 3) := by decide +kernel
theorem dL_law_379 : decode cL_law 379 = .ok (.aload_n 1, 1) := by decide +kernel
theorem dL_law_380 : decode cL_law 380 = .ok (.aload_n 0, 1) := by decide +kernel
theorem dL_law_381 : decode cL_law 381 = .ok (.iload_n 3, 1) := by decide +kernel
theorem dL_law_382 : decode cL_law 382 = .ok (.iconst 1, 1) := by decide +kernel
theorem dL_law_383 : decode cL_law 383 = .ok (.iadd, 1) := by decide +kernel
theorem dL_law_384 : decode cL_law 384 = .ok (.iaload, 1) := by decide +kernel
theorem dL_law_385 : decode cL_law 385 = .ok (.aload_n 0, 1) := by decide +kernel
theorem dL_law_386 : decode cL_law 386 = .ok (.iload_n 3, 1) := by decide +kernel
theorem dL_law_387 : decode cL_law 387 = .ok (.iconst 2, 1) := by decide +kernel
theorem dL_law_388 : decode cL_law 388 = .ok (.iadd, 1) := by decide +kernel
theorem dL_law_389 : decode cL_law 389 = .ok (.iaload, 1) := by decide +kernel
theorem dL_law_390 : decode cL_law 390 = .ok (.aload_n 0, 1) := by decide +kernel
theorem dL_law_391 : decode cL_law 391 = .ok (.iload_n 3, 1) := by decide +kernel
theorem dL_law_392 : decode cL_law 392 = .ok (.iconst 3, 1) := by decide +kernel
theorem dL_law_393 : decode cL_law 393 = .ok (.iadd, 1) := by decide +kernel
theorem dL_law_394 : decode cL_law 394 = .ok (.iaload, 1) := by decide +kernel
theorem dL_law_395 : decode cL_law 395 = .ok (.invokevirtual 39, 3) := by decide +kernel
theorem dL_law_398 : decode cL_law 398 = .ok (.pop, 1) := by decide +kernel
theorem dL_law_399 : decode cL_law 399 = .ok (.aload_n 2, 1) := by decide +kernel
theorem dL_law_400 : decode cL_law 400 = .ok (.aload_n 0, 1) := by decide +kernel
theorem dL_law_401 : decode cL_law 401 = .ok (.iload_n 3, 1) := by decide +kernel
theorem dL_law_402 : decode cL_law 402 = .ok (.iconst 1, 1) := by decide +kernel
theorem dL_law_403 : decode cL_law 403 = .ok (.iadd, 1) := by decide +kernel
theorem dL_law_404 : decode cL_law 404 = .ok (.iaload, 1) := by decide +kernel
theorem dL_law_405 : decode cL_law 405 = .ok (.aload_n 0, 1) := by decide +kernel
theorem dL_law_406 : decode cL_law 406 = .ok (.iload_n 3, 1) := by decide +kernel
theorem dL_law_407 : decode cL_law 407 = .ok (.iconst 2, 1) := by decide +kernel
theorem dL_law_408 : decode cL_law 408 = .ok (.iadd, 1) := by decide +kernel
theorem dL_law_409 : decode cL_law 409 = .ok (.iaload, 1) := by decide +kernel
theorem dL_law_410 : decode cL_law 410 = .ok (.aload_n 0, 1) := by decide +kernel
theorem dL_law_411 : decode cL_law 411 = .ok (.iload_n 3, 1) := by decide +kernel
theorem dL_law_412 : decode cL_law 412 = .ok (.iconst 3, 1) := by decide +kernel
theorem dL_law_413 : decode cL_law 413 = .ok (.iadd, 1) := by decide +kernel
theorem dL_law_414 : decode cL_law 414 = .ok (.iaload, 1) := by decide +kernel
theorem dL_law_415 : decode cL_law 415 = .ok (.invokevirtual 42, 3) := by decide +kernel
theorem dL_law_418 : decode cL_law 418 = .ok (.pop, 1) := by decide +kernel
theorem dL_law_419 : decode cL_law 419 = .ok (.goto 825, 3) := by decide +kernel
theorem dL_law_422 : decode cL_law 422 = .ok (.aload_n 1, 1) := by decide +kernel
theorem dL_law_423 : decode cL_law 423 = .ok (.aload_n 0, 1) := by decide +kernel
theorem dL_law_424 : decode cL_law 424 = .ok (.iload_n 3, 1) := by decide +kernel
theorem dL_law_425 : decode cL_law 425 = .ok (.iconst 1, 1) := by decide +kernel
theorem dL_law_426 : decode cL_law 426 = .ok (.iadd, 1) := by decide +kernel
theorem dL_law_427 : decode cL_law 427 = .ok (.iaload, 1) := by decide +kernel
theorem dL_law_428 : decode cL_law 428 = .ok (.aload_n 0, 1) := by decide +kernel
theorem dL_law_429 : decode cL_law 429 = .ok (.iload_n 3, 1) := by decide +kernel
theorem dL_law_430 : decode cL_law 430 = .ok (.iconst 2, 1) := by decide +kernel
theorem dL_law_431 : decode cL_law 431 = .ok (.iadd, 1) := by decide +kernel
theorem dL_law_432 : decode cL_law 432 = .ok (.iaload, 1) := by decide +kernel
theorem dL_law_433 : decode cL_law 433 = .ok (.aload_n 0, 1) := by decide +kernel
theorem dL_law_434 : decode cL_law 434 = .ok (.iload_n 3, 1) := by decide +kernel
theorem dL_law_435 : decode cL_law 435 = .ok (.iconst 3, 1) := by decide +kernel
theorem dL_law_436 : decode cL_law 436 = .ok (.iadd, 1) := by decide +kernel
theorem dL_law_437 : decode cL_law 437 = .ok (.iaload, 1) := by decide +kernel
theorem dL_law_438 : decode cL_law 438 = .ok (.aload_n 0, 1) := by decide +kernel
theorem dL_law_439 : decode cL_law 439 = .ok (.iload_n 3, 1) := by decide +kernel
theorem dL_law_440 : decode cL_law 440 = .ok (.iconst 4, 1) := by decide +kernel
theorem dL_law_441 : decode cL_law 441 = .ok (.iadd, 1) := by decide +kernel
theorem dL_law_442 : decode cL_law 442 = .ok (.iaload, 1) := by decide +kernel
theorem dL_law_443 : decode cL_law 443 = .ok (.aload_n 0, 1) := by decide +kernel
theorem dL_law_444 : decode cL_law 444 = .ok (.iload_n 3, 1) := by decide +kernel
theorem dL_law_445 : decode cL_law 445 = .ok (.iconst 5, 1) := by decide +kernel
theorem dL_law_446 : decode cL_law 446 = .ok (.iadd, 1) := by decide +kernel
theorem dL_law_447 : decode cL_law 447 = .ok (.iaload, 1) := by decide +kernel
theorem dL_law_448 : decode cL_law 448 = .ok (.invokevirtual 43, 3) := by decide +kernel
theorem dL_law_451 : decode cL_law 451 = .ok (.pop, 1) := by decide +kernel
theorem dL_law_452 : decode cL_law 452 = .ok (.aload_n 2, 1) := by decide +kernel
theorem dL_law_453 : decode cL_law 453 = .ok (.aload_n 0, 1) := by decide +kernel
theorem dL_law_454 : decode cL_law 454 = .ok (.iload_n 3, 1) := by decide +kernel
theorem dL_law_455 : decode cL_law 455 = .ok (.iconst 1, 1) := by decide +kernel
theorem dL_law_456 : decode cL_law 456 = .ok (.iadd, 1) := by decide +kernel
theorem dL_law_457 : decode cL_law 457 = .ok (.iaload, 1) := by decide +kernel
theorem dL_law_458 : decode cL_law 458 = .ok (.aload_n 0, 1) := by decide +kernel
theorem dL_law_459 : decode cL_law 459 = .ok (.iload_n 3, 1) := by decide +kernel
theorem dL_law_460 : decode cL_law 460 = .ok (.iconst 2, 1) := by decide +kernel
theorem dL_law_461 : decode cL_law 461 = .ok (.iadd, 1) := by decide +kernel
theorem dL_law_462 : decode cL_law 462 = .ok (.iaload, 1) := by decide +kernel
theorem dL_law_463 : decode cL_law 463 = .ok (.aload_n 0, 1) := by decide +kernel
theorem dL_law_464 : decode cL_law 464 = .ok (.iload_n 3, 1) := by decide +kernel
theorem dL_law_465 : decode cL_law 465 = .ok (.iconst 3, 1) := by decide +kernel
theorem dL_law_466 : decode cL_law 466 = .ok (.iadd, 1) := by decide +kernel
theorem dL_law_467 : decode cL_law 467 = .ok (.iaload, 1) := by decide +kernel
theorem dL_law_468 : decode cL_law 468 = .ok (.aload_n 0, 1) := by decide +kernel
theorem dL_law_469 : decode cL_law 469 = .ok (.iload_n 3, 1) := by decide +kernel
theorem dL_law_470 : decode cL_law 470 = .ok (.iconst 4, 1) := by decide +kernel
theorem dL_law_471 : decode cL_law 471 = .ok (.iadd, 1) := by decide +kernel
theorem dL_law_472 : decode cL_law 472 = .ok (.iaload, 1) := by decide +kernel
theorem dL_law_473 : decode cL_law 473 = .ok (.aload_n 0, 1) := by decide +kernel
theorem dL_law_474 : decode cL_law 474 = .ok (.iload_n 3, 1) := by decide +kernel
theorem dL_law_475 : decode cL_law 475 = .ok (.iconst 5, 1) := by decide +kernel
theorem dL_law_476 : decode cL_law 476 = .ok (.iadd, 1) := by decide +kernel
theorem dL_law_477 : decode cL_law 477 = .ok (.iaload, 1) := by decide +kernel
theorem dL_law_478 : decode cL_law 478 = .ok (.invokevirtual 47, 3) := by decide +kernel
theorem dL_law_481 : decode cL_law 481 = .ok (.pop, 1) := by decide +kernel
theorem dL_law_482 : decode cL_law 482 = .ok (.goto 762, 3) := by decide +kernel
theorem dL_law_485 : decode cL_law 485 = .ok (.aload_n 1, 1) := by decide +kernel
theorem dL_law_486 : decode cL_law 486 = .ok (.aload_n 0, 1) := by decide +kernel
theorem dL_law_487 : decode cL_law 487 = .ok (.iload_n 3, 1) := by decide +kernel
theorem dL_law_488 : decode cL_law 488 = .ok (.iconst 1, 1) := by decide +kernel
theorem dL_law_489 : decode cL_law 489 = .ok (.iadd, 1) := by decide +kernel
theorem dL_law_490 : decode cL_law 490 = .ok (.iaload, 1) := by decide +kernel
theorem dL_law_491 : decode cL_law 491 = .ok (.aload_n 0, 1) := by decide +kernel
theorem dL_law_492 : decode cL_law 492 = .ok (.iload_n 3, 1) := by decide +kernel
theorem dL_law_493 : decode cL_law 493 = .ok (.iconst 2, 1) := by decide +kernel
theorem dL_law_494 : decode cL_law 494 = .ok (.iadd, 1) := by decide +kernel
theorem dL_law_495 : decode cL_law 495 = .ok (.iaload, 1) := by decide +kernel
theorem dL_law_496 : decode cL_law 496 = .ok (.aload_n 0, 1) := by decide +kernel
theorem dL_law_497 : decode cL_law 497 = .ok (.iload_n 3, 1) := by decide +kernel
theorem dL_law_498 : decode cL_law 498 = .ok (.iconst 3, 1) := by decide +kernel
theorem dL_law_499 : decode cL_law 499 = .ok (.iadd, 1) := by decide +kernel
theorem dL_law_500 : decode cL_law 500 = .ok (.iaload, 1) := by decide +kernel
theorem dL_law_501 : decode cL_law 501 = .ok (.aload_n 0, 1) := by decide +kernel
theorem dL_law_502 : decode cL_law 502 = .ok (.iload_n 3, 1) := by decide +kernel
theorem dL_law_503 : decode cL_law 503 = .ok (.iconst 4, 1) := by decide +kernel
theorem dL_law_504 : decode cL_law 504 = .ok (.iadd, 1) := by decide +kernel
theorem dL_law_505 : decode cL_law 505 = .ok (.iaload, 1) := by decide +kernel
theorem dL_law_506 : decode cL_law 506 = .ok (.invokevirtual 48, 3) := by decide +kernel
theorem dL_law_509 : decode cL_law 509 = .ok (.pop, 1) := by decide +kernel
theorem dL_law_510 : decode cL_law 510 = .ok (.aload_n 2, 1) := by decide +kernel
theorem dL_law_511 : decode cL_law 511 = .ok (.aload_n 0, 1) := by decide +kernel
theorem dL_law_512 : decode cL_law 512 = .ok (.iload_n 3, 1) := by decide +kernel
theorem dL_law_513 : decode cL_law 513 = .ok (.iconst 1, 1) := by decide +kernel
theorem dL_law_514 : decode cL_law 514 = .ok (.iadd, 1) := by decide +kernel
theorem dL_law_515 : decode cL_law 515 = .ok (.iaload, 1) := by decide +kernel
theorem dL_law_516 : decode cL_law 516 = .ok (.aload_n 0, 1) := by decide +kernel
theorem dL_law_517 : decode cL_law 517 = .ok (.iload_n 3, 1) := by decide +kernel
theorem dL_law_518 : decode cL_law 518 = .ok (.iconst 2, 1) := by decide +kernel
theorem dL_law_519 : decode cL_law 519 = .ok (.iadd, 1) := by decide +kernel
theorem dL_law_520 : decode cL_law 520 = .ok (.iaload, 1) := by decide +kernel
theorem dL_law_521 : decode cL_law 521 = .ok (.aload_n 0, 1) := by decide +kernel
theorem dL_law_522 : decode cL_law 522 = .ok (.iload_n 3, 1) := by decide +kernel
end
section
theorem dL_law_523 : decode cL_law 523 = .ok (.iconst 3, 1) := by decide +kernel
theorem dL_law_524 : decode cL_law 524 = .ok (.iadd, 1) := by decide +kernel
theorem dL_law_525 : decode cL_law 525 = .ok (.iaload, 1) := by decide +kernel
theorem dL_law_526 : decode cL_law 526 = .ok (.aload_n 0, 1) := by decide +kernel
theorem dL_law_527 : decode cL_law 527 = .ok (.iload_n 3, 1) := by decide +kernel
theorem dL_law_528 : decode cL_law 528 = .ok (.iconst 4, 1) := by decide +kernel
theorem dL_law_529 : decode cL_law 529 = .ok (.iadd, 1) := by decide +kernel
theorem dL_law_530 : decode cL_law 530 = .ok (.iaload, 1) := by decide +kernel
theorem dL_law_531 : decode cL_law 531 = .ok (.invokevirtual 51, 3) := by decide +kernel
theorem dL_law_534 : decode cL_law 534 = .ok (.pop, 1) := by decide +kernel
theorem dL_law_535 : decode cL_law 535 = .ok (.goto 709, 3) := by decide +kernel
theorem dL_law_538 : decode cL_law 538 = .ok (.aload_n 1, 1) := by decide +kernel
theorem dL_law_539 : decode cL_law 539 = .ok (.aload_n 0, 1) := by decide +kernel
theorem dL_law_540 : decode cL_law 540 = .ok (.iload_n 3, 1) := by decide +kernel
theorem dL_law_541 : decode cL_law 541 = .ok (.iconst 1, 1) := by decide +kernel
theorem dL_law_542 : decode cL_law 542 = .ok (.iadd, 1) := by decide +kernel
theorem dL_law_543 : decode cL_law 543 = .ok (.iaload, 1) := by decide +kernel
theorem dL_law_544 : decode cL_law 544 = .ok (.ifCond .eq 7, 3) := by decide +kernel
theorem dL_law_547 : decode cL_law 547 = .ok (.iconst 1, 1) := by decide +kernel
theorem dL_law_548 : decode cL_law 548 = .ok (.goto 4, 3) := by decide +kernel
theorem dL_law_551 : decode cL_law 551 = .ok (.iconst 0, 1) := by decide +kernel
theorem dL_law_552 : decode cL_law 552 = .ok (.aload_n 0, 1) := by decide +kernel
theorem dL_law_553 : decode cL_law 553 = .ok (.iload_n 3, 1) := by decide +kernel
theorem dL_law_554 : decode cL_law 554 = .ok (.iconst 2, 1) := by decide +kernel
theorem dL_law_555 : decode cL_law 555 = .ok (.iadd, 1) := by decide +kernel
theorem dL_law_556 : decode cL_law 556 = .ok (.iaload, 1) := by decide +kernel
theorem dL_law_557 : decode cL_law 557 = .ok (.invokevirtual 52, 3) := by decide +kernel
theorem dL_law_560 : decode cL_law 560 = .ok (.pop, 1) := by decide +kernel
theorem dL_law_561 : decode cL_law 561 = .ok (.aload_n 2, 1) := by decide +kernel
theorem dL_law_562 : decode cL_law 562 = .ok (.aload_n 0, 1) := by decide +kernel
theorem dL_law_563 : decode cL_law 563 = .ok (.iload_n 3, 1) := by decide +kernel
theorem dL_law_564 : decode cL_law 564 = .ok (.iconst 1, 1) := by decide +kernel
theorem dL_law_565 : decode cL_law 565 = .ok (.iadd, 1) := by decide +kernel
theorem dL_law_566 : decode cL_law 566 = .ok (.iaload, 1) := by decide +kernel
theorem dL_law_567 : decode cL_law 567 = .ok (.ifCond .eq 7, 3) := by decide +kernel
theorem dL_law_570 : decode cL_law 570 = .ok (.iconst 1, 1) := by decide +kernel
theorem dL_law_571 : decode cL_law 571 = .ok (.goto 4, 3) := by decide +kernel
theorem dL_law_574 : decode cL_law 574 = .ok (.iconst 0, 1) := by decide +kernel
theorem dL_law_575 : decode cL_law 575 = .ok (.aload_n 0, 1) := by decide +kernel
theorem dL_law_576 : decode cL_law 576 = .ok (.iload_n 3, 1) := by decide +kernel
theorem dL_law_577 : decode cL_law 577 = .ok (.iconst 2, 1) := by decide +kernel
theorem dL_law_578 : decode cL_law 578 = .ok (.iadd, 1) := by decide +kernel
theorem dL_law_579 : decode cL_law 579 = .ok (.iaload, 1) := by decide +kernel
theorem dL_law_580 : decode cL_law 580 = .ok (.invokevirtual 56, 3) := by decide +kernel
theorem dL_law_583 : decode cL_law 583 = .ok (.pop, 1) := by decide +kernel
theorem dL_law_584 : decode cL_law 584 = .ok (.goto 660, 3) := by decide +kernel
theorem dL_law_587 : decode cL_law 587 = .ok (.aload_n 1, 1) := by decide +kernel
theorem dL_law_588 : decode cL_law 588 = .ok (.aload_n 0, 1) := by decide +kernel
theorem dL_law_589 : decode cL_law 589 = .ok (.iload_n 3, 1) := by decide +kernel
theorem dL_law_590 : decode cL_law 590 = .ok (.iconst 1, 1) := by decide +kernel
theorem dL_law_591 : decode cL_law 591 = .ok (.iadd, 1) := by decide +kernel
theorem dL_law_592 : decode cL_law 592 = .ok (.iaload, 1) := by decide +kernel
theorem dL_law_593 : decode cL_law 593 = .ok (.aload_n 0, 1) := by decide +kernel
theorem dL_law_594 : decode cL_law 594 = .ok (.iload_n 3, 1) := by decide +kernel
theorem dL_law_595 : decode cL_law 595 = .ok (.iconst 2, 1) := by decide +kernel
theorem dL_law_596 : decode cL_law 596 = .ok (.iadd, 1) := by decide +kernel
theorem dL_law_597 : decode cL_law 597 = .ok (.iaload, 1) := by decide +kernel
theorem dL_law_598 : decode cL_law 598 = .ok (.aload_n 0, 1) := by decide +kernel
theorem dL_law_599 : decode cL_law 599 = .ok (.iload_n 3, 1) := by decide +kernel
theorem dL_law_600 : decode cL_law 600 = .ok (.iconst 3, 1) := by decide +kernel
theorem dL_law_601 : decode cL_law 601 = .ok (.iadd, 1) := by decide +kernel
theorem dL_law_602 : decode cL_law 602 = .ok (.iaload, 1) := by decide +kernel
theorem dL_law_603 : decode cL_law 603 = .ok (.ifCond .eq 7, 3) := by decide +kernel
theorem dL_law_606 : decode cL_law 606 = .ok (.iconst 1, 1) := by decide +kernel
theorem dL_law_607 : decode cL_law 607 = .ok (.goto 4, 3) := by decide +kernel
theorem dL_law_610 : decode cL_law 610 = .ok (.iconst 0, 1) := by decide +kernel
theorem dL_law_611 : decode cL_law 611 = .ok (.invokevirtual 57, 3) := by decide +kernel
theorem dL_law_614 : decode cL_law 614 = .ok (.pop, 1) := by decide +kernel
theorem dL_law_615 : decode cL_law 615 = .ok (.aload_n 2, 1) := by decide +kernel
theorem dL_law_616 : decode cL_law 616 = .ok (.aload_n 0, 1) := by decide +kernel
theorem dL_law_617 : decode cL_law 617 = .ok (.iload_n 3, 1) := by decide +kernel
theorem dL_law_618 : decode cL_law 618 = .ok (.iconst 1, 1) := by decide +kernel
theorem dL_law_619 : decode cL_law 619 = .ok (.iadd, 1) := by decide +kernel
theorem dL_law_620 : decode cL_law 620 = .ok (.iaload, 1) := by decide +kernel
theorem dL_law_621 : decode cL_law 621 = .ok (.aload_n 0, 1) := by decide +kernel
theorem dL_law_622 : decode cL_law 622 = .ok (.iload_n 3, 1) := by decide +kernel
theorem dL_law_623 : decode cL_law 623 = .ok (.iconst 2, 1) := by decide +kernel
theorem dL_law_624 : decode cL_law 624 = .ok (.iadd, 1) := by decide +kernel
theorem dL_law_625 : decode cL_law 625 = .ok (.iaload, 1) := by decide +kernel
theorem dL_law_626 : decode cL_law 626 = .ok (.aload_n 0, 1) := by decide +kernel
theorem dL_law_627 : decode cL_law 627 = .ok (.iload_n 3, 1) := by decide +kernel
theorem dL_law_628 : decode cL_law 628 = .ok (.iconst 3, 1) := by decide +kernel
theorem dL_law_629 : decode cL_law 629 = .ok (.iadd, 1) := by decide +kernel
theorem dL_law_630 : decode cL_law 630 = .ok (.iaload, 1) := by decide +kernel
theorem dL_law_631 : decode cL_law 631 = .ok (.ifCond .eq 7, 3) := by decide +kernel
theorem dL_law_634 : decode cL_law 634 = .ok (.iconst 1, 1) := by decide +kernel
theorem dL_law_635 : decode cL_law 635 = .ok (.goto 4, 3) := by decide +kernel
theorem dL_law_638 : decode cL_law 638 = .ok (.iconst 0, 1) := by decide +kernel
theorem dL_law_639 : decode cL_law 639 = .ok (.invokevirtual 61, 3) := by decide +kernel
theorem dL_law_642 : decode cL_law 642 = .ok (.pop, 1) := by decide +kernel
theorem dL_law_643 : decode cL_law 643 = .ok (.goto 601, 3) := by decide +kernel
theorem dL_law_646 : decode cL_law 646 = .ok (.aload_n 1, 1) := by decide +kernel
theorem dL_law_647 : decode cL_law 647 = .ok (.aload_n 0, 1) := by decide +kernel
theorem dL_law_648 : decode cL_law 648 = .ok (.iload_n 3, 1) := by decide +kernel
theorem dL_law_649 : decode cL_law 649 = .ok (.iconst 1, 1) := by decide +kernel
theorem dL_law_650 : decode cL_law 650 = .ok (.iadd, 1) := by decide +kernel
theorem dL_law_651 : decode cL_law 651 = .ok (.iaload, 1) := by decide +kernel
theorem dL_law_652 : decode cL_law 652 = .ok (.aload_n 0, 1) := by decide +kernel
theorem dL_law_653 : decode cL_law 653 = .ok (.iload_n 3, 1) := by decide +kernel
theorem dL_law_654 : decode cL_law 654 = .ok (.iconst 2, 1) := by decide +kernel
theorem dL_law_655 : decode cL_law 655 = .ok (.iadd, 1) := by decide +kernel
theorem dL_law_656 : decode cL_law 656 = .ok (.iaload, 1) := by decide +kernel
theorem dL_law_657 : decode cL_law 657 = .ok (.ifCond .eq 7, 3) := by decide +kernel
theorem dL_law_660 : decode cL_law 660 = .ok (.iconst 1, 1) := by decide +kernel
theorem dL_law_661 : decode cL_law 661 = .ok (.goto 4, 3) := by decide +kernel
theorem dL_law_664 : decode cL_law 664 = .ok (.iconst 0, 1) := by decide +kernel
theorem dL_law_665 : decode cL_law 665 = .ok (.aload_n 0, 1) := by decide +kernel
theorem dL_law_666 : decode cL_law 666 = .ok (.iload_n 3, 1) := by decide +kernel
theorem dL_law_667 : decode cL_law 667 = .ok (.iconst 3, 1) := by decide +kernel
theorem dL_law_668 : decode cL_law 668 = .ok (.iadd, 1) := by decide +kernel
theorem dL_law_669 : decode cL_law 669 = .ok (.iaload, 1) := by decide +kernel
theorem dL_law_670 : decode cL_law 670 = .ok (.i2l, 1) := by decide +kernel
theorem dL_law_671 : decode cL_law 671 = .ok (.bipush 32, 2) := by decide +kernel
theorem dL_law_673 : decode cL_law 673 = .ok (.lshl, 1) := by decide +kernel
theorem dL_law_674 : decode cL_law 674 = .ok (.aload_n 0, 1) := by decide +kernel
theorem dL_law_675 : decode cL_law 675 = .ok (.iload_n 3, 1) := by decide +kernel
theorem dL_law_676 : decode cL_law 676 = .ok (.iconst 4, 1) := by decide +kernel
theorem dL_law_677 : decode cL_law 677 = .ok (.iadd, 1) := by decide +kernel
theorem dL_law_678 : decode cL_law 678 = .ok (.iaload, 1) := by decide +kernel
theorem dL_law_679 : decode cL_law 679 = .ok (.i2l, 1) := by decide +kernel
theorem dL_law_680 : decode cL_law 680 = .ok (.ldc2_w 28, 3) := by decide +kernel
theorem dL_law_683 : decode cL_law 683 = .ok (.land, 1) := by decide +kernel
theorem dL_law_684 : decode cL_law 684 = .ok (.lor, 1) := by decide +kernel
theorem dL_law_685 : decode cL_law 685 = .ok (.invokevirtual 62, 3) := by decide +kernel
theorem dL_law_688 : decode cL_law 688 = .ok (.pop, 1) := by decide +kernel
theorem dL_law_689 : decode cL_law 689 = .ok (.aload_n 2, 1) := by decide +kernel
theorem dL_law_690 : decode cL_law 690 = .ok (.aload_n 0, 1) := by decide +kernel
theorem dL_law_691 : decode cL_law 691 = .ok (.iload_n 3, 1) := by decide +kernel
theorem dL_law_692 : decode cL_law 692 = .ok (.iconst 1, 1) := by decide +kernel
theorem dL_law_693 : decode cL_law 693 = .ok (.iadd, 1) := by decide +kernel
theorem dL_law_694 : decode cL_law 694 = .ok (.iaload, 1) := by decide +kernel
theorem dL_law_695 : decode cL_law 695 = .ok (.aload_n 0, 1) := by decide +kernel
theorem dL_law_696 : decode cL_law 696 = .ok (.iload_n 3, 1) := by decide +kernel
theorem dL_law_697 : decode cL_law 697 = .ok (.iconst 2, 1) := by decide +kernel
theorem dL_law_698 : decode cL_law 698 = .ok (.iadd, 1) := by decide +kernel
theorem dL_law_699 : decode cL_law 699 = .ok (.iaload, 1) := by decide +kernel
theorem dL_law_700 : decode cL_law 700 = .ok (.ifCond .eq 7, 3) := by decide +kernel
theorem dL_law_703 : decode cL_law 703 = .ok (.iconst 1, 1) := by decide +kernel
theorem dL_law_704 : decode cL_law 704 = .ok (.goto 4, 3) := by decide +kernel
theorem dL_law_707 : decode cL_law 707 = .ok (.iconst 0, 1) := by decide +kernel
theorem dL_law_708 : decode cL_law 708 = .ok (.aload_n 0, 1) := by decide +kernel
theorem dL_law_709 : decode cL_law 709 = .ok (.iload_n 3, 1) := by decide +kernel
theorem dL_law_710 : decode cL_law 710 = .ok (.iconst 3, 1) := by decide +kernel
theorem dL_law_711 : decode cL_law 711 = .ok (.iadd, 1) := by decide +kernel
theorem dL_law_712 : decode cL_law 712 = .ok (.iaload, 1) := by decide +kernel
theorem dL_law_713 : decode cL_law 713 = .ok (.i2l, 1) := by decide +kernel
theorem dL_law_714 : decode cL_law 714 = .ok (.bipush 32, 2) := by decide +kernel
theorem dL_law_716 : decode cL_law 716 = .ok (.lshl, 1) := by decide +kernel
theorem dL_law_717 : decode cL_law 717 = .ok (.aload_n 0, 1) := by decide +kernel
theorem dL_law_718 : decode cL_law 718 = .ok (.iload_n 3, 1) := by decide +kernel
theorem dL_law_719 : decode cL_law 719 = .ok (.iconst 4, 1) := by decide +kernel
theorem dL_law_720 : decode cL_law 720 = .ok (.iadd, 1) := by decide +kernel
theorem dL_law_721 : decode cL_law 721 = .ok (.iaload, 1) := by decide +kernel
theorem dL_law_722 : decode cL_law 722 = .ok (.i2l, 1) := by decide +kernel
theorem dL_law_723 : decode cL_law 723 = .ok (.ldc2_w 28, 3) := by decide +kernel
theorem dL_law_726 : decode cL_law 726 = .ok (.land, 1) := by decide +kernel
theorem dL_law_727 : decode cL_law 727 = .ok (.lor, 1) := by decide +kernel
theorem dL_law_728 : decode cL_law 728 = .ok (.invokevirtual 66, 3) := by decide +kernel
theorem dL_law_731 : decode cL_law 731 = .ok (.pop, 1) := by decide +kernel
theorem dL_law_732 : decode cL_law 732 = .ok (.goto 512, 3) := by decide +kernel
theorem dL_law_735 : decode cL_law 735 = .ok (.aload_n 1, 1) := by decide +kernel
theorem dL_law_736 : decode cL_law 736 = .ok (.aload_n 0, 1) := by decide +kernel
theorem dL_law_737 : decode cL_law 737 = .ok (.iload_n 3, 1) := by decide +kernel
theorem dL_law_738 : decode cL_law 738 = .ok (.iconst 1, 1) := by decide +kernel
theorem dL_law_739 : decode cL_law 739 = .ok (.iadd, 1) := by decide +kernel
theorem dL_law_740 : decode cL_law 740 = .ok (.iaload, 1) := by decide +kernel
theorem dL_law_741 : decode cL_law 741 = .ok (.aload_n 0, 1) := by decide +kernel
theorem dL_law_742 : decode cL_law 742 = .ok (.iload_n 3, 1) := by decide +kernel
theorem dL_law_743 : decode cL_law 743 = .ok (.iconst 2, 1) := by decide +kernel
theorem dL_law_744 : decode cL_law 744 = .ok (.iadd, 1) := by decide +kernel
theorem dL_law_745 : decode cL_law 745 = .ok (.iaload, 1) := by decide +kernel
theorem dL_law_746 : decode cL_law 746 = .ok (.aload_n 0, 1) := by decide +kernel
theorem dL_law_747 : decode cL_law 747 = .ok (.iload_n 3, 1) := by decide +kernel
theorem dL_law_748 : decode cL_law 748 = .ok (.iconst 3, 1) := by decide +kernel
theorem dL_law_749 : decode cL_law 749 = .ok (.iadd, 1) := by decide +kernel
theorem dL_law_750 : decode cL_law 750 = .ok (.iaload, 1) := by decide +kernel
theorem dL_law_751 : decode cL_law 751 = .ok (.aload_n 0, 1) := by decide +kernel
theorem dL_law_752 : decode cL_law 752 = .ok (.iload_n 3, 1) := by decide +kernel
theorem dL_law_753 : decode cL_law 753 = .ok (.iconst 4, 1) := by decide +kernel
theorem dL_law_754 : decode cL_law 754 = .ok (.iadd, 1) := by decide +kernel
theorem dL_law_755 : decode cL_law 755 = .ok (.iaload, 1) := by decide +kernel
theorem dL_law_756 : decode cL_law 756 = .ok (.invokevirtual 67, 3) := by decide +kernel
theorem dL_law_759 : decode cL_law 759 = .ok (.pop, 1) := by decide +kernel
theorem dL_law_760 : decode cL_law 760 = .ok (.aload_n 2, 1) := by decide +kernel
theorem dL_law_761 : decode cL_law 761 = .ok (.aload_n 0, 1) := by decide +kernel
theorem dL_law_762 : decode cL_law 762 = .ok (.iload_n 3, 1) := by decide +kernel
theorem dL_law_763 : decode cL_law 763 = .ok (.iconst 1, 1) := by decide +kernel
theorem dL_law_764 : decode cL_law 764 = .ok (.iadd, 1) := by decide +kernel
theorem dL_law_765 : decode cL_law 765 = .ok (.iaload, 1) := by decide +kernel
theorem dL_law_766 : decode cL_law 766 = .ok (.aload_n 0, 1) := by decide +kernel
theorem dL_law_767 : decode cL_law 767 = .ok (.iload_n 3, 1) := by decide +kernel
theorem dL_law_768 : decode cL_law 768 = .ok (.iconst 2, 1) := by decide +kernel
theorem dL_law_769 : decode cL_law 769 = .ok (.iadd, 1) := by decide +kernel
theorem dL_law_770 : decode cL_law 770 = .ok (.iaload, 1) := by decide +kernel
theorem dL_law_771 : decode cL_law 771 = .ok (.aload_n 0, 1) := by decide +kernel
theorem dL_law_772 : decode cL_law 772 = .ok (.iload_n 3, 1) := by decide +kernel
theorem dL_law_773 : decode cL_law 773 = .ok (.iconst 3, 1) := by decide +kernel
theorem dL_law_774 : decode cL_law 774 = .ok (.iadd, 1) := by decide +kernel
theorem dL_law_775 : decode cL_law 775 = .ok (.iaload, 1) := by decide +kernel
theorem dL_law_776 : decode cL_law 776 = .ok (.aload_n 0, 1) := by decide +kernel
theorem dL_law_777 : decode cL_law 777 = .ok (.iload_n 3, 1) := by decide +kernel
theorem dL_law_778 : decode cL_law 778 = .ok (.iconst 4, 1) := by decide +kernel
theorem dL_law_779 : decode cL_law 779 = .ok (.iadd, 1) := by decide +kernel
theorem dL_law_780 : decode cL_law 780 = .ok (.iaload, 1) := by decide +kernel
theorem dL_law_781 : decode cL_law 781 = .ok (.invokevirtual 70, 3) := by decide +kernel
theorem dL_law_784 : decode cL_law 784 = .ok (.pop, 1) := by decide +kernel
theorem dL_law_785 : decode cL_law 785 = .ok (.goto 459, 3) := by decide +kernel
theorem dL_law_788 : decode cL_law 788 = .ok (.aload_n 1, 1) := by decide +kernel
theorem dL_law_789 : decode cL_law 789 = .ok (.aload_n 0, 1) := by decide +kernel
theorem dL_law_790 : decode cL_law 790 = .ok (.iload_n 3, 1) := by decide +kernel
theorem dL_law_791 : decode cL_law 791 = .ok (.iconst 1, 1) := by decide +kernel
theorem dL_law_792 : decode cL_law 792 = .ok (.iadd, 1) := by decide +kernel
theorem dL_law_793 : decode cL_law 793 = .ok (.iaload, 1) := by decide +kernel
theorem dL_law_794 : decode cL_law 794 = .ok (.aload_n 0, 1) := by decide +kernel
theorem dL_law_795 : decode cL_law 795 = .ok (.iload_n 3, 1) := by decide +kernel
theorem dL_law_796 : decode cL_law 796 = .ok (.iconst 2, 1) := by decide +kernel
theorem dL_law_797 : decode cL_law 797 = .ok (.iadd, 1) := by decide +kernel
theorem dL_law_798 : decode cL_law 798 = .ok (.iaload, 1) := by decide +kernel
theorem dL_law_799 : decode cL_law 799 = .ok (.invokevirtual 71, 3) := by decide +kernel
theorem dL_law_802 : decode cL_law 802 = .ok (.pop, 1) := by decide +kernel
theorem dL_law_803 : decode cL_law 803 = .ok (.aload_n 2, 1) := by decide +kernel
theorem dL_law_804 : decode cL_law 804 = .ok (.aload_n 0, 1) := by decide +kernel
theorem dL_law_805 : decode cL_law 805 = .ok (.iload_n 3, 1) := by decide +kernel
theorem dL_law_806 : decode cL_law 806 = .ok (.iconst 1, 1) := by decide +kernel
theorem dL_law_807 : decode cL_law 807 = .ok (.iadd, 1) := by decide +kernel
theorem dL_law_808 : decode cL_law 808 = .ok (.iaload, 1) := by decide +kernel
theorem dL_law_809 : decode cL_law 809 = .ok (.aload_n 0, 1) := by decide +kernel
theorem dL_law_810 : decode cL_law 810 = .ok (.iload_n 3, 1) := by decide +kernel
theorem dL_law_811 : decode cL_law 811 = .ok (.iconst 2, 1) := by decide +kernel
theorem dL_law_812 : decode cL_law 812 = .ok (.iadd, 1) := by decide +kernel
theorem dL_law_813 : decode cL_law 813 = .ok (.iaload, 1) := by decide +kernel
theorem dL_law_814 : decode cL_law 814 = .ok (.invokevirtual 75, 3) := by decide +kernel
theorem dL_law_817 : decode cL_law 817 = .ok (.pop, 1) := by decide +kernel
theorem dL_law_818 : decode cL_law 818 = .ok (.goto 426, 3) := by decide +kernel
theorem dL_law_821 : decode cL_law 821 = .ok (.aload_n 1, 1) := by decide +kernel
theorem dL_law_822 : decode cL_law 822 = .ok (.aload_n 0, 1) := by decide +kernel
theorem dL_law_823 : decode cL_law 823 = .ok (.iload_n 3, 1) := by decide +kernel
theorem dL_law_824 : decode cL_law 824 = .ok (.iconst 1, 1) := by decide +kernel
theorem dL_law_825 : decode cL_law 825 = .ok (.iadd, 1) := by decide +kernel
theorem dL_law_826 : decode cL_law 826 = .ok (.iaload, 1) := by decide +kernel
theorem dL_law_827 : decode cL_law 827 = .ok (.aload_n 0, 1) := by decide +kernel
theorem dL_law_828 : decode cL_law 828 = .ok (.iload_n 3, 1) := by decide +kernel
theorem dL_law_829 : decode cL_law 829 = .ok (.iconst 2, 1) := by decide +kernel
theorem dL_law_830 : decode cL_law 830 = .ok (.iadd, 1) := by decide +kernel
theorem dL_law_831 : decode cL_law 831 = .ok (.iaload, 1) := by decide +kernel
theorem dL_law_832 : decode cL_law 832 = .ok (.invokevirtual 76, 3) := by decide +kernel
theorem dL_law_835 : decode cL_law 835 = .ok (.pop, 1) := by decide +kernel
theorem dL_law_836 : decode cL_law 836 = .ok (.aload_n 2, 1) := by decide +kernel
theorem dL_law_837 : decode cL_law 837 = .ok (.aload_n 0, 1) := by decide +kernel
theorem dL_law_838 : decode cL_law 838 = .ok (.iload_n 3, 1) := by decide +kernel
theorem dL_law_839 : decode cL_law 839 = .ok (.iconst 1, 1) := by decide +kernel
theorem dL_law_840 : decode cL_law 840 = .ok (.iadd, 1) := by decide +kernel
theorem dL_law_841 : decode cL_law 841 = .ok (.iaload, 1) := by decide +kernel
theorem dL_law_842 : decode cL_law 842 = .ok (.aload_n 0, 1) := by decide +kernel
theorem dL_law_843 : decode cL_law 843 = .ok (.iload_n 3, 1) := by decide +kernel
theorem dL_law_844 : decode cL_law 844 = .ok (.iconst 2, 1) := by decide +kernel
theorem dL_law_845 : decode cL_law 845 = .ok (.iadd, 1) := by decide +kernel
theorem dL_law_846 : decode cL_law 846 = .ok (.iaload, 1) := by decide +kernel
theorem dL_law_847 : decode cL_law 847 = .ok (.invokevirtual 79, 3) := by decide +kernel
theorem dL_law_850 : decode cL_law 850 = .ok (.pop, 1) := by decide +kernel
theorem dL_law_851 : decode cL_law 851 = .ok (.goto 393, 3) := by decide +kernel
theorem dL_law_854 : decode cL_law 854 = .ok (.aload_n 1, 1) := by decide +kernel
theorem dL_law_855 : decode cL_law 855 = .ok (.aload_n 0, 1) := by decide +kernel
theorem dL_law_856 : decode cL_law 856 = .ok (.iload_n 3, 1) := by decide +kernel
theorem dL_law_857 : decode cL_law 857 = .ok (.iconst 1, 1) := by decide +kernel
theorem dL_law_858 : decode cL_law 858 = .ok (.iadd, 1) := by decide +kernel
theorem dL_law_859 : decode cL_law 859 = .ok (.iaload, 1) := by decide +kernel
theorem dL_law_860 : decode cL_law 860 = .ok (.aload_n 0, 1) := by decide +kernel
theorem dL_law_861 : decode cL_law 861 = .ok (.iload_n 3, 1) := by decide +kernel
theorem dL_law_862 : decode cL_law 862 = .ok (.iconst 2, 1) := by decide +kernel
theorem dL_law_863 : decode cL_law 863 = .ok (.iadd, 1) := by decide +kernel
theorem dL_law_864 : decode cL_law 864 = .ok (.iaload, 1) := by decide +kernel
theorem dL_law_865 : decode cL_law 865 = .ok (.aload_n 0, 1) := by decide +kernel
theorem dL_law_866 : decode cL_law 866 = .ok (.iload_n 3, 1) := by decide +kernel
theorem dL_law_867 : decode cL_law 867 = .ok (.iconst 3, 1) := by decide +kernel
theorem dL_law_868 : decode cL_law 868 = .ok (.iadd, 1) := by decide +kernel
theorem dL_law_869 : decode cL_law 869 = .ok (.iaload, 1) := by decide +kernel
theorem dL_law_870 : decode cL_law 870 = .ok (.invokevirtual 80, 3) := by decide +kernel
theorem dL_law_873 : decode cL_law 873 = .ok (.pop, 1) := by decide +kernel
theorem dL_law_874 : decode cL_law 874 = .ok (.aload_n 2, 1) := by decide +kernel
theorem dL_law_875 : decode cL_law 875 = .ok (.aload_n 0, 1) := by decide +kernel
theorem dL_law_876 : decode cL_law 876 = .ok (.iload_n 3, 1) := by decide +kernel
theorem dL_law_877 : decode cL_law 877 = .ok (.iconst 1, 1) := by decide +kernel
theorem dL_law_878 : decode cL_law 878 = .ok (.iadd, 1) := by decide +kernel
theorem dL_law_879 : decode cL_law 879 = .ok (.iaload, 1) := by decide +kernel
theorem dL_law_880 : decode cL_law 880 = .ok (.aload_n 0, 1) := by decide +kernel
theorem dL_law_881 : decode cL_law 881 = .ok (.iload_n 3, 1) := by decide +kernel
theorem dL_law_882 : decode cL_law 882 = .ok (.iconst 2, 1) := by decide +kernel
theorem dL_law_883 : decode cL_law 883 = .ok (.iadd, 1) := by decide +kernel
theorem dL_law_884 : decode cL_law 884 = .ok (.iaload, 1) := by decide +kernel
theorem dL_law_885 : decode cL_law 885 = .ok (.aload_n 0, 1) := by decide +kernel
theorem dL_law_886 : decode cL_law 886 = .ok (.iload_n 3, 1) := by decide +kernel
theorem dL_law_887 : decode cL_law 887 = .ok (.iconst 3, 1) := by decide +kernel
theorem dL_law_888 : decode cL_law 888 = .ok (.iadd, 1) := by decide +kernel
theorem dL_law_889 : decode cL_law 889 = .ok (.iaload, 1) := by decide +kernel
theorem dL_law_890 : decode cL_law 890 = .ok (.invokevirtual 83, 3) := by decide +kernel
theorem dL_law_893 : decode cL_law 893 = .ok (.pop, 1) := by decide +kernel
theorem dL_law_894 : decode cL_law 894 = .ok (.goto 350, 3) := by decide +kernel
theorem dL_law_897 : decode cL_law 897 = .ok (.aload_n 1, 1) := by decide +kernel
theorem dL_law_898 : decode cL_law 898 = .ok (.aload_n 0, 1) := by decide +kernel
theorem dL_law_899 : decode cL_law 899 = .ok (.iload_n 3, 1) := by decide +kernel
theorem dL_law_900 : decode cL_law 900 = .ok (.iconst 1, 1) := by decide +kernel
theorem dL_law_901 : decode cL_law 901 = .ok (.iadd, 1) := by decide +kernel
theorem dL_law_902 : decode cL_law 902 = .ok (.iaload, 1) := by decide +kernel
theorem dL_law_903 : decode cL_law 903 = .ok (.invokevirtual 84, 3) := by decide +kernel
theorem dL_law_906 : decode cL_law 906 = .ok (.pop, 1) := by decide +kernel
theorem dL_law_907 : decode cL_law 907 = .ok (.aload_n 2, 1) := by decide +kernel
theorem dL_law_908 : decode cL_law 908 = .ok (.aload_n 0, 1) := by decide +kernel
theorem dL_law_909 : decode cL_law 909 = .ok (.iload_n 3, 1) := by decide +kernel
theorem dL_law_910 : decode cL_law 910 = .ok (.iconst 1, 1) := by decide +kernel
theorem dL_law_911 : decode cL_law 911 = .ok (.iadd, 1) := by decide +kernel
theorem dL_law_912 : decode cL_law 912 = .ok (.iaload, 1) := by decide +kernel
theorem dL_law_913 : decode cL_law 913 = .ok (.invokevirtual 87, 3) := by decide +kernel
theorem dL_law_916 : decode cL_law 916 = .ok (.pop, 1) := by decide +kernel
theorem dL_law_917 : decode cL_law 917 = .ok (.goto 327, 3) := by decide +kernel
theorem dL_law_920 : decode cL_law 920 = .ok (.aload_n 1, 1) := by decide +kernel
theorem dL_law_921 : decode cL_law 921 = .ok (.aload_n 0, 1) := by decide +kernel
theorem dL_law_922 : decode cL_law 922 = .ok (.iload_n 3, 1) := by decide +kernel
theorem dL_law_923 : decode cL_law 923 = .ok (.iconst 1, 1) := by decide +kernel
theorem dL_law_924 : decode cL_law 924 = .ok (.iadd, 1) := by decide +kernel
theorem dL_law_925 : decode cL_law 925 = .ok (.iaload, 1) := by decide +kernel
theorem dL_law_926 : decode cL_law 926 = .ok (.aload_n 0, 1) := by decide +kernel
theorem dL_law_927 : decode cL_law 927 = .ok (.iload_n 3, 1) := by decide +kernel
theorem dL_law_928 : decode cL_law 928 = .ok (.iconst 2, 1) := by decide +kernel
theorem dL_law_929 : decode cL_law 929 = .ok (.iadd, 1) := by decide +kernel
theorem dL_law_930 : decode cL_law 930 = .ok (.iaload, 1) := by decide +kernel
theorem dL_law_931 : decode cL_law 931 = .ok (.aload_n 0, 1) := by decide +kernel
theorem dL_law_932 : decode cL_law 932 = .ok (.iload_n 3, 1) := by decide +kernel
theorem dL_law_933 : decode cL_law 933 = .ok (.iconst 3, 1) := by decide +kernel
theorem dL_law_934 : decode cL_law 934 = .ok (.iadd, 1) := by decide +kernel
theorem dL_law_935 : decode cL_law 935 = .ok (.iaload, 1) := by decide +kernel
theorem dL_law_936 : decode cL_law 936 = .ok (.i2l, 1) := by decide +kernel
theorem dL_law_937 : decode cL_law 937 = .ok (.bipush 32, 2) := by decide +kernel
theorem dL_law_939 : decode cL_law 939 = .ok (.lshl, 1) := by decide +kernel
theorem dL_law_940 : decode cL_law 940 = .ok (.aload_n 0, 1) := by decide +kernel
theorem dL_law_941 : decode cL_law 941 = .ok (.iload_n 3, 1) := by decide +kernel
theorem dL_law_942 : decode cL_law 942 = .ok (.iconst 4, 1) := by decide +kernel
theorem dL_law_943 : decode cL_law 943 = .ok (.iadd, 1) := by decide +kernel
theorem dL_law_944 : decode cL_law 944 = .ok (.iaload, 1) := by decide +kernel
theorem dL_law_945 : decode cL_law 945 = .ok (.i2l, 1) := by decide +kernel
theorem dL_law_946 : decode cL_law 946 = .ok (.ldc2_w 28, 3) := by decide +kernel
theorem dL_law_949 : decode cL_law 949 = .ok (.land, 1) := by decide +kernel
theorem dL_law_950 : decode cL_law 950 = .ok (.lor, 1) := by decide +kernel
theorem dL_law_951 : decode cL_law 951 = .ok (.invokevirtual 88, 3) := by decide +kernel
theorem dL_law_954 : decode cL_law 954 = .ok (.pop, 1) := by decide +kernel
theorem dL_law_955 : decode cL_law 955 = .ok (.aload_n 2, 1) := by decide +kernel
theorem dL_law_956 : decode cL_law 956 = .ok (.aload_n 0, 1) := by decide +kernel
theorem dL_law_957 : decode cL_law 957 = .ok (.iload_n 3, 1) := by decide +kernel
theorem dL_law_958 : decode cL_law 958 = .ok (.iconst 1, 1) := by decide +kernel
theorem dL_law_959 : decode cL_law 959 = .ok (.iadd, 1) := by decide +kernel
theorem dL_law_960 : decode cL_law 960 = .ok (.iaload, 1) := by decide +kernel
theorem dL_law_961 : decode cL_law 961 = .ok (.aload_n 0, 1) := by decide +kernel
theorem dL_law_962 : decode cL_law 962 = .ok (.iload_n 3, 1) := by decide +kernel
theorem dL_law_963 : decode cL_law 963 = .ok (.iconst 2, 1) := by decide +kernel
theorem dL_law_964 : decode cL_law 964 = .ok (.iadd, 1) := by decide +kernel
theorem dL_law_965 : decode cL_law 965 = .ok (.iaload, 1) := by decide +kernel
theorem dL_law_966 : decode cL_law 966 = .ok (.aload_n 0, 1) := by decide +kernel
theorem dL_law_967 : decode cL_law 967 = .ok (.iload_n 3, 1) := by decide +kernel
theorem dL_law_968 : decode cL_law 968 = .ok (.iconst 3, 1) := by decide +kernel
theorem dL_law_969 : decode cL_law 969 = .ok (.iadd, 1) := by decide +kernel
theorem dL_law_970 : decode cL_law 970 = .ok (.iaload, 1) := by decide +kernel
theorem dL_law_971 : decode cL_law 971 = .ok (.i2l, 1) := by decide +kernel
theorem dL_law_972 : decode cL_law 972 = .ok (.bipush 32, 2) := by decide +kernel
theorem dL_law_974 : decode cL_law 974 = .ok (.lshl, 1) := by decide +kernel
theorem dL_law_975 : decode cL_law 975 = .ok (.aload_n 0, 1) := by decide +kernel
theorem dL_law_976 : decode cL_law 976 = .ok (.iload_n 3, 1) := by decide +kernel
theorem dL_law_977 : decode cL_law 977 = .ok (.iconst 4, 1) := by decide +kernel
theorem dL_law_978 : decode cL_law 978 = .ok (.iadd, 1) := by decide +kernel
theorem dL_law_979 : decode cL_law 979 = .ok (.iaload, 1) := by decide +kernel
theorem dL_law_980 : decode cL_law 980 = .ok (.i2l, 1) := by decide +kernel
theorem dL_law_981 : decode cL_law 981 = .ok (.ldc2_w 28, 3) := by decide +kernel
theorem dL_law_984 : decode cL_law 984 = .ok (.land, 1) := by decide +kernel
theorem dL_law_985 : decode cL_law 985 = .ok (.lor, 1) := by decide +kernel
theorem dL_law_986 : decode cL_law 986 = .ok (.invokevirtual 91, 3) := by decide +kernel
theorem dL_law_989 : decode cL_law 989 = .ok (.pop, 1) := by decide +kernel
theorem dL_law_990 : decode cL_law 990 = .ok (.goto 254, 3) := by decide +kernel
theorem dL_law_993 : decode cL_law 993 = .ok (.aload_n 1, 1) := by decide +kernel
theorem dL_law_994 : decode cL_law 994 = .ok (.aload_n 0, 1) := by decide +kernel
theorem dL_law_995 : decode cL_law 995 = .ok (.iload_n 3, 1) := by decide +kernel
theorem dL_law_996 : decode cL_law 996 = .ok (.iconst 1, 1) := by decide +kernel
theorem dL_law_997 : decode cL_law 997 = .ok (.iadd, 1) := by decide +kernel
theorem dL_law_998 : decode cL_law 998 = .ok (.iaload, 1) := by decide +kernel
theorem dL_law_999 : decode cL_law 999 = .ok (.aload_n 0, 1) := by decide +kernel
theorem dL_law_1000 : decode cL_law 1000 = .ok (.iload_n 3, 1) := by decide +kernel
theorem dL_law_1001 : decode cL_law 1001 = .ok (.iconst 2, 1) := by decide +kernel
theorem dL_law_1002 : decode cL_law 1002 = .ok (.iadd, 1) := by decide +kernel
theorem dL_law_1003 : decode cL_law 1003 = .ok (.iaload, 1) := by decide +kernel
theorem dL_law_1004 : decode cL_law 1004 = .ok (.invokevirtual 92, 3) := by decide +kernel
theorem dL_law_1007 : decode cL_law 1007 = .ok (.pop2, 1) := by decide +kernel
theorem dL_law_1008 : decode cL_law 1008 = .ok (.aload_n 2, 1) := by decide +kernel
theorem dL_law_1009 : decode cL_law 1009 = .ok (.aload_n 0, 1) := by decide +kernel
theorem dL_law_1010 : decode cL_law 1010 = .ok (.iload_n 3, 1) := by decide +kernel
theorem dL_law_1011 : decode cL_law 1011 = .ok (.iconst 1, 1) := by decide +kernel
theorem dL_law_1012 : decode cL_law 1012 = .ok (.iadd, 1) := by decide +kernel
theorem dL_law_1013 : decode cL_law 1013 = .ok (.iaload, 1) := by decide +kernel
theorem dL_law_1014 : decode cL_law 1014 = .ok (.aload_n 0, 1) := by decide +kernel
theorem dL_law_1015 : decode cL_law 1015 = .ok (.iload_n 3, 1) := by decide +kernel
theorem dL_law_1016 : decode cL_law 1016 = .ok (.iconst 2, 1) := by decide +kernel
theorem dL_law_1017 : decode cL_law 1017 = .ok (.iadd, 1) := by decide +kernel
theorem dL_law_1018 : decode cL_law 1018 = .ok (.iaload, 1) := by decide +kernel
end
section
theorem dL_law_1019 : decode cL_law 1019 = .ok (.invokevirtual 96, 3) := by decide +kernel
theorem dL_law_1022 : decode cL_law 1022 = .ok (.pop2, 1) := by decide +kernel
theorem dL_law_1023 : decode cL_law 1023 = .ok (.goto 221, 3) := by decide +kernel
theorem dL_law_1026 : decode cL_law 1026 = .ok (.aload_n 1, 1) := by decide +kernel
theorem dL_law_1027 : decode cL_law 1027 = .ok (.aload_n 0, 1) := by decide +kernel
theorem dL_law_1028 : decode cL_law 1028 = .ok (.iload_n 3, 1) := by decide +kernel
theorem dL_law_1029 : decode cL_law 1029 = .ok (.iconst 1, 1) := by decide +kernel
theorem dL_law_1030 : decode cL_law 1030 = .ok (.iadd, 1) := by decide +kernel
theorem dL_law_1031 : decode cL_law 1031 = .ok (.iaload, 1) := by decide +kernel
theorem dL_law_1032 : decode cL_law 1032 = .ok (.aload_n 0, 1) := by decide +kernel
theorem dL_law_1033 : decode cL_law 1033 = .ok (.iload_n 3, 1) := by decide +kernel
theorem dL_law_1034 : decode cL_law 1034 = .ok (.iconst 2, 1) := by decide +kernel
theorem dL_law_1035 : decode cL_law 1035 = .ok (.iadd, 1) := by decide +kernel
theorem dL_law_1036 : decode cL_law 1036 = .ok (.iaload, 1) := by decide +kernel
theorem dL_law_1037 : decode cL_law 1037 = .ok (.i2l, 1) := by decide +kernel
theorem dL_law_1038 : decode cL_law 1038 = .ok (.bipush 32, 2) := by decide +kernel
theorem dL_law_1040 : decode cL_law 1040 = .ok (.lshl, 1) := by decide +kernel
theorem dL_law_1041 : decode cL_law 1041 = .ok (.aload_n 0, 1) := by decide +kernel
theorem dL_law_1042 : decode cL_law 1042 = .ok (.iload_n 3, 1) := by decide +kernel
theorem dL_law_1043 : decode cL_law 1043 = .ok (.iconst 3, 1) := by decide +kernel
theorem dL_law_1044 : decode cL_law 1044 = .ok (.iadd, 1) := by decide +kernel
theorem dL_law_1045 : decode cL_law 1045 = .ok (.iaload, 1) := by decide +kernel
theorem dL_law_1046 : decode cL_law 1046 = .ok (.i2l, 1) := by decide +kernel
theorem dL_law_1047 : decode cL_law 1047 = .ok (.ldc2_w 28, 3) := by decide +kernel
theorem dL_law_1050 : decode cL_law 1050 = .ok (.land, 1) := by decide +kernel
theorem dL_law_1051 : decode cL_law 1051 = .ok (.lor, 1) := by decide +kernel
theorem dL_law_1052 : decode cL_law 1052 = .ok (.invokevirtual 97, 3) := by decide +kernel
theorem dL_law_1055 : decode cL_law 1055 = .ok (.aload_n 2, 1) := by decide +kernel
theorem dL_law_1056 : decode cL_law 1056 = .ok (.aload_n 0, 1) := by decide +kernel
theorem dL_law_1057 : decode cL_law 1057 = .ok (.iload_n 3, 1) := by decide +kernel
theorem dL_law_1058 : decode cL_law 1058 = .ok (.iconst 1, 1) := by decide +kernel
theorem dL_law_1059 : decode cL_law 1059 = .ok (.iadd, 1) := by decide +kernel
theorem dL_law_1060 : decode cL_law 1060 = .ok (.iaload, 1) := by decide +kernel
theorem dL_law_1061 : decode cL_law 1061 = .ok (.aload_n 0, 1) := by decide +kernel
theorem dL_law_1062 : decode cL_law 1062 = .ok (.iload_n 3, 1) := by decide +kernel
theorem dL_law_1063 : decode cL_law 1063 = .ok (.iconst 2, 1) := by decide +kernel
theorem dL_law_1064 : decode cL_law 1064 = .ok (.iadd, 1) := by decide +kernel
theorem dL_law_1065 : decode cL_law 1065 = .ok (.iaload, 1) := by decide +kernel
theorem dL_law_1066 : decode cL_law 1066 = .ok (.i2l, 1) := by decide +kernel
theorem dL_law_1067 : decode cL_law 1067 = .ok (.bipush 32, 2) := by decide +kernel
theorem dL_law_1069 : decode cL_law 1069 = .ok (.lshl, 1) := by decide +kernel
theorem dL_law_1070 : decode cL_law 1070 = .ok (.aload_n 0, 1) := by decide +kernel
theorem dL_law_1071 : decode cL_law 1071 = .ok (.iload_n 3, 1) := by decide +kernel
theorem dL_law_1072 : decode cL_law 1072 = .ok (.iconst 3, 1) := by decide +kernel
theorem dL_law_1073 : decode cL_law 1073 = .ok (.iadd, 1) := by decide +kernel
theorem dL_law_1074 : decode cL_law 1074 = .ok (.iaload, 1) := by decide +kernel
theorem dL_law_1075 : decode cL_law 1075 = .ok (.i2l, 1) := by decide +kernel
theorem dL_law_1076 : decode cL_law 1076 = .ok (.ldc2_w 28, 3) := by decide +kernel
theorem dL_law_1079 : decode cL_law 1079 = .ok (.land, 1) := by decide +kernel
theorem dL_law_1080 : decode cL_law 1080 = .ok (.lor, 1) := by decide +kernel
theorem dL_law_1081 : decode cL_law 1081 = .ok (.invokevirtual 101, 3) := by decide +kernel
theorem dL_law_1084 : decode cL_law 1084 = .ok (.if_icmp .eq 160, 3) := by decide +kernel
theorem dL_law_1087 : decode cL_law 1087 = .ok (.iconst 0, 1) := by decide +kernel
theorem dL_law_1088 : decode cL_law 1088 = .ok (.ireturn, 1) := by decide +kernel
theorem dL_law_1089 : decode cL_law 1089 = .ok (.aload_n 1, 1) := by decide +kernel
theorem dL_law_1090 : decode cL_law 1090 = .ok (.aload_n 0, 1) := by decide +kernel
theorem dL_law_1091 : decode cL_law 1091 = .ok (.iload_n 3, 1) := by decide +kernel
theorem dL_law_1092 : decode cL_law 1092 = .ok (.iconst 1, 1) := by decide +kernel
theorem dL_law_1093 : decode cL_law 1093 = .ok (.iadd, 1) := by decide +kernel
theorem dL_law_1094 : decode cL_law 1094 = .ok (.iaload, 1) := by decide +kernel
theorem dL_law_1095 : decode cL_law 1095 = .ok (.aload_n 0, 1) := by decide +kernel
theorem dL_law_1096 : decode cL_law 1096 = .ok (.iload_n 3, 1) := by decide +kernel
theorem dL_law_1097 : decode cL_law 1097 = .ok (.iconst 2, 1) := by decide +kernel
theorem dL_law_1098 : decode cL_law 1098 = .ok (.iadd, 1) := by decide +kernel
theorem dL_law_1099 : decode cL_law 1099 = .ok (.iaload, 1) := by decide +kernel
theorem dL_law_1100 : decode cL_law 1100 = .ok (.aload_n 0, 1) := by decide +kernel
theorem dL_law_1101 : decode cL_law 1101 = .ok (.iload_n 3, 1) := by decide +kernel
theorem dL_law_1102 : decode cL_law 1102 = .ok (.iconst 3, 1) := by decide +kernel
theorem dL_law_1103 : decode cL_law 1103 = .ok (.iadd, 1) := by decide +kernel
theorem dL_law_1104 : decode cL_law 1104 = .ok (.iaload, 1) := by decide +kernel
theorem dL_law_1105 : decode cL_law 1105 = .ok (.invokevirtual 102, 3) := by decide +kernel
theorem dL_law_1108 : decode cL_law 1108 = .ok (.pop, 1) := by decide +kernel
theorem dL_law_1109 : decode cL_law 1109 = .ok (.aload_n 2, 1) := by decide +kernel
theorem dL_law_1110 : decode cL_law 1110 = .ok (.aload_n 0, 1) := by decide +kernel
theorem dL_law_1111 : decode cL_law 1111 = .ok (.iload_n 3, 1) := by decide +kernel
theorem dL_law_1112 : decode cL_law 1112 = .ok (.iconst 1, 1) := by decide +kernel
theorem dL_law_1113 : decode cL_law 1113 = .ok (.iadd, 1) := by decide +kernel
theorem dL_law_1114 : decode cL_law 1114 = .ok (.iaload, 1) := by decide +kernel
theorem dL_law_1115 : decode cL_law 1115 = .ok (.aload_n 0, 1) := by decide +kernel
theorem dL_law_1116 : decode cL_law 1116 = .ok (.iload_n 3, 1) := by decide +kernel
theorem dL_law_1117 : decode cL_law 1117 = .ok (.iconst 2, 1) := by decide +kernel
theorem dL_law_1118 : decode cL_law 1118 = .ok (.iadd, 1) := by decide +kernel
theorem dL_law_1119 : decode cL_law 1119 = .ok (.iaload, 1) := by decide +kernel
theorem dL_law_1120 : decode cL_law 1120 = .ok (.aload_n 0, 1) := by decide +kernel
theorem dL_law_1121 : decode cL_law 1121 = .ok (.iload_n 3, 1) := by decide +kernel
theorem dL_law_1122 : decode cL_law 1122 = .ok (.iconst 3, 1) := by decide +kernel
theorem dL_law_1123 : decode cL_law 1123 = .ok (.iadd, 1) := by decide +kernel
theorem dL_law_1124 : decode cL_law 1124 = .ok (.iaload, 1) := by decide +kernel
theorem dL_law_1125 : decode cL_law 1125 = .ok (.invokevirtual 105, 3) := by decide +kernel
theorem dL_law_1128 : decode cL_law 1128 = .ok (.pop, 1) := by decide +kernel
theorem dL_law_1129 : decode cL_law 1129 = .ok (.goto 115, 3) := by decide +kernel
theorem dL_law_1132 : decode cL_law 1132 = .ok (.aload_n 1, 1) := by decide +kernel
theorem dL_law_1133 : decode cL_law 1133 = .ok (.aload_n 0, 1) := by decide +kernel
theorem dL_law_1134 : decode cL_law 1134 = .ok (.iload_n 3, 1) := by decide +kernel
theorem dL_law_1135 : decode cL_law 1135 = .ok (.iconst 1, 1) := by decide +kernel
theorem dL_law_1136 : decode cL_law 1136 = .ok (.iadd, 1) := by decide +kernel
theorem dL_law_1137 : decode cL_law 1137 = .ok (.iaload, 1) := by decide +kernel
theorem dL_law_1138 : decode cL_law 1138 = .ok (.aload_n 0, 1) := by decide +kernel
theorem dL_law_1139 : decode cL_law 1139 = .ok (.iload_n 3, 1) := by decide +kernel
theorem dL_law_1140 : decode cL_law 1140 = .ok (.iconst 2, 1) := by decide +kernel
theorem dL_law_1141 : decode cL_law 1141 = .ok (.iadd, 1) := by decide +kernel
theorem dL_law_1142 : decode cL_law 1142 = .ok (.iaload, 1) := by decide +kernel
theorem dL_law_1143 : decode cL_law 1143 = .ok (.aload_n 0, 1) := by decide +kernel
theorem dL_law_1144 : decode cL_law 1144 = .ok (.iload_n 3, 1) := by decide +kernel
theorem dL_law_1145 : decode cL_law 1145 = .ok (.iconst 3, 1) := by decide +kernel
theorem dL_law_1146 : decode cL_law 1146 = .ok (.iadd, 1) := by decide +kernel
theorem dL_law_1147 : decode cL_law 1147 = .ok (.iaload, 1) := by decide +kernel
theorem dL_law_1148 : decode cL_law 1148 = .ok (.aload_n 0, 1) := by decide +kernel
theorem dL_law_1149 : decode cL_law 1149 = .ok (.iload_n 3, 1) := by decide +kernel
theorem dL_law_1150 : decode cL_law 1150 = .ok (.iconst 4, 1) := by decide +kernel
theorem dL_law_1151 : decode cL_law 1151 = .ok (.iadd, 1) := by decide +kernel
theorem dL_law_1152 : decode cL_law 1152 = .ok (.iaload, 1) := by decide +kernel
theorem dL_law_1153 : decode cL_law 1153 = .ok (.invokevirtual 106, 3) := by decide +kernel
theorem dL_law_1156 : decode cL_law 1156 = .ok (.pop, 1) := by decide +kernel
theorem dL_law_1157 : decode cL_law 1157 = .ok (.aload_n 2, 1) := by decide +kernel
theorem dL_law_1158 : decode cL_law 1158 = .ok (.aload_n 0, 1) := by decide +kernel
theorem dL_law_1159 : decode cL_law 1159 = .ok (.iload_n 3, 1) := by decide +kernel
theorem dL_law_1160 : decode cL_law 1160 = .ok (.iconst 1, 1) := by decide +kernel
theorem dL_law_1161 : decode cL_law 1161 = .ok (.iadd, 1) := by decide +kernel
theorem dL_law_1162 : decode cL_law 1162 = .ok (.iaload, 1) := by decide +kernel
theorem dL_law_1163 : decode cL_law 1163 = .ok (.aload_n 0, 1) := by decide +kernel
theorem dL_law_1164 : decode cL_law 1164 = .ok (.iload_n 3, 1) := by decide +kernel
theorem dL_law_1165 : decode cL_law 1165 = .ok (.iconst 2, 1) := by decide +kernel
theorem dL_law_1166 : decode cL_law 1166 = .ok (.iadd, 1) := by decide +kernel
theorem dL_law_1167 : decode cL_law 1167 = .ok (.iaload, 1) := by decide +kernel
theorem dL_law_1168 : decode cL_law 1168 = .ok (.aload_n 0, 1) := by decide +kernel
theorem dL_law_1169 : decode cL_law 1169 = .ok (.iload_n 3, 1) := by decide +kernel
theorem dL_law_1170 : decode cL_law 1170 = .ok (.iconst 3, 1) := by decide +kernel
theorem dL_law_1171 : decode cL_law 1171 = .ok (.iadd, 1) := by decide +kernel
theorem dL_law_1172 : decode cL_law 1172 = .ok (.iaload, 1) := by decide +kernel
theorem dL_law_1173 : decode cL_law 1173 = .ok (.aload_n 0, 1) := by decide +kernel
theorem dL_law_1174 : decode cL_law 1174 = .ok (.iload_n 3, 1) := by decide +kernel
theorem dL_law_1175 : decode cL_law 1175 = .ok (.iconst 4, 1) := by decide +kernel
theorem dL_law_1176 : decode cL_law 1176 = .ok (.iadd, 1) := by decide +kernel
theorem dL_law_1177 : decode cL_law 1177 = .ok (.iaload, 1) := by decide +kernel
theorem dL_law_1178 : decode cL_law 1178 = .ok (.invokevirtual 109, 3) := by decide +kernel
theorem dL_law_1181 : decode cL_law 1181 = .ok (.pop, 1) := by decide +kernel
theorem dL_law_1182 : decode cL_law 1182 = .ok (.goto 62, 3) := by decide +kernel
theorem dL_law_1185 : decode cL_law 1185 = .ok (.aload_n 1, 1) := by decide +kernel
theorem dL_law_1186 : decode cL_law 1186 = .ok (.invokevirtual 110, 3) := by decide +kernel
theorem dL_law_1189 : decode cL_law 1189 = .ok (.pop2, 1) := by decide +kernel
theorem dL_law_1190 : decode cL_law 1190 = .ok (.aload_n 2, 1) := by decide +kernel
theorem dL_law_1191 : decode cL_law 1191 = .ok (.invokevirtual 114, 3) := by decide +kernel
theorem dL_law_1194 : decode cL_law 1194 = .ok (.pop2, 1) := by decide +kernel
theorem dL_law_1195 : decode cL_law 1195 = .ok (.goto 49, 3) := by decide +kernel
theorem dL_law_1198 : decode cL_law 1198 = .ok (.aload_n 1, 1) := by decide +kernel
theorem dL_law_1199 : decode cL_law 1199 = .ok (.aload_n 0, 1) := by decide +kernel
theorem dL_law_1200 : decode cL_law 1200 = .ok (.iload_n 3, 1) := by decide +kernel
theorem dL_law_1201 : decode cL_law 1201 = .ok (.iconst 1, 1) := by decide +kernel
theorem dL_law_1202 : decode cL_law 1202 = .ok (.iadd, 1) := by decide +kernel
theorem dL_law_1203 : decode cL_law 1203 = .ok (.iaload, 1) := by decide +kernel
theorem dL_law_1204 : decode cL_law 1204 = .ok (.invokevirtual 115, 3) := by decide +kernel
theorem dL_law_1207 : decode cL_law 1207 = .ok (.pop, 1) := by decide +kernel
theorem dL_law_1208 : decode cL_law 1208 = .ok (.aload_n 2, 1) := by decide +kernel
theorem dL_law_1209 : decode cL_law 1209 = .ok (.aload_n 0, 1) := by decide +kernel
theorem dL_law_1210 : decode cL_law 1210 = .ok (.iload_n 3, 1) := by decide +kernel
theorem dL_law_1211 : decode cL_law 1211 = .ok (.iconst 1, 1) := by decide +kernel
theorem dL_law_1212 : decode cL_law 1212 = .ok (.iadd, 1) := by decide +kernel
theorem dL_law_1213 : decode cL_law 1213 = .ok (.iaload, 1) := by decide +kernel
theorem dL_law_1214 : decode cL_law 1214 = .ok (.invokevirtual 118, 3) := by decide +kernel
theorem dL_law_1217 : decode cL_law 1217 = .ok (.pop, 1) := by decide +kernel
theorem dL_law_1218 : decode cL_law 1218 = .ok (.goto 26, 3) := by decide +kernel
theorem dL_law_1221 : decode cL_law 1221 = .ok (.aload_n 1, 1) := by decide +kernel
theorem dL_law_1222 : decode cL_law 1222 = .ok (.aload_n 0, 1) := by decide +kernel
theorem dL_law_1223 : decode cL_law 1223 = .ok (.iload_n 3, 1) := by decide +kernel
theorem dL_law_1224 : decode cL_law 1224 = .ok (.iconst 1, 1) := by decide +kernel
theorem dL_law_1225 : decode cL_law 1225 = .ok (.iadd, 1) := by decide +kernel
theorem dL_law_1226 : decode cL_law 1226 = .ok (.iaload, 1) := by decide +kernel
theorem dL_law_1227 : decode cL_law 1227 = .ok (.invokevirtual 119, 3) := by decide +kernel
theorem dL_law_1230 : decode cL_law 1230 = .ok (.pop, 1) := by decide +kernel
theorem dL_law_1231 : decode cL_law 1231 = .ok (.aload_n 2, 1) := by decide +kernel
theorem dL_law_1232 : decode cL_law 1232 = .ok (.aload_n 0, 1) := by decide +kernel
theorem dL_law_1233 : decode cL_law 1233 = .ok (.iload_n 3, 1) := by decide +kernel
theorem dL_law_1234 : decode cL_law 1234 = .ok (.iconst 1, 1) := by decide +kernel
theorem dL_law_1235 : decode cL_law 1235 = .ok (.iadd, 1) := by decide +kernel
theorem dL_law_1236 : decode cL_law 1236 = .ok (.iaload, 1) := by decide +kernel
theorem dL_law_1237 : decode cL_law 1237 = .ok (.invokevirtual 122, 3) := by decide +kernel
theorem dL_law_1240 : decode cL_law 1240 = .ok (.pop, 1) := by decide +kernel
theorem dL_law_1241 : decode cL_law 1241 = .ok (.goto 3, 3) := by decide +kernel
theorem dL_law_1244 : decode cL_law 1244 = .ok (.iinc 3 6, 3) := by decide +kernel
theorem dL_law_1247 : decode cL_law 1247 = .ok (.goto (-1229), 3) := by decide +kernel
theorem dL_law_1250 : decode cL_law 1250 = .ok (.iconst 1, 1) := by decide +kernel
theorem dL_law_1251 : decode cL_law 1251 = .ok (.ireturn, 1) := by decide +kernel
end
section
def wG : List Cond := lw_tbl.filter goodWord
theorem wG_of {w : Cond} (h : w ∈ lw_tbl) (g : goodWord w = true) : w ∈ wG := List.mem_filter.mpr ⟨h, g⟩
theorem wG_good : GoodIn wG wG := fun w h => ⟨h, good_of_word (List.mem_filter.mp h).2⟩
theorem wG_code {y : MethodName} {c : ByteArray} {n : Nat} {r : Option FieldType} (h : Cond.code y c n r ∈ wG) : GoodIn wG (Cond.code y c n r :: wG) := fun w hw => (List.mem_cons.mp hw).elim (fun e => e ▸ wG_good _ h) (wG_good w)
theorem inX0 : ∀ w ∈ wsX00, w ∈ wG := by decide +kernel
theorem inX1 : ∀ w ∈ wsX10, w ∈ wG := by decide +kernel
theorem inX2 : ∀ w ∈ wsX20, w ∈ wG := by decide +kernel
theorem inX3 : ∀ w ∈ wsX30, w ∈ wG := by decide +kernel
theorem inX4 : ∀ w ∈ wsX40, w ∈ wG := by decide +kernel
theorem inX5 : ∀ w ∈ wsX50, w ∈ wG := by decide +kernel
theorem inX6 : ∀ w ∈ wsX60, w ∈ wG := by decide +kernel
theorem inX7 : ∀ w ∈ wsX70, w ∈ wG := by decide +kernel
theorem inX8 : ∀ w ∈ wsX80, w ∈ wG := by decide +kernel
theorem inX9 : ∀ w ∈ wsX90, w ∈ wG := by decide +kernel
theorem inX10 : ∀ w ∈ wsX100, w ∈ wG := by decide +kernel
theorem inX11 : ∀ w ∈ wsX110, w ∈ wG := by decide +kernel
theorem kini_L : Cond.initialized RL ∈ wG := wG_of (List.mem_append_right _ (List.mem_of_getElem? (i := 0) (by decide +kernel))) (by decide +kernel)
theorem kini_X10 : Cond.initialized RX10 ∈ wG := wG_of (List.mem_append_right _ (List.mem_of_getElem? (i := 1) (by decide +kernel))) (by decide +kernel)
theorem kini_X6 : Cond.initialized RX6 ∈ wG := wG_of (List.mem_append_right _ (List.mem_of_getElem? (i := 2) (by decide +kernel))) (by decide +kernel)
theorem kini_J7 : Cond.initialized RJ7 ∈ wG := wG_of (List.mem_append_right _ (List.mem_of_getElem? (i := 3) (by decide +kernel))) (by decide +kernel)
theorem kini_J9 : Cond.initialized RJ9 ∈ wG := wG_of (List.mem_append_right _ (List.mem_of_getElem? (i := 4) (by decide +kernel))) (by decide +kernel)
theorem kini_X0 : Cond.initialized RX0 ∈ wG := wG_of (List.mem_append_right _ (List.mem_of_getElem? (i := 5) (by decide +kernel))) (by decide +kernel)
theorem kini_X2 : Cond.initialized RX2 ∈ wG := wG_of (List.mem_append_right _ (List.mem_of_getElem? (i := 6) (by decide +kernel))) (by decide +kernel)
theorem kini_X3 : Cond.initialized RX3 ∈ wG := wG_of (List.mem_append_right _ (List.mem_of_getElem? (i := 7) (by decide +kernel))) (by decide +kernel)
theorem kini_X9 : Cond.initialized RX9 ∈ wG := wG_of (List.mem_append_right _ (List.mem_of_getElem? (i := 8) (by decide +kernel))) (by decide +kernel)
theorem kini_X8 : Cond.initialized RX8 ∈ wG := wG_of (List.mem_append_right _ (List.mem_of_getElem? (i := 9) (by decide +kernel))) (by decide +kernel)
theorem kini_X4 : Cond.initialized RX4 ∈ wG := wG_of (List.mem_append_right _ (List.mem_of_getElem? (i := 10) (by decide +kernel))) (by decide +kernel)
theorem kini_X1 : Cond.initialized RX1 ∈ wG := wG_of (List.mem_append_right _ (List.mem_of_getElem? (i := 11) (by decide +kernel))) (by decide +kernel)
theorem kini_X5 : Cond.initialized RX5 ∈ wG := wG_of (List.mem_append_right _ (List.mem_of_getElem? (i := 12) (by decide +kernel))) (by decide +kernel)
theorem kini_X7 : Cond.initialized RX7 ∈ wG := wG_of (List.mem_append_right _ (List.mem_of_getElem? (i := 13) (by decide +kernel))) (by decide +kernel)
theorem kini_X11 : Cond.initialized RX11 ∈ wG := wG_of (List.mem_append_right _ (List.mem_of_getElem? (i := 14) (by decide +kernel))) (by decide +kernel)
theorem kini_J13 : Cond.initialized RJ13 ∈ wG := wG_of (List.mem_append_right _ (List.mem_of_getElem? (i := 15) (by decide +kernel))) (by decide +kernel)
theorem kini_J6 : Cond.initialized RJ6 ∈ wG := wG_of (List.mem_append_right _ (List.mem_of_getElem? (i := 16) (by decide +kernel))) (by decide +kernel)
theorem kini_J10 : Cond.initialized RJ10 ∈ wG := wG_of (List.mem_append_right _ (List.mem_of_getElem? (i := 17) (by decide +kernel))) (by decide +kernel)
theorem kcl_L_7 : Cond.classLink RL 7 RX10 ∈ wG := wG_of (List.mem_append_right _ (List.mem_of_getElem? (i := 18) (by decide +kernel))) (by decide +kernel)
theorem kinst_X10 : Cond.instantiable RX10 9 ∈ wG := wG_of (List.mem_append_right _ (List.mem_of_getElem? (i := 19) (by decide +kernel))) (by decide +kernel)
theorem km_L_9 : Cond.methodLink RL 9 yX10_init ∈ wG := wG_of (List.mem_append_right _ (List.mem_of_getElem? (i := 20) (by decide +kernel))) (by decide +kernel)
theorem ki_yX10_init : Cond.instanceMethod yX10_init ∈ wG := wG_of (List.mem_append_right _ (List.mem_of_getElem? (i := 21) (by decide +kernel))) (by decide +kernel)
theorem kc_yX10_init : Cond.code yX10_init cX10_init 2 none ∈ wG := wG_of (List.mem_append_right _ (List.mem_of_getElem? (i := 22) (by decide +kernel))) (by decide +kernel)
theorem km_X10_3 : Cond.methodLink RX10 3 objectInit ∈ wG := wG_of (List.mem_append_right _ (List.mem_of_getElem? (i := 23) (by decide +kernel))) (by decide +kernel)
theorem ki_objectInit : Cond.instanceMethod objectInit ∈ wG := wG_of (List.mem_append_right _ (List.mem_of_getElem? (i := 24) (by decide +kernel))) (by decide +kernel)
theorem kc_objectInit : Cond.code objectInit ⟨#[0xb1]⟩ 1 none ∈ wG := wG_of (List.mem_append_right _ (List.mem_of_getElem? (i := 25) (by decide +kernel))) (by decide +kernel)
theorem kcl_X10_9 : Cond.classLink RX10 9 RX6 ∈ wG := wG_of (List.mem_append_right _ (List.mem_of_getElem? (i := 26) (by decide +kernel))) (by decide +kernel)
theorem kinst_X6 : Cond.instantiable RX6 12 ∈ wG := wG_of (List.mem_append_right _ (List.mem_of_getElem? (i := 27) (by decide +kernel))) (by decide +kernel)
theorem km_X10_11 : Cond.methodLink RX10 11 yX6_init ∈ wG := wG_of (List.mem_append_right _ (List.mem_of_getElem? (i := 28) (by decide +kernel))) (by decide +kernel)
theorem ki_yX6_init : Cond.instanceMethod yX6_init ∈ wG := wG_of (List.mem_append_right _ (List.mem_of_getElem? (i := 29) (by decide +kernel))) (by decide +kernel)
theorem kc_yX6_init : Cond.code yX6_init cX6_init 2 none ∈ wG := wG_of (List.mem_append_right _ (List.mem_of_getElem? (i := 30) (by decide +kernel))) (by decide +kernel)
theorem km_X6_3 : Cond.methodLink RX6 3 objectInit ∈ wG := wG_of (List.mem_append_right _ (List.mem_of_getElem? (i := 31) (by decide +kernel))) (by decide +kernel)
theorem kfs_X6_51 : Cond.fieldLink RX6 51 RX6 "FROM" "[I" ∈ wG := wG_of (List.mem_append_right _ (List.mem_of_getElem? (i := 32) (by decide +kernel))) (by decide +kernel)
theorem kfs_X6_54 : Cond.fieldLink RX6 54 RX6 "TO" "[I" ∈ wG := wG_of (List.mem_append_right _ (List.mem_of_getElem? (i := 34) (by decide +kernel))) (by decide +kernel)
theorem kfs_X6_57 : Cond.fieldLink RX6 57 RX6 "COST" "[I" ∈ wG := wG_of (List.mem_append_right _ (List.mem_of_getElem? (i := 36) (by decide +kernel))) (by decide +kernel)
theorem kfs_X6_60 : Cond.fieldLink RX6 60 RX6 "BY" "[I" ∈ wG := wG_of (List.mem_append_right _ (List.mem_of_getElem? (i := 38) (by decide +kernel))) (by decide +kernel)
theorem km_X6_63 : Cond.methodLink RX6 63 yX6_keep ∈ wG := wG_of (List.mem_append_right _ (List.mem_of_getElem? (i := 40) (by decide +kernel))) (by decide +kernel)
theorem ki_yX6_keep : Cond.instanceMethod yX6_keep ∈ wG := wG_of (List.mem_append_right _ (List.mem_of_getElem? (i := 42) (by decide +kernel))) (by decide +kernel)
theorem kc_yX6_keep : Cond.code yX6_keep cX6_keep 6 none ∈ wG := wG_of (List.mem_append_right _ (List.mem_of_getElem? (i := 43) (by decide +kernel))) (by decide +kernel)
theorem km_X6_67 : Cond.methodLink RX6 67 yX6_measure ∈ wG := wG_of (List.mem_append_right _ (List.mem_of_getElem? (i := 44) (by decide +kernel))) (by decide +kernel)
theorem ki_yX6_measure : Cond.instanceMethod yX6_measure ∈ wG := wG_of (List.mem_append_right _ (List.mem_of_getElem? (i := 46) (by decide +kernel))) (by decide +kernel)
theorem kc_yX6_measure : Cond.code yX6_measure cX6_measure 3 none ∈ wG := wG_of (List.mem_append_right _ (List.mem_of_getElem? (i := 47) (by decide +kernel))) (by decide +kernel)
theorem kk_X6_74 : Cond.constant RX6 74 (268435456) ∈ wG := wG_of (List.mem_append_right _ (List.mem_of_getElem? (i := 48) (by decide +kernel))) (by decide +kernel)
theorem km_X6_88 : Cond.methodLink RX6 88 yJ7_fill_53178 ∈ wG := wG_of (List.mem_append_right _ (List.mem_of_getElem? (i := 49) (by decide +kernel))) (by decide +kernel)
theorem ks_yJ7_fill_53178 : Cond.static yJ7_fill_53178 ∈ wG := wG_of (List.mem_append_right _ (List.mem_of_getElem? (i := 50) (by decide +kernel))) (by decide +kernel)
theorem kc_yJ7_fill_53178 : Cond.code yJ7_fill_53178 cJ7_fill_53178 4 none ∈ wG := wG_of (List.mem_append_right _ (List.mem_of_getElem? (i := 51) (by decide +kernel))) (by decide +kernel)
theorem km_X6_94 : Cond.methodLink RX6 94 yX6_weightOf ∈ wG := wG_of (List.mem_append_right _ (List.mem_of_getElem? (i := 52) (by decide +kernel))) (by decide +kernel)
theorem ki_yX6_weightOf : Cond.instanceMethod yX6_weightOf ∈ wG := wG_of (List.mem_append_right _ (List.mem_of_getElem? (i := 54) (by decide +kernel))) (by decide +kernel)
theorem kc_yX6_weightOf : Cond.code yX6_weightOf cX6_weightOf 2 (some .int) ∈ wG := wG_of (List.mem_append_right _ (List.mem_of_getElem? (i := 55) (by decide +kernel))) (by decide +kernel)
theorem km_X6_98 : Cond.methodLink RX6 98 yJ9_min_7cf53 ∈ wG := wG_of (List.mem_append_right _ (List.mem_of_getElem? (i := 56) (by decide +kernel))) (by decide +kernel)
theorem ks_yJ9_min_7cf53 : Cond.static yJ9_min_7cf53 ∈ wG := wG_of (List.mem_append_right _ (List.mem_of_getElem? (i := 57) (by decide +kernel))) (by decide +kernel)
theorem kc_yJ9_min_7cf53 : Cond.code yJ9_min_7cf53 cJ9_min_7cf53 2 (some .int) ∈ wG := wG_of (List.mem_append_right _ (List.mem_of_getElem? (i := 58) (by decide +kernel))) (by decide +kernel)
theorem km_X6_104 : Cond.methodLink RX6 104 yX6_shortenBy ∈ wG := wG_of (List.mem_append_right _ (List.mem_of_getElem? (i := 59) (by decide +kernel))) (by decide +kernel)
theorem ki_yX6_shortenBy : Cond.instanceMethod yX6_shortenBy ∈ wG := wG_of (List.mem_append_right _ (List.mem_of_getElem? (i := 61) (by decide +kernel))) (by decide +kernel)
theorem kc_yX6_shortenBy : Cond.code yX6_shortenBy cX6_shortenBy 5 none ∈ wG := wG_of (List.mem_append_right _ (List.mem_of_getElem? (i := 62) (by decide +kernel))) (by decide +kernel)
theorem km_X6_108 : Cond.methodLink RX6 108 yX6_firstOf ∈ wG := wG_of (List.mem_append_right _ (List.mem_of_getElem? (i := 63) (by decide +kernel))) (by decide +kernel)
theorem ki_yX6_firstOf : Cond.instanceMethod yX6_firstOf ∈ wG := wG_of (List.mem_append_right _ (List.mem_of_getElem? (i := 65) (by decide +kernel))) (by decide +kernel)
theorem kc_yX6_firstOf : Cond.code yX6_firstOf cX6_firstOf 5 (some .int) ∈ wG := wG_of (List.mem_append_right _ (List.mem_of_getElem? (i := 66) (by decide +kernel))) (by decide +kernel)
theorem kf_X6_11 : Cond.fieldLink RX6 11 RX6 (TX6 0).2.1 (TX6 0).2.2.1 ∈ wG := wG_of (List.mem_append_right _ (List.mem_of_getElem? (i := 67) (by decide +kernel))) (by decide +kernel)
theorem kf_X6_15 : Cond.fieldLink RX6 15 RX6 (TX6 1).2.1 (TX6 1).2.2.1 ∈ wG := wG_of (List.mem_append_right _ (List.mem_of_getElem? (i := 68) (by decide +kernel))) (by decide +kernel)
theorem kf_X6_18 : Cond.fieldLink RX6 18 RX6 (TX6 2).2.1 (TX6 2).2.2.1 ∈ wG := wG_of (List.mem_append_right _ (List.mem_of_getElem? (i := 69) (by decide +kernel))) (by decide +kernel)
theorem kf_X6_21 : Cond.fieldLink RX6 21 RX6 (TX6 3).2.1 (TX6 3).2.2.1 ∈ wG := wG_of (List.mem_append_right _ (List.mem_of_getElem? (i := 70) (by decide +kernel))) (by decide +kernel)
theorem kf_X6_24 : Cond.fieldLink RX6 24 RX6 (TX6 4).2.1 (TX6 4).2.2.1 ∈ wG := wG_of (List.mem_append_right _ (List.mem_of_getElem? (i := 71) (by decide +kernel))) (by decide +kernel)
theorem kf_X6_27 : Cond.fieldLink RX6 27 RX6 (TX6 5).2.1 (TX6 5).2.2.1 ∈ wG := wG_of (List.mem_append_right _ (List.mem_of_getElem? (i := 72) (by decide +kernel))) (by decide +kernel)
theorem kf_X6_31 : Cond.fieldLink RX6 31 RX6 (TX6 6).2.1 (TX6 6).2.2.1 ∈ wG := wG_of (List.mem_append_right _ (List.mem_of_getElem? (i := 73) (by decide +kernel))) (by decide +kernel)
theorem kf_X6_35 : Cond.fieldLink RX6 35 RX6 (TX6 7).2.1 (TX6 7).2.2.1 ∈ wG := wG_of (List.mem_append_right _ (List.mem_of_getElem? (i := 74) (by decide +kernel))) (by decide +kernel)
theorem kf_X10_248 : Cond.fieldLink RX10 248 RX6 (TX6 7).2.1 (TX6 7).2.2.1 ∈ wG := wG_of (List.mem_append_right _ (List.mem_of_getElem? (i := 75) (by decide +kernel))) (by decide +kernel)
theorem kf_X6_38 : Cond.fieldLink RX6 38 RX6 (TX6 8).2.1 (TX6 8).2.2.1 ∈ wG := wG_of (List.mem_append_right _ (List.mem_of_getElem? (i := 76) (by decide +kernel))) (by decide +kernel)
theorem kf_X6_41 : Cond.fieldLink RX6 41 RX6 (TX6 9).2.1 (TX6 9).2.2.1 ∈ wG := wG_of (List.mem_append_right _ (List.mem_of_getElem? (i := 77) (by decide +kernel))) (by decide +kernel)
theorem kf_X6_44 : Cond.fieldLink RX6 44 RX6 (TX6 10).2.1 (TX6 10).2.2.1 ∈ wG := wG_of (List.mem_append_right _ (List.mem_of_getElem? (i := 78) (by decide +kernel))) (by decide +kernel)
theorem kf_X10_131 : Cond.fieldLink RX10 131 RX6 (TX6 10).2.1 (TX6 10).2.2.1 ∈ wG := wG_of (List.mem_append_right _ (List.mem_of_getElem? (i := 79) (by decide +kernel))) (by decide +kernel)
theorem kf_X1_134 : Cond.fieldLink RX1 134 RX6 (TX6 10).2.1 (TX6 10).2.2.1 ∈ wG := wG_of (List.mem_append_right _ (List.mem_of_getElem? (i := 80) (by decide +kernel))) (by decide +kernel)
theorem kf_X6_48 : Cond.fieldLink RX6 48 RX6 (TX6 11).2.1 (TX6 11).2.2.1 ∈ wG := wG_of (List.mem_append_right _ (List.mem_of_getElem? (i := 81) (by decide +kernel))) (by decide +kernel)
theorem kf_X10_127 : Cond.fieldLink RX10 127 RX6 (TX6 11).2.1 (TX6 11).2.2.1 ∈ wG := wG_of (List.mem_append_right _ (List.mem_of_getElem? (i := 82) (by decide +kernel))) (by decide +kernel)
theorem kf_X1_120 : Cond.fieldLink RX1 120 RX6 (TX6 11).2.1 (TX6 11).2.2.1 ∈ wG := wG_of (List.mem_append_right _ (List.mem_of_getElem? (i := 83) (by decide +kernel))) (by decide +kernel)
theorem kac_int : Cond.arrayClass .int ∈ wG := wG_of (List.mem_append_right _ (List.mem_of_getElem? (i := 109) (by decide +kernel))) (by decide +kernel)
theorem kac_boolean : Cond.arrayClass .boolean ∈ wG := wG_of (List.mem_append_right _ (List.mem_of_getElem? (i := 110) (by decide +kernel))) (by decide +kernel)
theorem kcl_X10_16 : Cond.classLink RX10 16 RX0 ∈ wG := wG_of (List.mem_append_right _ (List.mem_of_getElem? (i := 111) (by decide +kernel))) (by decide +kernel)
theorem kinst_X0 : Cond.instantiable RX0 2 ∈ wG := wG_of (List.mem_append_right _ (List.mem_of_getElem? (i := 112) (by decide +kernel))) (by decide +kernel)
theorem ki_yX0_init : Cond.instanceMethod yX0_init ∈ wG := wG_of (List.mem_append_right _ (List.mem_of_getElem? (i := 114) (by decide +kernel))) (by decide +kernel)
theorem kc_yX0_init : Cond.code yX0_init cX0_init 1 none ∈ wG := wG_of (List.mem_append_right _ (List.mem_of_getElem? (i := 115) (by decide +kernel))) (by decide +kernel)
theorem km_X0_3 : Cond.methodLink RX0 3 objectInit ∈ wG := wG_of (List.mem_append_right _ (List.mem_of_getElem? (i := 116) (by decide +kernel))) (by decide +kernel)
theorem kf_X0_11 : Cond.fieldLink RX0 11 RX0 (TX0 0).2.1 (TX0 0).2.2.1 ∈ wG := wG_of (List.mem_append_right _ (List.mem_of_getElem? (i := 117) (by decide +kernel))) (by decide +kernel)
theorem kf_X0_15 : Cond.fieldLink RX0 15 RX0 (TX0 1).2.1 (TX0 1).2.2.1 ∈ wG := wG_of (List.mem_append_right _ (List.mem_of_getElem? (i := 118) (by decide +kernel))) (by decide +kernel)
theorem kf_X10_251 : Cond.fieldLink RX10 251 RX0 (TX0 1).2.1 (TX0 1).2.2.1 ∈ wG := wG_of (List.mem_append_right _ (List.mem_of_getElem? (i := 119) (by decide +kernel))) (by decide +kernel)
theorem kcl_X10_23 : Cond.classLink RX10 23 RX2 ∈ wG := wG_of (List.mem_append_right _ (List.mem_of_getElem? (i := 125) (by decide +kernel))) (by decide +kernel)
theorem kinst_X2 : Cond.instantiable RX2 2 ∈ wG := wG_of (List.mem_append_right _ (List.mem_of_getElem? (i := 126) (by decide +kernel))) (by decide +kernel)
theorem ki_yX2_init : Cond.instanceMethod yX2_init ∈ wG := wG_of (List.mem_append_right _ (List.mem_of_getElem? (i := 128) (by decide +kernel))) (by decide +kernel)
theorem kc_yX2_init : Cond.code yX2_init cX2_init 1 none ∈ wG := wG_of (List.mem_append_right _ (List.mem_of_getElem? (i := 129) (by decide +kernel))) (by decide +kernel)
theorem km_X2_3 : Cond.methodLink RX2 3 objectInit ∈ wG := wG_of (List.mem_append_right _ (List.mem_of_getElem? (i := 130) (by decide +kernel))) (by decide +kernel)
theorem kf_X2_9 : Cond.fieldLink RX2 9 RX2 (TX2 0).2.1 (TX2 0).2.2.1 ∈ wG := wG_of (List.mem_append_right _ (List.mem_of_getElem? (i := 131) (by decide +kernel))) (by decide +kernel)
theorem kf_X3_96 : Cond.fieldLink RX3 96 RX2 (TX2 0).2.1 (TX2 0).2.2.1 ∈ wG := wG_of (List.mem_append_right _ (List.mem_of_getElem? (i := 132) (by decide +kernel))) (by decide +kernel)
theorem kf_X10_177 : Cond.fieldLink RX10 177 RX2 (TX2 0).2.1 (TX2 0).2.2.1 ∈ wG := wG_of (List.mem_append_right _ (List.mem_of_getElem? (i := 133) (by decide +kernel))) (by decide +kernel)
theorem kf_X2_15 : Cond.fieldLink RX2 15 RX2 (TX2 1).2.1 (TX2 1).2.2.1 ∈ wG := wG_of (List.mem_append_right _ (List.mem_of_getElem? (i := 134) (by decide +kernel))) (by decide +kernel)
theorem kf_X1_125 : Cond.fieldLink RX1 125 RX2 (TX2 1).2.1 (TX2 1).2.2.1 ∈ wG := wG_of (List.mem_append_right _ (List.mem_of_getElem? (i := 135) (by decide +kernel))) (by decide +kernel)
theorem kf_X10_181 : Cond.fieldLink RX10 181 RX2 (TX2 1).2.1 (TX2 1).2.2.1 ∈ wG := wG_of (List.mem_append_right _ (List.mem_of_getElem? (i := 136) (by decide +kernel))) (by decide +kernel)
theorem kac_long : Cond.arrayClass .long ∈ wG := wG_of (List.mem_append_right _ (List.mem_of_getElem? (i := 142) (by decide +kernel))) (by decide +kernel)
theorem kcl_X10_30 : Cond.classLink RX10 30 RX3 ∈ wG := wG_of (List.mem_append_right _ (List.mem_of_getElem? (i := 143) (by decide +kernel))) (by decide +kernel)
theorem kinst_X3 : Cond.instantiable RX3 7 ∈ wG := wG_of (List.mem_append_right _ (List.mem_of_getElem? (i := 144) (by decide +kernel))) (by decide +kernel)
theorem km_X10_32 : Cond.methodLink RX10 32 yX3_init ∈ wG := wG_of (List.mem_append_right _ (List.mem_of_getElem? (i := 145) (by decide +kernel))) (by decide +kernel)
theorem ki_yX3_init : Cond.instanceMethod yX3_init ∈ wG := wG_of (List.mem_append_right _ (List.mem_of_getElem? (i := 146) (by decide +kernel))) (by decide +kernel)
theorem kc_yX3_init : Cond.code yX3_init cX3_init 4 none ∈ wG := wG_of (List.mem_append_right _ (List.mem_of_getElem? (i := 147) (by decide +kernel))) (by decide +kernel)
theorem km_X3_3 : Cond.methodLink RX3 3 objectInit ∈ wG := wG_of (List.mem_append_right _ (List.mem_of_getElem? (i := 148) (by decide +kernel))) (by decide +kernel)
theorem kk_X3_15 : Cond.constant RX3 15 (268435456) ∈ wG := wG_of (List.mem_append_right _ (List.mem_of_getElem? (i := 149) (by decide +kernel))) (by decide +kernel)
theorem kf_X3_26 : Cond.fieldLink RX3 26 RX3 (TX3 0).2.1 (TX3 0).2.2.1 ∈ wG := wG_of (List.mem_append_right _ (List.mem_of_getElem? (i := 150) (by decide +kernel))) (by decide +kernel)
theorem kf_X3_30 : Cond.fieldLink RX3 30 RX3 (TX3 1).2.1 (TX3 1).2.2.1 ∈ wG := wG_of (List.mem_append_right _ (List.mem_of_getElem? (i := 151) (by decide +kernel))) (by decide +kernel)
theorem kf_X3_34 : Cond.fieldLink RX3 34 RX3 (TX3 2).2.1 (TX3 2).2.2.1 ∈ wG := wG_of (List.mem_append_right _ (List.mem_of_getElem? (i := 152) (by decide +kernel))) (by decide +kernel)
theorem kf_X3_9 : Cond.fieldLink RX3 9 RX3 (TX3 3).2.1 (TX3 3).2.2.1 ∈ wG := wG_of (List.mem_append_right _ (List.mem_of_getElem? (i := 153) (by decide +kernel))) (by decide +kernel)
theorem kf_X3_16 : Cond.fieldLink RX3 16 RX3 (TX3 4).2.1 (TX3 4).2.2.1 ∈ wG := wG_of (List.mem_append_right _ (List.mem_of_getElem? (i := 154) (by decide +kernel))) (by decide +kernel)
theorem kf_X10_192 : Cond.fieldLink RX10 192 RX3 (TX3 4).2.1 (TX3 4).2.2.1 ∈ wG := wG_of (List.mem_append_right _ (List.mem_of_getElem? (i := 155) (by decide +kernel))) (by decide +kernel)
theorem kf_X3_20 : Cond.fieldLink RX3 20 RX3 (TX3 5).2.1 (TX3 5).2.2.1 ∈ wG := wG_of (List.mem_append_right _ (List.mem_of_getElem? (i := 156) (by decide +kernel))) (by decide +kernel)
theorem kf_X1_74 : Cond.fieldLink RX1 74 RX3 (TX3 5).2.1 (TX3 5).2.2.1 ∈ wG := wG_of (List.mem_append_right _ (List.mem_of_getElem? (i := 157) (by decide +kernel))) (by decide +kernel)
theorem kf_X10_195 : Cond.fieldLink RX10 195 RX3 (TX3 5).2.1 (TX3 5).2.2.1 ∈ wG := wG_of (List.mem_append_right _ (List.mem_of_getElem? (i := 158) (by decide +kernel))) (by decide +kernel)
theorem kf_X3_23 : Cond.fieldLink RX3 23 RX3 (TX3 6).2.1 (TX3 6).2.2.1 ∈ wG := wG_of (List.mem_append_right _ (List.mem_of_getElem? (i := 159) (by decide +kernel))) (by decide +kernel)
theorem kf_X1_62 : Cond.fieldLink RX1 62 RX3 (TX3 6).2.1 (TX3 6).2.2.1 ∈ wG := wG_of (List.mem_append_right _ (List.mem_of_getElem? (i := 160) (by decide +kernel))) (by decide +kernel)
theorem kf_X10_198 : Cond.fieldLink RX10 198 RX3 (TX3 6).2.1 (TX3 6).2.2.1 ∈ wG := wG_of (List.mem_append_right _ (List.mem_of_getElem? (i := 161) (by decide +kernel))) (by decide +kernel)
theorem kcl_X10_39 : Cond.classLink RX10 39 RX7 ∈ wG := wG_of (List.mem_append_right _ (List.mem_of_getElem? (i := 177) (by decide +kernel))) (by decide +kernel)
theorem kcl_X10_45 : Cond.classLink RX10 45 RX9 ∈ wG := wG_of (List.mem_append_right _ (List.mem_of_getElem? (i := 179) (by decide +kernel))) (by decide +kernel)
theorem kinst_X9 : Cond.instantiable RX9 7 ∈ wG := wG_of (List.mem_append_right _ (List.mem_of_getElem? (i := 180) (by decide +kernel))) (by decide +kernel)
theorem km_X10_47 : Cond.methodLink RX10 47 yX9_init ∈ wG := wG_of (List.mem_append_right _ (List.mem_of_getElem? (i := 181) (by decide +kernel))) (by decide +kernel)
theorem ki_yX9_init : Cond.instanceMethod yX9_init ∈ wG := wG_of (List.mem_append_right _ (List.mem_of_getElem? (i := 182) (by decide +kernel))) (by decide +kernel)
theorem kc_yX9_init : Cond.code yX9_init cX9_init 3 none ∈ wG := wG_of (List.mem_append_right _ (List.mem_of_getElem? (i := 183) (by decide +kernel))) (by decide +kernel)
theorem km_X9_3 : Cond.methodLink RX9 3 objectInit ∈ wG := wG_of (List.mem_append_right _ (List.mem_of_getElem? (i := 184) (by decide +kernel))) (by decide +kernel)
theorem km_X9_36 : Cond.methodLink RX9 36 yX9_forgetAll ∈ wG := wG_of (List.mem_append_right _ (List.mem_of_getElem? (i := 185) (by decide +kernel))) (by decide +kernel)
theorem ki_yX9_forgetAll : Cond.instanceMethod yX9_forgetAll ∈ wG := wG_of (List.mem_append_right _ (List.mem_of_getElem? (i := 186) (by decide +kernel))) (by decide +kernel)
theorem ksel_X9_yX9_forgetAll : Cond.selects RX9 yX9_forgetAll yX9_forgetAll ∈ wG := wG_of (List.mem_append_right _ (List.mem_of_getElem? (i := 187) (by decide +kernel))) (by decide +kernel)
theorem kc_yX9_forgetAll : Cond.code yX9_forgetAll cX9_forgetAll 1 none ∈ wG := wG_of (List.mem_append_right _ (List.mem_of_getElem? (i := 188) (by decide +kernel))) (by decide +kernel)
theorem km_X9_39 : Cond.methodLink RX9 39 yJ7_fill_53178 ∈ wG := wG_of (List.mem_append_right _ (List.mem_of_getElem? (i := 189) (by decide +kernel))) (by decide +kernel)
theorem kf_X9_28 : Cond.fieldLink RX9 28 RX9 (TX9 0).2.1 (TX9 0).2.2.1 ∈ wG := wG_of (List.mem_append_right _ (List.mem_of_getElem? (i := 190) (by decide +kernel))) (by decide +kernel)
theorem kf_X9_32 : Cond.fieldLink RX9 32 RX9 (TX9 1).2.1 (TX9 1).2.2.1 ∈ wG := wG_of (List.mem_append_right _ (List.mem_of_getElem? (i := 191) (by decide +kernel))) (by decide +kernel)
theorem kf_X9_9 : Cond.fieldLink RX9 9 RX9 (TX9 2).2.1 (TX9 2).2.2.1 ∈ wG := wG_of (List.mem_append_right _ (List.mem_of_getElem? (i := 192) (by decide +kernel))) (by decide +kernel)
theorem kf_X9_15 : Cond.fieldLink RX9 15 RX9 (TX9 3).2.1 (TX9 3).2.2.1 ∈ wG := wG_of (List.mem_append_right _ (List.mem_of_getElem? (i := 193) (by decide +kernel))) (by decide +kernel)
theorem kf_X9_18 : Cond.fieldLink RX9 18 RX9 (TX9 4).2.1 (TX9 4).2.2.1 ∈ wG := wG_of (List.mem_append_right _ (List.mem_of_getElem? (i := 194) (by decide +kernel))) (by decide +kernel)
theorem kf_X10_213 : Cond.fieldLink RX10 213 RX9 (TX9 4).2.1 (TX9 4).2.2.1 ∈ wG := wG_of (List.mem_append_right _ (List.mem_of_getElem? (i := 195) (by decide +kernel))) (by decide +kernel)
theorem kf_X9_22 : Cond.fieldLink RX9 22 RX9 (TX9 5).2.1 (TX9 5).2.2.1 ∈ wG := wG_of (List.mem_append_right _ (List.mem_of_getElem? (i := 196) (by decide +kernel))) (by decide +kernel)
theorem kf_X10_214 : Cond.fieldLink RX10 214 RX9 (TX9 5).2.1 (TX9 5).2.2.1 ∈ wG := wG_of (List.mem_append_right _ (List.mem_of_getElem? (i := 197) (by decide +kernel))) (by decide +kernel)
theorem kf_X9_25 : Cond.fieldLink RX9 25 RX9 (TX9 6).2.1 (TX9 6).2.2.1 ∈ wG := wG_of (List.mem_append_right _ (List.mem_of_getElem? (i := 198) (by decide +kernel))) (by decide +kernel)
theorem kf_X10_217 : Cond.fieldLink RX10 217 RX9 (TX9 6).2.1 (TX9 6).2.2.1 ∈ wG := wG_of (List.mem_append_right _ (List.mem_of_getElem? (i := 199) (by decide +kernel))) (by decide +kernel)
theorem kcl_X10_54 : Cond.classLink RX10 54 RX8 ∈ wG := wG_of (List.mem_append_right _ (List.mem_of_getElem? (i := 215) (by decide +kernel))) (by decide +kernel)
theorem kinst_X8 : Cond.instantiable RX8 3 ∈ wG := wG_of (List.mem_append_right _ (List.mem_of_getElem? (i := 216) (by decide +kernel))) (by decide +kernel)
theorem ki_yX8_init : Cond.instanceMethod yX8_init ∈ wG := wG_of (List.mem_append_right _ (List.mem_of_getElem? (i := 218) (by decide +kernel))) (by decide +kernel)
theorem kc_yX8_init : Cond.code yX8_init cX8_init 1 none ∈ wG := wG_of (List.mem_append_right _ (List.mem_of_getElem? (i := 219) (by decide +kernel))) (by decide +kernel)
theorem km_X8_3 : Cond.methodLink RX8 3 objectInit ∈ wG := wG_of (List.mem_append_right _ (List.mem_of_getElem? (i := 220) (by decide +kernel))) (by decide +kernel)
theorem kf_X8_9 : Cond.fieldLink RX8 9 RX8 (TX8 0).2.1 (TX8 0).2.2.1 ∈ wG := wG_of (List.mem_append_right _ (List.mem_of_getElem? (i := 221) (by decide +kernel))) (by decide +kernel)
theorem kf_X10_264 : Cond.fieldLink RX10 264 RX8 (TX8 0).2.1 (TX8 0).2.2.1 ∈ wG := wG_of (List.mem_append_right _ (List.mem_of_getElem? (i := 222) (by decide +kernel))) (by decide +kernel)
theorem kf_X8_15 : Cond.fieldLink RX8 15 RX8 (TX8 1).2.1 (TX8 1).2.2.1 ∈ wG := wG_of (List.mem_append_right _ (List.mem_of_getElem? (i := 223) (by decide +kernel))) (by decide +kernel)
theorem kf_X10_225 : Cond.fieldLink RX10 225 RX8 (TX8 1).2.1 (TX8 1).2.2.1 ∈ wG := wG_of (List.mem_append_right _ (List.mem_of_getElem? (i := 224) (by decide +kernel))) (by decide +kernel)
theorem kf_X8_19 : Cond.fieldLink RX8 19 RX8 (TX8 2).2.1 (TX8 2).2.2.1 ∈ wG := wG_of (List.mem_append_right _ (List.mem_of_getElem? (i := 225) (by decide +kernel))) (by decide +kernel)
theorem kf_X10_220 : Cond.fieldLink RX10 220 RX8 (TX8 2).2.1 (TX8 2).2.2.1 ∈ wG := wG_of (List.mem_append_right _ (List.mem_of_getElem? (i := 226) (by decide +kernel))) (by decide +kernel)
theorem kcl_X10_61 : Cond.classLink RX10 61 RX4 ∈ wG := wG_of (List.mem_append_right _ (List.mem_of_getElem? (i := 234) (by decide +kernel))) (by decide +kernel)
theorem kinst_X4 : Cond.instantiable RX4 5 ∈ wG := wG_of (List.mem_append_right _ (List.mem_of_getElem? (i := 235) (by decide +kernel))) (by decide +kernel)
theorem ki_yX4_init : Cond.instanceMethod yX4_init ∈ wG := wG_of (List.mem_append_right _ (List.mem_of_getElem? (i := 237) (by decide +kernel))) (by decide +kernel)
theorem kc_yX4_init : Cond.code yX4_init cX4_init 1 none ∈ wG := wG_of (List.mem_append_right _ (List.mem_of_getElem? (i := 238) (by decide +kernel))) (by decide +kernel)
theorem km_X4_3 : Cond.methodLink RX4 3 objectInit ∈ wG := wG_of (List.mem_append_right _ (List.mem_of_getElem? (i := 239) (by decide +kernel))) (by decide +kernel)
theorem kf_X4_9 : Cond.fieldLink RX4 9 RX4 (TX4 0).2.1 (TX4 0).2.2.1 ∈ wG := wG_of (List.mem_append_right _ (List.mem_of_getElem? (i := 240) (by decide +kernel))) (by decide +kernel)
theorem kf_X1_91 : Cond.fieldLink RX1 91 RX4 (TX4 0).2.1 (TX4 0).2.2.1 ∈ wG := wG_of (List.mem_append_right _ (List.mem_of_getElem? (i := 241) (by decide +kernel))) (by decide +kernel)
theorem kf_X10_135 : Cond.fieldLink RX10 135 RX4 (TX4 0).2.1 (TX4 0).2.2.1 ∈ wG := wG_of (List.mem_append_right _ (List.mem_of_getElem? (i := 242) (by decide +kernel))) (by decide +kernel)
theorem kf_X4_15 : Cond.fieldLink RX4 15 RX4 (TX4 1).2.1 (TX4 1).2.2.1 ∈ wG := wG_of (List.mem_append_right _ (List.mem_of_getElem? (i := 243) (by decide +kernel))) (by decide +kernel)
theorem kf_X10_242 : Cond.fieldLink RX10 242 RX4 (TX4 1).2.1 (TX4 1).2.2.1 ∈ wG := wG_of (List.mem_append_right _ (List.mem_of_getElem? (i := 244) (by decide +kernel))) (by decide +kernel)
theorem kf_X4_19 : Cond.fieldLink RX4 19 RX4 (TX4 2).2.1 (TX4 2).2.2.1 ∈ wG := wG_of (List.mem_append_right _ (List.mem_of_getElem? (i := 245) (by decide +kernel))) (by decide +kernel)
theorem kf_X10_245 : Cond.fieldLink RX10 245 RX4 (TX4 2).2.1 (TX4 2).2.2.1 ∈ wG := wG_of (List.mem_append_right _ (List.mem_of_getElem? (i := 246) (by decide +kernel))) (by decide +kernel)
theorem kf_X4_22 : Cond.fieldLink RX4 22 RX4 (TX4 3).2.1 (TX4 3).2.2.1 ∈ wG := wG_of (List.mem_append_right _ (List.mem_of_getElem? (i := 247) (by decide +kernel))) (by decide +kernel)
theorem kf_X1_96 : Cond.fieldLink RX1 96 RX4 (TX4 3).2.1 (TX4 3).2.2.1 ∈ wG := wG_of (List.mem_append_right _ (List.mem_of_getElem? (i := 248) (by decide +kernel))) (by decide +kernel)
theorem kf_X10_258 : Cond.fieldLink RX10 258 RX4 (TX4 3).2.1 (TX4 3).2.2.1 ∈ wG := wG_of (List.mem_append_right _ (List.mem_of_getElem? (i := 249) (by decide +kernel))) (by decide +kernel)
theorem kf_X4_25 : Cond.fieldLink RX4 25 RX4 (TX4 4).2.1 (TX4 4).2.2.1 ∈ wG := wG_of (List.mem_append_right _ (List.mem_of_getElem? (i := 250) (by decide +kernel))) (by decide +kernel)
theorem kf_X1_99 : Cond.fieldLink RX1 99 RX4 (TX4 4).2.1 (TX4 4).2.2.1 ∈ wG := wG_of (List.mem_append_right _ (List.mem_of_getElem? (i := 251) (by decide +kernel))) (by decide +kernel)
theorem kf_X10_261 : Cond.fieldLink RX10 261 RX4 (TX4 4).2.1 (TX4 4).2.2.1 ∈ wG := wG_of (List.mem_append_right _ (List.mem_of_getElem? (i := 252) (by decide +kernel))) (by decide +kernel)
theorem kcl_X10_68 : Cond.classLink RX10 68 RX1 ∈ wG := wG_of (List.mem_append_right _ (List.mem_of_getElem? (i := 264) (by decide +kernel))) (by decide +kernel)
theorem kinst_X1 : Cond.instantiable RX1 11 ∈ wG := wG_of (List.mem_append_right _ (List.mem_of_getElem? (i := 265) (by decide +kernel))) (by decide +kernel)
theorem km_X10_70 : Cond.methodLink RX10 70 yX1_init ∈ wG := wG_of (List.mem_append_right _ (List.mem_of_getElem? (i := 266) (by decide +kernel))) (by decide +kernel)
theorem ki_yX1_init : Cond.instanceMethod yX1_init ∈ wG := wG_of (List.mem_append_right _ (List.mem_of_getElem? (i := 267) (by decide +kernel))) (by decide +kernel)
theorem kc_yX1_init : Cond.code yX1_init cX1_init 7 none ∈ wG := wG_of (List.mem_append_right _ (List.mem_of_getElem? (i := 268) (by decide +kernel))) (by decide +kernel)
theorem km_X1_3 : Cond.methodLink RX1 3 objectInit ∈ wG := wG_of (List.mem_append_right _ (List.mem_of_getElem? (i := 269) (by decide +kernel))) (by decide +kernel)
theorem kcl_X1_15 : Cond.classLink RX1 15 RX5 ∈ wG := wG_of (List.mem_append_right _ (List.mem_of_getElem? (i := 270) (by decide +kernel))) (by decide +kernel)
theorem kinst_X5 : Cond.instantiable RX5 8 ∈ wG := wG_of (List.mem_append_right _ (List.mem_of_getElem? (i := 272) (by decide +kernel))) (by decide +kernel)
theorem ki_yX5_init : Cond.instanceMethod yX5_init ∈ wG := wG_of (List.mem_append_right _ (List.mem_of_getElem? (i := 274) (by decide +kernel))) (by decide +kernel)
theorem kc_yX5_init : Cond.code yX5_init cX5_init 1 none ∈ wG := wG_of (List.mem_append_right _ (List.mem_of_getElem? (i := 275) (by decide +kernel))) (by decide +kernel)
theorem km_X5_3 : Cond.methodLink RX5 3 objectInit ∈ wG := wG_of (List.mem_append_right _ (List.mem_of_getElem? (i := 276) (by decide +kernel))) (by decide +kernel)
theorem kf_X5_9 : Cond.fieldLink RX5 9 RX5 (TX5 0).2.1 (TX5 0).2.2.1 ∈ wG := wG_of (List.mem_append_right _ (List.mem_of_getElem? (i := 277) (by decide +kernel))) (by decide +kernel)
theorem kf_X3_59 : Cond.fieldLink RX3 59 RX5 (TX5 0).2.1 (TX5 0).2.2.1 ∈ wG := wG_of (List.mem_append_right _ (List.mem_of_getElem? (i := 278) (by decide +kernel))) (by decide +kernel)
theorem kf_X5_15 : Cond.fieldLink RX5 15 RX5 (TX5 1).2.1 (TX5 1).2.2.1 ∈ wG := wG_of (List.mem_append_right _ (List.mem_of_getElem? (i := 279) (by decide +kernel))) (by decide +kernel)
theorem kf_X3_70 : Cond.fieldLink RX3 70 RX5 (TX5 1).2.1 (TX5 1).2.2.1 ∈ wG := wG_of (List.mem_append_right _ (List.mem_of_getElem? (i := 280) (by decide +kernel))) (by decide +kernel)
theorem kf_X1_156 : Cond.fieldLink RX1 156 RX5 (TX5 1).2.1 (TX5 1).2.2.1 ∈ wG := wG_of (List.mem_append_right _ (List.mem_of_getElem? (i := 281) (by decide +kernel))) (by decide +kernel)
theorem kf_X5_18 : Cond.fieldLink RX5 18 RX5 (TX5 2).2.1 (TX5 2).2.2.1 ∈ wG := wG_of (List.mem_append_right _ (List.mem_of_getElem? (i := 282) (by decide +kernel))) (by decide +kernel)
theorem kf_X1_102 : Cond.fieldLink RX1 102 RX5 (TX5 2).2.1 (TX5 2).2.2.1 ∈ wG := wG_of (List.mem_append_right _ (List.mem_of_getElem? (i := 283) (by decide +kernel))) (by decide +kernel)
theorem kf_X3_79 : Cond.fieldLink RX3 79 RX5 (TX5 2).2.1 (TX5 2).2.2.1 ∈ wG := wG_of (List.mem_append_right _ (List.mem_of_getElem? (i := 284) (by decide +kernel))) (by decide +kernel)
theorem kf_X10_164 : Cond.fieldLink RX10 164 RX5 (TX5 2).2.1 (TX5 2).2.2.1 ∈ wG := wG_of (List.mem_append_right _ (List.mem_of_getElem? (i := 285) (by decide +kernel))) (by decide +kernel)
theorem kf_X5_21 : Cond.fieldLink RX5 21 RX5 (TX5 3).2.1 (TX5 3).2.2.1 ∈ wG := wG_of (List.mem_append_right _ (List.mem_of_getElem? (i := 286) (by decide +kernel))) (by decide +kernel)
theorem kf_X1_105 : Cond.fieldLink RX1 105 RX5 (TX5 3).2.1 (TX5 3).2.2.1 ∈ wG := wG_of (List.mem_append_right _ (List.mem_of_getElem? (i := 287) (by decide +kernel))) (by decide +kernel)
theorem kf_X3_102 : Cond.fieldLink RX3 102 RX5 (TX5 3).2.1 (TX5 3).2.2.1 ∈ wG := wG_of (List.mem_append_right _ (List.mem_of_getElem? (i := 288) (by decide +kernel))) (by decide +kernel)
theorem kf_X5_25 : Cond.fieldLink RX5 25 RX5 (TX5 4).2.1 (TX5 4).2.2.1 ∈ wG := wG_of (List.mem_append_right _ (List.mem_of_getElem? (i := 289) (by decide +kernel))) (by decide +kernel)
theorem kf_X1_135 : Cond.fieldLink RX1 135 RX5 (TX5 4).2.1 (TX5 4).2.2.1 ∈ wG := wG_of (List.mem_append_right _ (List.mem_of_getElem? (i := 290) (by decide +kernel))) (by decide +kernel)
theorem kf_X5_28 : Cond.fieldLink RX5 28 RX5 (TX5 5).2.1 (TX5 5).2.2.1 ∈ wG := wG_of (List.mem_append_right _ (List.mem_of_getElem? (i := 291) (by decide +kernel))) (by decide +kernel)
theorem kf_X1_138 : Cond.fieldLink RX1 138 RX5 (TX5 5).2.1 (TX5 5).2.2.1 ∈ wG := wG_of (List.mem_append_right _ (List.mem_of_getElem? (i := 292) (by decide +kernel))) (by decide +kernel)
theorem kf_X5_31 : Cond.fieldLink RX5 31 RX5 (TX5 6).2.1 (TX5 6).2.2.1 ∈ wG := wG_of (List.mem_append_right _ (List.mem_of_getElem? (i := 293) (by decide +kernel))) (by decide +kernel)
theorem kf_X1_158 : Cond.fieldLink RX1 158 RX5 (TX5 6).2.1 (TX5 6).2.2.1 ∈ wG := wG_of (List.mem_append_right _ (List.mem_of_getElem? (i := 294) (by decide +kernel))) (by decide +kernel)
theorem kf_X5_34 : Cond.fieldLink RX5 34 RX5 (TX5 7).2.1 (TX5 7).2.2.1 ∈ wG := wG_of (List.mem_append_right _ (List.mem_of_getElem? (i := 295) (by decide +kernel))) (by decide +kernel)
theorem kf_X10_167 : Cond.fieldLink RX10 167 RX5 (TX5 7).2.1 (TX5 7).2.2.1 ∈ wG := wG_of (List.mem_append_right _ (List.mem_of_getElem? (i := 296) (by decide +kernel))) (by decide +kernel)
theorem kf_X1_161 : Cond.fieldLink RX1 161 RX5 (TX5 7).2.1 (TX5 7).2.2.1 ∈ wG := wG_of (List.mem_append_right _ (List.mem_of_getElem? (i := 297) (by decide +kernel))) (by decide +kernel)
theorem kf_X1_39 : Cond.fieldLink RX1 39 RX1 (TX1 0).2.1 (TX1 0).2.2.1 ∈ wG := wG_of (List.mem_append_right _ (List.mem_of_getElem? (i := 315) (by decide +kernel))) (by decide +kernel)
theorem kf_X1_43 : Cond.fieldLink RX1 43 RX1 (TX1 1).2.1 (TX1 1).2.2.1 ∈ wG := wG_of (List.mem_append_right _ (List.mem_of_getElem? (i := 316) (by decide +kernel))) (by decide +kernel)
theorem kf_X1_47 : Cond.fieldLink RX1 47 RX1 (TX1 2).2.1 (TX1 2).2.2.1 ∈ wG := wG_of (List.mem_append_right _ (List.mem_of_getElem? (i := 317) (by decide +kernel))) (by decide +kernel)
theorem kf_X1_51 : Cond.fieldLink RX1 51 RX1 (TX1 3).2.1 (TX1 3).2.2.1 ∈ wG := wG_of (List.mem_append_right _ (List.mem_of_getElem? (i := 318) (by decide +kernel))) (by decide +kernel)
theorem kf_X1_9 : Cond.fieldLink RX1 9 RX1 (TX1 4).2.1 (TX1 4).2.2.1 ∈ wG := wG_of (List.mem_append_right _ (List.mem_of_getElem? (i := 319) (by decide +kernel))) (by decide +kernel)
theorem kf_X10_228 : Cond.fieldLink RX10 228 RX1 (TX1 4).2.1 (TX1 4).2.2.1 ∈ wG := wG_of (List.mem_append_right _ (List.mem_of_getElem? (i := 320) (by decide +kernel))) (by decide +kernel)
theorem kf_X1_17 : Cond.fieldLink RX1 17 RX1 (TX1 5).2.1 (TX1 5).2.2.1 ∈ wG := wG_of (List.mem_append_right _ (List.mem_of_getElem? (i := 321) (by decide +kernel))) (by decide +kernel)
theorem kf_X1_21 : Cond.fieldLink RX1 21 RX1 (TX1 6).2.1 (TX1 6).2.2.1 ∈ wG := wG_of (List.mem_append_right _ (List.mem_of_getElem? (i := 322) (by decide +kernel))) (by decide +kernel)
theorem kf_X1_25 : Cond.fieldLink RX1 25 RX1 (TX1 7).2.1 (TX1 7).2.2.1 ∈ wG := wG_of (List.mem_append_right _ (List.mem_of_getElem? (i := 323) (by decide +kernel))) (by decide +kernel)
theorem kf_X1_29 : Cond.fieldLink RX1 29 RX1 (TX1 8).2.1 (TX1 8).2.2.1 ∈ wG := wG_of (List.mem_append_right _ (List.mem_of_getElem? (i := 324) (by decide +kernel))) (by decide +kernel)
theorem kf_X1_32 : Cond.fieldLink RX1 32 RX1 (TX1 9).2.1 (TX1 9).2.2.1 ∈ wG := wG_of (List.mem_append_right _ (List.mem_of_getElem? (i := 325) (by decide +kernel))) (by decide +kernel)
theorem kf_X1_35 : Cond.fieldLink RX1 35 RX1 (TX1 10).2.1 (TX1 10).2.2.1 ∈ wG := wG_of (List.mem_append_right _ (List.mem_of_getElem? (i := 326) (by decide +kernel))) (by decide +kernel)
theorem kinst_X7 : Cond.instantiable RX7 2 ∈ wG := wG_of (List.mem_append_right _ (List.mem_of_getElem? (i := 350) (by decide +kernel))) (by decide +kernel)
theorem km_X10_77 : Cond.methodLink RX10 77 yX7_init ∈ wG := wG_of (List.mem_append_right _ (List.mem_of_getElem? (i := 351) (by decide +kernel))) (by decide +kernel)
theorem ki_yX7_init : Cond.instanceMethod yX7_init ∈ wG := wG_of (List.mem_append_right _ (List.mem_of_getElem? (i := 352) (by decide +kernel))) (by decide +kernel)
theorem kc_yX7_init : Cond.code yX7_init cX7_init 2 none ∈ wG := wG_of (List.mem_append_right _ (List.mem_of_getElem? (i := 353) (by decide +kernel))) (by decide +kernel)
theorem km_X7_3 : Cond.methodLink RX7 3 objectInit ∈ wG := wG_of (List.mem_append_right _ (List.mem_of_getElem? (i := 354) (by decide +kernel))) (by decide +kernel)
theorem kcl_X7_9 : Cond.classLink RX7 9 RX5 ∈ wG := wG_of (List.mem_append_right _ (List.mem_of_getElem? (i := 355) (by decide +kernel))) (by decide +kernel)
theorem kf_X7_11 : Cond.fieldLink RX7 11 RX7 (TX7 0).2.1 (TX7 0).2.2.1 ∈ wG := wG_of (List.mem_append_right _ (List.mem_of_getElem? (i := 357) (by decide +kernel))) (by decide +kernel)
theorem kf_X3_43 : Cond.fieldLink RX3 43 RX7 (TX7 0).2.1 (TX7 0).2.2.1 ∈ wG := wG_of (List.mem_append_right _ (List.mem_of_getElem? (i := 358) (by decide +kernel))) (by decide +kernel)
theorem kf_X1_69 : Cond.fieldLink RX1 69 RX7 (TX7 0).2.1 (TX7 0).2.2.1 ∈ wG := wG_of (List.mem_append_right _ (List.mem_of_getElem? (i := 359) (by decide +kernel))) (by decide +kernel)
theorem kf_X10_154 : Cond.fieldLink RX10 154 RX7 (TX7 0).2.1 (TX7 0).2.2.1 ∈ wG := wG_of (List.mem_append_right _ (List.mem_of_getElem? (i := 360) (by decide +kernel))) (by decide +kernel)
theorem kf_X7_17 : Cond.fieldLink RX7 17 RX7 (TX7 1).2.1 (TX7 1).2.2.1 ∈ wG := wG_of (List.mem_append_right _ (List.mem_of_getElem? (i := 361) (by decide +kernel))) (by decide +kernel)
theorem kf_X3_38 : Cond.fieldLink RX3 38 RX7 (TX7 1).2.1 (TX7 1).2.2.1 ∈ wG := wG_of (List.mem_append_right _ (List.mem_of_getElem? (i := 362) (by decide +kernel))) (by decide +kernel)
theorem kf_X10_142 : Cond.fieldLink RX10 142 RX7 (TX7 1).2.1 (TX7 1).2.2.1 ∈ wG := wG_of (List.mem_append_right _ (List.mem_of_getElem? (i := 363) (by decide +kernel))) (by decide +kernel)
theorem kf_X10_12 : Cond.fieldLink RX10 12 RX10 (TX10 0).2.1 (TX10 0).2.2.1 ∈ wG := wG_of (List.mem_append_right _ (List.mem_of_getElem? (i := 369) (by decide +kernel))) (by decide +kernel)
theorem kf_X10_19 : Cond.fieldLink RX10 19 RX10 (TX10 1).2.1 (TX10 1).2.2.1 ∈ wG := wG_of (List.mem_append_right _ (List.mem_of_getElem? (i := 370) (by decide +kernel))) (by decide +kernel)
theorem kf_X10_26 : Cond.fieldLink RX10 26 RX10 (TX10 2).2.1 (TX10 2).2.2.1 ∈ wG := wG_of (List.mem_append_right _ (List.mem_of_getElem? (i := 371) (by decide +kernel))) (by decide +kernel)
theorem kf_X10_35 : Cond.fieldLink RX10 35 RX10 (TX10 3).2.1 (TX10 3).2.2.1 ∈ wG := wG_of (List.mem_append_right _ (List.mem_of_getElem? (i := 372) (by decide +kernel))) (by decide +kernel)
theorem kf_X10_41 : Cond.fieldLink RX10 41 RX10 (TX10 4).2.1 (TX10 4).2.2.1 ∈ wG := wG_of (List.mem_append_right _ (List.mem_of_getElem? (i := 373) (by decide +kernel))) (by decide +kernel)
theorem kf_X10_50 : Cond.fieldLink RX10 50 RX10 (TX10 5).2.1 (TX10 5).2.2.1 ∈ wG := wG_of (List.mem_append_right _ (List.mem_of_getElem? (i := 374) (by decide +kernel))) (by decide +kernel)
theorem kf_X10_57 : Cond.fieldLink RX10 57 RX10 (TX10 6).2.1 (TX10 6).2.2.1 ∈ wG := wG_of (List.mem_append_right _ (List.mem_of_getElem? (i := 375) (by decide +kernel))) (by decide +kernel)
theorem kf_X10_64 : Cond.fieldLink RX10 64 RX10 (TX10 7).2.1 (TX10 7).2.2.1 ∈ wG := wG_of (List.mem_append_right _ (List.mem_of_getElem? (i := 376) (by decide +kernel))) (by decide +kernel)
theorem kf_X10_73 : Cond.fieldLink RX10 73 RX10 (TX10 8).2.1 (TX10 8).2.2.1 ∈ wG := wG_of (List.mem_append_right _ (List.mem_of_getElem? (i := 377) (by decide +kernel))) (by decide +kernel)
theorem km_L_13 : Cond.methodLink RL 13 yX10_rule ∈ wG := wG_of (List.mem_append_right _ (List.mem_of_getElem? (i := 397) (by decide +kernel))) (by decide +kernel)
theorem ki_yX10_rule : Cond.instanceMethod yX10_rule ∈ wG := wG_of (List.mem_append_right _ (List.mem_of_getElem? (i := 398) (by decide +kernel))) (by decide +kernel)
theorem ksel_X10_yX10_rule : Cond.selects RX10 yX10_rule yX10_rule ∈ wG := wG_of (List.mem_append_right _ (List.mem_of_getElem? (i := 399) (by decide +kernel))) (by decide +kernel)
theorem kc_yX10_rule : Cond.code yX10_rule cX10_rule 5 (some .int) ∈ wG := wG_of (List.mem_append_right _ (List.mem_of_getElem? (i := 400) (by decide +kernel))) (by decide +kernel)
theorem km_X10_78 : Cond.methodLink RX10 78 yX10_isSort ∈ wG := wG_of (List.mem_append_right _ (List.mem_of_getElem? (i := 401) (by decide +kernel))) (by decide +kernel)
theorem ks_yX10_isSort : Cond.static yX10_isSort ∈ wG := wG_of (List.mem_append_right _ (List.mem_of_getElem? (i := 402) (by decide +kernel))) (by decide +kernel)
theorem kc_yX10_isSort : Cond.code yX10_isSort cX10_isSort 1 (some .boolean) ∈ wG := wG_of (List.mem_append_right _ (List.mem_of_getElem? (i := 403) (by decide +kernel))) (by decide +kernel)
theorem km_X10_82 : Cond.methodLink RX10 82 yX10_isWithin ∈ wG := wG_of (List.mem_append_right _ (List.mem_of_getElem? (i := 404) (by decide +kernel))) (by decide +kernel)
theorem ks_yX10_isWithin : Cond.static yX10_isWithin ∈ wG := wG_of (List.mem_append_right _ (List.mem_of_getElem? (i := 405) (by decide +kernel))) (by decide +kernel)
theorem kc_yX10_isWithin : Cond.code yX10_isWithin cX10_isWithin 3 (some .boolean) ∈ wG := wG_of (List.mem_append_right _ (List.mem_of_getElem? (i := 406) (by decide +kernel))) (by decide +kernel)
theorem km_X10_86 : Cond.methodLink RX10 86 yX6_hasRoom ∈ wG := wG_of (List.mem_append_right _ (List.mem_of_getElem? (i := 407) (by decide +kernel))) (by decide +kernel)
theorem ki_yX6_hasRoom : Cond.instanceMethod yX6_hasRoom ∈ wG := wG_of (List.mem_append_right _ (List.mem_of_getElem? (i := 408) (by decide +kernel))) (by decide +kernel)
theorem ksel_X6_yX6_hasRoom : Cond.selects RX6 yX6_hasRoom yX6_hasRoom ∈ wG := wG_of (List.mem_append_right _ (List.mem_of_getElem? (i := 409) (by decide +kernel))) (by decide +kernel)
theorem kc_yX6_hasRoom : Cond.code yX6_hasRoom cX6_hasRoom 1 (some .boolean) ∈ wG := wG_of (List.mem_append_right _ (List.mem_of_getElem? (i := 410) (by decide +kernel))) (by decide +kernel)
theorem km_X10_90 : Cond.methodLink RX10 90 yX9_forgetAll ∈ wG := wG_of (List.mem_append_right _ (List.mem_of_getElem? (i := 411) (by decide +kernel))) (by decide +kernel)
theorem km_X10_93 : Cond.methodLink RX10 93 yX6_tell ∈ wG := wG_of (List.mem_append_right _ (List.mem_of_getElem? (i := 412) (by decide +kernel))) (by decide +kernel)
theorem ki_yX6_tell : Cond.instanceMethod yX6_tell ∈ wG := wG_of (List.mem_append_right _ (List.mem_of_getElem? (i := 413) (by decide +kernel))) (by decide +kernel)
theorem ksel_X6_yX6_tell : Cond.selects RX6 yX6_tell yX6_tell ∈ wG := wG_of (List.mem_append_right _ (List.mem_of_getElem? (i := 414) (by decide +kernel))) (by decide +kernel)
theorem kc_yX6_tell : Cond.code yX6_tell cX6_tell 6 (some .int) ∈ wG := wG_of (List.mem_append_right _ (List.mem_of_getElem? (i := 415) (by decide +kernel))) (by decide +kernel)
theorem km_L_18 : Cond.methodLink RL 18 yX10_drop ∈ wG := wG_of (List.mem_append_right _ (List.mem_of_getElem? (i := 416) (by decide +kernel))) (by decide +kernel)
theorem ki_yX10_drop : Cond.instanceMethod yX10_drop ∈ wG := wG_of (List.mem_append_right _ (List.mem_of_getElem? (i := 417) (by decide +kernel))) (by decide +kernel)
theorem ksel_X10_yX10_drop : Cond.selects RX10 yX10_drop yX10_drop ∈ wG := wG_of (List.mem_append_right _ (List.mem_of_getElem? (i := 418) (by decide +kernel))) (by decide +kernel)
theorem kc_yX10_drop : Cond.code yX10_drop cX10_drop 2 (some .int) ∈ wG := wG_of (List.mem_append_right _ (List.mem_of_getElem? (i := 419) (by decide +kernel))) (by decide +kernel)
theorem km_X10_97 : Cond.methodLink RX10 97 yX6_canForget ∈ wG := wG_of (List.mem_append_right _ (List.mem_of_getElem? (i := 420) (by decide +kernel))) (by decide +kernel)
theorem ki_yX6_canForget : Cond.instanceMethod yX6_canForget ∈ wG := wG_of (List.mem_append_right _ (List.mem_of_getElem? (i := 421) (by decide +kernel))) (by decide +kernel)
theorem ksel_X6_yX6_canForget : Cond.selects RX6 yX6_canForget yX6_canForget ∈ wG := wG_of (List.mem_append_right _ (List.mem_of_getElem? (i := 422) (by decide +kernel))) (by decide +kernel)
theorem kc_yX6_canForget : Cond.code yX6_canForget cX6_canForget 2 (some .boolean) ∈ wG := wG_of (List.mem_append_right _ (List.mem_of_getElem? (i := 423) (by decide +kernel))) (by decide +kernel)
theorem km_X10_100 : Cond.methodLink RX10 100 yX6_forget ∈ wG := wG_of (List.mem_append_right _ (List.mem_of_getElem? (i := 425) (by decide +kernel))) (by decide +kernel)
theorem ki_yX6_forget : Cond.instanceMethod yX6_forget ∈ wG := wG_of (List.mem_append_right _ (List.mem_of_getElem? (i := 426) (by decide +kernel))) (by decide +kernel)
theorem ksel_X6_yX6_forget : Cond.selects RX6 yX6_forget yX6_forget ∈ wG := wG_of (List.mem_append_right _ (List.mem_of_getElem? (i := 427) (by decide +kernel))) (by decide +kernel)
theorem kc_yX6_forget : Cond.code yX6_forget cX6_forget 2 none ∈ wG := wG_of (List.mem_append_right _ (List.mem_of_getElem? (i := 428) (by decide +kernel))) (by decide +kernel)
theorem km_L_23 : Cond.methodLink RL 23 yX10_turning ∈ wG := wG_of (List.mem_append_right _ (List.mem_of_getElem? (i := 429) (by decide +kernel))) (by decide +kernel)
theorem ki_yX10_turning : Cond.instanceMethod yX10_turning ∈ wG := wG_of (List.mem_append_right _ (List.mem_of_getElem? (i := 430) (by decide +kernel))) (by decide +kernel)
theorem ksel_X10_yX10_turning : Cond.selects RX10 yX10_turning yX10_turning ∈ wG := wG_of (List.mem_append_right _ (List.mem_of_getElem? (i := 431) (by decide +kernel))) (by decide +kernel)
theorem kc_yX10_turning : Cond.code yX10_turning cX10_turning 5 (some .int) ∈ wG := wG_of (List.mem_append_right _ (List.mem_of_getElem? (i := 432) (by decide +kernel))) (by decide +kernel)
theorem km_X10_104 : Cond.methodLink RX10 104 yX6_costBetween ∈ wG := wG_of (List.mem_append_right _ (List.mem_of_getElem? (i := 433) (by decide +kernel))) (by decide +kernel)
theorem ki_yX6_costBetween : Cond.instanceMethod yX6_costBetween ∈ wG := wG_of (List.mem_append_right _ (List.mem_of_getElem? (i := 434) (by decide +kernel))) (by decide +kernel)
theorem ksel_X6_yX6_costBetween : Cond.selects RX6 yX6_costBetween yX6_costBetween ∈ wG := wG_of (List.mem_append_right _ (List.mem_of_getElem? (i := 435) (by decide +kernel))) (by decide +kernel)
theorem kc_yX6_costBetween : Cond.code yX6_costBetween cX6_costBetween 4 (some .int) ∈ wG := wG_of (List.mem_append_right _ (List.mem_of_getElem? (i := 436) (by decide +kernel))) (by decide +kernel)
theorem km_X10_108 : Cond.methodLink RX10 108 yX6_stepsBetween ∈ wG := wG_of (List.mem_append_right _ (List.mem_of_getElem? (i := 437) (by decide +kernel))) (by decide +kernel)
theorem ki_yX6_stepsBetween : Cond.instanceMethod yX6_stepsBetween ∈ wG := wG_of (List.mem_append_right _ (List.mem_of_getElem? (i := 438) (by decide +kernel))) (by decide +kernel)
theorem ksel_X6_yX6_stepsBetween : Cond.selects RX6 yX6_stepsBetween yX6_stepsBetween ∈ wG := wG_of (List.mem_append_right _ (List.mem_of_getElem? (i := 439) (by decide +kernel))) (by decide +kernel)
theorem kc_yX6_stepsBetween : Cond.code yX6_stepsBetween cX6_stepsBetween 3 (some .int) ∈ wG := wG_of (List.mem_append_right _ (List.mem_of_getElem? (i := 440) (by decide +kernel))) (by decide +kernel)
theorem km_X10_111 : Cond.methodLink RX10 111 yX6_stepAt ∈ wG := wG_of (List.mem_append_right _ (List.mem_of_getElem? (i := 441) (by decide +kernel))) (by decide +kernel)
theorem ki_yX6_stepAt : Cond.instanceMethod yX6_stepAt ∈ wG := wG_of (List.mem_append_right _ (List.mem_of_getElem? (i := 442) (by decide +kernel))) (by decide +kernel)
theorem ksel_X6_yX6_stepAt : Cond.selects RX6 yX6_stepAt yX6_stepAt ∈ wG := wG_of (List.mem_append_right _ (List.mem_of_getElem? (i := 443) (by decide +kernel))) (by decide +kernel)
theorem kc_yX6_stepAt : Cond.code yX6_stepAt cX6_stepAt 7 (some .int) ∈ wG := wG_of (List.mem_append_right _ (List.mem_of_getElem? (i := 444) (by decide +kernel))) (by decide +kernel)
theorem km_L_30 : Cond.methodLink RL 30 yX10_turn ∈ wG := wG_of (List.mem_append_right _ (List.mem_of_getElem? (i := 445) (by decide +kernel))) (by decide +kernel)
theorem ki_yX10_turn : Cond.instanceMethod yX10_turn ∈ wG := wG_of (List.mem_append_right _ (List.mem_of_getElem? (i := 446) (by decide +kernel))) (by decide +kernel)
theorem ksel_X10_yX10_turn : Cond.selects RX10 yX10_turn yX10_turn ∈ wG := wG_of (List.mem_append_right _ (List.mem_of_getElem? (i := 447) (by decide +kernel))) (by decide +kernel)
theorem kc_yX10_turn : Cond.code yX10_turn cX10_turn 5 (some .int) ∈ wG := wG_of (List.mem_append_right _ (List.mem_of_getElem? (i := 448) (by decide +kernel))) (by decide +kernel)
theorem km_X10_115 : Cond.methodLink RX10 115 yX10_isOf ∈ wG := wG_of (List.mem_append_right _ (List.mem_of_getElem? (i := 449) (by decide +kernel))) (by decide +kernel)
theorem ks_yX10_isOf : Cond.static yX10_isOf ∈ wG := wG_of (List.mem_append_right _ (List.mem_of_getElem? (i := 450) (by decide +kernel))) (by decide +kernel)
theorem kc_yX10_isOf : Cond.code yX10_isOf cX10_isOf 3 (some .boolean) ∈ wG := wG_of (List.mem_append_right _ (List.mem_of_getElem? (i := 451) (by decide +kernel))) (by decide +kernel)
theorem kkl_X10_271 : Cond.constantLong RX10 271 (-128) ∈ wG := wG_of (List.mem_append_right _ (List.mem_of_getElem? (i := 452) (by decide +kernel))) (by decide +kernel)
theorem kkl_X10_273 : Cond.constantLong RX10 273 (127) ∈ wG := wG_of (List.mem_append_right _ (List.mem_of_getElem? (i := 453) (by decide +kernel))) (by decide +kernel)
theorem kkl_X10_275 : Cond.constantLong RX10 275 (-32768) ∈ wG := wG_of (List.mem_append_right _ (List.mem_of_getElem? (i := 454) (by decide +kernel))) (by decide +kernel)
theorem kkl_X10_277 : Cond.constantLong RX10 277 (32767) ∈ wG := wG_of (List.mem_append_right _ (List.mem_of_getElem? (i := 455) (by decide +kernel))) (by decide +kernel)
theorem kkl_X10_279 : Cond.constantLong RX10 279 (-2147483648) ∈ wG := wG_of (List.mem_append_right _ (List.mem_of_getElem? (i := 456) (by decide +kernel))) (by decide +kernel)
theorem kkl_X10_281 : Cond.constantLong RX10 281 (2147483647) ∈ wG := wG_of (List.mem_append_right _ (List.mem_of_getElem? (i := 457) (by decide +kernel))) (by decide +kernel)
theorem km_X10_119 : Cond.methodLink RX10 119 yX4_noteFailure ∈ wG := wG_of (List.mem_append_right _ (List.mem_of_getElem? (i := 458) (by decide +kernel))) (by decide +kernel)
theorem ki_yX4_noteFailure : Cond.instanceMethod yX4_noteFailure ∈ wG := wG_of (List.mem_append_right _ (List.mem_of_getElem? (i := 459) (by decide +kernel))) (by decide +kernel)
theorem ksel_X4_yX4_noteFailure : Cond.selects RX4 yX4_noteFailure yX4_noteFailure ∈ wG := wG_of (List.mem_append_right _ (List.mem_of_getElem? (i := 460) (by decide +kernel))) (by decide +kernel)
theorem kc_yX4_noteFailure : Cond.code yX4_noteFailure cX4_noteFailure 3 none ∈ wG := wG_of (List.mem_append_right _ (List.mem_of_getElem? (i := 461) (by decide +kernel))) (by decide +kernel)
theorem km_X10_123 : Cond.methodLink RX10 123 yX6_carry ∈ wG := wG_of (List.mem_append_right _ (List.mem_of_getElem? (i := 462) (by decide +kernel))) (by decide +kernel)
theorem ki_yX6_carry : Cond.instanceMethod yX6_carry ∈ wG := wG_of (List.mem_append_right _ (List.mem_of_getElem? (i := 463) (by decide +kernel))) (by decide +kernel)
theorem ksel_X6_yX6_carry : Cond.selects RX6 yX6_carry yX6_carry ∈ wG := wG_of (List.mem_append_right _ (List.mem_of_getElem? (i := 464) (by decide +kernel))) (by decide +kernel)
theorem kc_yX6_carry : Cond.code yX6_carry cX6_carry 8 (some .boolean) ∈ wG := wG_of (List.mem_append_right _ (List.mem_of_getElem? (i := 465) (by decide +kernel))) (by decide +kernel)
theorem km_X6_75 : Cond.methodLink RX6 75 yX6_follow ∈ wG := wG_of (List.mem_append_right _ (List.mem_of_getElem? (i := 466) (by decide +kernel))) (by decide +kernel)
theorem ki_yX6_follow : Cond.instanceMethod yX6_follow ∈ wG := wG_of (List.mem_append_right _ (List.mem_of_getElem? (i := 468) (by decide +kernel))) (by decide +kernel)
theorem kc_yX6_follow : Cond.code yX6_follow cX6_follow 4 (some .boolean) ∈ wG := wG_of (List.mem_append_right _ (List.mem_of_getElem? (i := 469) (by decide +kernel))) (by decide +kernel)
theorem kkl_X6_79 : Cond.constantLong RX6 79 (10) ∈ wG := wG_of (List.mem_append_right _ (List.mem_of_getElem? (i := 470) (by decide +kernel))) (by decide +kernel)
theorem ks_yX10_staysIn64 : Cond.static yX10_staysIn64 ∈ wG := wG_of (List.mem_append_right _ (List.mem_of_getElem? (i := 472) (by decide +kernel))) (by decide +kernel)
theorem kc_yX10_staysIn64 : Cond.code yX10_staysIn64 cX10_staysIn64 8 (some .boolean) ∈ wG := wG_of (List.mem_append_right _ (List.mem_of_getElem? (i := 473) (by decide +kernel))) (by decide +kernel)
theorem kkl_X10_283 : Cond.constantLong RX10 283 (1048575) ∈ wG := wG_of (List.mem_append_right _ (List.mem_of_getElem? (i := 474) (by decide +kernel))) (by decide +kernel)
theorem kkl_X10_285 : Cond.constantLong RX10 285 (-8796093022208) ∈ wG := wG_of (List.mem_append_right _ (List.mem_of_getElem? (i := 475) (by decide +kernel))) (by decide +kernel)
theorem kkl_X10_287 : Cond.constantLong RX10 287 (8796093022208) ∈ wG := wG_of (List.mem_append_right _ (List.mem_of_getElem? (i := 476) (by decide +kernel))) (by decide +kernel)
theorem km_L_35 : Cond.methodLink RL 35 yX10_ask ∈ wG := wG_of (List.mem_append_right _ (List.mem_of_getElem? (i := 478) (by decide +kernel))) (by decide +kernel)
theorem ki_yX10_ask : Cond.instanceMethod yX10_ask ∈ wG := wG_of (List.mem_append_right _ (List.mem_of_getElem? (i := 479) (by decide +kernel))) (by decide +kernel)
theorem ksel_X10_yX10_ask : Cond.selects RX10 yX10_ask yX10_ask ∈ wG := wG_of (List.mem_append_right _ (List.mem_of_getElem? (i := 480) (by decide +kernel))) (by decide +kernel)
theorem kc_yX10_ask : Cond.code yX10_ask cX10_ask 5 (some .int) ∈ wG := wG_of (List.mem_append_right _ (List.mem_of_getElem? (i := 481) (by decide +kernel))) (by decide +kernel)
theorem km_X10_136 : Cond.methodLink RX10 136 yX10_isName ∈ wG := wG_of (List.mem_append_right _ (List.mem_of_getElem? (i := 482) (by decide +kernel))) (by decide +kernel)
theorem ks_yX10_isName : Cond.static yX10_isName ∈ wG := wG_of (List.mem_append_right _ (List.mem_of_getElem? (i := 483) (by decide +kernel))) (by decide +kernel)
theorem kc_yX10_isName : Cond.code yX10_isName cX10_isName 1 (some .boolean) ∈ wG := wG_of (List.mem_append_right _ (List.mem_of_getElem? (i := 484) (by decide +kernel))) (by decide +kernel)
theorem km_X10_139 : Cond.methodLink RX10 139 yX10_areSorts ∈ wG := wG_of (List.mem_append_right _ (List.mem_of_getElem? (i := 485) (by decide +kernel))) (by decide +kernel)
theorem ks_yX10_areSorts : Cond.static yX10_areSorts ∈ wG := wG_of (List.mem_append_right _ (List.mem_of_getElem? (i := 486) (by decide +kernel))) (by decide +kernel)
theorem kc_yX10_areSorts : Cond.code yX10_areSorts cX10_areSorts 3 (some .boolean) ∈ wG := wG_of (List.mem_append_right _ (List.mem_of_getElem? (i := 487) (by decide +kernel))) (by decide +kernel)
theorem km_X10_145 : Cond.methodLink RX10 145 yX9_forgetFace ∈ wG := wG_of (List.mem_append_right _ (List.mem_of_getElem? (i := 488) (by decide +kernel))) (by decide +kernel)
theorem ki_yX9_forgetFace : Cond.instanceMethod yX9_forgetFace ∈ wG := wG_of (List.mem_append_right _ (List.mem_of_getElem? (i := 489) (by decide +kernel))) (by decide +kernel)
theorem ksel_X9_yX9_forgetFace : Cond.selects RX9 yX9_forgetFace yX9_forgetFace ∈ wG := wG_of (List.mem_append_right _ (List.mem_of_getElem? (i := 490) (by decide +kernel))) (by decide +kernel)
theorem kc_yX9_forgetFace : Cond.code yX9_forgetFace cX9_forgetFace 3 none ∈ wG := wG_of (List.mem_append_right _ (List.mem_of_getElem? (i := 491) (by decide +kernel))) (by decide +kernel)
theorem km_X10_148 : Cond.methodLink RX10 148 yX7_add ∈ wG := wG_of (List.mem_append_right _ (List.mem_of_getElem? (i := 492) (by decide +kernel))) (by decide +kernel)
theorem ki_yX7_add : Cond.instanceMethod yX7_add ∈ wG := wG_of (List.mem_append_right _ (List.mem_of_getElem? (i := 493) (by decide +kernel))) (by decide +kernel)
theorem ksel_X7_yX7_add : Cond.selects RX7 yX7_add yX7_add ∈ wG := wG_of (List.mem_append_right _ (List.mem_of_getElem? (i := 494) (by decide +kernel))) (by decide +kernel)
theorem kc_yX7_add : Cond.code yX7_add cX7_add 3 (some .int) ∈ wG := wG_of (List.mem_append_right _ (List.mem_of_getElem? (i := 495) (by decide +kernel))) (by decide +kernel)
theorem km_X7_26 : Cond.methodLink RX7 26 yX5_become ∈ wG := wG_of (List.mem_append_right _ (List.mem_of_getElem? (i := 496) (by decide +kernel))) (by decide +kernel)
theorem ki_yX5_become : Cond.instanceMethod yX5_become ∈ wG := wG_of (List.mem_append_right _ (List.mem_of_getElem? (i := 497) (by decide +kernel))) (by decide +kernel)
theorem ksel_X5_yX5_become : Cond.selects RX5 yX5_become yX5_become ∈ wG := wG_of (List.mem_append_right _ (List.mem_of_getElem? (i := 498) (by decide +kernel))) (by decide +kernel)
theorem kc_yX5_become : Cond.code yX5_become cX5_become 5 none ∈ wG := wG_of (List.mem_append_right _ (List.mem_of_getElem? (i := 499) (by decide +kernel))) (by decide +kernel)
theorem km_X5_37 : Cond.methodLink RX5 37 yX5_setWork ∈ wG := wG_of (List.mem_append_right _ (List.mem_of_getElem? (i := 500) (by decide +kernel))) (by decide +kernel)
theorem ki_yX5_setWork : Cond.instanceMethod yX5_setWork ∈ wG := wG_of (List.mem_append_right _ (List.mem_of_getElem? (i := 501) (by decide +kernel))) (by decide +kernel)
theorem ksel_X5_yX5_setWork : Cond.selects RX5 yX5_setWork yX5_setWork ∈ wG := wG_of (List.mem_append_right _ (List.mem_of_getElem? (i := 502) (by decide +kernel))) (by decide +kernel)
theorem kc_yX5_setWork : Cond.code yX5_setWork cX5_setWork 4 none ∈ wG := wG_of (List.mem_append_right _ (List.mem_of_getElem? (i := 503) (by decide +kernel))) (by decide +kernel)
theorem km_X5_41 : Cond.methodLink RX5 41 yJ7_fill_53178 ∈ wG := wG_of (List.mem_append_right _ (List.mem_of_getElem? (i := 504) (by decide +kernel))) (by decide +kernel)
theorem km_L_39 : Cond.methodLink RL 39 yX10_offer ∈ wG := wG_of (List.mem_append_right _ (List.mem_of_getElem? (i := 505) (by decide +kernel))) (by decide +kernel)
theorem ki_yX10_offer : Cond.instanceMethod yX10_offer ∈ wG := wG_of (List.mem_append_right _ (List.mem_of_getElem? (i := 506) (by decide +kernel))) (by decide +kernel)
theorem ksel_X10_yX10_offer : Cond.selects RX10 yX10_offer yX10_offer ∈ wG := wG_of (List.mem_append_right _ (List.mem_of_getElem? (i := 507) (by decide +kernel))) (by decide +kernel)
theorem kc_yX10_offer : Cond.code yX10_offer cX10_offer 4 (some .int) ∈ wG := wG_of (List.mem_append_right _ (List.mem_of_getElem? (i := 508) (by decide +kernel))) (by decide +kernel)
theorem km_L_43 : Cond.methodLink RL 43 yX10_work ∈ wG := wG_of (List.mem_append_right _ (List.mem_of_getElem? (i := 509) (by decide +kernel))) (by decide +kernel)
theorem ki_yX10_work : Cond.instanceMethod yX10_work ∈ wG := wG_of (List.mem_append_right _ (List.mem_of_getElem? (i := 510) (by decide +kernel))) (by decide +kernel)
theorem ksel_X10_yX10_work : Cond.selects RX10 yX10_work yX10_work ∈ wG := wG_of (List.mem_append_right _ (List.mem_of_getElem? (i := 511) (by decide +kernel))) (by decide +kernel)
theorem kc_yX10_work : Cond.code yX10_work cX10_work 7 (some .int) ∈ wG := wG_of (List.mem_append_right _ (List.mem_of_getElem? (i := 512) (by decide +kernel))) (by decide +kernel)
theorem km_X10_151 : Cond.methodLink RX10 151 yX7_has ∈ wG := wG_of (List.mem_append_right _ (List.mem_of_getElem? (i := 513) (by decide +kernel))) (by decide +kernel)
theorem ki_yX7_has : Cond.instanceMethod yX7_has ∈ wG := wG_of (List.mem_append_right _ (List.mem_of_getElem? (i := 514) (by decide +kernel))) (by decide +kernel)
theorem ksel_X7_yX7_has : Cond.selects RX7 yX7_has yX7_has ∈ wG := wG_of (List.mem_append_right _ (List.mem_of_getElem? (i := 515) (by decide +kernel))) (by decide +kernel)
theorem kc_yX7_has : Cond.code yX7_has cX7_has 2 (some .boolean) ∈ wG := wG_of (List.mem_append_right _ (List.mem_of_getElem? (i := 516) (by decide +kernel))) (by decide +kernel)
theorem km_X10_158 : Cond.methodLink RX10 158 yX5_setWork ∈ wG := wG_of (List.mem_append_right _ (List.mem_of_getElem? (i := 518) (by decide +kernel))) (by decide +kernel)
theorem km_L_48 : Cond.methodLink RL 48 yX10_times ∈ wG := wG_of (List.mem_append_right _ (List.mem_of_getElem? (i := 519) (by decide +kernel))) (by decide +kernel)
theorem ki_yX10_times : Cond.instanceMethod yX10_times ∈ wG := wG_of (List.mem_append_right _ (List.mem_of_getElem? (i := 520) (by decide +kernel))) (by decide +kernel)
theorem ksel_X10_yX10_times : Cond.selects RX10 yX10_times yX10_times ∈ wG := wG_of (List.mem_append_right _ (List.mem_of_getElem? (i := 521) (by decide +kernel))) (by decide +kernel)
theorem kc_yX10_times : Cond.code yX10_times cX10_times 7 (some .int) ∈ wG := wG_of (List.mem_append_right _ (List.mem_of_getElem? (i := 522) (by decide +kernel))) (by decide +kernel)
theorem km_L_52 : Cond.methodLink RL 52 yX10_strip ∈ wG := wG_of (List.mem_append_right _ (List.mem_of_getElem? (i := 523) (by decide +kernel))) (by decide +kernel)
theorem ki_yX10_strip : Cond.instanceMethod yX10_strip ∈ wG := wG_of (List.mem_append_right _ (List.mem_of_getElem? (i := 524) (by decide +kernel))) (by decide +kernel)
theorem ksel_X10_yX10_strip : Cond.selects RX10 yX10_strip yX10_strip ∈ wG := wG_of (List.mem_append_right _ (List.mem_of_getElem? (i := 525) (by decide +kernel))) (by decide +kernel)
theorem kc_yX10_strip : Cond.code yX10_strip cX10_strip 5 (some .int) ∈ wG := wG_of (List.mem_append_right _ (List.mem_of_getElem? (i := 526) (by decide +kernel))) (by decide +kernel)
theorem km_L_57 : Cond.methodLink RL 57 yX10_alias ∈ wG := wG_of (List.mem_append_right _ (List.mem_of_getElem? (i := 527) (by decide +kernel))) (by decide +kernel)
theorem ki_yX10_alias : Cond.instanceMethod yX10_alias ∈ wG := wG_of (List.mem_append_right _ (List.mem_of_getElem? (i := 528) (by decide +kernel))) (by decide +kernel)
theorem ksel_X10_yX10_alias : Cond.selects RX10 yX10_alias yX10_alias ∈ wG := wG_of (List.mem_append_right _ (List.mem_of_getElem? (i := 529) (by decide +kernel))) (by decide +kernel)
theorem kc_yX10_alias : Cond.code yX10_alias cX10_alias 5 (some .boolean) ∈ wG := wG_of (List.mem_append_right _ (List.mem_of_getElem? (i := 530) (by decide +kernel))) (by decide +kernel)
theorem km_X10_171 : Cond.methodLink RX10 171 yX0_add ∈ wG := wG_of (List.mem_append_right _ (List.mem_of_getElem? (i := 531) (by decide +kernel))) (by decide +kernel)
theorem ki_yX0_add : Cond.instanceMethod yX0_add ∈ wG := wG_of (List.mem_append_right _ (List.mem_of_getElem? (i := 532) (by decide +kernel))) (by decide +kernel)
theorem ksel_X0_yX0_add : Cond.selects RX0 yX0_add yX0_add ∈ wG := wG_of (List.mem_append_right _ (List.mem_of_getElem? (i := 533) (by decide +kernel))) (by decide +kernel)
theorem kc_yX0_add : Cond.code yX0_add cX0_add 3 (some .boolean) ∈ wG := wG_of (List.mem_append_right _ (List.mem_of_getElem? (i := 534) (by decide +kernel))) (by decide +kernel)
theorem km_X0_23 : Cond.methodLink RX0 23 yX0_has ∈ wG := wG_of (List.mem_append_right _ (List.mem_of_getElem? (i := 535) (by decide +kernel))) (by decide +kernel)
theorem ki_yX0_has : Cond.instanceMethod yX0_has ∈ wG := wG_of (List.mem_append_right _ (List.mem_of_getElem? (i := 536) (by decide +kernel))) (by decide +kernel)
theorem ksel_X0_yX0_has : Cond.selects RX0 yX0_has yX0_has ∈ wG := wG_of (List.mem_append_right _ (List.mem_of_getElem? (i := 537) (by decide +kernel))) (by decide +kernel)
theorem kc_yX0_has : Cond.code yX0_has cX0_has 3 (some .boolean) ∈ wG := wG_of (List.mem_append_right _ (List.mem_of_getElem? (i := 538) (by decide +kernel))) (by decide +kernel)
theorem km_X0_19 : Cond.methodLink RX0 19 yX0_placeOf ∈ wG := wG_of (List.mem_append_right _ (List.mem_of_getElem? (i := 539) (by decide +kernel))) (by decide +kernel)
theorem ki_yX0_placeOf : Cond.instanceMethod yX0_placeOf ∈ wG := wG_of (List.mem_append_right _ (List.mem_of_getElem? (i := 541) (by decide +kernel))) (by decide +kernel)
theorem kc_yX0_placeOf : Cond.code yX0_placeOf cX0_placeOf 4 (some .int) ∈ wG := wG_of (List.mem_append_right _ (List.mem_of_getElem? (i := 542) (by decide +kernel))) (by decide +kernel)
theorem km_X10_174 : Cond.methodLink RX10 174 yX0_remove ∈ wG := wG_of (List.mem_append_right _ (List.mem_of_getElem? (i := 543) (by decide +kernel))) (by decide +kernel)
theorem ki_yX0_remove : Cond.instanceMethod yX0_remove ∈ wG := wG_of (List.mem_append_right _ (List.mem_of_getElem? (i := 544) (by decide +kernel))) (by decide +kernel)
theorem ksel_X0_yX0_remove : Cond.selects RX0 yX0_remove yX0_remove ∈ wG := wG_of (List.mem_append_right _ (List.mem_of_getElem? (i := 545) (by decide +kernel))) (by decide +kernel)
theorem kc_yX0_remove : Cond.code yX0_remove cX0_remove 4 (some .boolean) ∈ wG := wG_of (List.mem_append_right _ (List.mem_of_getElem? (i := 546) (by decide +kernel))) (by decide +kernel)
theorem km_L_62 : Cond.methodLink RL 62 yX10_constant ∈ wG := wG_of (List.mem_append_right _ (List.mem_of_getElem? (i := 547) (by decide +kernel))) (by decide +kernel)
theorem ki_yX10_constant : Cond.instanceMethod yX10_constant ∈ wG := wG_of (List.mem_append_right _ (List.mem_of_getElem? (i := 548) (by decide +kernel))) (by decide +kernel)
theorem ksel_X10_yX10_constant : Cond.selects RX10 yX10_constant yX10_constant ∈ wG := wG_of (List.mem_append_right _ (List.mem_of_getElem? (i := 549) (by decide +kernel))) (by decide +kernel)
theorem kc_yX10_constant : Cond.code yX10_constant cX10_constant 6 (some .int) ∈ wG := wG_of (List.mem_append_right _ (List.mem_of_getElem? (i := 550) (by decide +kernel))) (by decide +kernel)
theorem km_L_67 : Cond.methodLink RL 67 yX10_fit ∈ wG := wG_of (List.mem_append_right _ (List.mem_of_getElem? (i := 551) (by decide +kernel))) (by decide +kernel)
theorem ki_yX10_fit : Cond.instanceMethod yX10_fit ∈ wG := wG_of (List.mem_append_right _ (List.mem_of_getElem? (i := 552) (by decide +kernel))) (by decide +kernel)
theorem ksel_X10_yX10_fit : Cond.selects RX10 yX10_fit yX10_fit ∈ wG := wG_of (List.mem_append_right _ (List.mem_of_getElem? (i := 553) (by decide +kernel))) (by decide +kernel)
theorem kc_yX10_fit : Cond.code yX10_fit cX10_fit 7 (some .int) ∈ wG := wG_of (List.mem_append_right _ (List.mem_of_getElem? (i := 554) (by decide +kernel))) (by decide +kernel)
theorem km_X10_185 : Cond.methodLink RX10 185 yX10_areFaceAndShape ∈ wG := wG_of (List.mem_append_right _ (List.mem_of_getElem? (i := 555) (by decide +kernel))) (by decide +kernel)
theorem ks_yX10_areFaceAndShape : Cond.static yX10_areFaceAndShape ∈ wG := wG_of (List.mem_append_right _ (List.mem_of_getElem? (i := 556) (by decide +kernel))) (by decide +kernel)
theorem kc_yX10_areFaceAndShape : Cond.code yX10_areFaceAndShape cX10_areFaceAndShape 2 (some .boolean) ∈ wG := wG_of (List.mem_append_right _ (List.mem_of_getElem? (i := 557) (by decide +kernel))) (by decide +kernel)
theorem km_X10_188 : Cond.methodLink RX10 188 yX3_find ∈ wG := wG_of (List.mem_append_right _ (List.mem_of_getElem? (i := 558) (by decide +kernel))) (by decide +kernel)
theorem ki_yX3_find : Cond.instanceMethod yX3_find ∈ wG := wG_of (List.mem_append_right _ (List.mem_of_getElem? (i := 559) (by decide +kernel))) (by decide +kernel)
theorem ksel_X3_yX3_find : Cond.selects RX3 yX3_find yX3_find ∈ wG := wG_of (List.mem_append_right _ (List.mem_of_getElem? (i := 560) (by decide +kernel))) (by decide +kernel)
theorem kc_yX3_find : Cond.code yX3_find cX3_find 6 (some .boolean) ∈ wG := wG_of (List.mem_append_right _ (List.mem_of_getElem? (i := 561) (by decide +kernel))) (by decide +kernel)
theorem km_X3_47 : Cond.methodLink RX3 47 yX3_startOf ∈ wG := wG_of (List.mem_append_right _ (List.mem_of_getElem? (i := 562) (by decide +kernel))) (by decide +kernel)
theorem ki_yX3_startOf : Cond.instanceMethod yX3_startOf ∈ wG := wG_of (List.mem_append_right _ (List.mem_of_getElem? (i := 564) (by decide +kernel))) (by decide +kernel)
theorem kc_yX3_startOf : Cond.code yX3_startOf cX3_startOf 5 (some .int) ∈ wG := wG_of (List.mem_append_right _ (List.mem_of_getElem? (i := 565) (by decide +kernel))) (by decide +kernel)
theorem km_X3_64 : Cond.methodLink RX3 64 yX0_has ∈ wG := wG_of (List.mem_append_right _ (List.mem_of_getElem? (i := 566) (by decide +kernel))) (by decide +kernel)
theorem km_X3_73 : Cond.methodLink RX3 73 yX6_costBetween ∈ wG := wG_of (List.mem_append_right _ (List.mem_of_getElem? (i := 567) (by decide +kernel))) (by decide +kernel)
theorem km_X3_51 : Cond.methodLink RX3 51 yX3_assign ∈ wG := wG_of (List.mem_append_right _ (List.mem_of_getElem? (i := 568) (by decide +kernel))) (by decide +kernel)
theorem ki_yX3_assign : Cond.instanceMethod yX3_assign ∈ wG := wG_of (List.mem_append_right _ (List.mem_of_getElem? (i := 570) (by decide +kernel))) (by decide +kernel)
theorem kc_yX3_assign : Cond.code yX3_assign cX3_assign 8 (some .boolean) ∈ wG := wG_of (List.mem_append_right _ (List.mem_of_getElem? (i := 571) (by decide +kernel))) (by decide +kernel)
theorem km_X3_82 : Cond.methodLink RX3 82 yJ6_bitCount_0f7a4 ∈ wG := wG_of (List.mem_append_right _ (List.mem_of_getElem? (i := 572) (by decide +kernel))) (by decide +kernel)
theorem ks_yJ6_bitCount_0f7a4 : Cond.static yJ6_bitCount_0f7a4 ∈ wG := wG_of (List.mem_append_right _ (List.mem_of_getElem? (i := 573) (by decide +kernel))) (by decide +kernel)
theorem kc_yJ6_bitCount_0f7a4 : Cond.code yJ6_bitCount_0f7a4 cJ6_bitCount_0f7a4 1 (some .int) ∈ wG := wG_of (List.mem_append_right _ (List.mem_of_getElem? (i := 574) (by decide +kernel))) (by decide +kernel)
theorem kk_J6_265 : Cond.constant RJ6 265 (1431655765) ∈ wG := wG_of (List.mem_append_right _ (List.mem_of_getElem? (i := 575) (by decide +kernel))) (by decide +kernel)
theorem kk_J6_266 : Cond.constant RJ6 266 (858993459) ∈ wG := wG_of (List.mem_append_right _ (List.mem_of_getElem? (i := 576) (by decide +kernel))) (by decide +kernel)
theorem kk_J6_267 : Cond.constant RJ6 267 (252645135) ∈ wG := wG_of (List.mem_append_right _ (List.mem_of_getElem? (i := 577) (by decide +kernel))) (by decide +kernel)
theorem km_X3_88 : Cond.methodLink RX3 88 yX3_settle ∈ wG := wG_of (List.mem_append_right _ (List.mem_of_getElem? (i := 578) (by decide +kernel))) (by decide +kernel)
theorem ki_yX3_settle : Cond.instanceMethod yX3_settle ∈ wG := wG_of (List.mem_append_right _ (List.mem_of_getElem? (i := 580) (by decide +kernel))) (by decide +kernel)
theorem kc_yX3_settle : Cond.code yX3_settle cX3_settle 2 (some .boolean) ∈ wG := wG_of (List.mem_append_right _ (List.mem_of_getElem? (i := 581) (by decide +kernel))) (by decide +kernel)
theorem km_X3_105 : Cond.methodLink RX3 105 arraycopyName ∈ wG := wG_of (List.mem_append_right _ (List.mem_of_getElem? (i := 582) (by decide +kernel))) (by decide +kernel)
theorem ks_arraycopyName : Cond.static arraycopyName ∈ wG := wG_of (List.mem_append_right _ (List.mem_of_getElem? (i := 583) (by decide +kernel))) (by decide +kernel)
theorem kn_arraycopyName : Cond.native arraycopyName ∈ wG := wG_of (List.mem_append_right _ (List.mem_of_getElem? (i := 584) (by decide +kernel))) (by decide +kernel)
theorem km_X3_92 : Cond.methodLink RX3 92 yX3_take ∈ wG := wG_of (List.mem_append_right _ (List.mem_of_getElem? (i := 585) (by decide +kernel))) (by decide +kernel)
theorem ki_yX3_take : Cond.instanceMethod yX3_take ∈ wG := wG_of (List.mem_append_right _ (List.mem_of_getElem? (i := 587) (by decide +kernel))) (by decide +kernel)
theorem kc_yX3_take : Cond.code yX3_take cX3_take 9 (some .boolean) ∈ wG := wG_of (List.mem_append_right _ (List.mem_of_getElem? (i := 588) (by decide +kernel))) (by decide +kernel)
theorem km_L_71 : Cond.methodLink RL 71 yX10_fits ∈ wG := wG_of (List.mem_append_right _ (List.mem_of_getElem? (i := 589) (by decide +kernel))) (by decide +kernel)
theorem ki_yX10_fits : Cond.instanceMethod yX10_fits ∈ wG := wG_of (List.mem_append_right _ (List.mem_of_getElem? (i := 590) (by decide +kernel))) (by decide +kernel)
theorem ksel_X10_yX10_fits : Cond.selects RX10 yX10_fits yX10_fits ∈ wG := wG_of (List.mem_append_right _ (List.mem_of_getElem? (i := 591) (by decide +kernel))) (by decide +kernel)
theorem kc_yX10_fits : Cond.code yX10_fits cX10_fits 3 (some .int) ∈ wG := wG_of (List.mem_append_right _ (List.mem_of_getElem? (i := 592) (by decide +kernel))) (by decide +kernel)
theorem km_X10_201 : Cond.methodLink RX10 201 yX3_costOfAll ∈ wG := wG_of (List.mem_append_right _ (List.mem_of_getElem? (i := 593) (by decide +kernel))) (by decide +kernel)
theorem ki_yX3_costOfAll : Cond.instanceMethod yX3_costOfAll ∈ wG := wG_of (List.mem_append_right _ (List.mem_of_getElem? (i := 594) (by decide +kernel))) (by decide +kernel)
theorem ksel_X3_yX3_costOfAll : Cond.selects RX3 yX3_costOfAll yX3_costOfAll ∈ wG := wG_of (List.mem_append_right _ (List.mem_of_getElem? (i := 595) (by decide +kernel))) (by decide +kernel)
theorem kc_yX3_costOfAll : Cond.code yX3_costOfAll cX3_costOfAll 5 (some .int) ∈ wG := wG_of (List.mem_append_right _ (List.mem_of_getElem? (i := 596) (by decide +kernel))) (by decide +kernel)
theorem km_X3_55 : Cond.methodLink RX3 55 yX3_find ∈ wG := wG_of (List.mem_append_right _ (List.mem_of_getElem? (i := 597) (by decide +kernel))) (by decide +kernel)
theorem km_L_76 : Cond.methodLink RL 76 yX10_gap ∈ wG := wG_of (List.mem_append_right _ (List.mem_of_getElem? (i := 598) (by decide +kernel))) (by decide +kernel)
theorem ki_yX10_gap : Cond.instanceMethod yX10_gap ∈ wG := wG_of (List.mem_append_right _ (List.mem_of_getElem? (i := 599) (by decide +kernel))) (by decide +kernel)
theorem ksel_X10_yX10_gap : Cond.selects RX10 yX10_gap yX10_gap ∈ wG := wG_of (List.mem_append_right _ (List.mem_of_getElem? (i := 600) (by decide +kernel))) (by decide +kernel)
theorem kc_yX10_gap : Cond.code yX10_gap cX10_gap 3 (some .int) ∈ wG := wG_of (List.mem_append_right _ (List.mem_of_getElem? (i := 601) (by decide +kernel))) (by decide +kernel)
theorem km_X10_205 : Cond.methodLink RX10 205 yX3_firstGap ∈ wG := wG_of (List.mem_append_right _ (List.mem_of_getElem? (i := 602) (by decide +kernel))) (by decide +kernel)
theorem ki_yX3_firstGap : Cond.instanceMethod yX3_firstGap ∈ wG := wG_of (List.mem_append_right _ (List.mem_of_getElem? (i := 603) (by decide +kernel))) (by decide +kernel)
theorem ksel_X3_yX3_firstGap : Cond.selects RX3 yX3_firstGap yX3_firstGap ∈ wG := wG_of (List.mem_append_right _ (List.mem_of_getElem? (i := 604) (by decide +kernel))) (by decide +kernel)
theorem kc_yX3_firstGap : Cond.code yX3_firstGap cX3_firstGap 4 (some .int) ∈ wG := wG_of (List.mem_append_right _ (List.mem_of_getElem? (i := 605) (by decide +kernel))) (by decide +kernel)
theorem km_L_80 : Cond.methodLink RL 80 yX10_way ∈ wG := wG_of (List.mem_append_right _ (List.mem_of_getElem? (i := 606) (by decide +kernel))) (by decide +kernel)
theorem ki_yX10_way : Cond.instanceMethod yX10_way ∈ wG := wG_of (List.mem_append_right _ (List.mem_of_getElem? (i := 607) (by decide +kernel))) (by decide +kernel)
theorem ksel_X10_yX10_way : Cond.selects RX10 yX10_way yX10_way ∈ wG := wG_of (List.mem_append_right _ (List.mem_of_getElem? (i := 608) (by decide +kernel))) (by decide +kernel)
theorem kc_yX10_way : Cond.code yX10_way cX10_way 4 (some .int) ∈ wG := wG_of (List.mem_append_right _ (List.mem_of_getElem? (i := 609) (by decide +kernel))) (by decide +kernel)
theorem km_X10_208 : Cond.methodLink RX10 208 yX10_areFaces ∈ wG := wG_of (List.mem_append_right _ (List.mem_of_getElem? (i := 610) (by decide +kernel))) (by decide +kernel)
theorem ks_yX10_areFaces : Cond.static yX10_areFaces ∈ wG := wG_of (List.mem_append_right _ (List.mem_of_getElem? (i := 611) (by decide +kernel))) (by decide +kernel)
theorem kc_yX10_areFaces : Cond.code yX10_areFaces cX10_areFaces 2 (some .boolean) ∈ wG := wG_of (List.mem_append_right _ (List.mem_of_getElem? (i := 612) (by decide +kernel))) (by decide +kernel)
theorem km_X10_211 : Cond.methodLink RX10 211 yX9_find ∈ wG := wG_of (List.mem_append_right _ (List.mem_of_getElem? (i := 613) (by decide +kernel))) (by decide +kernel)
theorem ki_yX9_find : Cond.instanceMethod yX9_find ∈ wG := wG_of (List.mem_append_right _ (List.mem_of_getElem? (i := 614) (by decide +kernel))) (by decide +kernel)
theorem ksel_X9_yX9_find : Cond.selects RX9 yX9_find yX9_find ∈ wG := wG_of (List.mem_append_right _ (List.mem_of_getElem? (i := 615) (by decide +kernel))) (by decide +kernel)
theorem kc_yX9_find : Cond.code yX9_find cX9_find 5 (some .boolean) ∈ wG := wG_of (List.mem_append_right _ (List.mem_of_getElem? (i := 616) (by decide +kernel))) (by decide +kernel)
theorem km_X9_45 : Cond.methodLink RX9 45 yX9_weigh ∈ wG := wG_of (List.mem_append_right _ (List.mem_of_getElem? (i := 617) (by decide +kernel))) (by decide +kernel)
theorem ki_yX9_weigh : Cond.instanceMethod yX9_weigh ∈ wG := wG_of (List.mem_append_right _ (List.mem_of_getElem? (i := 619) (by decide +kernel))) (by decide +kernel)
theorem kc_yX9_weigh : Cond.code yX9_weigh cX9_weigh 5 none ∈ wG := wG_of (List.mem_append_right _ (List.mem_of_getElem? (i := 620) (by decide +kernel))) (by decide +kernel)
theorem km_X9_57 : Cond.methodLink RX9 57 yX3_costOfAll ∈ wG := wG_of (List.mem_append_right _ (List.mem_of_getElem? (i := 621) (by decide +kernel))) (by decide +kernel)
theorem kk_X9_52 : Cond.constant RX9 52 (268435456) ∈ wG := wG_of (List.mem_append_right _ (List.mem_of_getElem? (i := 622) (by decide +kernel))) (by decide +kernel)
theorem km_X9_48 : Cond.methodLink RX9 48 yX9_measure ∈ wG := wG_of (List.mem_append_right _ (List.mem_of_getElem? (i := 623) (by decide +kernel))) (by decide +kernel)
theorem ki_yX9_measure : Cond.instanceMethod yX9_measure ∈ wG := wG_of (List.mem_append_right _ (List.mem_of_getElem? (i := 625) (by decide +kernel))) (by decide +kernel)
theorem kc_yX9_measure : Cond.code yX9_measure cX9_measure 5 none ∈ wG := wG_of (List.mem_append_right _ (List.mem_of_getElem? (i := 626) (by decide +kernel))) (by decide +kernel)
theorem km_X9_63 : Cond.methodLink RX9 63 yX9_shorten ∈ wG := wG_of (List.mem_append_right _ (List.mem_of_getElem? (i := 627) (by decide +kernel))) (by decide +kernel)
theorem ki_yX9_shorten : Cond.instanceMethod yX9_shorten ∈ wG := wG_of (List.mem_append_right _ (List.mem_of_getElem? (i := 629) (by decide +kernel))) (by decide +kernel)
theorem kc_yX9_shorten : Cond.code yX9_shorten cX9_shorten 4 (some .boolean) ∈ wG := wG_of (List.mem_append_right _ (List.mem_of_getElem? (i := 630) (by decide +kernel))) (by decide +kernel)
theorem km_X9_67 : Cond.methodLink RX9 67 yJ9_min_7cf53 ∈ wG := wG_of (List.mem_append_right _ (List.mem_of_getElem? (i := 631) (by decide +kernel))) (by decide +kernel)
theorem km_X9_53 : Cond.methodLink RX9 53 yX9_nextOf ∈ wG := wG_of (List.mem_append_right _ (List.mem_of_getElem? (i := 632) (by decide +kernel))) (by decide +kernel)
theorem ki_yX9_nextOf : Cond.instanceMethod yX9_nextOf ∈ wG := wG_of (List.mem_append_right _ (List.mem_of_getElem? (i := 634) (by decide +kernel))) (by decide +kernel)
theorem kc_yX9_nextOf : Cond.code yX9_nextOf cX9_nextOf 3 (some .int) ∈ wG := wG_of (List.mem_append_right _ (List.mem_of_getElem? (i := 635) (by decide +kernel))) (by decide +kernel)
theorem km_L_84 : Cond.methodLink RL 84 yX10_object ∈ wG := wG_of (List.mem_append_right _ (List.mem_of_getElem? (i := 636) (by decide +kernel))) (by decide +kernel)
theorem ki_yX10_object : Cond.instanceMethod yX10_object ∈ wG := wG_of (List.mem_append_right _ (List.mem_of_getElem? (i := 637) (by decide +kernel))) (by decide +kernel)
theorem ksel_X10_yX10_object : Cond.selects RX10 yX10_object yX10_object ∈ wG := wG_of (List.mem_append_right _ (List.mem_of_getElem? (i := 638) (by decide +kernel))) (by decide +kernel)
theorem kc_yX10_object : Cond.code yX10_object cX10_object 2 (some .int) ∈ wG := wG_of (List.mem_append_right _ (List.mem_of_getElem? (i := 639) (by decide +kernel))) (by decide +kernel)
theorem km_X10_221 : Cond.methodLink RX10 221 yX8_add ∈ wG := wG_of (List.mem_append_right _ (List.mem_of_getElem? (i := 640) (by decide +kernel))) (by decide +kernel)
theorem ki_yX8_add : Cond.instanceMethod yX8_add ∈ wG := wG_of (List.mem_append_right _ (List.mem_of_getElem? (i := 641) (by decide +kernel))) (by decide +kernel)
theorem ksel_X8_yX8_add : Cond.selects RX8 yX8_add yX8_add ∈ wG := wG_of (List.mem_append_right _ (List.mem_of_getElem? (i := 642) (by decide +kernel))) (by decide +kernel)
theorem kc_yX8_add : Cond.code yX8_add cX8_add 2 (some .int) ∈ wG := wG_of (List.mem_append_right _ (List.mem_of_getElem? (i := 643) (by decide +kernel))) (by decide +kernel)
theorem km_L_88 : Cond.methodLink RL 88 yX10_put ∈ wG := wG_of (List.mem_append_right _ (List.mem_of_getElem? (i := 644) (by decide +kernel))) (by decide +kernel)
theorem ki_yX10_put : Cond.instanceMethod yX10_put ∈ wG := wG_of (List.mem_append_right _ (List.mem_of_getElem? (i := 645) (by decide +kernel))) (by decide +kernel)
theorem ksel_X10_yX10_put : Cond.selects RX10 yX10_put yX10_put ∈ wG := wG_of (List.mem_append_right _ (List.mem_of_getElem? (i := 646) (by decide +kernel))) (by decide +kernel)
theorem kc_yX10_put : Cond.code yX10_put cX10_put 5 (some .int) ∈ wG := wG_of (List.mem_append_right _ (List.mem_of_getElem? (i := 647) (by decide +kernel))) (by decide +kernel)
theorem km_X10_224 : Cond.methodLink RX10 224 yX8_has ∈ wG := wG_of (List.mem_append_right _ (List.mem_of_getElem? (i := 648) (by decide +kernel))) (by decide +kernel)
theorem ki_yX8_has : Cond.instanceMethod yX8_has ∈ wG := wG_of (List.mem_append_right _ (List.mem_of_getElem? (i := 649) (by decide +kernel))) (by decide +kernel)
theorem ksel_X8_yX8_has : Cond.selects RX8 yX8_has yX8_has ∈ wG := wG_of (List.mem_append_right _ (List.mem_of_getElem? (i := 650) (by decide +kernel))) (by decide +kernel)
theorem kc_yX8_has : Cond.code yX8_has cX8_has 2 (some .boolean) ∈ wG := wG_of (List.mem_append_right _ (List.mem_of_getElem? (i := 651) (by decide +kernel))) (by decide +kernel)
theorem km_L_92 : Cond.methodLink RL 92 yX10_field ∈ wG := wG_of (List.mem_append_right _ (List.mem_of_getElem? (i := 653) (by decide +kernel))) (by decide +kernel)
theorem ki_yX10_field : Cond.instanceMethod yX10_field ∈ wG := wG_of (List.mem_append_right _ (List.mem_of_getElem? (i := 654) (by decide +kernel))) (by decide +kernel)
theorem ksel_X10_yX10_field : Cond.selects RX10 yX10_field yX10_field ∈ wG := wG_of (List.mem_append_right _ (List.mem_of_getElem? (i := 655) (by decide +kernel))) (by decide +kernel)
theorem kc_yX10_field : Cond.code yX10_field cX10_field 3 (some .long) ∈ wG := wG_of (List.mem_append_right _ (List.mem_of_getElem? (i := 656) (by decide +kernel))) (by decide +kernel)
theorem km_L_97 : Cond.methodLink RL 97 yX10_hand ∈ wG := wG_of (List.mem_append_right _ (List.mem_of_getElem? (i := 657) (by decide +kernel))) (by decide +kernel)
theorem ki_yX10_hand : Cond.instanceMethod yX10_hand ∈ wG := wG_of (List.mem_append_right _ (List.mem_of_getElem? (i := 658) (by decide +kernel))) (by decide +kernel)
theorem ksel_X10_yX10_hand : Cond.selects RX10 yX10_hand yX10_hand ∈ wG := wG_of (List.mem_append_right _ (List.mem_of_getElem? (i := 659) (by decide +kernel))) (by decide +kernel)
theorem kc_yX10_hand : Cond.code yX10_hand cX10_hand 4 (some .int) ∈ wG := wG_of (List.mem_append_right _ (List.mem_of_getElem? (i := 660) (by decide +kernel))) (by decide +kernel)
theorem km_L_102 : Cond.methodLink RL 102 yX10_call ∈ wG := wG_of (List.mem_append_right _ (List.mem_of_getElem? (i := 661) (by decide +kernel))) (by decide +kernel)
theorem ki_yX10_call : Cond.instanceMethod yX10_call ∈ wG := wG_of (List.mem_append_right _ (List.mem_of_getElem? (i := 662) (by decide +kernel))) (by decide +kernel)
theorem ksel_X10_yX10_call : Cond.selects RX10 yX10_call yX10_call ∈ wG := wG_of (List.mem_append_right _ (List.mem_of_getElem? (i := 663) (by decide +kernel))) (by decide +kernel)
theorem kc_yX10_call : Cond.code yX10_call cX10_call 4 (some .int) ∈ wG := wG_of (List.mem_append_right _ (List.mem_of_getElem? (i := 664) (by decide +kernel))) (by decide +kernel)
theorem km_X10_231 : Cond.methodLink RX10 231 yX1_begin ∈ wG := wG_of (List.mem_append_right _ (List.mem_of_getElem? (i := 665) (by decide +kernel))) (by decide +kernel)
theorem ki_yX1_begin : Cond.instanceMethod yX1_begin ∈ wG := wG_of (List.mem_append_right _ (List.mem_of_getElem? (i := 666) (by decide +kernel))) (by decide +kernel)
theorem ksel_X1_yX1_begin : Cond.selects RX1 yX1_begin yX1_begin ∈ wG := wG_of (List.mem_append_right _ (List.mem_of_getElem? (i := 667) (by decide +kernel))) (by decide +kernel)
theorem kc_yX1_begin : Cond.code yX1_begin cX1_begin 2 none ∈ wG := wG_of (List.mem_append_right _ (List.mem_of_getElem? (i := 668) (by decide +kernel))) (by decide +kernel)
theorem km_X10_235 : Cond.methodLink RX10 235 yX10_finish ∈ wG := wG_of (List.mem_append_right _ (List.mem_of_getElem? (i := 669) (by decide +kernel))) (by decide +kernel)
theorem ki_yX10_finish : Cond.instanceMethod yX10_finish ∈ wG := wG_of (List.mem_append_right _ (List.mem_of_getElem? (i := 671) (by decide +kernel))) (by decide +kernel)
theorem kc_yX10_finish : Cond.code yX10_finish cX10_finish 2 (some .int) ∈ wG := wG_of (List.mem_append_right _ (List.mem_of_getElem? (i := 672) (by decide +kernel))) (by decide +kernel)
theorem km_X10_238 : Cond.methodLink RX10 238 yX1_link ∈ wG := wG_of (List.mem_append_right _ (List.mem_of_getElem? (i := 673) (by decide +kernel))) (by decide +kernel)
theorem ki_yX1_link : Cond.instanceMethod yX1_link ∈ wG := wG_of (List.mem_append_right _ (List.mem_of_getElem? (i := 674) (by decide +kernel))) (by decide +kernel)
theorem ksel_X1_yX1_link : Cond.selects RX1 yX1_link yX1_link ∈ wG := wG_of (List.mem_append_right _ (List.mem_of_getElem? (i := 675) (by decide +kernel))) (by decide +kernel)
theorem kc_yX1_link : Cond.code yX1_link cX1_link 2 (some .boolean) ∈ wG := wG_of (List.mem_append_right _ (List.mem_of_getElem? (i := 676) (by decide +kernel))) (by decide +kernel)
theorem km_X1_56 : Cond.methodLink RX1 56 yX3_find ∈ wG := wG_of (List.mem_append_right _ (List.mem_of_getElem? (i := 677) (by decide +kernel))) (by decide +kernel)
theorem km_X1_63 : Cond.methodLink RX1 63 arraycopyName ∈ wG := wG_of (List.mem_append_right _ (List.mem_of_getElem? (i := 678) (by decide +kernel))) (by decide +kernel)
theorem km_X10_267 : Cond.methodLink RX10 267 yX1_perform ∈ wG := wG_of (List.mem_append_right _ (List.mem_of_getElem? (i := 679) (by decide +kernel))) (by decide +kernel)
theorem ki_yX1_perform : Cond.instanceMethod yX1_perform ∈ wG := wG_of (List.mem_append_right _ (List.mem_of_getElem? (i := 680) (by decide +kernel))) (by decide +kernel)
theorem ksel_X1_yX1_perform : Cond.selects RX1 yX1_perform yX1_perform ∈ wG := wG_of (List.mem_append_right _ (List.mem_of_getElem? (i := 681) (by decide +kernel))) (by decide +kernel)
theorem kc_yX1_perform : Cond.code yX1_perform cX1_perform 4 (some .boolean) ∈ wG := wG_of (List.mem_append_right _ (List.mem_of_getElem? (i := 682) (by decide +kernel))) (by decide +kernel)
theorem km_X1_77 : Cond.methodLink RX1 77 yX1_takeHand ∈ wG := wG_of (List.mem_append_right _ (List.mem_of_getElem? (i := 683) (by decide +kernel))) (by decide +kernel)
theorem ki_yX1_takeHand : Cond.instanceMethod yX1_takeHand ∈ wG := wG_of (List.mem_append_right _ (List.mem_of_getElem? (i := 685) (by decide +kernel))) (by decide +kernel)
theorem kc_yX1_takeHand : Cond.code yX1_takeHand cX1_takeHand 3 (some .boolean) ∈ wG := wG_of (List.mem_append_right _ (List.mem_of_getElem? (i := 686) (by decide +kernel))) (by decide +kernel)
theorem km_X1_112 : Cond.methodLink RX1 112 yX4_noteFailure ∈ wG := wG_of (List.mem_append_right _ (List.mem_of_getElem? (i := 688) (by decide +kernel))) (by decide +kernel)
theorem km_X1_81 : Cond.methodLink RX1 81 yX1_passIn ∈ wG := wG_of (List.mem_append_right _ (List.mem_of_getElem? (i := 689) (by decide +kernel))) (by decide +kernel)
theorem ki_yX1_passIn : Cond.instanceMethod yX1_passIn ∈ wG := wG_of (List.mem_append_right _ (List.mem_of_getElem? (i := 691) (by decide +kernel))) (by decide +kernel)
theorem kc_yX1_passIn : Cond.code yX1_passIn cX1_passIn 3 (some .boolean) ∈ wG := wG_of (List.mem_append_right _ (List.mem_of_getElem? (i := 692) (by decide +kernel))) (by decide +kernel)
theorem km_X1_116 : Cond.methodLink RX1 116 yX1_passTo ∈ wG := wG_of (List.mem_append_right _ (List.mem_of_getElem? (i := 693) (by decide +kernel))) (by decide +kernel)
theorem ki_yX1_passTo : Cond.instanceMethod yX1_passTo ∈ wG := wG_of (List.mem_append_right _ (List.mem_of_getElem? (i := 695) (by decide +kernel))) (by decide +kernel)
theorem kc_yX1_passTo : Cond.code yX1_passTo cX1_passTo 6 (some .boolean) ∈ wG := wG_of (List.mem_append_right _ (List.mem_of_getElem? (i := 696) (by decide +kernel))) (by decide +kernel)
theorem km_X1_130 : Cond.methodLink RX1 130 yX6_carry ∈ wG := wG_of (List.mem_append_right _ (List.mem_of_getElem? (i := 697) (by decide +kernel))) (by decide +kernel)
theorem km_X1_84 : Cond.methodLink RX1 84 yX1_doWork ∈ wG := wG_of (List.mem_append_right _ (List.mem_of_getElem? (i := 698) (by decide +kernel))) (by decide +kernel)
theorem ki_yX1_doWork : Cond.instanceMethod yX1_doWork ∈ wG := wG_of (List.mem_append_right _ (List.mem_of_getElem? (i := 700) (by decide +kernel))) (by decide +kernel)
theorem kc_yX1_doWork : Cond.code yX1_doWork cX1_doWork 5 (some .boolean) ∈ wG := wG_of (List.mem_append_right _ (List.mem_of_getElem? (i := 701) (by decide +kernel))) (by decide +kernel)
theorem km_X1_141 : Cond.methodLink RX1 141 yX1_giveIfOf ∈ wG := wG_of (List.mem_append_right _ (List.mem_of_getElem? (i := 702) (by decide +kernel))) (by decide +kernel)
theorem ki_yX1_giveIfOf : Cond.instanceMethod yX1_giveIfOf ∈ wG := wG_of (List.mem_append_right _ (List.mem_of_getElem? (i := 704) (by decide +kernel))) (by decide +kernel)
theorem kc_yX1_giveIfOf : Cond.code yX1_giveIfOf cX1_giveIfOf 4 (some .boolean) ∈ wG := wG_of (List.mem_append_right _ (List.mem_of_getElem? (i := 705) (by decide +kernel))) (by decide +kernel)
theorem km_X1_145 : Cond.methodLink RX1 145 yX1_writeField ∈ wG := wG_of (List.mem_append_right _ (List.mem_of_getElem? (i := 706) (by decide +kernel))) (by decide +kernel)
theorem ki_yX1_writeField : Cond.instanceMethod yX1_writeField ∈ wG := wG_of (List.mem_append_right _ (List.mem_of_getElem? (i := 708) (by decide +kernel))) (by decide +kernel)
theorem kc_yX1_writeField : Cond.code yX1_writeField cX1_writeField 6 (some .boolean) ∈ wG := wG_of (List.mem_append_right _ (List.mem_of_getElem? (i := 709) (by decide +kernel))) (by decide +kernel)
theorem km_X1_168 : Cond.methodLink RX1 168 yX1_addTo ∈ wG := wG_of (List.mem_append_right _ (List.mem_of_getElem? (i := 710) (by decide +kernel))) (by decide +kernel)
theorem ki_yX1_addTo : Cond.instanceMethod yX1_addTo ∈ wG := wG_of (List.mem_append_right _ (List.mem_of_getElem? (i := 712) (by decide +kernel))) (by decide +kernel)
theorem kc_yX1_addTo : Cond.code yX1_addTo cX1_addTo 4 (some .boolean) ∈ wG := wG_of (List.mem_append_right _ (List.mem_of_getElem? (i := 713) (by decide +kernel))) (by decide +kernel)
theorem ks_yX10_sumStaysIn64 : Cond.static yX10_sumStaysIn64 ∈ wG := wG_of (List.mem_append_right _ (List.mem_of_getElem? (i := 715) (by decide +kernel))) (by decide +kernel)
theorem kc_yX10_sumStaysIn64 : Cond.code yX10_sumStaysIn64 cX10_sumStaysIn64 6 (some .boolean) ∈ wG := wG_of (List.mem_append_right _ (List.mem_of_getElem? (i := 716) (by decide +kernel))) (by decide +kernel)
theorem km_X1_149 : Cond.methodLink RX1 149 yX1_addUp ∈ wG := wG_of (List.mem_append_right _ (List.mem_of_getElem? (i := 717) (by decide +kernel))) (by decide +kernel)
theorem ki_yX1_addUp : Cond.instanceMethod yX1_addUp ∈ wG := wG_of (List.mem_append_right _ (List.mem_of_getElem? (i := 719) (by decide +kernel))) (by decide +kernel)
theorem kc_yX1_addUp : Cond.code yX1_addUp cX1_addUp 3 (some .boolean) ∈ wG := wG_of (List.mem_append_right _ (List.mem_of_getElem? (i := 720) (by decide +kernel))) (by decide +kernel)
theorem km_X1_153 : Cond.methodLink RX1 153 yX1_addField ∈ wG := wG_of (List.mem_append_right _ (List.mem_of_getElem? (i := 722) (by decide +kernel))) (by decide +kernel)
theorem ki_yX1_addField : Cond.instanceMethod yX1_addField ∈ wG := wG_of (List.mem_append_right _ (List.mem_of_getElem? (i := 724) (by decide +kernel))) (by decide +kernel)
theorem kc_yX1_addField : Cond.code yX1_addField cX1_addField 4 (some .boolean) ∈ wG := wG_of (List.mem_append_right _ (List.mem_of_getElem? (i := 725) (by decide +kernel))) (by decide +kernel)
theorem km_X1_88 : Cond.methodLink RX1 88 yX1_passBack ∈ wG := wG_of (List.mem_append_right _ (List.mem_of_getElem? (i := 726) (by decide +kernel))) (by decide +kernel)
theorem ki_yX1_passBack : Cond.instanceMethod yX1_passBack ∈ wG := wG_of (List.mem_append_right _ (List.mem_of_getElem? (i := 728) (by decide +kernel))) (by decide +kernel)
theorem kc_yX1_passBack : Cond.code yX1_passBack cX1_passBack 2 (some .boolean) ∈ wG := wG_of (List.mem_append_right _ (List.mem_of_getElem? (i := 729) (by decide +kernel))) (by decide +kernel)
theorem km_L_106 : Cond.methodLink RL 106 yX10_through ∈ wG := wG_of (List.mem_append_right _ (List.mem_of_getElem? (i := 730) (by decide +kernel))) (by decide +kernel)
theorem ki_yX10_through : Cond.instanceMethod yX10_through ∈ wG := wG_of (List.mem_append_right _ (List.mem_of_getElem? (i := 731) (by decide +kernel))) (by decide +kernel)
theorem ksel_X10_yX10_through : Cond.selects RX10 yX10_through yX10_through ∈ wG := wG_of (List.mem_append_right _ (List.mem_of_getElem? (i := 732) (by decide +kernel))) (by decide +kernel)
theorem kc_yX10_through : Cond.code yX10_through cX10_through 6 (some .int) ∈ wG := wG_of (List.mem_append_right _ (List.mem_of_getElem? (i := 733) (by decide +kernel))) (by decide +kernel)
theorem km_L_110 : Cond.methodLink RL 110 yX10_value ∈ wG := wG_of (List.mem_append_right _ (List.mem_of_getElem? (i := 734) (by decide +kernel))) (by decide +kernel)
theorem ki_yX10_value : Cond.instanceMethod yX10_value ∈ wG := wG_of (List.mem_append_right _ (List.mem_of_getElem? (i := 735) (by decide +kernel))) (by decide +kernel)
theorem ksel_X10_yX10_value : Cond.selects RX10 yX10_value yX10_value ∈ wG := wG_of (List.mem_append_right _ (List.mem_of_getElem? (i := 736) (by decide +kernel))) (by decide +kernel)
theorem kc_yX10_value : Cond.code yX10_value cX10_value 1 (some .long) ∈ wG := wG_of (List.mem_append_right _ (List.mem_of_getElem? (i := 737) (by decide +kernel))) (by decide +kernel)
theorem km_L_115 : Cond.methodLink RL 115 yX10_failed ∈ wG := wG_of (List.mem_append_right _ (List.mem_of_getElem? (i := 738) (by decide +kernel))) (by decide +kernel)
theorem ki_yX10_failed : Cond.instanceMethod yX10_failed ∈ wG := wG_of (List.mem_append_right _ (List.mem_of_getElem? (i := 739) (by decide +kernel))) (by decide +kernel)
theorem ksel_X10_yX10_failed : Cond.selects RX10 yX10_failed yX10_failed ∈ wG := wG_of (List.mem_append_right _ (List.mem_of_getElem? (i := 740) (by decide +kernel))) (by decide +kernel)
theorem kc_yX10_failed : Cond.code yX10_failed cX10_failed 2 (some .int) ∈ wG := wG_of (List.mem_append_right _ (List.mem_of_getElem? (i := 741) (by decide +kernel))) (by decide +kernel)
theorem km_L_119 : Cond.methodLink RL 119 yX10_count ∈ wG := wG_of (List.mem_append_right _ (List.mem_of_getElem? (i := 742) (by decide +kernel))) (by decide +kernel)
theorem ki_yX10_count : Cond.instanceMethod yX10_count ∈ wG := wG_of (List.mem_append_right _ (List.mem_of_getElem? (i := 743) (by decide +kernel))) (by decide +kernel)
theorem ksel_X10_yX10_count : Cond.selects RX10 yX10_count yX10_count ∈ wG := wG_of (List.mem_append_right _ (List.mem_of_getElem? (i := 744) (by decide +kernel))) (by decide +kernel)
theorem kc_yX10_count : Cond.code yX10_count cX10_count 2 (some .int) ∈ wG := wG_of (List.mem_append_right _ (List.mem_of_getElem? (i := 745) (by decide +kernel))) (by decide +kernel)
theorem km_X10_252 : Cond.methodLink RX10 252 yX2_held ∈ wG := wG_of (List.mem_append_right _ (List.mem_of_getElem? (i := 746) (by decide +kernel))) (by decide +kernel)
theorem ki_yX2_held : Cond.instanceMethod yX2_held ∈ wG := wG_of (List.mem_append_right _ (List.mem_of_getElem? (i := 747) (by decide +kernel))) (by decide +kernel)
theorem ksel_X2_yX2_held : Cond.selects RX2 yX2_held yX2_held ∈ wG := wG_of (List.mem_append_right _ (List.mem_of_getElem? (i := 748) (by decide +kernel))) (by decide +kernel)
theorem kc_yX2_held : Cond.code yX2_held cX2_held 6 (some .int) ∈ wG := wG_of (List.mem_append_right _ (List.mem_of_getElem? (i := 749) (by decide +kernel))) (by decide +kernel)
theorem km_X10_255 : Cond.methodLink RX10 255 yX10_membersOf ∈ wG := wG_of (List.mem_append_right _ (List.mem_of_getElem? (i := 750) (by decide +kernel))) (by decide +kernel)
theorem ki_yX10_membersOf : Cond.instanceMethod yX10_membersOf ∈ wG := wG_of (List.mem_append_right _ (List.mem_of_getElem? (i := 752) (by decide +kernel))) (by decide +kernel)
theorem kc_yX10_membersOf : Cond.code yX10_membersOf cX10_membersOf 5 (some .int) ∈ wG := wG_of (List.mem_append_right _ (List.mem_of_getElem? (i := 753) (by decide +kernel))) (by decide +kernel)
theorem kcl_L_10 : Cond.classLink RL 10 RX11 ∈ wG := wG_of (List.mem_append_right _ (List.mem_of_getElem? (i := 754) (by decide +kernel))) (by decide +kernel)
theorem kinst_X11 : Cond.instantiable RX11 56 ∈ wG := wG_of (List.mem_append_right _ (List.mem_of_getElem? (i := 755) (by decide +kernel))) (by decide +kernel)
theorem km_L_12 : Cond.methodLink RL 12 yX11_init ∈ wG := wG_of (List.mem_append_right _ (List.mem_of_getElem? (i := 756) (by decide +kernel))) (by decide +kernel)
theorem ki_yX11_init : Cond.instanceMethod yX11_init ∈ wG := wG_of (List.mem_append_right _ (List.mem_of_getElem? (i := 757) (by decide +kernel))) (by decide +kernel)
theorem kc_yX11_init : Cond.code yX11_init cX11_init 1 none ∈ wG := wG_of (List.mem_append_right _ (List.mem_of_getElem? (i := 758) (by decide +kernel))) (by decide +kernel)
theorem km_X11_1 : Cond.methodLink RX11 1 objectInit ∈ wG := wG_of (List.mem_append_right _ (List.mem_of_getElem? (i := 759) (by decide +kernel))) (by decide +kernel)
theorem km_X11_123 : Cond.methodLink RX11 123 yX11_base ∈ wG := wG_of (List.mem_append_right _ (List.mem_of_getElem? (i := 760) (by decide +kernel))) (by decide +kernel)
theorem ki_yX11_base : Cond.instanceMethod yX11_base ∈ wG := wG_of (List.mem_append_right _ (List.mem_of_getElem? (i := 762) (by decide +kernel))) (by decide +kernel)
theorem kc_yX11_base : Cond.code yX11_base cX11_base 4 none ∈ wG := wG_of (List.mem_append_right _ (List.mem_of_getElem? (i := 763) (by decide +kernel))) (by decide +kernel)
theorem kf_X11_131 : Cond.fieldLink RX11 131 RX11 (TX11 0).2.1 (TX11 0).2.2.1 ∈ wG := wG_of (List.mem_append_right _ (List.mem_of_getElem? (i := 764) (by decide +kernel))) (by decide +kernel)
theorem kf_X11_127 : Cond.fieldLink RX11 127 RX11 (TX11 1).2.1 (TX11 1).2.2.1 ∈ wG := wG_of (List.mem_append_right _ (List.mem_of_getElem? (i := 765) (by decide +kernel))) (by decide +kernel)
theorem kf_X11_7 : Cond.fieldLink RX11 7 RX11 (TX11 2).2.1 (TX11 2).2.2.1 ∈ wG := wG_of (List.mem_append_right _ (List.mem_of_getElem? (i := 766) (by decide +kernel))) (by decide +kernel)
theorem kf_X11_13 : Cond.fieldLink RX11 13 RX11 (TX11 3).2.1 (TX11 3).2.2.1 ∈ wG := wG_of (List.mem_append_right _ (List.mem_of_getElem? (i := 767) (by decide +kernel))) (by decide +kernel)
theorem kf_X11_16 : Cond.fieldLink RX11 16 RX11 (TX11 4).2.1 (TX11 4).2.2.1 ∈ wG := wG_of (List.mem_append_right _ (List.mem_of_getElem? (i := 768) (by decide +kernel))) (by decide +kernel)
theorem kf_X11_19 : Cond.fieldLink RX11 19 RX11 (TX11 5).2.1 (TX11 5).2.2.1 ∈ wG := wG_of (List.mem_append_right _ (List.mem_of_getElem? (i := 769) (by decide +kernel))) (by decide +kernel)
theorem kf_X11_22 : Cond.fieldLink RX11 22 RX11 (TX11 6).2.1 (TX11 6).2.2.1 ∈ wG := wG_of (List.mem_append_right _ (List.mem_of_getElem? (i := 770) (by decide +kernel))) (by decide +kernel)
theorem kf_X11_25 : Cond.fieldLink RX11 25 RX11 (TX11 7).2.1 (TX11 7).2.2.1 ∈ wG := wG_of (List.mem_append_right _ (List.mem_of_getElem? (i := 771) (by decide +kernel))) (by decide +kernel)
theorem kf_X11_29 : Cond.fieldLink RX11 29 RX11 (TX11 8).2.1 (TX11 8).2.2.1 ∈ wG := wG_of (List.mem_append_right _ (List.mem_of_getElem? (i := 772) (by decide +kernel))) (by decide +kernel)
theorem kf_X11_32 : Cond.fieldLink RX11 32 RX11 (TX11 9).2.1 (TX11 9).2.2.1 ∈ wG := wG_of (List.mem_append_right _ (List.mem_of_getElem? (i := 773) (by decide +kernel))) (by decide +kernel)
theorem kf_X11_35 : Cond.fieldLink RX11 35 RX11 (TX11 10).2.1 (TX11 10).2.2.1 ∈ wG := wG_of (List.mem_append_right _ (List.mem_of_getElem? (i := 774) (by decide +kernel))) (by decide +kernel)
theorem kf_X11_38 : Cond.fieldLink RX11 38 RX11 (TX11 11).2.1 (TX11 11).2.2.1 ∈ wG := wG_of (List.mem_append_right _ (List.mem_of_getElem? (i := 775) (by decide +kernel))) (by decide +kernel)
theorem kf_X11_41 : Cond.fieldLink RX11 41 RX11 (TX11 12).2.1 (TX11 12).2.2.1 ∈ wG := wG_of (List.mem_append_right _ (List.mem_of_getElem? (i := 776) (by decide +kernel))) (by decide +kernel)
theorem kf_X11_44 : Cond.fieldLink RX11 44 RX11 (TX11 13).2.1 (TX11 13).2.2.1 ∈ wG := wG_of (List.mem_append_right _ (List.mem_of_getElem? (i := 777) (by decide +kernel))) (by decide +kernel)
theorem kf_X11_47 : Cond.fieldLink RX11 47 RX11 (TX11 14).2.1 (TX11 14).2.2.1 ∈ wG := wG_of (List.mem_append_right _ (List.mem_of_getElem? (i := 778) (by decide +kernel))) (by decide +kernel)
theorem kf_X11_50 : Cond.fieldLink RX11 50 RX11 (TX11 15).2.1 (TX11 15).2.2.1 ∈ wG := wG_of (List.mem_append_right _ (List.mem_of_getElem? (i := 779) (by decide +kernel))) (by decide +kernel)
theorem kf_X11_53 : Cond.fieldLink RX11 53 RX11 (TX11 16).2.1 (TX11 16).2.2.1 ∈ wG := wG_of (List.mem_append_right _ (List.mem_of_getElem? (i := 780) (by decide +kernel))) (by decide +kernel)
theorem kf_X11_56 : Cond.fieldLink RX11 56 RX11 (TX11 17).2.1 (TX11 17).2.2.1 ∈ wG := wG_of (List.mem_append_right _ (List.mem_of_getElem? (i := 781) (by decide +kernel))) (by decide +kernel)
theorem kf_X11_239 : Cond.fieldLink RX11 239 RX11 (TX11 18).2.1 (TX11 18).2.2.1 ∈ wG := wG_of (List.mem_append_right _ (List.mem_of_getElem? (i := 782) (by decide +kernel))) (by decide +kernel)
theorem kf_X11_59 : Cond.fieldLink RX11 59 RX11 (TX11 19).2.1 (TX11 19).2.2.1 ∈ wG := wG_of (List.mem_append_right _ (List.mem_of_getElem? (i := 783) (by decide +kernel))) (by decide +kernel)
theorem kf_X11_62 : Cond.fieldLink RX11 62 RX11 (TX11 20).2.1 (TX11 20).2.2.1 ∈ wG := wG_of (List.mem_append_right _ (List.mem_of_getElem? (i := 784) (by decide +kernel))) (by decide +kernel)
theorem kf_X11_282 : Cond.fieldLink RX11 282 RX11 (TX11 21).2.1 (TX11 21).2.2.1 ∈ wG := wG_of (List.mem_append_right _ (List.mem_of_getElem? (i := 785) (by decide +kernel))) (by decide +kernel)
theorem kf_X11_66 : Cond.fieldLink RX11 66 RX11 (TX11 22).2.1 (TX11 22).2.2.1 ∈ wG := wG_of (List.mem_append_right _ (List.mem_of_getElem? (i := 786) (by decide +kernel))) (by decide +kernel)
theorem kf_X11_69 : Cond.fieldLink RX11 69 RX11 (TX11 23).2.1 (TX11 23).2.2.1 ∈ wG := wG_of (List.mem_append_right _ (List.mem_of_getElem? (i := 787) (by decide +kernel))) (by decide +kernel)
theorem kf_X11_72 : Cond.fieldLink RX11 72 RX11 (TX11 24).2.1 (TX11 24).2.2.1 ∈ wG := wG_of (List.mem_append_right _ (List.mem_of_getElem? (i := 788) (by decide +kernel))) (by decide +kernel)
theorem kf_X11_216 : Cond.fieldLink RX11 216 RX11 (TX11 25).2.1 (TX11 25).2.2.1 ∈ wG := wG_of (List.mem_append_right _ (List.mem_of_getElem? (i := 789) (by decide +kernel))) (by decide +kernel)
theorem kf_X11_192 : Cond.fieldLink RX11 192 RX11 (TX11 26).2.1 (TX11 26).2.2.1 ∈ wG := wG_of (List.mem_append_right _ (List.mem_of_getElem? (i := 790) (by decide +kernel))) (by decide +kernel)
theorem kf_X11_196 : Cond.fieldLink RX11 196 RX11 (TX11 27).2.1 (TX11 27).2.2.1 ∈ wG := wG_of (List.mem_append_right _ (List.mem_of_getElem? (i := 791) (by decide +kernel))) (by decide +kernel)
theorem kf_X11_199 : Cond.fieldLink RX11 199 RX11 (TX11 28).2.1 (TX11 28).2.2.1 ∈ wG := wG_of (List.mem_append_right _ (List.mem_of_getElem? (i := 792) (by decide +kernel))) (by decide +kernel)
theorem kf_X11_306 : Cond.fieldLink RX11 306 RX11 (TX11 29).2.1 (TX11 29).2.2.1 ∈ wG := wG_of (List.mem_append_right _ (List.mem_of_getElem? (i := 793) (by decide +kernel))) (by decide +kernel)
theorem kf_X11_309 : Cond.fieldLink RX11 309 RX11 (TX11 30).2.1 (TX11 30).2.2.1 ∈ wG := wG_of (List.mem_append_right _ (List.mem_of_getElem? (i := 794) (by decide +kernel))) (by decide +kernel)
theorem kf_X11_158 : Cond.fieldLink RX11 158 RX11 (TX11 31).2.1 (TX11 31).2.2.1 ∈ wG := wG_of (List.mem_append_right _ (List.mem_of_getElem? (i := 795) (by decide +kernel))) (by decide +kernel)
theorem kf_X11_75 : Cond.fieldLink RX11 75 RX11 (TX11 32).2.1 (TX11 32).2.2.1 ∈ wG := wG_of (List.mem_append_right _ (List.mem_of_getElem? (i := 796) (by decide +kernel))) (by decide +kernel)
theorem kf_X11_78 : Cond.fieldLink RX11 78 RX11 (TX11 33).2.1 (TX11 33).2.2.1 ∈ wG := wG_of (List.mem_append_right _ (List.mem_of_getElem? (i := 797) (by decide +kernel))) (by decide +kernel)
theorem kf_X11_81 : Cond.fieldLink RX11 81 RX11 (TX11 34).2.1 (TX11 34).2.2.1 ∈ wG := wG_of (List.mem_append_right _ (List.mem_of_getElem? (i := 798) (by decide +kernel))) (by decide +kernel)
theorem kf_X11_84 : Cond.fieldLink RX11 84 RX11 (TX11 35).2.1 (TX11 35).2.2.1 ∈ wG := wG_of (List.mem_append_right _ (List.mem_of_getElem? (i := 799) (by decide +kernel))) (by decide +kernel)
theorem kf_X11_87 : Cond.fieldLink RX11 87 RX11 (TX11 36).2.1 (TX11 36).2.2.1 ∈ wG := wG_of (List.mem_append_right _ (List.mem_of_getElem? (i := 800) (by decide +kernel))) (by decide +kernel)
theorem kf_X11_202 : Cond.fieldLink RX11 202 RX11 (TX11 37).2.1 (TX11 37).2.2.1 ∈ wG := wG_of (List.mem_append_right _ (List.mem_of_getElem? (i := 801) (by decide +kernel))) (by decide +kernel)
theorem kf_X11_90 : Cond.fieldLink RX11 90 RX11 (TX11 38).2.1 (TX11 38).2.2.1 ∈ wG := wG_of (List.mem_append_right _ (List.mem_of_getElem? (i := 802) (by decide +kernel))) (by decide +kernel)
theorem kf_X11_93 : Cond.fieldLink RX11 93 RX11 (TX11 39).2.1 (TX11 39).2.2.1 ∈ wG := wG_of (List.mem_append_right _ (List.mem_of_getElem? (i := 803) (by decide +kernel))) (by decide +kernel)
theorem kf_X11_242 : Cond.fieldLink RX11 242 RX11 (TX11 40).2.1 (TX11 40).2.2.1 ∈ wG := wG_of (List.mem_append_right _ (List.mem_of_getElem? (i := 804) (by decide +kernel))) (by decide +kernel)
theorem kf_X11_253 : Cond.fieldLink RX11 253 RX11 (TX11 41).2.1 (TX11 41).2.2.1 ∈ wG := wG_of (List.mem_append_right _ (List.mem_of_getElem? (i := 805) (by decide +kernel))) (by decide +kernel)
theorem kf_X11_259 : Cond.fieldLink RX11 259 RX11 (TX11 42).2.1 (TX11 42).2.2.1 ∈ wG := wG_of (List.mem_append_right _ (List.mem_of_getElem? (i := 806) (by decide +kernel))) (by decide +kernel)
theorem kf_X11_96 : Cond.fieldLink RX11 96 RX11 (TX11 43).2.1 (TX11 43).2.2.1 ∈ wG := wG_of (List.mem_append_right _ (List.mem_of_getElem? (i := 807) (by decide +kernel))) (by decide +kernel)
theorem kf_X11_99 : Cond.fieldLink RX11 99 RX11 (TX11 44).2.1 (TX11 44).2.2.1 ∈ wG := wG_of (List.mem_append_right _ (List.mem_of_getElem? (i := 808) (by decide +kernel))) (by decide +kernel)
theorem kf_X11_102 : Cond.fieldLink RX11 102 RX11 (TX11 45).2.1 (TX11 45).2.2.1 ∈ wG := wG_of (List.mem_append_right _ (List.mem_of_getElem? (i := 809) (by decide +kernel))) (by decide +kernel)
theorem kf_X11_105 : Cond.fieldLink RX11 105 RX11 (TX11 46).2.1 (TX11 46).2.2.1 ∈ wG := wG_of (List.mem_append_right _ (List.mem_of_getElem? (i := 810) (by decide +kernel))) (by decide +kernel)
theorem kf_X11_276 : Cond.fieldLink RX11 276 RX11 (TX11 47).2.1 (TX11 47).2.2.1 ∈ wG := wG_of (List.mem_append_right _ (List.mem_of_getElem? (i := 811) (by decide +kernel))) (by decide +kernel)
theorem kf_X11_108 : Cond.fieldLink RX11 108 RX11 (TX11 48).2.1 (TX11 48).2.2.1 ∈ wG := wG_of (List.mem_append_right _ (List.mem_of_getElem? (i := 812) (by decide +kernel))) (by decide +kernel)
theorem kf_X11_287 : Cond.fieldLink RX11 287 RX11 (TX11 49).2.1 (TX11 49).2.2.1 ∈ wG := wG_of (List.mem_append_right _ (List.mem_of_getElem? (i := 813) (by decide +kernel))) (by decide +kernel)
theorem kf_X11_111 : Cond.fieldLink RX11 111 RX11 (TX11 50).2.1 (TX11 50).2.2.1 ∈ wG := wG_of (List.mem_append_right _ (List.mem_of_getElem? (i := 814) (by decide +kernel))) (by decide +kernel)
theorem kf_X11_114 : Cond.fieldLink RX11 114 RX11 (TX11 51).2.1 (TX11 51).2.2.1 ∈ wG := wG_of (List.mem_append_right _ (List.mem_of_getElem? (i := 815) (by decide +kernel))) (by decide +kernel)
theorem kf_X11_117 : Cond.fieldLink RX11 117 RX11 (TX11 52).2.1 (TX11 52).2.2.1 ∈ wG := wG_of (List.mem_append_right _ (List.mem_of_getElem? (i := 816) (by decide +kernel))) (by decide +kernel)
theorem kf_X11_120 : Cond.fieldLink RX11 120 RX11 (TX11 53).2.1 (TX11 53).2.2.1 ∈ wG := wG_of (List.mem_append_right _ (List.mem_of_getElem? (i := 817) (by decide +kernel))) (by decide +kernel)
theorem kf_X11_297 : Cond.fieldLink RX11 297 RX11 (TX11 54).2.1 (TX11 54).2.2.1 ∈ wG := wG_of (List.mem_append_right _ (List.mem_of_getElem? (i := 818) (by decide +kernel))) (by decide +kernel)
theorem kf_X11_290 : Cond.fieldLink RX11 290 RX11 (TX11 55).2.1 (TX11 55).2.2.1 ∈ wG := wG_of (List.mem_append_right _ (List.mem_of_getElem? (i := 819) (by decide +kernel))) (by decide +kernel)
theorem km_L_17 : Cond.methodLink RL 17 yX11_rule ∈ wG := wG_of (List.mem_append_right _ (List.mem_of_getElem? (i := 933) (by decide +kernel))) (by decide +kernel)
theorem ki_yX11_rule : Cond.instanceMethod yX11_rule ∈ wG := wG_of (List.mem_append_right _ (List.mem_of_getElem? (i := 934) (by decide +kernel))) (by decide +kernel)
theorem ksel_X11_yX11_rule : Cond.selects RX11 yX11_rule yX11_rule ∈ wG := wG_of (List.mem_append_right _ (List.mem_of_getElem? (i := 935) (by decide +kernel))) (by decide +kernel)
theorem kc_yX11_rule : Cond.code yX11_rule cX11_rule 5 (some .int) ∈ wG := wG_of (List.mem_append_right _ (List.mem_of_getElem? (i := 936) (by decide +kernel))) (by decide +kernel)
theorem kkl_X11_150 : Cond.constantLong RX11 150 (6) ∈ wG := wG_of (List.mem_append_right _ (List.mem_of_getElem? (i := 937) (by decide +kernel))) (by decide +kernel)
theorem km_X11_138 : Cond.methodLink RX11 138 yX11_in ∈ wG := wG_of (List.mem_append_right _ (List.mem_of_getElem? (i := 938) (by decide +kernel))) (by decide +kernel)
theorem ks_yX11_in : Cond.static yX11_in ∈ wG := wG_of (List.mem_append_right _ (List.mem_of_getElem? (i := 939) (by decide +kernel))) (by decide +kernel)
theorem kc_yX11_in : Cond.code yX11_in cX11_in 6 (some .boolean) ∈ wG := wG_of (List.mem_append_right _ (List.mem_of_getElem? (i := 940) (by decide +kernel))) (by decide +kernel)
theorem kkl_X11_152 : Cond.constantLong RX11 152 (50) ∈ wG := wG_of (List.mem_append_right _ (List.mem_of_getElem? (i := 941) (by decide +kernel))) (by decide +kernel)
theorem kkl_X11_154 : Cond.constantLong RX11 154 (20002000) ∈ wG := wG_of (List.mem_append_right _ (List.mem_of_getElem? (i := 942) (by decide +kernel))) (by decide +kernel)
theorem km_L_22 : Cond.methodLink RL 22 yX11_drop ∈ wG := wG_of (List.mem_append_right _ (List.mem_of_getElem? (i := 943) (by decide +kernel))) (by decide +kernel)
theorem ki_yX11_drop : Cond.instanceMethod yX11_drop ∈ wG := wG_of (List.mem_append_right _ (List.mem_of_getElem? (i := 944) (by decide +kernel))) (by decide +kernel)
theorem ksel_X11_yX11_drop : Cond.selects RX11 yX11_drop yX11_drop ∈ wG := wG_of (List.mem_append_right _ (List.mem_of_getElem? (i := 945) (by decide +kernel))) (by decide +kernel)
theorem kc_yX11_drop : Cond.code yX11_drop cX11_drop 2 (some .int) ∈ wG := wG_of (List.mem_append_right _ (List.mem_of_getElem? (i := 946) (by decide +kernel))) (by decide +kernel)
theorem kkl_X11_156 : Cond.constantLong RX11 156 (12) ∈ wG := wG_of (List.mem_append_right _ (List.mem_of_getElem? (i := 947) (by decide +kernel))) (by decide +kernel)
theorem km_L_27 : Cond.methodLink RL 27 yX11_turning ∈ wG := wG_of (List.mem_append_right _ (List.mem_of_getElem? (i := 948) (by decide +kernel))) (by decide +kernel)
theorem ki_yX11_turning : Cond.instanceMethod yX11_turning ∈ wG := wG_of (List.mem_append_right _ (List.mem_of_getElem? (i := 949) (by decide +kernel))) (by decide +kernel)
theorem ksel_X11_yX11_turning : Cond.selects RX11 yX11_turning yX11_turning ∈ wG := wG_of (List.mem_append_right _ (List.mem_of_getElem? (i := 950) (by decide +kernel))) (by decide +kernel)
theorem kc_yX11_turning : Cond.code yX11_turning cX11_turning 5 (some .int) ∈ wG := wG_of (List.mem_append_right _ (List.mem_of_getElem? (i := 951) (by decide +kernel))) (by decide +kernel)
theorem km_X11_189 : Cond.methodLink RX11 189 yX11_measure ∈ wG := wG_of (List.mem_append_right _ (List.mem_of_getElem? (i := 952) (by decide +kernel))) (by decide +kernel)
theorem ki_yX11_measure : Cond.instanceMethod yX11_measure ∈ wG := wG_of (List.mem_append_right _ (List.mem_of_getElem? (i := 954) (by decide +kernel))) (by decide +kernel)
theorem kc_yX11_measure : Cond.code yX11_measure cX11_measure 2 none ∈ wG := wG_of (List.mem_append_right _ (List.mem_of_getElem? (i := 955) (by decide +kernel))) (by decide +kernel)
theorem km_X11_185 : Cond.methodLink RX11 185 yX11_turningsFrom ∈ wG := wG_of (List.mem_append_right _ (List.mem_of_getElem? (i := 956) (by decide +kernel))) (by decide +kernel)
theorem ki_yX11_turningsFrom : Cond.instanceMethod yX11_turningsFrom ∈ wG := wG_of (List.mem_append_right _ (List.mem_of_getElem? (i := 958) (by decide +kernel))) (by decide +kernel)
theorem kc_yX11_turningsFrom : Cond.code yX11_turningsFrom cX11_turningsFrom 10 none ∈ wG := wG_of (List.mem_append_right _ (List.mem_of_getElem? (i := 959) (by decide +kernel))) (by decide +kernel)
theorem kk_X11_180 : Cond.constant RX11 180 (1000000) ∈ wG := wG_of (List.mem_append_right _ (List.mem_of_getElem? (i := 960) (by decide +kernel))) (by decide +kernel)
theorem km_X11_181 : Cond.methodLink RX11 181 yX11_isAhead ∈ wG := wG_of (List.mem_append_right _ (List.mem_of_getElem? (i := 961) (by decide +kernel))) (by decide +kernel)
theorem ki_yX11_isAhead : Cond.instanceMethod yX11_isAhead ∈ wG := wG_of (List.mem_append_right _ (List.mem_of_getElem? (i := 963) (by decide +kernel))) (by decide +kernel)
theorem kc_yX11_isAhead : Cond.code yX11_isAhead cX11_isAhead 7 (some .boolean) ∈ wG := wG_of (List.mem_append_right _ (List.mem_of_getElem? (i := 964) (by decide +kernel))) (by decide +kernel)
theorem km_L_34 : Cond.methodLink RL 34 yX11_turn ∈ wG := wG_of (List.mem_append_right _ (List.mem_of_getElem? (i := 965) (by decide +kernel))) (by decide +kernel)
theorem ki_yX11_turn : Cond.instanceMethod yX11_turn ∈ wG := wG_of (List.mem_append_right _ (List.mem_of_getElem? (i := 966) (by decide +kernel))) (by decide +kernel)
theorem ksel_X11_yX11_turn : Cond.selects RX11 yX11_turn yX11_turn ∈ wG := wG_of (List.mem_append_right _ (List.mem_of_getElem? (i := 967) (by decide +kernel))) (by decide +kernel)
theorem kc_yX11_turn : Cond.code yX11_turn cX11_turn 5 (some .int) ∈ wG := wG_of (List.mem_append_right _ (List.mem_of_getElem? (i := 968) (by decide +kernel))) (by decide +kernel)
theorem km_X11_176 : Cond.methodLink RX11 176 yX11_isOf ∈ wG := wG_of (List.mem_append_right _ (List.mem_of_getElem? (i := 969) (by decide +kernel))) (by decide +kernel)
theorem ks_yX11_isOf : Cond.static yX11_isOf ∈ wG := wG_of (List.mem_append_right _ (List.mem_of_getElem? (i := 970) (by decide +kernel))) (by decide +kernel)
theorem kc_yX11_isOf : Cond.code yX11_isOf cX11_isOf 3 (some .boolean) ∈ wG := wG_of (List.mem_append_right _ (List.mem_of_getElem? (i := 971) (by decide +kernel))) (by decide +kernel)
theorem kkl_X11_134 : Cond.constantLong RX11 134 (-128) ∈ wG := wG_of (List.mem_append_right _ (List.mem_of_getElem? (i := 972) (by decide +kernel))) (by decide +kernel)
theorem kkl_X11_136 : Cond.constantLong RX11 136 (127) ∈ wG := wG_of (List.mem_append_right _ (List.mem_of_getElem? (i := 973) (by decide +kernel))) (by decide +kernel)
theorem kkl_X11_142 : Cond.constantLong RX11 142 (-32768) ∈ wG := wG_of (List.mem_append_right _ (List.mem_of_getElem? (i := 974) (by decide +kernel))) (by decide +kernel)
theorem kkl_X11_144 : Cond.constantLong RX11 144 (32767) ∈ wG := wG_of (List.mem_append_right _ (List.mem_of_getElem? (i := 975) (by decide +kernel))) (by decide +kernel)
theorem kkl_X11_146 : Cond.constantLong RX11 146 (-2147483648) ∈ wG := wG_of (List.mem_append_right _ (List.mem_of_getElem? (i := 976) (by decide +kernel))) (by decide +kernel)
theorem kkl_X11_148 : Cond.constantLong RX11 148 (2147483647) ∈ wG := wG_of (List.mem_append_right _ (List.mem_of_getElem? (i := 977) (by decide +kernel))) (by decide +kernel)
theorem km_X11_208 : Cond.methodLink RX11 208 yX11_fail ∈ wG := wG_of (List.mem_append_right _ (List.mem_of_getElem? (i := 978) (by decide +kernel))) (by decide +kernel)
theorem ki_yX11_fail : Cond.instanceMethod yX11_fail ∈ wG := wG_of (List.mem_append_right _ (List.mem_of_getElem? (i := 980) (by decide +kernel))) (by decide +kernel)
theorem kc_yX11_fail : Cond.code yX11_fail cX11_fail 3 none ∈ wG := wG_of (List.mem_append_right _ (List.mem_of_getElem? (i := 981) (by decide +kernel))) (by decide +kernel)
theorem km_X11_212 : Cond.methodLink RX11 212 yX11_turnIt ∈ wG := wG_of (List.mem_append_right _ (List.mem_of_getElem? (i := 982) (by decide +kernel))) (by decide +kernel)
theorem ki_yX11_turnIt : Cond.instanceMethod yX11_turnIt ∈ wG := wG_of (List.mem_append_right _ (List.mem_of_getElem? (i := 984) (by decide +kernel))) (by decide +kernel)
theorem kc_yX11_turnIt : Cond.code yX11_turnIt cX11_turnIt 9 (some .boolean) ∈ wG := wG_of (List.mem_append_right _ (List.mem_of_getElem? (i := 985) (by decide +kernel))) (by decide +kernel)
theorem km_X11_205 : Cond.methodLink RX11 205 yX11_apply ∈ wG := wG_of (List.mem_append_right _ (List.mem_of_getElem? (i := 986) (by decide +kernel))) (by decide +kernel)
theorem ki_yX11_apply : Cond.instanceMethod yX11_apply ∈ wG := wG_of (List.mem_append_right _ (List.mem_of_getElem? (i := 988) (by decide +kernel))) (by decide +kernel)
theorem kc_yX11_apply : Cond.code yX11_apply cX11_apply 14 (some .boolean) ∈ wG := wG_of (List.mem_append_right _ (List.mem_of_getElem? (i := 989) (by decide +kernel))) (by decide +kernel)
theorem kkl_X11_162 : Cond.constantLong RX11 162 (10) ∈ wG := wG_of (List.mem_append_right _ (List.mem_of_getElem? (i := 990) (by decide +kernel))) (by decide +kernel)
theorem km_X11_164 : Cond.methodLink RX11 164 yJ9_multiplyHigh_f86c9 ∈ wG := wG_of (List.mem_append_right _ (List.mem_of_getElem? (i := 991) (by decide +kernel))) (by decide +kernel)
theorem ks_yJ9_multiplyHigh_f86c9 : Cond.static yJ9_multiplyHigh_f86c9 ∈ wG := wG_of (List.mem_append_right _ (List.mem_of_getElem? (i := 992) (by decide +kernel))) (by decide +kernel)
theorem kc_yJ9_multiplyHigh_f86c9 : Cond.code yJ9_multiplyHigh_f86c9 cJ9_multiplyHigh_f86c9 20 (some .long) ∈ wG := wG_of (List.mem_append_right _ (List.mem_of_getElem? (i := 993) (by decide +kernel))) (by decide +kernel)
theorem kkl_J9_138 : Cond.constantLong RJ9 138 (4294967295) ∈ wG := wG_of (List.mem_append_right _ (List.mem_of_getElem? (i := 994) (by decide +kernel))) (by decide +kernel)
theorem km_X11_170 : Cond.methodLink RX11 170 yJ13_compareUnsigned_74951 ∈ wG := wG_of (List.mem_append_right _ (List.mem_of_getElem? (i := 995) (by decide +kernel))) (by decide +kernel)
theorem ks_yJ13_compareUnsigned_74951 : Cond.static yJ13_compareUnsigned_74951 ∈ wG := wG_of (List.mem_append_right _ (List.mem_of_getElem? (i := 996) (by decide +kernel))) (by decide +kernel)
theorem kc_yJ13_compareUnsigned_74951 : Cond.code yJ13_compareUnsigned_74951 cJ13_compareUnsigned_74951 4 (some .int) ∈ wG := wG_of (List.mem_append_right _ (List.mem_of_getElem? (i := 997) (by decide +kernel))) (by decide +kernel)
theorem kkl_J13_168 : Cond.constantLong RJ13 168 (-9223372036854775808) ∈ wG := wG_of (List.mem_append_right _ (List.mem_of_getElem? (i := 998) (by decide +kernel))) (by decide +kernel)
theorem km_J13_302 : Cond.methodLink RJ13 302 yJ13_compare_74951 ∈ wG := wG_of (List.mem_append_right _ (List.mem_of_getElem? (i := 999) (by decide +kernel))) (by decide +kernel)
theorem ks_yJ13_compare_74951 : Cond.static yJ13_compare_74951 ∈ wG := wG_of (List.mem_append_right _ (List.mem_of_getElem? (i := 1000) (by decide +kernel))) (by decide +kernel)
theorem kc_yJ13_compare_74951 : Cond.code yJ13_compare_74951 cJ13_compare_74951 4 (some .int) ∈ wG := wG_of (List.mem_append_right _ (List.mem_of_getElem? (i := 1001) (by decide +kernel))) (by decide +kernel)
theorem km_L_38 : Cond.methodLink RL 38 yX11_ask ∈ wG := wG_of (List.mem_append_right _ (List.mem_of_getElem? (i := 1002) (by decide +kernel))) (by decide +kernel)
theorem ki_yX11_ask : Cond.instanceMethod yX11_ask ∈ wG := wG_of (List.mem_append_right _ (List.mem_of_getElem? (i := 1003) (by decide +kernel))) (by decide +kernel)
theorem ksel_X11_yX11_ask : Cond.selects RX11 yX11_ask yX11_ask ∈ wG := wG_of (List.mem_append_right _ (List.mem_of_getElem? (i := 1004) (by decide +kernel))) (by decide +kernel)
theorem kc_yX11_ask : Cond.code yX11_ask cX11_ask 4 (some .int) ∈ wG := wG_of (List.mem_append_right _ (List.mem_of_getElem? (i := 1005) (by decide +kernel))) (by decide +kernel)
theorem kkl_X11_221 : Cond.constantLong RX11 221 (9) ∈ wG := wG_of (List.mem_append_right _ (List.mem_of_getElem? (i := 1006) (by decide +kernel))) (by decide +kernel)
theorem km_X11_223 : Cond.methodLink RX11 223 yX11_add ∈ wG := wG_of (List.mem_append_right _ (List.mem_of_getElem? (i := 1007) (by decide +kernel))) (by decide +kernel)
theorem ki_yX11_add : Cond.instanceMethod yX11_add ∈ wG := wG_of (List.mem_append_right _ (List.mem_of_getElem? (i := 1009) (by decide +kernel))) (by decide +kernel)
theorem kc_yX11_add : Cond.code yX11_add cX11_add 8 (some .int) ∈ wG := wG_of (List.mem_append_right _ (List.mem_of_getElem? (i := 1010) (by decide +kernel))) (by decide +kernel)
theorem kkl_X11_219 : Cond.constantLong RX11 219 (99) ∈ wG := wG_of (List.mem_append_right _ (List.mem_of_getElem? (i := 1011) (by decide +kernel))) (by decide +kernel)
theorem km_L_42 : Cond.methodLink RL 42 yX11_offer ∈ wG := wG_of (List.mem_append_right _ (List.mem_of_getElem? (i := 1012) (by decide +kernel))) (by decide +kernel)
theorem ki_yX11_offer : Cond.instanceMethod yX11_offer ∈ wG := wG_of (List.mem_append_right _ (List.mem_of_getElem? (i := 1013) (by decide +kernel))) (by decide +kernel)
theorem ksel_X11_yX11_offer : Cond.selects RX11 yX11_offer yX11_offer ∈ wG := wG_of (List.mem_append_right _ (List.mem_of_getElem? (i := 1014) (by decide +kernel))) (by decide +kernel)
theorem kc_yX11_offer : Cond.code yX11_offer cX11_offer 4 (some .int) ∈ wG := wG_of (List.mem_append_right _ (List.mem_of_getElem? (i := 1015) (by decide +kernel))) (by decide +kernel)
theorem km_L_47 : Cond.methodLink RL 47 yX11_work ∈ wG := wG_of (List.mem_append_right _ (List.mem_of_getElem? (i := 1016) (by decide +kernel))) (by decide +kernel)
theorem ki_yX11_work : Cond.instanceMethod yX11_work ∈ wG := wG_of (List.mem_append_right _ (List.mem_of_getElem? (i := 1017) (by decide +kernel))) (by decide +kernel)
theorem ksel_X11_yX11_work : Cond.selects RX11 yX11_work yX11_work ∈ wG := wG_of (List.mem_append_right _ (List.mem_of_getElem? (i := 1018) (by decide +kernel))) (by decide +kernel)
theorem kc_yX11_work : Cond.code yX11_work cX11_work 7 (some .int) ∈ wG := wG_of (List.mem_append_right _ (List.mem_of_getElem? (i := 1019) (by decide +kernel))) (by decide +kernel)
theorem kkl_X11_227 : Cond.constantLong RX11 227 (2) ∈ wG := wG_of (List.mem_append_right _ (List.mem_of_getElem? (i := 1020) (by decide +kernel))) (by decide +kernel)
theorem kkl_X11_229 : Cond.constantLong RX11 229 (-1) ∈ wG := wG_of (List.mem_append_right _ (List.mem_of_getElem? (i := 1021) (by decide +kernel))) (by decide +kernel)
theorem kkl_X11_231 : Cond.constantLong RX11 231 (-1000) ∈ wG := wG_of (List.mem_append_right _ (List.mem_of_getElem? (i := 1022) (by decide +kernel))) (by decide +kernel)
theorem kkl_X11_233 : Cond.constantLong RX11 233 (1000) ∈ wG := wG_of (List.mem_append_right _ (List.mem_of_getElem? (i := 1023) (by decide +kernel))) (by decide +kernel)
theorem km_X11_235 : Cond.methodLink RX11 235 yX11_isMember ∈ wG := wG_of (List.mem_append_right _ (List.mem_of_getElem? (i := 1024) (by decide +kernel))) (by decide +kernel)
theorem ki_yX11_isMember : Cond.instanceMethod yX11_isMember ∈ wG := wG_of (List.mem_append_right _ (List.mem_of_getElem? (i := 1026) (by decide +kernel))) (by decide +kernel)
theorem kc_yX11_isMember : Cond.code yX11_isMember cX11_isMember 3 (some .boolean) ∈ wG := wG_of (List.mem_append_right _ (List.mem_of_getElem? (i := 1027) (by decide +kernel))) (by decide +kernel)
theorem km_L_51 : Cond.methodLink RL 51 yX11_times ∈ wG := wG_of (List.mem_append_right _ (List.mem_of_getElem? (i := 1028) (by decide +kernel))) (by decide +kernel)
theorem ki_yX11_times : Cond.instanceMethod yX11_times ∈ wG := wG_of (List.mem_append_right _ (List.mem_of_getElem? (i := 1029) (by decide +kernel))) (by decide +kernel)
theorem ksel_X11_yX11_times : Cond.selects RX11 yX11_times yX11_times ∈ wG := wG_of (List.mem_append_right _ (List.mem_of_getElem? (i := 1030) (by decide +kernel))) (by decide +kernel)
theorem kc_yX11_times : Cond.code yX11_times cX11_times 7 (some .int) ∈ wG := wG_of (List.mem_append_right _ (List.mem_of_getElem? (i := 1031) (by decide +kernel))) (by decide +kernel)
theorem km_L_56 : Cond.methodLink RL 56 yX11_strip ∈ wG := wG_of (List.mem_append_right _ (List.mem_of_getElem? (i := 1032) (by decide +kernel))) (by decide +kernel)
theorem ki_yX11_strip : Cond.instanceMethod yX11_strip ∈ wG := wG_of (List.mem_append_right _ (List.mem_of_getElem? (i := 1033) (by decide +kernel))) (by decide +kernel)
theorem ksel_X11_yX11_strip : Cond.selects RX11 yX11_strip yX11_strip ∈ wG := wG_of (List.mem_append_right _ (List.mem_of_getElem? (i := 1034) (by decide +kernel))) (by decide +kernel)
theorem kc_yX11_strip : Cond.code yX11_strip cX11_strip 5 (some .int) ∈ wG := wG_of (List.mem_append_right _ (List.mem_of_getElem? (i := 1035) (by decide +kernel))) (by decide +kernel)
theorem km_L_61 : Cond.methodLink RL 61 yX11_alias ∈ wG := wG_of (List.mem_append_right _ (List.mem_of_getElem? (i := 1036) (by decide +kernel))) (by decide +kernel)
theorem ki_yX11_alias : Cond.instanceMethod yX11_alias ∈ wG := wG_of (List.mem_append_right _ (List.mem_of_getElem? (i := 1037) (by decide +kernel))) (by decide +kernel)
theorem ksel_X11_yX11_alias : Cond.selects RX11 yX11_alias yX11_alias ∈ wG := wG_of (List.mem_append_right _ (List.mem_of_getElem? (i := 1038) (by decide +kernel))) (by decide +kernel)
theorem kc_yX11_alias : Cond.code yX11_alias cX11_alias 5 (some .boolean) ∈ wG := wG_of (List.mem_append_right _ (List.mem_of_getElem? (i := 1039) (by decide +kernel))) (by decide +kernel)
theorem km_L_66 : Cond.methodLink RL 66 yX11_constant ∈ wG := wG_of (List.mem_append_right _ (List.mem_of_getElem? (i := 1040) (by decide +kernel))) (by decide +kernel)
theorem ki_yX11_constant : Cond.instanceMethod yX11_constant ∈ wG := wG_of (List.mem_append_right _ (List.mem_of_getElem? (i := 1041) (by decide +kernel))) (by decide +kernel)
theorem ksel_X11_yX11_constant : Cond.selects RX11 yX11_constant yX11_constant ∈ wG := wG_of (List.mem_append_right _ (List.mem_of_getElem? (i := 1042) (by decide +kernel))) (by decide +kernel)
theorem kc_yX11_constant : Cond.code yX11_constant cX11_constant 6 (some .int) ∈ wG := wG_of (List.mem_append_right _ (List.mem_of_getElem? (i := 1043) (by decide +kernel))) (by decide +kernel)
theorem km_L_70 : Cond.methodLink RL 70 yX11_fit ∈ wG := wG_of (List.mem_append_right _ (List.mem_of_getElem? (i := 1044) (by decide +kernel))) (by decide +kernel)
theorem ki_yX11_fit : Cond.instanceMethod yX11_fit ∈ wG := wG_of (List.mem_append_right _ (List.mem_of_getElem? (i := 1045) (by decide +kernel))) (by decide +kernel)
theorem ksel_X11_yX11_fit : Cond.selects RX11 yX11_fit yX11_fit ∈ wG := wG_of (List.mem_append_right _ (List.mem_of_getElem? (i := 1046) (by decide +kernel))) (by decide +kernel)
theorem kc_yX11_fit : Cond.code yX11_fit cX11_fit 5 (some .int) ∈ wG := wG_of (List.mem_append_right _ (List.mem_of_getElem? (i := 1047) (by decide +kernel))) (by decide +kernel)
theorem kkl_X11_262 : Cond.constantLong RX11 262 (19) ∈ wG := wG_of (List.mem_append_right _ (List.mem_of_getElem? (i := 1048) (by decide +kernel))) (by decide +kernel)
theorem kkl_X11_264 : Cond.constantLong RX11 264 (5) ∈ wG := wG_of (List.mem_append_right _ (List.mem_of_getElem? (i := 1049) (by decide +kernel))) (by decide +kernel)
theorem km_X11_266 : Cond.methodLink RX11 266 yX11_findFit ∈ wG := wG_of (List.mem_append_right _ (List.mem_of_getElem? (i := 1050) (by decide +kernel))) (by decide +kernel)
theorem ki_yX11_findFit : Cond.instanceMethod yX11_findFit ∈ wG := wG_of (List.mem_append_right _ (List.mem_of_getElem? (i := 1052) (by decide +kernel))) (by decide +kernel)
theorem kc_yX11_findFit : Cond.code yX11_findFit cX11_findFit 6 (some .boolean) ∈ wG := wG_of (List.mem_append_right _ (List.mem_of_getElem? (i := 1053) (by decide +kernel))) (by decide +kernel)
theorem km_X11_256 : Cond.methodLink RX11 256 yX11_serve ∈ wG := wG_of (List.mem_append_right _ (List.mem_of_getElem? (i := 1054) (by decide +kernel))) (by decide +kernel)
theorem ki_yX11_serve : Cond.instanceMethod yX11_serve ∈ wG := wG_of (List.mem_append_right _ (List.mem_of_getElem? (i := 1056) (by decide +kernel))) (by decide +kernel)
theorem kc_yX11_serve : Cond.code yX11_serve cX11_serve 7 (some .int) ∈ wG := wG_of (List.mem_append_right _ (List.mem_of_getElem? (i := 1057) (by decide +kernel))) (by decide +kernel)
theorem km_X11_245 : Cond.methodLink RX11 245 yX11_costOf ∈ wG := wG_of (List.mem_append_right _ (List.mem_of_getElem? (i := 1058) (by decide +kernel))) (by decide +kernel)
theorem ki_yX11_costOf : Cond.instanceMethod yX11_costOf ∈ wG := wG_of (List.mem_append_right _ (List.mem_of_getElem? (i := 1060) (by decide +kernel))) (by decide +kernel)
theorem kc_yX11_costOf : Cond.code yX11_costOf cX11_costOf 8 (some .int) ∈ wG := wG_of (List.mem_append_right _ (List.mem_of_getElem? (i := 1061) (by decide +kernel))) (by decide +kernel)
theorem km_X11_249 : Cond.methodLink RX11 249 yX11_nextPlaces ∈ wG := wG_of (List.mem_append_right _ (List.mem_of_getElem? (i := 1062) (by decide +kernel))) (by decide +kernel)
theorem ki_yX11_nextPlaces : Cond.instanceMethod yX11_nextPlaces ∈ wG := wG_of (List.mem_append_right _ (List.mem_of_getElem? (i := 1064) (by decide +kernel))) (by decide +kernel)
theorem kc_yX11_nextPlaces : Cond.code yX11_nextPlaces cX11_nextPlaces 3 (some .boolean) ∈ wG := wG_of (List.mem_append_right _ (List.mem_of_getElem? (i := 1065) (by decide +kernel))) (by decide +kernel)
theorem km_L_75 : Cond.methodLink RL 75 yX11_fits ∈ wG := wG_of (List.mem_append_right _ (List.mem_of_getElem? (i := 1066) (by decide +kernel))) (by decide +kernel)
theorem ki_yX11_fits : Cond.instanceMethod yX11_fits ∈ wG := wG_of (List.mem_append_right _ (List.mem_of_getElem? (i := 1067) (by decide +kernel))) (by decide +kernel)
theorem ksel_X11_yX11_fits : Cond.selects RX11 yX11_fits yX11_fits ∈ wG := wG_of (List.mem_append_right _ (List.mem_of_getElem? (i := 1068) (by decide +kernel))) (by decide +kernel)
theorem kc_yX11_fits : Cond.code yX11_fits cX11_fits 4 (some .int) ∈ wG := wG_of (List.mem_append_right _ (List.mem_of_getElem? (i := 1069) (by decide +kernel))) (by decide +kernel)
theorem km_X11_269 : Cond.methodLink RX11 269 yX11_fitsAt ∈ wG := wG_of (List.mem_append_right _ (List.mem_of_getElem? (i := 1070) (by decide +kernel))) (by decide +kernel)
theorem ki_yX11_fitsAt : Cond.instanceMethod yX11_fitsAt ∈ wG := wG_of (List.mem_append_right _ (List.mem_of_getElem? (i := 1072) (by decide +kernel))) (by decide +kernel)
theorem kc_yX11_fitsAt : Cond.code yX11_fitsAt cX11_fitsAt 5 (some .int) ∈ wG := wG_of (List.mem_append_right _ (List.mem_of_getElem? (i := 1073) (by decide +kernel))) (by decide +kernel)
theorem km_L_79 : Cond.methodLink RL 79 yX11_gap ∈ wG := wG_of (List.mem_append_right _ (List.mem_of_getElem? (i := 1074) (by decide +kernel))) (by decide +kernel)
theorem ki_yX11_gap : Cond.instanceMethod yX11_gap ∈ wG := wG_of (List.mem_append_right _ (List.mem_of_getElem? (i := 1075) (by decide +kernel))) (by decide +kernel)
theorem ksel_X11_yX11_gap : Cond.selects RX11 yX11_gap yX11_gap ∈ wG := wG_of (List.mem_append_right _ (List.mem_of_getElem? (i := 1076) (by decide +kernel))) (by decide +kernel)
theorem kc_yX11_gap : Cond.code yX11_gap cX11_gap 4 (some .int) ∈ wG := wG_of (List.mem_append_right _ (List.mem_of_getElem? (i := 1077) (by decide +kernel))) (by decide +kernel)
theorem km_L_83 : Cond.methodLink RL 83 yX11_way ∈ wG := wG_of (List.mem_append_right _ (List.mem_of_getElem? (i := 1078) (by decide +kernel))) (by decide +kernel)
theorem ki_yX11_way : Cond.instanceMethod yX11_way ∈ wG := wG_of (List.mem_append_right _ (List.mem_of_getElem? (i := 1079) (by decide +kernel))) (by decide +kernel)
theorem ksel_X11_yX11_way : Cond.selects RX11 yX11_way yX11_way ∈ wG := wG_of (List.mem_append_right _ (List.mem_of_getElem? (i := 1080) (by decide +kernel))) (by decide +kernel)
theorem kc_yX11_way : Cond.code yX11_way cX11_way 5 (some .int) ∈ wG := wG_of (List.mem_append_right _ (List.mem_of_getElem? (i := 1081) (by decide +kernel))) (by decide +kernel)
theorem km_X11_279 : Cond.methodLink RX11 279 yX11_findWay ∈ wG := wG_of (List.mem_append_right _ (List.mem_of_getElem? (i := 1082) (by decide +kernel))) (by decide +kernel)
theorem ki_yX11_findWay : Cond.instanceMethod yX11_findWay ∈ wG := wG_of (List.mem_append_right _ (List.mem_of_getElem? (i := 1084) (by decide +kernel))) (by decide +kernel)
theorem kc_yX11_findWay : Cond.code yX11_findWay cX11_findWay 10 (some .int) ∈ wG := wG_of (List.mem_append_right _ (List.mem_of_getElem? (i := 1085) (by decide +kernel))) (by decide +kernel)
theorem km_X11_272 : Cond.methodLink RX11 272 yX11_isWayAhead ∈ wG := wG_of (List.mem_append_right _ (List.mem_of_getElem? (i := 1086) (by decide +kernel))) (by decide +kernel)
theorem ki_yX11_isWayAhead : Cond.instanceMethod yX11_isWayAhead ∈ wG := wG_of (List.mem_append_right _ (List.mem_of_getElem? (i := 1088) (by decide +kernel))) (by decide +kernel)
theorem kc_yX11_isWayAhead : Cond.code yX11_isWayAhead cX11_isWayAhead 5 (some .boolean) ∈ wG := wG_of (List.mem_append_right _ (List.mem_of_getElem? (i := 1089) (by decide +kernel))) (by decide +kernel)
theorem km_L_87 : Cond.methodLink RL 87 yX11_object ∈ wG := wG_of (List.mem_append_right _ (List.mem_of_getElem? (i := 1090) (by decide +kernel))) (by decide +kernel)
theorem ki_yX11_object : Cond.instanceMethod yX11_object ∈ wG := wG_of (List.mem_append_right _ (List.mem_of_getElem? (i := 1091) (by decide +kernel))) (by decide +kernel)
theorem ksel_X11_yX11_object : Cond.selects RX11 yX11_object yX11_object ∈ wG := wG_of (List.mem_append_right _ (List.mem_of_getElem? (i := 1092) (by decide +kernel))) (by decide +kernel)
theorem kc_yX11_object : Cond.code yX11_object cX11_object 2 (some .int) ∈ wG := wG_of (List.mem_append_right _ (List.mem_of_getElem? (i := 1093) (by decide +kernel))) (by decide +kernel)
theorem km_L_91 : Cond.methodLink RL 91 yX11_put ∈ wG := wG_of (List.mem_append_right _ (List.mem_of_getElem? (i := 1094) (by decide +kernel))) (by decide +kernel)
theorem ki_yX11_put : Cond.instanceMethod yX11_put ∈ wG := wG_of (List.mem_append_right _ (List.mem_of_getElem? (i := 1095) (by decide +kernel))) (by decide +kernel)
theorem ksel_X11_yX11_put : Cond.selects RX11 yX11_put yX11_put ∈ wG := wG_of (List.mem_append_right _ (List.mem_of_getElem? (i := 1096) (by decide +kernel))) (by decide +kernel)
theorem kc_yX11_put : Cond.code yX11_put cX11_put 5 (some .int) ∈ wG := wG_of (List.mem_append_right _ (List.mem_of_getElem? (i := 1097) (by decide +kernel))) (by decide +kernel)
theorem km_L_96 : Cond.methodLink RL 96 yX11_field ∈ wG := wG_of (List.mem_append_right _ (List.mem_of_getElem? (i := 1098) (by decide +kernel))) (by decide +kernel)
theorem ki_yX11_field : Cond.instanceMethod yX11_field ∈ wG := wG_of (List.mem_append_right _ (List.mem_of_getElem? (i := 1099) (by decide +kernel))) (by decide +kernel)
theorem ksel_X11_yX11_field : Cond.selects RX11 yX11_field yX11_field ∈ wG := wG_of (List.mem_append_right _ (List.mem_of_getElem? (i := 1100) (by decide +kernel))) (by decide +kernel)
theorem kc_yX11_field : Cond.code yX11_field cX11_field 3 (some .long) ∈ wG := wG_of (List.mem_append_right _ (List.mem_of_getElem? (i := 1101) (by decide +kernel))) (by decide +kernel)
theorem km_L_101 : Cond.methodLink RL 101 yX11_hand ∈ wG := wG_of (List.mem_append_right _ (List.mem_of_getElem? (i := 1102) (by decide +kernel))) (by decide +kernel)
theorem ki_yX11_hand : Cond.instanceMethod yX11_hand ∈ wG := wG_of (List.mem_append_right _ (List.mem_of_getElem? (i := 1103) (by decide +kernel))) (by decide +kernel)
theorem ksel_X11_yX11_hand : Cond.selects RX11 yX11_hand yX11_hand ∈ wG := wG_of (List.mem_append_right _ (List.mem_of_getElem? (i := 1104) (by decide +kernel))) (by decide +kernel)
theorem kc_yX11_hand : Cond.code yX11_hand cX11_hand 4 (some .int) ∈ wG := wG_of (List.mem_append_right _ (List.mem_of_getElem? (i := 1105) (by decide +kernel))) (by decide +kernel)
theorem kkl_X11_285 : Cond.constantLong RX11 285 (3) ∈ wG := wG_of (List.mem_append_right _ (List.mem_of_getElem? (i := 1106) (by decide +kernel))) (by decide +kernel)
theorem km_L_105 : Cond.methodLink RL 105 yX11_call ∈ wG := wG_of (List.mem_append_right _ (List.mem_of_getElem? (i := 1107) (by decide +kernel))) (by decide +kernel)
theorem ki_yX11_call : Cond.instanceMethod yX11_call ∈ wG := wG_of (List.mem_append_right _ (List.mem_of_getElem? (i := 1108) (by decide +kernel))) (by decide +kernel)
theorem ksel_X11_yX11_call : Cond.selects RX11 yX11_call yX11_call ∈ wG := wG_of (List.mem_append_right _ (List.mem_of_getElem? (i := 1109) (by decide +kernel))) (by decide +kernel)
theorem kc_yX11_call : Cond.code yX11_call cX11_call 4 (some .int) ∈ wG := wG_of (List.mem_append_right _ (List.mem_of_getElem? (i := 1110) (by decide +kernel))) (by decide +kernel)
theorem km_X11_312 : Cond.methodLink RX11 312 yX11_link ∈ wG := wG_of (List.mem_append_right _ (List.mem_of_getElem? (i := 1111) (by decide +kernel))) (by decide +kernel)
theorem ki_yX11_link : Cond.instanceMethod yX11_link ∈ wG := wG_of (List.mem_append_right _ (List.mem_of_getElem? (i := 1113) (by decide +kernel))) (by decide +kernel)
theorem kc_yX11_link : Cond.code yX11_link cX11_link 3 (some .boolean) ∈ wG := wG_of (List.mem_append_right _ (List.mem_of_getElem? (i := 1114) (by decide +kernel))) (by decide +kernel)
theorem km_X11_315 : Cond.methodLink RX11 315 yX11_callChain ∈ wG := wG_of (List.mem_append_right _ (List.mem_of_getElem? (i := 1115) (by decide +kernel))) (by decide +kernel)
theorem ki_yX11_callChain : Cond.instanceMethod yX11_callChain ∈ wG := wG_of (List.mem_append_right _ (List.mem_of_getElem? (i := 1117) (by decide +kernel))) (by decide +kernel)
theorem kc_yX11_callChain : Cond.code yX11_callChain cX11_callChain 4 (some .int) ∈ wG := wG_of (List.mem_append_right _ (List.mem_of_getElem? (i := 1118) (by decide +kernel))) (by decide +kernel)
theorem km_X11_300 : Cond.methodLink RX11 300 yX11_goIn ∈ wG := wG_of (List.mem_append_right _ (List.mem_of_getElem? (i := 1119) (by decide +kernel))) (by decide +kernel)
theorem ki_yX11_goIn : Cond.instanceMethod yX11_goIn ∈ wG := wG_of (List.mem_append_right _ (List.mem_of_getElem? (i := 1121) (by decide +kernel))) (by decide +kernel)
theorem kc_yX11_goIn : Cond.code yX11_goIn cX11_goIn 7 (some .boolean) ∈ wG := wG_of (List.mem_append_right _ (List.mem_of_getElem? (i := 1122) (by decide +kernel))) (by decide +kernel)
theorem km_X11_303 : Cond.methodLink RX11 303 yX11_doWork ∈ wG := wG_of (List.mem_append_right _ (List.mem_of_getElem? (i := 1123) (by decide +kernel))) (by decide +kernel)
theorem ki_yX11_doWork : Cond.instanceMethod yX11_doWork ∈ wG := wG_of (List.mem_append_right _ (List.mem_of_getElem? (i := 1125) (by decide +kernel))) (by decide +kernel)
theorem kc_yX11_doWork : Cond.code yX11_doWork cX11_doWork 10 (some .boolean) ∈ wG := wG_of (List.mem_append_right _ (List.mem_of_getElem? (i := 1126) (by decide +kernel))) (by decide +kernel)
theorem km_X11_293 : Cond.methodLink RX11 293 yX11_plus ∈ wG := wG_of (List.mem_append_right _ (List.mem_of_getElem? (i := 1127) (by decide +kernel))) (by decide +kernel)
theorem ki_yX11_plus : Cond.instanceMethod yX11_plus ∈ wG := wG_of (List.mem_append_right _ (List.mem_of_getElem? (i := 1129) (by decide +kernel))) (by decide +kernel)
theorem kc_yX11_plus : Cond.code yX11_plus cX11_plus 6 (some .boolean) ∈ wG := wG_of (List.mem_append_right _ (List.mem_of_getElem? (i := 1130) (by decide +kernel))) (by decide +kernel)
theorem km_X11_319 : Cond.methodLink RX11 319 yX11_counted ∈ wG := wG_of (List.mem_append_right _ (List.mem_of_getElem? (i := 1131) (by decide +kernel))) (by decide +kernel)
theorem ki_yX11_counted : Cond.instanceMethod yX11_counted ∈ wG := wG_of (List.mem_append_right _ (List.mem_of_getElem? (i := 1133) (by decide +kernel))) (by decide +kernel)
theorem kc_yX11_counted : Cond.code yX11_counted cX11_counted 2 (some .int) ∈ wG := wG_of (List.mem_append_right _ (List.mem_of_getElem? (i := 1134) (by decide +kernel))) (by decide +kernel)
theorem km_L_109 : Cond.methodLink RL 109 yX11_through ∈ wG := wG_of (List.mem_append_right _ (List.mem_of_getElem? (i := 1135) (by decide +kernel))) (by decide +kernel)
theorem ki_yX11_through : Cond.instanceMethod yX11_through ∈ wG := wG_of (List.mem_append_right _ (List.mem_of_getElem? (i := 1136) (by decide +kernel))) (by decide +kernel)
theorem ksel_X11_yX11_through : Cond.selects RX11 yX11_through yX11_through ∈ wG := wG_of (List.mem_append_right _ (List.mem_of_getElem? (i := 1137) (by decide +kernel))) (by decide +kernel)
theorem kc_yX11_through : Cond.code yX11_through cX11_through 7 (some .int) ∈ wG := wG_of (List.mem_append_right _ (List.mem_of_getElem? (i := 1138) (by decide +kernel))) (by decide +kernel)
theorem km_L_114 : Cond.methodLink RL 114 yX11_value ∈ wG := wG_of (List.mem_append_right _ (List.mem_of_getElem? (i := 1139) (by decide +kernel))) (by decide +kernel)
theorem ki_yX11_value : Cond.instanceMethod yX11_value ∈ wG := wG_of (List.mem_append_right _ (List.mem_of_getElem? (i := 1140) (by decide +kernel))) (by decide +kernel)
theorem ksel_X11_yX11_value : Cond.selects RX11 yX11_value yX11_value ∈ wG := wG_of (List.mem_append_right _ (List.mem_of_getElem? (i := 1141) (by decide +kernel))) (by decide +kernel)
theorem kc_yX11_value : Cond.code yX11_value cX11_value 1 (some .long) ∈ wG := wG_of (List.mem_append_right _ (List.mem_of_getElem? (i := 1142) (by decide +kernel))) (by decide +kernel)
theorem km_L_118 : Cond.methodLink RL 118 yX11_failed ∈ wG := wG_of (List.mem_append_right _ (List.mem_of_getElem? (i := 1143) (by decide +kernel))) (by decide +kernel)
theorem ki_yX11_failed : Cond.instanceMethod yX11_failed ∈ wG := wG_of (List.mem_append_right _ (List.mem_of_getElem? (i := 1144) (by decide +kernel))) (by decide +kernel)
theorem ksel_X11_yX11_failed : Cond.selects RX11 yX11_failed yX11_failed ∈ wG := wG_of (List.mem_append_right _ (List.mem_of_getElem? (i := 1145) (by decide +kernel))) (by decide +kernel)
theorem kc_yX11_failed : Cond.code yX11_failed cX11_failed 2 (some .int) ∈ wG := wG_of (List.mem_append_right _ (List.mem_of_getElem? (i := 1146) (by decide +kernel))) (by decide +kernel)
theorem km_L_122 : Cond.methodLink RL 122 yX11_count ∈ wG := wG_of (List.mem_append_right _ (List.mem_of_getElem? (i := 1147) (by decide +kernel))) (by decide +kernel)
theorem ki_yX11_count : Cond.instanceMethod yX11_count ∈ wG := wG_of (List.mem_append_right _ (List.mem_of_getElem? (i := 1148) (by decide +kernel))) (by decide +kernel)
theorem ksel_X11_yX11_count : Cond.selects RX11 yX11_count yX11_count ∈ wG := wG_of (List.mem_append_right _ (List.mem_of_getElem? (i := 1149) (by decide +kernel))) (by decide +kernel)
theorem kc_yX11_count : Cond.code yX11_count cX11_count 4 (some .int) ∈ wG := wG_of (List.mem_append_right _ (List.mem_of_getElem? (i := 1150) (by decide +kernel))) (by decide +kernel)
theorem kkl_L_28 : Cond.constantLong RL 28 (4294967295) ∈ wG := wG_of (List.mem_append_right _ (List.mem_of_getElem? (i := 1151) (by decide +kernel))) (by decide +kernel)
theorem ksel_X6_yX6_keep : Cond.selects RX6 yX6_keep yX6_keep ∈ wG := wG_of (List.mem_append_left _ (List.mem_of_getElem? (i := 0) (by decide +kernel))) (by decide +kernel)
theorem ksel_X6_yX6_measure : Cond.selects RX6 yX6_measure yX6_measure ∈ wG := wG_of (List.mem_append_left _ (List.mem_of_getElem? (i := 1) (by decide +kernel))) (by decide +kernel)
theorem ksel_X6_yX6_weightOf : Cond.selects RX6 yX6_weightOf yX6_weightOf ∈ wG := wG_of (List.mem_append_left _ (List.mem_of_getElem? (i := 2) (by decide +kernel))) (by decide +kernel)
theorem ksel_X6_yX6_shortenBy : Cond.selects RX6 yX6_shortenBy yX6_shortenBy ∈ wG := wG_of (List.mem_append_left _ (List.mem_of_getElem? (i := 3) (by decide +kernel))) (by decide +kernel)
theorem ksel_X6_yX6_firstOf : Cond.selects RX6 yX6_firstOf yX6_firstOf ∈ wG := wG_of (List.mem_append_left _ (List.mem_of_getElem? (i := 4) (by decide +kernel))) (by decide +kernel)
theorem ksel_X6_yX6_follow : Cond.selects RX6 yX6_follow yX6_follow ∈ wG := wG_of (List.mem_append_left _ (List.mem_of_getElem? (i := 5) (by decide +kernel))) (by decide +kernel)
theorem ksel_X0_yX0_placeOf : Cond.selects RX0 yX0_placeOf yX0_placeOf ∈ wG := wG_of (List.mem_append_left _ (List.mem_of_getElem? (i := 6) (by decide +kernel))) (by decide +kernel)
theorem ksel_X3_yX3_startOf : Cond.selects RX3 yX3_startOf yX3_startOf ∈ wG := wG_of (List.mem_append_left _ (List.mem_of_getElem? (i := 7) (by decide +kernel))) (by decide +kernel)
theorem ksel_X3_yX3_assign : Cond.selects RX3 yX3_assign yX3_assign ∈ wG := wG_of (List.mem_append_left _ (List.mem_of_getElem? (i := 8) (by decide +kernel))) (by decide +kernel)
theorem ksel_X3_yX3_settle : Cond.selects RX3 yX3_settle yX3_settle ∈ wG := wG_of (List.mem_append_left _ (List.mem_of_getElem? (i := 9) (by decide +kernel))) (by decide +kernel)
theorem ksel_X3_yX3_take : Cond.selects RX3 yX3_take yX3_take ∈ wG := wG_of (List.mem_append_left _ (List.mem_of_getElem? (i := 10) (by decide +kernel))) (by decide +kernel)
theorem ksel_X9_yX9_weigh : Cond.selects RX9 yX9_weigh yX9_weigh ∈ wG := wG_of (List.mem_append_left _ (List.mem_of_getElem? (i := 11) (by decide +kernel))) (by decide +kernel)
theorem ksel_X9_yX9_measure : Cond.selects RX9 yX9_measure yX9_measure ∈ wG := wG_of (List.mem_append_left _ (List.mem_of_getElem? (i := 12) (by decide +kernel))) (by decide +kernel)
theorem ksel_X9_yX9_shorten : Cond.selects RX9 yX9_shorten yX9_shorten ∈ wG := wG_of (List.mem_append_left _ (List.mem_of_getElem? (i := 13) (by decide +kernel))) (by decide +kernel)
theorem ksel_X9_yX9_nextOf : Cond.selects RX9 yX9_nextOf yX9_nextOf ∈ wG := wG_of (List.mem_append_left _ (List.mem_of_getElem? (i := 14) (by decide +kernel))) (by decide +kernel)
theorem ksel_X10_yX10_finish : Cond.selects RX10 yX10_finish yX10_finish ∈ wG := wG_of (List.mem_append_left _ (List.mem_of_getElem? (i := 15) (by decide +kernel))) (by decide +kernel)
theorem ksel_X1_yX1_takeHand : Cond.selects RX1 yX1_takeHand yX1_takeHand ∈ wG := wG_of (List.mem_append_left _ (List.mem_of_getElem? (i := 16) (by decide +kernel))) (by decide +kernel)
theorem ksel_X1_yX1_passIn : Cond.selects RX1 yX1_passIn yX1_passIn ∈ wG := wG_of (List.mem_append_left _ (List.mem_of_getElem? (i := 17) (by decide +kernel))) (by decide +kernel)
theorem ksel_X1_yX1_passTo : Cond.selects RX1 yX1_passTo yX1_passTo ∈ wG := wG_of (List.mem_append_left _ (List.mem_of_getElem? (i := 18) (by decide +kernel))) (by decide +kernel)
theorem ksel_X1_yX1_doWork : Cond.selects RX1 yX1_doWork yX1_doWork ∈ wG := wG_of (List.mem_append_left _ (List.mem_of_getElem? (i := 19) (by decide +kernel))) (by decide +kernel)
theorem ksel_X1_yX1_giveIfOf : Cond.selects RX1 yX1_giveIfOf yX1_giveIfOf ∈ wG := wG_of (List.mem_append_left _ (List.mem_of_getElem? (i := 20) (by decide +kernel))) (by decide +kernel)
theorem ksel_X1_yX1_writeField : Cond.selects RX1 yX1_writeField yX1_writeField ∈ wG := wG_of (List.mem_append_left _ (List.mem_of_getElem? (i := 21) (by decide +kernel))) (by decide +kernel)
theorem ksel_X1_yX1_addTo : Cond.selects RX1 yX1_addTo yX1_addTo ∈ wG := wG_of (List.mem_append_left _ (List.mem_of_getElem? (i := 22) (by decide +kernel))) (by decide +kernel)
theorem ksel_X1_yX1_addUp : Cond.selects RX1 yX1_addUp yX1_addUp ∈ wG := wG_of (List.mem_append_left _ (List.mem_of_getElem? (i := 23) (by decide +kernel))) (by decide +kernel)
theorem ksel_X1_yX1_addField : Cond.selects RX1 yX1_addField yX1_addField ∈ wG := wG_of (List.mem_append_left _ (List.mem_of_getElem? (i := 24) (by decide +kernel))) (by decide +kernel)
theorem ksel_X1_yX1_passBack : Cond.selects RX1 yX1_passBack yX1_passBack ∈ wG := wG_of (List.mem_append_left _ (List.mem_of_getElem? (i := 25) (by decide +kernel))) (by decide +kernel)
theorem ksel_X10_yX10_membersOf : Cond.selects RX10 yX10_membersOf yX10_membersOf ∈ wG := wG_of (List.mem_append_left _ (List.mem_of_getElem? (i := 26) (by decide +kernel))) (by decide +kernel)
theorem ksel_X11_yX11_base : Cond.selects RX11 yX11_base yX11_base ∈ wG := wG_of (List.mem_append_left _ (List.mem_of_getElem? (i := 27) (by decide +kernel))) (by decide +kernel)
theorem ksel_X11_yX11_measure : Cond.selects RX11 yX11_measure yX11_measure ∈ wG := wG_of (List.mem_append_left _ (List.mem_of_getElem? (i := 28) (by decide +kernel))) (by decide +kernel)
theorem ksel_X11_yX11_turningsFrom : Cond.selects RX11 yX11_turningsFrom yX11_turningsFrom ∈ wG := wG_of (List.mem_append_left _ (List.mem_of_getElem? (i := 29) (by decide +kernel))) (by decide +kernel)
theorem ksel_X11_yX11_isAhead : Cond.selects RX11 yX11_isAhead yX11_isAhead ∈ wG := wG_of (List.mem_append_left _ (List.mem_of_getElem? (i := 30) (by decide +kernel))) (by decide +kernel)
theorem ksel_X11_yX11_fail : Cond.selects RX11 yX11_fail yX11_fail ∈ wG := wG_of (List.mem_append_left _ (List.mem_of_getElem? (i := 31) (by decide +kernel))) (by decide +kernel)
theorem ksel_X11_yX11_turnIt : Cond.selects RX11 yX11_turnIt yX11_turnIt ∈ wG := wG_of (List.mem_append_left _ (List.mem_of_getElem? (i := 32) (by decide +kernel))) (by decide +kernel)
theorem ksel_X11_yX11_apply : Cond.selects RX11 yX11_apply yX11_apply ∈ wG := wG_of (List.mem_append_left _ (List.mem_of_getElem? (i := 33) (by decide +kernel))) (by decide +kernel)
theorem ksel_X11_yX11_add : Cond.selects RX11 yX11_add yX11_add ∈ wG := wG_of (List.mem_append_left _ (List.mem_of_getElem? (i := 34) (by decide +kernel))) (by decide +kernel)
theorem ksel_X11_yX11_isMember : Cond.selects RX11 yX11_isMember yX11_isMember ∈ wG := wG_of (List.mem_append_left _ (List.mem_of_getElem? (i := 35) (by decide +kernel))) (by decide +kernel)
theorem ksel_X11_yX11_findFit : Cond.selects RX11 yX11_findFit yX11_findFit ∈ wG := wG_of (List.mem_append_left _ (List.mem_of_getElem? (i := 36) (by decide +kernel))) (by decide +kernel)
theorem ksel_X11_yX11_serve : Cond.selects RX11 yX11_serve yX11_serve ∈ wG := wG_of (List.mem_append_left _ (List.mem_of_getElem? (i := 37) (by decide +kernel))) (by decide +kernel)
theorem ksel_X11_yX11_costOf : Cond.selects RX11 yX11_costOf yX11_costOf ∈ wG := wG_of (List.mem_append_left _ (List.mem_of_getElem? (i := 38) (by decide +kernel))) (by decide +kernel)
theorem ksel_X11_yX11_nextPlaces : Cond.selects RX11 yX11_nextPlaces yX11_nextPlaces ∈ wG := wG_of (List.mem_append_left _ (List.mem_of_getElem? (i := 39) (by decide +kernel))) (by decide +kernel)
theorem ksel_X11_yX11_fitsAt : Cond.selects RX11 yX11_fitsAt yX11_fitsAt ∈ wG := wG_of (List.mem_append_left _ (List.mem_of_getElem? (i := 40) (by decide +kernel))) (by decide +kernel)
theorem ksel_X11_yX11_findWay : Cond.selects RX11 yX11_findWay yX11_findWay ∈ wG := wG_of (List.mem_append_left _ (List.mem_of_getElem? (i := 41) (by decide +kernel))) (by decide +kernel)
theorem ksel_X11_yX11_isWayAhead : Cond.selects RX11 yX11_isWayAhead yX11_isWayAhead ∈ wG := wG_of (List.mem_append_left _ (List.mem_of_getElem? (i := 42) (by decide +kernel))) (by decide +kernel)
theorem ksel_X11_yX11_link : Cond.selects RX11 yX11_link yX11_link ∈ wG := wG_of (List.mem_append_left _ (List.mem_of_getElem? (i := 43) (by decide +kernel))) (by decide +kernel)
theorem ksel_X11_yX11_callChain : Cond.selects RX11 yX11_callChain yX11_callChain ∈ wG := wG_of (List.mem_append_left _ (List.mem_of_getElem? (i := 44) (by decide +kernel))) (by decide +kernel)
theorem ksel_X11_yX11_goIn : Cond.selects RX11 yX11_goIn yX11_goIn ∈ wG := wG_of (List.mem_append_left _ (List.mem_of_getElem? (i := 45) (by decide +kernel))) (by decide +kernel)
theorem ksel_X11_yX11_doWork : Cond.selects RX11 yX11_doWork yX11_doWork ∈ wG := wG_of (List.mem_append_left _ (List.mem_of_getElem? (i := 46) (by decide +kernel))) (by decide +kernel)
theorem ksel_X11_yX11_plus : Cond.selects RX11 yX11_plus yX11_plus ∈ wG := wG_of (List.mem_append_left _ (List.mem_of_getElem? (i := 47) (by decide +kernel))) (by decide +kernel)
theorem ksel_X11_yX11_counted : Cond.selects RX11 yX11_counted yX11_counted ∈ wG := wG_of (List.mem_append_left _ (List.mem_of_getElem? (i := 48) (by decide +kernel))) (by decide +kernel)
def nestW : List Cond := [Cond.methodLinkNest RX10 18 yX0_init "AdapterBench", Cond.methodLinkNest RX10 25 yX2_init "AdapterBench", Cond.methodLinkNest RX10 56 yX8_init "AdapterBench", Cond.methodLinkNest RX10 63 yX4_init "AdapterBench", Cond.methodLinkNest RX1 55 yX5_init "AdapterBench", Cond.methodLinkNest RX7 21 yX5_init "AdapterBench", Cond.methodLinkNest RX6 70 yX10_isWithin "AdapterBench", Cond.methodLinkNest RX6 81 yX10_staysIn64 "AdapterBench", Cond.methodLinkNest RX6 85 yX10_isOf "AdapterBench", Cond.methodLinkNest RX7 22 yX10_isWithin "AdapterBench", Cond.methodLinkNest RX8 23 yX10_isWithin "AdapterBench", Cond.methodLinkNest RX1 108 yX10_isOf "AdapterBench", Cond.methodLinkNest RX1 172 yX10_sumStaysIn64 "AdapterBench", Cond.methodLinkNest RX1 164 yX10_staysIn64 "AdapterBench"]
theorem nestW_in : ∀ w ∈ nestW, w ∈ lw_tbl := by decide +kernel
theorem nestW_on : ∀ w ∈ nestW, w.onTables = true := by decide +kernel
theorem nestW_warm {s U : State} (hW : s.WarmedH U.vm) : ∀ w ∈ nestW, va_Nw w s → va_Nw w U := by
  have h : ∀ w ∈ nestW, ∃ a i x h, w = .methodLinkNest a i x h := by
    intro w hw
    simp only [nestW, List.mem_cons, List.not_mem_nil, or_false] at hw
    rcases hw with rfl | rfl | rfl | rfl | rfl | rfl | rfl | rfl | rfl | rfl | rfl | rfl | rfl | rfl <;> exact ⟨_, _, _, _, rfl⟩
  intro w hw hz
  obtain ⟨a, i, x, h, rfl⟩ := h w hw
  exact va_Nw.warmM hW hz
theorem kn_X10_18 : Cond.methodLinkNest RX10 18 yX0_init "AdapterBench" ∈ nestW := by decide +kernel
theorem kn_X10_25 : Cond.methodLinkNest RX10 25 yX2_init "AdapterBench" ∈ nestW := by decide +kernel
theorem kn_X10_56 : Cond.methodLinkNest RX10 56 yX8_init "AdapterBench" ∈ nestW := by decide +kernel
theorem kn_X10_63 : Cond.methodLinkNest RX10 63 yX4_init "AdapterBench" ∈ nestW := by decide +kernel
theorem kn_X1_55 : Cond.methodLinkNest RX1 55 yX5_init "AdapterBench" ∈ nestW := by decide +kernel
theorem kn_X7_21 : Cond.methodLinkNest RX7 21 yX5_init "AdapterBench" ∈ nestW := by decide +kernel
theorem kn_X6_70 : Cond.methodLinkNest RX6 70 yX10_isWithin "AdapterBench" ∈ nestW := by decide +kernel
theorem kn_X6_81 : Cond.methodLinkNest RX6 81 yX10_staysIn64 "AdapterBench" ∈ nestW := by decide +kernel
theorem kn_X6_85 : Cond.methodLinkNest RX6 85 yX10_isOf "AdapterBench" ∈ nestW := by decide +kernel
theorem kn_X7_22 : Cond.methodLinkNest RX7 22 yX10_isWithin "AdapterBench" ∈ nestW := by decide +kernel
theorem kn_X8_23 : Cond.methodLinkNest RX8 23 yX10_isWithin "AdapterBench" ∈ nestW := by decide +kernel
theorem kn_X1_108 : Cond.methodLinkNest RX1 108 yX10_isOf "AdapterBench" ∈ nestW := by decide +kernel
theorem kn_X1_172 : Cond.methodLinkNest RX1 172 yX10_sumStaysIn64 "AdapterBench" ∈ nestW := by decide +kernel
theorem kn_X1_164 : Cond.methodLinkNest RX1 164 yX10_staysIn64 "AdapterBench" ∈ nestW := by decide +kernel
end
section
def fTs : List (List Nat) := [[2, 0], [2, 2, 2, 2, 2, 2, 2, 0, 2, 2, 1], [2, 2], [2, 2, 2, 2, 0, 0, 2], [1, 0, 0, 0, 0], [0, 0, 0, 2, 0, 0, 0, 2], [2, 2, 2, 2, 2, 2, 0, 0, 2, 2, 1, 0], [2, 0], [2, 2, 0], [2, 2, 2, 2, 0, 0, 2], [2, 2, 2, 2, 2, 2, 2, 2, 2], [0, 0, 2, 2, 2, 2, 2, 2, 2, 2, 2, 2, 2, 2, 2, 2, 2, 2, 0, 2, 2, 0, 2, 2, 2, 1, 0, 0, 0, 0, 0, 1, 2, 2, 2, 2, 2, 1, 2, 2, 0, 0, 0, 2, 2, 2, 2, 0, 2, 0, 2, 2, 2, 2, 1, 1]]
def arK : List Nat := [12, 12, 12, 12, 12, 14, 12, 12, 12, 14, 13, 12, 12, 12, 12, 12, 12, 13, 13, 15, 12, 13, 12, 12, 15, 16, 15, 15, 16, 12, 12, 12, 12, 12, 12, 12, 12, 14, 12, 12, 12, 12, 12, 12, 12, 12, 12, 14, 14, 13, 12, 13, 13, 12, 12, 12, 12, 12, 12, 12, 12, 12, 12, 12, 12, 12, 12, 13, 13]
def arN : List Nat := [32, 32, 32, 32, 32, 32, 49, 49, 30, 7, 7, 4, 4, 100, 10, 10, 20, 60, 4, 11, 40, 4, 4, 4, 6, 20, 6, 11, 20, 0, 0, 0, 32, 32, 32, 32, 32, 32, 20, 120, 120, 480, 120, 120, 120, 120, 480, 10000, 7, 7, 20, 60, 4, 49, 49, 294, 49, 294, 4, 4, 4, 100, 1000, 100, 10, 11, 44, 4, 4]
def arLo : List Int := [0, 0, 0, -1000, -1000, 0, -2147483648, -1, -2147483648, 0, -2147483648, 0, 0, -2147483648, -2147483648, 0, 0, -2147483648, -2147483648, -2147483648, 0, -2147483648, 0, -1000, -2147483648, -2147483648, -2147483648, -2147483648, -2147483648, 0, 0, 0, 0, 0, 0, -1000, -1000, 0, 0, 0, 0, 0, 0, 0, -1, -1000, -1000, 0, 0, -2147483648, 0, -2147483648, -2147483648, -2147483648, 0, 0, -2147483648, 0, 0, 0, 0, -2147483648, 0, -2147483648, 0, 0, 0, -2147483648, -2147483648]
def arHi : List Int := [6, 6, 50, 1000, 1000, 1, 2147483647, 31, 2147483647, 1, 2147483647, 9, 9, 2147483647, 2147483647, 9, 9, 2147483647, 2147483647, 2147483647, 9, 2147483647, 6, 1000, 2147483647, 2147483647, 2147483647, 2147483647, 2147483647, 0, 0, 0, 6, 6, 50, 1000, 1000, 1, 6, 99, 4, 6, 6, 2, 2, 1000, 1000, 1, 1, 2147483647, 9, 2147483647, 2147483647, 2147483647, 6, 31, 2147483647, 31, 4, 4, 4, 2147483647, 9, 2147483647, 9, 119, 4, 2147483647, 2147483647]
def arT : List Nat := [0, 0, 0, 0, 0, 0, 0, 0, 0, 0, 0, 0, 0, 0, 0, 0, 0, 0, 0, 6, 0, 0, 0, 0, 6, 8, 0, 0, 0, 0, 0, 0, 0, 0, 0, 0, 0, 0, 0, 0, 0, 0, 0, 0, 0, 0, 0, 0, 0, 0, 0, 0, 0, 0, 0, 0, 0, 0, 0, 0, 0, 0, 0, 0, 0, 0, 0, 0, 0]
def obLo : List (List Int) := [[0, 0], [0, 0, 0, 0, 0, 0, 0, 0, 0, 0, -2147483648], [0, 0], [0, 0, 0, 0, -2147483648, -1, 0], [-2147483648, -2147483648, -2147483648, -2147483648, -2147483648], [0, 0, 0, 0, 0, -1, -1000, 0], [0, 0, 0, 0, 0, 0, 0, -2147483648, 0, 0, -2147483648, -2147483648], [0, 0], [0, 0, 0], [0, 0, 0, 0, -2147483648, 0, 0], [0, 0, 0, 0, 0, 0, 0, 0, 0], [-2147483648, 0, 0, 0, 0, 0, 0, 0, 0, 0, 0, 0, 0, 0, 0, 0, 0, 0, -2147483648, 0, 0, 0, 0, 0, 0, -2147483648, 0, -2147483648, -2147483648, -2147483648, -2147483648, -2147483648, 0, 0, 0, 0, 0, -2147483648, 0, 0, -2147483648, -2147483648, 0, 0, 0, 0, 0, 0, 0, 0, 0, 0, 0, 0, -2147483648, -2147483648]]
def obHi : List (List Int) := [[0, 30], [0, 0, 0, 0, 0, 0, 0, 10, 0, 0, 2147483647], [0, 0], [0, 0, 0, 0, 2147483647, 5, 0], [2147483647, 2147483647, 2147483647, 2147483647, 2147483647], [99, 6, 4, 0, 2, 2, 1000, 0], [0, 0, 0, 0, 0, 0, 32, 2147483647, 0, 0, 2147483647, 2147483647], [0, 6], [0, 0, 20], [0, 0, 0, 0, 2147483647, 10, 0], [0, 0, 0, 0, 0, 0, 0, 0, 0], [2147483647, 32, 0, 0, 0, 0, 0, 0, 0, 0, 0, 0, 0, 0, 0, 0, 0, 0, 2147483647, 0, 0, 20, 0, 0, 0, 2147483647, 1, 2147483647, 2147483647, 2147483647, 2147483647, 2147483647, 0, 0, 0, 0, 0, 2147483647, 0, 0, 2147483647, 2147483647, 5, 0, 0, 0, 0, 10, 0, 11, 0, 0, 0, 0, 2147483647, 2147483647]]
def obT : List (List Nat) := [[41, 0], [7, 3, 4, 5, 51, 52, 53, 0, 54, 54, 0], [42, 43], [7, 1, 3, 44, 0, 0, 45], [0, 0, 0, 0, 0], [0, 0, 0, 55, 0, 0, 0, 56], [33, 34, 35, 36, 37, 38, 0, 0, 39, 40, 0, 0], [57, 0], [49, 50, 0], [4, 58, 46, 47, 0, 0, 48], [7, 1, 3, 4, 58, 10, 9, 5, 2], [0, 0, 65, 66, 67, 68, 69, 70, 71, 72, 73, 74, 75, 76, 77, 78, 79, 80, 0, 81, 82, 0, 83, 84, 85, 0, 0, 0, 0, 0, 0, 0, 86, 87, 88, 89, 90, 0, 91, 92, 0, 0, 0, 93, 94, 95, 96, 0, 97, 0, 98, 99, 100, 101, 0, 0]]
abbrev hI : Type := Nat → Nat → Int32
abbrev hJ : Type := Nat → Nat → Int64
abbrev hR : Type := Nat → Nat → Option Nat
abbrev hU : Type := hI × hJ × hR
/-- kind of a role: 0..11 an object of that class, 12 int[], 13 long[], 14 boolean[], 15 Member[], 16 Shape[] -/
def rT (r : Nat) : Nat := if r < 16 then r else if r < 32 then r - 16 else arK.getD (r - 32) 12
def nF (ci : Nat) : Nat := (fTs.getD ci []).length
def fT (ci k : Nat) : Nat := (fTs.getD ci []).getD k 0
def rN (r : Nat) : Nat := if r < 32 then nF (rT r) else arN.getD (r - 32) 0
def rLo (r k : Nat) : Int := if r < 12 then (obLo.getD r []).getD k 0 else if r < 32 then -2147483648 else arLo.getD (r - 32) 0
def rHi (r k : Nat) : Int := if r < 12 then (obHi.getD r []).getD k 0 else if r < 32 then 2147483647 else arHi.getD (r - 32) 0
/-- the role that a reference must have, plus one; 0: any -/
def rR (r k : Nat) : Nat := if r < 12 then (obT.getD r []).getD k 0 else if r < 32 then 0 else arT.getD (r - 32) 0
def rX (r : Nat) : Bool := r == 43 || r == 44 || r == 52
def eF (I : hI) (J : hJ) (R : hR) (a t k : Nat) : Value := if t = 0 then .int (I a k) else if t = 1 then .long (J a k) else va_rf (R a k)
def eO (ci : Nat) (I : hI) (J : hJ) (R : hR) (a : Nat) : List Value := (List.range (nF ci)).map (fun k => eF I J R a (fT ci k) k)
def eE (cy : Nat → ClassId) (C : Nat → Nat) (I : hI) (J : hJ) (R : hR) (a : Nat) : va_E :=
  if rT (C a) = 12 then .inl (cy 0, rN (C a), .inl (I a))
  else if rT (C a) = 13 then .inl (cy 1, rN (C a), .inr (.inl (J a)))
  else if rT (C a) = 14 then .inl (cy 2, rN (C a), .inl (I a))
  else if rT (C a) = 15 then .inl (cy 3, rN (C a), .inr (.inr (.inr (.inr (R a)))))
  else if rT (C a) = 16 then .inl (cy 4, rN (C a), .inr (.inr (.inr (.inr (R a)))))
  else .inr (rT (C a), eO (rT (C a)) I J R a)
def u2 {α : Type} (f : Nat → Nat → α) (a k : Nat) (v : α) : Nat → Nat → α := fun b => if b = a then (fun j => if j = k then v else f a j) else f b
theorem u2_ne {α : Type} {f : Nat → Nat → α} {a b k : Nat} {v : α} (h : b ≠ a) : u2 f a k v b = f b := by simp [u2, h]
theorem u2_eq {α : Type} {f : Nat → Nat → α} {a k : Nat} {v : α} : u2 f a k v a = (fun j => if j = k then v else f a j) := by simp [u2]
theorem u2_at {α : Type} {f : Nat → Nat → α} {a k : Nat} {v : α} : u2 f a k v a k = v := by simp [u2]
theorem u2_nk {α : Type} {f : Nat → Nat → α} {a b k j : Nat} {v : α} (h : j ≠ k) : u2 f a k v b j = f b j := by
  by_cases hb : b = a
  · subst hb; simp [u2, h]
  · simp [u2, hb]
abbrev wd (cy : Nat → ClassId) (L : List Nat) (C : Nat → Nat) (I : hI) (J : hJ) (R : hR) : va_W := va_pl L (eE cy C I J R)
abbrev tysL (cy : Nat → ClassId) : List (ClassId × FieldType) := [(cy 0, .int), (cy 1, .long), (cy 2, .boolean), (cy 3, .object RX5), (cy 4, .object RX7)]
/-- the pool stands: D, cy the machine's numbers of classes, L its cells, C their roles, all from b0 on; since H0 nothing below b0 has changed -/
def Hp (D : va_G) (cy : Nat → ClassId) (L : List Nat) (C : Nat → Nat) (b0 : Nat) (s : State) (H0 : Heap) (I : hI) (J : hJ) (R : hR) (H : Heap) (locs : List Loc) : Prop :=
  va_K D vwCl (tysL cy) s ∧ va_P D vwCl (wd cy L C I J R) H ∧ va_D (fun q => b0 ≤ q) (wd cy L C I J R) ∧ va_S (fun q => b0 ≤ q) H0 H locs ∧ b0 ≤ H0.size ∧ ∀ w ∈ nestW, va_Nw w s
/-- the same, as a method's start has it -/
def PcU (D : va_G) (cy : Nat → ClassId) (L : List Nat) (C : Nat → Nat) (b0 : Nat) (u : hU) (U : State) : Prop :=
  va_K D vwCl (tysL cy) U ∧ va_P D vwCl (wd cy L C u.1 u.2.1 u.2.2) U.heap ∧ va_D (fun q => b0 ≤ q) (wd cy L C u.1 u.2.1 u.2.2) ∧ b0 ≤ U.heap.size ∧ ∀ w ∈ nestW, va_Nw w U
/-- and as its end has it -/
def BcU (D : va_G) (cy : Nat → ClassId) (L : List Nat) (C : Nat → Nat) (b0 : Nat) (u : hU) (t : State) : Prop :=
  va_P D vwCl (wd cy L C u.1 u.2.1 u.2.2) t.heap ∧ va_D (fun q => b0 ≤ q) (wd cy L C u.1 u.2.1 u.2.2)
def rmD (d : Nat) : Room := { frames := d, cells := 0, slots := 0, locals := 60 * d }
abbrev wM (y : MethodName) (cc : ByteArray) (n : Nat) (ret : Option FieldType) : List Cond := Cond.code y cc n ret :: wG
def CI (l : Launch) (y : MethodName) (cc : ByteArray) (n : Nat) (ty : FieldType) (d : Nat) (D : va_G) (cy : Nat → ClassId) (L : List Nat) (C : Nat → Nat) (b0 : Nat) (av : List Value) (u : hU) (post : Int32 → hU → Prop) : Prop :=
  Met l y (wM y cc n (some ty)) (rmD d) (va_Pc av (PcU D cy L C b0 u)) (va_Qi post (BcU D cy L C b0) (fun q => b0 ≤ q)) 0 0 (fun q => b0 ≤ q)
def CJ (l : Launch) (y : MethodName) (cc : ByteArray) (n : Nat) (d : Nat) (D : va_G) (cy : Nat → ClassId) (L : List Nat) (C : Nat → Nat) (b0 : Nat) (av : List Value) (u : hU) (post : Int64 → hU → Prop) : Prop :=
  Met l y (wM y cc n (some .long)) (rmD d) (va_Pc av (PcU D cy L C b0 u)) (va_Ql post (BcU D cy L C b0) (fun q => b0 ≤ q)) 0 0 (fun q => b0 ≤ q)
def CV (l : Launch) (y : MethodName) (cc : ByteArray) (n : Nat) (d : Nat) (D : va_G) (cy : Nat → ClassId) (L : List Nat) (C : Nat → Nat) (b0 : Nat) (av : List Value) (u : hU) (post : hU → Prop) : Prop :=
  Met l y (wM y cc n none) (rmD d) (va_Pc av (PcU D cy L C b0 u)) (va_Qv post (BcU D cy L C b0) (fun q => b0 ≤ q)) 0 0 (fun q => b0 ≤ q)
/-- what stays fixed through a method's body -/
def Fx (p : Program) (s : State) (m : MethodId) (args : Array Value) (meth : Method) (c : Code) (cc : ByteArray) (nL : Nat) (own : String) (ret : Option FieldType) : Prop :=
  p.tables.exec = Jvm.exec ∧ c.code = cc ∧ meth.sig.returnType = ret ∧ c.maxLocals = nL ∧ s.vm.findClass own = some m.cls ∧ (∀ w ∈ wG, w.before args s = true) ∧ meth.locks = false
section POOL
variable {p : Program} {l : Launch} {e : Env} {Rm : Room} {s : State} {m : MethodId} {args : Array Value} {below : List Frame} {meth : Method} {c : Code} {H H0 : Heap} {locs : List Loc} {cells slots : Nat} {Q : State → Prop}
variable {cc : ByteArray} {pc : Nat} {ls : Array Slot} {rest : List Value} {own : String}
variable {D : va_G} {cy : Nat → ClassId} {L : List Nat} {C : Nat → Nat} {b0 : Nat} {I : hI} {J : hJ} {R : hR}
theorem PcU.hp {u : hU} (h : PcU D cy L C b0 u s) : Hp D cy L C b0 s s.heap u.1 u.2.1 u.2.2 s.heap [] := ⟨h.1, h.2.1, h.2.2.1, va_S.rf, h.2.2.2.1, h.2.2.2.2⟩
theorem PcU.blind {av : List Value} {u : hU} : FrameBlind (va_Pc av (PcU D cy L C b0 u)) := fun a U g mk q => by
  obtain ⟨q0, q1, q2, q3, q4, q5⟩ := q
  exact ⟨q0, va_K.moved (u := U) (U := U.calling g mk a) (Vm.Alike.refl U.vm) q1, q2, q3, q4, fun w hw => va_Nw.same (nestW_on w hw) rfl (q5 w hw)⟩
theorem Hp.pre {u : hU} (hH : Hp D cy L C b0 s H0 u.1 u.2.1 u.2.2 H locs) {U : State} (hU : U.heap = H) (hW : s.WarmedH U.vm) : PcU D cy L C b0 u U :=
  ⟨va_K.moved hW.alike hH.1, by rw [hU]; exact hH.2.1, hH.2.2.1, by rw [hU]; exact Nat.le_trans hH.2.2.2.2.1 hH.2.2.2.1.1, fun w hw => nestW_warm hW w hw (hH.2.2.2.2.2 w hw)⟩
theorem CI.mk {y : MethodName} {n : Nat} {ty : FieldType} {d : Nat} {av : List Value} {u : hU} {post : Int32 → hU → Prop} (hy : plainName y.cls = true) (hlen : (lg_sl av).length ≤ n)
    (body : ∀ p e s m args below meth c ls, Fx p s m args meth c cc n y.cls (some ty) → Hp D cy L C b0 s s.heap u.1 u.2.1 u.2.2 s.heap [] → lv_has ls n (lv_args 0 av) →
      W p l e (rmD d) s m args below meth c s.heap [] 0 0 (MQ below (va_Qi post (BcU D cy L C b0) (fun q => b0 ≤ q)) args s 0 0 (fun q => b0 ≤ q)) (F0 m 0 ls [])) : CI l y cc n ty d D cy L C b0 av u post := by
  refine Met.ofW (cc := cc) (maxL := n) (ret := some ty) hy rfl ?_
  intro p e s m args below meth c s₁ B hml hv
  obtain ⟨rfl, hv⟩ := hv
  have hts := atoms_spec (ws := wM y cc n (some ty)) B.pre
  rw [lg_entry_eq]
  exact body p e s m _ below meth c _ ⟨B.exec, B.bytes, B.returns, hml, findClass_of_methodNamed B.named, fun w h => hts w (List.mem_cons_of_mem _ h), B.notSynchronized⟩ hv.hp (lv_entry av hlen)
theorem CJ.mk {y : MethodName} {n : Nat} {d : Nat} {av : List Value} {u : hU} {post : Int64 → hU → Prop} (hy : plainName y.cls = true) (hlen : (lg_sl av).length ≤ n)
    (body : ∀ p e s m args below meth c ls, Fx p s m args meth c cc n y.cls (some .long) → Hp D cy L C b0 s s.heap u.1 u.2.1 u.2.2 s.heap [] → lv_has ls n (lv_args 0 av) →
      W p l e (rmD d) s m args below meth c s.heap [] 0 0 (MQ below (va_Ql post (BcU D cy L C b0) (fun q => b0 ≤ q)) args s 0 0 (fun q => b0 ≤ q)) (F0 m 0 ls [])) : CJ l y cc n d D cy L C b0 av u post := by
  refine Met.ofW (cc := cc) (maxL := n) (ret := some .long) hy rfl ?_
  intro p e s m args below meth c s₁ B hml hv
  obtain ⟨rfl, hv⟩ := hv
  have hts := atoms_spec (ws := wM y cc n (some .long)) B.pre
  rw [lg_entry_eq]
  exact body p e s m _ below meth c _ ⟨B.exec, B.bytes, B.returns, hml, findClass_of_methodNamed B.named, fun w h => hts w (List.mem_cons_of_mem _ h), B.notSynchronized⟩ hv.hp (lv_entry av hlen)
theorem CV.mk {y : MethodName} {n : Nat} {d : Nat} {av : List Value} {u : hU} {post : hU → Prop} (hy : plainName y.cls = true) (hlen : (lg_sl av).length ≤ n)
    (body : ∀ p e s m args below meth c ls, Fx p s m args meth c cc n y.cls none → Hp D cy L C b0 s s.heap u.1 u.2.1 u.2.2 s.heap [] → lv_has ls n (lv_args 0 av) →
      W p l e (rmD d) s m args below meth c s.heap [] 0 0 (MQ below (va_Qv post (BcU D cy L C b0) (fun q => b0 ≤ q)) args s 0 0 (fun q => b0 ≤ q)) (F0 m 0 ls [])) : CV l y cc n d D cy L C b0 av u post := by
  refine Met.ofW (cc := cc) (maxL := n) (ret := none) hy rfl ?_
  intro p e s m args below meth c s₁ B hml hv
  obtain ⟨rfl, hv⟩ := hv
  have hts := atoms_spec (ws := wM y cc n none) B.pre
  rw [lg_entry_eq]
  exact body p e s m _ below meth c _ ⟨B.exec, B.bytes, B.returns, hml, findClass_of_methodNamed B.named, fun w h => hts w (List.mem_cons_of_mem _ h), B.notSynchronized⟩ hv.hp (lv_entry av hlen)
/-- ends -/
theorem retI {post : Int32 → hU → Prop} {v : Int32} (hx : p.tables.exec = Jvm.exec) (hb : c.code = cc) (hr : meth.sig.returnType = some .int) (hlocks : meth.locks = false) (hH : Hp D cy L C b0 s s.heap I J R H locs) (hdg : decode cc pc = .ok (.ireturn, 1)) (hp : post v (I, J, R)) :
    W p l e Rm s m args below meth c H locs 0 0 (MQ below (va_Qi post (BcU D cy L C b0) (fun q => b0 ≤ q)) args s 0 0 (fun q => b0 ≤ q)) (F0 m pc ls [.int v]) :=
  W.iret (v := v) hx hb hr (fun t ht hW => ⟨⟨v, (I, J, R), rfl, hp, by rw [ht]; exact hH.2.1, hH.2.2.1⟩, hH.2.2.2.1.F ht⟩) hH.2.2.2.1.2.2 hdg hlocks
theorem retZ {post : Int32 → hU → Prop} {v : Int32} (hx : p.tables.exec = Jvm.exec) (hb : c.code = cc) (hr : meth.sig.returnType = some .boolean) (hlocks : meth.locks = false) (hv : v = 0 ∨ v = 1) (hH : Hp D cy L C b0 s s.heap I J R H locs) (hdg : decode cc pc = .ok (.ireturn, 1)) (hp : post v (I, J, R)) :
    W p l e Rm s m args below meth c H locs 0 0 (MQ below (va_Qi post (BcU D cy L C b0) (fun q => b0 ≤ q)) args s 0 0 (fun q => b0 ≤ q)) (F0 m pc ls [.int v]) :=
  W.zret (v := v) hx hb hr (by rcases hv with rfl | rfl <;> decide) (fun t ht hW => ⟨⟨v, (I, J, R), rfl, hp, by rw [ht]; exact hH.2.1, hH.2.2.1⟩, hH.2.2.2.1.F ht⟩) hH.2.2.2.1.2.2 hdg hlocks
theorem retJ {post : Int64 → hU → Prop} {v : Int64} (hx : p.tables.exec = Jvm.exec) (hb : c.code = cc) (hr : meth.sig.returnType = some .long) (hlocks : meth.locks = false) (hH : Hp D cy L C b0 s s.heap I J R H locs) (hdg : decode cc pc = .ok (.lreturn, 1)) (hp : post v (I, J, R)) :
    W p l e Rm s m args below meth c H locs 0 0 (MQ below (va_Ql post (BcU D cy L C b0) (fun q => b0 ≤ q)) args s 0 0 (fun q => b0 ≤ q)) (F0 m pc ls [.long v]) :=
  W.lret (v := v) hx hb hr (fun t ht hW => ⟨⟨v, (I, J, R), rfl, hp, by rw [ht]; exact hH.2.1, hH.2.2.1⟩, hH.2.2.2.1.F ht⟩) hH.2.2.2.1.2.2 hdg hlocks
theorem retV {post : hU → Prop} (hx : p.tables.exec = Jvm.exec) (hb : c.code = cc) (hr : meth.sig.returnType = none) (hlocks : meth.locks = false) (hH : Hp D cy L C b0 s s.heap I J R H locs) (hdg : decode cc pc = .ok (.return_, 1)) (hp : post (I, J, R)) :
    W p l e Rm s m args below meth c H locs 0 0 (MQ below (va_Qv post (BcU D cy L C b0) (fun q => b0 ≤ q)) args s 0 0 (fun q => b0 ≤ q)) (F0 m pc ls []) :=
  W.vret hx hb hr (fun t ht hW => ⟨⟨(I, J, R), rfl, hp, by rw [ht]; exact hH.2.1, hH.2.2.1⟩, hH.2.2.2.1.F ht⟩) hH.2.2.2.1.2.2 hdg hlocks
/-- an object's cell -/
theorem eE_obj {a ci : Nat} (h : rT (C a) = ci) (hc : ci < 12) : eE cy C I J R a = .inr (ci, eO ci I J R a) := by
  subst h
  unfold eE
  rw [if_neg (by omega), if_neg (by omega), if_neg (by omega), if_neg (by omega), if_neg (by omega)]
theorem eO_get {ci a k : Nat} (hk : k < nF ci) : (eO ci I J R a)[k]? = some (eF I J R a (fT ci k) k) := by
  simp [eO, hk]
theorem eO_len {ci a : Nat} : (eO ci I J R a).length = nF ci := by simp [eO]
theorem eO_set {ci a k : Nat} {v : Value} {I1 : hI} {J1 : hJ} {R1 : hR} (hv : eF I1 J1 R1 a (fT ci k) k = v) (hn : ∀ j, j ≠ k → eF I1 J1 R1 a (fT ci j) j = eF I J R a (fT ci j) j) : (eO ci I J R a).set k v = eO ci I1 J1 R1 a := by
  apply List.ext_getElem?
  intro j
  by_cases hj : j < nF ci
  · rw [eO_get hj, List.getElem?_set, eO_len]
    by_cases hk : k = j
    · subst hk; simp [hj, hv]
    · simp [hk, eO_get hj, hn j (fun h => hk h.symm)]
  · have h1 : ((eO ci I J R a).set k v).length ≤ j := by rw [List.length_set, eO_len]; omega
    have h2 : (eO ci I1 J1 R1 a).length ≤ j := by rw [eO_len]; omega
    rw [List.getElem?_eq_none h1, List.getElem?_eq_none h2]
theorem hGet {a ci k idx : Nat} {C0 : String} {T : u_T} {N : Nat} {v : Value} (hx : p.tables.exec = Jvm.exec) (hb : c.code = cc) (hts : ∀ w ∈ wG, w.before args s = true) (hown : s.vm.findClass own = some m.cls) (hH : Hp D cy L C b0 s H0 I J R H locs)
    (hin : ∀ w ∈ u_ws C0 T N, w ∈ wG) (hc : vwCl[ci]? = some (C0, T, N)) (hci : ci < 12) (hN : nF ci = N) (hk : k < N) (hr : (T k).1 = C0) (ha : a ∈ L) (hC : rT (C a) = ci) (hv : eF I J R a (fT ci k) k = v) (hl : Cond.fieldLink own idx C0 (T k).2.1 (T k).2.2.1 ∈ wG) (hdg : decode cc pc = .ok (.getfield idx, 3))
    (kk : W p l e Rm s m args below meth c H locs cells slots Q (F0 m (pc + 3) ls (v :: rest))) : W p l e Rm s m args below meth c H locs cells slots Q (F0 m pc ls (.ref a :: rest)) := by
  obtain ⟨q0, hq⟩ := va_pl_get (X := []) (f := eE cy C I J R) ha
  rw [List.nil_append, eE_obj hC hci] at hq
  exact va_get hx hb hts hin hown hH.1 hH.2.1 q0 hq hc k hk (hts _ hl) (fun _ h => by rw [← hr]; exact h) (by rw [eO_get (by omega), hv]) hdg kk
theorem hPut {a ci k idx : Nat} {C0 : String} {T : u_T} {N : Nat} {v : Value} {ty : FieldType} {tys0 : Nat → FieldType} {I1 : hI} {J1 : hJ} {R1 : hR} (hx : p.tables.exec = Jvm.exec) (hb : c.code = cc) (hts : ∀ w ∈ wG, w.before args s = true) (hown : s.vm.findClass own = some m.cls) (hH : Hp D cy L C b0 s H0 I J R H locs)
    (hin : ∀ w ∈ u_ws C0 T N, w ∈ wG) (hc : vwCl[ci]? = some (C0, T, N)) (hci : ci < 12) (hN : nF ci = N) (hk : k < N) (hr : (T k).1 = C0) (hty : ∀ k, k < N → parseFieldDescriptor (T k).2.2.1 = some (tys0 k)) (hnm : ∀ a, a < N → ∀ b, b < N → a ≠ b → (T a).2.1 ≠ (T b).2.1)
    (hfin : (T k).2.2.2 = false ∨ ((T k).2.2.2 = true ∧ meth.name = "<init>" ∧ own = C0)) (hd : parseFieldDescriptor (T k).2.2.1 = some ty) (hn : narrow ty v = v) (hfit : fits ty v = true)
    (ha : a ∈ L) (hC : rT (C a) = ci) (hv : eF I1 J1 R1 a (fT ci k) k = v) (hn1 : ∀ j, j ≠ k → eF I1 J1 R1 a (fT ci j) j = eF I J R a (fT ci j) j) (ho : ∀ b, b ≠ a → eE cy C I1 J1 R1 b = eE cy C I J R b) (hl : Cond.fieldLink own idx C0 (T k).2.1 (T k).2.2.1 ∈ wG) (hdg : decode cc pc = .ok (.putfield idx, 3))
    (kk : ∀ (H1 : Heap) (locs1 : List Loc), Hp D cy L C b0 s H0 I1 J1 R1 H1 locs1 → W p l e Rm s m args below meth c H1 locs1 cells slots Q (F0 m (pc + 3) ls rest)) : W p l e Rm s m args below meth c H locs cells slots Q (F0 m pc ls (v :: .ref a :: rest)) := by
  obtain ⟨q0, hq⟩ := va_pl_get (X := []) (f := eE cy C I J R) ha
  have hq' := hq
  rw [List.nil_append, eE_obj hC hci] at hq
  have e1 : (wd cy L C I J R).set q0 (a, .inr (ci, (eO ci I J R a).set k v)) = wd cy L C I1 J1 R1 := by
    have := va_pl_set (X := []) (e := .inr (ci, (eO ci I J R a).set k v)) (by rw [List.nil_append]; exact hH.2.2.1) ha hq'
    rw [List.nil_append, List.nil_append] at this
    rw [this]
    refine va_pl_congr fun b => ?_
    by_cases hb2 : b = a
    · subst hb2
      rw [va_up_self, eE_obj hC hci, eO_set hv hn1]
    · rw [va_up_ne _ _ hb2, ho b hb2]
  have go : ∀ (H1 : Heap) (locs1 : List Loc), va_P D vwCl ((wd cy L C I J R).set q0 (a, .inr (ci, (eO ci I J R a).set k v))) H1 → va_D (fun q => b0 ≤ q) ((wd cy L C I J R).set q0 (a, .inr (ci, (eO ci I J R a).set k v))) → va_S (fun q => b0 ≤ q) H0 H1 locs1 → W p l e Rm s m args below meth c H1 locs1 cells slots Q (F0 m (pc + 3) ls rest) := by
    intro H1 locs1 h1 h2 h3
    rw [e1] at h1 h2
    exact kk H1 locs1 ⟨hH.1, h1, h2, h3, hH.2.2.2.2.1, hH.2.2.2.2.2⟩
  rcases hfin with hfin | ⟨hfin, hin2, hdecl⟩
  · exact va_put hx hb hts hin tys0 hty hnm hown hH.1 hH.2.1 hH.2.2.1 hH.2.2.2.1 q0 hq hc k hk (hts _ hl) (fun _ h => by rw [← hr]; exact h) hfin hd hn hfit (by rw [eO_len]; omega) hdg go
  · exact va_putF hx hb hts hin tys0 hty hnm hown hH.1 hH.2.1 hH.2.2.1 hH.2.2.2.1 q0 hq hc k hk (hts _ hl) (fun _ h => by rw [← hr]; exact h) hfin hin2 (by rw [hr, hdecl]) hd hn hfit (by rw [eO_len]; omega) hdg go
theorem eF_I {a t k : Nat} (h : t = 0) : eF I J R a t k = .int (I a k) := by simp [eF, h]
theorem eF_J {a t k : Nat} (h : t = 1) : eF I J R a t k = .long (J a k) := by simp [eF, h]
theorem eF_R {a t k : Nat} (h : t = 2) : eF I J R a t k = va_rf (R a k) := by simp [eF, h]
theorem eF_nI {a t k j : Nat} {v : Int32} (h : j ≠ k) : eF (u2 I a k v) J R a t j = eF I J R a t j := by simp [eF, u2_nk h]
theorem eF_nJ {a t k j : Nat} {v : Int64} (h : j ≠ k) : eF I (u2 J a k v) R a t j = eF I J R a t j := by simp [eF, u2_nk h]
theorem eF_nR {a t k j : Nat} {v : Option Nat} (h : j ≠ k) : eF I J (u2 R a k v) a t j = eF I J R a t j := by simp [eF, u2_nk h]
theorem eE_oI {a b k : Nat} {v : Int32} (h : b ≠ a) : eE cy C (u2 I a k v) J R b = eE cy C I J R b := by simp only [eE, eO, eF, u2_ne h]
theorem eE_oJ {a b k : Nat} {v : Int64} (h : b ≠ a) : eE cy C I (u2 J a k v) R b = eE cy C I J R b := by simp only [eE, eO, eF, u2_ne h]
theorem eE_oR {a b k : Nat} {v : Option Nat} (h : b ≠ a) : eE cy C I J (u2 R a k v) b = eE cy C I J R b := by simp only [eE, eO, eF, u2_ne h]
/-- arrays -/
theorem eE_I {a : Nat} (h : rT (C a) = 12) : eE cy C I J R a = .inl (cy 0, rN (C a), .inl (I a)) := by simp [eE, h]
theorem eE_J {a : Nat} (h : rT (C a) = 13) : eE cy C I J R a = .inl (cy 1, rN (C a), .inr (.inl (J a))) := by simp [eE, h]
theorem eE_Z {a : Nat} (h : rT (C a) = 14) : eE cy C I J R a = .inl (cy 2, rN (C a), .inl (I a)) := by simp [eE, h]
theorem eE_M {a : Nat} (h : rT (C a) = 15) : eE cy C I J R a = .inl (cy 3, rN (C a), .inr (.inr (.inr (.inr (R a))))) := by simp [eE, h]
theorem eE_S {a : Nat} (h : rT (C a) = 16) : eE cy C I J R a = .inl (cy 4, rN (C a), .inr (.inr (.inr (.inr (R a))))) := by simp [eE, h]
theorem hq_at {a : Nat} {E : va_E} (ha : a ∈ L) (h : eE cy C I J R a = E) : ∃ q0, (wd cy L C I J R)[q0]? = some (a, E) := by
  obtain ⟨q0, hq⟩ := va_pl_get (X := []) (f := eE cy C I J R) ha
  rw [List.nil_append, h] at hq
  exact ⟨q0, hq⟩
theorem hset {a q0 : Nat} {E : va_E} {E0 : va_E} {I1 : hI} {J1 : hJ} {R1 : hR} (hD : va_D (fun q => b0 ≤ q) (wd cy L C I J R)) (ha : a ∈ L) (h0 : eE cy C I J R a = E0) (hq : (wd cy L C I J R)[q0]? = some (a, E0)) (hs : eE cy C I1 J1 R1 a = E) (ho : ∀ b, b ≠ a → eE cy C I1 J1 R1 b = eE cy C I J R b) : (wd cy L C I J R).set q0 (a, E) = wd cy L C I1 J1 R1 := by
  have := va_pl_set (X := []) (e := E) (by rw [List.nil_append]; exact hD) ha (by rw [List.nil_append, h0]; exact hq)
  rw [List.nil_append, List.nil_append] at this
  rw [this]
  refine va_pl_congr fun b => ?_
  by_cases hb2 : b = a
  · subst hb2; rw [va_up_self, hs]
  · rw [va_up_ne _ _ hb2, ho b hb2]
theorem hLdI {a r : Nat} {i : Int32} (hx : p.tables.exec = Jvm.exec) (hb : c.code = cc) (hH : Hp D cy L C b0 s H0 I J R H locs) (ha : a ∈ L) (hC : C a = r) (hr : rT r = 12) (hi : vp_in i (rN r)) (hdg : decode cc pc = .ok (.iaload, 1))
    (kk : W p l e Rm s m args below meth c H locs cells slots Q (F0 m (pc + 1) ls (.int (I a i.toNatClampNeg) :: rest))) : W p l e Rm s m args below meth c H locs cells slots Q (F0 m pc ls (.int i :: .ref a :: rest)) := by
  subst hC
  obtain ⟨q0, hq⟩ := hq_at (cy := cy) (I := I) (J := J) (R := R) ha (eE_I hr)
  exact va_iald hx hb hH.1 hH.2.1 q0 0 hq rfl hi hdg kk
theorem hLdZ {a r : Nat} {i : Int32} (hx : p.tables.exec = Jvm.exec) (hb : c.code = cc) (hH : Hp D cy L C b0 s H0 I J R H locs) (ha : a ∈ L) (hC : C a = r) (hr : rT r = 14) (hi : vp_in i (rN r)) (hdg : decode cc pc = .ok (.baload, 1))
    (kk : W p l e Rm s m args below meth c H locs cells slots Q (F0 m (pc + 1) ls (.int (I a i.toNatClampNeg) :: rest))) : W p l e Rm s m args below meth c H locs cells slots Q (F0 m pc ls (.int i :: .ref a :: rest)) := by
  subst hC
  obtain ⟨q0, hq⟩ := hq_at (cy := cy) (I := I) (J := J) (R := R) ha (eE_Z hr)
  exact va_zald hx hb hH.1 hH.2.1 q0 2 hq rfl hi hdg kk
theorem hLdJ {a r : Nat} {i : Int32} (hx : p.tables.exec = Jvm.exec) (hb : c.code = cc) (hH : Hp D cy L C b0 s H0 I J R H locs) (ha : a ∈ L) (hC : C a = r) (hr : rT r = 13) (hi : vp_in i (rN r)) (hdg : decode cc pc = .ok (.laload, 1))
    (kk : W p l e Rm s m args below meth c H locs cells slots Q (F0 m (pc + 1) ls (.long (J a i.toNatClampNeg) :: rest))) : W p l e Rm s m args below meth c H locs cells slots Q (F0 m pc ls (.int i :: .ref a :: rest)) := by
  subst hC
  obtain ⟨q0, hq⟩ := hq_at (cy := cy) (I := I) (J := J) (R := R) ha (eE_J hr)
  exact va_lald hx hb hH.1 hH.2.1 q0 1 hq rfl hi hdg kk
theorem hLdR {a r : Nat} {i : Int32} (hx : p.tables.exec = Jvm.exec) (hb : c.code = cc) (hH : Hp D cy L C b0 s H0 I J R H locs) (ha : a ∈ L) (hC : C a = r) (hr : rT r = 15 ∨ rT r = 16) (hi : vp_in i (rN r)) (hdg : decode cc pc = .ok (.aaload, 1))
    (kk : W p l e Rm s m args below meth c H locs cells slots Q (F0 m (pc + 1) ls (va_rf (R a i.toNatClampNeg) :: rest))) : W p l e Rm s m args below meth c H locs cells slots Q (F0 m pc ls (.int i :: .ref a :: rest)) := by
  subst hC
  rcases hr with hr | hr
  · obtain ⟨q0, hq⟩ := hq_at (cy := cy) (I := I) (J := J) (R := R) ha (eE_M hr)
    exact va_aldq hx hb hH.1 hH.2.1 q0 3 hq rfl hi hdg kk
  · obtain ⟨q0, hq⟩ := hq_at (cy := cy) (I := I) (J := J) (R := R) ha (eE_S hr)
    exact va_aldq hx hb hH.1 hH.2.1 q0 4 hq rfl hi hdg kk
theorem hStI {a r : Nat} {i v : Int32} (hx : p.tables.exec = Jvm.exec) (hb : c.code = cc) (hH : Hp D cy L C b0 s H0 I J R H locs) (ha : a ∈ L) (hC : C a = r) (hr : rT r = 12) (hi : vp_in i (rN r)) (hdg : decode cc pc = .ok (.iastore, 1))
    (kk : ∀ (I1 : hI) (H1 : Heap) (locs1 : List Loc), I1 = u2 I a i.toNatClampNeg v → Hp D cy L C b0 s H0 I1 J R H1 locs1 → W p l e Rm s m args below meth c H1 locs1 cells slots Q (F0 m (pc + 1) ls rest)) : W p l e Rm s m args below meth c H locs cells slots Q (F0 m pc ls (.int v :: .int i :: .ref a :: rest)) := by
  subst hC
  obtain ⟨q0, hq⟩ := hq_at (cy := cy) (I := I) (J := J) (R := R) ha (eE_I hr)
  have e1 := hset (I1 := u2 I a i.toNatClampNeg v) (J1 := J) (R1 := R) (E := .inl (cy 0, rN (C a), .inl (upd (I a) i.toNatClampNeg v))) hH.2.2.1 ha (eE_I hr) hq (by rw [eE_I hr, u2_eq]; rfl) (fun b h => eE_oI h)
  refine va_iast hx hb hH.1 hH.2.1 hH.2.2.1 hH.2.2.2.1 q0 0 hq rfl hi hdg (fun H1 locs1 h1 h2 h3 => ?_)
  rw [e1] at h1 h2
  exact kk _ H1 locs1 rfl ⟨hH.1, h1, h2, h3, hH.2.2.2.2.1, hH.2.2.2.2.2⟩
theorem hStZ {a r : Nat} {i v : Int32} (hx : p.tables.exec = Jvm.exec) (hb : c.code = cc) (hH : Hp D cy L C b0 s H0 I J R H locs) (ha : a ∈ L) (hC : C a = r) (hr : rT r = 14) (hi : vp_in i (rN r)) (hv : v = 0 ∨ v = 1) (hdg : decode cc pc = .ok (.bastore, 1))
    (kk : ∀ (I1 : hI) (H1 : Heap) (locs1 : List Loc), I1 = u2 I a i.toNatClampNeg v → Hp D cy L C b0 s H0 I1 J R H1 locs1 → W p l e Rm s m args below meth c H1 locs1 cells slots Q (F0 m (pc + 1) ls rest)) : W p l e Rm s m args below meth c H locs cells slots Q (F0 m pc ls (.int v :: .int i :: .ref a :: rest)) := by
  subst hC
  obtain ⟨q0, hq⟩ := hq_at (cy := cy) (I := I) (J := J) (R := R) ha (eE_Z hr)
  have e1 := hset (I1 := u2 I a i.toNatClampNeg v) (J1 := J) (R1 := R) (E := .inl (cy 2, rN (C a), .inl (upd (I a) i.toNatClampNeg v))) hH.2.2.1 ha (eE_Z hr) hq (by rw [eE_Z hr, u2_eq]; rfl) (fun b h => eE_oI h)
  refine va_zast hx hb hH.1 hH.2.1 hH.2.2.1 hH.2.2.2.1 q0 2 hq rfl hi hdg (fun H1 locs1 h1 h2 h3 => ?_)
  rw [show vp_nar .boolean v = v by rcases hv with rfl | rfl <;> decide] at h1 h2
  rw [e1] at h1 h2
  exact kk _ H1 locs1 rfl ⟨hH.1, h1, h2, h3, hH.2.2.2.2.1, hH.2.2.2.2.2⟩
theorem hStJ {a r : Nat} {i : Int32} {v : Int64} (hx : p.tables.exec = Jvm.exec) (hb : c.code = cc) (hH : Hp D cy L C b0 s H0 I J R H locs) (ha : a ∈ L) (hC : C a = r) (hr : rT r = 13) (hi : vp_in i (rN r)) (hdg : decode cc pc = .ok (.lastore, 1))
    (kk : ∀ (J1 : hJ) (H1 : Heap) (locs1 : List Loc), J1 = u2 J a i.toNatClampNeg v → Hp D cy L C b0 s H0 I J1 R H1 locs1 → W p l e Rm s m args below meth c H1 locs1 cells slots Q (F0 m (pc + 1) ls rest)) : W p l e Rm s m args below meth c H locs cells slots Q (F0 m pc ls (.long v :: .int i :: .ref a :: rest)) := by
  subst hC
  obtain ⟨q0, hq⟩ := hq_at (cy := cy) (I := I) (J := J) (R := R) ha (eE_J hr)
  have e1 := hset (I1 := I) (J1 := u2 J a i.toNatClampNeg v) (R1 := R) (E := .inl (cy 1, rN (C a), .inr (.inl (vp_updL (J a) i.toNatClampNeg v)))) hH.2.2.1 ha (eE_J hr) hq (by rw [eE_J hr, u2_eq]; rfl) (fun b h => eE_oJ h)
  refine va_last hx hb hH.1 hH.2.1 hH.2.2.1 hH.2.2.2.1 q0 1 hq rfl hi hdg (fun H1 locs1 h1 h2 h3 => ?_)
  rw [e1] at h1 h2
  exact kk _ H1 locs1 rfl ⟨hH.1, h1, h2, h3, hH.2.2.2.2.1, hH.2.2.2.2.2⟩
theorem hStR {a v r ci : Nat} {i : Int32} {q : vw_C} (hx : p.tables.exec = Jvm.exec) (hb : c.code = cc) (hH : Hp D cy L C b0 s H0 I J R H locs) (ha : a ∈ L) (hC : C a = r) (hr : (rT r = 15 ∧ ci = 5) ∨ (rT r = 16 ∧ ci = 7)) (hv : v ∈ L) (hvC : rT (C v) = ci) (hi : vp_in i (rN r)) (hdg : decode cc pc = .ok (.aastore, 1))
    (kk : ∀ (R1 : hR) (H1 : Heap) (locs1 : List Loc), R1 = u2 R a i.toNatClampNeg (some v) → Hp D cy L C b0 s H0 I J R1 H1 locs1 → W p l e Rm s m args below meth c H1 locs1 cells slots Q (F0 m (pc + 1) ls rest)) : W p l e Rm s m args below meth c H locs cells slots Q (F0 m pc ls (.ref v :: .int i :: .ref a :: rest)) := by
  subst hC
  rcases hr with ⟨hr, rfl⟩ | ⟨hr, rfl⟩
  · obtain ⟨q0, hq⟩ := hq_at (cy := cy) (I := I) (J := J) (R := R) ha (eE_M hr)
    obtain ⟨q1, hq1⟩ := hq_at (cy := cy) (I := I) (J := J) (R := R) hv (eE_obj hvC (by decide))
    have e1 := hset (I1 := I) (J1 := J) (R1 := u2 R a i.toNatClampNeg (some v)) (E := .inl (cy 3, rN (C a), .inr (.inr (.inr (.inr (va_up (R a) i.toNatClampNeg (some v))))))) hH.2.2.1 ha (eE_M hr) hq (by rw [eE_M hr, u2_eq]; rfl) (fun b h => eE_oR h)
    refine va_astq (r := (RX5, TX5, 8)) hx hb hH.1 hH.2.1 hH.2.2.1 hH.2.2.2.1 q0 3 q1 5 hq rfl hq1 rfl hi hdg (fun H1 locs1 h1 h2 h3 => ?_)
    rw [e1] at h1 h2
    exact kk _ H1 locs1 rfl ⟨hH.1, h1, h2, h3, hH.2.2.2.2.1, hH.2.2.2.2.2⟩
  · obtain ⟨q0, hq⟩ := hq_at (cy := cy) (I := I) (J := J) (R := R) ha (eE_S hr)
    obtain ⟨q1, hq1⟩ := hq_at (cy := cy) (I := I) (J := J) (R := R) hv (eE_obj hvC (by decide))
    have e1 := hset (I1 := I) (J1 := J) (R1 := u2 R a i.toNatClampNeg (some v)) (E := .inl (cy 4, rN (C a), .inr (.inr (.inr (.inr (va_up (R a) i.toNatClampNeg (some v))))))) hH.2.2.1 ha (eE_S hr) hq (by rw [eE_S hr, u2_eq]; rfl) (fun b h => eE_oR h)
    refine va_astq (r := (RX7, TX7, 2)) hx hb hH.1 hH.2.1 hH.2.2.1 hH.2.2.2.1 q0 4 q1 7 hq rfl hq1 rfl hi hdg (fun H1 locs1 h1 h2 h3 => ?_)
    rw [e1] at h1 h2
    exact kk _ H1 locs1 rfl ⟨hH.1, h1, h2, h3, hH.2.2.2.2.1, hH.2.2.2.2.2⟩
theorem hLen {a r : Nat} {v : Int32} (hx : p.tables.exec = Jvm.exec) (hb : c.code = cc) (hH : Hp D cy L C b0 s H0 I J R H locs) (ha : a ∈ L) (hC : C a = r) (hr : rT r = 12 ∨ rT r = 14) (hv : Int32.ofNat (rN r) = v) (hdg : decode cc pc = .ok (.arraylength, 1))
    (kk : W p l e Rm s m args below meth c H locs cells slots Q (F0 m (pc + 1) ls (.int v :: rest))) : W p l e Rm s m args below meth c H locs cells slots Q (F0 m pc ls (.ref a :: rest)) := by
  subst hC
  rcases hr with hr | hr
  · obtain ⟨q0, hq⟩ := hq_at (cy := cy) (I := I) (J := J) (R := R) ha (eE_I hr)
    exact va_alen hx hb hH.1 hH.2.1 q0 0 hq rfl hv hdg kk
  · obtain ⟨q0, hq⟩ := hq_at (cy := cy) (I := I) (J := J) (R := R) ha (eE_Z hr)
    exact va_alen hx hb hH.1 hH.2.1 q0 2 hq rfl hv hdg kk
theorem Hp.recv {a ci : Nat} {q : vw_C} (hH : Hp D cy L C b0 s H0 I J R H locs) (ha : a ∈ L) (hC : rT (C a) = ci) (hci : ci < 12) (hc : vwCl[ci]? = some q) : ∃ cell : Cell, H[a]? = some cell ∧ cell.vm.isStatics = false ∧ s.vm.findClass q.1 = some cell.cls := by
  obtain ⟨q0, hq⟩ := hq_at (cy := cy) (I := I) (J := J) (R := R) ha (eE_obj hC hci)
  exact va_recv hH.1 hH.2.1 hc hq
/-- behind a call -/
theorem Hp.back {u : hU} {t : State} {H1 : Heap} {locs1 : List Loc} (hH : Hp D cy L C b0 s H0 I J R H locs) (ht : t.heap = H1) (hB : BcU D cy L C b0 u t) (hS : va_S (fun q => b0 ≤ q) H0 H1 locs1) : Hp D cy L C b0 s H0 u.1 u.2.1 u.2.2 H1 locs1 :=
  ⟨hH.1, by rw [← ht]; exact hB.1, hB.2, hS, hH.2.2.2.2.1, hH.2.2.2.2.2⟩
end POOL
end
