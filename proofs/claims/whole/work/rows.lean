section
-- ===== PART A: goes FIRST, ahead of the names: the tables' words, and 'selects' of the private methods out of them =====
/-- a private method of a class that the tables say can be made, by its rows of tables_1 -/
def lw_okq (q : MethodName × Nat) : Prop := (q.1.cls ≠ "java/lang/invoke/MethodHandle" ∧ q.1.cls ≠ "java/lang/invoke/VarHandle") ∧ Cond.instantiable q.1.cls q.2 ∈ tables_1 ∧ Cond.privateMethod q.1 ∈ tables_1 ∧ Cond.instanceMethod q.1 ∈ tables_1
theorem lw_p0 : lw_okq (⟨"PolyBench$Tape", "add", "(B)V"⟩, 6) := ⟨⟨by decide +kernel, by decide +kernel⟩, List.mem_of_getElem? (i := 46) (by decide +kernel), List.mem_of_getElem? (i := 283) (by decide +kernel), List.mem_of_getElem? (i := 284) (by decide +kernel)⟩
theorem lw_p1 : lw_okq (⟨"PolyBench$Tape", "skipBlanks", "()V"⟩, 6) := ⟨⟨by decide +kernel, by decide +kernel⟩, List.mem_of_getElem? (i := 46) (by decide +kernel), List.mem_of_getElem? (i := 291) (by decide +kernel), List.mem_of_getElem? (i := 292) (by decide +kernel)⟩
theorem lw_p2 : lw_okq (⟨"PolyBench$Tape", "byteAt", "(I)I"⟩, 6) := ⟨⟨by decide +kernel, by decide +kernel⟩, List.mem_of_getElem? (i := 46) (by decide +kernel), List.mem_of_getElem? (i := 295) (by decide +kernel), List.mem_of_getElem? (i := 296) (by decide +kernel)⟩
theorem lw_p3 : lw_okq (⟨"PolyBench$Tape", "readToken", "()I"⟩, 6) := ⟨⟨by decide +kernel, by decide +kernel⟩, List.mem_of_getElem? (i := 46) (by decide +kernel), List.mem_of_getElem? (i := 299) (by decide +kernel), List.mem_of_getElem? (i := 300) (by decide +kernel)⟩
theorem lw_p4 : lw_okq (⟨"PolyBench$Tape", "readWord", "()I"⟩, 6) := ⟨⟨by decide +kernel, by decide +kernel⟩, List.mem_of_getElem? (i := 46) (by decide +kernel), List.mem_of_getElem? (i := 306) (by decide +kernel), List.mem_of_getElem? (i := 307) (by decide +kernel)⟩
theorem lw_p5 : lw_okq (⟨"PolyBench$Tape", "keyOrName", "(I)I"⟩, 6) := ⟨⟨by decide +kernel, by decide +kernel⟩, List.mem_of_getElem? (i := 46) (by decide +kernel), List.mem_of_getElem? (i := 310) (by decide +kernel), List.mem_of_getElem? (i := 311) (by decide +kernel)⟩
theorem lw_p6 : lw_okq (⟨"PolyBench$Tape", "spells", "(Ljava/lang/String;I)Z"⟩, 6) := ⟨⟨by decide +kernel, by decide +kernel⟩, List.mem_of_getElem? (i := 46) (by decide +kernel), List.mem_of_getElem? (i := 315) (by decide +kernel), List.mem_of_getElem? (i := 316) (by decide +kernel)⟩
theorem lw_p7 : lw_okq (⟨"PolyBench$Tape", "readNumber", "()I"⟩, 6) := ⟨⟨by decide +kernel, by decide +kernel⟩, List.mem_of_getElem? (i := 46) (by decide +kernel), List.mem_of_getElem? (i := 333) (by decide +kernel), List.mem_of_getElem? (i := 334) (by decide +kernel)⟩
theorem lw_p8 : lw_okq (⟨"PolyBench$Grammar", "part", "(I)V"⟩, 5) := ⟨⟨by decide +kernel, by decide +kernel⟩, List.mem_of_getElem? (i := 167) (by decide +kernel), List.mem_of_getElem? (i := 348) (by decide +kernel), List.mem_of_getElem? (i := 349) (by decide +kernel)⟩
theorem lw_p9 : lw_okq (⟨"PolyBench$Grammar", "need", "(I)V"⟩, 5) := ⟨⟨by decide +kernel, by decide +kernel⟩, List.mem_of_getElem? (i := 167) (by decide +kernel), List.mem_of_getElem? (i := 352) (by decide +kernel), List.mem_of_getElem? (i := 353) (by decide +kernel)⟩
theorem lw_p10 : lw_okq (⟨"PolyBench$Grammar", "stands", "(I)Z"⟩, 5) := ⟨⟨by decide +kernel, by decide +kernel⟩, List.mem_of_getElem? (i := 167) (by decide +kernel), List.mem_of_getElem? (i := 356) (by decide +kernel), List.mem_of_getElem? (i := 357) (by decide +kernel)⟩
theorem lw_p11 : lw_okq (⟨"PolyBench$Grammar", "fail", "()V"⟩, 5) := ⟨⟨by decide +kernel, by decide +kernel⟩, List.mem_of_getElem? (i := 167) (by decide +kernel), List.mem_of_getElem? (i := 364) (by decide +kernel), List.mem_of_getElem? (i := 365) (by decide +kernel)⟩
theorem lw_p12 : lw_okq (⟨"PolyBench$Grammar", "either", "()V"⟩, 5) := ⟨⟨by decide +kernel, by decide +kernel⟩, List.mem_of_getElem? (i := 167) (by decide +kernel), List.mem_of_getElem? (i := 372) (by decide +kernel), List.mem_of_getElem? (i := 373) (by decide +kernel)⟩
theorem lw_p13 : lw_okq (⟨"PolyBench$Grammar", "both", "()V"⟩, 5) := ⟨⟨by decide +kernel, by decide +kernel⟩, List.mem_of_getElem? (i := 167) (by decide +kernel), List.mem_of_getElem? (i := 376) (by decide +kernel), List.mem_of_getElem? (i := 377) (by decide +kernel)⟩
theorem lw_p14 : lw_okq (⟨"PolyBench$Grammar", "negated", "()V"⟩, 5) := ⟨⟨by decide +kernel, by decide +kernel⟩, List.mem_of_getElem? (i := 167) (by decide +kernel), List.mem_of_getElem? (i := 380) (by decide +kernel), List.mem_of_getElem? (i := 381) (by decide +kernel)⟩
theorem lw_p15 : lw_okq (⟨"PolyBench$Grammar", "opened", "(I)Z"⟩, 5) := ⟨⟨by decide +kernel, by decide +kernel⟩, List.mem_of_getElem? (i := 167) (by decide +kernel), List.mem_of_getElem? (i := 384) (by decide +kernel), List.mem_of_getElem? (i := 385) (by decide +kernel)⟩
def lw_privs_1 : List (MethodName × Nat) := [(⟨"PolyBench$Tape", "add", "(B)V"⟩, 6), (⟨"PolyBench$Tape", "skipBlanks", "()V"⟩, 6), (⟨"PolyBench$Tape", "byteAt", "(I)I"⟩, 6), (⟨"PolyBench$Tape", "readToken", "()I"⟩, 6), (⟨"PolyBench$Tape", "readWord", "()I"⟩, 6), (⟨"PolyBench$Tape", "keyOrName", "(I)I"⟩, 6), (⟨"PolyBench$Tape", "spells", "(Ljava/lang/String;I)Z"⟩, 6), (⟨"PolyBench$Tape", "readNumber", "()I"⟩, 6), (⟨"PolyBench$Grammar", "part", "(I)V"⟩, 5), (⟨"PolyBench$Grammar", "need", "(I)V"⟩, 5), (⟨"PolyBench$Grammar", "stands", "(I)Z"⟩, 5), (⟨"PolyBench$Grammar", "fail", "()V"⟩, 5), (⟨"PolyBench$Grammar", "either", "()V"⟩, 5), (⟨"PolyBench$Grammar", "both", "()V"⟩, 5), (⟨"PolyBench$Grammar", "negated", "()V"⟩, 5), (⟨"PolyBench$Grammar", "opened", "(I)Z"⟩, 5)]
theorem lw_r1 : ∀ q ∈ lw_privs_1, lw_okq q := List.forall_mem_cons.mpr ⟨lw_p0, List.forall_mem_cons.mpr ⟨lw_p1, List.forall_mem_cons.mpr ⟨lw_p2, List.forall_mem_cons.mpr ⟨lw_p3, List.forall_mem_cons.mpr ⟨lw_p4, List.forall_mem_cons.mpr ⟨lw_p5, List.forall_mem_cons.mpr ⟨lw_p6, List.forall_mem_cons.mpr ⟨lw_p7, List.forall_mem_cons.mpr ⟨lw_p8, List.forall_mem_cons.mpr ⟨lw_p9, List.forall_mem_cons.mpr ⟨lw_p10, List.forall_mem_cons.mpr ⟨lw_p11, List.forall_mem_cons.mpr ⟨lw_p12, List.forall_mem_cons.mpr ⟨lw_p13, List.forall_mem_cons.mpr ⟨lw_p14, List.forall_mem_cons.mpr ⟨lw_p15, fun _ h => absurd h List.not_mem_nil⟩⟩⟩⟩⟩⟩⟩⟩⟩⟩⟩⟩⟩⟩⟩⟩
theorem lw_p16 : lw_okq (⟨"PolyBench$Grammar", "summed", "()V"⟩, 5) := ⟨⟨by decide +kernel, by decide +kernel⟩, List.mem_of_getElem? (i := 167) (by decide +kernel), List.mem_of_getElem? (i := 392) (by decide +kernel), List.mem_of_getElem? (i := 393) (by decide +kernel)⟩
theorem lw_p17 : lw_okq (⟨"PolyBench$Grammar", "term", "()V"⟩, 5) := ⟨⟨by decide +kernel, by decide +kernel⟩, List.mem_of_getElem? (i := 167) (by decide +kernel), List.mem_of_getElem? (i := 396) (by decide +kernel), List.mem_of_getElem? (i := 397) (by decide +kernel)⟩
theorem lw_p18 : lw_okq (⟨"PolyBench$Grammar", "one", "()V"⟩, 5) := ⟨⟨by decide +kernel, by decide +kernel⟩, List.mem_of_getElem? (i := 167) (by decide +kernel), List.mem_of_getElem? (i := 400) (by decide +kernel), List.mem_of_getElem? (i := 401) (by decide +kernel)⟩
theorem lw_p19 : lw_okq (⟨"PolyBench$Grammar", "numberOrName", "()V"⟩, 5) := ⟨⟨by decide +kernel, by decide +kernel⟩, List.mem_of_getElem? (i := 167) (by decide +kernel), List.mem_of_getElem? (i := 404) (by decide +kernel), List.mem_of_getElem? (i := 405) (by decide +kernel)⟩
theorem lw_p20 : lw_okq (⟨"PolyBench$Grammar", "took", "(I)Z"⟩, 5) := ⟨⟨by decide +kernel, by decide +kernel⟩, List.mem_of_getElem? (i := 167) (by decide +kernel), List.mem_of_getElem? (i := 416) (by decide +kernel), List.mem_of_getElem? (i := 417) (by decide +kernel)⟩
theorem lw_p21 : lw_okq (⟨"PolyBench", "become", "(ILPolyBench$Row;)I"⟩, 15) := ⟨⟨by decide +kernel, by decide +kernel⟩, List.mem_of_getElem? (i := 18) (by decide +kernel), List.mem_of_getElem? (i := 531) (by decide +kernel), List.mem_of_getElem? (i := 532) (by decide +kernel)⟩
theorem lw_p22 : lw_okq (⟨"PolyBench$Way", "parted", "(I)I"⟩, 3) := ⟨⟨by decide +kernel, by decide +kernel⟩, List.mem_of_getElem? (i := 538) (by decide +kernel), List.mem_of_getElem? (i := 544) (by decide +kernel), List.mem_of_getElem? (i := 545) (by decide +kernel)⟩
theorem lw_p23 : lw_okq (⟨"PolyBench$Way", "countOfSize", "(I)I"⟩, 3) := ⟨⟨by decide +kernel, by decide +kernel⟩, List.mem_of_getElem? (i := 538) (by decide +kernel), List.mem_of_getElem? (i := 548) (by decide +kernel), List.mem_of_getElem? (i := 549) (by decide +kernel)⟩
theorem lw_p24 : lw_okq (⟨"PolyBench", "isWay", "(I)Z"⟩, 15) := ⟨⟨by decide +kernel, by decide +kernel⟩, List.mem_of_getElem? (i := 18) (by decide +kernel), List.mem_of_getElem? (i := 567) (by decide +kernel), List.mem_of_getElem? (i := 568) (by decide +kernel)⟩
theorem lw_p25 : lw_okq (⟨"PolyBench", "multiply", "(IIII)I"⟩, 15) := ⟨⟨by decide +kernel, by decide +kernel⟩, List.mem_of_getElem? (i := 18) (by decide +kernel), List.mem_of_getElem? (i := 571) (by decide +kernel), List.mem_of_getElem? (i := 572) (by decide +kernel)⟩
theorem lw_p26 : lw_okq (⟨"PolyBench", "countFor", "(III)I"⟩, 15) := ⟨⟨by decide +kernel, by decide +kernel⟩, List.mem_of_getElem? (i := 18) (by decide +kernel), List.mem_of_getElem? (i := 575) (by decide +kernel), List.mem_of_getElem? (i := 576) (by decide +kernel)⟩
theorem lw_p27 : lw_okq (⟨"PolyBench", "bestWay", "(II)I"⟩, 15) := ⟨⟨by decide +kernel, by decide +kernel⟩, List.mem_of_getElem? (i := 18) (by decide +kernel), List.mem_of_getElem? (i := 612) (by decide +kernel), List.mem_of_getElem? (i := 613) (by decide +kernel)⟩
theorem lw_p28 : lw_okq (⟨"PolyBench", "ruleFor", "(III)I"⟩, 15) := ⟨⟨by decide +kernel, by decide +kernel⟩, List.mem_of_getElem? (i := 18) (by decide +kernel), List.mem_of_getElem? (i := 616) (by decide +kernel), List.mem_of_getElem? (i := 617) (by decide +kernel)⟩
theorem lw_p29 : lw_okq (⟨"PolyBench$Text", "doStep", "(I[I)V"⟩, 6) := ⟨⟨by decide +kernel, by decide +kernel⟩, List.mem_of_getElem? (i := 173) (by decide +kernel), List.mem_of_getElem? (i := 646) (by decide +kernel), List.mem_of_getElem? (i := 647) (by decide +kernel)⟩
theorem lw_p30 : lw_okq (⟨"PolyBench$Text", "push", "(I)V"⟩, 6) := ⟨⟨by decide +kernel, by decide +kernel⟩, List.mem_of_getElem? (i := 173) (by decide +kernel), List.mem_of_getElem? (i := 650) (by decide +kernel), List.mem_of_getElem? (i := 651) (by decide +kernel)⟩
theorem lw_p31 : lw_okq (⟨"PolyBench$Text", "pop", "()I"⟩, 6) := ⟨⟨by decide +kernel, by decide +kernel⟩, List.mem_of_getElem? (i := 173) (by decide +kernel), List.mem_of_getElem? (i := 654) (by decide +kernel), List.mem_of_getElem? (i := 655) (by decide +kernel)⟩
def lw_privs_2 : List (MethodName × Nat) := [(⟨"PolyBench$Grammar", "summed", "()V"⟩, 5), (⟨"PolyBench$Grammar", "term", "()V"⟩, 5), (⟨"PolyBench$Grammar", "one", "()V"⟩, 5), (⟨"PolyBench$Grammar", "numberOrName", "()V"⟩, 5), (⟨"PolyBench$Grammar", "took", "(I)Z"⟩, 5), (⟨"PolyBench", "become", "(ILPolyBench$Row;)I"⟩, 15), (⟨"PolyBench$Way", "parted", "(I)I"⟩, 3), (⟨"PolyBench$Way", "countOfSize", "(I)I"⟩, 3), (⟨"PolyBench", "isWay", "(I)Z"⟩, 15), (⟨"PolyBench", "multiply", "(IIII)I"⟩, 15), (⟨"PolyBench", "countFor", "(III)I"⟩, 15), (⟨"PolyBench", "bestWay", "(II)I"⟩, 15), (⟨"PolyBench", "ruleFor", "(III)I"⟩, 15), (⟨"PolyBench$Text", "doStep", "(I[I)V"⟩, 6), (⟨"PolyBench$Text", "push", "(I)V"⟩, 6), (⟨"PolyBench$Text", "pop", "()I"⟩, 6)]
theorem lw_r2 : ∀ q ∈ lw_privs_2, lw_okq q := List.forall_mem_cons.mpr ⟨lw_p16, List.forall_mem_cons.mpr ⟨lw_p17, List.forall_mem_cons.mpr ⟨lw_p18, List.forall_mem_cons.mpr ⟨lw_p19, List.forall_mem_cons.mpr ⟨lw_p20, List.forall_mem_cons.mpr ⟨lw_p21, List.forall_mem_cons.mpr ⟨lw_p22, List.forall_mem_cons.mpr ⟨lw_p23, List.forall_mem_cons.mpr ⟨lw_p24, List.forall_mem_cons.mpr ⟨lw_p25, List.forall_mem_cons.mpr ⟨lw_p26, List.forall_mem_cons.mpr ⟨lw_p27, List.forall_mem_cons.mpr ⟨lw_p28, List.forall_mem_cons.mpr ⟨lw_p29, List.forall_mem_cons.mpr ⟨lw_p30, List.forall_mem_cons.mpr ⟨lw_p31, fun _ h => absurd h List.not_mem_nil⟩⟩⟩⟩⟩⟩⟩⟩⟩⟩⟩⟩⟩⟩⟩⟩
theorem lw_p32 : lw_okq (⟨"PolyBench", "isPlace", "(I)Z"⟩, 15) := ⟨⟨by decide +kernel, by decide +kernel⟩, List.mem_of_getElem? (i := 18) (by decide +kernel), List.mem_of_getElem? (i := 811) (by decide +kernel), List.mem_of_getElem? (i := 812) (by decide +kernel)⟩
theorem lw_p33 : lw_okq (⟨"PolyBench$Places", "timesAhead", "(I)I"⟩, 10) := ⟨⟨by decide +kernel, by decide +kernel⟩, List.mem_of_getElem? (i := 128) (by decide +kernel), List.mem_of_getElem? (i := 852) (by decide +kernel), List.mem_of_getElem? (i := 853) (by decide +kernel)⟩
theorem lw_p34 : lw_okq (⟨"PolyBench$Places", "lack", "(I)I"⟩, 10) := ⟨⟨by decide +kernel, by decide +kernel⟩, List.mem_of_getElem? (i := 128) (by decide +kernel), List.mem_of_getElem? (i := 897) (by decide +kernel), List.mem_of_getElem? (i := 898) (by decide +kernel)⟩
theorem lw_p35 : lw_okq (⟨"PolyBenchModel", "rest", "(I)I"⟩, 39) := ⟨⟨by decide +kernel, by decide +kernel⟩, List.mem_of_getElem? (i := 966) (by decide +kernel), List.mem_of_getElem? (i := 1107) (by decide +kernel), List.mem_of_getElem? (i := 1108) (by decide +kernel)⟩
theorem lw_p36 : lw_okq (⟨"PolyBenchModel", "length", "(I)I"⟩, 39) := ⟨⟨by decide +kernel, by decide +kernel⟩, List.mem_of_getElem? (i := 966) (by decide +kernel), List.mem_of_getElem? (i := 1115) (by decide +kernel), List.mem_of_getElem? (i := 1116) (by decide +kernel)⟩
theorem lw_p37 : lw_okq (⟨"PolyBenchModel", "empty", "(I)V"⟩, 39) := ⟨⟨by decide +kernel, by decide +kernel⟩, List.mem_of_getElem? (i := 966) (by decide +kernel), List.mem_of_getElem? (i := 1123) (by decide +kernel), List.mem_of_getElem? (i := 1124) (by decide +kernel)⟩
theorem lw_p38 : lw_okq (⟨"PolyBenchModel", "comes", "(II)I"⟩, 39) := ⟨⟨by decide +kernel, by decide +kernel⟩, List.mem_of_getElem? (i := 966) (by decide +kernel), List.mem_of_getElem? (i := 1131) (by decide +kernel), List.mem_of_getElem? (i := 1132) (by decide +kernel)⟩
theorem lw_p39 : lw_okq (⟨"PolyBenchModel", "copy", "(II)V"⟩, 39) := ⟨⟨by decide +kernel, by decide +kernel⟩, List.mem_of_getElem? (i := 966) (by decide +kernel), List.mem_of_getElem? (i := 1135) (by decide +kernel), List.mem_of_getElem? (i := 1136) (by decide +kernel)⟩
theorem lw_p40 : lw_okq (⟨"PolyBenchModel", "areBad", "(II)Z"⟩, 39) := ⟨⟨by decide +kernel, by decide +kernel⟩, List.mem_of_getElem? (i := 966) (by decide +kernel), List.mem_of_getElem? (i := 1147) (by decide +kernel), List.mem_of_getElem? (i := 1148) (by decide +kernel)⟩
theorem lw_p41 : lw_okq (⟨"PolyBenchModel", "isWay", "(I)Z"⟩, 39) := ⟨⟨by decide +kernel, by decide +kernel⟩, List.mem_of_getElem? (i := 966) (by decide +kernel), List.mem_of_getElem? (i := 1151) (by decide +kernel), List.mem_of_getElem? (i := 1152) (by decide +kernel)⟩
theorem lw_p42 : lw_okq (⟨"PolyBenchModel", "costOf", "(III)J"⟩, 39) := ⟨⟨by decide +kernel, by decide +kernel⟩, List.mem_of_getElem? (i := 966) (by decide +kernel), List.mem_of_getElem? (i := 1155) (by decide +kernel), List.mem_of_getElem? (i := 1156) (by decide +kernel)⟩
theorem lw_p43 : lw_okq (⟨"PolyBenchModel", "same", "(II)Z"⟩, 39) := ⟨⟨by decide +kernel, by decide +kernel⟩, List.mem_of_getElem? (i := 966) (by decide +kernel), List.mem_of_getElem? (i := 1163) (by decide +kernel), List.mem_of_getElem? (i := 1164) (by decide +kernel)⟩
theorem lw_p44 : lw_okq (⟨"PolyBenchModel", "layOut", "(I)V"⟩, 39) := ⟨⟨by decide +kernel, by decide +kernel⟩, List.mem_of_getElem? (i := 966) (by decide +kernel), List.mem_of_getElem? (i := 1169) (by decide +kernel), List.mem_of_getElem? (i := 1170) (by decide +kernel)⟩
theorem lw_p45 : lw_okq (⟨"PolyBenchModel", "isLong", "(II)Z"⟩, 39) := ⟨⟨by decide +kernel, by decide +kernel⟩, List.mem_of_getElem? (i := 966) (by decide +kernel), List.mem_of_getElem? (i := 1174) (by decide +kernel), List.mem_of_getElem? (i := 1175) (by decide +kernel)⟩
theorem lw_p46 : lw_okq (⟨"PolyBenchModel", "multiply", "(III)V"⟩, 39) := ⟨⟨by decide +kernel, by decide +kernel⟩, List.mem_of_getElem? (i := 966) (by decide +kernel), List.mem_of_getElem? (i := 1178) (by decide +kernel), List.mem_of_getElem? (i := 1179) (by decide +kernel)⟩
theorem lw_p47 : lw_okq (⟨"PolyBenchModel", "planOf", "(II)I"⟩, 39) := ⟨⟨by decide +kernel, by decide +kernel⟩, List.mem_of_getElem? (i := 966) (by decide +kernel), List.mem_of_getElem? (i := 1190) (by decide +kernel), List.mem_of_getElem? (i := 1191) (by decide +kernel)⟩
def lw_privs_3 : List (MethodName × Nat) := [(⟨"PolyBench", "isPlace", "(I)Z"⟩, 15), (⟨"PolyBench$Places", "timesAhead", "(I)I"⟩, 10), (⟨"PolyBench$Places", "lack", "(I)I"⟩, 10), (⟨"PolyBenchModel", "rest", "(I)I"⟩, 39), (⟨"PolyBenchModel", "length", "(I)I"⟩, 39), (⟨"PolyBenchModel", "empty", "(I)V"⟩, 39), (⟨"PolyBenchModel", "comes", "(II)I"⟩, 39), (⟨"PolyBenchModel", "copy", "(II)V"⟩, 39), (⟨"PolyBenchModel", "areBad", "(II)Z"⟩, 39), (⟨"PolyBenchModel", "isWay", "(I)Z"⟩, 39), (⟨"PolyBenchModel", "costOf", "(III)J"⟩, 39), (⟨"PolyBenchModel", "same", "(II)Z"⟩, 39), (⟨"PolyBenchModel", "layOut", "(I)V"⟩, 39), (⟨"PolyBenchModel", "isLong", "(II)Z"⟩, 39), (⟨"PolyBenchModel", "multiply", "(III)V"⟩, 39), (⟨"PolyBenchModel", "planOf", "(II)I"⟩, 39)]
theorem lw_r3 : ∀ q ∈ lw_privs_3, lw_okq q := List.forall_mem_cons.mpr ⟨lw_p32, List.forall_mem_cons.mpr ⟨lw_p33, List.forall_mem_cons.mpr ⟨lw_p34, List.forall_mem_cons.mpr ⟨lw_p35, List.forall_mem_cons.mpr ⟨lw_p36, List.forall_mem_cons.mpr ⟨lw_p37, List.forall_mem_cons.mpr ⟨lw_p38, List.forall_mem_cons.mpr ⟨lw_p39, List.forall_mem_cons.mpr ⟨lw_p40, List.forall_mem_cons.mpr ⟨lw_p41, List.forall_mem_cons.mpr ⟨lw_p42, List.forall_mem_cons.mpr ⟨lw_p43, List.forall_mem_cons.mpr ⟨lw_p44, List.forall_mem_cons.mpr ⟨lw_p45, List.forall_mem_cons.mpr ⟨lw_p46, List.forall_mem_cons.mpr ⟨lw_p47, fun _ h => absurd h List.not_mem_nil⟩⟩⟩⟩⟩⟩⟩⟩⟩⟩⟩⟩⟩⟩⟩⟩
theorem lw_p48 : lw_okq (⟨"PolyBenchModel", "saysOf", "(III)I"⟩, 39) := ⟨⟨by decide +kernel, by decide +kernel⟩, List.mem_of_getElem? (i := 966) (by decide +kernel), List.mem_of_getElem? (i := 1194) (by decide +kernel), List.mem_of_getElem? (i := 1195) (by decide +kernel)⟩
theorem lw_p49 : lw_okq (⟨"PolyBenchModel", "read", "(II)I"⟩, 39) := ⟨⟨by decide +kernel, by decide +kernel⟩, List.mem_of_getElem? (i := 966) (by decide +kernel), List.mem_of_getElem? (i := 1198) (by decide +kernel), List.mem_of_getElem? (i := 1199) (by decide +kernel)⟩
theorem lw_p50 : lw_okq (⟨"PolyBenchModel", "next", "()V"⟩, 39) := ⟨⟨by decide +kernel, by decide +kernel⟩, List.mem_of_getElem? (i := 966) (by decide +kernel), List.mem_of_getElem? (i := 1202) (by decide +kernel), List.mem_of_getElem? (i := 1203) (by decide +kernel)⟩
theorem lw_p51 : lw_okq (⟨"PolyBenchModel", "byteAt", "(I)I"⟩, 39) := ⟨⟨by decide +kernel, by decide +kernel⟩, List.mem_of_getElem? (i := 966) (by decide +kernel), List.mem_of_getElem? (i := 1206) (by decide +kernel), List.mem_of_getElem? (i := 1207) (by decide +kernel)⟩
theorem lw_p52 : lw_okq (⟨"PolyBenchModel", "part", "(I)I"⟩, 39) := ⟨⟨by decide +kernel, by decide +kernel⟩, List.mem_of_getElem? (i := 966) (by decide +kernel), List.mem_of_getElem? (i := 1211) (by decide +kernel), List.mem_of_getElem? (i := 1212) (by decide +kernel)⟩
theorem lw_p53 : lw_okq (⟨"PolyBenchModel", "isWord", "(I)Z"⟩, 39) := ⟨⟨by decide +kernel, by decide +kernel⟩, List.mem_of_getElem? (i := 966) (by decide +kernel), List.mem_of_getElem? (i := 1215) (by decide +kernel), List.mem_of_getElem? (i := 1216) (by decide +kernel)⟩
theorem lw_p54 : lw_okq (⟨"PolyBenchModel", "fail", "()V"⟩, 39) := ⟨⟨by decide +kernel, by decide +kernel⟩, List.mem_of_getElem? (i := 966) (by decide +kernel), List.mem_of_getElem? (i := 1219) (by decide +kernel), List.mem_of_getElem? (i := 1220) (by decide +kernel)⟩
theorem lw_p55 : lw_okq (⟨"PolyBenchModel", "either", "()I"⟩, 39) := ⟨⟨by decide +kernel, by decide +kernel⟩, List.mem_of_getElem? (i := 966) (by decide +kernel), List.mem_of_getElem? (i := 1223) (by decide +kernel), List.mem_of_getElem? (i := 1224) (by decide +kernel)⟩
theorem lw_p56 : lw_okq (⟨"PolyBenchModel", "both", "()I"⟩, 39) := ⟨⟨by decide +kernel, by decide +kernel⟩, List.mem_of_getElem? (i := 966) (by decide +kernel), List.mem_of_getElem? (i := 1227) (by decide +kernel), List.mem_of_getElem? (i := 1228) (by decide +kernel)⟩
theorem lw_p57 : lw_okq (⟨"PolyBenchModel", "not", "()I"⟩, 39) := ⟨⟨by decide +kernel, by decide +kernel⟩, List.mem_of_getElem? (i := 966) (by decide +kernel), List.mem_of_getElem? (i := 1231) (by decide +kernel), List.mem_of_getElem? (i := 1232) (by decide +kernel)⟩
theorem lw_p58 : lw_okq (⟨"PolyBenchModel", "opens", "()Z"⟩, 39) := ⟨⟨by decide +kernel, by decide +kernel⟩, List.mem_of_getElem? (i := 966) (by decide +kernel), List.mem_of_getElem? (i := 1235) (by decide +kernel), List.mem_of_getElem? (i := 1236) (by decide +kernel)⟩
theorem lw_p59 : lw_okq (⟨"PolyBenchModel", "added", "()I"⟩, 39) := ⟨⟨by decide +kernel, by decide +kernel⟩, List.mem_of_getElem? (i := 966) (by decide +kernel), List.mem_of_getElem? (i := 1239) (by decide +kernel), List.mem_of_getElem? (i := 1240) (by decide +kernel)⟩
theorem lw_p60 : lw_okq (⟨"PolyBenchModel", "term", "()I"⟩, 39) := ⟨⟨by decide +kernel, by decide +kernel⟩, List.mem_of_getElem? (i := 966) (by decide +kernel), List.mem_of_getElem? (i := 1243) (by decide +kernel), List.mem_of_getElem? (i := 1244) (by decide +kernel)⟩
theorem lw_p61 : lw_okq (⟨"PolyBenchModel", "one", "()I"⟩, 39) := ⟨⟨by decide +kernel, by decide +kernel⟩, List.mem_of_getElem? (i := 966) (by decide +kernel), List.mem_of_getElem? (i := 1247) (by decide +kernel), List.mem_of_getElem? (i := 1248) (by decide +kernel)⟩
theorem lw_p62 : lw_okq (⟨"PolyBenchModel", "isSign", "(I)Z"⟩, 39) := ⟨⟨by decide +kernel, by decide +kernel⟩, List.mem_of_getElem? (i := 966) (by decide +kernel), List.mem_of_getElem? (i := 1251) (by decide +kernel), List.mem_of_getElem? (i := 1252) (by decide +kernel)⟩
theorem lw_p63 : lw_okq (⟨"PolyBenchModel", "name", "()I"⟩, 39) := ⟨⟨by decide +kernel, by decide +kernel⟩, List.mem_of_getElem? (i := 966) (by decide +kernel), List.mem_of_getElem? (i := 1255) (by decide +kernel), List.mem_of_getElem? (i := 1256) (by decide +kernel)⟩
def lw_privs_4 : List (MethodName × Nat) := [(⟨"PolyBenchModel", "saysOf", "(III)I"⟩, 39), (⟨"PolyBenchModel", "read", "(II)I"⟩, 39), (⟨"PolyBenchModel", "next", "()V"⟩, 39), (⟨"PolyBenchModel", "byteAt", "(I)I"⟩, 39), (⟨"PolyBenchModel", "part", "(I)I"⟩, 39), (⟨"PolyBenchModel", "isWord", "(I)Z"⟩, 39), (⟨"PolyBenchModel", "fail", "()V"⟩, 39), (⟨"PolyBenchModel", "either", "()I"⟩, 39), (⟨"PolyBenchModel", "both", "()I"⟩, 39), (⟨"PolyBenchModel", "not", "()I"⟩, 39), (⟨"PolyBenchModel", "opens", "()Z"⟩, 39), (⟨"PolyBenchModel", "added", "()I"⟩, 39), (⟨"PolyBenchModel", "term", "()I"⟩, 39), (⟨"PolyBenchModel", "one", "()I"⟩, 39), (⟨"PolyBenchModel", "isSign", "(I)Z"⟩, 39), (⟨"PolyBenchModel", "name", "()I"⟩, 39)]
theorem lw_r4 : ∀ q ∈ lw_privs_4, lw_okq q := List.forall_mem_cons.mpr ⟨lw_p48, List.forall_mem_cons.mpr ⟨lw_p49, List.forall_mem_cons.mpr ⟨lw_p50, List.forall_mem_cons.mpr ⟨lw_p51, List.forall_mem_cons.mpr ⟨lw_p52, List.forall_mem_cons.mpr ⟨lw_p53, List.forall_mem_cons.mpr ⟨lw_p54, List.forall_mem_cons.mpr ⟨lw_p55, List.forall_mem_cons.mpr ⟨lw_p56, List.forall_mem_cons.mpr ⟨lw_p57, List.forall_mem_cons.mpr ⟨lw_p58, List.forall_mem_cons.mpr ⟨lw_p59, List.forall_mem_cons.mpr ⟨lw_p60, List.forall_mem_cons.mpr ⟨lw_p61, List.forall_mem_cons.mpr ⟨lw_p62, List.forall_mem_cons.mpr ⟨lw_p63, fun _ h => absurd h List.not_mem_nil⟩⟩⟩⟩⟩⟩⟩⟩⟩⟩⟩⟩⟩⟩⟩⟩
theorem lw_p64 : lw_okq (⟨"PolyBenchModel", "divideRows", "(III)V"⟩, 39) := ⟨⟨by decide +kernel, by decide +kernel⟩, List.mem_of_getElem? (i := 966) (by decide +kernel), List.mem_of_getElem? (i := 1291) (by decide +kernel), List.mem_of_getElem? (i := 1292) (by decide +kernel)⟩
theorem lw_p65 : lw_okq (⟨"PolyBenchModel", "inverse", "(I)I"⟩, 39) := ⟨⟨by decide +kernel, by decide +kernel⟩, List.mem_of_getElem? (i := 966) (by decide +kernel), List.mem_of_getElem? (i := 1295) (by decide +kernel), List.mem_of_getElem? (i := 1296) (by decide +kernel)⟩
theorem lw_p66 : lw_okq (⟨"PolyBenchModel", "raised", "(II)I"⟩, 39) := ⟨⟨by decide +kernel, by decide +kernel⟩, List.mem_of_getElem? (i := 966) (by decide +kernel), List.mem_of_getElem? (i := 1299) (by decide +kernel), List.mem_of_getElem? (i := 1300) (by decide +kernel)⟩
theorem lw_p67 : lw_okq (⟨"PolyBenchModel", "common", "(II)V"⟩, 39) := ⟨⟨by decide +kernel, by decide +kernel⟩, List.mem_of_getElem? (i := 966) (by decide +kernel), List.mem_of_getElem? (i := 1307) (by decide +kernel), List.mem_of_getElem? (i := 1308) (by decide +kernel)⟩
theorem lw_p68 : lw_okq (⟨"PolyBenchModel", "scale", "(II)V"⟩, 39) := ⟨⟨by decide +kernel, by decide +kernel⟩, List.mem_of_getElem? (i := 966) (by decide +kernel), List.mem_of_getElem? (i := 1311) (by decide +kernel), List.mem_of_getElem? (i := 1312) (by decide +kernel)⟩
theorem lw_p69 : lw_okq (⟨"PolyBenchModel", "moveRow", "(II)V"⟩, 39) := ⟨⟨by decide +kernel, by decide +kernel⟩, List.mem_of_getElem? (i := 966) (by decide +kernel), List.mem_of_getElem? (i := 1327) (by decide +kernel), List.mem_of_getElem? (i := 1328) (by decide +kernel)⟩
theorem lw_p70 : lw_okq (⟨"PolyBenchModel", "worth", "(II)I"⟩, 39) := ⟨⟨by decide +kernel, by decide +kernel⟩, List.mem_of_getElem? (i := 966) (by decide +kernel), List.mem_of_getElem? (i := 1335) (by decide +kernel), List.mem_of_getElem? (i := 1336) (by decide +kernel)⟩
theorem lw_p71 : lw_okq (⟨"PolyBenchModel", "isPlace", "(I)Z"⟩, 39) := ⟨⟨by decide +kernel, by decide +kernel⟩, List.mem_of_getElem? (i := 966) (by decide +kernel), List.mem_of_getElem? (i := 1355) (by decide +kernel), List.mem_of_getElem? (i := 1356) (by decide +kernel)⟩
theorem lw_p72 : lw_okq (⟨"PolyBenchModel", "solve", "(III)Z"⟩, 39) := ⟨⟨by decide +kernel, by decide +kernel⟩, List.mem_of_getElem? (i := 966) (by decide +kernel), List.mem_of_getElem? (i := 1375) (by decide +kernel), List.mem_of_getElem? (i := 1376) (by decide +kernel)⟩
theorem lw_p73 : lw_okq (⟨"PolyBenchModel", "areUnlike", "()Z"⟩, 39) := ⟨⟨by decide +kernel, by decide +kernel⟩, List.mem_of_getElem? (i := 966) (by decide +kernel), List.mem_of_getElem? (i := 1383) (by decide +kernel), List.mem_of_getElem? (i := 1384) (by decide +kernel)⟩
theorem lw_p74 : lw_okq (⟨"PolyBenchModel", "relate", "()V"⟩, 39) := ⟨⟨by decide +kernel, by decide +kernel⟩, List.mem_of_getElem? (i := 966) (by decide +kernel), List.mem_of_getElem? (i := 1391) (by decide +kernel), List.mem_of_getElem? (i := 1392) (by decide +kernel)⟩
def lw_privs_5 : List (MethodName × Nat) := [(⟨"PolyBenchModel", "divideRows", "(III)V"⟩, 39), (⟨"PolyBenchModel", "inverse", "(I)I"⟩, 39), (⟨"PolyBenchModel", "raised", "(II)I"⟩, 39), (⟨"PolyBenchModel", "common", "(II)V"⟩, 39), (⟨"PolyBenchModel", "scale", "(II)V"⟩, 39), (⟨"PolyBenchModel", "moveRow", "(II)V"⟩, 39), (⟨"PolyBenchModel", "worth", "(II)I"⟩, 39), (⟨"PolyBenchModel", "isPlace", "(I)Z"⟩, 39), (⟨"PolyBenchModel", "solve", "(III)Z"⟩, 39), (⟨"PolyBenchModel", "areUnlike", "()Z"⟩, 39), (⟨"PolyBenchModel", "relate", "()V"⟩, 39)]
theorem lw_r5 : ∀ q ∈ lw_privs_5, lw_okq q := List.forall_mem_cons.mpr ⟨lw_p64, List.forall_mem_cons.mpr ⟨lw_p65, List.forall_mem_cons.mpr ⟨lw_p66, List.forall_mem_cons.mpr ⟨lw_p67, List.forall_mem_cons.mpr ⟨lw_p68, List.forall_mem_cons.mpr ⟨lw_p69, List.forall_mem_cons.mpr ⟨lw_p70, List.forall_mem_cons.mpr ⟨lw_p71, List.forall_mem_cons.mpr ⟨lw_p72, List.forall_mem_cons.mpr ⟨lw_p73, List.forall_mem_cons.mpr ⟨lw_p74, fun _ h => absurd h List.not_mem_nil⟩⟩⟩⟩⟩⟩⟩⟩⟩⟩⟩
def lw_privs : List (MethodName × Nat) := lw_privs_1 ++ (lw_privs_2 ++ (lw_privs_3 ++ (lw_privs_4 ++ (lw_privs_5))))
def lw_tbl : List Cond := k2_sels lw_privs ++ tables_1
theorem lw_privs_ok : ∀ q ∈ lw_privs, lw_okq q := by
  show ∀ q ∈ lw_privs_1 ++ (lw_privs_2 ++ (lw_privs_3 ++ (lw_privs_4 ++ (lw_privs_5)))), lw_okq q
  exact List.forall_mem_append.mpr ⟨lw_r1, List.forall_mem_append.mpr ⟨lw_r2, List.forall_mem_append.mpr ⟨lw_r3, List.forall_mem_append.mpr ⟨lw_r4, lw_r5⟩⟩⟩⟩
-- ===== end of PART A; then your names; then what follows =====
end
section
/-! ===== BEGIN words of one list among another's, by their places ===== -/
theorem goodIn_r {big : List Cond} (ws : List Cond) (ps : List Nat) (hp : ws = ps.filterMap (fun i => big[i]?)) (h : ws.all goodWord = true) : GoodIn big ws := by
  intro w hw
  have h1 := List.all_eq_true.mp h w hw
  rw [hp] at hw
  obtain ⟨i, -, hi⟩ := List.mem_filterMap.mp hw
  have hm : w ∈ big := by first | exact List.mem_of_getElem? hi | exact List.getElem?_mem hi
  exact ⟨hm, good_of_word h1⟩
theorem goodIn_app {big a b : List Cond} (ha : GoodIn big a) (hb : GoodIn big b) : GoodIn big (a ++ b) := fun w h => (List.mem_append.mp h).elim (ha w) (hb w)
theorem goodIn_ca {big a b : List Cond} {c : Cond} (ha : GoodIn big (c :: a)) (hb : GoodIn big b) : GoodIn big (c :: (a ++ b)) := fun w h => (List.mem_cons.mp h).elim (fun e => ha w (List.mem_cons.mpr (Or.inl e))) (fun h => (List.mem_append.mp h).elim (fun h => ha w (List.mem_cons.mpr (Or.inr h))) (hb w))
theorem goodIn_sub {big ws : List Cond} (hm : ∀ w ∈ ws, w ∈ big) (h : ws.all goodWord = true) : GoodIn big ws := fun w hw => ⟨hm w hw, good_of_word (List.all_eq_true.mp h w hw)⟩
/-! ===== END ===== -/

/-! ===== BEGIN printed: names, fields, word lists, decode rows ===== -/
def RX0 : String := "PolyBench$Algebra"
def TX0 : u_T := fun k => match k with
  | 0 => ("PolyBench$Algebra", "rests", "LPolyBench$Rests;", true)
  | 1 => ("PolyBench$Algebra", "product", "LPolyBench$Row;", true)
  | 2 => ("PolyBench$Algebra", "quotient", "LPolyBench$Row;", true)
  | 3 => ("PolyBench$Algebra", "result", "LPolyBench$Row;", true)
  | 4 => ("PolyBench$Algebra", "line", "LPolyBench$Row;", true)
  | 5 => ("PolyBench$Algebra", "older", "LPolyBench$Row;", false)
  | 6 => ("PolyBench$Algebra", "newer", "LPolyBench$Row;", false)
  | 7 => ("PolyBench$Algebra", "olderFactor", "LPolyBench$Row;", false)
  | _ => ("PolyBench$Algebra", "newerFactor", "LPolyBench$Row;", false)
def tyX0 : Nat → FieldType := fun k => match k with
  | 0 => .object "PolyBench$Rests"
  | 1 => .object "PolyBench$Row"
  | 2 => .object "PolyBench$Row"
  | 3 => .object "PolyBench$Row"
  | 4 => .object "PolyBench$Row"
  | 5 => .object "PolyBench$Row"
  | 6 => .object "PolyBench$Row"
  | 7 => .object "PolyBench$Row"
  | _ => .object "PolyBench$Row"
abbrev wsX00 : List Cond := u_ws RX0 TX0 9
theorem nmX0 : ∀ a, a < 9 → ∀ b, b < 9 → a ≠ b → (TX0 a).2.1 ≠ (TX0 b).2.1 := by decide +kernel
theorem tyX0_ok : ∀ k, k < 9 → parseFieldDescriptor (TX0 k).2.2.1 = some (tyX0 k) := by decide +kernel
abbrev cX0_init : ByteArray := prog_2_method_1_code
def yX0_init : MethodName := ⟨RX0, "<init>", "(LPolyBench$Rests;)V"⟩
abbrev cX0_evaluated : ByteArray := prog_2_method_2_code
def yX0_evaluated : MethodName := ⟨RX0, "evaluated", "(LPolyBench$Row;I)I"⟩
abbrev cX0_addMultiple : ByteArray := prog_2_method_3_code
def yX0_addMultiple : MethodName := ⟨RX0, "addMultiple", "(LPolyBench$Row;ILPolyBench$Row;I)V"⟩
abbrev cX0_multiplied : ByteArray := prog_2_method_4_code
def yX0_multiplied : MethodName := ⟨RX0, "multiplied", "(LPolyBench$Row;LPolyBench$Row;)LPolyBench$Row;"⟩
abbrev cX0_pairs : ByteArray := prog_2_method_5_code
def yX0_pairs : MethodName := ⟨RX0, "pairs", "(LPolyBench$Row;LPolyBench$Row;I)J"⟩
abbrev cX0_reduce : ByteArray := prog_2_method_6_code
def yX0_reduce : MethodName := ⟨RX0, "reduce", "(LPolyBench$Row;LPolyBench$Row;)LPolyBench$Row;"⟩
abbrev cX0_euclid : ByteArray := prog_2_method_7_code
def yX0_euclid : MethodName := ⟨RX0, "euclid", "(LPolyBench$Row;LPolyBench$Row;I)V"⟩
abbrev cX0_commonDivisor : ByteArray := prog_2_method_8_code
def yX0_commonDivisor : MethodName := ⟨RX0, "commonDivisor", "(LPolyBench$Row;LPolyBench$Row;)LPolyBench$Row;"⟩
abbrev cX0_leastCofactor : ByteArray := prog_2_method_9_code
def yX0_leastCofactor : MethodName := ⟨RX0, "leastCofactor", "(LPolyBench$Row;LPolyBench$Row;)LPolyBench$Row;"⟩
abbrev cX0_lastByFactor : ByteArray := prog_2_method_10_code
def yX0_lastByFactor : MethodName := ⟨RX0, "lastByFactor", "()LPolyBench$Row;"⟩
abbrev cX0_composed : ByteArray := prog_2_method_11_code
def yX0_composed : MethodName := ⟨RX0, "composed", "(LPolyBench$Row;LPolyBench$Row;)LPolyBench$Row;"⟩
abbrev cX0_moved : ByteArray := prog_2_method_12_code
def yX0_moved : MethodName := ⟨RX0, "moved", "(LPolyBench$Row;I)LPolyBench$Row;"⟩
abbrev cX0_partMoved : ByteArray := prog_2_method_13_code
def yX0_partMoved : MethodName := ⟨RX0, "partMoved", "(LPolyBench$Row;II)LPolyBench$Row;"⟩
abbrev cX0_lineAt : ByteArray := prog_2_method_14_code
def yX0_lineAt : MethodName := ⟨RX0, "lineAt", "(I)LPolyBench$Row;"⟩
abbrev cX0_seekRoots : ByteArray := prog_2_method_15_code
def yX0_seekRoots : MethodName := ⟨RX0, "seekRoots", "(LPolyBench$Row;)I"⟩
abbrev cX0_soughtRoot : ByteArray := prog_2_method_16_code
def yX0_soughtRoot : MethodName := ⟨RX0, "soughtRoot", "(I)I"⟩
def RX1 : String := "PolyBench$Grammar"
def TX1 : u_T := fun k => match k with
  | 0 => ("PolyBench$Grammar", "tape", "LPolyBench$Tape;", true)
  | 1 => ("PolyBench$Grammar", "text", "LPolyBench$Text;", false)
  | 2 => ("PolyBench$Grammar", "next", "I", false)
  | 3 => ("PolyBench$Grammar", "open", "I", false)
  | _ => ("PolyBench$Grammar", "fault", "I", false)
def tyX1 : Nat → FieldType := fun k => match k with
  | 0 => .object "PolyBench$Tape"
  | 1 => .object "PolyBench$Text"
  | 2 => .int
  | 3 => .int
  | _ => .int
abbrev wsX10 : List Cond := u_ws RX1 TX1 5
theorem nmX1 : ∀ a, a < 5 → ∀ b, b < 5 → a ≠ b → (TX1 a).2.1 ≠ (TX1 b).2.1 := by decide +kernel
theorem tyX1_ok : ∀ k, k < 5 → parseFieldDescriptor (TX1 k).2.2.1 = some (tyX1 k) := by decide +kernel
abbrev cX1_init : ByteArray := prog_3_method_1_code
def yX1_init : MethodName := ⟨RX1, "<init>", "(LPolyBench$Tape;)V"⟩
abbrev cX1_readInto : ByteArray := prog_3_method_2_code
def yX1_readInto : MethodName := ⟨RX1, "readInto", "(LPolyBench$Text;)I"⟩
abbrev cX1_part : ByteArray := prog_3_method_3_code
def yX1_part : MethodName := ⟨RX1, "part", "(I)V"⟩
abbrev cX1_stands : ByteArray := prog_3_method_4_code
def yX1_stands : MethodName := ⟨RX1, "stands", "(I)Z"⟩
abbrev cX1_took : ByteArray := prog_3_method_5_code
def yX1_took : MethodName := ⟨RX1, "took", "(I)Z"⟩
abbrev cX1_need : ByteArray := prog_3_method_6_code
def yX1_need : MethodName := ⟨RX1, "need", "(I)V"⟩
abbrev cX1_fail : ByteArray := prog_3_method_7_code
def yX1_fail : MethodName := ⟨RX1, "fail", "()V"⟩
abbrev cX1_opened : ByteArray := prog_3_method_8_code
def yX1_opened : MethodName := ⟨RX1, "opened", "(I)Z"⟩
abbrev cX1_either : ByteArray := prog_3_method_9_code
def yX1_either : MethodName := ⟨RX1, "either", "()V"⟩
abbrev cX1_both : ByteArray := prog_3_method_10_code
def yX1_both : MethodName := ⟨RX1, "both", "()V"⟩
abbrev cX1_negated : ByteArray := prog_3_method_11_code
def yX1_negated : MethodName := ⟨RX1, "negated", "()V"⟩
abbrev cX1_summed : ByteArray := prog_3_method_12_code
def yX1_summed : MethodName := ⟨RX1, "summed", "()V"⟩
abbrev cX1_term : ByteArray := prog_3_method_13_code
def yX1_term : MethodName := ⟨RX1, "term", "()V"⟩
abbrev cX1_one : ByteArray := prog_3_method_14_code
def yX1_one : MethodName := ⟨RX1, "one", "()V"⟩
abbrev cX1_numberOrName : ByteArray := prog_3_method_15_code
def yX1_numberOrName : MethodName := ⟨RX1, "numberOrName", "()V"⟩
def RX2 : String := "PolyBench$Places"
def TX2 : u_T := fun k => match k with
  | 0 => ("PolyBench$Places", "rests", "LPolyBench$Rests;", true)
  | 1 => ("PolyBench$Places", "algebra", "LPolyBench$Algebra;", true)
  | 2 => ("PolyBench$Places", "numbers", "[I", true)
  | 3 => ("PolyBench$Places", "values", "[I", true)
  | 4 => ("PolyBench$Places", "size", "I", false)
  | 5 => ("PolyBench$Places", "filled", "LPolyBench$Row;", true)
  | 6 => ("PolyBench$Places", "nodes", "LPolyBench$Row;", true)
  | 7 => ("PolyBench$Places", "factors", "LPolyBench$Row;", false)
  | 8 => ("PolyBench$Places", "before", "LPolyBench$Row;", false)
  | _ => ("PolyBench$Places", "kept", "LPolyBench$Row;", false)
def tyX2 : Nat → FieldType := fun k => match k with
  | 0 => .object "PolyBench$Rests"
  | 1 => .object "PolyBench$Algebra"
  | 2 => .array .int
  | 3 => .array .int
  | 4 => .int
  | 5 => .object "PolyBench$Row"
  | 6 => .object "PolyBench$Row"
  | 7 => .object "PolyBench$Row"
  | 8 => .object "PolyBench$Row"
  | _ => .object "PolyBench$Row"
abbrev wsX20 : List Cond := u_ws RX2 TX2 10
theorem nmX2 : ∀ a, a < 10 → ∀ b, b < 10 → a ≠ b → (TX2 a).2.1 ≠ (TX2 b).2.1 := by decide +kernel
theorem tyX2_ok : ∀ k, k < 10 → parseFieldDescriptor (TX2 k).2.2.1 = some (tyX2 k) := by decide +kernel
abbrev cX2_init : ByteArray := prog_4_method_1_code
def yX2_init : MethodName := ⟨RX2, "<init>", "(LPolyBench$Rests;LPolyBench$Algebra;)V"⟩
abbrev cX2_size : ByteArray := prog_4_method_2_code
def yX2_size : MethodName := ⟨RX2, "size", "()I"⟩
abbrev cX2_wipe : ByteArray := prog_4_method_3_code
def yX2_wipe : MethodName := ⟨RX2, "wipe", "()V"⟩
abbrev cX2_append : ByteArray := prog_4_method_4_code
def yX2_append : MethodName := ⟨RX2, "append", "(I)V"⟩
abbrev cX2_numberOf : ByteArray := prog_4_method_5_code
def yX2_numberOf : MethodName := ⟨RX2, "numberOf", "(I)I"⟩
abbrev cX2_valueOf : ByteArray := prog_4_method_6_code
def yX2_valueOf : MethodName := ⟨RX2, "valueOf", "(I)I"⟩
abbrev cX2_give : ByteArray := prog_4_method_7_code
def yX2_give : MethodName := ⟨RX2, "give", "(II)V"⟩
abbrev cX2_timesAhead : ByteArray := prog_4_method_8_code
def yX2_timesAhead : MethodName := ⟨RX2, "timesAhead", "(I)I"⟩
abbrev cX2_hasAlike : ByteArray := prog_4_method_9_code
def yX2_hasAlike : MethodName := ⟨RX2, "hasAlike", "()Z"⟩
abbrev cX2_interpolated : ByteArray := prog_4_method_10_code
def yX2_interpolated : MethodName := ⟨RX2, "interpolated", "()LPolyBench$Row;"⟩
abbrev cX2_nearest : ByteArray := prog_4_method_11_code
def yX2_nearest : MethodName := ⟨RX2, "nearest", "(I)LPolyBench$Row;"⟩
abbrev cX2_wrongFor : ByteArray := prog_4_method_12_code
def yX2_wrongFor : MethodName := ⟨RX2, "wrongFor", "(LPolyBench$Row;)I"⟩
abbrev cX2_seekRelation : ByteArray := prog_4_method_13_code
def yX2_seekRelation : MethodName := ⟨RX2, "seekRelation", "()I"⟩
abbrev cX2_lack : ByteArray := prog_4_method_14_code
def yX2_lack : MethodName := ⟨RX2, "lack", "(I)I"⟩
abbrev cX2_soughtFactor : ByteArray := prog_4_method_15_code
def yX2_soughtFactor : MethodName := ⟨RX2, "soughtFactor", "(I)I"⟩
abbrev cX2_summed : ByteArray := prog_4_method_16_code
def yX2_summed : MethodName := ⟨RX2, "summed", "(I)I"⟩
def RX3 : String := "PolyBench$Rests"
def TX3 : u_T := fun k => match k with
  | _ => ("PolyBench$Rests", "prime", "I", true)
def tyX3 : Nat → FieldType := fun k => match k with
  | _ => .int
abbrev wsX30 : List Cond := u_ws RX3 TX3 1
theorem nmX3 : ∀ a, a < 1 → ∀ b, b < 1 → a ≠ b → (TX3 a).2.1 ≠ (TX3 b).2.1 := by decide +kernel
theorem tyX3_ok : ∀ k, k < 1 → parseFieldDescriptor (TX3 k).2.2.1 = some (tyX3 k) := by decide +kernel
abbrev cX3_init : ByteArray := prog_5_method_1_code
def yX3_init : MethodName := ⟨RX3, "<init>", "(I)V"⟩
abbrev cX3_primeOf : ByteArray := prog_5_method_2_code
def yX3_primeOf : MethodName := ⟨RX3, "primeOf", "(I)I"⟩
abbrev cX3_prime : ByteArray := prog_5_method_3_code
def yX3_prime : MethodName := ⟨RX3, "prime", "()I"⟩
abbrev cX3_rest : ByteArray := prog_5_method_4_code
def yX3_rest : MethodName := ⟨RX3, "rest", "(J)I"⟩
abbrev cX3_product : ByteArray := prog_5_method_5_code
def yX3_product : MethodName := ⟨RX3, "product", "(II)I"⟩
abbrev cX3_raised : ByteArray := prog_5_method_6_code
def yX3_raised : MethodName := ⟨RX3, "raised", "(II)I"⟩
abbrev cX3_inverse : ByteArray := prog_5_method_7_code
def yX3_inverse : MethodName := ⟨RX3, "inverse", "(I)I"⟩
def RX4 : String := "PolyBench$Row"
def TX4 : u_T := fun k => match k with
  | 0 => ("PolyBench$Row", "numbers", "[I", true)
  | _ => ("PolyBench$Row", "length", "I", false)
def tyX4 : Nat → FieldType := fun k => match k with
  | 0 => .array .int
  | _ => .int
abbrev wsX40 : List Cond := u_ws RX4 TX4 2
theorem nmX4 : ∀ a, a < 2 → ∀ b, b < 2 → a ≠ b → (TX4 a).2.1 ≠ (TX4 b).2.1 := by decide +kernel
theorem tyX4_ok : ∀ k, k < 2 → parseFieldDescriptor (TX4 k).2.2.1 = some (tyX4 k) := by decide +kernel
abbrev cX4_init : ByteArray := prog_6_method_1_code
def yX4_init : MethodName := ⟨RX4, "<init>", "(I)V"⟩
abbrev cX4_length : ByteArray := prog_6_method_2_code
def yX4_length : MethodName := ⟨RX4, "length", "()I"⟩
abbrev cX4_get : ByteArray := prog_6_method_3_code
def yX4_get : MethodName := ⟨RX4, "get", "(I)I"⟩
abbrev cX4_lead : ByteArray := prog_6_method_4_code
def yX4_lead : MethodName := ⟨RX4, "lead", "()I"⟩
abbrev cX4_set : ByteArray := prog_6_method_5_code
def yX4_set : MethodName := ⟨RX4, "set", "(II)V"⟩
abbrev cX4_wipe : ByteArray := prog_6_method_6_code
def yX4_wipe : MethodName := ⟨RX4, "wipe", "()V"⟩
abbrev cX4_copy : ByteArray := prog_6_method_7_code
def yX4_copy : MethodName := ⟨RX4, "copy", "(LPolyBench$Row;)V"⟩
abbrev cX4_isLike : ByteArray := prog_6_method_8_code
def yX4_isLike : MethodName := ⟨RX4, "isLike", "(LPolyBench$Row;)Z"⟩
def RX5 : String := "PolyBench$Sheet"
def TX5 : u_T := fun k => match k with
  | 0 => ("PolyBench$Sheet", "sort", "I", false)
  | 1 => ("PolyBench$Sheet", "size", "I", false)
  | _ => ("PolyBench$Sheet", "items", "[I", true)
def tyX5 : Nat → FieldType := fun k => match k with
  | 0 => .int
  | 1 => .int
  | _ => .array .int
abbrev wsX50 : List Cond := u_ws RX5 TX5 3
theorem nmX5 : ∀ a, a < 3 → ∀ b, b < 3 → a ≠ b → (TX5 a).2.1 ≠ (TX5 b).2.1 := by decide +kernel
theorem tyX5_ok : ∀ k, k < 3 → parseFieldDescriptor (TX5 k).2.2.1 = some (tyX5 k) := by decide +kernel
abbrev cX5_init : ByteArray := prog_7_method_1_code
def yX5_init : MethodName := ⟨RX5, "<init>", "()V"⟩
abbrev cX5_sort : ByteArray := prog_7_method_2_code
def yX5_sort : MethodName := ⟨RX5, "sort", "()I"⟩
abbrev cX5_size : ByteArray := prog_7_method_3_code
def yX5_size : MethodName := ⟨RX5, "size", "()I"⟩
abbrev cX5_begin : ByteArray := prog_7_method_4_code
def yX5_begin : MethodName := ⟨RX5, "begin", "(II)V"⟩
abbrev cX5_read : ByteArray := prog_7_method_5_code
def yX5_read : MethodName := ⟨RX5, "read", "(I)I"⟩
abbrev cX5_write : ByteArray := prog_7_method_6_code
def yX5_write : MethodName := ⟨RX5, "write", "(II)V"⟩
def RX6 : String := "PolyBench$Tape"
def TX6 : u_T := fun k => match k with
  | 0 => ("PolyBench$Tape", "bytes", "[B", true)
  | 1 => ("PolyBench$Tape", "size", "I", false)
  | 2 => ("PolyBench$Tape", "tokens", "[I", true)
  | 3 => ("PolyBench$Tape", "starts", "[I", true)
  | 4 => ("PolyBench$Tape", "tokenCount", "I", false)
  | _ => ("PolyBench$Tape", "next", "I", false)
def tyX6 : Nat → FieldType := fun k => match k with
  | 0 => .array .byte
  | 1 => .int
  | 2 => .array .int
  | 3 => .array .int
  | 4 => .int
  | _ => .int
abbrev wsX60 : List Cond := u_ws RX6 TX6 6
theorem nmX6 : ∀ a, a < 6 → ∀ b, b < 6 → a ≠ b → (TX6 a).2.1 ≠ (TX6 b).2.1 := by decide +kernel
theorem tyX6_ok : ∀ k, k < 6 → parseFieldDescriptor (TX6 k).2.2.1 = some (tyX6 k) := by decide +kernel
abbrev cX6_init : ByteArray := prog_8_method_1_code
def yX6_init : MethodName := ⟨RX6, "<init>", "()V"⟩
abbrev cX6_size : ByteArray := prog_8_method_2_code
def yX6_size : MethodName := ⟨RX6, "size", "()I"⟩
abbrev cX6_token : ByteArray := prog_8_method_3_code
def yX6_token : MethodName := ⟨RX6, "token", "(I)I"⟩
abbrev cX6_start : ByteArray := prog_8_method_4_code
def yX6_start : MethodName := ⟨RX6, "start", "(I)I"⟩
abbrev cX6_wipe : ByteArray := prog_8_method_5_code
def yX6_wipe : MethodName := ⟨RX6, "wipe", "()V"⟩
abbrev cX6_append : ByteArray := prog_8_method_6_code
def yX6_append : MethodName := ⟨RX6, "append", "(IJ)V"⟩
abbrev cX6_write : ByteArray := prog_8_method_7_code
def yX6_write : MethodName := ⟨RX6, "write", "(Ljava/lang/String;)V"⟩
abbrev cX6_add : ByteArray := prog_8_method_8_code
def yX6_add : MethodName := ⟨RX6, "add", "(B)V"⟩
abbrev cX6_byteAt : ByteArray := prog_8_method_9_code
def yX6_byteAt : MethodName := ⟨RX6, "byteAt", "(I)I"⟩
abbrev cX6_cutUp : ByteArray := prog_8_method_10_code
def yX6_cutUp : MethodName := ⟨RX6, "cutUp", "()V"⟩
abbrev cX6_skipBlanks : ByteArray := prog_8_method_11_code
def yX6_skipBlanks : MethodName := ⟨RX6, "skipBlanks", "()V"⟩
abbrev cX6_readToken : ByteArray := prog_8_method_12_code
def yX6_readToken : MethodName := ⟨RX6, "readToken", "()I"⟩
abbrev cX6_isLetter : ByteArray := prog_8_method_13_code
def yX6_isLetter : MethodName := ⟨RX6, "isLetter", "(I)Z"⟩
abbrev cX6_isDigit : ByteArray := prog_8_method_14_code
def yX6_isDigit : MethodName := ⟨RX6, "isDigit", "(I)Z"⟩
abbrev cX6_isSign : ByteArray := prog_8_method_15_code
def yX6_isSign : MethodName := ⟨RX6, "isSign", "(I)Z"⟩
abbrev cX6_readNumber : ByteArray := prog_8_method_16_code
def yX6_readNumber : MethodName := ⟨RX6, "readNumber", "()I"⟩
abbrev cX6_readWord : ByteArray := prog_8_method_17_code
def yX6_readWord : MethodName := ⟨RX6, "readWord", "()I"⟩
abbrev cX6_keyOrName : ByteArray := prog_8_method_18_code
def yX6_keyOrName : MethodName := ⟨RX6, "keyOrName", "(I)I"⟩
abbrev cX6_spells : ByteArray := prog_8_method_19_code
def yX6_spells : MethodName := ⟨RX6, "spells", "(Ljava/lang/String;I)Z"⟩
def RX7 : String := "PolyBench$Text"
def TX7 : u_T := fun k => match k with
  | 0 => ("PolyBench$Text", "steps", "[I", true)
  | 1 => ("PolyBench$Text", "size", "I", false)
  | 2 => ("PolyBench$Text", "ends", "[I", true)
  | 3 => ("PolyBench$Text", "parts", "I", false)
  | 4 => ("PolyBench$Text", "stack", "[I", true)
  | _ => ("PolyBench$Text", "top", "I", false)
def tyX7 : Nat → FieldType := fun k => match k with
  | 0 => .array .int
  | 1 => .int
  | 2 => .array .int
  | 3 => .int
  | 4 => .array .int
  | _ => .int
abbrev wsX70 : List Cond := u_ws RX7 TX7 6
theorem nmX7 : ∀ a, a < 6 → ∀ b, b < 6 → a ≠ b → (TX7 a).2.1 ≠ (TX7 b).2.1 := by decide +kernel
theorem tyX7_ok : ∀ k, k < 6 → parseFieldDescriptor (TX7 k).2.2.1 = some (tyX7 k) := by decide +kernel
abbrev cX7_init : ByteArray := prog_9_method_1_code
def yX7_init : MethodName := ⟨RX7, "<init>", "()V"⟩
abbrev cX7_begin : ByteArray := prog_9_method_2_code
def yX7_begin : MethodName := ⟨RX7, "begin", "()V"⟩
abbrev cX7_add : ByteArray := prog_9_method_3_code
def yX7_add : MethodName := ⟨RX7, "add", "(I)V"⟩
abbrev cX7_addName : ByteArray := prog_9_method_4_code
def yX7_addName : MethodName := ⟨RX7, "addName", "(I)V"⟩
abbrev cX7_endPart : ByteArray := prog_9_method_5_code
def yX7_endPart : MethodName := ⟨RX7, "endPart", "()V"⟩
abbrev cX7_worth : ByteArray := prog_9_method_6_code
def yX7_worth : MethodName := ⟨RX7, "worth", "(I[I)I"⟩
abbrev cX7_push : ByteArray := prog_9_method_7_code
def yX7_push : MethodName := ⟨RX7, "push", "(I)V"⟩
abbrev cX7_pop : ByteArray := prog_9_method_8_code
def yX7_pop : MethodName := ⟨RX7, "pop", "()I"⟩
abbrev cX7_doStep : ByteArray := prog_9_method_9_code
def yX7_doStep : MethodName := ⟨RX7, "doStep", "(I[I)V"⟩
abbrev cX7_ofTwo : ByteArray := prog_9_method_10_code
def yX7_ofTwo : MethodName := ⟨RX7, "ofTwo", "(III)I"⟩
def RX8 : String := "PolyBench$Way"
def TX8 : u_T := fun k => match k with
  | 0 => ("PolyBench$Way", "kind", "I", true)
  | 1 => ("PolyBench$Way", "cut", "I", true)
  | _ => ("PolyBench$Way", "bySize", "[I", true)
def tyX8 : Nat → FieldType := fun k => match k with
  | 0 => .int
  | 1 => .int
  | _ => .array .int
abbrev wsX80 : List Cond := u_ws RX8 TX8 3
theorem nmX8 : ∀ a, a < 3 → ∀ b, b < 3 → a ≠ b → (TX8 a).2.1 ≠ (TX8 b).2.1 := by decide +kernel
theorem tyX8_ok : ∀ k, k < 3 → parseFieldDescriptor (TX8 k).2.2.1 = some (tyX8 k) := by decide +kernel
abbrev cX8_init : ByteArray := prog_10_method_1_code
def yX8_init : MethodName := ⟨RX8, "<init>", "(II)V"⟩
abbrev cX8_kind : ByteArray := prog_10_method_2_code
def yX8_kind : MethodName := ⟨RX8, "kind", "()I"⟩
abbrev cX8_cut : ByteArray := prog_10_method_3_code
def yX8_cut : MethodName := ⟨RX8, "cut", "()I"⟩
abbrev cX8_above : ByteArray := prog_10_method_4_code
def yX8_above : MethodName := ⟨RX8, "above", "(I)I"⟩
abbrev cX8_isUnder : ByteArray := prog_10_method_5_code
def yX8_isUnder : MethodName := ⟨RX8, "isUnder", "(I)Z"⟩
abbrev cX8_part : ByteArray := prog_10_method_6_code
def yX8_part : MethodName := ⟨RX8, "part", "()I"⟩
abbrev cX8_countOf : ByteArray := prog_10_method_7_code
def yX8_countOf : MethodName := ⟨RX8, "countOf", "(IIZ)I"⟩
abbrev cX8_countOfSize : ByteArray := prog_10_method_8_code
def yX8_countOfSize : MethodName := ⟨RX8, "countOfSize", "(I)I"⟩
abbrev cX8_parted : ByteArray := prog_10_method_9_code
def yX8_parted : MethodName := ⟨RX8, "parted", "(I)I"⟩
abbrev cX8_turned : ByteArray := prog_10_method_10_code
def yX8_turned : MethodName := ⟨RX8, "turned", "(II)I"⟩
def RX9 : String := "PolyBench"
def TX9 : u_T := fun k => match k with
  | 0 => ("PolyBench", "rests", "LPolyBench$Rests;", true)
  | 1 => ("PolyBench", "algebra", "LPolyBench$Algebra;", true)
  | 2 => ("PolyBench", "polys", "[LPolyBench$Row;", true)
  | 3 => ("PolyBench", "made", "LPolyBench$Row;", true)
  | 4 => ("PolyBench", "ways", "[LPolyBench$Way;", true)
  | 5 => ("PolyBench", "wayCount", "I", false)
  | 6 => ("PolyBench", "allCounted", "J", false)
  | 7 => ("PolyBench", "tape", "LPolyBench$Tape;", true)
  | 8 => ("PolyBench", "grammar", "LPolyBench$Grammar;", true)
  | 9 => ("PolyBench", "texts", "[LPolyBench$Text;", true)
  | 10 => ("PolyBench", "textCount", "I", false)
  | 11 => ("PolyBench", "rule", "I", false)
  | 12 => ("PolyBench", "names", "[I", true)
  | 13 => ("PolyBench", "places", "LPolyBench$Places;", true)
  | _ => ("PolyBench", "sheets", "[LPolyBench$Sheet;", true)
def tyX9 : Nat → FieldType := fun k => match k with
  | 0 => .object "PolyBench$Rests"
  | 1 => .object "PolyBench$Algebra"
  | 2 => .array (.object "PolyBench$Row")
  | 3 => .object "PolyBench$Row"
  | 4 => .array (.object "PolyBench$Way")
  | 5 => .int
  | 6 => .long
  | 7 => .object "PolyBench$Tape"
  | 8 => .object "PolyBench$Grammar"
  | 9 => .array (.object "PolyBench$Text")
  | 10 => .int
  | 11 => .int
  | 12 => .array .int
  | 13 => .object "PolyBench$Places"
  | _ => .array (.object "PolyBench$Sheet")
abbrev wsX90 : List Cond := u_ws RX9 TX9 15
theorem nmX9 : ∀ a, a < 15 → ∀ b, b < 15 → a ≠ b → (TX9 a).2.1 ≠ (TX9 b).2.1 := by decide +kernel
theorem tyX9_ok : ∀ k, k < 15 → parseFieldDescriptor (TX9 k).2.2.1 = some (tyX9 k) := by decide +kernel
abbrev cX9_init : ByteArray := prog_1_method_1_code
def yX9_init : MethodName := ⟨RX9, "<init>", "(I)V"⟩
abbrev cX9_put : ByteArray := prog_1_method_2_code
def yX9_put : MethodName := ⟨RX9, "put", "(III)I"⟩
abbrev cX9_at : ByteArray := prog_1_method_3_code
def yX9_at : MethodName := ⟨RX9, "at", "(II)I"⟩
abbrev cX9_clear : ByteArray := prog_1_method_4_code
def yX9_clear : MethodName := ⟨RX9, "clear", "(I)I"⟩
abbrev cX9_sum : ByteArray := prog_1_method_5_code
def yX9_sum : MethodName := ⟨RX9, "sum", "(IIII)I"⟩
abbrev cX9_way : ByteArray := prog_1_method_6_code
def yX9_way : MethodName := ⟨RX9, "way", "(II)I"⟩
abbrev cX9_times : ByteArray := prog_1_method_7_code
def yX9_times : MethodName := ⟨RX9, "times", "(IIII)I"⟩
abbrev cX9_cost : ByteArray := prog_1_method_8_code
def yX9_cost : MethodName := ⟨RX9, "cost", "(III)I"⟩
abbrev cX9_plan : ByteArray := prog_1_method_9_code
def yX9_plan : MethodName := ⟨RX9, "plan", "(II)I"⟩
abbrev cX9_planned : ByteArray := prog_1_method_10_code
def yX9_planned : MethodName := ⟨RX9, "planned", "(III)I"⟩
abbrev cX9_feed : ByteArray := prog_1_method_11_code
def yX9_feed : MethodName := ⟨RX9, "feed", "(IJ)I"⟩
abbrev cX9_text : ByteArray := prog_1_method_12_code
def yX9_text : MethodName := ⟨RX9, "text", "()I"⟩
abbrev cX9_force : ByteArray := prog_1_method_13_code
def yX9_force : MethodName := ⟨RX9, "force", "(I)I"⟩
abbrev cX9_says : ByteArray := prog_1_method_14_code
def yX9_says : MethodName := ⟨RX9, "says", "(III)J"⟩
abbrev cX9_divide : ByteArray := prog_1_method_15_code
def yX9_divide : MethodName := ⟨RX9, "divide", "(IIIZ)I"⟩
abbrev cX9_gcd : ByteArray := prog_1_method_16_code
def yX9_gcd : MethodName := ⟨RX9, "gcd", "(III)I"⟩
abbrev cX9_cofactor : ByteArray := prog_1_method_17_code
def yX9_cofactor : MethodName := ⟨RX9, "cofactor", "(III)I"⟩
abbrev cX9_compose : ByteArray := prog_1_method_18_code
def yX9_compose : MethodName := ⟨RX9, "compose", "(III)I"⟩
abbrev cX9_move : ByteArray := prog_1_method_19_code
def yX9_move : MethodName := ⟨RX9, "move", "(III)I"⟩
abbrev cX9_root : ByteArray := prog_1_method_20_code
def yX9_root : MethodName := ⟨RX9, "root", "(II)I"⟩
abbrev cX9_order : ByteArray := prog_1_method_21_code
def yX9_order : MethodName := ⟨RX9, "order", "(II)I"⟩
abbrev cX9_place : ByteArray := prog_1_method_22_code
def yX9_place : MethodName := ⟨RX9, "place", "(I)I"⟩
abbrev cX9_leave : ByteArray := prog_1_method_23_code
def yX9_leave : MethodName := ⟨RX9, "leave", "()I"⟩
abbrev cX9_see : ByteArray := prog_1_method_24_code
def yX9_see : MethodName := ⟨RX9, "see", "(II)I"⟩
abbrev cX9_told : ByteArray := prog_1_method_25_code
def yX9_told : MethodName := ⟨RX9, "told", "(II)I"⟩
abbrev cX9_value : ByteArray := prog_1_method_26_code
def yX9_value : MethodName := ⟨RX9, "value", "(II)I"⟩
abbrev cX9_look : ByteArray := prog_1_method_27_code
def yX9_look : MethodName := ⟨RX9, "look", "(I)I"⟩
abbrev cX9_fill : ByteArray := prog_1_method_28_code
def yX9_fill : MethodName := ⟨RX9, "fill", "(I)I"⟩
abbrev cX9_right : ByteArray := prog_1_method_29_code
def yX9_right : MethodName := ⟨RX9, "right", "(II)I"⟩
abbrev cX9_relation : ByteArray := prog_1_method_30_code
def yX9_relation : MethodName := ⟨RX9, "relation", "(I)I"⟩
abbrev cX9_power : ByteArray := prog_1_method_31_code
def yX9_power : MethodName := ⟨RX9, "power", "(I)I"⟩
abbrev cX9_count : ByteArray := prog_1_method_32_code
def yX9_count : MethodName := ⟨RX9, "count", "(I)I"⟩
abbrev cX9_counted : ByteArray := prog_1_method_33_code
def yX9_counted : MethodName := ⟨RX9, "counted", "()J"⟩
abbrev cX9_sheet : ByteArray := prog_1_method_34_code
def yX9_sheet : MethodName := ⟨RX9, "sheet", "(III)I"⟩
abbrev cX9_cell : ByteArray := prog_1_method_35_code
def yX9_cell : MethodName := ⟨RX9, "cell", "(III)I"⟩
abbrev cX9_lay : ByteArray := prog_1_method_36_code
def yX9_lay : MethodName := ⟨RX9, "lay", "(IIIII)I"⟩
abbrev cX9_taken : ByteArray := prog_1_method_37_code
def yX9_taken : MethodName := ⟨RX9, "taken", "(II)I"⟩
abbrev cX9_isWithin : ByteArray := prog_1_method_38_code
def yX9_isWithin : MethodName := ⟨RX9, "isWithin", "(II)Z"⟩
abbrev cX9_isPoly : ByteArray := prog_1_method_39_code
def yX9_isPoly : MethodName := ⟨RX9, "isPoly", "(I)Z"⟩
abbrev cX9_arePolys : ByteArray := prog_1_method_40_code
def yX9_arePolys : MethodName := ⟨RX9, "arePolys", "(III)Z"⟩
abbrev cX9_isWay : ByteArray := prog_1_method_41_code
def yX9_isWay : MethodName := ⟨RX9, "isWay", "(I)Z"⟩
abbrev cX9_isPlace : ByteArray := prog_1_method_42_code
def yX9_isPlace : MethodName := ⟨RX9, "isPlace", "(I)Z"⟩
abbrev cX9_become : ByteArray := prog_1_method_43_code
def yX9_become : MethodName := ⟨RX9, "become", "(ILPolyBench$Row;)I"⟩
abbrev cX9_countFor : ByteArray := prog_1_method_44_code
def yX9_countFor : MethodName := ⟨RX9, "countFor", "(III)I"⟩
abbrev cX9_multiply : ByteArray := prog_1_method_45_code
def yX9_multiply : MethodName := ⟨RX9, "multiply", "(IIII)I"⟩
abbrev cX9_ruleFor : ByteArray := prog_1_method_46_code
def yX9_ruleFor : MethodName := ⟨RX9, "ruleFor", "(III)I"⟩
abbrev cX9_bestWay : ByteArray := prog_1_method_47_code
def yX9_bestWay : MethodName := ⟨RX9, "bestWay", "(II)I"⟩
def RX10 : String := "PolyBenchModel"
def TX10 : u_T := fun k => match k with
  | 0 => ("PolyBenchModel", "thrown", "I", false)
  | 1 => ("PolyBenchModel", "prime", "I", true)
  | 2 => ("PolyBenchModel", "c", "[I", true)
  | 3 => ("PolyBenchModel", "ways", "I", false)
  | 4 => ("PolyBenchModel", "kind", "[I", true)
  | 5 => ("PolyBenchModel", "cutOf", "[I", true)
  | 6 => ("PolyBenchModel", "counted", "J", false)
  | 7 => ("PolyBenchModel", "bySplit", "[J", true)
  | 8 => ("PolyBenchModel", "byThirds", "[J", true)
  | 9 => ("PolyBenchModel", "texts", "[I", true)
  | 10 => ("PolyBenchModel", "textSize", "[I", true)
  | 11 => ("PolyBenchModel", "textCount", "I", false)
  | 12 => ("PolyBenchModel", "rule", "I", false)
  | 13 => ("PolyBenchModel", "tape", "[I", true)
  | 14 => ("PolyBenchModel", "taped", "I", false)
  | 15 => ("PolyBenchModel", "from", "I", false)
  | 16 => ("PolyBenchModel", "size", "I", false)
  | 17 => ("PolyBenchModel", "token", "I", false)
  | 18 => ("PolyBenchModel", "tokenAt", "I", false)
  | 19 => ("PolyBenchModel", "tokenWorth", "I", false)
  | 20 => ("PolyBenchModel", "here", "I", false)
  | 21 => ("PolyBenchModel", "open", "I", false)
  | 22 => ("PolyBenchModel", "bad", "Z", false)
  | 23 => ("PolyBenchModel", "fault", "I", false)
  | 24 => ("PolyBenchModel", "valueN", "I", false)
  | 25 => ("PolyBenchModel", "valueM", "I", false)
  | 26 => ("PolyBenchModel", "valueCut", "I", false)
  | 27 => ("PolyBenchModel", "valueKind", "I", false)
  | 28 => ("PolyBenchModel", "valueSame", "I", false)
  | 29 => ("PolyBenchModel", "places", "I", false)
  | 30 => ("PolyBenchModel", "spot", "[I", true)
  | 31 => ("PolyBenchModel", "seen", "[I", true)
  | 32 => ("PolyBenchModel", "rows", "[I", true)
  | 33 => ("PolyBenchModel", "lead", "[I", true)
  | 34 => ("PolyBenchModel", "shortest", "I", false)
  | 35 => ("PolyBenchModel", "isThere", "[Z", true)
  | 36 => ("PolyBenchModel", "sorts", "[I", true)
  | 37 => ("PolyBenchModel", "sheetSize", "[I", true)
  | _ => ("PolyBenchModel", "items", "[I", true)
def tyX10 : Nat → FieldType := fun k => match k with
  | 0 => .int
  | 1 => .int
  | 2 => .array .int
  | 3 => .int
  | 4 => .array .int
  | 5 => .array .int
  | 6 => .long
  | 7 => .array .long
  | 8 => .array .long
  | 9 => .array .int
  | 10 => .array .int
  | 11 => .int
  | 12 => .int
  | 13 => .array .int
  | 14 => .int
  | 15 => .int
  | 16 => .int
  | 17 => .int
  | 18 => .int
  | 19 => .int
  | 20 => .int
  | 21 => .int
  | 22 => .boolean
  | 23 => .int
  | 24 => .int
  | 25 => .int
  | 26 => .int
  | 27 => .int
  | 28 => .int
  | 29 => .int
  | 30 => .array .int
  | 31 => .array .int
  | 32 => .array .int
  | 33 => .array .int
  | 34 => .int
  | 35 => .array .boolean
  | 36 => .array .int
  | 37 => .array .int
  | _ => .array .int
abbrev wsX100 : List Cond := u_ws RX10 TX10 39
theorem nmX10 : ∀ a, a < 39 → ∀ b, b < 39 → a ≠ b → (TX10 a).2.1 ≠ (TX10 b).2.1 := by decide +kernel
theorem tyX10_ok : ∀ k, k < 39 → parseFieldDescriptor (TX10 k).2.2.1 = some (tyX10 k) := by decide +kernel
abbrev cX10_in : ByteArray := prog_12_method_2_code
def yX10_in : MethodName := ⟨RX10, "in", "(III)Z"⟩
abbrev cX10_init : ByteArray := prog_12_method_3_code
def yX10_init : MethodName := ⟨RX10, "<init>", "(I)V"⟩
abbrev cX10_rest : ByteArray := prog_12_method_4_code
def yX10_rest : MethodName := ⟨RX10, "rest", "(I)I"⟩
abbrev cX10_raised : ByteArray := prog_12_method_5_code
def yX10_raised : MethodName := ⟨RX10, "raised", "(II)I"⟩
abbrev cX10_inverse : ByteArray := prog_12_method_6_code
def yX10_inverse : MethodName := ⟨RX10, "inverse", "(I)I"⟩
abbrev cX10_length : ByteArray := prog_12_method_7_code
def yX10_length : MethodName := ⟨RX10, "length", "(I)I"⟩
abbrev cX10_empty : ByteArray := prog_12_method_8_code
def yX10_empty : MethodName := ⟨RX10, "empty", "(I)V"⟩
abbrev cX10_copy : ByteArray := prog_12_method_9_code
def yX10_copy : MethodName := ⟨RX10, "copy", "(II)V"⟩
abbrev cX10_isPoly : ByteArray := prog_12_method_10_code
def yX10_isPoly : MethodName := ⟨RX10, "isPoly", "(I)Z"⟩
abbrev cX10_comes : ByteArray := prog_12_method_11_code
def yX10_comes : MethodName := ⟨RX10, "comes", "(II)I"⟩
abbrev cX10_put : ByteArray := prog_12_method_12_code
def yX10_put : MethodName := ⟨RX10, "put", "(III)I"⟩
abbrev cX10_at : ByteArray := prog_12_method_13_code
def yX10_at : MethodName := ⟨RX10, "at", "(II)I"⟩
abbrev cX10_clear : ByteArray := prog_12_method_14_code
def yX10_clear : MethodName := ⟨RX10, "clear", "(I)I"⟩
abbrev cX10_sum : ByteArray := prog_12_method_15_code
def yX10_sum : MethodName := ⟨RX10, "sum", "(IIII)I"⟩
abbrev cX10_multiply : ByteArray := prog_12_method_16_code
def yX10_multiply : MethodName := ⟨RX10, "multiply", "(III)V"⟩
abbrev cX10_isWay : ByteArray := prog_12_method_17_code
def yX10_isWay : MethodName := ⟨RX10, "isWay", "(I)Z"⟩
abbrev cX10_way : ByteArray := prog_12_method_18_code
def yX10_way : MethodName := ⟨RX10, "way", "(II)I"⟩
abbrev cX10_layOut : ByteArray := prog_12_method_19_code
def yX10_layOut : MethodName := ⟨RX10, "layOut", "(I)V"⟩
abbrev cX10_powerFor : ByteArray := prog_12_method_20_code
def yX10_powerFor : MethodName := ⟨RX10, "powerFor", "(I)I"⟩
abbrev cX10_same : ByteArray := prog_12_method_21_code
def yX10_same : MethodName := ⟨RX10, "same", "(II)Z"⟩
abbrev cX10_costOf : ByteArray := prog_12_method_22_code
def yX10_costOf : MethodName := ⟨RX10, "costOf", "(III)J"⟩
abbrev cX10_areBad : ByteArray := prog_12_method_23_code
def yX10_areBad : MethodName := ⟨RX10, "areBad", "(II)Z"⟩
abbrev cX10_isLong : ByteArray := prog_12_method_24_code
def yX10_isLong : MethodName := ⟨RX10, "isLong", "(II)Z"⟩
abbrev cX10_times : ByteArray := prog_12_method_25_code
def yX10_times : MethodName := ⟨RX10, "times", "(IIII)I"⟩
abbrev cX10_cost : ByteArray := prog_12_method_26_code
def yX10_cost : MethodName := ⟨RX10, "cost", "(III)I"⟩
abbrev cX10_planOf : ByteArray := prog_12_method_27_code
def yX10_planOf : MethodName := ⟨RX10, "planOf", "(II)I"⟩
abbrev cX10_plan : ByteArray := prog_12_method_28_code
def yX10_plan : MethodName := ⟨RX10, "plan", "(II)I"⟩
abbrev cX10_planned : ByteArray := prog_12_method_29_code
def yX10_planned : MethodName := ⟨RX10, "planned", "(III)I"⟩
abbrev cX10_counted : ByteArray := prog_12_method_30_code
def yX10_counted : MethodName := ⟨RX10, "counted", "()J"⟩
abbrev cX10_feed : ByteArray := prog_12_method_31_code
def yX10_feed : MethodName := ⟨RX10, "feed", "(IJ)I"⟩
abbrev cX10_byteAt : ByteArray := prog_12_method_32_code
def yX10_byteAt : MethodName := ⟨RX10, "byteAt", "(I)I"⟩
abbrev cX10_next : ByteArray := prog_12_method_33_code
def yX10_next : MethodName := ⟨RX10, "next", "()V"⟩
abbrev cX10_fail : ByteArray := prog_12_method_34_code
def yX10_fail : MethodName := ⟨RX10, "fail", "()V"⟩
abbrev cX10_isWord : ByteArray := prog_12_method_35_code
def yX10_isWord : MethodName := ⟨RX10, "isWord", "(I)Z"⟩
abbrev cX10_isSign : ByteArray := prog_12_method_36_code
def yX10_isSign : MethodName := ⟨RX10, "isSign", "(I)Z"⟩
abbrev cX10_opens : ByteArray := prog_12_method_37_code
def yX10_opens : MethodName := ⟨RX10, "opens", "()Z"⟩
abbrev cX10_name : ByteArray := prog_12_method_38_code
def yX10_name : MethodName := ⟨RX10, "name", "()I"⟩
abbrev cX10_one : ByteArray := prog_12_method_39_code
def yX10_one : MethodName := ⟨RX10, "one", "()I"⟩
abbrev cX10_term : ByteArray := prog_12_method_40_code
def yX10_term : MethodName := ⟨RX10, "term", "()I"⟩
abbrev cX10_added : ByteArray := prog_12_method_41_code
def yX10_added : MethodName := ⟨RX10, "added", "()I"⟩
abbrev cX10_not : ByteArray := prog_12_method_42_code
def yX10_not : MethodName := ⟨RX10, "not", "()I"⟩
abbrev cX10_both : ByteArray := prog_12_method_43_code
def yX10_both : MethodName := ⟨RX10, "both", "()I"⟩
abbrev cX10_either : ByteArray := prog_12_method_44_code
def yX10_either : MethodName := ⟨RX10, "either", "()I"⟩
abbrev cX10_part : ByteArray := prog_12_method_45_code
def yX10_part : MethodName := ⟨RX10, "part", "(I)I"⟩
abbrev cX10_read : ByteArray := prog_12_method_46_code
def yX10_read : MethodName := ⟨RX10, "read", "(II)I"⟩
abbrev cX10_saysOf : ByteArray := prog_12_method_47_code
def yX10_saysOf : MethodName := ⟨RX10, "saysOf", "(III)I"⟩
abbrev cX10_text : ByteArray := prog_12_method_48_code
def yX10_text : MethodName := ⟨RX10, "text", "()I"⟩
abbrev cX10_force : ByteArray := prog_12_method_49_code
def yX10_force : MethodName := ⟨RX10, "force", "(I)I"⟩
abbrev cX10_says : ByteArray := prog_12_method_50_code
def yX10_says : MethodName := ⟨RX10, "says", "(III)J"⟩
abbrev cX10_divideRows : ByteArray := prog_12_method_51_code
def yX10_divideRows : MethodName := ⟨RX10, "divideRows", "(III)V"⟩
abbrev cX10_divide : ByteArray := prog_12_method_52_code
def yX10_divide : MethodName := ⟨RX10, "divide", "(IIIZ)I"⟩
abbrev cX10_scale : ByteArray := prog_12_method_53_code
def yX10_scale : MethodName := ⟨RX10, "scale", "(II)V"⟩
abbrev cX10_common : ByteArray := prog_12_method_54_code
def yX10_common : MethodName := ⟨RX10, "common", "(II)V"⟩
abbrev cX10_gcd : ByteArray := prog_12_method_55_code
def yX10_gcd : MethodName := ⟨RX10, "gcd", "(III)I"⟩
abbrev cX10_cofactor : ByteArray := prog_12_method_56_code
def yX10_cofactor : MethodName := ⟨RX10, "cofactor", "(III)I"⟩
abbrev cX10_compose : ByteArray := prog_12_method_57_code
def yX10_compose : MethodName := ⟨RX10, "compose", "(III)I"⟩
abbrev cX10_moveRow : ByteArray := prog_12_method_58_code
def yX10_moveRow : MethodName := ⟨RX10, "moveRow", "(II)V"⟩
abbrev cX10_move : ByteArray := prog_12_method_59_code
def yX10_move : MethodName := ⟨RX10, "move", "(III)I"⟩
abbrev cX10_worth : ByteArray := prog_12_method_60_code
def yX10_worth : MethodName := ⟨RX10, "worth", "(II)I"⟩
abbrev cX10_root : ByteArray := prog_12_method_61_code
def yX10_root : MethodName := ⟨RX10, "root", "(II)I"⟩
abbrev cX10_order : ByteArray := prog_12_method_62_code
def yX10_order : MethodName := ⟨RX10, "order", "(II)I"⟩
abbrev cX10_isPlace : ByteArray := prog_12_method_63_code
def yX10_isPlace : MethodName := ⟨RX10, "isPlace", "(I)Z"⟩
abbrev cX10_place : ByteArray := prog_12_method_64_code
def yX10_place : MethodName := ⟨RX10, "place", "(I)I"⟩
abbrev cX10_leave : ByteArray := prog_12_method_65_code
def yX10_leave : MethodName := ⟨RX10, "leave", "()I"⟩
abbrev cX10_see : ByteArray := prog_12_method_66_code
def yX10_see : MethodName := ⟨RX10, "see", "(II)I"⟩
abbrev cX10_told : ByteArray := prog_12_method_67_code
def yX10_told : MethodName := ⟨RX10, "told", "(II)I"⟩
abbrev cX10_value : ByteArray := prog_12_method_68_code
def yX10_value : MethodName := ⟨RX10, "value", "(II)I"⟩
abbrev cX10_look : ByteArray := prog_12_method_69_code
def yX10_look : MethodName := ⟨RX10, "look", "(I)I"⟩
abbrev cX10_solve : ByteArray := prog_12_method_70_code
def yX10_solve : MethodName := ⟨RX10, "solve", "(III)Z"⟩
abbrev cX10_fill : ByteArray := prog_12_method_71_code
def yX10_fill : MethodName := ⟨RX10, "fill", "(I)I"⟩
abbrev cX10_areUnlike : ByteArray := prog_12_method_72_code
def yX10_areUnlike : MethodName := ⟨RX10, "areUnlike", "()Z"⟩
abbrev cX10_right : ByteArray := prog_12_method_73_code
def yX10_right : MethodName := ⟨RX10, "right", "(II)I"⟩
abbrev cX10_relate : ByteArray := prog_12_method_74_code
def yX10_relate : MethodName := ⟨RX10, "relate", "()V"⟩
abbrev cX10_relation : ByteArray := prog_12_method_75_code
def yX10_relation : MethodName := ⟨RX10, "relation", "(I)I"⟩
abbrev cX10_power : ByteArray := prog_12_method_76_code
def yX10_power : MethodName := ⟨RX10, "power", "(I)I"⟩
abbrev cX10_count : ByteArray := prog_12_method_77_code
def yX10_count : MethodName := ⟨RX10, "count", "(I)I"⟩
abbrev cX10_isSheet : ByteArray := prog_12_method_78_code
def yX10_isSheet : MethodName := ⟨RX10, "isSheet", "(I)Z"⟩
abbrev cX10_sheet : ByteArray := prog_12_method_79_code
def yX10_sheet : MethodName := ⟨RX10, "sheet", "(III)I"⟩
abbrev cX10_cell : ByteArray := prog_12_method_80_code
def yX10_cell : MethodName := ⟨RX10, "cell", "(III)I"⟩
abbrev cX10_lay : ByteArray := prog_12_method_81_code
def yX10_lay : MethodName := ⟨RX10, "lay", "(IIIII)I"⟩
abbrev cX10_over : ByteArray := prog_12_method_82_code
def yX10_over : MethodName := ⟨RX10, "over", "(I)I"⟩
abbrev cX10_taken : ByteArray := prog_12_method_83_code
def yX10_taken : MethodName := ⟨RX10, "taken", "(II)I"⟩
def RJ9 : String := "java/lang/Math"
def TJ9 : u_T := fun k => match k with
  | _ => ("", "", "", false)
def tyJ9 : Nat → FieldType := fun k => match k with
  | _ => .int
abbrev wsJ90 : List Cond := u_ws RJ9 TJ9 0
theorem nmJ9 : ∀ a, a < 0 → ∀ b, b < 0 → a ≠ b → (TJ9 a).2.1 ≠ (TJ9 b).2.1 := by decide +kernel
theorem tyJ9_ok : ∀ k, k < 0 → parseFieldDescriptor (TJ9 k).2.2.1 = some (tyJ9 k) := by decide +kernel
abbrev cJ9_floorMod_7cf53 : ByteArray := prog_13_method_50_code
def yJ9_floorMod_7cf53 : MethodName := ⟨RJ9, "floorMod", "(II)I"⟩
abbrev cJ9_max_7cf53 : ByteArray := prog_13_method_65_code
def yJ9_max_7cf53 : MethodName := ⟨RJ9, "max", "(II)I"⟩
abbrev cJ9_min_7cf53 : ByteArray := prog_13_method_69_code
def yJ9_min_7cf53 : MethodName := ⟨RJ9, "min", "(II)I"⟩
def RJ0 : String := "java/lang/String"
def TJ0 : u_T := fun k => match k with
  | _ => ("", "", "", false)
def tyJ0 : Nat → FieldType := fun k => match k with
  | _ => .int
abbrev wsJ00 : List Cond := u_ws RJ0 TJ0 0
theorem nmJ0 : ∀ a, a < 0 → ∀ b, b < 0 → a ≠ b → (TJ0 a).2.1 ≠ (TJ0 b).2.1 := by decide +kernel
theorem tyJ0_ok : ∀ k, k < 0 → parseFieldDescriptor (TJ0 k).2.2.1 = some (tyJ0 k) := by decide +kernel
abbrev cJ0_length_8abf5 : ByteArray := prog_14_method_54_code
def yJ0_length_8abf5 : MethodName := ⟨RJ0, "length", "()I"⟩
abbrev cJ0_charAt_5068e : ByteArray := prog_14_method_56_code
def yJ0_charAt_5068e : MethodName := ⟨RJ0, "charAt", "(I)C"⟩
abbrev cJ0_coder_7d493 : ByteArray := prog_14_method_152_code
def yJ0_coder_7d493 : MethodName := ⟨RJ0, "coder", "()B"⟩
abbrev cJ0_isLatin1_aae02 : ByteArray := prog_14_method_154_code
def yJ0_isLatin1_aae02 : MethodName := ⟨RJ0, "isLatin1", "()Z"⟩
abbrev cJ0_checkIndex_df160 : ByteArray := prog_14_method_155_code
def yJ0_checkIndex_df160 : MethodName := ⟨RJ0, "checkIndex", "(II)V"⟩
def RJ1 : String := "java/lang/StringLatin1"
def TJ1 : u_T := fun k => match k with
  | _ => ("", "", "", false)
def tyJ1 : Nat → FieldType := fun k => match k with
  | _ => .int
abbrev wsJ10 : List Cond := u_ws RJ1 TJ1 0
theorem nmJ1 : ∀ a, a < 0 → ∀ b, b < 0 → a ≠ b → (TJ1 a).2.1 ≠ (TJ1 b).2.1 := by decide +kernel
theorem tyJ1_ok : ∀ k, k < 0 → parseFieldDescriptor (TJ1 k).2.2.1 = some (tyJ1 k) := by decide +kernel
abbrev cJ1_charAt_3b067 : ByteArray := prog_15_method_2_code
def yJ1_charAt_3b067 : MethodName := ⟨RJ1, "charAt", "([BI)C"⟩
def RJ2 : String := "java/lang/StringUTF16"
def TJ2 : u_T := fun k => match k with
  | _ => ("", "", "", false)
def tyJ2 : Nat → FieldType := fun k => match k with
  | _ => .int
abbrev wsJ20 : List Cond := u_ws RJ2 TJ2 0
theorem nmJ2 : ∀ a, a < 0 → ∀ b, b < 0 → a ≠ b → (TJ2 a).2.1 ≠ (TJ2 b).2.1 := by decide +kernel
theorem tyJ2_ok : ∀ k, k < 0 → parseFieldDescriptor (TJ2 k).2.2.1 = some (tyJ2 k) := by decide +kernel
abbrev cJ2_getChar_3b067 : ByteArray := prog_16_method_5_code
def yJ2_getChar_3b067 : MethodName := ⟨RJ2, "getChar", "([BI)C"⟩
abbrev cJ2_length_9d52b : ByteArray := prog_16_method_6_code
def yJ2_length_9d52b : MethodName := ⟨RJ2, "length", "([B)I"⟩
abbrev cJ2_charAt_3b067 : ByteArray := prog_16_method_83_code
def yJ2_charAt_3b067 : MethodName := ⟨RJ2, "charAt", "([BI)C"⟩
abbrev cJ2_checkIndex_2214a : ByteArray := prog_16_method_91_code
def yJ2_checkIndex_2214a : MethodName := ⟨RJ2, "checkIndex", "(I[B)V"⟩
def RJ3 : String := "jdk/internal/util/Preconditions"
def TJ3 : u_T := fun k => match k with
  | _ => ("", "", "", false)
def tyJ3 : Nat → FieldType := fun k => match k with
  | _ => .int
abbrev wsJ30 : List Cond := u_ws RJ3 TJ3 0
theorem nmJ3 : ∀ a, a < 0 → ∀ b, b < 0 → a ≠ b → (TJ3 a).2.1 ≠ (TJ3 b).2.1 := by decide +kernel
theorem tyJ3_ok : ∀ k, k < 0 → parseFieldDescriptor (TJ3 k).2.2.1 = some (tyJ3 k) := by decide +kernel
abbrev cJ3_checkIndex_8e157 : ByteArray := prog_17_method_11_code
def yJ3_checkIndex_8e157 : MethodName := ⟨RJ3, "checkIndex", "(IILjava/util/function/BiFunction;)I"⟩
def RL : String := "PolyBenchLaw"
abbrev cL_cell : ByteArray := method_2_code
def yL_cell : MethodName := ⟨RL, "cell", "([II)I"⟩
abbrev cL_law : ByteArray := code
def yL_law : MethodName := ⟨RL, "law", "([I)Z"⟩
abbrev vwCl : List vw_C := [(RX0, TX0, 9), (RX1, TX1, 5), (RX2, TX2, 10), (RX3, TX3, 1), (RX4, TX4, 2), (RX5, TX5, 3), (RX6, TX6, 6), (RX7, TX7, 6), (RX8, TX8, 3), (RX9, TX9, 15), (RX10, TX10, 39)]
end
section
theorem dX0_init_0 : decode cX0_init 0 = .ok (.aload_n 0, 1) := by decide +kernel
theorem dX0_init_1 : decode cX0_init 1 = .ok (.invokespecial 3, 3) := by decide +kernel
theorem dX0_init_4 : decode cX0_init 4 = .ok (.aload_n 0, 1) := by decide +kernel
theorem dX0_init_5 : decode cX0_init 5 = .ok (.new 9, 3) := by decide +kernel
theorem dX0_init_8 : decode cX0_init 8 = .ok (.dup, 1) := by decide +kernel
theorem dX0_init_9 : decode cX0_init 9 = .ok (.bipush 64, 2) := by decide +kernel
theorem dX0_init_11 : decode cX0_init 11 = .ok (.invokespecial 11, 3) := by decide +kernel
theorem dX0_init_14 : decode cX0_init 14 = .ok (.putfield 14, 3) := by decide +kernel
theorem dX0_init_17 : decode cX0_init 17 = .ok (.aload_n 0, 1) := by decide +kernel
theorem dX0_init_18 : decode cX0_init 18 = .ok (.new 9, 3) := by decide +kernel
theorem dX0_init_21 : decode cX0_init 21 = .ok (.dup, 1) := by decide +kernel
theorem dX0_init_22 : decode cX0_init 22 = .ok (.bipush 64, 2) := by decide +kernel
theorem dX0_init_24 : decode cX0_init 24 = .ok (.invokespecial 11, 3) := by decide +kernel
theorem dX0_init_27 : decode cX0_init 27 = .ok (.putfield 20, 3) := by decide +kernel
theorem dX0_init_30 : decode cX0_init 30 = .ok (.aload_n 0, 1) := by decide +kernel
theorem dX0_init_31 : decode cX0_init 31 = .ok (.new 9, 3) := by decide +kernel
theorem dX0_init_34 : decode cX0_init 34 = .ok (.dup, 1) := by decide +kernel
theorem dX0_init_35 : decode cX0_init 35 = .ok (.bipush 64, 2) := by decide +kernel
theorem dX0_init_37 : decode cX0_init 37 = .ok (.invokespecial 11, 3) := by decide +kernel
theorem dX0_init_40 : decode cX0_init 40 = .ok (.putfield 23, 3) := by decide +kernel
theorem dX0_init_43 : decode cX0_init 43 = .ok (.aload_n 0, 1) := by decide +kernel
theorem dX0_init_44 : decode cX0_init 44 = .ok (.new 9, 3) := by decide +kernel
theorem dX0_init_47 : decode cX0_init 47 = .ok (.dup, 1) := by decide +kernel
theorem dX0_init_48 : decode cX0_init 48 = .ok (.iconst 2, 1) := by decide +kernel
theorem dX0_init_49 : decode cX0_init 49 = .ok (.invokespecial 11, 3) := by decide +kernel
theorem dX0_init_52 : decode cX0_init 52 = .ok (.putfield 26, 3) := by decide +kernel
theorem dX0_init_55 : decode cX0_init 55 = .ok (.aload_n 0, 1) := by decide +kernel
theorem dX0_init_56 : decode cX0_init 56 = .ok (.new 9, 3) := by decide +kernel
theorem dX0_init_59 : decode cX0_init 59 = .ok (.dup, 1) := by decide +kernel
theorem dX0_init_60 : decode cX0_init 60 = .ok (.bipush 64, 2) := by decide +kernel
theorem dX0_init_62 : decode cX0_init 62 = .ok (.invokespecial 11, 3) := by decide +kernel
theorem dX0_init_65 : decode cX0_init 65 = .ok (.putfield 29, 3) := by decide +kernel
theorem dX0_init_68 : decode cX0_init 68 = .ok (.aload_n 0, 1) := by decide +kernel
theorem dX0_init_69 : decode cX0_init 69 = .ok (.new 9, 3) := by decide +kernel
theorem dX0_init_72 : decode cX0_init 72 = .ok (.dup, 1) := by decide +kernel
theorem dX0_init_73 : decode cX0_init 73 = .ok (.bipush 64, 2) := by decide +kernel
theorem dX0_init_75 : decode cX0_init 75 = .ok (.invokespecial 11, 3) := by decide +kernel
theorem dX0_init_78 : decode cX0_init 78 = .ok (.putfield 32, 3) := by decide +kernel
theorem dX0_init_81 : decode cX0_init 81 = .ok (.aload_n 0, 1) := by decide +kernel
theorem dX0_init_82 : decode cX0_init 82 = .ok (.new 9, 3) := by decide +kernel
theorem dX0_init_85 : decode cX0_init 85 = .ok (.dup, 1) := by decide +kernel
theorem dX0_init_86 : decode cX0_init 86 = .ok (.bipush 64, 2) := by decide +kernel
theorem dX0_init_88 : decode cX0_init 88 = .ok (.invokespecial 11, 3) := by decide +kernel
theorem dX0_init_91 : decode cX0_init 91 = .ok (.putfield 35, 3) := by decide +kernel
theorem dX0_init_94 : decode cX0_init 94 = .ok (.aload_n 0, 1) := by decide +kernel
theorem dX0_init_95 : decode cX0_init 95 = .ok (.new 9, 3) := by decide +kernel
theorem dX0_init_98 : decode cX0_init 98 = .ok (.dup, 1) := by decide +kernel
theorem dX0_init_99 : decode cX0_init 99 = .ok (.bipush 64, 2) := by decide +kernel
theorem dX0_init_101 : decode cX0_init 101 = .ok (.invokespecial 11, 3) := by decide +kernel
theorem dX0_init_104 : decode cX0_init 104 = .ok (.putfield 38, 3) := by decide +kernel
theorem dX0_init_107 : decode cX0_init 107 = .ok (.aload_n 0, 1) := by decide +kernel
theorem dX0_init_108 : decode cX0_init 108 = .ok (.aload_n 1, 1) := by decide +kernel
theorem dX0_init_109 : decode cX0_init 109 = .ok (.putfield 41, 3) := by decide +kernel
theorem dX0_init_112 : decode cX0_init 112 = .ok (.return_, 1) := by decide +kernel
theorem dX0_evaluated_0 : decode cX0_evaluated 0 = .ok (.iconst 0, 1) := by decide +kernel
theorem dX0_evaluated_1 : decode cX0_evaluated 1 = .ok (.istore_n 3, 1) := by decide +kernel
theorem dX0_evaluated_2 : decode cX0_evaluated 2 = .ok (.aload_n 1, 1) := by decide +kernel
theorem dX0_evaluated_3 : decode cX0_evaluated 3 = .ok (.invokevirtual 45, 3) := by decide +kernel
theorem dX0_evaluated_6 : decode cX0_evaluated 6 = .ok (.iconst 1, 1) := by decide +kernel
theorem dX0_evaluated_7 : decode cX0_evaluated 7 = .ok (.isub, 1) := by decide +kernel
theorem dX0_evaluated_8 : decode cX0_evaluated 8 = .ok (.istore 4, 2) := by decide +kernel
theorem dX0_evaluated_10 : decode cX0_evaluated 10 = .ok (.iload 4, 2) := by decide +kernel
theorem dX0_evaluated_12 : decode cX0_evaluated 12 = .ok (.ifCond .lt 30, 3) := by decide +kernel
theorem dX0_evaluated_15 : decode cX0_evaluated 15 = .ok (.aload_n 0, 1) := by decide +kernel
theorem dX0_evaluated_16 : decode cX0_evaluated 16 = .ok (.getfield 41, 3) := by decide +kernel
theorem dX0_evaluated_19 : decode cX0_evaluated 19 = .ok (.iload_n 3, 1) := by decide +kernel
theorem dX0_evaluated_20 : decode cX0_evaluated 20 = .ok (.i2l, 1) := by decide +kernel
theorem dX0_evaluated_21 : decode cX0_evaluated 21 = .ok (.iload_n 2, 1) := by decide +kernel
theorem dX0_evaluated_22 : decode cX0_evaluated 22 = .ok (.i2l, 1) := by decide +kernel
theorem dX0_evaluated_23 : decode cX0_evaluated 23 = .ok (.lmul, 1) := by decide +kernel
theorem dX0_evaluated_24 : decode cX0_evaluated 24 = .ok (.aload_n 1, 1) := by decide +kernel
theorem dX0_evaluated_25 : decode cX0_evaluated 25 = .ok (.iload 4, 2) := by decide +kernel
theorem dX0_evaluated_27 : decode cX0_evaluated 27 = .ok (.invokevirtual 49, 3) := by decide +kernel
theorem dX0_evaluated_30 : decode cX0_evaluated 30 = .ok (.i2l, 1) := by decide +kernel
theorem dX0_evaluated_31 : decode cX0_evaluated 31 = .ok (.ladd, 1) := by decide +kernel
theorem dX0_evaluated_32 : decode cX0_evaluated 32 = .ok (.invokevirtual 53, 3) := by decide +kernel
theorem dX0_evaluated_35 : decode cX0_evaluated 35 = .ok (.istore_n 3, 1) := by decide +kernel
theorem dX0_evaluated_36 : decode cX0_evaluated 36 = .ok (.iinc 4 (-1), 3) := by decide +kernel
theorem dX0_evaluated_39 : decode cX0_evaluated 39 = .ok (.goto (-29), 3) := by decide +kernel
theorem dX0_evaluated_42 : decode cX0_evaluated 42 = .ok (.iload_n 3, 1) := by decide +kernel
theorem dX0_evaluated_43 : decode cX0_evaluated 43 = .ok (.ireturn, 1) := by decide +kernel
theorem dX0_addMultiple_0 : decode cX0_addMultiple 0 = .ok (.iconst 0, 1) := by decide +kernel
theorem dX0_addMultiple_1 : decode cX0_addMultiple 1 = .ok (.istore 5, 2) := by decide +kernel
theorem dX0_addMultiple_3 : decode cX0_addMultiple 3 = .ok (.iload 5, 2) := by decide +kernel
theorem dX0_addMultiple_5 : decode cX0_addMultiple 5 = .ok (.aload_n 3, 1) := by decide +kernel
theorem dX0_addMultiple_6 : decode cX0_addMultiple 6 = .ok (.invokevirtual 45, 3) := by decide +kernel
theorem dX0_addMultiple_9 : decode cX0_addMultiple 9 = .ok (.if_icmp .ge 46, 3) := by decide +kernel
theorem dX0_addMultiple_12 : decode cX0_addMultiple 12 = .ok (.aload_n 1, 1) := by decide +kernel
theorem dX0_addMultiple_13 : decode cX0_addMultiple 13 = .ok (.iload 5, 2) := by decide +kernel
theorem dX0_addMultiple_15 : decode cX0_addMultiple 15 = .ok (.iload 4, 2) := by decide +kernel
theorem dX0_addMultiple_17 : decode cX0_addMultiple 17 = .ok (.iadd, 1) := by decide +kernel
theorem dX0_addMultiple_18 : decode cX0_addMultiple 18 = .ok (.aload_n 0, 1) := by decide +kernel
theorem dX0_addMultiple_19 : decode cX0_addMultiple 19 = .ok (.getfield 41, 3) := by decide +kernel
theorem dX0_addMultiple_22 : decode cX0_addMultiple 22 = .ok (.aload_n 1, 1) := by decide +kernel
theorem dX0_addMultiple_23 : decode cX0_addMultiple 23 = .ok (.iload 5, 2) := by decide +kernel
theorem dX0_addMultiple_25 : decode cX0_addMultiple 25 = .ok (.iload 4, 2) := by decide +kernel
theorem dX0_addMultiple_27 : decode cX0_addMultiple 27 = .ok (.iadd, 1) := by decide +kernel
theorem dX0_addMultiple_28 : decode cX0_addMultiple 28 = .ok (.invokevirtual 49, 3) := by decide +kernel
theorem dX0_addMultiple_31 : decode cX0_addMultiple 31 = .ok (.i2l, 1) := by decide +kernel
theorem dX0_addMultiple_32 : decode cX0_addMultiple 32 = .ok (.iload_n 2, 1) := by decide +kernel
theorem dX0_addMultiple_33 : decode cX0_addMultiple 33 = .ok (.i2l, 1) := by decide +kernel
theorem dX0_addMultiple_34 : decode cX0_addMultiple 34 = .ok (.aload_n 3, 1) := by decide +kernel
theorem dX0_addMultiple_35 : decode cX0_addMultiple 35 = .ok (.iload 5, 2) := by decide +kernel
theorem dX0_addMultiple_37 : decode cX0_addMultiple 37 = .ok (.invokevirtual 49, 3) := by decide +kernel
theorem dX0_addMultiple_40 : decode cX0_addMultiple 40 = .ok (.i2l, 1) := by decide +kernel
theorem dX0_addMultiple_41 : decode cX0_addMultiple 41 = .ok (.lmul, 1) := by decide +kernel
theorem dX0_addMultiple_42 : decode cX0_addMultiple 42 = .ok (.ladd, 1) := by decide +kernel
theorem dX0_addMultiple_43 : decode cX0_addMultiple 43 = .ok (.invokevirtual 53, 3) := by decide +kernel
theorem dX0_addMultiple_46 : decode cX0_addMultiple 46 = .ok (.invokevirtual 59, 3) := by decide +kernel
theorem dX0_addMultiple_49 : decode cX0_addMultiple 49 = .ok (.iinc 5 1, 3) := by decide +kernel
theorem dX0_addMultiple_52 : decode cX0_addMultiple 52 = .ok (.goto (-49), 3) := by decide +kernel
theorem dX0_addMultiple_55 : decode cX0_addMultiple 55 = .ok (.return_, 1) := by decide +kernel
theorem dX0_multiplied_0 : decode cX0_multiplied 0 = .ok (.aload_n 0, 1) := by decide +kernel
theorem dX0_multiplied_1 : decode cX0_multiplied 1 = .ok (.getfield 14, 3) := by decide +kernel
theorem dX0_multiplied_4 : decode cX0_multiplied 4 = .ok (.invokevirtual 63, 3) := by decide +kernel
theorem dX0_multiplied_7 : decode cX0_multiplied 7 = .ok (.iconst 0, 1) := by decide +kernel
theorem dX0_multiplied_8 : decode cX0_multiplied 8 = .ok (.istore_n 3, 1) := by decide +kernel
theorem dX0_multiplied_9 : decode cX0_multiplied 9 = .ok (.iload_n 3, 1) := by decide +kernel
theorem dX0_multiplied_10 : decode cX0_multiplied 10 = .ok (.aload_n 1, 1) := by decide +kernel
theorem dX0_multiplied_11 : decode cX0_multiplied 11 = .ok (.invokevirtual 45, 3) := by decide +kernel
theorem dX0_multiplied_14 : decode cX0_multiplied 14 = .ok (.aload_n 2, 1) := by decide +kernel
theorem dX0_multiplied_15 : decode cX0_multiplied 15 = .ok (.invokevirtual 45, 3) := by decide +kernel
theorem dX0_multiplied_18 : decode cX0_multiplied 18 = .ok (.iadd, 1) := by decide +kernel
theorem dX0_multiplied_19 : decode cX0_multiplied 19 = .ok (.iconst 1, 1) := by decide +kernel
theorem dX0_multiplied_20 : decode cX0_multiplied 20 = .ok (.isub, 1) := by decide +kernel
theorem dX0_multiplied_21 : decode cX0_multiplied 21 = .ok (.if_icmp .ge 30, 3) := by decide +kernel
theorem dX0_multiplied_24 : decode cX0_multiplied 24 = .ok (.aload_n 0, 1) := by decide +kernel
theorem dX0_multiplied_25 : decode cX0_multiplied 25 = .ok (.getfield 14, 3) := by decide +kernel
theorem dX0_multiplied_28 : decode cX0_multiplied 28 = .ok (.iload_n 3, 1) := by decide +kernel
theorem dX0_multiplied_29 : decode cX0_multiplied 29 = .ok (.aload_n 0, 1) := by decide +kernel
theorem dX0_multiplied_30 : decode cX0_multiplied 30 = .ok (.getfield 41, 3) := by decide +kernel
theorem dX0_multiplied_33 : decode cX0_multiplied 33 = .ok (.aload_n 1, 1) := by decide +kernel
theorem dX0_multiplied_34 : decode cX0_multiplied 34 = .ok (.aload_n 2, 1) := by decide +kernel
theorem dX0_multiplied_35 : decode cX0_multiplied 35 = .ok (.iload_n 3, 1) := by decide +kernel
theorem dX0_multiplied_36 : decode cX0_multiplied 36 = .ok (.invokestatic 66, 3) := by decide +kernel
theorem dX0_multiplied_39 : decode cX0_multiplied 39 = .ok (.invokevirtual 53, 3) := by decide +kernel
theorem dX0_multiplied_42 : decode cX0_multiplied 42 = .ok (.invokevirtual 59, 3) := by decide +kernel
theorem dX0_multiplied_45 : decode cX0_multiplied 45 = .ok (.iinc 3 1, 3) := by decide +kernel
theorem dX0_multiplied_48 : decode cX0_multiplied 48 = .ok (.goto (-39), 3) := by decide +kernel
theorem dX0_multiplied_51 : decode cX0_multiplied 51 = .ok (.aload_n 0, 1) := by decide +kernel
theorem dX0_multiplied_52 : decode cX0_multiplied 52 = .ok (.getfield 14, 3) := by decide +kernel
theorem dX0_multiplied_55 : decode cX0_multiplied 55 = .ok (.areturn, 1) := by decide +kernel
theorem dX0_pairs_0 : decode cX0_pairs 0 = .ok (.lconst 0, 1) := by decide +kernel
theorem dX0_pairs_1 : decode cX0_pairs 1 = .ok (.lstore_n 3, 1) := by decide +kernel
theorem dX0_pairs_2 : decode cX0_pairs 2 = .ok (.iload_n 2, 1) := by decide +kernel
theorem dX0_pairs_3 : decode cX0_pairs 3 = .ok (.aload_n 0, 1) := by decide +kernel
theorem dX0_pairs_4 : decode cX0_pairs 4 = .ok (.invokevirtual 45, 3) := by decide +kernel
theorem dX0_pairs_7 : decode cX0_pairs 7 = .ok (.iconst 1, 1) := by decide +kernel
theorem dX0_pairs_8 : decode cX0_pairs 8 = .ok (.isub, 1) := by decide +kernel
theorem dX0_pairs_9 : decode cX0_pairs 9 = .ok (.invokestatic 70, 3) := by decide +kernel
theorem dX0_pairs_12 : decode cX0_pairs 12 = .ok (.istore 5, 2) := by decide +kernel
theorem dX0_pairs_14 : decode cX0_pairs 14 = .ok (.iconst 0, 1) := by decide +kernel
theorem dX0_pairs_15 : decode cX0_pairs 15 = .ok (.iload_n 2, 1) := by decide +kernel
theorem dX0_pairs_16 : decode cX0_pairs 16 = .ok (.aload_n 1, 1) := by decide +kernel
theorem dX0_pairs_17 : decode cX0_pairs 17 = .ok (.invokevirtual 45, 3) := by decide +kernel
theorem dX0_pairs_20 : decode cX0_pairs 20 = .ok (.isub, 1) := by decide +kernel
theorem dX0_pairs_21 : decode cX0_pairs 21 = .ok (.iconst 1, 1) := by decide +kernel
theorem dX0_pairs_22 : decode cX0_pairs 22 = .ok (.iadd, 1) := by decide +kernel
theorem dX0_pairs_23 : decode cX0_pairs 23 = .ok (.invokestatic 76, 3) := by decide +kernel
theorem dX0_pairs_26 : decode cX0_pairs 26 = .ok (.istore 6, 2) := by decide +kernel
theorem dX0_pairs_28 : decode cX0_pairs 28 = .ok (.iload 6, 2) := by decide +kernel
theorem dX0_pairs_30 : decode cX0_pairs 30 = .ok (.iload 5, 2) := by decide +kernel
theorem dX0_pairs_32 : decode cX0_pairs 32 = .ok (.if_icmp .gt 29, 3) := by decide +kernel
theorem dX0_pairs_35 : decode cX0_pairs 35 = .ok (.lload_n 3, 1) := by decide +kernel
theorem dX0_pairs_36 : decode cX0_pairs 36 = .ok (.aload_n 0, 1) := by decide +kernel
theorem dX0_pairs_37 : decode cX0_pairs 37 = .ok (.iload 6, 2) := by decide +kernel
theorem dX0_pairs_39 : decode cX0_pairs 39 = .ok (.invokevirtual 49, 3) := by decide +kernel
theorem dX0_pairs_42 : decode cX0_pairs 42 = .ok (.i2l, 1) := by decide +kernel
theorem dX0_pairs_43 : decode cX0_pairs 43 = .ok (.aload_n 1, 1) := by decide +kernel
theorem dX0_pairs_44 : decode cX0_pairs 44 = .ok (.iload_n 2, 1) := by decide +kernel
theorem dX0_pairs_45 : decode cX0_pairs 45 = .ok (.iload 6, 2) := by decide +kernel
theorem dX0_pairs_47 : decode cX0_pairs 47 = .ok (.isub, 1) := by decide +kernel
theorem dX0_pairs_48 : decode cX0_pairs 48 = .ok (.invokevirtual 49, 3) := by decide +kernel
theorem dX0_pairs_51 : decode cX0_pairs 51 = .ok (.i2l, 1) := by decide +kernel
theorem dX0_pairs_52 : decode cX0_pairs 52 = .ok (.lmul, 1) := by decide +kernel
theorem dX0_pairs_53 : decode cX0_pairs 53 = .ok (.ladd, 1) := by decide +kernel
theorem dX0_pairs_54 : decode cX0_pairs 54 = .ok (.lstore_n 3, 1) := by decide +kernel
theorem dX0_pairs_55 : decode cX0_pairs 55 = .ok (.iinc 6 1, 3) := by decide +kernel
theorem dX0_pairs_58 : decode cX0_pairs 58 = .ok (.goto (-30), 3) := by decide +kernel
theorem dX0_pairs_61 : decode cX0_pairs 61 = .ok (.lload_n 3, 1) := by decide +kernel
theorem dX0_pairs_62 : decode cX0_pairs 62 = .ok (.lreturn, 1) := by decide +kernel
theorem dX0_reduce_0 : decode cX0_reduce 0 = .ok (.aload_n 0, 1) := by decide +kernel
theorem dX0_reduce_1 : decode cX0_reduce 1 = .ok (.getfield 20, 3) := by decide +kernel
theorem dX0_reduce_4 : decode cX0_reduce 4 = .ok (.invokevirtual 63, 3) := by decide +kernel
theorem dX0_reduce_7 : decode cX0_reduce 7 = .ok (.aload_n 2, 1) := by decide +kernel
theorem dX0_reduce_8 : decode cX0_reduce 8 = .ok (.invokevirtual 45, 3) := by decide +kernel
theorem dX0_reduce_11 : decode cX0_reduce 11 = .ok (.istore_n 3, 1) := by decide +kernel
theorem dX0_reduce_12 : decode cX0_reduce 12 = .ok (.iload_n 3, 1) := by decide +kernel
theorem dX0_reduce_13 : decode cX0_reduce 13 = .ok (.ifCond .ne 8, 3) := by decide +kernel
theorem dX0_reduce_16 : decode cX0_reduce 16 = .ok (.aload_n 0, 1) := by decide +kernel
theorem dX0_reduce_17 : decode cX0_reduce 17 = .ok (.getfield 20, 3) := by decide +kernel
theorem dX0_reduce_20 : decode cX0_reduce 20 = .ok (.areturn, 1) := by decide +kernel
theorem dX0_reduce_21 : decode cX0_reduce 21 = .ok (.aload_n 0, 1) := by decide +kernel
theorem dX0_reduce_22 : decode cX0_reduce 22 = .ok (.getfield 41, 3) := by decide +kernel
theorem dX0_reduce_25 : decode cX0_reduce 25 = .ok (.aload_n 2, 1) := by decide +kernel
theorem dX0_reduce_26 : decode cX0_reduce 26 = .ok (.invokevirtual 79, 3) := by decide +kernel
theorem dX0_reduce_29 : decode cX0_reduce 29 = .ok (.invokevirtual 82, 3) := by decide +kernel
theorem dX0_reduce_32 : decode cX0_reduce 32 = .ok (.istore 4, 2) := by decide +kernel
theorem dX0_reduce_34 : decode cX0_reduce 34 = .ok (.aload_n 1, 1) := by decide +kernel
theorem dX0_reduce_35 : decode cX0_reduce 35 = .ok (.invokevirtual 45, 3) := by decide +kernel
theorem dX0_reduce_38 : decode cX0_reduce 38 = .ok (.iload_n 3, 1) := by decide +kernel
theorem dX0_reduce_39 : decode cX0_reduce 39 = .ok (.isub, 1) := by decide +kernel
theorem dX0_reduce_40 : decode cX0_reduce 40 = .ok (.istore 5, 2) := by decide +kernel
theorem dX0_reduce_42 : decode cX0_reduce 42 = .ok (.iload 5, 2) := by decide +kernel
theorem dX0_reduce_44 : decode cX0_reduce 44 = .ok (.ifCond .lt 52, 3) := by decide +kernel
theorem dX0_reduce_47 : decode cX0_reduce 47 = .ok (.aload_n 0, 1) := by decide +kernel
theorem dX0_reduce_48 : decode cX0_reduce 48 = .ok (.getfield 41, 3) := by decide +kernel
theorem dX0_reduce_51 : decode cX0_reduce 51 = .ok (.aload_n 1, 1) := by decide +kernel
theorem dX0_reduce_52 : decode cX0_reduce 52 = .ok (.iload 5, 2) := by decide +kernel
theorem dX0_reduce_54 : decode cX0_reduce 54 = .ok (.iload_n 3, 1) := by decide +kernel
theorem dX0_reduce_55 : decode cX0_reduce 55 = .ok (.iadd, 1) := by decide +kernel
theorem dX0_reduce_56 : decode cX0_reduce 56 = .ok (.iconst 1, 1) := by decide +kernel
theorem dX0_reduce_57 : decode cX0_reduce 57 = .ok (.isub, 1) := by decide +kernel
theorem dX0_reduce_58 : decode cX0_reduce 58 = .ok (.invokevirtual 49, 3) := by decide +kernel
theorem dX0_reduce_61 : decode cX0_reduce 61 = .ok (.iload 4, 2) := by decide +kernel
theorem dX0_reduce_63 : decode cX0_reduce 63 = .ok (.invokevirtual 85, 3) := by decide +kernel
theorem dX0_reduce_66 : decode cX0_reduce 66 = .ok (.istore 6, 2) := by decide +kernel
theorem dX0_reduce_68 : decode cX0_reduce 68 = .ok (.aload_n 0, 1) := by decide +kernel
theorem dX0_reduce_69 : decode cX0_reduce 69 = .ok (.getfield 20, 3) := by decide +kernel
theorem dX0_reduce_72 : decode cX0_reduce 72 = .ok (.iload 5, 2) := by decide +kernel
theorem dX0_reduce_74 : decode cX0_reduce 74 = .ok (.iload 6, 2) := by decide +kernel
theorem dX0_reduce_76 : decode cX0_reduce 76 = .ok (.invokevirtual 59, 3) := by decide +kernel
theorem dX0_reduce_79 : decode cX0_reduce 79 = .ok (.aload_n 0, 1) := by decide +kernel
theorem dX0_reduce_80 : decode cX0_reduce 80 = .ok (.aload_n 1, 1) := by decide +kernel
theorem dX0_reduce_81 : decode cX0_reduce 81 = .ok (.iload 6, 2) := by decide +kernel
theorem dX0_reduce_83 : decode cX0_reduce 83 = .ok (.ineg, 1) := by decide +kernel
theorem dX0_reduce_84 : decode cX0_reduce 84 = .ok (.aload_n 2, 1) := by decide +kernel
theorem dX0_reduce_85 : decode cX0_reduce 85 = .ok (.iload 5, 2) := by decide +kernel
theorem dX0_reduce_87 : decode cX0_reduce 87 = .ok (.invokevirtual 87, 3) := by decide +kernel
theorem dX0_reduce_90 : decode cX0_reduce 90 = .ok (.iinc 5 (-1), 3) := by decide +kernel
theorem dX0_reduce_93 : decode cX0_reduce 93 = .ok (.goto (-51), 3) := by decide +kernel
theorem dX0_reduce_96 : decode cX0_reduce 96 = .ok (.aload_n 0, 1) := by decide +kernel
theorem dX0_reduce_97 : decode cX0_reduce 97 = .ok (.getfield 20, 3) := by decide +kernel
theorem dX0_reduce_100 : decode cX0_reduce 100 = .ok (.areturn, 1) := by decide +kernel
theorem dX0_euclid_0 : decode cX0_euclid 0 = .ok (.aload_n 0, 1) := by decide +kernel
theorem dX0_euclid_1 : decode cX0_euclid 1 = .ok (.getfield 29, 3) := by decide +kernel
theorem dX0_euclid_4 : decode cX0_euclid 4 = .ok (.aload_n 1, 1) := by decide +kernel
theorem dX0_euclid_5 : decode cX0_euclid 5 = .ok (.invokevirtual 91, 3) := by decide +kernel
theorem dX0_euclid_8 : decode cX0_euclid 8 = .ok (.aload_n 0, 1) := by decide +kernel
theorem dX0_euclid_9 : decode cX0_euclid 9 = .ok (.getfield 32, 3) := by decide +kernel
theorem dX0_euclid_12 : decode cX0_euclid 12 = .ok (.aload_n 2, 1) := by decide +kernel
theorem dX0_euclid_13 : decode cX0_euclid 13 = .ok (.invokevirtual 91, 3) := by decide +kernel
theorem dX0_euclid_16 : decode cX0_euclid 16 = .ok (.aload_n 0, 1) := by decide +kernel
theorem dX0_euclid_17 : decode cX0_euclid 17 = .ok (.getfield 35, 3) := by decide +kernel
theorem dX0_euclid_20 : decode cX0_euclid 20 = .ok (.invokevirtual 63, 3) := by decide +kernel
theorem dX0_euclid_23 : decode cX0_euclid 23 = .ok (.aload_n 0, 1) := by decide +kernel
theorem dX0_euclid_24 : decode cX0_euclid 24 = .ok (.getfield 38, 3) := by decide +kernel
theorem dX0_euclid_27 : decode cX0_euclid 27 = .ok (.invokevirtual 63, 3) := by decide +kernel
theorem dX0_euclid_30 : decode cX0_euclid 30 = .ok (.aload_n 0, 1) := by decide +kernel
theorem dX0_euclid_31 : decode cX0_euclid 31 = .ok (.getfield 38, 3) := by decide +kernel
theorem dX0_euclid_34 : decode cX0_euclid 34 = .ok (.iconst 0, 1) := by decide +kernel
theorem dX0_euclid_35 : decode cX0_euclid 35 = .ok (.iconst 1, 1) := by decide +kernel
theorem dX0_euclid_36 : decode cX0_euclid 36 = .ok (.invokevirtual 59, 3) := by decide +kernel
theorem dX0_euclid_39 : decode cX0_euclid 39 = .ok (.iconst 0, 1) := by decide +kernel
theorem dX0_euclid_40 : decode cX0_euclid 40 = .ok (.istore 4, 2) := by decide +kernel
theorem dX0_euclid_42 : decode cX0_euclid 42 = .ok (.iload 4, 2) := by decide +kernel
theorem dX0_euclid_44 : decode cX0_euclid 44 = .ok (.bipush 64, 2) := by decide +kernel
theorem dX0_euclid_46 : decode cX0_euclid 46 = .ok (.if_icmp .ge 94, 3) := by decide +kernel
theorem dX0_euclid_49 : decode cX0_euclid 49 = .ok (.aload_n 0, 1) := by decide +kernel
theorem dX0_euclid_50 : decode cX0_euclid 50 = .ok (.getfield 32, 3) := by decide +kernel
theorem dX0_euclid_53 : decode cX0_euclid 53 = .ok (.invokevirtual 45, 3) := by decide +kernel
theorem dX0_euclid_56 : decode cX0_euclid 56 = .ok (.iload_n 3, 1) := by decide +kernel
theorem dX0_euclid_57 : decode cX0_euclid 57 = .ok (.if_icmp .le 83, 3) := by decide +kernel
theorem dX0_euclid_60 : decode cX0_euclid 60 = .ok (.aload_n 0, 1) := by decide +kernel
theorem dX0_euclid_61 : decode cX0_euclid 61 = .ok (.aload_n 0, 1) := by decide +kernel
theorem dX0_euclid_62 : decode cX0_euclid 62 = .ok (.getfield 29, 3) := by decide +kernel
theorem dX0_euclid_65 : decode cX0_euclid 65 = .ok (.aload_n 0, 1) := by decide +kernel
theorem dX0_euclid_66 : decode cX0_euclid 66 = .ok (.getfield 32, 3) := by decide +kernel
theorem dX0_euclid_69 : decode cX0_euclid 69 = .ok (.invokevirtual 95, 3) := by decide +kernel
theorem dX0_euclid_72 : decode cX0_euclid 72 = .ok (.astore 5, 2) := by decide +kernel
theorem dX0_euclid_74 : decode cX0_euclid 74 = .ok (.aload_n 0, 1) := by decide +kernel
theorem dX0_euclid_75 : decode cX0_euclid 75 = .ok (.aload_n 0, 1) := by decide +kernel
theorem dX0_euclid_76 : decode cX0_euclid 76 = .ok (.getfield 35, 3) := by decide +kernel
theorem dX0_euclid_79 : decode cX0_euclid 79 = .ok (.iconst (-1), 1) := by decide +kernel
theorem dX0_euclid_80 : decode cX0_euclid 80 = .ok (.aload_n 0, 1) := by decide +kernel
theorem dX0_euclid_81 : decode cX0_euclid 81 = .ok (.aload 5, 2) := by decide +kernel
theorem dX0_euclid_83 : decode cX0_euclid 83 = .ok (.aload_n 0, 1) := by decide +kernel
theorem dX0_euclid_84 : decode cX0_euclid 84 = .ok (.getfield 38, 3) := by decide +kernel
theorem dX0_euclid_87 : decode cX0_euclid 87 = .ok (.invokevirtual 99, 3) := by decide +kernel
theorem dX0_euclid_90 : decode cX0_euclid 90 = .ok (.iconst 0, 1) := by decide +kernel
theorem dX0_euclid_91 : decode cX0_euclid 91 = .ok (.invokevirtual 87, 3) := by decide +kernel
theorem dX0_euclid_94 : decode cX0_euclid 94 = .ok (.aload_n 0, 1) := by decide +kernel
theorem dX0_euclid_95 : decode cX0_euclid 95 = .ok (.getfield 29, 3) := by decide +kernel
theorem dX0_euclid_98 : decode cX0_euclid 98 = .ok (.astore 6, 2) := by decide +kernel
theorem dX0_euclid_100 : decode cX0_euclid 100 = .ok (.aload_n 0, 1) := by decide +kernel
theorem dX0_euclid_101 : decode cX0_euclid 101 = .ok (.aload_n 0, 1) := by decide +kernel
theorem dX0_euclid_102 : decode cX0_euclid 102 = .ok (.getfield 32, 3) := by decide +kernel
theorem dX0_euclid_105 : decode cX0_euclid 105 = .ok (.putfield 29, 3) := by decide +kernel
theorem dX0_euclid_108 : decode cX0_euclid 108 = .ok (.aload_n 0, 1) := by decide +kernel
theorem dX0_euclid_109 : decode cX0_euclid 109 = .ok (.aload 6, 2) := by decide +kernel
theorem dX0_euclid_111 : decode cX0_euclid 111 = .ok (.putfield 32, 3) := by decide +kernel
theorem dX0_euclid_114 : decode cX0_euclid 114 = .ok (.aload_n 0, 1) := by decide +kernel
theorem dX0_euclid_115 : decode cX0_euclid 115 = .ok (.getfield 35, 3) := by decide +kernel
theorem dX0_euclid_118 : decode cX0_euclid 118 = .ok (.astore 6, 2) := by decide +kernel
theorem dX0_euclid_120 : decode cX0_euclid 120 = .ok (.aload_n 0, 1) := by decide +kernel
theorem dX0_euclid_121 : decode cX0_euclid 121 = .ok (.aload_n 0, 1) := by decide +kernel
theorem dX0_euclid_122 : decode cX0_euclid 122 = .ok (.getfield 38, 3) := by decide +kernel
theorem dX0_euclid_125 : decode cX0_euclid 125 = .ok (.putfield 35, 3) := by decide +kernel
theorem dX0_euclid_128 : decode cX0_euclid 128 = .ok (.aload_n 0, 1) := by decide +kernel
theorem dX0_euclid_129 : decode cX0_euclid 129 = .ok (.aload 6, 2) := by decide +kernel
theorem dX0_euclid_131 : decode cX0_euclid 131 = .ok (.putfield 38, 3) := by decide +kernel
theorem dX0_euclid_134 : decode cX0_euclid 134 = .ok (.iinc 4 1, 3) := by decide +kernel
theorem dX0_euclid_137 : decode cX0_euclid 137 = .ok (.goto (-95), 3) := by decide +kernel
theorem dX0_euclid_140 : decode cX0_euclid 140 = .ok (.return_, 1) := by decide +kernel
theorem dX0_commonDivisor_0 : decode cX0_commonDivisor 0 = .ok (.aload_n 0, 1) := by decide +kernel
theorem dX0_commonDivisor_1 : decode cX0_commonDivisor 1 = .ok (.aload_n 2, 1) := by decide +kernel
theorem dX0_commonDivisor_2 : decode cX0_commonDivisor 2 = .ok (.aload_n 1, 1) := by decide +kernel
theorem dX0_commonDivisor_3 : decode cX0_commonDivisor 3 = .ok (.iconst 0, 1) := by decide +kernel
theorem dX0_commonDivisor_4 : decode cX0_commonDivisor 4 = .ok (.invokevirtual 102, 3) := by decide +kernel
theorem dX0_commonDivisor_7 : decode cX0_commonDivisor 7 = .ok (.aload_n 0, 1) := by decide +kernel
theorem dX0_commonDivisor_8 : decode cX0_commonDivisor 8 = .ok (.getfield 23, 3) := by decide +kernel
theorem dX0_commonDivisor_11 : decode cX0_commonDivisor 11 = .ok (.invokevirtual 63, 3) := by decide +kernel
theorem dX0_commonDivisor_14 : decode cX0_commonDivisor 14 = .ok (.aload_n 0, 1) := by decide +kernel
theorem dX0_commonDivisor_15 : decode cX0_commonDivisor 15 = .ok (.aload_n 0, 1) := by decide +kernel
theorem dX0_commonDivisor_16 : decode cX0_commonDivisor 16 = .ok (.getfield 23, 3) := by decide +kernel
theorem dX0_commonDivisor_19 : decode cX0_commonDivisor 19 = .ok (.aload_n 0, 1) := by decide +kernel
theorem dX0_commonDivisor_20 : decode cX0_commonDivisor 20 = .ok (.getfield 41, 3) := by decide +kernel
theorem dX0_commonDivisor_23 : decode cX0_commonDivisor 23 = .ok (.aload_n 0, 1) := by decide +kernel
theorem dX0_commonDivisor_24 : decode cX0_commonDivisor 24 = .ok (.getfield 29, 3) := by decide +kernel
theorem dX0_commonDivisor_27 : decode cX0_commonDivisor 27 = .ok (.invokevirtual 79, 3) := by decide +kernel
theorem dX0_commonDivisor_30 : decode cX0_commonDivisor 30 = .ok (.invokevirtual 82, 3) := by decide +kernel
theorem dX0_commonDivisor_33 : decode cX0_commonDivisor 33 = .ok (.aload_n 0, 1) := by decide +kernel
theorem dX0_commonDivisor_34 : decode cX0_commonDivisor 34 = .ok (.getfield 29, 3) := by decide +kernel
theorem dX0_commonDivisor_37 : decode cX0_commonDivisor 37 = .ok (.iconst 0, 1) := by decide +kernel
theorem dX0_commonDivisor_38 : decode cX0_commonDivisor 38 = .ok (.invokevirtual 87, 3) := by decide +kernel
theorem dX0_commonDivisor_41 : decode cX0_commonDivisor 41 = .ok (.aload_n 0, 1) := by decide +kernel
theorem dX0_commonDivisor_42 : decode cX0_commonDivisor 42 = .ok (.getfield 23, 3) := by decide +kernel
theorem dX0_commonDivisor_45 : decode cX0_commonDivisor 45 = .ok (.areturn, 1) := by decide +kernel
theorem dX0_leastCofactor_0 : decode cX0_leastCofactor 0 = .ok (.aload_n 0, 1) := by decide +kernel
theorem dX0_leastCofactor_1 : decode cX0_leastCofactor 1 = .ok (.aload_n 2, 1) := by decide +kernel
theorem dX0_leastCofactor_2 : decode cX0_leastCofactor 2 = .ok (.aload_n 1, 1) := by decide +kernel
theorem dX0_leastCofactor_3 : decode cX0_leastCofactor 3 = .ok (.iconst 0, 1) := by decide +kernel
theorem dX0_leastCofactor_4 : decode cX0_leastCofactor 4 = .ok (.invokevirtual 102, 3) := by decide +kernel
theorem dX0_leastCofactor_7 : decode cX0_leastCofactor 7 = .ok (.aload_n 0, 1) := by decide +kernel
theorem dX0_leastCofactor_8 : decode cX0_leastCofactor 8 = .ok (.getfield 23, 3) := by decide +kernel
theorem dX0_leastCofactor_11 : decode cX0_leastCofactor 11 = .ok (.invokevirtual 63, 3) := by decide +kernel
theorem dX0_leastCofactor_14 : decode cX0_leastCofactor 14 = .ok (.aload_n 0, 1) := by decide +kernel
theorem dX0_leastCofactor_15 : decode cX0_leastCofactor 15 = .ok (.aload_n 0, 1) := by decide +kernel
theorem dX0_leastCofactor_16 : decode cX0_leastCofactor 16 = .ok (.getfield 23, 3) := by decide +kernel
theorem dX0_leastCofactor_19 : decode cX0_leastCofactor 19 = .ok (.aload_n 0, 1) := by decide +kernel
theorem dX0_leastCofactor_20 : decode cX0_leastCofactor 20 = .ok (.getfield 41, 3) := by decide +kernel
theorem dX0_leastCofactor_23 : decode cX0_leastCofactor 23 = .ok (.aload_n 0, 1) := by decide +kernel
theorem dX0_leastCofactor_24 : decode cX0_leastCofactor 24 = .ok (.getfield 29, 3) := by decide +kernel
theorem dX0_leastCofactor_27 : decode cX0_leastCofactor 27 = .ok (.invokevirtual 79, 3) := by decide +kernel
theorem dX0_leastCofactor_30 : decode cX0_leastCofactor 30 = .ok (.invokevirtual 82, 3) := by decide +kernel
theorem dX0_leastCofactor_33 : decode cX0_leastCofactor 33 = .ok (.aload_n 0, 1) := by decide +kernel
theorem dX0_leastCofactor_34 : decode cX0_leastCofactor 34 = .ok (.getfield 35, 3) := by decide +kernel
theorem dX0_leastCofactor_37 : decode cX0_leastCofactor 37 = .ok (.iconst 0, 1) := by decide +kernel
theorem dX0_leastCofactor_38 : decode cX0_leastCofactor 38 = .ok (.invokevirtual 87, 3) := by decide +kernel
theorem dX0_leastCofactor_41 : decode cX0_leastCofactor 41 = .ok (.aload_n 2, 1) := by decide +kernel
theorem dX0_leastCofactor_42 : decode cX0_leastCofactor 42 = .ok (.invokevirtual 45, 3) := by decide +kernel
theorem dX0_leastCofactor_45 : decode cX0_leastCofactor 45 = .ok (.ifCond .le 43, 3) := by decide +kernel
theorem dX0_leastCofactor_48 : decode cX0_leastCofactor 48 = .ok (.aload_n 0, 1) := by decide +kernel
theorem dX0_leastCofactor_49 : decode cX0_leastCofactor 49 = .ok (.getfield 32, 3) := by decide +kernel
theorem dX0_leastCofactor_52 : decode cX0_leastCofactor 52 = .ok (.aload_n 2, 1) := by decide +kernel
theorem dX0_leastCofactor_53 : decode cX0_leastCofactor 53 = .ok (.invokevirtual 91, 3) := by decide +kernel
theorem dX0_leastCofactor_56 : decode cX0_leastCofactor 56 = .ok (.aload_n 0, 1) := by decide +kernel
theorem dX0_leastCofactor_57 : decode cX0_leastCofactor 57 = .ok (.getfield 32, 3) := by decide +kernel
theorem dX0_leastCofactor_60 : decode cX0_leastCofactor 60 = .ok (.aload_n 0, 1) := by decide +kernel
theorem dX0_leastCofactor_61 : decode cX0_leastCofactor 61 = .ok (.aload_n 0, 1) := by decide +kernel
theorem dX0_leastCofactor_62 : decode cX0_leastCofactor 62 = .ok (.getfield 32, 3) := by decide +kernel
theorem dX0_leastCofactor_65 : decode cX0_leastCofactor 65 = .ok (.aload_n 0, 1) := by decide +kernel
theorem dX0_leastCofactor_66 : decode cX0_leastCofactor 66 = .ok (.getfield 29, 3) := by decide +kernel
theorem dX0_leastCofactor_69 : decode cX0_leastCofactor 69 = .ok (.invokevirtual 95, 3) := by decide +kernel
theorem dX0_leastCofactor_72 : decode cX0_leastCofactor 72 = .ok (.invokevirtual 91, 3) := by decide +kernel
theorem dX0_leastCofactor_75 : decode cX0_leastCofactor 75 = .ok (.aload_n 0, 1) := by decide +kernel
theorem dX0_leastCofactor_76 : decode cX0_leastCofactor 76 = .ok (.aload_n 0, 1) := by decide +kernel
theorem dX0_leastCofactor_77 : decode cX0_leastCofactor 77 = .ok (.getfield 23, 3) := by decide +kernel
theorem dX0_leastCofactor_80 : decode cX0_leastCofactor 80 = .ok (.aload_n 0, 1) := by decide +kernel
theorem dX0_leastCofactor_81 : decode cX0_leastCofactor 81 = .ok (.getfield 32, 3) := by decide +kernel
theorem dX0_leastCofactor_84 : decode cX0_leastCofactor 84 = .ok (.invokevirtual 95, 3) := by decide +kernel
theorem dX0_leastCofactor_87 : decode cX0_leastCofactor 87 = .ok (.pop, 1) := by decide +kernel
theorem dX0_leastCofactor_88 : decode cX0_leastCofactor 88 = .ok (.aload_n 0, 1) := by decide +kernel
theorem dX0_leastCofactor_89 : decode cX0_leastCofactor 89 = .ok (.getfield 23, 3) := by decide +kernel
theorem dX0_leastCofactor_92 : decode cX0_leastCofactor 92 = .ok (.areturn, 1) := by decide +kernel
theorem dX0_lastByFactor_0 : decode cX0_lastByFactor 0 = .ok (.aload_n 0, 1) := by decide +kernel
theorem dX0_lastByFactor_1 : decode cX0_lastByFactor 1 = .ok (.aload_n 0, 1) := by decide +kernel
theorem dX0_lastByFactor_2 : decode cX0_lastByFactor 2 = .ok (.getfield 32, 3) := by decide +kernel
theorem dX0_lastByFactor_5 : decode cX0_lastByFactor 5 = .ok (.aload_n 0, 1) := by decide +kernel
theorem dX0_lastByFactor_6 : decode cX0_lastByFactor 6 = .ok (.getfield 38, 3) := by decide +kernel
theorem dX0_lastByFactor_9 : decode cX0_lastByFactor 9 = .ok (.invokevirtual 95, 3) := by decide +kernel
theorem dX0_lastByFactor_12 : decode cX0_lastByFactor 12 = .ok (.areturn, 1) := by decide +kernel
theorem dX0_composed_0 : decode cX0_composed 0 = .ok (.aload_n 0, 1) := by decide +kernel
theorem dX0_composed_1 : decode cX0_composed 1 = .ok (.getfield 23, 3) := by decide +kernel
theorem dX0_composed_4 : decode cX0_composed 4 = .ok (.invokevirtual 63, 3) := by decide +kernel
theorem dX0_composed_7 : decode cX0_composed 7 = .ok (.aload_n 1, 1) := by decide +kernel
theorem dX0_composed_8 : decode cX0_composed 8 = .ok (.invokevirtual 45, 3) := by decide +kernel
theorem dX0_composed_11 : decode cX0_composed 11 = .ok (.iconst 1, 1) := by decide +kernel
theorem dX0_composed_12 : decode cX0_composed 12 = .ok (.isub, 1) := by decide +kernel
theorem dX0_composed_13 : decode cX0_composed 13 = .ok (.istore_n 3, 1) := by decide +kernel
theorem dX0_composed_14 : decode cX0_composed 14 = .ok (.iload_n 3, 1) := by decide +kernel
theorem dX0_composed_15 : decode cX0_composed 15 = .ok (.ifCond .lt 56, 3) := by decide +kernel
theorem dX0_composed_18 : decode cX0_composed 18 = .ok (.aload_n 0, 1) := by decide +kernel
theorem dX0_composed_19 : decode cX0_composed 19 = .ok (.getfield 23, 3) := by decide +kernel
theorem dX0_composed_22 : decode cX0_composed 22 = .ok (.aload_n 0, 1) := by decide +kernel
theorem dX0_composed_23 : decode cX0_composed 23 = .ok (.aload_n 0, 1) := by decide +kernel
theorem dX0_composed_24 : decode cX0_composed 24 = .ok (.getfield 23, 3) := by decide +kernel
theorem dX0_composed_27 : decode cX0_composed 27 = .ok (.aload_n 2, 1) := by decide +kernel
theorem dX0_composed_28 : decode cX0_composed 28 = .ok (.invokevirtual 99, 3) := by decide +kernel
theorem dX0_composed_31 : decode cX0_composed 31 = .ok (.invokevirtual 91, 3) := by decide +kernel
theorem dX0_composed_34 : decode cX0_composed 34 = .ok (.aload_n 0, 1) := by decide +kernel
theorem dX0_composed_35 : decode cX0_composed 35 = .ok (.getfield 23, 3) := by decide +kernel
theorem dX0_composed_38 : decode cX0_composed 38 = .ok (.iconst 0, 1) := by decide +kernel
theorem dX0_composed_39 : decode cX0_composed 39 = .ok (.aload_n 0, 1) := by decide +kernel
theorem dX0_composed_40 : decode cX0_composed 40 = .ok (.getfield 41, 3) := by decide +kernel
theorem dX0_composed_43 : decode cX0_composed 43 = .ok (.aload_n 0, 1) := by decide +kernel
theorem dX0_composed_44 : decode cX0_composed 44 = .ok (.getfield 23, 3) := by decide +kernel
theorem dX0_composed_47 : decode cX0_composed 47 = .ok (.iconst 0, 1) := by decide +kernel
theorem dX0_composed_48 : decode cX0_composed 48 = .ok (.invokevirtual 49, 3) := by decide +kernel
theorem dX0_composed_51 : decode cX0_composed 51 = .ok (.i2l, 1) := by decide +kernel
theorem dX0_composed_52 : decode cX0_composed 52 = .ok (.aload_n 1, 1) := by decide +kernel
theorem dX0_composed_53 : decode cX0_composed 53 = .ok (.iload_n 3, 1) := by decide +kernel
theorem dX0_composed_54 : decode cX0_composed 54 = .ok (.invokevirtual 49, 3) := by decide +kernel
theorem dX0_composed_57 : decode cX0_composed 57 = .ok (.i2l, 1) := by decide +kernel
theorem dX0_composed_58 : decode cX0_composed 58 = .ok (.ladd, 1) := by decide +kernel
theorem dX0_composed_59 : decode cX0_composed 59 = .ok (.invokevirtual 53, 3) := by decide +kernel
theorem dX0_composed_62 : decode cX0_composed 62 = .ok (.invokevirtual 59, 3) := by decide +kernel
theorem dX0_composed_65 : decode cX0_composed 65 = .ok (.iinc 3 (-1), 3) := by decide +kernel
theorem dX0_composed_68 : decode cX0_composed 68 = .ok (.goto (-54), 3) := by decide +kernel
theorem dX0_composed_71 : decode cX0_composed 71 = .ok (.aload_n 0, 1) := by decide +kernel
theorem dX0_composed_72 : decode cX0_composed 72 = .ok (.getfield 23, 3) := by decide +kernel
theorem dX0_composed_75 : decode cX0_composed 75 = .ok (.areturn, 1) := by decide +kernel
theorem dX0_moved_0 : decode cX0_moved 0 = .ok (.aload_n 0, 1) := by decide +kernel
theorem dX0_moved_1 : decode cX0_moved 1 = .ok (.aload_n 1, 1) := by decide +kernel
theorem dX0_moved_2 : decode cX0_moved 2 = .ok (.iload_n 2, 1) := by decide +kernel
theorem dX0_moved_3 : decode cX0_moved 3 = .ok (.aload_n 1, 1) := by decide +kernel
theorem dX0_moved_4 : decode cX0_moved 4 = .ok (.invokevirtual 45, 3) := by decide +kernel
theorem dX0_moved_7 : decode cX0_moved 7 = .ok (.invokevirtual 106, 3) := by decide +kernel
theorem dX0_moved_10 : decode cX0_moved 10 = .ok (.areturn, 1) := by decide +kernel
theorem dX0_partMoved_0 : decode cX0_partMoved 0 = .ok (.aload_n 0, 1) := by decide +kernel
theorem dX0_partMoved_1 : decode cX0_partMoved 1 = .ok (.getfield 23, 3) := by decide +kernel
theorem dX0_partMoved_4 : decode cX0_partMoved 4 = .ok (.aload_n 1, 1) := by decide +kernel
theorem dX0_partMoved_5 : decode cX0_partMoved 5 = .ok (.invokevirtual 91, 3) := by decide +kernel
theorem dX0_partMoved_8 : decode cX0_partMoved 8 = .ok (.iconst 0, 1) := by decide +kernel
theorem dX0_partMoved_9 : decode cX0_partMoved 9 = .ok (.istore 4, 2) := by decide +kernel
theorem dX0_partMoved_11 : decode cX0_partMoved 11 = .ok (.iload 4, 2) := by decide +kernel
theorem dX0_partMoved_13 : decode cX0_partMoved 13 = .ok (.iload_n 3, 1) := by decide +kernel
theorem dX0_partMoved_14 : decode cX0_partMoved 14 = .ok (.if_icmp .ge 83, 3) := by decide +kernel
theorem dX0_partMoved_17 : decode cX0_partMoved 17 = .ok (.iload 4, 2) := by decide +kernel
theorem dX0_partMoved_19 : decode cX0_partMoved 19 = .ok (.aload_n 1, 1) := by decide +kernel
theorem dX0_partMoved_20 : decode cX0_partMoved 20 = .ok (.invokevirtual 45, 3) := by decide +kernel
theorem dX0_partMoved_23 : decode cX0_partMoved 23 = .ok (.iconst 1, 1) := by decide +kernel
theorem dX0_partMoved_24 : decode cX0_partMoved 24 = .ok (.isub, 1) := by decide +kernel
theorem dX0_partMoved_25 : decode cX0_partMoved 25 = .ok (.if_icmp .ge 72, 3) := by decide +kernel
theorem dX0_partMoved_28 : decode cX0_partMoved 28 = .ok (.aload_n 1, 1) := by decide +kernel
theorem dX0_partMoved_29 : decode cX0_partMoved 29 = .ok (.invokevirtual 45, 3) := by decide +kernel
theorem dX0_partMoved_32 : decode cX0_partMoved 32 = .ok (.iconst 2, 1) := by decide +kernel
theorem dX0_partMoved_33 : decode cX0_partMoved 33 = .ok (.isub, 1) := by decide +kernel
theorem dX0_partMoved_34 : decode cX0_partMoved 34 = .ok (.istore 5, 2) := by decide +kernel
theorem dX0_partMoved_36 : decode cX0_partMoved 36 = .ok (.iload 5, 2) := by decide +kernel
theorem dX0_partMoved_38 : decode cX0_partMoved 38 = .ok (.iload 4, 2) := by decide +kernel
theorem dX0_partMoved_40 : decode cX0_partMoved 40 = .ok (.if_icmp .lt 51, 3) := by decide +kernel
theorem dX0_partMoved_43 : decode cX0_partMoved 43 = .ok (.aload_n 0, 1) := by decide +kernel
theorem dX0_partMoved_44 : decode cX0_partMoved 44 = .ok (.getfield 23, 3) := by decide +kernel
theorem dX0_partMoved_47 : decode cX0_partMoved 47 = .ok (.iload 5, 2) := by decide +kernel
theorem dX0_partMoved_49 : decode cX0_partMoved 49 = .ok (.aload_n 0, 1) := by decide +kernel
theorem dX0_partMoved_50 : decode cX0_partMoved 50 = .ok (.getfield 41, 3) := by decide +kernel
theorem dX0_partMoved_53 : decode cX0_partMoved 53 = .ok (.aload_n 0, 1) := by decide +kernel
theorem dX0_partMoved_54 : decode cX0_partMoved 54 = .ok (.getfield 23, 3) := by decide +kernel
theorem dX0_partMoved_57 : decode cX0_partMoved 57 = .ok (.iload 5, 2) := by decide +kernel
theorem dX0_partMoved_59 : decode cX0_partMoved 59 = .ok (.invokevirtual 49, 3) := by decide +kernel
theorem dX0_partMoved_62 : decode cX0_partMoved 62 = .ok (.i2l, 1) := by decide +kernel
theorem dX0_partMoved_63 : decode cX0_partMoved 63 = .ok (.iload_n 2, 1) := by decide +kernel
theorem dX0_partMoved_64 : decode cX0_partMoved 64 = .ok (.i2l, 1) := by decide +kernel
theorem dX0_partMoved_65 : decode cX0_partMoved 65 = .ok (.aload_n 0, 1) := by decide +kernel
theorem dX0_partMoved_66 : decode cX0_partMoved 66 = .ok (.getfield 23, 3) := by decide +kernel
theorem dX0_partMoved_69 : decode cX0_partMoved 69 = .ok (.iload 5, 2) := by decide +kernel
theorem dX0_partMoved_71 : decode cX0_partMoved 71 = .ok (.iconst 1, 1) := by decide +kernel
theorem dX0_partMoved_72 : decode cX0_partMoved 72 = .ok (.iadd, 1) := by decide +kernel
theorem dX0_partMoved_73 : decode cX0_partMoved 73 = .ok (.invokevirtual 49, 3) := by decide +kernel
theorem dX0_partMoved_76 : decode cX0_partMoved 76 = .ok (.i2l, 1) := by decide +kernel
theorem dX0_partMoved_77 : decode cX0_partMoved 77 = .ok (.lmul, 1) := by decide +kernel
theorem dX0_partMoved_78 : decode cX0_partMoved 78 = .ok (.ladd, 1) := by decide +kernel
theorem dX0_partMoved_79 : decode cX0_partMoved 79 = .ok (.invokevirtual 53, 3) := by decide +kernel
theorem dX0_partMoved_82 : decode cX0_partMoved 82 = .ok (.invokevirtual 59, 3) := by decide +kernel
theorem dX0_partMoved_85 : decode cX0_partMoved 85 = .ok (.iinc 5 (-1), 3) := by decide +kernel
theorem dX0_partMoved_88 : decode cX0_partMoved 88 = .ok (.goto (-52), 3) := by decide +kernel
theorem dX0_partMoved_91 : decode cX0_partMoved 91 = .ok (.iinc 4 1, 3) := by decide +kernel
theorem dX0_partMoved_94 : decode cX0_partMoved 94 = .ok (.goto (-83), 3) := by decide +kernel
theorem dX0_partMoved_97 : decode cX0_partMoved 97 = .ok (.aload_n 0, 1) := by decide +kernel
theorem dX0_partMoved_98 : decode cX0_partMoved 98 = .ok (.getfield 23, 3) := by decide +kernel
theorem dX0_partMoved_101 : decode cX0_partMoved 101 = .ok (.areturn, 1) := by decide +kernel
theorem dX0_lineAt_0 : decode cX0_lineAt 0 = .ok (.aload_n 0, 1) := by decide +kernel
theorem dX0_lineAt_1 : decode cX0_lineAt 1 = .ok (.getfield 26, 3) := by decide +kernel
theorem dX0_lineAt_4 : decode cX0_lineAt 4 = .ok (.iconst 0, 1) := by decide +kernel
theorem dX0_lineAt_5 : decode cX0_lineAt 5 = .ok (.aload_n 0, 1) := by decide +kernel
theorem dX0_lineAt_6 : decode cX0_lineAt 6 = .ok (.getfield 41, 3) := by decide +kernel
theorem dX0_lineAt_9 : decode cX0_lineAt 9 = .ok (.iload_n 1, 1) := by decide +kernel
theorem dX0_lineAt_10 : decode cX0_lineAt 10 = .ok (.ineg, 1) := by decide +kernel
theorem dX0_lineAt_11 : decode cX0_lineAt 11 = .ok (.i2l, 1) := by decide +kernel
theorem dX0_lineAt_12 : decode cX0_lineAt 12 = .ok (.invokevirtual 53, 3) := by decide +kernel
theorem dX0_lineAt_15 : decode cX0_lineAt 15 = .ok (.invokevirtual 59, 3) := by decide +kernel
theorem dX0_lineAt_18 : decode cX0_lineAt 18 = .ok (.aload_n 0, 1) := by decide +kernel
theorem dX0_lineAt_19 : decode cX0_lineAt 19 = .ok (.getfield 26, 3) := by decide +kernel
theorem dX0_lineAt_22 : decode cX0_lineAt 22 = .ok (.iconst 1, 1) := by decide +kernel
theorem dX0_lineAt_23 : decode cX0_lineAt 23 = .ok (.iconst 1, 1) := by decide +kernel
theorem dX0_lineAt_24 : decode cX0_lineAt 24 = .ok (.invokevirtual 59, 3) := by decide +kernel
theorem dX0_lineAt_27 : decode cX0_lineAt 27 = .ok (.aload_n 0, 1) := by decide +kernel
theorem dX0_lineAt_28 : decode cX0_lineAt 28 = .ok (.getfield 26, 3) := by decide +kernel
theorem dX0_lineAt_31 : decode cX0_lineAt 31 = .ok (.areturn, 1) := by decide +kernel
theorem dX0_seekRoots_0 : decode cX0_seekRoots 0 = .ok (.aload_n 0, 1) := by decide +kernel
theorem dX0_seekRoots_1 : decode cX0_seekRoots 1 = .ok (.getfield 23, 3) := by decide +kernel
theorem dX0_seekRoots_4 : decode cX0_seekRoots 4 = .ok (.invokevirtual 63, 3) := by decide +kernel
theorem dX0_seekRoots_7 : decode cX0_seekRoots 7 = .ok (.aload_n 0, 1) := by decide +kernel
theorem dX0_seekRoots_8 : decode cX0_seekRoots 8 = .ok (.getfield 23, 3) := by decide +kernel
theorem dX0_seekRoots_11 : decode cX0_seekRoots 11 = .ok (.iconst 0, 1) := by decide +kernel
theorem dX0_seekRoots_12 : decode cX0_seekRoots 12 = .ok (.iconst 1, 1) := by decide +kernel
theorem dX0_seekRoots_13 : decode cX0_seekRoots 13 = .ok (.invokevirtual 59, 3) := by decide +kernel
theorem dX0_seekRoots_16 : decode cX0_seekRoots 16 = .ok (.bipush 12, 2) := by decide +kernel
theorem dX0_seekRoots_18 : decode cX0_seekRoots 18 = .ok (.istore_n 2, 1) := by decide +kernel
theorem dX0_seekRoots_19 : decode cX0_seekRoots 19 = .ok (.iload_n 2, 1) := by decide +kernel
theorem dX0_seekRoots_20 : decode cX0_seekRoots 20 = .ok (.ifCond .lt 73, 3) := by decide +kernel
theorem dX0_seekRoots_23 : decode cX0_seekRoots 23 = .ok (.aload_n 0, 1) := by decide +kernel
theorem dX0_seekRoots_24 : decode cX0_seekRoots 24 = .ok (.getfield 23, 3) := by decide +kernel
theorem dX0_seekRoots_27 : decode cX0_seekRoots 27 = .ok (.aload_n 0, 1) := by decide +kernel
theorem dX0_seekRoots_28 : decode cX0_seekRoots 28 = .ok (.aload_n 0, 1) := by decide +kernel
theorem dX0_seekRoots_29 : decode cX0_seekRoots 29 = .ok (.getfield 23, 3) := by decide +kernel
theorem dX0_seekRoots_32 : decode cX0_seekRoots 32 = .ok (.aload_n 0, 1) := by decide +kernel
theorem dX0_seekRoots_33 : decode cX0_seekRoots 33 = .ok (.getfield 23, 3) := by decide +kernel
theorem dX0_seekRoots_36 : decode cX0_seekRoots 36 = .ok (.invokevirtual 99, 3) := by decide +kernel
theorem dX0_seekRoots_39 : decode cX0_seekRoots 39 = .ok (.invokevirtual 91, 3) := by decide +kernel
theorem dX0_seekRoots_42 : decode cX0_seekRoots 42 = .ok (.aload_n 0, 1) := by decide +kernel
theorem dX0_seekRoots_43 : decode cX0_seekRoots 43 = .ok (.getfield 41, 3) := by decide +kernel
theorem dX0_seekRoots_46 : decode cX0_seekRoots 46 = .ok (.invokevirtual 110, 3) := by decide +kernel
theorem dX0_seekRoots_49 : decode cX0_seekRoots 49 = .ok (.iload_n 2, 1) := by decide +kernel
theorem dX0_seekRoots_50 : decode cX0_seekRoots 50 = .ok (.ishr, 1) := by decide +kernel
theorem dX0_seekRoots_51 : decode cX0_seekRoots 51 = .ok (.iconst 1, 1) := by decide +kernel
theorem dX0_seekRoots_52 : decode cX0_seekRoots 52 = .ok (.iand, 1) := by decide +kernel
theorem dX0_seekRoots_53 : decode cX0_seekRoots 53 = .ok (.iconst 1, 1) := by decide +kernel
theorem dX0_seekRoots_54 : decode cX0_seekRoots 54 = .ok (.if_icmp .ne 23, 3) := by decide +kernel
theorem dX0_seekRoots_57 : decode cX0_seekRoots 57 = .ok (.aload_n 0, 1) := by decide +kernel
theorem dX0_seekRoots_58 : decode cX0_seekRoots 58 = .ok (.getfield 23, 3) := by decide +kernel
theorem dX0_seekRoots_61 : decode cX0_seekRoots 61 = .ok (.aload_n 0, 1) := by decide +kernel
theorem dX0_seekRoots_62 : decode cX0_seekRoots 62 = .ok (.aload_n 0, 1) := by decide +kernel
theorem dX0_seekRoots_63 : decode cX0_seekRoots 63 = .ok (.getfield 23, 3) := by decide +kernel
theorem dX0_seekRoots_66 : decode cX0_seekRoots 66 = .ok (.aload_n 0, 1) := by decide +kernel
theorem dX0_seekRoots_67 : decode cX0_seekRoots 67 = .ok (.iconst 0, 1) := by decide +kernel
theorem dX0_seekRoots_68 : decode cX0_seekRoots 68 = .ok (.invokevirtual 113, 3) := by decide +kernel
theorem dX0_seekRoots_71 : decode cX0_seekRoots 71 = .ok (.invokevirtual 99, 3) := by decide +kernel
theorem dX0_seekRoots_74 : decode cX0_seekRoots 74 = .ok (.invokevirtual 91, 3) := by decide +kernel
theorem dX0_seekRoots_77 : decode cX0_seekRoots 77 = .ok (.aload_n 0, 1) := by decide +kernel
theorem dX0_seekRoots_78 : decode cX0_seekRoots 78 = .ok (.aload_n 0, 1) := by decide +kernel
theorem dX0_seekRoots_79 : decode cX0_seekRoots 79 = .ok (.getfield 23, 3) := by decide +kernel
theorem dX0_seekRoots_82 : decode cX0_seekRoots 82 = .ok (.aload_n 1, 1) := by decide +kernel
theorem dX0_seekRoots_83 : decode cX0_seekRoots 83 = .ok (.invokevirtual 95, 3) := by decide +kernel
theorem dX0_seekRoots_86 : decode cX0_seekRoots 86 = .ok (.pop, 1) := by decide +kernel
theorem dX0_seekRoots_87 : decode cX0_seekRoots 87 = .ok (.iinc 2 (-1), 3) := by decide +kernel
theorem dX0_seekRoots_90 : decode cX0_seekRoots 90 = .ok (.goto (-71), 3) := by decide +kernel
theorem dX0_seekRoots_93 : decode cX0_seekRoots 93 = .ok (.aload_n 0, 1) := by decide +kernel
theorem dX0_seekRoots_94 : decode cX0_seekRoots 94 = .ok (.aload_n 0, 1) := by decide +kernel
theorem dX0_seekRoots_95 : decode cX0_seekRoots 95 = .ok (.getfield 23, 3) := by decide +kernel
theorem dX0_seekRoots_98 : decode cX0_seekRoots 98 = .ok (.iconst (-1), 1) := by decide +kernel
theorem dX0_seekRoots_99 : decode cX0_seekRoots 99 = .ok (.aload_n 0, 1) := by decide +kernel
theorem dX0_seekRoots_100 : decode cX0_seekRoots 100 = .ok (.iconst 0, 1) := by decide +kernel
theorem dX0_seekRoots_101 : decode cX0_seekRoots 101 = .ok (.invokevirtual 113, 3) := by decide +kernel
theorem dX0_seekRoots_104 : decode cX0_seekRoots 104 = .ok (.iconst 0, 1) := by decide +kernel
theorem dX0_seekRoots_105 : decode cX0_seekRoots 105 = .ok (.invokevirtual 87, 3) := by decide +kernel
theorem dX0_seekRoots_108 : decode cX0_seekRoots 108 = .ok (.aload_n 0, 1) := by decide +kernel
theorem dX0_seekRoots_109 : decode cX0_seekRoots 109 = .ok (.aload_n 1, 1) := by decide +kernel
theorem dX0_seekRoots_110 : decode cX0_seekRoots 110 = .ok (.aload_n 0, 1) := by decide +kernel
theorem dX0_seekRoots_111 : decode cX0_seekRoots 111 = .ok (.getfield 23, 3) := by decide +kernel
theorem dX0_seekRoots_114 : decode cX0_seekRoots 114 = .ok (.iconst 0, 1) := by decide +kernel
theorem dX0_seekRoots_115 : decode cX0_seekRoots 115 = .ok (.invokevirtual 102, 3) := by decide +kernel
theorem dX0_seekRoots_118 : decode cX0_seekRoots 118 = .ok (.aload_n 0, 1) := by decide +kernel
theorem dX0_seekRoots_119 : decode cX0_seekRoots 119 = .ok (.getfield 23, 3) := by decide +kernel
theorem dX0_seekRoots_122 : decode cX0_seekRoots 122 = .ok (.aload_n 0, 1) := by decide +kernel
theorem dX0_seekRoots_123 : decode cX0_seekRoots 123 = .ok (.getfield 29, 3) := by decide +kernel
theorem dX0_seekRoots_126 : decode cX0_seekRoots 126 = .ok (.invokevirtual 91, 3) := by decide +kernel
theorem dX0_seekRoots_129 : decode cX0_seekRoots 129 = .ok (.aload_n 0, 1) := by decide +kernel
theorem dX0_seekRoots_130 : decode cX0_seekRoots 130 = .ok (.getfield 23, 3) := by decide +kernel
theorem dX0_seekRoots_133 : decode cX0_seekRoots 133 = .ok (.invokevirtual 45, 3) := by decide +kernel
theorem dX0_seekRoots_136 : decode cX0_seekRoots 136 = .ok (.iconst 1, 1) := by decide +kernel
theorem dX0_seekRoots_137 : decode cX0_seekRoots 137 = .ok (.isub, 1) := by decide +kernel
theorem dX0_seekRoots_138 : decode cX0_seekRoots 138 = .ok (.ireturn, 1) := by decide +kernel
theorem dX0_soughtRoot_0 : decode cX0_soughtRoot 0 = .ok (.iload_n 1, 1) := by decide +kernel
theorem dX0_soughtRoot_1 : decode cX0_soughtRoot 1 = .ok (.istore_n 2, 1) := by decide +kernel
theorem dX0_soughtRoot_2 : decode cX0_soughtRoot 2 = .ok (.iconst 0, 1) := by decide +kernel
theorem dX0_soughtRoot_3 : decode cX0_soughtRoot 3 = .ok (.istore_n 3, 1) := by decide +kernel
theorem dX0_soughtRoot_4 : decode cX0_soughtRoot 4 = .ok (.iload_n 3, 1) := by decide +kernel
theorem dX0_soughtRoot_5 : decode cX0_soughtRoot 5 = .ok (.aload_n 0, 1) := by decide +kernel
theorem dX0_soughtRoot_6 : decode cX0_soughtRoot 6 = .ok (.getfield 41, 3) := by decide +kernel
theorem dX0_soughtRoot_9 : decode cX0_soughtRoot 9 = .ok (.invokevirtual 110, 3) := by decide +kernel
theorem dX0_soughtRoot_12 : decode cX0_soughtRoot 12 = .ok (.if_icmp .ge 115, 3) := by decide +kernel
theorem dX0_soughtRoot_15 : decode cX0_soughtRoot 15 = .ok (.aload_n 0, 1) := by decide +kernel
theorem dX0_soughtRoot_16 : decode cX0_soughtRoot 16 = .ok (.getfield 23, 3) := by decide +kernel
theorem dX0_soughtRoot_19 : decode cX0_soughtRoot 19 = .ok (.invokevirtual 45, 3) := by decide +kernel
theorem dX0_soughtRoot_22 : decode cX0_soughtRoot 22 = .ok (.iconst 1, 1) := by decide +kernel
theorem dX0_soughtRoot_23 : decode cX0_soughtRoot 23 = .ok (.if_icmp .le 104, 3) := by decide +kernel
theorem dX0_soughtRoot_26 : decode cX0_soughtRoot 26 = .ok (.aload_n 0, 1) := by decide +kernel
theorem dX0_soughtRoot_27 : decode cX0_soughtRoot 27 = .ok (.getfield 23, 3) := by decide +kernel
theorem dX0_soughtRoot_30 : decode cX0_soughtRoot 30 = .ok (.invokevirtual 45, 3) := by decide +kernel
theorem dX0_soughtRoot_33 : decode cX0_soughtRoot 33 = .ok (.iconst 2, 1) := by decide +kernel
theorem dX0_soughtRoot_34 : decode cX0_soughtRoot 34 = .ok (.if_icmp .ne 43, 3) := by decide +kernel
theorem dX0_soughtRoot_37 : decode cX0_soughtRoot 37 = .ok (.aload_n 0, 1) := by decide +kernel
theorem dX0_soughtRoot_38 : decode cX0_soughtRoot 38 = .ok (.getfield 41, 3) := by decide +kernel
theorem dX0_soughtRoot_41 : decode cX0_soughtRoot 41 = .ok (.aload_n 0, 1) := by decide +kernel
theorem dX0_soughtRoot_42 : decode cX0_soughtRoot 42 = .ok (.getfield 41, 3) := by decide +kernel
theorem dX0_soughtRoot_45 : decode cX0_soughtRoot 45 = .ok (.aload_n 0, 1) := by decide +kernel
theorem dX0_soughtRoot_46 : decode cX0_soughtRoot 46 = .ok (.getfield 23, 3) := by decide +kernel
theorem dX0_soughtRoot_49 : decode cX0_soughtRoot 49 = .ok (.iconst 0, 1) := by decide +kernel
theorem dX0_soughtRoot_50 : decode cX0_soughtRoot 50 = .ok (.invokevirtual 49, 3) := by decide +kernel
theorem dX0_soughtRoot_53 : decode cX0_soughtRoot 53 = .ok (.ineg, 1) := by decide +kernel
theorem dX0_soughtRoot_54 : decode cX0_soughtRoot 54 = .ok (.i2l, 1) := by decide +kernel
theorem dX0_soughtRoot_55 : decode cX0_soughtRoot 55 = .ok (.invokevirtual 53, 3) := by decide +kernel
theorem dX0_soughtRoot_58 : decode cX0_soughtRoot 58 = .ok (.aload_n 0, 1) := by decide +kernel
theorem dX0_soughtRoot_59 : decode cX0_soughtRoot 59 = .ok (.getfield 41, 3) := by decide +kernel
theorem dX0_soughtRoot_62 : decode cX0_soughtRoot 62 = .ok (.aload_n 0, 1) := by decide +kernel
theorem dX0_soughtRoot_63 : decode cX0_soughtRoot 63 = .ok (.getfield 23, 3) := by decide +kernel
theorem dX0_soughtRoot_66 : decode cX0_soughtRoot 66 = .ok (.iconst 1, 1) := by decide +kernel
theorem dX0_soughtRoot_67 : decode cX0_soughtRoot 67 = .ok (.invokevirtual 49, 3) := by decide +kernel
theorem dX0_soughtRoot_70 : decode cX0_soughtRoot 70 = .ok (.invokevirtual 82, 3) := by decide +kernel
theorem dX0_soughtRoot_73 : decode cX0_soughtRoot 73 = .ok (.invokevirtual 85, 3) := by decide +kernel
theorem dX0_soughtRoot_76 : decode cX0_soughtRoot 76 = .ok (.ireturn, 1) := by decide +kernel
theorem dX0_soughtRoot_77 : decode cX0_soughtRoot 77 = .ok (.aload_n 0, 1) := by decide +kernel
theorem dX0_soughtRoot_78 : decode cX0_soughtRoot 78 = .ok (.aload_n 0, 1) := by decide +kernel
theorem dX0_soughtRoot_79 : decode cX0_soughtRoot 79 = .ok (.getfield 23, 3) := by decide +kernel
theorem dX0_soughtRoot_82 : decode cX0_soughtRoot 82 = .ok (.iload_n 3, 1) := by decide +kernel
theorem dX0_soughtRoot_83 : decode cX0_soughtRoot 83 = .ok (.invokevirtual 117, 3) := by decide +kernel
theorem dX0_soughtRoot_86 : decode cX0_soughtRoot 86 = .ok (.ifCond .eq 6, 3) := by decide +kernel
theorem dX0_soughtRoot_89 : decode cX0_soughtRoot 89 = .ok (.goto 32, 3) := by decide +kernel
theorem dX0_soughtRoot_92 : decode cX0_soughtRoot 92 = .ok (.iload_n 2, 1) := by decide +kernel
theorem dX0_soughtRoot_93 : decode cX0_soughtRoot 93 = .ok (.ifCond .ne 5, 3) := by decide +kernel
theorem dX0_soughtRoot_96 : decode cX0_soughtRoot 96 = .ok (.iload_n 3, 1) := by decide +kernel
theorem dX0_soughtRoot_97 : decode cX0_soughtRoot 97 = .ok (.ireturn, 1) := by decide +kernel
theorem dX0_soughtRoot_98 : decode cX0_soughtRoot 98 = .ok (.iinc 2 (-1), 3) := by decide +kernel
theorem dX0_soughtRoot_101 : decode cX0_soughtRoot 101 = .ok (.aload_n 0, 1) := by decide +kernel
theorem dX0_soughtRoot_102 : decode cX0_soughtRoot 102 = .ok (.getfield 23, 3) := by decide +kernel
theorem dX0_soughtRoot_105 : decode cX0_soughtRoot 105 = .ok (.aload_n 0, 1) := by decide +kernel
theorem dX0_soughtRoot_106 : decode cX0_soughtRoot 106 = .ok (.aload_n 0, 1) := by decide +kernel
theorem dX0_soughtRoot_107 : decode cX0_soughtRoot 107 = .ok (.getfield 23, 3) := by decide +kernel
theorem dX0_soughtRoot_110 : decode cX0_soughtRoot 110 = .ok (.aload_n 0, 1) := by decide +kernel
theorem dX0_soughtRoot_111 : decode cX0_soughtRoot 111 = .ok (.iload_n 3, 1) := by decide +kernel
theorem dX0_soughtRoot_112 : decode cX0_soughtRoot 112 = .ok (.invokevirtual 113, 3) := by decide +kernel
theorem dX0_soughtRoot_115 : decode cX0_soughtRoot 115 = .ok (.invokevirtual 95, 3) := by decide +kernel
theorem dX0_soughtRoot_118 : decode cX0_soughtRoot 118 = .ok (.invokevirtual 91, 3) := by decide +kernel
theorem dX0_soughtRoot_121 : decode cX0_soughtRoot 121 = .ok (.iinc 3 1, 3) := by decide +kernel
theorem dX0_soughtRoot_124 : decode cX0_soughtRoot 124 = .ok (.goto (-120), 3) := by decide +kernel
theorem dX0_soughtRoot_127 : decode cX0_soughtRoot 127 = .ok (.iconst (-1), 1) := by decide +kernel
theorem dX0_soughtRoot_128 : decode cX0_soughtRoot 128 = .ok (.ireturn, 1) := by decide +kernel
theorem dX1_init_0 : decode cX1_init 0 = .ok (.aload_n 0, 1) := by decide +kernel
theorem dX1_init_1 : decode cX1_init 1 = .ok (.invokespecial 3, 3) := by decide +kernel
theorem dX1_init_4 : decode cX1_init 4 = .ok (.aload_n 0, 1) := by decide +kernel
theorem dX1_init_5 : decode cX1_init 5 = .ok (.new 9, 3) := by decide +kernel
theorem dX1_init_8 : decode cX1_init 8 = .ok (.dup, 1) := by decide +kernel
theorem dX1_init_9 : decode cX1_init 9 = .ok (.invokespecial 11, 3) := by decide +kernel
theorem dX1_init_12 : decode cX1_init 12 = .ok (.putfield 12, 3) := by decide +kernel
theorem dX1_init_15 : decode cX1_init 15 = .ok (.aload_n 0, 1) := by decide +kernel
theorem dX1_init_16 : decode cX1_init 16 = .ok (.iconst (-1), 1) := by decide +kernel
theorem dX1_init_17 : decode cX1_init 17 = .ok (.putfield 18, 3) := by decide +kernel
theorem dX1_init_20 : decode cX1_init 20 = .ok (.aload_n 0, 1) := by decide +kernel
theorem dX1_init_21 : decode cX1_init 21 = .ok (.aload_n 1, 1) := by decide +kernel
theorem dX1_init_22 : decode cX1_init 22 = .ok (.putfield 22, 3) := by decide +kernel
theorem dX1_init_25 : decode cX1_init 25 = .ok (.return_, 1) := by decide +kernel
theorem dX1_readInto_0 : decode cX1_readInto 0 = .ok (.aload_n 0, 1) := by decide +kernel
theorem dX1_readInto_1 : decode cX1_readInto 1 = .ok (.aload_n 1, 1) := by decide +kernel
theorem dX1_readInto_2 : decode cX1_readInto 2 = .ok (.putfield 12, 3) := by decide +kernel
theorem dX1_readInto_5 : decode cX1_readInto 5 = .ok (.aload_n 0, 1) := by decide +kernel
theorem dX1_readInto_6 : decode cX1_readInto 6 = .ok (.getfield 12, 3) := by decide +kernel
theorem dX1_readInto_9 : decode cX1_readInto 9 = .ok (.invokevirtual 26, 3) := by decide +kernel
theorem dX1_readInto_12 : decode cX1_readInto 12 = .ok (.aload_n 0, 1) := by decide +kernel
theorem dX1_readInto_13 : decode cX1_readInto 13 = .ok (.iconst 0, 1) := by decide +kernel
theorem dX1_readInto_14 : decode cX1_readInto 14 = .ok (.putfield 29, 3) := by decide +kernel
theorem dX1_readInto_17 : decode cX1_readInto 17 = .ok (.aload_n 0, 1) := by decide +kernel
theorem dX1_readInto_18 : decode cX1_readInto 18 = .ok (.iconst (-1), 1) := by decide +kernel
theorem dX1_readInto_19 : decode cX1_readInto 19 = .ok (.putfield 18, 3) := by decide +kernel
theorem dX1_readInto_22 : decode cX1_readInto 22 = .ok (.aload_n 0, 1) := by decide +kernel
theorem dX1_readInto_23 : decode cX1_readInto 23 = .ok (.iconst 0, 1) := by decide +kernel
theorem dX1_readInto_24 : decode cX1_readInto 24 = .ok (.putfield 32, 3) := by decide +kernel
theorem dX1_readInto_27 : decode cX1_readInto 27 = .ok (.aload_n 0, 1) := by decide +kernel
theorem dX1_readInto_28 : decode cX1_readInto 28 = .ok (.sipush 260, 3) := by decide +kernel
theorem dX1_readInto_31 : decode cX1_readInto 31 = .ok (.invokevirtual 37, 3) := by decide +kernel
theorem dX1_readInto_34 : decode cX1_readInto 34 = .ok (.aload_n 0, 1) := by decide +kernel
theorem dX1_readInto_35 : decode cX1_readInto 35 = .ok (.sipush 261, 3) := by decide +kernel
theorem dX1_readInto_38 : decode cX1_readInto 38 = .ok (.invokevirtual 37, 3) := by decide +kernel
theorem dX1_readInto_41 : decode cX1_readInto 41 = .ok (.aload_n 0, 1) := by decide +kernel
theorem dX1_readInto_42 : decode cX1_readInto 42 = .ok (.sipush 262, 3) := by decide +kernel
theorem dX1_readInto_45 : decode cX1_readInto 45 = .ok (.invokevirtual 37, 3) := by decide +kernel
theorem dX1_readInto_48 : decode cX1_readInto 48 = .ok (.aload_n 0, 1) := by decide +kernel
theorem dX1_readInto_49 : decode cX1_readInto 49 = .ok (.sipush 256, 3) := by decide +kernel
theorem dX1_readInto_52 : decode cX1_readInto 52 = .ok (.invokevirtual 41, 3) := by decide +kernel
theorem dX1_readInto_55 : decode cX1_readInto 55 = .ok (.aload_n 0, 1) := by decide +kernel
theorem dX1_readInto_56 : decode cX1_readInto 56 = .ok (.getfield 18, 3) := by decide +kernel
theorem dX1_readInto_59 : decode cX1_readInto 59 = .ok (.ireturn, 1) := by decide +kernel
theorem dX1_part_0 : decode cX1_part 0 = .ok (.aload_n 0, 1) := by decide +kernel
theorem dX1_part_1 : decode cX1_part 1 = .ok (.iload_n 1, 1) := by decide +kernel
theorem dX1_part_2 : decode cX1_part 2 = .ok (.invokevirtual 41, 3) := by decide +kernel
theorem dX1_part_5 : decode cX1_part 5 = .ok (.aload_n 0, 1) := by decide +kernel
theorem dX1_part_6 : decode cX1_part 6 = .ok (.invokevirtual 44, 3) := by decide +kernel
theorem dX1_part_9 : decode cX1_part 9 = .ok (.aload_n 0, 1) := by decide +kernel
theorem dX1_part_10 : decode cX1_part 10 = .ok (.bipush 59, 2) := by decide +kernel
theorem dX1_part_12 : decode cX1_part 12 = .ok (.invokevirtual 41, 3) := by decide +kernel
theorem dX1_part_15 : decode cX1_part 15 = .ok (.aload_n 0, 1) := by decide +kernel
theorem dX1_part_16 : decode cX1_part 16 = .ok (.getfield 12, 3) := by decide +kernel
theorem dX1_part_19 : decode cX1_part 19 = .ok (.invokevirtual 47, 3) := by decide +kernel
theorem dX1_part_22 : decode cX1_part 22 = .ok (.return_, 1) := by decide +kernel
theorem dX1_stands_0 : decode cX1_stands 0 = .ok (.aload_n 0, 1) := by decide +kernel
theorem dX1_stands_1 : decode cX1_stands 1 = .ok (.getfield 18, 3) := by decide +kernel
theorem dX1_stands_4 : decode cX1_stands 4 = .ok (.iconst (-1), 1) := by decide +kernel
theorem dX1_stands_5 : decode cX1_stands 5 = .ok (.if_icmp .ne 22, 3) := by decide +kernel
theorem dX1_stands_8 : decode cX1_stands 8 = .ok (.aload_n 0, 1) := by decide +kernel
theorem dX1_stands_9 : decode cX1_stands 9 = .ok (.getfield 22, 3) := by decide +kernel
theorem dX1_stands_12 : decode cX1_stands 12 = .ok (.aload_n 0, 1) := by decide +kernel
theorem dX1_stands_13 : decode cX1_stands 13 = .ok (.getfield 32, 3) := by decide +kernel
theorem dX1_stands_16 : decode cX1_stands 16 = .ok (.invokevirtual 50, 3) := by decide +kernel
theorem dX1_stands_19 : decode cX1_stands 19 = .ok (.iload_n 1, 1) := by decide +kernel
theorem dX1_stands_20 : decode cX1_stands 20 = .ok (.if_icmp .ne 7, 3) := by decide +kernel
theorem dX1_stands_23 : decode cX1_stands 23 = .ok (.iconst 1, 1) := by decide +kernel
theorem dX1_stands_24 : decode cX1_stands 24 = .ok (.goto 4, 3) := by decide +kernel
theorem dX1_stands_27 : decode cX1_stands 27 = .ok (.iconst 0, 1) := by decide +kernel
theorem dX1_stands_28 : decode cX1_stands 28 = .ok (.ireturn, 1) := by decide +kernel
theorem dX1_took_0 : decode cX1_took 0 = .ok (.aload_n 0, 1) := by decide +kernel
theorem dX1_took_1 : decode cX1_took 1 = .ok (.iload_n 1, 1) := by decide +kernel
theorem dX1_took_2 : decode cX1_took 2 = .ok (.invokevirtual 54, 3) := by decide +kernel
theorem dX1_took_5 : decode cX1_took 5 = .ok (.ifCond .ne 5, 3) := by decide +kernel
theorem dX1_took_8 : decode cX1_took 8 = .ok (.iconst 0, 1) := by decide +kernel
theorem dX1_took_9 : decode cX1_took 9 = .ok (.ireturn, 1) := by decide +kernel
theorem dX1_took_10 : decode cX1_took 10 = .ok (.aload_n 0, 1) := by decide +kernel
theorem dX1_took_11 : decode cX1_took 11 = .ok (.dup, 1) := by decide +kernel
theorem dX1_took_12 : decode cX1_took 12 = .ok (.getfield 32, 3) := by decide +kernel
theorem dX1_took_15 : decode cX1_took 15 = .ok (.iconst 1, 1) := by decide +kernel
theorem dX1_took_16 : decode cX1_took 16 = .ok (.iadd, 1) := by decide +kernel
theorem dX1_took_17 : decode cX1_took 17 = .ok (.putfield 32, 3) := by decide +kernel
theorem dX1_took_20 : decode cX1_took 20 = .ok (.iconst 1, 1) := by decide +kernel
theorem dX1_took_21 : decode cX1_took 21 = .ok (.ireturn, 1) := by decide +kernel
theorem dX1_need_0 : decode cX1_need 0 = .ok (.aload_n 0, 1) := by decide +kernel
theorem dX1_need_1 : decode cX1_need 1 = .ok (.iload_n 1, 1) := by decide +kernel
theorem dX1_need_2 : decode cX1_need 2 = .ok (.invokevirtual 54, 3) := by decide +kernel
theorem dX1_need_5 : decode cX1_need 5 = .ok (.ifCond .eq 16, 3) := by decide +kernel
theorem dX1_need_8 : decode cX1_need 8 = .ok (.aload_n 0, 1) := by decide +kernel
theorem dX1_need_9 : decode cX1_need 9 = .ok (.dup, 1) := by decide +kernel
theorem dX1_need_10 : decode cX1_need 10 = .ok (.getfield 32, 3) := by decide +kernel
theorem dX1_need_13 : decode cX1_need 13 = .ok (.iconst 1, 1) := by decide +kernel
theorem dX1_need_14 : decode cX1_need 14 = .ok (.iadd, 1) := by decide +kernel
theorem dX1_need_15 : decode cX1_need 15 = .ok (.putfield 32, 3) := by decide +kernel
theorem dX1_need_18 : decode cX1_need 18 = .ok (.goto 7, 3) := by decide +kernel
theorem dX1_need_21 : decode cX1_need 21 = .ok (.aload_n 0, 1) := by decide +kernel
theorem dX1_need_22 : decode cX1_need 22 = .ok (.invokevirtual 58, 3) := by decide +kernel
theorem dX1_need_25 : decode cX1_need 25 = .ok (.return_, 1) := by decide +kernel
theorem dX1_fail_0 : decode cX1_fail 0 = .ok (.aload_n 0, 1) := by decide +kernel
theorem dX1_fail_1 : decode cX1_fail 1 = .ok (.getfield 18, 3) := by decide +kernel
theorem dX1_fail_4 : decode cX1_fail 4 = .ok (.iconst (-1), 1) := by decide +kernel
theorem dX1_fail_5 : decode cX1_fail 5 = .ok (.if_icmp .ne 18, 3) := by decide +kernel
theorem dX1_fail_8 : decode cX1_fail 8 = .ok (.aload_n 0, 1) := by decide +kernel
theorem dX1_fail_9 : decode cX1_fail 9 = .ok (.aload_n 0, 1) := by decide +kernel
theorem dX1_fail_10 : decode cX1_fail 10 = .ok (.getfield 22, 3) := by decide +kernel
theorem dX1_fail_13 : decode cX1_fail 13 = .ok (.aload_n 0, 1) := by decide +kernel
theorem dX1_fail_14 : decode cX1_fail 14 = .ok (.getfield 32, 3) := by decide +kernel
theorem dX1_fail_17 : decode cX1_fail 17 = .ok (.invokevirtual 61, 3) := by decide +kernel
theorem dX1_fail_20 : decode cX1_fail 20 = .ok (.putfield 18, 3) := by decide +kernel
theorem dX1_fail_23 : decode cX1_fail 23 = .ok (.return_, 1) := by decide +kernel
theorem dX1_opened_0 : decode cX1_opened 0 = .ok (.aload_n 0, 1) := by decide +kernel
theorem dX1_opened_1 : decode cX1_opened 1 = .ok (.getfield 29, 3) := by decide +kernel
theorem dX1_opened_4 : decode cX1_opened 4 = .ok (.iconst 5, 1) := by decide +kernel
theorem dX1_opened_5 : decode cX1_opened 5 = .ok (.if_icmp .ge 11, 3) := by decide +kernel
theorem dX1_opened_8 : decode cX1_opened 8 = .ok (.aload_n 0, 1) := by decide +kernel
theorem dX1_opened_9 : decode cX1_opened 9 = .ok (.iload_n 1, 1) := by decide +kernel
theorem dX1_opened_10 : decode cX1_opened 10 = .ok (.invokevirtual 54, 3) := by decide +kernel
theorem dX1_opened_13 : decode cX1_opened 13 = .ok (.ifCond .ne 5, 3) := by decide +kernel
theorem dX1_opened_16 : decode cX1_opened 16 = .ok (.iconst 0, 1) := by decide +kernel
theorem dX1_opened_17 : decode cX1_opened 17 = .ok (.ireturn, 1) := by decide +kernel
theorem dX1_opened_18 : decode cX1_opened 18 = .ok (.aload_n 0, 1) := by decide +kernel
theorem dX1_opened_19 : decode cX1_opened 19 = .ok (.dup, 1) := by decide +kernel
theorem dX1_opened_20 : decode cX1_opened 20 = .ok (.getfield 32, 3) := by decide +kernel
theorem dX1_opened_23 : decode cX1_opened 23 = .ok (.iconst 1, 1) := by decide +kernel
theorem dX1_opened_24 : decode cX1_opened 24 = .ok (.iadd, 1) := by decide +kernel
theorem dX1_opened_25 : decode cX1_opened 25 = .ok (.putfield 32, 3) := by decide +kernel
theorem dX1_opened_28 : decode cX1_opened 28 = .ok (.aload_n 0, 1) := by decide +kernel
theorem dX1_opened_29 : decode cX1_opened 29 = .ok (.dup, 1) := by decide +kernel
theorem dX1_opened_30 : decode cX1_opened 30 = .ok (.getfield 29, 3) := by decide +kernel
theorem dX1_opened_33 : decode cX1_opened 33 = .ok (.iconst 1, 1) := by decide +kernel
theorem dX1_opened_34 : decode cX1_opened 34 = .ok (.iadd, 1) := by decide +kernel
theorem dX1_opened_35 : decode cX1_opened 35 = .ok (.putfield 29, 3) := by decide +kernel
theorem dX1_opened_38 : decode cX1_opened 38 = .ok (.iconst 1, 1) := by decide +kernel
theorem dX1_opened_39 : decode cX1_opened 39 = .ok (.ireturn, 1) := by decide +kernel
theorem dX1_either_0 : decode cX1_either 0 = .ok (.aload_n 0, 1) := by decide +kernel
theorem dX1_either_1 : decode cX1_either 1 = .ok (.invokevirtual 64, 3) := by decide +kernel
theorem dX1_either_4 : decode cX1_either 4 = .ok (.iconst 0, 1) := by decide +kernel
theorem dX1_either_5 : decode cX1_either 5 = .ok (.istore_n 1, 1) := by decide +kernel
theorem dX1_either_6 : decode cX1_either 6 = .ok (.iload_n 1, 1) := by decide +kernel
theorem dX1_either_7 : decode cX1_either 7 = .ok (.sipush 160, 3) := by decide +kernel
theorem dX1_either_10 : decode cX1_either 10 = .ok (.if_icmp .ge 32, 3) := by decide +kernel
theorem dX1_either_13 : decode cX1_either 13 = .ok (.aload_n 0, 1) := by decide +kernel
theorem dX1_either_14 : decode cX1_either 14 = .ok (.sipush 263, 3) := by decide +kernel
theorem dX1_either_17 : decode cX1_either 17 = .ok (.invokevirtual 67, 3) := by decide +kernel
theorem dX1_either_20 : decode cX1_either 20 = .ok (.ifCond .eq 22, 3) := by decide +kernel
theorem dX1_either_23 : decode cX1_either 23 = .ok (.aload_n 0, 1) := by decide +kernel
theorem dX1_either_24 : decode cX1_either 24 = .ok (.invokevirtual 64, 3) := by decide +kernel
theorem dX1_either_27 : decode cX1_either 27 = .ok (.aload_n 0, 1) := by decide +kernel
theorem dX1_either_28 : decode cX1_either 28 = .ok (.getfield 12, 3) := by decide +kernel
theorem dX1_either_31 : decode cX1_either 31 = .ok (.bipush (-11), 2) := by decide +kernel
theorem dX1_either_33 : decode cX1_either 33 = .ok (.invokevirtual 70, 3) := by decide +kernel
theorem dX1_either_36 : decode cX1_either 36 = .ok (.iinc 1 1, 3) := by decide +kernel
theorem dX1_either_39 : decode cX1_either 39 = .ok (.goto (-33), 3) := by decide +kernel
theorem dX1_either_42 : decode cX1_either 42 = .ok (.return_, 1) := by decide +kernel
theorem dX1_both_0 : decode cX1_both 0 = .ok (.aload_n 0, 1) := by decide +kernel
theorem dX1_both_1 : decode cX1_both 1 = .ok (.invokevirtual 73, 3) := by decide +kernel
theorem dX1_both_4 : decode cX1_both 4 = .ok (.iconst 0, 1) := by decide +kernel
theorem dX1_both_5 : decode cX1_both 5 = .ok (.istore_n 1, 1) := by decide +kernel
theorem dX1_both_6 : decode cX1_both 6 = .ok (.iload_n 1, 1) := by decide +kernel
theorem dX1_both_7 : decode cX1_both 7 = .ok (.sipush 160, 3) := by decide +kernel
theorem dX1_both_10 : decode cX1_both 10 = .ok (.if_icmp .ge 32, 3) := by decide +kernel
theorem dX1_both_13 : decode cX1_both 13 = .ok (.aload_n 0, 1) := by decide +kernel
theorem dX1_both_14 : decode cX1_both 14 = .ok (.sipush 264, 3) := by decide +kernel
theorem dX1_both_17 : decode cX1_both 17 = .ok (.invokevirtual 67, 3) := by decide +kernel
theorem dX1_both_20 : decode cX1_both 20 = .ok (.ifCond .eq 22, 3) := by decide +kernel
theorem dX1_both_23 : decode cX1_both 23 = .ok (.aload_n 0, 1) := by decide +kernel
theorem dX1_both_24 : decode cX1_both 24 = .ok (.invokevirtual 73, 3) := by decide +kernel
theorem dX1_both_27 : decode cX1_both 27 = .ok (.aload_n 0, 1) := by decide +kernel
theorem dX1_both_28 : decode cX1_both 28 = .ok (.getfield 12, 3) := by decide +kernel
theorem dX1_both_31 : decode cX1_both 31 = .ok (.bipush (-12), 2) := by decide +kernel
theorem dX1_both_33 : decode cX1_both 33 = .ok (.invokevirtual 70, 3) := by decide +kernel
theorem dX1_both_36 : decode cX1_both 36 = .ok (.iinc 1 1, 3) := by decide +kernel
theorem dX1_both_39 : decode cX1_both 39 = .ok (.goto (-33), 3) := by decide +kernel
theorem dX1_both_42 : decode cX1_both 42 = .ok (.return_, 1) := by decide +kernel
theorem dX1_negated_0 : decode cX1_negated 0 = .ok (.aload_n 0, 1) := by decide +kernel
theorem dX1_negated_1 : decode cX1_negated 1 = .ok (.sipush 265, 3) := by decide +kernel
theorem dX1_negated_4 : decode cX1_negated 4 = .ok (.invokevirtual 76, 3) := by decide +kernel
theorem dX1_negated_7 : decode cX1_negated 7 = .ok (.ifCond .eq 27, 3) := by decide +kernel
theorem dX1_negated_10 : decode cX1_negated 10 = .ok (.aload_n 0, 1) := by decide +kernel
theorem dX1_negated_11 : decode cX1_negated 11 = .ok (.invokevirtual 73, 3) := by decide +kernel
theorem dX1_negated_14 : decode cX1_negated 14 = .ok (.aload_n 0, 1) := by decide +kernel
theorem dX1_negated_15 : decode cX1_negated 15 = .ok (.getfield 12, 3) := by decide +kernel
theorem dX1_negated_18 : decode cX1_negated 18 = .ok (.bipush (-13), 2) := by decide +kernel
theorem dX1_negated_20 : decode cX1_negated 20 = .ok (.invokevirtual 70, 3) := by decide +kernel
theorem dX1_negated_23 : decode cX1_negated 23 = .ok (.aload_n 0, 1) := by decide +kernel
theorem dX1_negated_24 : decode cX1_negated 24 = .ok (.dup, 1) := by decide +kernel
theorem dX1_negated_25 : decode cX1_negated 25 = .ok (.getfield 29, 3) := by decide +kernel
theorem dX1_negated_28 : decode cX1_negated 28 = .ok (.iconst 1, 1) := by decide +kernel
theorem dX1_negated_29 : decode cX1_negated 29 = .ok (.isub, 1) := by decide +kernel
theorem dX1_negated_30 : decode cX1_negated 30 = .ok (.putfield 29, 3) := by decide +kernel
theorem dX1_negated_33 : decode cX1_negated 33 = .ok (.return_, 1) := by decide +kernel
theorem dX1_negated_34 : decode cX1_negated 34 = .ok (.aload_n 0, 1) := by decide +kernel
theorem dX1_negated_35 : decode cX1_negated 35 = .ok (.invokevirtual 79, 3) := by decide +kernel
theorem dX1_negated_38 : decode cX1_negated 38 = .ok (.aload_n 0, 1) := by decide +kernel
theorem dX1_negated_39 : decode cX1_negated 39 = .ok (.bipush 60, 2) := by decide +kernel
theorem dX1_negated_41 : decode cX1_negated 41 = .ok (.invokevirtual 67, 3) := by decide +kernel
theorem dX1_negated_44 : decode cX1_negated 44 = .ok (.ifCond .eq 19, 3) := by decide +kernel
theorem dX1_negated_47 : decode cX1_negated 47 = .ok (.aload_n 0, 1) := by decide +kernel
theorem dX1_negated_48 : decode cX1_negated 48 = .ok (.invokevirtual 79, 3) := by decide +kernel
theorem dX1_negated_51 : decode cX1_negated 51 = .ok (.aload_n 0, 1) := by decide +kernel
theorem dX1_negated_52 : decode cX1_negated 52 = .ok (.getfield 12, 3) := by decide +kernel
theorem dX1_negated_55 : decode cX1_negated 55 = .ok (.bipush (-14), 2) := by decide +kernel
theorem dX1_negated_57 : decode cX1_negated 57 = .ok (.invokevirtual 70, 3) := by decide +kernel
theorem dX1_negated_60 : decode cX1_negated 60 = .ok (.goto 25, 3) := by decide +kernel
theorem dX1_negated_63 : decode cX1_negated 63 = .ok (.aload_n 0, 1) := by decide +kernel
theorem dX1_negated_64 : decode cX1_negated 64 = .ok (.bipush 61, 2) := by decide +kernel
theorem dX1_negated_66 : decode cX1_negated 66 = .ok (.invokevirtual 67, 3) := by decide +kernel
theorem dX1_negated_69 : decode cX1_negated 69 = .ok (.ifCond .eq 16, 3) := by decide +kernel
theorem dX1_negated_72 : decode cX1_negated 72 = .ok (.aload_n 0, 1) := by decide +kernel
theorem dX1_negated_73 : decode cX1_negated 73 = .ok (.invokevirtual 79, 3) := by decide +kernel
theorem dX1_negated_76 : decode cX1_negated 76 = .ok (.aload_n 0, 1) := by decide +kernel
theorem dX1_negated_77 : decode cX1_negated 77 = .ok (.getfield 12, 3) := by decide +kernel
theorem dX1_negated_80 : decode cX1_negated 80 = .ok (.bipush (-15), 2) := by decide +kernel
theorem dX1_negated_82 : decode cX1_negated 82 = .ok (.invokevirtual 70, 3) := by decide +kernel
theorem dX1_negated_85 : decode cX1_negated 85 = .ok (.return_, 1) := by decide +kernel
theorem dX1_summed_0 : decode cX1_summed 0 = .ok (.aload_n 0, 1) := by decide +kernel
theorem dX1_summed_1 : decode cX1_summed 1 = .ok (.invokevirtual 82, 3) := by decide +kernel
theorem dX1_summed_4 : decode cX1_summed 4 = .ok (.iconst 0, 1) := by decide +kernel
theorem dX1_summed_5 : decode cX1_summed 5 = .ok (.istore_n 1, 1) := by decide +kernel
theorem dX1_summed_6 : decode cX1_summed 6 = .ok (.iload_n 1, 1) := by decide +kernel
theorem dX1_summed_7 : decode cX1_summed 7 = .ok (.sipush 160, 3) := by decide +kernel
theorem dX1_summed_10 : decode cX1_summed 10 = .ok (.if_icmp .ge 66, 3) := by decide +kernel
theorem dX1_summed_13 : decode cX1_summed 13 = .ok (.aload_n 0, 1) := by decide +kernel
theorem dX1_summed_14 : decode cX1_summed 14 = .ok (.bipush 43, 2) := by decide +kernel
theorem dX1_summed_16 : decode cX1_summed 16 = .ok (.invokevirtual 54, 3) := by decide +kernel
theorem dX1_summed_19 : decode cX1_summed 19 = .ok (.ifCond .ne 12, 3) := by decide +kernel
theorem dX1_summed_22 : decode cX1_summed 22 = .ok (.aload_n 0, 1) := by decide +kernel
theorem dX1_summed_23 : decode cX1_summed 23 = .ok (.bipush 45, 2) := by decide +kernel
theorem dX1_summed_25 : decode cX1_summed 25 = .ok (.invokevirtual 54, 3) := by decide +kernel
theorem dX1_summed_28 : decode cX1_summed 28 = .ok (.ifCond .eq 48, 3) := by decide +kernel
theorem dX1_summed_31 : decode cX1_summed 31 = .ok (.aload_n 0, 1) := by decide +kernel
theorem dX1_summed_32 : decode cX1_summed 32 = .ok (.bipush 43, 2) := by decide +kernel
theorem dX1_summed_34 : decode cX1_summed 34 = .ok (.invokevirtual 54, 3) := by decide +kernel
theorem dX1_summed_37 : decode cX1_summed 37 = .ok (.ifCond .eq 8, 3) := by decide +kernel
theorem dX1_summed_40 : decode cX1_summed 40 = .ok (.bipush (-16), 2) := by decide +kernel
theorem dX1_summed_42 : decode cX1_summed 42 = .ok (.goto 5, 3) := by decide +kernel
theorem dX1_summed_45 : decode cX1_summed 45 = .ok (.bipush (-17), 2) := by decide +kernel
theorem dX1_summed_47 : decode cX1_summed 47 = .ok (.istore_n 2, 1) := by decide +kernel
theorem dX1_summed_48 : decode cX1_summed 48 = .ok (.aload_n 0, 1) := by decide +kernel
theorem dX1_summed_49 : decode cX1_summed 49 = .ok (.dup, 1) := by decide +kernel
theorem dX1_summed_50 : decode cX1_summed 50 = .ok (.getfield 32, 3) := by decide +kernel
theorem dX1_summed_53 : decode cX1_summed 53 = .ok (.iconst 1, 1) := by decide +kernel
theorem dX1_summed_54 : decode cX1_summed 54 = .ok (.iadd, 1) := by decide +kernel
theorem dX1_summed_55 : decode cX1_summed 55 = .ok (.putfield 32, 3) := by decide +kernel
theorem dX1_summed_58 : decode cX1_summed 58 = .ok (.aload_n 0, 1) := by decide +kernel
theorem dX1_summed_59 : decode cX1_summed 59 = .ok (.invokevirtual 82, 3) := by decide +kernel
theorem dX1_summed_62 : decode cX1_summed 62 = .ok (.aload_n 0, 1) := by decide +kernel
theorem dX1_summed_63 : decode cX1_summed 63 = .ok (.getfield 12, 3) := by decide +kernel
theorem dX1_summed_66 : decode cX1_summed 66 = .ok (.iload_n 2, 1) := by decide +kernel
theorem dX1_summed_67 : decode cX1_summed 67 = .ok (.invokevirtual 70, 3) := by decide +kernel
theorem dX1_summed_70 : decode cX1_summed 70 = .ok (.iinc 1 1, 3) := by decide +kernel
theorem dX1_summed_73 : decode cX1_summed 73 = .ok (.goto (-67), 3) := by decide +kernel
theorem dX1_summed_76 : decode cX1_summed 76 = .ok (.return_, 1) := by decide +kernel
theorem dX1_term_0 : decode cX1_term 0 = .ok (.aload_n 0, 1) := by decide +kernel
theorem dX1_term_1 : decode cX1_term 1 = .ok (.invokevirtual 85, 3) := by decide +kernel
theorem dX1_term_4 : decode cX1_term 4 = .ok (.iconst 0, 1) := by decide +kernel
theorem dX1_term_5 : decode cX1_term 5 = .ok (.istore_n 1, 1) := by decide +kernel
theorem dX1_term_6 : decode cX1_term 6 = .ok (.iload_n 1, 1) := by decide +kernel
theorem dX1_term_7 : decode cX1_term 7 = .ok (.sipush 160, 3) := by decide +kernel
theorem dX1_term_10 : decode cX1_term 10 = .ok (.if_icmp .ge 31, 3) := by decide +kernel
theorem dX1_term_13 : decode cX1_term 13 = .ok (.aload_n 0, 1) := by decide +kernel
theorem dX1_term_14 : decode cX1_term 14 = .ok (.bipush 42, 2) := by decide +kernel
theorem dX1_term_16 : decode cX1_term 16 = .ok (.invokevirtual 67, 3) := by decide +kernel
theorem dX1_term_19 : decode cX1_term 19 = .ok (.ifCond .eq 22, 3) := by decide +kernel
theorem dX1_term_22 : decode cX1_term 22 = .ok (.aload_n 0, 1) := by decide +kernel
theorem dX1_term_23 : decode cX1_term 23 = .ok (.invokevirtual 85, 3) := by decide +kernel
theorem dX1_term_26 : decode cX1_term 26 = .ok (.aload_n 0, 1) := by decide +kernel
theorem dX1_term_27 : decode cX1_term 27 = .ok (.getfield 12, 3) := by decide +kernel
theorem dX1_term_30 : decode cX1_term 30 = .ok (.bipush (-18), 2) := by decide +kernel
theorem dX1_term_32 : decode cX1_term 32 = .ok (.invokevirtual 70, 3) := by decide +kernel
theorem dX1_term_35 : decode cX1_term 35 = .ok (.iinc 1 1, 3) := by decide +kernel
theorem dX1_term_38 : decode cX1_term 38 = .ok (.goto (-32), 3) := by decide +kernel
theorem dX1_term_41 : decode cX1_term 41 = .ok (.return_, 1) := by decide +kernel
theorem dX1_one_0 : decode cX1_one 0 = .ok (.aload_n 0, 1) := by decide +kernel
theorem dX1_one_1 : decode cX1_one 1 = .ok (.bipush 45, 2) := by decide +kernel
theorem dX1_one_3 : decode cX1_one 3 = .ok (.invokevirtual 76, 3) := by decide +kernel
theorem dX1_one_6 : decode cX1_one 6 = .ok (.ifCond .eq 29, 3) := by decide +kernel
theorem dX1_one_9 : decode cX1_one 9 = .ok (.aload_n 0, 1) := by decide +kernel
theorem dX1_one_10 : decode cX1_one 10 = .ok (.invokevirtual 85, 3) := by decide +kernel
theorem dX1_one_13 : decode cX1_one 13 = .ok (.aload_n 0, 1) := by decide +kernel
theorem dX1_one_14 : decode cX1_one 14 = .ok (.getfield 12, 3) := by decide +kernel
theorem dX1_one_17 : decode cX1_one 17 = .ok (.bipush (-19), 2) := by decide +kernel
theorem dX1_one_19 : decode cX1_one 19 = .ok (.invokevirtual 70, 3) := by decide +kernel
theorem dX1_one_22 : decode cX1_one 22 = .ok (.aload_n 0, 1) := by decide +kernel
theorem dX1_one_23 : decode cX1_one 23 = .ok (.dup, 1) := by decide +kernel
theorem dX1_one_24 : decode cX1_one 24 = .ok (.getfield 29, 3) := by decide +kernel
theorem dX1_one_27 : decode cX1_one 27 = .ok (.iconst 1, 1) := by decide +kernel
theorem dX1_one_28 : decode cX1_one 28 = .ok (.isub, 1) := by decide +kernel
theorem dX1_one_29 : decode cX1_one 29 = .ok (.putfield 29, 3) := by decide +kernel
theorem dX1_one_32 : decode cX1_one 32 = .ok (.goto 39, 3) := by decide +kernel
theorem dX1_one_35 : decode cX1_one 35 = .ok (.aload_n 0, 1) := by decide +kernel
theorem dX1_one_36 : decode cX1_one 36 = .ok (.bipush 40, 2) := by decide +kernel
theorem dX1_one_38 : decode cX1_one 38 = .ok (.invokevirtual 76, 3) := by decide +kernel
theorem dX1_one_41 : decode cX1_one 41 = .ok (.ifCond .eq 26, 3) := by decide +kernel
theorem dX1_one_44 : decode cX1_one 44 = .ok (.aload_n 0, 1) := by decide +kernel
theorem dX1_one_45 : decode cX1_one 45 = .ok (.invokevirtual 44, 3) := by decide +kernel
theorem dX1_one_48 : decode cX1_one 48 = .ok (.aload_n 0, 1) := by decide +kernel
theorem dX1_one_49 : decode cX1_one 49 = .ok (.bipush 41, 2) := by decide +kernel
theorem dX1_one_51 : decode cX1_one 51 = .ok (.invokevirtual 41, 3) := by decide +kernel
theorem dX1_one_54 : decode cX1_one 54 = .ok (.aload_n 0, 1) := by decide +kernel
theorem dX1_one_55 : decode cX1_one 55 = .ok (.dup, 1) := by decide +kernel
theorem dX1_one_56 : decode cX1_one 56 = .ok (.getfield 29, 3) := by decide +kernel
theorem dX1_one_59 : decode cX1_one 59 = .ok (.iconst 1, 1) := by decide +kernel
theorem dX1_one_60 : decode cX1_one 60 = .ok (.isub, 1) := by decide +kernel
theorem dX1_one_61 : decode cX1_one 61 = .ok (.putfield 29, 3) := by decide +kernel
theorem dX1_one_64 : decode cX1_one 64 = .ok (.goto 7, 3) := by decide +kernel
theorem dX1_one_67 : decode cX1_one 67 = .ok (.aload_n 0, 1) := by decide +kernel
theorem dX1_one_68 : decode cX1_one 68 = .ok (.invokevirtual 88, 3) := by decide +kernel
theorem dX1_one_71 : decode cX1_one 71 = .ok (.return_, 1) := by decide +kernel
theorem dX1_numberOrName_0 : decode cX1_numberOrName 0 = .ok (.aload_n 0, 1) := by decide +kernel
theorem dX1_numberOrName_1 : decode cX1_numberOrName 1 = .ok (.getfield 18, 3) := by decide +kernel
theorem dX1_numberOrName_4 : decode cX1_numberOrName 4 = .ok (.iconst (-1), 1) := by decide +kernel
theorem dX1_numberOrName_5 : decode cX1_numberOrName 5 = .ok (.if_icmp .ne 17, 3) := by decide +kernel
theorem dX1_numberOrName_8 : decode cX1_numberOrName 8 = .ok (.aload_n 0, 1) := by decide +kernel
theorem dX1_numberOrName_9 : decode cX1_numberOrName 9 = .ok (.getfield 22, 3) := by decide +kernel
theorem dX1_numberOrName_12 : decode cX1_numberOrName 12 = .ok (.aload_n 0, 1) := by decide +kernel
theorem dX1_numberOrName_13 : decode cX1_numberOrName 13 = .ok (.getfield 32, 3) := by decide +kernel
theorem dX1_numberOrName_16 : decode cX1_numberOrName 16 = .ok (.invokevirtual 50, 3) := by decide +kernel
theorem dX1_numberOrName_19 : decode cX1_numberOrName 19 = .ok (.goto 6, 3) := by decide +kernel
theorem dX1_numberOrName_22 : decode cX1_numberOrName 22 = .ok (.sipush 257, 3) := by decide +kernel
theorem dX1_numberOrName_25 : decode cX1_numberOrName 25 = .ok (.istore_n 1, 1) := by decide +kernel
theorem dX1_numberOrName_26 : decode cX1_numberOrName 26 = .ok (.iload_n 1, 1) := by decide +kernel
theorem dX1_numberOrName_27 : decode cX1_numberOrName 27 = .ok (.sipush 1000, 3) := by decide +kernel
theorem dX1_numberOrName_30 : decode cX1_numberOrName 30 = .ok (.if_icmp .lt 18, 3) := by decide +kernel
theorem dX1_numberOrName_33 : decode cX1_numberOrName 33 = .ok (.aload_n 0, 1) := by decide +kernel
theorem dX1_numberOrName_34 : decode cX1_numberOrName 34 = .ok (.getfield 12, 3) := by decide +kernel
theorem dX1_numberOrName_37 : decode cX1_numberOrName 37 = .ok (.iload_n 1, 1) := by decide +kernel
theorem dX1_numberOrName_38 : decode cX1_numberOrName 38 = .ok (.sipush 1000, 3) := by decide +kernel
theorem dX1_numberOrName_41 : decode cX1_numberOrName 41 = .ok (.isub, 1) := by decide +kernel
theorem dX1_numberOrName_42 : decode cX1_numberOrName 42 = .ok (.invokevirtual 70, 3) := by decide +kernel
theorem dX1_numberOrName_45 : decode cX1_numberOrName 45 = .ok (.goto 36, 3) := by decide +kernel
theorem dX1_numberOrName_48 : decode cX1_numberOrName 48 = .ok (.iload_n 1, 1) := by decide +kernel
theorem dX1_numberOrName_49 : decode cX1_numberOrName 49 = .ok (.sipush 270, 3) := by decide +kernel
theorem dX1_numberOrName_52 : decode cX1_numberOrName 52 = .ok (.isub, 1) := by decide +kernel
theorem dX1_numberOrName_53 : decode cX1_numberOrName 53 = .ok (.bipush 6, 2) := by decide +kernel
theorem dX1_numberOrName_55 : decode cX1_numberOrName 55 = .ok (.invokestatic 91, 3) := by decide +kernel
theorem dX1_numberOrName_58 : decode cX1_numberOrName 58 = .ok (.ifCond .eq 18, 3) := by decide +kernel
theorem dX1_numberOrName_61 : decode cX1_numberOrName 61 = .ok (.aload_n 0, 1) := by decide +kernel
theorem dX1_numberOrName_62 : decode cX1_numberOrName 62 = .ok (.getfield 12, 3) := by decide +kernel
theorem dX1_numberOrName_65 : decode cX1_numberOrName 65 = .ok (.iload_n 1, 1) := by decide +kernel
theorem dX1_numberOrName_66 : decode cX1_numberOrName 66 = .ok (.sipush 270, 3) := by decide +kernel
theorem dX1_numberOrName_69 : decode cX1_numberOrName 69 = .ok (.isub, 1) := by decide +kernel
theorem dX1_numberOrName_70 : decode cX1_numberOrName 70 = .ok (.invokevirtual 95, 3) := by decide +kernel
theorem dX1_numberOrName_73 : decode cX1_numberOrName 73 = .ok (.goto 8, 3) := by decide +kernel
theorem dX1_numberOrName_76 : decode cX1_numberOrName 76 = .ok (.aload_n 0, 1) := by decide +kernel
theorem dX1_numberOrName_77 : decode cX1_numberOrName 77 = .ok (.invokevirtual 58, 3) := by decide +kernel
theorem dX1_numberOrName_80 : decode cX1_numberOrName 80 = .ok (.return_, 1) := by decide +kernel
theorem dX1_numberOrName_81 : decode cX1_numberOrName 81 = .ok (.aload_n 0, 1) := by decide +kernel
theorem dX1_numberOrName_82 : decode cX1_numberOrName 82 = .ok (.dup, 1) := by decide +kernel
theorem dX1_numberOrName_83 : decode cX1_numberOrName 83 = .ok (.getfield 32, 3) := by decide +kernel
theorem dX1_numberOrName_86 : decode cX1_numberOrName 86 = .ok (.iconst 1, 1) := by decide +kernel
theorem dX1_numberOrName_87 : decode cX1_numberOrName 87 = .ok (.iadd, 1) := by decide +kernel
theorem dX1_numberOrName_88 : decode cX1_numberOrName 88 = .ok (.putfield 32, 3) := by decide +kernel
theorem dX1_numberOrName_91 : decode cX1_numberOrName 91 = .ok (.return_, 1) := by decide +kernel
theorem dX2_init_0 : decode cX2_init 0 = .ok (.aload_n 0, 1) := by decide +kernel
theorem dX2_init_1 : decode cX2_init 1 = .ok (.invokespecial 3, 3) := by decide +kernel
theorem dX2_init_4 : decode cX2_init 4 = .ok (.aload_n 0, 1) := by decide +kernel
theorem dX2_init_5 : decode cX2_init 5 = .ok (.bipush 16, 2) := by decide +kernel
theorem dX2_init_7 : decode cX2_init 7 = .ok (.newarray .int, 2) := by decide +kernel
theorem dX2_init_9 : decode cX2_init 9 = .ok (.putfield 9, 3) := by decide +kernel
theorem dX2_init_12 : decode cX2_init 12 = .ok (.aload_n 0, 1) := by decide +kernel
theorem dX2_init_13 : decode cX2_init 13 = .ok (.bipush 16, 2) := by decide +kernel
theorem dX2_init_15 : decode cX2_init 15 = .ok (.newarray .int, 2) := by decide +kernel
theorem dX2_init_17 : decode cX2_init 17 = .ok (.putfield 15, 3) := by decide +kernel
theorem dX2_init_20 : decode cX2_init 20 = .ok (.aload_n 0, 1) := by decide +kernel
theorem dX2_init_21 : decode cX2_init 21 = .ok (.new 18, 3) := by decide +kernel
theorem dX2_init_24 : decode cX2_init 24 = .ok (.dup, 1) := by decide +kernel
theorem dX2_init_25 : decode cX2_init 25 = .ok (.bipush 64, 2) := by decide +kernel
theorem dX2_init_27 : decode cX2_init 27 = .ok (.invokespecial 20, 3) := by decide +kernel
theorem dX2_init_30 : decode cX2_init 30 = .ok (.putfield 23, 3) := by decide +kernel
theorem dX2_init_33 : decode cX2_init 33 = .ok (.aload_n 0, 1) := by decide +kernel
theorem dX2_init_34 : decode cX2_init 34 = .ok (.new 18, 3) := by decide +kernel
theorem dX2_init_37 : decode cX2_init 37 = .ok (.dup, 1) := by decide +kernel
theorem dX2_init_38 : decode cX2_init 38 = .ok (.bipush 64, 2) := by decide +kernel
theorem dX2_init_40 : decode cX2_init 40 = .ok (.invokespecial 20, 3) := by decide +kernel
theorem dX2_init_43 : decode cX2_init 43 = .ok (.putfield 27, 3) := by decide +kernel
theorem dX2_init_46 : decode cX2_init 46 = .ok (.aload_n 0, 1) := by decide +kernel
theorem dX2_init_47 : decode cX2_init 47 = .ok (.new 18, 3) := by decide +kernel
theorem dX2_init_50 : decode cX2_init 50 = .ok (.dup, 1) := by decide +kernel
theorem dX2_init_51 : decode cX2_init 51 = .ok (.bipush 64, 2) := by decide +kernel
theorem dX2_init_53 : decode cX2_init 53 = .ok (.invokespecial 20, 3) := by decide +kernel
theorem dX2_init_56 : decode cX2_init 56 = .ok (.putfield 30, 3) := by decide +kernel
theorem dX2_init_59 : decode cX2_init 59 = .ok (.aload_n 0, 1) := by decide +kernel
theorem dX2_init_60 : decode cX2_init 60 = .ok (.new 18, 3) := by decide +kernel
theorem dX2_init_63 : decode cX2_init 63 = .ok (.dup, 1) := by decide +kernel
theorem dX2_init_64 : decode cX2_init 64 = .ok (.bipush 64, 2) := by decide +kernel
theorem dX2_init_66 : decode cX2_init 66 = .ok (.invokespecial 20, 3) := by decide +kernel
theorem dX2_init_69 : decode cX2_init 69 = .ok (.putfield 33, 3) := by decide +kernel
theorem dX2_init_72 : decode cX2_init 72 = .ok (.aload_n 0, 1) := by decide +kernel
theorem dX2_init_73 : decode cX2_init 73 = .ok (.new 18, 3) := by decide +kernel
theorem dX2_init_76 : decode cX2_init 76 = .ok (.dup, 1) := by decide +kernel
theorem dX2_init_77 : decode cX2_init 77 = .ok (.bipush 64, 2) := by decide +kernel
theorem dX2_init_79 : decode cX2_init 79 = .ok (.invokespecial 20, 3) := by decide +kernel
theorem dX2_init_82 : decode cX2_init 82 = .ok (.putfield 36, 3) := by decide +kernel
theorem dX2_init_85 : decode cX2_init 85 = .ok (.aload_n 0, 1) := by decide +kernel
theorem dX2_init_86 : decode cX2_init 86 = .ok (.aload_n 1, 1) := by decide +kernel
theorem dX2_init_87 : decode cX2_init 87 = .ok (.putfield 39, 3) := by decide +kernel
theorem dX2_init_90 : decode cX2_init 90 = .ok (.aload_n 0, 1) := by decide +kernel
theorem dX2_init_91 : decode cX2_init 91 = .ok (.aload_n 2, 1) := by decide +kernel
theorem dX2_init_92 : decode cX2_init 92 = .ok (.putfield 43, 3) := by decide +kernel
theorem dX2_init_95 : decode cX2_init 95 = .ok (.return_, 1) := by decide +kernel
theorem dX2_size_0 : decode cX2_size 0 = .ok (.aload_n 0, 1) := by decide +kernel
theorem dX2_size_1 : decode cX2_size 1 = .ok (.getfield 47, 3) := by decide +kernel
theorem dX2_size_4 : decode cX2_size 4 = .ok (.ireturn, 1) := by decide +kernel
theorem dX2_wipe_0 : decode cX2_wipe 0 = .ok (.aload_n 0, 1) := by decide +kernel
theorem dX2_wipe_1 : decode cX2_wipe 1 = .ok (.iconst 0, 1) := by decide +kernel
theorem dX2_wipe_2 : decode cX2_wipe 2 = .ok (.putfield 47, 3) := by decide +kernel
theorem dX2_wipe_5 : decode cX2_wipe 5 = .ok (.return_, 1) := by decide +kernel
theorem dX2_append_0 : decode cX2_append 0 = .ok (.aload_n 0, 1) := by decide +kernel
theorem dX2_append_1 : decode cX2_append 1 = .ok (.getfield 47, 3) := by decide +kernel
theorem dX2_append_4 : decode cX2_append 4 = .ok (.bipush 16, 2) := by decide +kernel
theorem dX2_append_6 : decode cX2_append 6 = .ok (.if_icmp .ge 33, 3) := by decide +kernel
theorem dX2_append_9 : decode cX2_append 9 = .ok (.aload_n 0, 1) := by decide +kernel
theorem dX2_append_10 : decode cX2_append 10 = .ok (.getfield 9, 3) := by decide +kernel
theorem dX2_append_13 : decode cX2_append 13 = .ok (.aload_n 0, 1) := by decide +kernel
theorem dX2_append_14 : decode cX2_append 14 = .ok (.getfield 47, 3) := by decide +kernel
theorem dX2_append_17 : decode cX2_append 17 = .ok (.iload_n 1, 1) := by decide +kernel
theorem dX2_append_18 : decode cX2_append 18 = .ok (.iastore, 1) := by decide +kernel
theorem dX2_append_19 : decode cX2_append 19 = .ok (.aload_n 0, 1) := by decide +kernel
theorem dX2_append_20 : decode cX2_append 20 = .ok (.getfield 15, 3) := by decide +kernel
theorem dX2_append_23 : decode cX2_append 23 = .ok (.aload_n 0, 1) := by decide +kernel
theorem dX2_append_24 : decode cX2_append 24 = .ok (.getfield 47, 3) := by decide +kernel
theorem dX2_append_27 : decode cX2_append 27 = .ok (.iconst 0, 1) := by decide +kernel
theorem dX2_append_28 : decode cX2_append 28 = .ok (.iastore, 1) := by decide +kernel
theorem dX2_append_29 : decode cX2_append 29 = .ok (.aload_n 0, 1) := by decide +kernel
theorem dX2_append_30 : decode cX2_append 30 = .ok (.dup, 1) := by decide +kernel
theorem dX2_append_31 : decode cX2_append 31 = .ok (.getfield 47, 3) := by decide +kernel
theorem dX2_append_34 : decode cX2_append 34 = .ok (.iconst 1, 1) := by decide +kernel
theorem dX2_append_35 : decode cX2_append 35 = .ok (.iadd, 1) := by decide +kernel
theorem dX2_append_36 : decode cX2_append 36 = .ok (.putfield 47, 3) := by decide +kernel
theorem dX2_append_39 : decode cX2_append 39 = .ok (.return_, 1) := by decide +kernel
theorem dX2_numberOf_0 : decode cX2_numberOf 0 = .ok (.iload_n 1, 1) := by decide +kernel
theorem dX2_numberOf_1 : decode cX2_numberOf 1 = .ok (.aload_n 0, 1) := by decide +kernel
theorem dX2_numberOf_2 : decode cX2_numberOf 2 = .ok (.getfield 47, 3) := by decide +kernel
theorem dX2_numberOf_5 : decode cX2_numberOf 5 = .ok (.invokestatic 51, 3) := by decide +kernel
theorem dX2_numberOf_8 : decode cX2_numberOf 8 = .ok (.ifCond .eq 12, 3) := by decide +kernel
theorem dX2_numberOf_11 : decode cX2_numberOf 11 = .ok (.aload_n 0, 1) := by decide +kernel
theorem dX2_numberOf_12 : decode cX2_numberOf 12 = .ok (.getfield 9, 3) := by decide +kernel
theorem dX2_numberOf_15 : decode cX2_numberOf 15 = .ok (.iload_n 1, 1) := by decide +kernel
theorem dX2_numberOf_16 : decode cX2_numberOf 16 = .ok (.iaload, 1) := by decide +kernel
theorem dX2_numberOf_17 : decode cX2_numberOf 17 = .ok (.goto 4, 3) := by decide +kernel
theorem dX2_numberOf_20 : decode cX2_numberOf 20 = .ok (.iconst 0, 1) := by decide +kernel
theorem dX2_numberOf_21 : decode cX2_numberOf 21 = .ok (.ireturn, 1) := by decide +kernel
theorem dX2_valueOf_0 : decode cX2_valueOf 0 = .ok (.iload_n 1, 1) := by decide +kernel
theorem dX2_valueOf_1 : decode cX2_valueOf 1 = .ok (.aload_n 0, 1) := by decide +kernel
theorem dX2_valueOf_2 : decode cX2_valueOf 2 = .ok (.getfield 47, 3) := by decide +kernel
theorem dX2_valueOf_5 : decode cX2_valueOf 5 = .ok (.invokestatic 51, 3) := by decide +kernel
theorem dX2_valueOf_8 : decode cX2_valueOf 8 = .ok (.ifCond .eq 12, 3) := by decide +kernel
theorem dX2_valueOf_11 : decode cX2_valueOf 11 = .ok (.aload_n 0, 1) := by decide +kernel
theorem dX2_valueOf_12 : decode cX2_valueOf 12 = .ok (.getfield 15, 3) := by decide +kernel
theorem dX2_valueOf_15 : decode cX2_valueOf 15 = .ok (.iload_n 1, 1) := by decide +kernel
theorem dX2_valueOf_16 : decode cX2_valueOf 16 = .ok (.iaload, 1) := by decide +kernel
theorem dX2_valueOf_17 : decode cX2_valueOf 17 = .ok (.goto 4, 3) := by decide +kernel
theorem dX2_valueOf_20 : decode cX2_valueOf 20 = .ok (.iconst 0, 1) := by decide +kernel
theorem dX2_valueOf_21 : decode cX2_valueOf 21 = .ok (.ireturn, 1) := by decide +kernel
theorem dX2_give_0 : decode cX2_give 0 = .ok (.iload_n 1, 1) := by decide +kernel
theorem dX2_give_1 : decode cX2_give 1 = .ok (.aload_n 0, 1) := by decide +kernel
theorem dX2_give_2 : decode cX2_give 2 = .ok (.getfield 47, 3) := by decide +kernel
theorem dX2_give_5 : decode cX2_give 5 = .ok (.invokestatic 51, 3) := by decide +kernel
theorem dX2_give_8 : decode cX2_give 8 = .ok (.ifCond .eq 10, 3) := by decide +kernel
theorem dX2_give_11 : decode cX2_give 11 = .ok (.aload_n 0, 1) := by decide +kernel
theorem dX2_give_12 : decode cX2_give 12 = .ok (.getfield 15, 3) := by decide +kernel
theorem dX2_give_15 : decode cX2_give 15 = .ok (.iload_n 1, 1) := by decide +kernel
theorem dX2_give_16 : decode cX2_give 16 = .ok (.iload_n 2, 1) := by decide +kernel
theorem dX2_give_17 : decode cX2_give 17 = .ok (.iastore, 1) := by decide +kernel
theorem dX2_give_18 : decode cX2_give 18 = .ok (.return_, 1) := by decide +kernel
theorem dX2_timesAhead_0 : decode cX2_timesAhead 0 = .ok (.iconst 0, 1) := by decide +kernel
theorem dX2_timesAhead_1 : decode cX2_timesAhead 1 = .ok (.istore_n 2, 1) := by decide +kernel
theorem dX2_timesAhead_2 : decode cX2_timesAhead 2 = .ok (.iconst 0, 1) := by decide +kernel
theorem dX2_timesAhead_3 : decode cX2_timesAhead 3 = .ok (.istore_n 3, 1) := by decide +kernel
theorem dX2_timesAhead_4 : decode cX2_timesAhead 4 = .ok (.iload_n 3, 1) := by decide +kernel
theorem dX2_timesAhead_5 : decode cX2_timesAhead 5 = .ok (.iload_n 1, 1) := by decide +kernel
theorem dX2_timesAhead_6 : decode cX2_timesAhead 6 = .ok (.if_icmp .ge 25, 3) := by decide +kernel
theorem dX2_timesAhead_9 : decode cX2_timesAhead 9 = .ok (.aload_n 0, 1) := by decide +kernel
theorem dX2_timesAhead_10 : decode cX2_timesAhead 10 = .ok (.iload_n 3, 1) := by decide +kernel
theorem dX2_timesAhead_11 : decode cX2_timesAhead 11 = .ok (.invokevirtual 55, 3) := by decide +kernel
theorem dX2_timesAhead_14 : decode cX2_timesAhead 14 = .ok (.aload_n 0, 1) := by decide +kernel
theorem dX2_timesAhead_15 : decode cX2_timesAhead 15 = .ok (.iload_n 1, 1) := by decide +kernel
theorem dX2_timesAhead_16 : decode cX2_timesAhead 16 = .ok (.invokevirtual 55, 3) := by decide +kernel
theorem dX2_timesAhead_19 : decode cX2_timesAhead 19 = .ok (.if_icmp .ne 6, 3) := by decide +kernel
theorem dX2_timesAhead_22 : decode cX2_timesAhead 22 = .ok (.iinc 2 1, 3) := by decide +kernel
theorem dX2_timesAhead_25 : decode cX2_timesAhead 25 = .ok (.iinc 3 1, 3) := by decide +kernel
theorem dX2_timesAhead_28 : decode cX2_timesAhead 28 = .ok (.goto (-24), 3) := by decide +kernel
theorem dX2_timesAhead_31 : decode cX2_timesAhead 31 = .ok (.iload_n 2, 1) := by decide +kernel
theorem dX2_timesAhead_32 : decode cX2_timesAhead 32 = .ok (.ireturn, 1) := by decide +kernel
theorem dX2_hasAlike_0 : decode cX2_hasAlike 0 = .ok (.iconst 0, 1) := by decide +kernel
theorem dX2_hasAlike_1 : decode cX2_hasAlike 1 = .ok (.istore_n 1, 1) := by decide +kernel
theorem dX2_hasAlike_2 : decode cX2_hasAlike 2 = .ok (.iload_n 1, 1) := by decide +kernel
theorem dX2_hasAlike_3 : decode cX2_hasAlike 3 = .ok (.aload_n 0, 1) := by decide +kernel
theorem dX2_hasAlike_4 : decode cX2_hasAlike 4 = .ok (.getfield 47, 3) := by decide +kernel
theorem dX2_hasAlike_7 : decode cX2_hasAlike 7 = .ok (.if_icmp .ge 19, 3) := by decide +kernel
theorem dX2_hasAlike_10 : decode cX2_hasAlike 10 = .ok (.aload_n 0, 1) := by decide +kernel
theorem dX2_hasAlike_11 : decode cX2_hasAlike 11 = .ok (.iload_n 1, 1) := by decide +kernel
theorem dX2_hasAlike_12 : decode cX2_hasAlike 12 = .ok (.invokevirtual 59, 3) := by decide +kernel
theorem dX2_hasAlike_15 : decode cX2_hasAlike 15 = .ok (.ifCond .le 5, 3) := by decide +kernel
theorem dX2_hasAlike_18 : decode cX2_hasAlike 18 = .ok (.iconst 1, 1) := by decide +kernel
theorem dX2_hasAlike_19 : decode cX2_hasAlike 19 = .ok (.ireturn, 1) := by decide +kernel
theorem dX2_hasAlike_20 : decode cX2_hasAlike 20 = .ok (.iinc 1 1, 3) := by decide +kernel
theorem dX2_hasAlike_23 : decode cX2_hasAlike 23 = .ok (.goto (-21), 3) := by decide +kernel
theorem dX2_hasAlike_26 : decode cX2_hasAlike 26 = .ok (.iconst 0, 1) := by decide +kernel
theorem dX2_hasAlike_27 : decode cX2_hasAlike 27 = .ok (.ireturn, 1) := by decide +kernel
theorem dX2_interpolated_0 : decode cX2_interpolated 0 = .ok (.aload_n 0, 1) := by decide +kernel
theorem dX2_interpolated_1 : decode cX2_interpolated 1 = .ok (.getfield 23, 3) := by decide +kernel
theorem dX2_interpolated_4 : decode cX2_interpolated 4 = .ok (.invokevirtual 62, 3) := by decide +kernel
theorem dX2_interpolated_7 : decode cX2_interpolated 7 = .ok (.aload_n 0, 1) := by decide +kernel
theorem dX2_interpolated_8 : decode cX2_interpolated 8 = .ok (.getfield 27, 3) := by decide +kernel
theorem dX2_interpolated_11 : decode cX2_interpolated 11 = .ok (.invokevirtual 62, 3) := by decide +kernel
theorem dX2_interpolated_14 : decode cX2_interpolated 14 = .ok (.aload_n 0, 1) := by decide +kernel
theorem dX2_interpolated_15 : decode cX2_interpolated 15 = .ok (.getfield 27, 3) := by decide +kernel
theorem dX2_interpolated_18 : decode cX2_interpolated 18 = .ok (.iconst 0, 1) := by decide +kernel
theorem dX2_interpolated_19 : decode cX2_interpolated 19 = .ok (.iconst 1, 1) := by decide +kernel
theorem dX2_interpolated_20 : decode cX2_interpolated 20 = .ok (.invokevirtual 65, 3) := by decide +kernel
theorem dX2_interpolated_23 : decode cX2_interpolated 23 = .ok (.iconst 0, 1) := by decide +kernel
theorem dX2_interpolated_24 : decode cX2_interpolated 24 = .ok (.istore_n 1, 1) := by decide +kernel
theorem dX2_interpolated_25 : decode cX2_interpolated 25 = .ok (.iload_n 1, 1) := by decide +kernel
theorem dX2_interpolated_26 : decode cX2_interpolated 26 = .ok (.aload_n 0, 1) := by decide +kernel
theorem dX2_interpolated_27 : decode cX2_interpolated 27 = .ok (.getfield 47, 3) := by decide +kernel
theorem dX2_interpolated_30 : decode cX2_interpolated 30 = .ok (.if_icmp .ge 138, 3) := by decide +kernel
theorem dX2_interpolated_33 : decode cX2_interpolated 33 = .ok (.aload_n 0, 1) := by decide +kernel
theorem dX2_interpolated_34 : decode cX2_interpolated 34 = .ok (.iload_n 1, 1) := by decide +kernel
theorem dX2_interpolated_35 : decode cX2_interpolated 35 = .ok (.invokevirtual 55, 3) := by decide +kernel
theorem dX2_interpolated_38 : decode cX2_interpolated 38 = .ok (.istore_n 2, 1) := by decide +kernel
theorem dX2_interpolated_39 : decode cX2_interpolated 39 = .ok (.aload_n 0, 1) := by decide +kernel
theorem dX2_interpolated_40 : decode cX2_interpolated 40 = .ok (.iload_n 1, 1) := by decide +kernel
theorem dX2_interpolated_41 : decode cX2_interpolated 41 = .ok (.invokevirtual 59, 3) := by decide +kernel
theorem dX2_interpolated_44 : decode cX2_interpolated 44 = .ok (.istore_n 3, 1) := by decide +kernel
theorem dX2_interpolated_45 : decode cX2_interpolated 45 = .ok (.aload_n 0, 1) := by decide +kernel
theorem dX2_interpolated_46 : decode cX2_interpolated 46 = .ok (.getfield 39, 3) := by decide +kernel
theorem dX2_interpolated_49 : decode cX2_interpolated 49 = .ok (.aload_n 0, 1) := by decide +kernel
theorem dX2_interpolated_50 : decode cX2_interpolated 50 = .ok (.iload_n 1, 1) := by decide +kernel
theorem dX2_interpolated_51 : decode cX2_interpolated 51 = .ok (.invokevirtual 69, 3) := by decide +kernel
theorem dX2_interpolated_54 : decode cX2_interpolated 54 = .ok (.i2l, 1) := by decide +kernel
theorem dX2_interpolated_55 : decode cX2_interpolated 55 = .ok (.aload_n 0, 1) := by decide +kernel
theorem dX2_interpolated_56 : decode cX2_interpolated 56 = .ok (.getfield 43, 3) := by decide +kernel
theorem dX2_interpolated_59 : decode cX2_interpolated 59 = .ok (.aload_n 0, 1) := by decide +kernel
theorem dX2_interpolated_60 : decode cX2_interpolated 60 = .ok (.getfield 23, 3) := by decide +kernel
theorem dX2_interpolated_63 : decode cX2_interpolated 63 = .ok (.iload_n 2, 1) := by decide +kernel
theorem dX2_interpolated_64 : decode cX2_interpolated 64 = .ok (.iload_n 3, 1) := by decide +kernel
theorem dX2_interpolated_65 : decode cX2_interpolated 65 = .ok (.iconst 1, 1) := by decide +kernel
theorem dX2_interpolated_66 : decode cX2_interpolated 66 = .ok (.iadd, 1) := by decide +kernel
theorem dX2_interpolated_67 : decode cX2_interpolated 67 = .ok (.invokevirtual 72, 3) := by decide +kernel
theorem dX2_interpolated_70 : decode cX2_interpolated 70 = .ok (.iload_n 3, 1) := by decide +kernel
theorem dX2_interpolated_71 : decode cX2_interpolated 71 = .ok (.invokevirtual 78, 3) := by decide +kernel
theorem dX2_interpolated_74 : decode cX2_interpolated 74 = .ok (.i2l, 1) := by decide +kernel
theorem dX2_interpolated_75 : decode cX2_interpolated 75 = .ok (.lsub, 1) := by decide +kernel
theorem dX2_interpolated_76 : decode cX2_interpolated 76 = .ok (.invokevirtual 81, 3) := by decide +kernel
theorem dX2_interpolated_79 : decode cX2_interpolated 79 = .ok (.istore 4, 2) := by decide +kernel
theorem dX2_interpolated_81 : decode cX2_interpolated 81 = .ok (.aload_n 0, 1) := by decide +kernel
theorem dX2_interpolated_82 : decode cX2_interpolated 82 = .ok (.getfield 43, 3) := by decide +kernel
theorem dX2_interpolated_85 : decode cX2_interpolated 85 = .ok (.aload_n 0, 1) := by decide +kernel
theorem dX2_interpolated_86 : decode cX2_interpolated 86 = .ok (.getfield 27, 3) := by decide +kernel
theorem dX2_interpolated_89 : decode cX2_interpolated 89 = .ok (.iload_n 2, 1) := by decide +kernel
theorem dX2_interpolated_90 : decode cX2_interpolated 90 = .ok (.iload_n 3, 1) := by decide +kernel
theorem dX2_interpolated_91 : decode cX2_interpolated 91 = .ok (.iconst 1, 1) := by decide +kernel
theorem dX2_interpolated_92 : decode cX2_interpolated 92 = .ok (.iadd, 1) := by decide +kernel
theorem dX2_interpolated_93 : decode cX2_interpolated 93 = .ok (.invokevirtual 72, 3) := by decide +kernel
theorem dX2_interpolated_96 : decode cX2_interpolated 96 = .ok (.iload_n 3, 1) := by decide +kernel
theorem dX2_interpolated_97 : decode cX2_interpolated 97 = .ok (.invokevirtual 78, 3) := by decide +kernel
theorem dX2_interpolated_100 : decode cX2_interpolated 100 = .ok (.istore 5, 2) := by decide +kernel
theorem dX2_interpolated_102 : decode cX2_interpolated 102 = .ok (.aload_n 0, 1) := by decide +kernel
theorem dX2_interpolated_103 : decode cX2_interpolated 103 = .ok (.getfield 43, 3) := by decide +kernel
theorem dX2_interpolated_106 : decode cX2_interpolated 106 = .ok (.aload_n 0, 1) := by decide +kernel
theorem dX2_interpolated_107 : decode cX2_interpolated 107 = .ok (.getfield 23, 3) := by decide +kernel
theorem dX2_interpolated_110 : decode cX2_interpolated 110 = .ok (.aload_n 0, 1) := by decide +kernel
theorem dX2_interpolated_111 : decode cX2_interpolated 111 = .ok (.getfield 39, 3) := by decide +kernel
theorem dX2_interpolated_114 : decode cX2_interpolated 114 = .ok (.iload 4, 2) := by decide +kernel
theorem dX2_interpolated_116 : decode cX2_interpolated 116 = .ok (.aload_n 0, 1) := by decide +kernel
theorem dX2_interpolated_117 : decode cX2_interpolated 117 = .ok (.getfield 39, 3) := by decide +kernel
theorem dX2_interpolated_120 : decode cX2_interpolated 120 = .ok (.iload 5, 2) := by decide +kernel
theorem dX2_interpolated_122 : decode cX2_interpolated 122 = .ok (.invokevirtual 87, 3) := by decide +kernel
theorem dX2_interpolated_125 : decode cX2_interpolated 125 = .ok (.invokevirtual 90, 3) := by decide +kernel
theorem dX2_interpolated_128 : decode cX2_interpolated 128 = .ok (.aload_n 0, 1) := by decide +kernel
theorem dX2_interpolated_129 : decode cX2_interpolated 129 = .ok (.getfield 27, 3) := by decide +kernel
theorem dX2_interpolated_132 : decode cX2_interpolated 132 = .ok (.iconst 0, 1) := by decide +kernel
theorem dX2_interpolated_133 : decode cX2_interpolated 133 = .ok (.invokevirtual 94, 3) := by decide +kernel
theorem dX2_interpolated_136 : decode cX2_interpolated 136 = .ok (.aload_n 0, 1) := by decide +kernel
theorem dX2_interpolated_137 : decode cX2_interpolated 137 = .ok (.getfield 27, 3) := by decide +kernel
theorem dX2_interpolated_140 : decode cX2_interpolated 140 = .ok (.aload_n 0, 1) := by decide +kernel
theorem dX2_interpolated_141 : decode cX2_interpolated 141 = .ok (.getfield 43, 3) := by decide +kernel
theorem dX2_interpolated_144 : decode cX2_interpolated 144 = .ok (.aload_n 0, 1) := by decide +kernel
theorem dX2_interpolated_145 : decode cX2_interpolated 145 = .ok (.getfield 27, 3) := by decide +kernel
theorem dX2_interpolated_148 : decode cX2_interpolated 148 = .ok (.aload_n 0, 1) := by decide +kernel
theorem dX2_interpolated_149 : decode cX2_interpolated 149 = .ok (.getfield 43, 3) := by decide +kernel
theorem dX2_interpolated_152 : decode cX2_interpolated 152 = .ok (.iload_n 2, 1) := by decide +kernel
theorem dX2_interpolated_153 : decode cX2_interpolated 153 = .ok (.invokevirtual 98, 3) := by decide +kernel
theorem dX2_interpolated_156 : decode cX2_interpolated 156 = .ok (.invokevirtual 102, 3) := by decide +kernel
theorem dX2_interpolated_159 : decode cX2_interpolated 159 = .ok (.invokevirtual 106, 3) := by decide +kernel
theorem dX2_interpolated_162 : decode cX2_interpolated 162 = .ok (.iinc 1 1, 3) := by decide +kernel
theorem dX2_interpolated_165 : decode cX2_interpolated 165 = .ok (.goto (-140), 3) := by decide +kernel
theorem dX2_interpolated_168 : decode cX2_interpolated 168 = .ok (.aload_n 0, 1) := by decide +kernel
theorem dX2_interpolated_169 : decode cX2_interpolated 169 = .ok (.getfield 23, 3) := by decide +kernel
theorem dX2_interpolated_172 : decode cX2_interpolated 172 = .ok (.areturn, 1) := by decide +kernel
theorem dX2_nearest_0 : decode cX2_nearest 0 = .ok (.aload_n 0, 1) := by decide +kernel
theorem dX2_nearest_1 : decode cX2_nearest 1 = .ok (.invokevirtual 110, 3) := by decide +kernel
theorem dX2_nearest_4 : decode cX2_nearest 4 = .ok (.pop, 1) := by decide +kernel
theorem dX2_nearest_5 : decode cX2_nearest 5 = .ok (.aload_n 0, 1) := by decide +kernel
theorem dX2_nearest_6 : decode cX2_nearest 6 = .ok (.getfield 43, 3) := by decide +kernel
theorem dX2_nearest_9 : decode cX2_nearest 9 = .ok (.aload_n 0, 1) := by decide +kernel
theorem dX2_nearest_10 : decode cX2_nearest 10 = .ok (.getfield 27, 3) := by decide +kernel
theorem dX2_nearest_13 : decode cX2_nearest 13 = .ok (.aload_n 0, 1) := by decide +kernel
theorem dX2_nearest_14 : decode cX2_nearest 14 = .ok (.getfield 23, 3) := by decide +kernel
theorem dX2_nearest_17 : decode cX2_nearest 17 = .ok (.aload_n 0, 1) := by decide +kernel
theorem dX2_nearest_18 : decode cX2_nearest 18 = .ok (.getfield 47, 3) := by decide +kernel
theorem dX2_nearest_21 : decode cX2_nearest 21 = .ok (.iload_n 1, 1) := by decide +kernel
theorem dX2_nearest_22 : decode cX2_nearest 22 = .ok (.iadd, 1) := by decide +kernel
theorem dX2_nearest_23 : decode cX2_nearest 23 = .ok (.iconst 1, 1) := by decide +kernel
theorem dX2_nearest_24 : decode cX2_nearest 24 = .ok (.iadd, 1) := by decide +kernel
theorem dX2_nearest_25 : decode cX2_nearest 25 = .ok (.iconst 2, 1) := by decide +kernel
theorem dX2_nearest_26 : decode cX2_nearest 26 = .ok (.idiv, 1) := by decide +kernel
theorem dX2_nearest_27 : decode cX2_nearest 27 = .ok (.invokevirtual 114, 3) := by decide +kernel
theorem dX2_nearest_30 : decode cX2_nearest 30 = .ok (.aload_n 0, 1) := by decide +kernel
theorem dX2_nearest_31 : decode cX2_nearest 31 = .ok (.getfield 43, 3) := by decide +kernel
theorem dX2_nearest_34 : decode cX2_nearest 34 = .ok (.invokevirtual 118, 3) := by decide +kernel
theorem dX2_nearest_37 : decode cX2_nearest 37 = .ok (.areturn, 1) := by decide +kernel
theorem dX2_wrongFor_0 : decode cX2_wrongFor 0 = .ok (.iconst 0, 1) := by decide +kernel
theorem dX2_wrongFor_1 : decode cX2_wrongFor 1 = .ok (.istore_n 2, 1) := by decide +kernel
theorem dX2_wrongFor_2 : decode cX2_wrongFor 2 = .ok (.iconst 0, 1) := by decide +kernel
theorem dX2_wrongFor_3 : decode cX2_wrongFor 3 = .ok (.istore_n 3, 1) := by decide +kernel
theorem dX2_wrongFor_4 : decode cX2_wrongFor 4 = .ok (.iload_n 3, 1) := by decide +kernel
theorem dX2_wrongFor_5 : decode cX2_wrongFor 5 = .ok (.aload_n 0, 1) := by decide +kernel
theorem dX2_wrongFor_6 : decode cX2_wrongFor 6 = .ok (.getfield 47, 3) := by decide +kernel
theorem dX2_wrongFor_9 : decode cX2_wrongFor 9 = .ok (.if_icmp .ge 33, 3) := by decide +kernel
theorem dX2_wrongFor_12 : decode cX2_wrongFor 12 = .ok (.aload_n 0, 1) := by decide +kernel
theorem dX2_wrongFor_13 : decode cX2_wrongFor 13 = .ok (.getfield 43, 3) := by decide +kernel
theorem dX2_wrongFor_16 : decode cX2_wrongFor 16 = .ok (.aload_n 1, 1) := by decide +kernel
theorem dX2_wrongFor_17 : decode cX2_wrongFor 17 = .ok (.aload_n 0, 1) := by decide +kernel
theorem dX2_wrongFor_18 : decode cX2_wrongFor 18 = .ok (.iload_n 3, 1) := by decide +kernel
theorem dX2_wrongFor_19 : decode cX2_wrongFor 19 = .ok (.invokevirtual 55, 3) := by decide +kernel
theorem dX2_wrongFor_22 : decode cX2_wrongFor 22 = .ok (.invokevirtual 121, 3) := by decide +kernel
theorem dX2_wrongFor_25 : decode cX2_wrongFor 25 = .ok (.aload_n 0, 1) := by decide +kernel
theorem dX2_wrongFor_26 : decode cX2_wrongFor 26 = .ok (.iload_n 3, 1) := by decide +kernel
theorem dX2_wrongFor_27 : decode cX2_wrongFor 27 = .ok (.invokevirtual 69, 3) := by decide +kernel
theorem dX2_wrongFor_30 : decode cX2_wrongFor 30 = .ok (.if_icmp .eq 6, 3) := by decide +kernel
theorem dX2_wrongFor_33 : decode cX2_wrongFor 33 = .ok (.iinc 2 1, 3) := by decide +kernel
theorem dX2_wrongFor_36 : decode cX2_wrongFor 36 = .ok (.iinc 3 1, 3) := by decide +kernel
theorem dX2_wrongFor_39 : decode cX2_wrongFor 39 = .ok (.goto (-35), 3) := by decide +kernel
theorem dX2_wrongFor_42 : decode cX2_wrongFor 42 = .ok (.iload_n 2, 1) := by decide +kernel
theorem dX2_wrongFor_43 : decode cX2_wrongFor 43 = .ok (.ireturn, 1) := by decide +kernel
theorem dX2_seekRelation_0 : decode cX2_seekRelation 0 = .ok (.aload_n 0, 1) := by decide +kernel
theorem dX2_seekRelation_1 : decode cX2_seekRelation 1 = .ok (.getfield 30, 3) := by decide +kernel
theorem dX2_seekRelation_4 : decode cX2_seekRelation 4 = .ok (.invokevirtual 62, 3) := by decide +kernel
theorem dX2_seekRelation_7 : decode cX2_seekRelation 7 = .ok (.aload_n 0, 1) := by decide +kernel
theorem dX2_seekRelation_8 : decode cX2_seekRelation 8 = .ok (.getfield 30, 3) := by decide +kernel
theorem dX2_seekRelation_11 : decode cX2_seekRelation 11 = .ok (.iconst 0, 1) := by decide +kernel
theorem dX2_seekRelation_12 : decode cX2_seekRelation 12 = .ok (.iconst 1, 1) := by decide +kernel
theorem dX2_seekRelation_13 : decode cX2_seekRelation 13 = .ok (.invokevirtual 65, 3) := by decide +kernel
theorem dX2_seekRelation_16 : decode cX2_seekRelation 16 = .ok (.aload_n 0, 1) := by decide +kernel
theorem dX2_seekRelation_17 : decode cX2_seekRelation 17 = .ok (.getfield 33, 3) := by decide +kernel
theorem dX2_seekRelation_20 : decode cX2_seekRelation 20 = .ok (.aload_n 0, 1) := by decide +kernel
theorem dX2_seekRelation_21 : decode cX2_seekRelation 21 = .ok (.getfield 30, 3) := by decide +kernel
theorem dX2_seekRelation_24 : decode cX2_seekRelation 24 = .ok (.invokevirtual 106, 3) := by decide +kernel
theorem dX2_seekRelation_27 : decode cX2_seekRelation 27 = .ok (.iconst 0, 1) := by decide +kernel
theorem dX2_seekRelation_28 : decode cX2_seekRelation 28 = .ok (.istore_n 1, 1) := by decide +kernel
theorem dX2_seekRelation_29 : decode cX2_seekRelation 29 = .ok (.iconst 1, 1) := by decide +kernel
theorem dX2_seekRelation_30 : decode cX2_seekRelation 30 = .ok (.istore_n 2, 1) := by decide +kernel
theorem dX2_seekRelation_31 : decode cX2_seekRelation 31 = .ok (.iconst 1, 1) := by decide +kernel
theorem dX2_seekRelation_32 : decode cX2_seekRelation 32 = .ok (.istore_n 3, 1) := by decide +kernel
theorem dX2_seekRelation_33 : decode cX2_seekRelation 33 = .ok (.iconst 0, 1) := by decide +kernel
theorem dX2_seekRelation_34 : decode cX2_seekRelation 34 = .ok (.istore 4, 2) := by decide +kernel
theorem dX2_seekRelation_36 : decode cX2_seekRelation 36 = .ok (.iload 4, 2) := by decide +kernel
theorem dX2_seekRelation_38 : decode cX2_seekRelation 38 = .ok (.aload_n 0, 1) := by decide +kernel
theorem dX2_seekRelation_39 : decode cX2_seekRelation 39 = .ok (.getfield 47, 3) := by decide +kernel
theorem dX2_seekRelation_42 : decode cX2_seekRelation 42 = .ok (.if_icmp .ge 117, 3) := by decide +kernel
theorem dX2_seekRelation_45 : decode cX2_seekRelation 45 = .ok (.aload_n 0, 1) := by decide +kernel
theorem dX2_seekRelation_46 : decode cX2_seekRelation 46 = .ok (.iload 4, 2) := by decide +kernel
theorem dX2_seekRelation_48 : decode cX2_seekRelation 48 = .ok (.invokevirtual 125, 3) := by decide +kernel
theorem dX2_seekRelation_51 : decode cX2_seekRelation 51 = .ok (.istore 5, 2) := by decide +kernel
theorem dX2_seekRelation_53 : decode cX2_seekRelation 53 = .ok (.iload 5, 2) := by decide +kernel
theorem dX2_seekRelation_55 : decode cX2_seekRelation 55 = .ok (.ifCond .ne 6, 3) := by decide +kernel
theorem dX2_seekRelation_58 : decode cX2_seekRelation 58 = .ok (.goto 92, 3) := by decide +kernel
theorem dX2_seekRelation_61 : decode cX2_seekRelation 61 = .ok (.aload_n 0, 1) := by decide +kernel
theorem dX2_seekRelation_62 : decode cX2_seekRelation 62 = .ok (.getfield 36, 3) := by decide +kernel
theorem dX2_seekRelation_65 : decode cX2_seekRelation 65 = .ok (.aload_n 0, 1) := by decide +kernel
theorem dX2_seekRelation_66 : decode cX2_seekRelation 66 = .ok (.getfield 30, 3) := by decide +kernel
theorem dX2_seekRelation_69 : decode cX2_seekRelation 69 = .ok (.invokevirtual 106, 3) := by decide +kernel
theorem dX2_seekRelation_72 : decode cX2_seekRelation 72 = .ok (.aload_n 0, 1) := by decide +kernel
theorem dX2_seekRelation_73 : decode cX2_seekRelation 73 = .ok (.getfield 39, 3) := by decide +kernel
theorem dX2_seekRelation_76 : decode cX2_seekRelation 76 = .ok (.iload 5, 2) := by decide +kernel
theorem dX2_seekRelation_78 : decode cX2_seekRelation 78 = .ok (.aload_n 0, 1) := by decide +kernel
theorem dX2_seekRelation_79 : decode cX2_seekRelation 79 = .ok (.getfield 39, 3) := by decide +kernel
theorem dX2_seekRelation_82 : decode cX2_seekRelation 82 = .ok (.iload_n 3, 1) := by decide +kernel
theorem dX2_seekRelation_83 : decode cX2_seekRelation 83 = .ok (.invokevirtual 87, 3) := by decide +kernel
theorem dX2_seekRelation_86 : decode cX2_seekRelation 86 = .ok (.invokevirtual 90, 3) := by decide +kernel
theorem dX2_seekRelation_89 : decode cX2_seekRelation 89 = .ok (.istore 6, 2) := by decide +kernel
theorem dX2_seekRelation_91 : decode cX2_seekRelation 91 = .ok (.aload_n 0, 1) := by decide +kernel
theorem dX2_seekRelation_92 : decode cX2_seekRelation 92 = .ok (.getfield 43, 3) := by decide +kernel
theorem dX2_seekRelation_95 : decode cX2_seekRelation 95 = .ok (.aload_n 0, 1) := by decide +kernel
theorem dX2_seekRelation_96 : decode cX2_seekRelation 96 = .ok (.getfield 30, 3) := by decide +kernel
theorem dX2_seekRelation_99 : decode cX2_seekRelation 99 = .ok (.iload 6, 2) := by decide +kernel
theorem dX2_seekRelation_101 : decode cX2_seekRelation 101 = .ok (.ineg, 1) := by decide +kernel
theorem dX2_seekRelation_102 : decode cX2_seekRelation 102 = .ok (.aload_n 0, 1) := by decide +kernel
theorem dX2_seekRelation_103 : decode cX2_seekRelation 103 = .ok (.getfield 33, 3) := by decide +kernel
theorem dX2_seekRelation_106 : decode cX2_seekRelation 106 = .ok (.iload_n 2, 1) := by decide +kernel
theorem dX2_seekRelation_107 : decode cX2_seekRelation 107 = .ok (.invokevirtual 94, 3) := by decide +kernel
theorem dX2_seekRelation_110 : decode cX2_seekRelation 110 = .ok (.iconst 2, 1) := by decide +kernel
theorem dX2_seekRelation_111 : decode cX2_seekRelation 111 = .ok (.iload_n 1, 1) := by decide +kernel
theorem dX2_seekRelation_112 : decode cX2_seekRelation 112 = .ok (.imul, 1) := by decide +kernel
theorem dX2_seekRelation_113 : decode cX2_seekRelation 113 = .ok (.iload 4, 2) := by decide +kernel
theorem dX2_seekRelation_115 : decode cX2_seekRelation 115 = .ok (.if_icmp .gt 35, 3) := by decide +kernel
theorem dX2_seekRelation_118 : decode cX2_seekRelation 118 = .ok (.iload 4, 2) := by decide +kernel
theorem dX2_seekRelation_120 : decode cX2_seekRelation 120 = .ok (.iconst 1, 1) := by decide +kernel
theorem dX2_seekRelation_121 : decode cX2_seekRelation 121 = .ok (.iadd, 1) := by decide +kernel
theorem dX2_seekRelation_122 : decode cX2_seekRelation 122 = .ok (.iload_n 1, 1) := by decide +kernel
theorem dX2_seekRelation_123 : decode cX2_seekRelation 123 = .ok (.isub, 1) := by decide +kernel
theorem dX2_seekRelation_124 : decode cX2_seekRelation 124 = .ok (.istore_n 1, 1) := by decide +kernel
theorem dX2_seekRelation_125 : decode cX2_seekRelation 125 = .ok (.iload 5, 2) := by decide +kernel
theorem dX2_seekRelation_127 : decode cX2_seekRelation 127 = .ok (.istore_n 3, 1) := by decide +kernel
theorem dX2_seekRelation_128 : decode cX2_seekRelation 128 = .ok (.iconst 0, 1) := by decide +kernel
theorem dX2_seekRelation_129 : decode cX2_seekRelation 129 = .ok (.istore_n 2, 1) := by decide +kernel
theorem dX2_seekRelation_130 : decode cX2_seekRelation 130 = .ok (.aload_n 0, 1) := by decide +kernel
theorem dX2_seekRelation_131 : decode cX2_seekRelation 131 = .ok (.getfield 33, 3) := by decide +kernel
theorem dX2_seekRelation_134 : decode cX2_seekRelation 134 = .ok (.astore 7, 2) := by decide +kernel
theorem dX2_seekRelation_136 : decode cX2_seekRelation 136 = .ok (.aload_n 0, 1) := by decide +kernel
theorem dX2_seekRelation_137 : decode cX2_seekRelation 137 = .ok (.aload_n 0, 1) := by decide +kernel
theorem dX2_seekRelation_138 : decode cX2_seekRelation 138 = .ok (.getfield 36, 3) := by decide +kernel
theorem dX2_seekRelation_141 : decode cX2_seekRelation 141 = .ok (.putfield 33, 3) := by decide +kernel
theorem dX2_seekRelation_144 : decode cX2_seekRelation 144 = .ok (.aload_n 0, 1) := by decide +kernel
theorem dX2_seekRelation_145 : decode cX2_seekRelation 145 = .ok (.aload 7, 2) := by decide +kernel
theorem dX2_seekRelation_147 : decode cX2_seekRelation 147 = .ok (.putfield 36, 3) := by decide +kernel
theorem dX2_seekRelation_150 : decode cX2_seekRelation 150 = .ok (.iinc 4 1, 3) := by decide +kernel
theorem dX2_seekRelation_153 : decode cX2_seekRelation 153 = .ok (.iinc 2 1, 3) := by decide +kernel
theorem dX2_seekRelation_156 : decode cX2_seekRelation 156 = .ok (.goto (-120), 3) := by decide +kernel
theorem dX2_seekRelation_159 : decode cX2_seekRelation 159 = .ok (.iload_n 1, 1) := by decide +kernel
theorem dX2_seekRelation_160 : decode cX2_seekRelation 160 = .ok (.ireturn, 1) := by decide +kernel
theorem dX2_lack_0 : decode cX2_lack 0 = .ok (.lconst 0, 1) := by decide +kernel
theorem dX2_lack_1 : decode cX2_lack 1 = .ok (.lstore_n 2, 1) := by decide +kernel
theorem dX2_lack_2 : decode cX2_lack 2 = .ok (.iconst 0, 1) := by decide +kernel
theorem dX2_lack_3 : decode cX2_lack 3 = .ok (.istore 4, 2) := by decide +kernel
theorem dX2_lack_5 : decode cX2_lack 5 = .ok (.iload 4, 2) := by decide +kernel
theorem dX2_lack_7 : decode cX2_lack 7 = .ok (.aload_n 0, 1) := by decide +kernel
theorem dX2_lack_8 : decode cX2_lack 8 = .ok (.getfield 30, 3) := by decide +kernel
theorem dX2_lack_11 : decode cX2_lack 11 = .ok (.invokevirtual 128, 3) := by decide +kernel
theorem dX2_lack_14 : decode cX2_lack 14 = .ok (.if_icmp .ge 32, 3) := by decide +kernel
theorem dX2_lack_17 : decode cX2_lack 17 = .ok (.lload_n 2, 1) := by decide +kernel
theorem dX2_lack_18 : decode cX2_lack 18 = .ok (.aload_n 0, 1) := by decide +kernel
theorem dX2_lack_19 : decode cX2_lack 19 = .ok (.getfield 30, 3) := by decide +kernel
theorem dX2_lack_22 : decode cX2_lack 22 = .ok (.iload 4, 2) := by decide +kernel
theorem dX2_lack_24 : decode cX2_lack 24 = .ok (.invokevirtual 78, 3) := by decide +kernel
theorem dX2_lack_27 : decode cX2_lack 27 = .ok (.i2l, 1) := by decide +kernel
theorem dX2_lack_28 : decode cX2_lack 28 = .ok (.aload_n 0, 1) := by decide +kernel
theorem dX2_lack_29 : decode cX2_lack 29 = .ok (.iload_n 1, 1) := by decide +kernel
theorem dX2_lack_30 : decode cX2_lack 30 = .ok (.iload 4, 2) := by decide +kernel
theorem dX2_lack_32 : decode cX2_lack 32 = .ok (.isub, 1) := by decide +kernel
theorem dX2_lack_33 : decode cX2_lack 33 = .ok (.invokevirtual 69, 3) := by decide +kernel
theorem dX2_lack_36 : decode cX2_lack 36 = .ok (.i2l, 1) := by decide +kernel
theorem dX2_lack_37 : decode cX2_lack 37 = .ok (.lmul, 1) := by decide +kernel
theorem dX2_lack_38 : decode cX2_lack 38 = .ok (.ladd, 1) := by decide +kernel
theorem dX2_lack_39 : decode cX2_lack 39 = .ok (.lstore_n 2, 1) := by decide +kernel
theorem dX2_lack_40 : decode cX2_lack 40 = .ok (.iinc 4 1, 3) := by decide +kernel
theorem dX2_lack_43 : decode cX2_lack 43 = .ok (.goto (-38), 3) := by decide +kernel
theorem dX2_lack_46 : decode cX2_lack 46 = .ok (.aload_n 0, 1) := by decide +kernel
theorem dX2_lack_47 : decode cX2_lack 47 = .ok (.getfield 39, 3) := by decide +kernel
theorem dX2_lack_50 : decode cX2_lack 50 = .ok (.lload_n 2, 1) := by decide +kernel
theorem dX2_lack_51 : decode cX2_lack 51 = .ok (.invokevirtual 81, 3) := by decide +kernel
theorem dX2_lack_54 : decode cX2_lack 54 = .ok (.ireturn, 1) := by decide +kernel
theorem dX2_soughtFactor_0 : decode cX2_soughtFactor 0 = .ok (.aload_n 0, 1) := by decide +kernel
theorem dX2_soughtFactor_1 : decode cX2_soughtFactor 1 = .ok (.getfield 39, 3) := by decide +kernel
theorem dX2_soughtFactor_4 : decode cX2_soughtFactor 4 = .ok (.aload_n 0, 1) := by decide +kernel
theorem dX2_soughtFactor_5 : decode cX2_soughtFactor 5 = .ok (.getfield 30, 3) := by decide +kernel
theorem dX2_soughtFactor_8 : decode cX2_soughtFactor 8 = .ok (.iload_n 1, 1) := by decide +kernel
theorem dX2_soughtFactor_9 : decode cX2_soughtFactor 9 = .ok (.invokevirtual 78, 3) := by decide +kernel
theorem dX2_soughtFactor_12 : decode cX2_soughtFactor 12 = .ok (.ineg, 1) := by decide +kernel
theorem dX2_soughtFactor_13 : decode cX2_soughtFactor 13 = .ok (.i2l, 1) := by decide +kernel
theorem dX2_soughtFactor_14 : decode cX2_soughtFactor 14 = .ok (.invokevirtual 81, 3) := by decide +kernel
theorem dX2_soughtFactor_17 : decode cX2_soughtFactor 17 = .ok (.ireturn, 1) := by decide +kernel
theorem dX2_summed_0 : decode cX2_summed 0 = .ok (.iconst 0, 1) := by decide +kernel
theorem dX2_summed_1 : decode cX2_summed 1 = .ok (.istore_n 2, 1) := by decide +kernel
theorem dX2_summed_2 : decode cX2_summed 2 = .ok (.iconst 0, 1) := by decide +kernel
theorem dX2_summed_3 : decode cX2_summed 3 = .ok (.istore_n 3, 1) := by decide +kernel
theorem dX2_summed_4 : decode cX2_summed 4 = .ok (.iload_n 3, 1) := by decide +kernel
theorem dX2_summed_5 : decode cX2_summed 5 = .ok (.aload_n 0, 1) := by decide +kernel
theorem dX2_summed_6 : decode cX2_summed 6 = .ok (.getfield 47, 3) := by decide +kernel
theorem dX2_summed_9 : decode cX2_summed 9 = .ok (.if_icmp .ge 41, 3) := by decide +kernel
theorem dX2_summed_12 : decode cX2_summed 12 = .ok (.aload_n 0, 1) := by decide +kernel
theorem dX2_summed_13 : decode cX2_summed 13 = .ok (.getfield 39, 3) := by decide +kernel
theorem dX2_summed_16 : decode cX2_summed 16 = .ok (.iload_n 2, 1) := by decide +kernel
theorem dX2_summed_17 : decode cX2_summed 17 = .ok (.i2l, 1) := by decide +kernel
theorem dX2_summed_18 : decode cX2_summed 18 = .ok (.aload_n 0, 1) := by decide +kernel
theorem dX2_summed_19 : decode cX2_summed 19 = .ok (.iload_n 3, 1) := by decide +kernel
theorem dX2_summed_20 : decode cX2_summed 20 = .ok (.invokevirtual 69, 3) := by decide +kernel
theorem dX2_summed_23 : decode cX2_summed 23 = .ok (.i2l, 1) := by decide +kernel
theorem dX2_summed_24 : decode cX2_summed 24 = .ok (.aload_n 0, 1) := by decide +kernel
theorem dX2_summed_25 : decode cX2_summed 25 = .ok (.getfield 39, 3) := by decide +kernel
theorem dX2_summed_28 : decode cX2_summed 28 = .ok (.aload_n 0, 1) := by decide +kernel
theorem dX2_summed_29 : decode cX2_summed 29 = .ok (.iload_n 3, 1) := by decide +kernel
theorem dX2_summed_30 : decode cX2_summed 30 = .ok (.invokevirtual 55, 3) := by decide +kernel
theorem dX2_summed_33 : decode cX2_summed 33 = .ok (.iload_n 1, 1) := by decide +kernel
theorem dX2_summed_34 : decode cX2_summed 34 = .ok (.invokevirtual 132, 3) := by decide +kernel
theorem dX2_summed_37 : decode cX2_summed 37 = .ok (.i2l, 1) := by decide +kernel
theorem dX2_summed_38 : decode cX2_summed 38 = .ok (.lmul, 1) := by decide +kernel
theorem dX2_summed_39 : decode cX2_summed 39 = .ok (.ladd, 1) := by decide +kernel
theorem dX2_summed_40 : decode cX2_summed 40 = .ok (.invokevirtual 81, 3) := by decide +kernel
theorem dX2_summed_43 : decode cX2_summed 43 = .ok (.istore_n 2, 1) := by decide +kernel
theorem dX2_summed_44 : decode cX2_summed 44 = .ok (.iinc 3 1, 3) := by decide +kernel
theorem dX2_summed_47 : decode cX2_summed 47 = .ok (.goto (-43), 3) := by decide +kernel
theorem dX2_summed_50 : decode cX2_summed 50 = .ok (.iload_n 2, 1) := by decide +kernel
theorem dX2_summed_51 : decode cX2_summed 51 = .ok (.ireturn, 1) := by decide +kernel
theorem dX3_init_0 : decode cX3_init 0 = .ok (.aload_n 0, 1) := by decide +kernel
theorem dX3_init_1 : decode cX3_init 1 = .ok (.invokespecial 1, 3) := by decide +kernel
theorem dX3_init_4 : decode cX3_init 4 = .ok (.aload_n 0, 1) := by decide +kernel
theorem dX3_init_5 : decode cX3_init 5 = .ok (.iload_n 1, 1) := by decide +kernel
theorem dX3_init_6 : decode cX3_init 6 = .ok (.invokestatic 7, 3) := by decide +kernel
theorem dX3_init_9 : decode cX3_init 9 = .ok (.putfield 13, 3) := by decide +kernel
theorem dX3_init_12 : decode cX3_init 12 = .ok (.return_, 1) := by decide +kernel
theorem dX3_primeOf_0 : decode cX3_primeOf 0 = .ok (.iload_n 0, 1) := by decide +kernel
theorem dX3_primeOf_1 : decode cX3_primeOf 1 = .ok (.iconst 4, 1) := by decide +kernel
theorem dX3_primeOf_2 : decode cX3_primeOf 2 = .ok (.invokestatic 17, 3) := by decide +kernel
theorem dX3_primeOf_5 : decode cX3_primeOf 5 = .ok (.tableswitch 38 0 2 #[27, 30, 34], 27) := by decide +kernel
theorem dX3_primeOf_32 : decode cX3_primeOf 32 = .ok (.bipush 97, 2) := by decide +kernel
theorem dX3_primeOf_34 : decode cX3_primeOf 34 = .ok (.ireturn, 1) := by decide +kernel
theorem dX3_primeOf_35 : decode cX3_primeOf 35 = .ok (.sipush 193, 3) := by decide +kernel
theorem dX3_primeOf_38 : decode cX3_primeOf 38 = .ok (.ireturn, 1) := by decide +kernel
theorem dX3_primeOf_39 : decode cX3_primeOf 39 = .ok (.sipush 257, 3) := by decide +kernel
theorem dX3_primeOf_42 : decode cX3_primeOf 42 = .ok (.ireturn, 1) := by decide +kernel
theorem dX3_primeOf_43 : decode cX3_primeOf 43 = .ok (.sipush 7681, 3) := by decide +kernel
theorem dX3_primeOf_46 : decode cX3_primeOf 46 = .ok (.ireturn, 1) := by decide +kernel
theorem dX3_prime_0 : decode cX3_prime 0 = .ok (.aload_n 0, 1) := by decide +kernel
theorem dX3_prime_1 : decode cX3_prime 1 = .ok (.getfield 13, 3) := by decide +kernel
theorem dX3_prime_4 : decode cX3_prime 4 = .ok (.ireturn, 1) := by decide +kernel
theorem dX3_rest_0 : decode cX3_rest 0 = .ok (.lload_n 1, 1) := by decide +kernel
theorem dX3_rest_1 : decode cX3_rest 1 = .ok (.aload_n 0, 1) := by decide +kernel
theorem dX3_rest_2 : decode cX3_rest 2 = .ok (.getfield 13, 3) := by decide +kernel
theorem dX3_rest_5 : decode cX3_rest 5 = .ok (.i2l, 1) := by decide +kernel
theorem dX3_rest_6 : decode cX3_rest 6 = .ok (.lrem, 1) := by decide +kernel
theorem dX3_rest_7 : decode cX3_rest 7 = .ok (.l2i, 1) := by decide +kernel
theorem dX3_rest_8 : decode cX3_rest 8 = .ok (.istore_n 3, 1) := by decide +kernel
theorem dX3_rest_9 : decode cX3_rest 9 = .ok (.iload_n 3, 1) := by decide +kernel
theorem dX3_rest_10 : decode cX3_rest 10 = .ok (.ifCond .ge 12, 3) := by decide +kernel
theorem dX3_rest_13 : decode cX3_rest 13 = .ok (.iload_n 3, 1) := by decide +kernel
theorem dX3_rest_14 : decode cX3_rest 14 = .ok (.aload_n 0, 1) := by decide +kernel
theorem dX3_rest_15 : decode cX3_rest 15 = .ok (.getfield 13, 3) := by decide +kernel
theorem dX3_rest_18 : decode cX3_rest 18 = .ok (.iadd, 1) := by decide +kernel
theorem dX3_rest_19 : decode cX3_rest 19 = .ok (.goto 4, 3) := by decide +kernel
theorem dX3_rest_22 : decode cX3_rest 22 = .ok (.iload_n 3, 1) := by decide +kernel
theorem dX3_rest_23 : decode cX3_rest 23 = .ok (.ireturn, 1) := by decide +kernel
theorem dX3_product_0 : decode cX3_product 0 = .ok (.iload_n 1, 1) := by decide +kernel
theorem dX3_product_1 : decode cX3_product 1 = .ok (.i2l, 1) := by decide +kernel
theorem dX3_product_2 : decode cX3_product 2 = .ok (.iload_n 2, 1) := by decide +kernel
theorem dX3_product_3 : decode cX3_product 3 = .ok (.i2l, 1) := by decide +kernel
theorem dX3_product_4 : decode cX3_product 4 = .ok (.lmul, 1) := by decide +kernel
theorem dX3_product_5 : decode cX3_product 5 = .ok (.aload_n 0, 1) := by decide +kernel
theorem dX3_product_6 : decode cX3_product 6 = .ok (.getfield 13, 3) := by decide +kernel
theorem dX3_product_9 : decode cX3_product 9 = .ok (.i2l, 1) := by decide +kernel
theorem dX3_product_10 : decode cX3_product 10 = .ok (.lrem, 1) := by decide +kernel
theorem dX3_product_11 : decode cX3_product 11 = .ok (.l2i, 1) := by decide +kernel
theorem dX3_product_12 : decode cX3_product 12 = .ok (.ireturn, 1) := by decide +kernel
theorem dX3_raised_0 : decode cX3_raised 0 = .ok (.iconst 1, 1) := by decide +kernel
theorem dX3_raised_1 : decode cX3_raised 1 = .ok (.istore_n 3, 1) := by decide +kernel
theorem dX3_raised_2 : decode cX3_raised 2 = .ok (.iload_n 1, 1) := by decide +kernel
theorem dX3_raised_3 : decode cX3_raised 3 = .ok (.istore 4, 2) := by decide +kernel
theorem dX3_raised_5 : decode cX3_raised 5 = .ok (.iload_n 2, 1) := by decide +kernel
theorem dX3_raised_6 : decode cX3_raised 6 = .ok (.istore 5, 2) := by decide +kernel
theorem dX3_raised_8 : decode cX3_raised 8 = .ok (.iload 5, 2) := by decide +kernel
theorem dX3_raised_10 : decode cX3_raised 10 = .ok (.ifCond .le 38, 3) := by decide +kernel
theorem dX3_raised_13 : decode cX3_raised 13 = .ok (.iload 5, 2) := by decide +kernel
theorem dX3_raised_15 : decode cX3_raised 15 = .ok (.iconst 1, 1) := by decide +kernel
theorem dX3_raised_16 : decode cX3_raised 16 = .ok (.iand, 1) := by decide +kernel
theorem dX3_raised_17 : decode cX3_raised 17 = .ok (.iconst 1, 1) := by decide +kernel
theorem dX3_raised_18 : decode cX3_raised 18 = .ok (.if_icmp .ne 11, 3) := by decide +kernel
theorem dX3_raised_21 : decode cX3_raised 21 = .ok (.aload_n 0, 1) := by decide +kernel
theorem dX3_raised_22 : decode cX3_raised 22 = .ok (.iload_n 3, 1) := by decide +kernel
theorem dX3_raised_23 : decode cX3_raised 23 = .ok (.iload 4, 2) := by decide +kernel
theorem dX3_raised_25 : decode cX3_raised 25 = .ok (.invokevirtual 23, 3) := by decide +kernel
theorem dX3_raised_28 : decode cX3_raised 28 = .ok (.istore_n 3, 1) := by decide +kernel
theorem dX3_raised_29 : decode cX3_raised 29 = .ok (.aload_n 0, 1) := by decide +kernel
theorem dX3_raised_30 : decode cX3_raised 30 = .ok (.iload 4, 2) := by decide +kernel
theorem dX3_raised_32 : decode cX3_raised 32 = .ok (.iload 4, 2) := by decide +kernel
theorem dX3_raised_34 : decode cX3_raised 34 = .ok (.invokevirtual 23, 3) := by decide +kernel
theorem dX3_raised_37 : decode cX3_raised 37 = .ok (.istore 4, 2) := by decide +kernel
theorem dX3_raised_39 : decode cX3_raised 39 = .ok (.iload 5, 2) := by decide +kernel
theorem dX3_raised_41 : decode cX3_raised 41 = .ok (.iconst 1, 1) := by decide +kernel
theorem dX3_raised_42 : decode cX3_raised 42 = .ok (.ishr, 1) := by decide +kernel
theorem dX3_raised_43 : decode cX3_raised 43 = .ok (.istore 5, 2) := by decide +kernel
theorem dX3_raised_45 : decode cX3_raised 45 = .ok (.goto (-37), 3) := by decide +kernel
theorem dX3_raised_48 : decode cX3_raised 48 = .ok (.iload_n 3, 1) := by decide +kernel
theorem dX3_raised_49 : decode cX3_raised 49 = .ok (.ireturn, 1) := by decide +kernel
theorem dX3_inverse_0 : decode cX3_inverse 0 = .ok (.aload_n 0, 1) := by decide +kernel
theorem dX3_inverse_1 : decode cX3_inverse 1 = .ok (.iload_n 1, 1) := by decide +kernel
theorem dX3_inverse_2 : decode cX3_inverse 2 = .ok (.aload_n 0, 1) := by decide +kernel
theorem dX3_inverse_3 : decode cX3_inverse 3 = .ok (.getfield 13, 3) := by decide +kernel
theorem dX3_inverse_6 : decode cX3_inverse 6 = .ok (.iconst 2, 1) := by decide +kernel
theorem dX3_inverse_7 : decode cX3_inverse 7 = .ok (.isub, 1) := by decide +kernel
theorem dX3_inverse_8 : decode cX3_inverse 8 = .ok (.invokevirtual 26, 3) := by decide +kernel
theorem dX3_inverse_11 : decode cX3_inverse 11 = .ok (.ireturn, 1) := by decide +kernel
theorem dX4_init_0 : decode cX4_init 0 = .ok (.aload_n 0, 1) := by decide +kernel
theorem dX4_init_1 : decode cX4_init 1 = .ok (.invokespecial 1, 3) := by decide +kernel
theorem dX4_init_4 : decode cX4_init 4 = .ok (.aload_n 0, 1) := by decide +kernel
theorem dX4_init_5 : decode cX4_init 5 = .ok (.iload_n 1, 1) := by decide +kernel
theorem dX4_init_6 : decode cX4_init 6 = .ok (.iconst 0, 1) := by decide +kernel
theorem dX4_init_7 : decode cX4_init 7 = .ok (.invokestatic 7, 3) := by decide +kernel
theorem dX4_init_10 : decode cX4_init 10 = .ok (.newarray .int, 2) := by decide +kernel
theorem dX4_init_12 : decode cX4_init 12 = .ok (.putfield 13, 3) := by decide +kernel
theorem dX4_init_15 : decode cX4_init 15 = .ok (.return_, 1) := by decide +kernel
theorem dX4_length_0 : decode cX4_length 0 = .ok (.aload_n 0, 1) := by decide +kernel
theorem dX4_length_1 : decode cX4_length 1 = .ok (.getfield 19, 3) := by decide +kernel
theorem dX4_length_4 : decode cX4_length 4 = .ok (.ireturn, 1) := by decide +kernel
theorem dX4_get_0 : decode cX4_get 0 = .ok (.iload_n 1, 1) := by decide +kernel
theorem dX4_get_1 : decode cX4_get 1 = .ok (.ifCond .lt 21, 3) := by decide +kernel
theorem dX4_get_4 : decode cX4_get 4 = .ok (.iload_n 1, 1) := by decide +kernel
theorem dX4_get_5 : decode cX4_get 5 = .ok (.aload_n 0, 1) := by decide +kernel
theorem dX4_get_6 : decode cX4_get 6 = .ok (.getfield 13, 3) := by decide +kernel
theorem dX4_get_9 : decode cX4_get 9 = .ok (.arraylength, 1) := by decide +kernel
theorem dX4_get_10 : decode cX4_get 10 = .ok (.if_icmp .ge 12, 3) := by decide +kernel
theorem dX4_get_13 : decode cX4_get 13 = .ok (.aload_n 0, 1) := by decide +kernel
theorem dX4_get_14 : decode cX4_get 14 = .ok (.getfield 13, 3) := by decide +kernel
theorem dX4_get_17 : decode cX4_get 17 = .ok (.iload_n 1, 1) := by decide +kernel
theorem dX4_get_18 : decode cX4_get 18 = .ok (.iaload, 1) := by decide +kernel
theorem dX4_get_19 : decode cX4_get 19 = .ok (.goto 4, 3) := by decide +kernel
theorem dX4_get_22 : decode cX4_get 22 = .ok (.iconst 0, 1) := by decide +kernel
theorem dX4_get_23 : decode cX4_get 23 = .ok (.ireturn, 1) := by decide +kernel
theorem dX4_lead_0 : decode cX4_lead 0 = .ok (.aload_n 0, 1) := by decide +kernel
theorem dX4_lead_1 : decode cX4_lead 1 = .ok (.aload_n 0, 1) := by decide +kernel
theorem dX4_lead_2 : decode cX4_lead 2 = .ok (.getfield 19, 3) := by decide +kernel
theorem dX4_lead_5 : decode cX4_lead 5 = .ok (.iconst 1, 1) := by decide +kernel
theorem dX4_lead_6 : decode cX4_lead 6 = .ok (.isub, 1) := by decide +kernel
theorem dX4_lead_7 : decode cX4_lead 7 = .ok (.invokevirtual 23, 3) := by decide +kernel
theorem dX4_lead_10 : decode cX4_lead 10 = .ok (.ireturn, 1) := by decide +kernel
theorem dX4_set_0 : decode cX4_set 0 = .ok (.iload_n 1, 1) := by decide +kernel
theorem dX4_set_1 : decode cX4_set 1 = .ok (.ifCond .lt 12, 3) := by decide +kernel
theorem dX4_set_4 : decode cX4_set 4 = .ok (.iload_n 1, 1) := by decide +kernel
theorem dX4_set_5 : decode cX4_set 5 = .ok (.aload_n 0, 1) := by decide +kernel
theorem dX4_set_6 : decode cX4_set 6 = .ok (.getfield 13, 3) := by decide +kernel
theorem dX4_set_9 : decode cX4_set 9 = .ok (.arraylength, 1) := by decide +kernel
theorem dX4_set_10 : decode cX4_set 10 = .ok (.if_icmp .lt 4, 3) := by decide +kernel
theorem dX4_set_13 : decode cX4_set 13 = .ok (.return_, 1) := by decide +kernel
theorem dX4_set_14 : decode cX4_set 14 = .ok (.aload_n 0, 1) := by decide +kernel
theorem dX4_set_15 : decode cX4_set 15 = .ok (.getfield 13, 3) := by decide +kernel
theorem dX4_set_18 : decode cX4_set 18 = .ok (.iload_n 1, 1) := by decide +kernel
theorem dX4_set_19 : decode cX4_set 19 = .ok (.iload_n 2, 1) := by decide +kernel
theorem dX4_set_20 : decode cX4_set 20 = .ok (.iastore, 1) := by decide +kernel
theorem dX4_set_21 : decode cX4_set 21 = .ok (.iload_n 2, 1) := by decide +kernel
theorem dX4_set_22 : decode cX4_set 22 = .ok (.ifCond .eq 18, 3) := by decide +kernel
theorem dX4_set_25 : decode cX4_set 25 = .ok (.iload_n 1, 1) := by decide +kernel
theorem dX4_set_26 : decode cX4_set 26 = .ok (.aload_n 0, 1) := by decide +kernel
theorem dX4_set_27 : decode cX4_set 27 = .ok (.getfield 19, 3) := by decide +kernel
theorem dX4_set_30 : decode cX4_set 30 = .ok (.if_icmp .lt 10, 3) := by decide +kernel
theorem dX4_set_33 : decode cX4_set 33 = .ok (.aload_n 0, 1) := by decide +kernel
theorem dX4_set_34 : decode cX4_set 34 = .ok (.iload_n 1, 1) := by decide +kernel
theorem dX4_set_35 : decode cX4_set 35 = .ok (.iconst 1, 1) := by decide +kernel
theorem dX4_set_36 : decode cX4_set 36 = .ok (.iadd, 1) := by decide +kernel
theorem dX4_set_37 : decode cX4_set 37 = .ok (.putfield 19, 3) := by decide +kernel
theorem dX4_set_40 : decode cX4_set 40 = .ok (.aload_n 0, 1) := by decide +kernel
theorem dX4_set_41 : decode cX4_set 41 = .ok (.getfield 19, 3) := by decide +kernel
theorem dX4_set_44 : decode cX4_set 44 = .ok (.ifCond .le 30, 3) := by decide +kernel
theorem dX4_set_47 : decode cX4_set 47 = .ok (.aload_n 0, 1) := by decide +kernel
theorem dX4_set_48 : decode cX4_set 48 = .ok (.getfield 13, 3) := by decide +kernel
theorem dX4_set_51 : decode cX4_set 51 = .ok (.aload_n 0, 1) := by decide +kernel
theorem dX4_set_52 : decode cX4_set 52 = .ok (.getfield 19, 3) := by decide +kernel
theorem dX4_set_55 : decode cX4_set 55 = .ok (.iconst 1, 1) := by decide +kernel
theorem dX4_set_56 : decode cX4_set 56 = .ok (.isub, 1) := by decide +kernel
theorem dX4_set_57 : decode cX4_set 57 = .ok (.iaload, 1) := by decide +kernel
theorem dX4_set_58 : decode cX4_set 58 = .ok (.ifCond .ne 16, 3) := by decide +kernel
theorem dX4_set_61 : decode cX4_set 61 = .ok (.aload_n 0, 1) := by decide +kernel
theorem dX4_set_62 : decode cX4_set 62 = .ok (.dup, 1) := by decide +kernel
theorem dX4_set_63 : decode cX4_set 63 = .ok (.getfield 19, 3) := by decide +kernel
theorem dX4_set_66 : decode cX4_set 66 = .ok (.iconst 1, 1) := by decide +kernel
theorem dX4_set_67 : decode cX4_set 67 = .ok (.isub, 1) := by decide +kernel
theorem dX4_set_68 : decode cX4_set 68 = .ok (.putfield 19, 3) := by decide +kernel
theorem dX4_set_71 : decode cX4_set 71 = .ok (.goto (-31), 3) := by decide +kernel
theorem dX4_set_74 : decode cX4_set 74 = .ok (.return_, 1) := by decide +kernel
theorem dX4_wipe_0 : decode cX4_wipe 0 = .ok (.iconst 0, 1) := by decide +kernel
theorem dX4_wipe_1 : decode cX4_wipe 1 = .ok (.istore_n 1, 1) := by decide +kernel
theorem dX4_wipe_2 : decode cX4_wipe 2 = .ok (.iload_n 1, 1) := by decide +kernel
theorem dX4_wipe_3 : decode cX4_wipe 3 = .ok (.aload_n 0, 1) := by decide +kernel
theorem dX4_wipe_4 : decode cX4_wipe 4 = .ok (.getfield 13, 3) := by decide +kernel
theorem dX4_wipe_7 : decode cX4_wipe 7 = .ok (.arraylength, 1) := by decide +kernel
theorem dX4_wipe_8 : decode cX4_wipe 8 = .ok (.if_icmp .ge 16, 3) := by decide +kernel
theorem dX4_wipe_11 : decode cX4_wipe 11 = .ok (.aload_n 0, 1) := by decide +kernel
theorem dX4_wipe_12 : decode cX4_wipe 12 = .ok (.getfield 13, 3) := by decide +kernel
theorem dX4_wipe_15 : decode cX4_wipe 15 = .ok (.iload_n 1, 1) := by decide +kernel
theorem dX4_wipe_16 : decode cX4_wipe 16 = .ok (.iconst 0, 1) := by decide +kernel
theorem dX4_wipe_17 : decode cX4_wipe 17 = .ok (.iastore, 1) := by decide +kernel
theorem dX4_wipe_18 : decode cX4_wipe 18 = .ok (.iinc 1 1, 3) := by decide +kernel
theorem dX4_wipe_21 : decode cX4_wipe 21 = .ok (.goto (-19), 3) := by decide +kernel
theorem dX4_wipe_24 : decode cX4_wipe 24 = .ok (.aload_n 0, 1) := by decide +kernel
theorem dX4_wipe_25 : decode cX4_wipe 25 = .ok (.iconst 0, 1) := by decide +kernel
theorem dX4_wipe_26 : decode cX4_wipe 26 = .ok (.putfield 19, 3) := by decide +kernel
theorem dX4_wipe_29 : decode cX4_wipe 29 = .ok (.return_, 1) := by decide +kernel
theorem dX4_copy_0 : decode cX4_copy 0 = .ok (.iconst 0, 1) := by decide +kernel
theorem dX4_copy_1 : decode cX4_copy 1 = .ok (.istore_n 2, 1) := by decide +kernel
theorem dX4_copy_2 : decode cX4_copy 2 = .ok (.iload_n 2, 1) := by decide +kernel
theorem dX4_copy_3 : decode cX4_copy 3 = .ok (.aload_n 0, 1) := by decide +kernel
theorem dX4_copy_4 : decode cX4_copy 4 = .ok (.getfield 13, 3) := by decide +kernel
theorem dX4_copy_7 : decode cX4_copy 7 = .ok (.arraylength, 1) := by decide +kernel
theorem dX4_copy_8 : decode cX4_copy 8 = .ok (.if_icmp .ge 19, 3) := by decide +kernel
theorem dX4_copy_11 : decode cX4_copy 11 = .ok (.aload_n 0, 1) := by decide +kernel
theorem dX4_copy_12 : decode cX4_copy 12 = .ok (.iload_n 2, 1) := by decide +kernel
theorem dX4_copy_13 : decode cX4_copy 13 = .ok (.aload_n 1, 1) := by decide +kernel
theorem dX4_copy_14 : decode cX4_copy 14 = .ok (.iload_n 2, 1) := by decide +kernel
theorem dX4_copy_15 : decode cX4_copy 15 = .ok (.invokevirtual 23, 3) := by decide +kernel
theorem dX4_copy_18 : decode cX4_copy 18 = .ok (.invokevirtual 27, 3) := by decide +kernel
theorem dX4_copy_21 : decode cX4_copy 21 = .ok (.iinc 2 1, 3) := by decide +kernel
theorem dX4_copy_24 : decode cX4_copy 24 = .ok (.goto (-22), 3) := by decide +kernel
theorem dX4_copy_27 : decode cX4_copy 27 = .ok (.return_, 1) := by decide +kernel
theorem dX4_isLike_0 : decode cX4_isLike 0 = .ok (.aload_n 0, 1) := by decide +kernel
theorem dX4_isLike_1 : decode cX4_isLike 1 = .ok (.getfield 19, 3) := by decide +kernel
theorem dX4_isLike_4 : decode cX4_isLike 4 = .ok (.aload_n 1, 1) := by decide +kernel
theorem dX4_isLike_5 : decode cX4_isLike 5 = .ok (.invokevirtual 31, 3) := by decide +kernel
theorem dX4_isLike_8 : decode cX4_isLike 8 = .ok (.if_icmp .eq 5, 3) := by decide +kernel
theorem dX4_isLike_11 : decode cX4_isLike 11 = .ok (.iconst 0, 1) := by decide +kernel
theorem dX4_isLike_12 : decode cX4_isLike 12 = .ok (.ireturn, 1) := by decide +kernel
theorem dX4_isLike_13 : decode cX4_isLike 13 = .ok (.iconst 0, 1) := by decide +kernel
theorem dX4_isLike_14 : decode cX4_isLike 14 = .ok (.istore_n 2, 1) := by decide +kernel
theorem dX4_isLike_15 : decode cX4_isLike 15 = .ok (.iload_n 2, 1) := by decide +kernel
theorem dX4_isLike_16 : decode cX4_isLike 16 = .ok (.aload_n 0, 1) := by decide +kernel
theorem dX4_isLike_17 : decode cX4_isLike 17 = .ok (.getfield 19, 3) := by decide +kernel
theorem dX4_isLike_20 : decode cX4_isLike 20 = .ok (.if_icmp .ge 24, 3) := by decide +kernel
theorem dX4_isLike_23 : decode cX4_isLike 23 = .ok (.aload_n 0, 1) := by decide +kernel
theorem dX4_isLike_24 : decode cX4_isLike 24 = .ok (.iload_n 2, 1) := by decide +kernel
theorem dX4_isLike_25 : decode cX4_isLike 25 = .ok (.invokevirtual 23, 3) := by decide +kernel
theorem dX4_isLike_28 : decode cX4_isLike 28 = .ok (.aload_n 1, 1) := by decide +kernel
theorem dX4_isLike_29 : decode cX4_isLike 29 = .ok (.iload_n 2, 1) := by decide +kernel
theorem dX4_isLike_30 : decode cX4_isLike 30 = .ok (.invokevirtual 23, 3) := by decide +kernel
theorem dX4_isLike_33 : decode cX4_isLike 33 = .ok (.if_icmp .eq 5, 3) := by decide +kernel
theorem dX4_isLike_36 : decode cX4_isLike 36 = .ok (.iconst 0, 1) := by decide +kernel
theorem dX4_isLike_37 : decode cX4_isLike 37 = .ok (.ireturn, 1) := by decide +kernel
theorem dX4_isLike_38 : decode cX4_isLike 38 = .ok (.iinc 2 1, 3) := by decide +kernel
theorem dX4_isLike_41 : decode cX4_isLike 41 = .ok (.goto (-26), 3) := by decide +kernel
theorem dX4_isLike_44 : decode cX4_isLike 44 = .ok (.iconst 1, 1) := by decide +kernel
theorem dX4_isLike_45 : decode cX4_isLike 45 = .ok (.ireturn, 1) := by decide +kernel
theorem dX5_init_0 : decode cX5_init 0 = .ok (.aload_n 0, 1) := by decide +kernel
theorem dX5_init_1 : decode cX5_init 1 = .ok (.invokespecial 3, 3) := by decide +kernel
theorem dX5_init_4 : decode cX5_init 4 = .ok (.aload_n 0, 1) := by decide +kernel
theorem dX5_init_5 : decode cX5_init 5 = .ok (.iconst (-1), 1) := by decide +kernel
theorem dX5_init_6 : decode cX5_init 6 = .ok (.putfield 11, 3) := by decide +kernel
theorem dX5_init_9 : decode cX5_init 9 = .ok (.aload_n 0, 1) := by decide +kernel
theorem dX5_init_10 : decode cX5_init 10 = .ok (.bipush 40, 2) := by decide +kernel
theorem dX5_init_12 : decode cX5_init 12 = .ok (.newarray .int, 2) := by decide +kernel
theorem dX5_init_14 : decode cX5_init 14 = .ok (.putfield 15, 3) := by decide +kernel
theorem dX5_init_17 : decode cX5_init 17 = .ok (.return_, 1) := by decide +kernel
theorem dX5_sort_0 : decode cX5_sort 0 = .ok (.aload_n 0, 1) := by decide +kernel
theorem dX5_sort_1 : decode cX5_sort 1 = .ok (.getfield 11, 3) := by decide +kernel
theorem dX5_sort_4 : decode cX5_sort 4 = .ok (.ireturn, 1) := by decide +kernel
theorem dX5_size_0 : decode cX5_size 0 = .ok (.aload_n 0, 1) := by decide +kernel
theorem dX5_size_1 : decode cX5_size 1 = .ok (.getfield 19, 3) := by decide +kernel
theorem dX5_size_4 : decode cX5_size 4 = .ok (.ireturn, 1) := by decide +kernel
theorem dX5_begin_0 : decode cX5_begin 0 = .ok (.aload_n 0, 1) := by decide +kernel
theorem dX5_begin_1 : decode cX5_begin 1 = .ok (.iload_n 1, 1) := by decide +kernel
theorem dX5_begin_2 : decode cX5_begin 2 = .ok (.putfield 11, 3) := by decide +kernel
theorem dX5_begin_5 : decode cX5_begin 5 = .ok (.aload_n 0, 1) := by decide +kernel
theorem dX5_begin_6 : decode cX5_begin 6 = .ok (.iload_n 2, 1) := by decide +kernel
theorem dX5_begin_7 : decode cX5_begin 7 = .ok (.bipush 40, 2) := by decide +kernel
theorem dX5_begin_9 : decode cX5_begin 9 = .ok (.invokestatic 22, 3) := by decide +kernel
theorem dX5_begin_12 : decode cX5_begin 12 = .ok (.putfield 19, 3) := by decide +kernel
theorem dX5_begin_15 : decode cX5_begin 15 = .ok (.iconst 0, 1) := by decide +kernel
theorem dX5_begin_16 : decode cX5_begin 16 = .ok (.istore_n 3, 1) := by decide +kernel
theorem dX5_begin_17 : decode cX5_begin 17 = .ok (.iload_n 3, 1) := by decide +kernel
theorem dX5_begin_18 : decode cX5_begin 18 = .ok (.bipush 40, 2) := by decide +kernel
theorem dX5_begin_20 : decode cX5_begin 20 = .ok (.if_icmp .ge 16, 3) := by decide +kernel
theorem dX5_begin_23 : decode cX5_begin 23 = .ok (.aload_n 0, 1) := by decide +kernel
theorem dX5_begin_24 : decode cX5_begin 24 = .ok (.getfield 15, 3) := by decide +kernel
theorem dX5_begin_27 : decode cX5_begin 27 = .ok (.iload_n 3, 1) := by decide +kernel
theorem dX5_begin_28 : decode cX5_begin 28 = .ok (.iconst 0, 1) := by decide +kernel
theorem dX5_begin_29 : decode cX5_begin 29 = .ok (.iastore, 1) := by decide +kernel
theorem dX5_begin_30 : decode cX5_begin 30 = .ok (.iinc 3 1, 3) := by decide +kernel
theorem dX5_begin_33 : decode cX5_begin 33 = .ok (.goto (-16), 3) := by decide +kernel
theorem dX5_begin_36 : decode cX5_begin 36 = .ok (.return_, 1) := by decide +kernel
theorem dX5_read_0 : decode cX5_read 0 = .ok (.iload_n 1, 1) := by decide +kernel
theorem dX5_read_1 : decode cX5_read 1 = .ok (.aload_n 0, 1) := by decide +kernel
theorem dX5_read_2 : decode cX5_read 2 = .ok (.getfield 19, 3) := by decide +kernel
theorem dX5_read_5 : decode cX5_read 5 = .ok (.invokestatic 28, 3) := by decide +kernel
theorem dX5_read_8 : decode cX5_read 8 = .ok (.ifCond .eq 21, 3) := by decide +kernel
theorem dX5_read_11 : decode cX5_read 11 = .ok (.iload_n 1, 1) := by decide +kernel
theorem dX5_read_12 : decode cX5_read 12 = .ok (.aload_n 0, 1) := by decide +kernel
theorem dX5_read_13 : decode cX5_read 13 = .ok (.getfield 15, 3) := by decide +kernel
theorem dX5_read_16 : decode cX5_read 16 = .ok (.arraylength, 1) := by decide +kernel
theorem dX5_read_17 : decode cX5_read 17 = .ok (.if_icmp .ge 12, 3) := by decide +kernel
theorem dX5_read_20 : decode cX5_read 20 = .ok (.aload_n 0, 1) := by decide +kernel
theorem dX5_read_21 : decode cX5_read 21 = .ok (.getfield 15, 3) := by decide +kernel
theorem dX5_read_24 : decode cX5_read 24 = .ok (.iload_n 1, 1) := by decide +kernel
theorem dX5_read_25 : decode cX5_read 25 = .ok (.iaload, 1) := by decide +kernel
theorem dX5_read_26 : decode cX5_read 26 = .ok (.goto 4, 3) := by decide +kernel
theorem dX5_read_29 : decode cX5_read 29 = .ok (.iconst 0, 1) := by decide +kernel
theorem dX5_read_30 : decode cX5_read 30 = .ok (.ireturn, 1) := by decide +kernel
theorem dX5_write_0 : decode cX5_write 0 = .ok (.iload_n 1, 1) := by decide +kernel
theorem dX5_write_1 : decode cX5_write 1 = .ok (.aload_n 0, 1) := by decide +kernel
theorem dX5_write_2 : decode cX5_write 2 = .ok (.getfield 19, 3) := by decide +kernel
theorem dX5_write_5 : decode cX5_write 5 = .ok (.invokestatic 28, 3) := by decide +kernel
theorem dX5_write_8 : decode cX5_write 8 = .ok (.ifCond .eq 12, 3) := by decide +kernel
theorem dX5_write_11 : decode cX5_write 11 = .ok (.iload_n 1, 1) := by decide +kernel
theorem dX5_write_12 : decode cX5_write 12 = .ok (.aload_n 0, 1) := by decide +kernel
theorem dX5_write_13 : decode cX5_write 13 = .ok (.getfield 15, 3) := by decide +kernel
theorem dX5_write_16 : decode cX5_write 16 = .ok (.arraylength, 1) := by decide +kernel
theorem dX5_write_17 : decode cX5_write 17 = .ok (.if_icmp .lt 4, 3) := by decide +kernel
theorem dX5_write_20 : decode cX5_write 20 = .ok (.return_, 1) := by decide +kernel
theorem dX5_write_21 : decode cX5_write 21 = .ok (.aload_n 0, 1) := by decide +kernel
theorem dX5_write_22 : decode cX5_write 22 = .ok (.getfield 11, 3) := by decide +kernel
theorem dX5_write_25 : decode cX5_write 25 = .ok (.lookupswitch 49 #[(0, 27), (1, 38)], 27) := by decide +kernel
theorem dX5_write_52 : decode cX5_write 52 = .ok (.aload_n 0, 1) := by decide +kernel
theorem dX5_write_53 : decode cX5_write 53 = .ok (.getfield 15, 3) := by decide +kernel
theorem dX5_write_56 : decode cX5_write 56 = .ok (.iload_n 1, 1) := by decide +kernel
theorem dX5_write_57 : decode cX5_write 57 = .ok (.iload_n 2, 1) := by decide +kernel
theorem dX5_write_58 : decode cX5_write 58 = .ok (.i2b, 1) := by decide +kernel
theorem dX5_write_59 : decode cX5_write 59 = .ok (.iastore, 1) := by decide +kernel
theorem dX5_write_60 : decode cX5_write 60 = .ok (.goto 21, 3) := by decide +kernel
theorem dX5_write_63 : decode cX5_write 63 = .ok (.aload_n 0, 1) := by decide +kernel
theorem dX5_write_64 : decode cX5_write 64 = .ok (.getfield 15, 3) := by decide +kernel
theorem dX5_write_67 : decode cX5_write 67 = .ok (.iload_n 1, 1) := by decide +kernel
theorem dX5_write_68 : decode cX5_write 68 = .ok (.iload_n 2, 1) := by decide +kernel
theorem dX5_write_69 : decode cX5_write 69 = .ok (.i2s, 1) := by decide +kernel
theorem dX5_write_70 : decode cX5_write 70 = .ok (.iastore, 1) := by decide +kernel
theorem dX5_write_71 : decode cX5_write 71 = .ok (.goto 10, 3) := by decide +kernel
theorem dX5_write_74 : decode cX5_write 74 = .ok (.aload_n 0, 1) := by decide +kernel
theorem dX5_write_75 : decode cX5_write 75 = .ok (.getfield 15, 3) := by decide +kernel
theorem dX5_write_78 : decode cX5_write 78 = .ok (.iload_n 1, 1) := by decide +kernel
theorem dX5_write_79 : decode cX5_write 79 = .ok (.iload_n 2, 1) := by decide +kernel
theorem dX5_write_80 : decode cX5_write 80 = .ok (.iastore, 1) := by decide +kernel
theorem dX5_write_81 : decode cX5_write 81 = .ok (.return_, 1) := by decide +kernel
theorem dX6_init_0 : decode cX6_init 0 = .ok (.aload_n 0, 1) := by decide +kernel
theorem dX6_init_1 : decode cX6_init 1 = .ok (.invokespecial 3, 3) := by decide +kernel
theorem dX6_init_4 : decode cX6_init 4 = .ok (.aload_n 0, 1) := by decide +kernel
theorem dX6_init_5 : decode cX6_init 5 = .ok (.sipush 160, 3) := by decide +kernel
theorem dX6_init_8 : decode cX6_init 8 = .ok (.newarray .byte, 2) := by decide +kernel
theorem dX6_init_10 : decode cX6_init 10 = .ok (.putfield 9, 3) := by decide +kernel
theorem dX6_init_13 : decode cX6_init 13 = .ok (.aload_n 0, 1) := by decide +kernel
theorem dX6_init_14 : decode cX6_init 14 = .ok (.sipush 160, 3) := by decide +kernel
theorem dX6_init_17 : decode cX6_init 17 = .ok (.newarray .int, 2) := by decide +kernel
theorem dX6_init_19 : decode cX6_init 19 = .ok (.putfield 15, 3) := by decide +kernel
theorem dX6_init_22 : decode cX6_init 22 = .ok (.aload_n 0, 1) := by decide +kernel
theorem dX6_init_23 : decode cX6_init 23 = .ok (.sipush 160, 3) := by decide +kernel
theorem dX6_init_26 : decode cX6_init 26 = .ok (.newarray .int, 2) := by decide +kernel
theorem dX6_init_28 : decode cX6_init 28 = .ok (.putfield 19, 3) := by decide +kernel
theorem dX6_init_31 : decode cX6_init 31 = .ok (.return_, 1) := by decide +kernel
theorem dX6_size_0 : decode cX6_size 0 = .ok (.aload_n 0, 1) := by decide +kernel
theorem dX6_size_1 : decode cX6_size 1 = .ok (.getfield 22, 3) := by decide +kernel
theorem dX6_size_4 : decode cX6_size 4 = .ok (.ireturn, 1) := by decide +kernel
theorem dX6_token_0 : decode cX6_token 0 = .ok (.iload_n 1, 1) := by decide +kernel
theorem dX6_token_1 : decode cX6_token 1 = .ok (.ifCond .lt 29, 3) := by decide +kernel
theorem dX6_token_4 : decode cX6_token 4 = .ok (.iload_n 1, 1) := by decide +kernel
theorem dX6_token_5 : decode cX6_token 5 = .ok (.aload_n 0, 1) := by decide +kernel
theorem dX6_token_6 : decode cX6_token 6 = .ok (.getfield 26, 3) := by decide +kernel
theorem dX6_token_9 : decode cX6_token 9 = .ok (.if_icmp .ge 21, 3) := by decide +kernel
theorem dX6_token_12 : decode cX6_token 12 = .ok (.iload_n 1, 1) := by decide +kernel
theorem dX6_token_13 : decode cX6_token 13 = .ok (.aload_n 0, 1) := by decide +kernel
theorem dX6_token_14 : decode cX6_token 14 = .ok (.getfield 15, 3) := by decide +kernel
theorem dX6_token_17 : decode cX6_token 17 = .ok (.arraylength, 1) := by decide +kernel
theorem dX6_token_18 : decode cX6_token 18 = .ok (.if_icmp .ge 12, 3) := by decide +kernel
theorem dX6_token_21 : decode cX6_token 21 = .ok (.aload_n 0, 1) := by decide +kernel
theorem dX6_token_22 : decode cX6_token 22 = .ok (.getfield 15, 3) := by decide +kernel
theorem dX6_token_25 : decode cX6_token 25 = .ok (.iload_n 1, 1) := by decide +kernel
theorem dX6_token_26 : decode cX6_token 26 = .ok (.iaload, 1) := by decide +kernel
theorem dX6_token_27 : decode cX6_token 27 = .ok (.goto 6, 3) := by decide +kernel
theorem dX6_token_30 : decode cX6_token 30 = .ok (.sipush 256, 3) := by decide +kernel
theorem dX6_token_33 : decode cX6_token 33 = .ok (.ireturn, 1) := by decide +kernel
theorem dX6_start_0 : decode cX6_start 0 = .ok (.iload_n 1, 1) := by decide +kernel
theorem dX6_start_1 : decode cX6_start 1 = .ok (.ifCond .lt 29, 3) := by decide +kernel
theorem dX6_start_4 : decode cX6_start 4 = .ok (.iload_n 1, 1) := by decide +kernel
theorem dX6_start_5 : decode cX6_start 5 = .ok (.aload_n 0, 1) := by decide +kernel
theorem dX6_start_6 : decode cX6_start 6 = .ok (.getfield 26, 3) := by decide +kernel
theorem dX6_start_9 : decode cX6_start 9 = .ok (.if_icmp .ge 21, 3) := by decide +kernel
theorem dX6_start_12 : decode cX6_start 12 = .ok (.iload_n 1, 1) := by decide +kernel
theorem dX6_start_13 : decode cX6_start 13 = .ok (.aload_n 0, 1) := by decide +kernel
theorem dX6_start_14 : decode cX6_start 14 = .ok (.getfield 19, 3) := by decide +kernel
theorem dX6_start_17 : decode cX6_start 17 = .ok (.arraylength, 1) := by decide +kernel
theorem dX6_start_18 : decode cX6_start 18 = .ok (.if_icmp .ge 12, 3) := by decide +kernel
theorem dX6_start_21 : decode cX6_start 21 = .ok (.aload_n 0, 1) := by decide +kernel
theorem dX6_start_22 : decode cX6_start 22 = .ok (.getfield 19, 3) := by decide +kernel
theorem dX6_start_25 : decode cX6_start 25 = .ok (.iload_n 1, 1) := by decide +kernel
theorem dX6_start_26 : decode cX6_start 26 = .ok (.iaload, 1) := by decide +kernel
theorem dX6_start_27 : decode cX6_start 27 = .ok (.goto 7, 3) := by decide +kernel
theorem dX6_start_30 : decode cX6_start 30 = .ok (.aload_n 0, 1) := by decide +kernel
theorem dX6_start_31 : decode cX6_start 31 = .ok (.getfield 22, 3) := by decide +kernel
theorem dX6_start_34 : decode cX6_start 34 = .ok (.ireturn, 1) := by decide +kernel
theorem dX6_wipe_0 : decode cX6_wipe 0 = .ok (.aload_n 0, 1) := by decide +kernel
theorem dX6_wipe_1 : decode cX6_wipe 1 = .ok (.iconst 0, 1) := by decide +kernel
theorem dX6_wipe_2 : decode cX6_wipe 2 = .ok (.putfield 22, 3) := by decide +kernel
theorem dX6_wipe_5 : decode cX6_wipe 5 = .ok (.return_, 1) := by decide +kernel
theorem dX6_append_0 : decode cX6_append 0 = .ok (.iconst 0, 1) := by decide +kernel
theorem dX6_append_1 : decode cX6_append 1 = .ok (.istore 4, 2) := by decide +kernel
theorem dX6_append_3 : decode cX6_append 3 = .ok (.iload 4, 2) := by decide +kernel
theorem dX6_append_5 : decode cX6_append 5 = .ok (.iload_n 1, 1) := by decide +kernel
theorem dX6_append_6 : decode cX6_append 6 = .ok (.if_icmp .ge 22, 3) := by decide +kernel
theorem dX6_append_9 : decode cX6_append 9 = .ok (.aload_n 0, 1) := by decide +kernel
theorem dX6_append_10 : decode cX6_append 10 = .ok (.lload_n 2, 1) := by decide +kernel
theorem dX6_append_11 : decode cX6_append 11 = .ok (.bipush 8, 2) := by decide +kernel
theorem dX6_append_13 : decode cX6_append 13 = .ok (.iload 4, 2) := by decide +kernel
theorem dX6_append_15 : decode cX6_append 15 = .ok (.imul, 1) := by decide +kernel
theorem dX6_append_16 : decode cX6_append 16 = .ok (.lshr, 1) := by decide +kernel
theorem dX6_append_17 : decode cX6_append 17 = .ok (.l2i, 1) := by decide +kernel
theorem dX6_append_18 : decode cX6_append 18 = .ok (.i2b, 1) := by decide +kernel
theorem dX6_append_19 : decode cX6_append 19 = .ok (.invokevirtual 29, 3) := by decide +kernel
theorem dX6_append_22 : decode cX6_append 22 = .ok (.iinc 4 1, 3) := by decide +kernel
theorem dX6_append_25 : decode cX6_append 25 = .ok (.goto (-22), 3) := by decide +kernel
theorem dX6_append_28 : decode cX6_append 28 = .ok (.return_, 1) := by decide +kernel
theorem dX6_write_0 : decode cX6_write 0 = .ok (.iconst 0, 1) := by decide +kernel
theorem dX6_write_1 : decode cX6_write 1 = .ok (.istore_n 2, 1) := by decide +kernel
theorem dX6_write_2 : decode cX6_write 2 = .ok (.iload_n 2, 1) := by decide +kernel
theorem dX6_write_3 : decode cX6_write 3 = .ok (.aload_n 1, 1) := by decide +kernel
theorem dX6_write_4 : decode cX6_write 4 = .ok (.invokevirtual 33, 3) := by decide +kernel
theorem dX6_write_7 : decode cX6_write 7 = .ok (.if_icmp .ge 19, 3) := by decide +kernel
theorem dX6_write_10 : decode cX6_write 10 = .ok (.aload_n 0, 1) := by decide +kernel
theorem dX6_write_11 : decode cX6_write 11 = .ok (.aload_n 1, 1) := by decide +kernel
theorem dX6_write_12 : decode cX6_write 12 = .ok (.iload_n 2, 1) := by decide +kernel
theorem dX6_write_13 : decode cX6_write 13 = .ok (.invokevirtual 39, 3) := by decide +kernel
theorem dX6_write_16 : decode cX6_write 16 = .ok (.i2b, 1) := by decide +kernel
theorem dX6_write_17 : decode cX6_write 17 = .ok (.invokevirtual 29, 3) := by decide +kernel
theorem dX6_write_20 : decode cX6_write 20 = .ok (.iinc 2 1, 3) := by decide +kernel
theorem dX6_write_23 : decode cX6_write 23 = .ok (.goto (-21), 3) := by decide +kernel
theorem dX6_write_26 : decode cX6_write 26 = .ok (.return_, 1) := by decide +kernel
theorem dX6_add_0 : decode cX6_add 0 = .ok (.aload_n 0, 1) := by decide +kernel
theorem dX6_add_1 : decode cX6_add 1 = .ok (.getfield 22, 3) := by decide +kernel
theorem dX6_add_4 : decode cX6_add 4 = .ok (.aload_n 0, 1) := by decide +kernel
theorem dX6_add_5 : decode cX6_add 5 = .ok (.getfield 9, 3) := by decide +kernel
theorem dX6_add_8 : decode cX6_add 8 = .ok (.arraylength, 1) := by decide +kernel
theorem dX6_add_9 : decode cX6_add 9 = .ok (.if_icmp .ge 23, 3) := by decide +kernel
theorem dX6_add_12 : decode cX6_add 12 = .ok (.aload_n 0, 1) := by decide +kernel
theorem dX6_add_13 : decode cX6_add 13 = .ok (.getfield 9, 3) := by decide +kernel
theorem dX6_add_16 : decode cX6_add 16 = .ok (.aload_n 0, 1) := by decide +kernel
theorem dX6_add_17 : decode cX6_add 17 = .ok (.getfield 22, 3) := by decide +kernel
theorem dX6_add_20 : decode cX6_add 20 = .ok (.iload_n 1, 1) := by decide +kernel
theorem dX6_add_21 : decode cX6_add 21 = .ok (.bastore, 1) := by decide +kernel
theorem dX6_add_22 : decode cX6_add 22 = .ok (.aload_n 0, 1) := by decide +kernel
theorem dX6_add_23 : decode cX6_add 23 = .ok (.dup, 1) := by decide +kernel
theorem dX6_add_24 : decode cX6_add 24 = .ok (.getfield 22, 3) := by decide +kernel
theorem dX6_add_27 : decode cX6_add 27 = .ok (.iconst 1, 1) := by decide +kernel
theorem dX6_add_28 : decode cX6_add 28 = .ok (.iadd, 1) := by decide +kernel
theorem dX6_add_29 : decode cX6_add 29 = .ok (.putfield 22, 3) := by decide +kernel
theorem dX6_add_32 : decode cX6_add 32 = .ok (.return_, 1) := by decide +kernel
theorem dX6_byteAt_0 : decode cX6_byteAt 0 = .ok (.iload_n 1, 1) := by decide +kernel
theorem dX6_byteAt_1 : decode cX6_byteAt 1 = .ok (.ifCond .lt 29, 3) := by decide +kernel
theorem dX6_byteAt_4 : decode cX6_byteAt 4 = .ok (.iload_n 1, 1) := by decide +kernel
theorem dX6_byteAt_5 : decode cX6_byteAt 5 = .ok (.aload_n 0, 1) := by decide +kernel
theorem dX6_byteAt_6 : decode cX6_byteAt 6 = .ok (.getfield 22, 3) := by decide +kernel
theorem dX6_byteAt_9 : decode cX6_byteAt 9 = .ok (.if_icmp .ge 21, 3) := by decide +kernel
theorem dX6_byteAt_12 : decode cX6_byteAt 12 = .ok (.iload_n 1, 1) := by decide +kernel
theorem dX6_byteAt_13 : decode cX6_byteAt 13 = .ok (.aload_n 0, 1) := by decide +kernel
theorem dX6_byteAt_14 : decode cX6_byteAt 14 = .ok (.getfield 9, 3) := by decide +kernel
theorem dX6_byteAt_17 : decode cX6_byteAt 17 = .ok (.arraylength, 1) := by decide +kernel
theorem dX6_byteAt_18 : decode cX6_byteAt 18 = .ok (.if_icmp .ge 12, 3) := by decide +kernel
theorem dX6_byteAt_21 : decode cX6_byteAt 21 = .ok (.aload_n 0, 1) := by decide +kernel
theorem dX6_byteAt_22 : decode cX6_byteAt 22 = .ok (.getfield 9, 3) := by decide +kernel
theorem dX6_byteAt_25 : decode cX6_byteAt 25 = .ok (.iload_n 1, 1) := by decide +kernel
theorem dX6_byteAt_26 : decode cX6_byteAt 26 = .ok (.baload, 1) := by decide +kernel
theorem dX6_byteAt_27 : decode cX6_byteAt 27 = .ok (.goto 6, 3) := by decide +kernel
theorem dX6_byteAt_30 : decode cX6_byteAt 30 = .ok (.sipush 256, 3) := by decide +kernel
theorem dX6_byteAt_33 : decode cX6_byteAt 33 = .ok (.ireturn, 1) := by decide +kernel
theorem dX6_cutUp_0 : decode cX6_cutUp 0 = .ok (.aload_n 0, 1) := by decide +kernel
theorem dX6_cutUp_1 : decode cX6_cutUp 1 = .ok (.iconst 0, 1) := by decide +kernel
theorem dX6_cutUp_2 : decode cX6_cutUp 2 = .ok (.putfield 26, 3) := by decide +kernel
theorem dX6_cutUp_5 : decode cX6_cutUp 5 = .ok (.aload_n 0, 1) := by decide +kernel
theorem dX6_cutUp_6 : decode cX6_cutUp 6 = .ok (.iconst 0, 1) := by decide +kernel
theorem dX6_cutUp_7 : decode cX6_cutUp 7 = .ok (.putfield 43, 3) := by decide +kernel
theorem dX6_cutUp_10 : decode cX6_cutUp 10 = .ok (.aload_n 0, 1) := by decide +kernel
theorem dX6_cutUp_11 : decode cX6_cutUp 11 = .ok (.invokevirtual 46, 3) := by decide +kernel
theorem dX6_cutUp_14 : decode cX6_cutUp 14 = .ok (.aload_n 0, 1) := by decide +kernel
theorem dX6_cutUp_15 : decode cX6_cutUp 15 = .ok (.getfield 43, 3) := by decide +kernel
theorem dX6_cutUp_18 : decode cX6_cutUp 18 = .ok (.aload_n 0, 1) := by decide +kernel
theorem dX6_cutUp_19 : decode cX6_cutUp 19 = .ok (.getfield 22, 3) := by decide +kernel
theorem dX6_cutUp_22 : decode cX6_cutUp 22 = .ok (.if_icmp .ge 58, 3) := by decide +kernel
theorem dX6_cutUp_25 : decode cX6_cutUp 25 = .ok (.aload_n 0, 1) := by decide +kernel
theorem dX6_cutUp_26 : decode cX6_cutUp 26 = .ok (.getfield 26, 3) := by decide +kernel
theorem dX6_cutUp_29 : decode cX6_cutUp 29 = .ok (.aload_n 0, 1) := by decide +kernel
theorem dX6_cutUp_30 : decode cX6_cutUp 30 = .ok (.getfield 15, 3) := by decide +kernel
theorem dX6_cutUp_33 : decode cX6_cutUp 33 = .ok (.arraylength, 1) := by decide +kernel
theorem dX6_cutUp_34 : decode cX6_cutUp 34 = .ok (.if_icmp .ge 46, 3) := by decide +kernel
theorem dX6_cutUp_37 : decode cX6_cutUp 37 = .ok (.aload_n 0, 1) := by decide +kernel
theorem dX6_cutUp_38 : decode cX6_cutUp 38 = .ok (.getfield 19, 3) := by decide +kernel
theorem dX6_cutUp_41 : decode cX6_cutUp 41 = .ok (.aload_n 0, 1) := by decide +kernel
theorem dX6_cutUp_42 : decode cX6_cutUp 42 = .ok (.getfield 26, 3) := by decide +kernel
theorem dX6_cutUp_45 : decode cX6_cutUp 45 = .ok (.aload_n 0, 1) := by decide +kernel
theorem dX6_cutUp_46 : decode cX6_cutUp 46 = .ok (.getfield 43, 3) := by decide +kernel
theorem dX6_cutUp_49 : decode cX6_cutUp 49 = .ok (.iastore, 1) := by decide +kernel
theorem dX6_cutUp_50 : decode cX6_cutUp 50 = .ok (.aload_n 0, 1) := by decide +kernel
theorem dX6_cutUp_51 : decode cX6_cutUp 51 = .ok (.getfield 15, 3) := by decide +kernel
theorem dX6_cutUp_54 : decode cX6_cutUp 54 = .ok (.aload_n 0, 1) := by decide +kernel
theorem dX6_cutUp_55 : decode cX6_cutUp 55 = .ok (.getfield 26, 3) := by decide +kernel
theorem dX6_cutUp_58 : decode cX6_cutUp 58 = .ok (.aload_n 0, 1) := by decide +kernel
theorem dX6_cutUp_59 : decode cX6_cutUp 59 = .ok (.invokevirtual 49, 3) := by decide +kernel
theorem dX6_cutUp_62 : decode cX6_cutUp 62 = .ok (.iastore, 1) := by decide +kernel
theorem dX6_cutUp_63 : decode cX6_cutUp 63 = .ok (.aload_n 0, 1) := by decide +kernel
theorem dX6_cutUp_64 : decode cX6_cutUp 64 = .ok (.dup, 1) := by decide +kernel
theorem dX6_cutUp_65 : decode cX6_cutUp 65 = .ok (.getfield 26, 3) := by decide +kernel
theorem dX6_cutUp_68 : decode cX6_cutUp 68 = .ok (.iconst 1, 1) := by decide +kernel
theorem dX6_cutUp_69 : decode cX6_cutUp 69 = .ok (.iadd, 1) := by decide +kernel
theorem dX6_cutUp_70 : decode cX6_cutUp 70 = .ok (.putfield 26, 3) := by decide +kernel
theorem dX6_cutUp_73 : decode cX6_cutUp 73 = .ok (.aload_n 0, 1) := by decide +kernel
theorem dX6_cutUp_74 : decode cX6_cutUp 74 = .ok (.invokevirtual 46, 3) := by decide +kernel
theorem dX6_cutUp_77 : decode cX6_cutUp 77 = .ok (.goto (-63), 3) := by decide +kernel
theorem dX6_cutUp_80 : decode cX6_cutUp 80 = .ok (.return_, 1) := by decide +kernel
theorem dX6_skipBlanks_0 : decode cX6_skipBlanks 0 = .ok (.aload_n 0, 1) := by decide +kernel
theorem dX6_skipBlanks_1 : decode cX6_skipBlanks 1 = .ok (.getfield 43, 3) := by decide +kernel
theorem dX6_skipBlanks_4 : decode cX6_skipBlanks 4 = .ok (.aload_n 0, 1) := by decide +kernel
theorem dX6_skipBlanks_5 : decode cX6_skipBlanks 5 = .ok (.getfield 22, 3) := by decide +kernel
theorem dX6_skipBlanks_8 : decode cX6_skipBlanks 8 = .ok (.if_icmp .ge 42, 3) := by decide +kernel
theorem dX6_skipBlanks_11 : decode cX6_skipBlanks 11 = .ok (.aload_n 0, 1) := by decide +kernel
theorem dX6_skipBlanks_12 : decode cX6_skipBlanks 12 = .ok (.aload_n 0, 1) := by decide +kernel
theorem dX6_skipBlanks_13 : decode cX6_skipBlanks 13 = .ok (.getfield 43, 3) := by decide +kernel
theorem dX6_skipBlanks_16 : decode cX6_skipBlanks 16 = .ok (.invokevirtual 52, 3) := by decide +kernel
theorem dX6_skipBlanks_19 : decode cX6_skipBlanks 19 = .ok (.bipush 32, 2) := by decide +kernel
theorem dX6_skipBlanks_21 : decode cX6_skipBlanks 21 = .ok (.if_icmp .eq 16, 3) := by decide +kernel
theorem dX6_skipBlanks_24 : decode cX6_skipBlanks 24 = .ok (.aload_n 0, 1) := by decide +kernel
theorem dX6_skipBlanks_25 : decode cX6_skipBlanks 25 = .ok (.aload_n 0, 1) := by decide +kernel
theorem dX6_skipBlanks_26 : decode cX6_skipBlanks 26 = .ok (.getfield 43, 3) := by decide +kernel
theorem dX6_skipBlanks_29 : decode cX6_skipBlanks 29 = .ok (.invokevirtual 52, 3) := by decide +kernel
theorem dX6_skipBlanks_32 : decode cX6_skipBlanks 32 = .ok (.bipush 10, 2) := by decide +kernel
theorem dX6_skipBlanks_34 : decode cX6_skipBlanks 34 = .ok (.if_icmp .ne 16, 3) := by decide +kernel
theorem dX6_skipBlanks_37 : decode cX6_skipBlanks 37 = .ok (.aload_n 0, 1) := by decide +kernel
theorem dX6_skipBlanks_38 : decode cX6_skipBlanks 38 = .ok (.dup, 1) := by decide +kernel
theorem dX6_skipBlanks_39 : decode cX6_skipBlanks 39 = .ok (.getfield 43, 3) := by decide +kernel
theorem dX6_skipBlanks_42 : decode cX6_skipBlanks 42 = .ok (.iconst 1, 1) := by decide +kernel
theorem dX6_skipBlanks_43 : decode cX6_skipBlanks 43 = .ok (.iadd, 1) := by decide +kernel
theorem dX6_skipBlanks_44 : decode cX6_skipBlanks 44 = .ok (.putfield 43, 3) := by decide +kernel
theorem dX6_skipBlanks_47 : decode cX6_skipBlanks 47 = .ok (.goto (-47), 3) := by decide +kernel
theorem dX6_skipBlanks_50 : decode cX6_skipBlanks 50 = .ok (.return_, 1) := by decide +kernel
theorem dX6_readToken_0 : decode cX6_readToken 0 = .ok (.aload_n 0, 1) := by decide +kernel
theorem dX6_readToken_1 : decode cX6_readToken 1 = .ok (.aload_n 0, 1) := by decide +kernel
theorem dX6_readToken_2 : decode cX6_readToken 2 = .ok (.getfield 43, 3) := by decide +kernel
theorem dX6_readToken_5 : decode cX6_readToken 5 = .ok (.invokevirtual 52, 3) := by decide +kernel
theorem dX6_readToken_8 : decode cX6_readToken 8 = .ok (.istore_n 1, 1) := by decide +kernel
theorem dX6_readToken_9 : decode cX6_readToken 9 = .ok (.iload_n 1, 1) := by decide +kernel
theorem dX6_readToken_10 : decode cX6_readToken 10 = .ok (.invokestatic 56, 3) := by decide +kernel
theorem dX6_readToken_13 : decode cX6_readToken 13 = .ok (.ifCond .eq 8, 3) := by decide +kernel
theorem dX6_readToken_16 : decode cX6_readToken 16 = .ok (.aload_n 0, 1) := by decide +kernel
theorem dX6_readToken_17 : decode cX6_readToken 17 = .ok (.invokevirtual 60, 3) := by decide +kernel
theorem dX6_readToken_20 : decode cX6_readToken 20 = .ok (.ireturn, 1) := by decide +kernel
theorem dX6_readToken_21 : decode cX6_readToken 21 = .ok (.iload_n 1, 1) := by decide +kernel
theorem dX6_readToken_22 : decode cX6_readToken 22 = .ok (.invokestatic 63, 3) := by decide +kernel
theorem dX6_readToken_25 : decode cX6_readToken 25 = .ok (.ifCond .eq 8, 3) := by decide +kernel
theorem dX6_readToken_28 : decode cX6_readToken 28 = .ok (.aload_n 0, 1) := by decide +kernel
theorem dX6_readToken_29 : decode cX6_readToken 29 = .ok (.invokevirtual 66, 3) := by decide +kernel
theorem dX6_readToken_32 : decode cX6_readToken 32 = .ok (.ireturn, 1) := by decide +kernel
theorem dX6_readToken_33 : decode cX6_readToken 33 = .ok (.aload_n 0, 1) := by decide +kernel
theorem dX6_readToken_34 : decode cX6_readToken 34 = .ok (.dup, 1) := by decide +kernel
theorem dX6_readToken_35 : decode cX6_readToken 35 = .ok (.getfield 43, 3) := by decide +kernel
theorem dX6_readToken_38 : decode cX6_readToken 38 = .ok (.iconst 1, 1) := by decide +kernel
theorem dX6_readToken_39 : decode cX6_readToken 39 = .ok (.iadd, 1) := by decide +kernel
theorem dX6_readToken_40 : decode cX6_readToken 40 = .ok (.putfield 43, 3) := by decide +kernel
theorem dX6_readToken_43 : decode cX6_readToken 43 = .ok (.iload_n 1, 1) := by decide +kernel
theorem dX6_readToken_44 : decode cX6_readToken 44 = .ok (.invokestatic 69, 3) := by decide +kernel
theorem dX6_readToken_47 : decode cX6_readToken 47 = .ok (.ifCond .eq 7, 3) := by decide +kernel
theorem dX6_readToken_50 : decode cX6_readToken 50 = .ok (.iload_n 1, 1) := by decide +kernel
theorem dX6_readToken_51 : decode cX6_readToken 51 = .ok (.goto 6, 3) := by decide +kernel
theorem dX6_readToken_54 : decode cX6_readToken 54 = .ok (.sipush 257, 3) := by decide +kernel
theorem dX6_readToken_57 : decode cX6_readToken 57 = .ok (.ireturn, 1) := by decide +kernel
theorem dX6_isLetter_0 : decode cX6_isLetter 0 = .ok (.iload_n 0, 1) := by decide +kernel
theorem dX6_isLetter_1 : decode cX6_isLetter 1 = .ok (.bipush 97, 2) := by decide +kernel
theorem dX6_isLetter_3 : decode cX6_isLetter 3 = .ok (.if_icmp .lt 13, 3) := by decide +kernel
theorem dX6_isLetter_6 : decode cX6_isLetter 6 = .ok (.iload_n 0, 1) := by decide +kernel
theorem dX6_isLetter_7 : decode cX6_isLetter 7 = .ok (.bipush 122, 2) := by decide +kernel
theorem dX6_isLetter_9 : decode cX6_isLetter 9 = .ok (.if_icmp .gt 7, 3) := by decide +kernel
theorem dX6_isLetter_12 : decode cX6_isLetter 12 = .ok (.iconst 1, 1) := by decide +kernel
theorem dX6_isLetter_13 : decode cX6_isLetter 13 = .ok (.goto 4, 3) := by decide +kernel
theorem dX6_isLetter_16 : decode cX6_isLetter 16 = .ok (.iconst 0, 1) := by decide +kernel
theorem dX6_isLetter_17 : decode cX6_isLetter 17 = .ok (.ireturn, 1) := by decide +kernel
theorem dX6_isDigit_0 : decode cX6_isDigit 0 = .ok (.iload_n 0, 1) := by decide +kernel
theorem dX6_isDigit_1 : decode cX6_isDigit 1 = .ok (.bipush 48, 2) := by decide +kernel
theorem dX6_isDigit_3 : decode cX6_isDigit 3 = .ok (.if_icmp .lt 13, 3) := by decide +kernel
theorem dX6_isDigit_6 : decode cX6_isDigit 6 = .ok (.iload_n 0, 1) := by decide +kernel
theorem dX6_isDigit_7 : decode cX6_isDigit 7 = .ok (.bipush 57, 2) := by decide +kernel
theorem dX6_isDigit_9 : decode cX6_isDigit 9 = .ok (.if_icmp .gt 7, 3) := by decide +kernel
theorem dX6_isDigit_12 : decode cX6_isDigit 12 = .ok (.iconst 1, 1) := by decide +kernel
theorem dX6_isDigit_13 : decode cX6_isDigit 13 = .ok (.goto 4, 3) := by decide +kernel
theorem dX6_isDigit_16 : decode cX6_isDigit 16 = .ok (.iconst 0, 1) := by decide +kernel
theorem dX6_isDigit_17 : decode cX6_isDigit 17 = .ok (.ireturn, 1) := by decide +kernel
theorem dX6_isSign_0 : decode cX6_isSign 0 = .ok (.iload_n 0, 1) := by decide +kernel
theorem dX6_isSign_1 : decode cX6_isSign 1 = .ok (.tableswitch 105 40 61 #[103, 103, 103, 103, 105, 103, 105, 105, 105, 105, 105, 105, 105, 105, 105, 105, 105, 105, 105, 103, 103, 103], 103) := by decide +kernel
theorem dX6_isSign_104 : decode cX6_isSign 104 = .ok (.iconst 1, 1) := by decide +kernel
theorem dX6_isSign_105 : decode cX6_isSign 105 = .ok (.ireturn, 1) := by decide +kernel
theorem dX6_isSign_106 : decode cX6_isSign 106 = .ok (.iconst 0, 1) := by decide +kernel
theorem dX6_isSign_107 : decode cX6_isSign 107 = .ok (.ireturn, 1) := by decide +kernel
theorem dX6_readNumber_0 : decode cX6_readNumber 0 = .ok (.aload_n 0, 1) := by decide +kernel
theorem dX6_readNumber_1 : decode cX6_readNumber 1 = .ok (.getfield 43, 3) := by decide +kernel
theorem dX6_readNumber_4 : decode cX6_readNumber 4 = .ok (.istore_n 1, 1) := by decide +kernel
theorem dX6_readNumber_5 : decode cX6_readNumber 5 = .ok (.iconst 0, 1) := by decide +kernel
theorem dX6_readNumber_6 : decode cX6_readNumber 6 = .ok (.istore_n 2, 1) := by decide +kernel
theorem dX6_readNumber_7 : decode cX6_readNumber 7 = .ok (.aload_n 0, 1) := by decide +kernel
theorem dX6_readNumber_8 : decode cX6_readNumber 8 = .ok (.getfield 43, 3) := by decide +kernel
theorem dX6_readNumber_11 : decode cX6_readNumber 11 = .ok (.aload_n 0, 1) := by decide +kernel
theorem dX6_readNumber_12 : decode cX6_readNumber 12 = .ok (.getfield 22, 3) := by decide +kernel
theorem dX6_readNumber_15 : decode cX6_readNumber 15 = .ok (.if_icmp .ge 47, 3) := by decide +kernel
theorem dX6_readNumber_18 : decode cX6_readNumber 18 = .ok (.aload_n 0, 1) := by decide +kernel
theorem dX6_readNumber_19 : decode cX6_readNumber 19 = .ok (.aload_n 0, 1) := by decide +kernel
theorem dX6_readNumber_20 : decode cX6_readNumber 20 = .ok (.getfield 43, 3) := by decide +kernel
theorem dX6_readNumber_23 : decode cX6_readNumber 23 = .ok (.invokevirtual 52, 3) := by decide +kernel
theorem dX6_readNumber_26 : decode cX6_readNumber 26 = .ok (.invokestatic 63, 3) := by decide +kernel
theorem dX6_readNumber_29 : decode cX6_readNumber 29 = .ok (.ifCond .eq 33, 3) := by decide +kernel
theorem dX6_readNumber_32 : decode cX6_readNumber 32 = .ok (.bipush 10, 2) := by decide +kernel
theorem dX6_readNumber_34 : decode cX6_readNumber 34 = .ok (.iload_n 2, 1) := by decide +kernel
theorem dX6_readNumber_35 : decode cX6_readNumber 35 = .ok (.imul, 1) := by decide +kernel
theorem dX6_readNumber_36 : decode cX6_readNumber 36 = .ok (.aload_n 0, 1) := by decide +kernel
theorem dX6_readNumber_37 : decode cX6_readNumber 37 = .ok (.aload_n 0, 1) := by decide +kernel
theorem dX6_readNumber_38 : decode cX6_readNumber 38 = .ok (.getfield 43, 3) := by decide +kernel
theorem dX6_readNumber_41 : decode cX6_readNumber 41 = .ok (.invokevirtual 52, 3) := by decide +kernel
theorem dX6_readNumber_44 : decode cX6_readNumber 44 = .ok (.iadd, 1) := by decide +kernel
theorem dX6_readNumber_45 : decode cX6_readNumber 45 = .ok (.bipush 48, 2) := by decide +kernel
theorem dX6_readNumber_47 : decode cX6_readNumber 47 = .ok (.isub, 1) := by decide +kernel
theorem dX6_readNumber_48 : decode cX6_readNumber 48 = .ok (.istore_n 2, 1) := by decide +kernel
theorem dX6_readNumber_49 : decode cX6_readNumber 49 = .ok (.aload_n 0, 1) := by decide +kernel
theorem dX6_readNumber_50 : decode cX6_readNumber 50 = .ok (.dup, 1) := by decide +kernel
theorem dX6_readNumber_51 : decode cX6_readNumber 51 = .ok (.getfield 43, 3) := by decide +kernel
theorem dX6_readNumber_54 : decode cX6_readNumber 54 = .ok (.iconst 1, 1) := by decide +kernel
theorem dX6_readNumber_55 : decode cX6_readNumber 55 = .ok (.iadd, 1) := by decide +kernel
theorem dX6_readNumber_56 : decode cX6_readNumber 56 = .ok (.putfield 43, 3) := by decide +kernel
theorem dX6_readNumber_59 : decode cX6_readNumber 59 = .ok (.goto (-52), 3) := by decide +kernel
theorem dX6_readNumber_62 : decode cX6_readNumber 62 = .ok (.aload_n 0, 1) := by decide +kernel
theorem dX6_readNumber_63 : decode cX6_readNumber 63 = .ok (.getfield 43, 3) := by decide +kernel
theorem dX6_readNumber_66 : decode cX6_readNumber 66 = .ok (.iload_n 1, 1) := by decide +kernel
theorem dX6_readNumber_67 : decode cX6_readNumber 67 = .ok (.isub, 1) := by decide +kernel
theorem dX6_readNumber_68 : decode cX6_readNumber 68 = .ok (.iconst 4, 1) := by decide +kernel
theorem dX6_readNumber_69 : decode cX6_readNumber 69 = .ok (.if_icmp .le 9, 3) := by decide +kernel
theorem dX6_readNumber_72 : decode cX6_readNumber 72 = .ok (.sipush 257, 3) := by decide +kernel
theorem dX6_readNumber_75 : decode cX6_readNumber 75 = .ok (.goto 8, 3) := by decide +kernel
theorem dX6_readNumber_78 : decode cX6_readNumber 78 = .ok (.sipush 1000, 3) := by decide +kernel
theorem dX6_readNumber_81 : decode cX6_readNumber 81 = .ok (.iload_n 2, 1) := by decide +kernel
theorem dX6_readNumber_82 : decode cX6_readNumber 82 = .ok (.iadd, 1) := by decide +kernel
theorem dX6_readNumber_83 : decode cX6_readNumber 83 = .ok (.ireturn, 1) := by decide +kernel
theorem dX6_readWord_0 : decode cX6_readWord 0 = .ok (.aload_n 0, 1) := by decide +kernel
theorem dX6_readWord_1 : decode cX6_readWord 1 = .ok (.getfield 43, 3) := by decide +kernel
theorem dX6_readWord_4 : decode cX6_readWord 4 = .ok (.istore_n 1, 1) := by decide +kernel
theorem dX6_readWord_5 : decode cX6_readWord 5 = .ok (.aload_n 0, 1) := by decide +kernel
theorem dX6_readWord_6 : decode cX6_readWord 6 = .ok (.getfield 43, 3) := by decide +kernel
theorem dX6_readWord_9 : decode cX6_readWord 9 = .ok (.aload_n 0, 1) := by decide +kernel
theorem dX6_readWord_10 : decode cX6_readWord 10 = .ok (.getfield 22, 3) := by decide +kernel
theorem dX6_readWord_13 : decode cX6_readWord 13 = .ok (.if_icmp .ge 30, 3) := by decide +kernel
theorem dX6_readWord_16 : decode cX6_readWord 16 = .ok (.aload_n 0, 1) := by decide +kernel
theorem dX6_readWord_17 : decode cX6_readWord 17 = .ok (.aload_n 0, 1) := by decide +kernel
theorem dX6_readWord_18 : decode cX6_readWord 18 = .ok (.getfield 43, 3) := by decide +kernel
theorem dX6_readWord_21 : decode cX6_readWord 21 = .ok (.invokevirtual 52, 3) := by decide +kernel
theorem dX6_readWord_24 : decode cX6_readWord 24 = .ok (.invokestatic 56, 3) := by decide +kernel
theorem dX6_readWord_27 : decode cX6_readWord 27 = .ok (.ifCond .eq 16, 3) := by decide +kernel
theorem dX6_readWord_30 : decode cX6_readWord 30 = .ok (.aload_n 0, 1) := by decide +kernel
theorem dX6_readWord_31 : decode cX6_readWord 31 = .ok (.dup, 1) := by decide +kernel
theorem dX6_readWord_32 : decode cX6_readWord 32 = .ok (.getfield 43, 3) := by decide +kernel
theorem dX6_readWord_35 : decode cX6_readWord 35 = .ok (.iconst 1, 1) := by decide +kernel
theorem dX6_readWord_36 : decode cX6_readWord 36 = .ok (.iadd, 1) := by decide +kernel
theorem dX6_readWord_37 : decode cX6_readWord 37 = .ok (.putfield 43, 3) := by decide +kernel
theorem dX6_readWord_40 : decode cX6_readWord 40 = .ok (.goto (-35), 3) := by decide +kernel
theorem dX6_readWord_43 : decode cX6_readWord 43 = .ok (.aload_n 0, 1) := by decide +kernel
theorem dX6_readWord_44 : decode cX6_readWord 44 = .ok (.iload_n 1, 1) := by decide +kernel
theorem dX6_readWord_45 : decode cX6_readWord 45 = .ok (.invokevirtual 72, 3) := by decide +kernel
theorem dX6_readWord_48 : decode cX6_readWord 48 = .ok (.ireturn, 1) := by decide +kernel
theorem dX6_keyOrName_0 : decode cX6_keyOrName 0 = .ok (.aload_n 0, 1) := by decide +kernel
theorem dX6_keyOrName_1 : decode cX6_keyOrName 1 = .ok (.ldc 75, 2) := by decide +kernel
theorem dX6_keyOrName_3 : decode cX6_keyOrName 3 = .ok (.iload_n 1, 1) := by decide +kernel
theorem dX6_keyOrName_4 : decode cX6_keyOrName 4 = .ok (.invokevirtual 77, 3) := by decide +kernel
theorem dX6_keyOrName_7 : decode cX6_keyOrName 7 = .ok (.ifCond .eq 7, 3) := by decide +kernel
theorem dX6_keyOrName_10 : decode cX6_keyOrName 10 = .ok (.sipush 260, 3) := by decide +kernel
theorem dX6_keyOrName_13 : decode cX6_keyOrName 13 = .ok (.ireturn, 1) := by decide +kernel
theorem dX6_keyOrName_14 : decode cX6_keyOrName 14 = .ok (.aload_n 0, 1) := by decide +kernel
theorem dX6_keyOrName_15 : decode cX6_keyOrName 15 = .ok (.ldc 81, 2) := by decide +kernel
theorem dX6_keyOrName_17 : decode cX6_keyOrName 17 = .ok (.iload_n 1, 1) := by decide +kernel
theorem dX6_keyOrName_18 : decode cX6_keyOrName 18 = .ok (.invokevirtual 77, 3) := by decide +kernel
theorem dX6_keyOrName_21 : decode cX6_keyOrName 21 = .ok (.ifCond .eq 7, 3) := by decide +kernel
theorem dX6_keyOrName_24 : decode cX6_keyOrName 24 = .ok (.sipush 261, 3) := by decide +kernel
theorem dX6_keyOrName_27 : decode cX6_keyOrName 27 = .ok (.ireturn, 1) := by decide +kernel
theorem dX6_keyOrName_28 : decode cX6_keyOrName 28 = .ok (.aload_n 0, 1) := by decide +kernel
theorem dX6_keyOrName_29 : decode cX6_keyOrName 29 = .ok (.ldc 83, 2) := by decide +kernel
theorem dX6_keyOrName_31 : decode cX6_keyOrName 31 = .ok (.iload_n 1, 1) := by decide +kernel
theorem dX6_keyOrName_32 : decode cX6_keyOrName 32 = .ok (.invokevirtual 77, 3) := by decide +kernel
theorem dX6_keyOrName_35 : decode cX6_keyOrName 35 = .ok (.ifCond .eq 7, 3) := by decide +kernel
theorem dX6_keyOrName_38 : decode cX6_keyOrName 38 = .ok (.sipush 262, 3) := by decide +kernel
theorem dX6_keyOrName_41 : decode cX6_keyOrName 41 = .ok (.ireturn, 1) := by decide +kernel
theorem dX6_keyOrName_42 : decode cX6_keyOrName 42 = .ok (.aload_n 0, 1) := by decide +kernel
theorem dX6_keyOrName_43 : decode cX6_keyOrName 43 = .ok (.ldc 85, 2) := by decide +kernel
theorem dX6_keyOrName_45 : decode cX6_keyOrName 45 = .ok (.iload_n 1, 1) := by decide +kernel
theorem dX6_keyOrName_46 : decode cX6_keyOrName 46 = .ok (.invokevirtual 77, 3) := by decide +kernel
theorem dX6_keyOrName_49 : decode cX6_keyOrName 49 = .ok (.ifCond .eq 7, 3) := by decide +kernel
theorem dX6_keyOrName_52 : decode cX6_keyOrName 52 = .ok (.sipush 263, 3) := by decide +kernel
theorem dX6_keyOrName_55 : decode cX6_keyOrName 55 = .ok (.ireturn, 1) := by decide +kernel
theorem dX6_keyOrName_56 : decode cX6_keyOrName 56 = .ok (.aload_n 0, 1) := by decide +kernel
theorem dX6_keyOrName_57 : decode cX6_keyOrName 57 = .ok (.ldc 87, 2) := by decide +kernel
theorem dX6_keyOrName_59 : decode cX6_keyOrName 59 = .ok (.iload_n 1, 1) := by decide +kernel
theorem dX6_keyOrName_60 : decode cX6_keyOrName 60 = .ok (.invokevirtual 77, 3) := by decide +kernel
theorem dX6_keyOrName_63 : decode cX6_keyOrName 63 = .ok (.ifCond .eq 7, 3) := by decide +kernel
theorem dX6_keyOrName_66 : decode cX6_keyOrName 66 = .ok (.sipush 264, 3) := by decide +kernel
theorem dX6_keyOrName_69 : decode cX6_keyOrName 69 = .ok (.ireturn, 1) := by decide +kernel
theorem dX6_keyOrName_70 : decode cX6_keyOrName 70 = .ok (.aload_n 0, 1) := by decide +kernel
theorem dX6_keyOrName_71 : decode cX6_keyOrName 71 = .ok (.ldc 89, 2) := by decide +kernel
theorem dX6_keyOrName_73 : decode cX6_keyOrName 73 = .ok (.iload_n 1, 1) := by decide +kernel
theorem dX6_keyOrName_74 : decode cX6_keyOrName 74 = .ok (.invokevirtual 77, 3) := by decide +kernel
theorem dX6_keyOrName_77 : decode cX6_keyOrName 77 = .ok (.ifCond .eq 7, 3) := by decide +kernel
theorem dX6_keyOrName_80 : decode cX6_keyOrName 80 = .ok (.sipush 265, 3) := by decide +kernel
theorem dX6_keyOrName_83 : decode cX6_keyOrName 83 = .ok (.ireturn, 1) := by decide +kernel
theorem dX6_keyOrName_84 : decode cX6_keyOrName 84 = .ok (.aload_n 0, 1) := by decide +kernel
theorem dX6_keyOrName_85 : decode cX6_keyOrName 85 = .ok (.ldc 91, 2) := by decide +kernel
theorem dX6_keyOrName_87 : decode cX6_keyOrName 87 = .ok (.iload_n 1, 1) := by decide +kernel
theorem dX6_keyOrName_88 : decode cX6_keyOrName 88 = .ok (.invokevirtual 77, 3) := by decide +kernel
theorem dX6_keyOrName_91 : decode cX6_keyOrName 91 = .ok (.ifCond .eq 7, 3) := by decide +kernel
theorem dX6_keyOrName_94 : decode cX6_keyOrName 94 = .ok (.sipush 270, 3) := by decide +kernel
theorem dX6_keyOrName_97 : decode cX6_keyOrName 97 = .ok (.ireturn, 1) := by decide +kernel
theorem dX6_keyOrName_98 : decode cX6_keyOrName 98 = .ok (.aload_n 0, 1) := by decide +kernel
theorem dX6_keyOrName_99 : decode cX6_keyOrName 99 = .ok (.ldc 95, 2) := by decide +kernel
theorem dX6_keyOrName_101 : decode cX6_keyOrName 101 = .ok (.iload_n 1, 1) := by decide +kernel
theorem dX6_keyOrName_102 : decode cX6_keyOrName 102 = .ok (.invokevirtual 77, 3) := by decide +kernel
theorem dX6_keyOrName_105 : decode cX6_keyOrName 105 = .ok (.ifCond .eq 7, 3) := by decide +kernel
theorem dX6_keyOrName_108 : decode cX6_keyOrName 108 = .ok (.sipush 271, 3) := by decide +kernel
theorem dX6_keyOrName_111 : decode cX6_keyOrName 111 = .ok (.ireturn, 1) := by decide +kernel
theorem dX6_keyOrName_112 : decode cX6_keyOrName 112 = .ok (.aload_n 0, 1) := by decide +kernel
theorem dX6_keyOrName_113 : decode cX6_keyOrName 113 = .ok (.ldc 97, 2) := by decide +kernel
theorem dX6_keyOrName_115 : decode cX6_keyOrName 115 = .ok (.iload_n 1, 1) := by decide +kernel
theorem dX6_keyOrName_116 : decode cX6_keyOrName 116 = .ok (.invokevirtual 77, 3) := by decide +kernel
theorem dX6_keyOrName_119 : decode cX6_keyOrName 119 = .ok (.ifCond .eq 7, 3) := by decide +kernel
theorem dX6_keyOrName_122 : decode cX6_keyOrName 122 = .ok (.sipush 272, 3) := by decide +kernel
theorem dX6_keyOrName_125 : decode cX6_keyOrName 125 = .ok (.ireturn, 1) := by decide +kernel
theorem dX6_keyOrName_126 : decode cX6_keyOrName 126 = .ok (.aload_n 0, 1) := by decide +kernel
theorem dX6_keyOrName_127 : decode cX6_keyOrName 127 = .ok (.ldc 98, 2) := by decide +kernel
theorem dX6_keyOrName_129 : decode cX6_keyOrName 129 = .ok (.iload_n 1, 1) := by decide +kernel
theorem dX6_keyOrName_130 : decode cX6_keyOrName 130 = .ok (.invokevirtual 77, 3) := by decide +kernel
theorem dX6_keyOrName_133 : decode cX6_keyOrName 133 = .ok (.ifCond .eq 7, 3) := by decide +kernel
theorem dX6_keyOrName_136 : decode cX6_keyOrName 136 = .ok (.sipush 273, 3) := by decide +kernel
theorem dX6_keyOrName_139 : decode cX6_keyOrName 139 = .ok (.ireturn, 1) := by decide +kernel
theorem dX6_keyOrName_140 : decode cX6_keyOrName 140 = .ok (.aload_n 0, 1) := by decide +kernel
theorem dX6_keyOrName_141 : decode cX6_keyOrName 141 = .ok (.ldc 100, 2) := by decide +kernel
theorem dX6_keyOrName_143 : decode cX6_keyOrName 143 = .ok (.iload_n 1, 1) := by decide +kernel
theorem dX6_keyOrName_144 : decode cX6_keyOrName 144 = .ok (.invokevirtual 77, 3) := by decide +kernel
theorem dX6_keyOrName_147 : decode cX6_keyOrName 147 = .ok (.ifCond .eq 7, 3) := by decide +kernel
theorem dX6_keyOrName_150 : decode cX6_keyOrName 150 = .ok (.sipush 274, 3) := by decide +kernel
theorem dX6_keyOrName_153 : decode cX6_keyOrName 153 = .ok (.ireturn, 1) := by decide +kernel
theorem dX6_keyOrName_154 : decode cX6_keyOrName 154 = .ok (.aload_n 0, 1) := by decide +kernel
theorem dX6_keyOrName_155 : decode cX6_keyOrName 155 = .ok (.ldc 102, 2) := by decide +kernel
theorem dX6_keyOrName_157 : decode cX6_keyOrName 157 = .ok (.iload_n 1, 1) := by decide +kernel
theorem dX6_keyOrName_158 : decode cX6_keyOrName 158 = .ok (.invokevirtual 77, 3) := by decide +kernel
theorem dX6_keyOrName_161 : decode cX6_keyOrName 161 = .ok (.ifCond .eq 7, 3) := by decide +kernel
theorem dX6_keyOrName_164 : decode cX6_keyOrName 164 = .ok (.sipush 275, 3) := by decide +kernel
theorem dX6_keyOrName_167 : decode cX6_keyOrName 167 = .ok (.ireturn, 1) := by decide +kernel
theorem dX6_keyOrName_168 : decode cX6_keyOrName 168 = .ok (.sipush 257, 3) := by decide +kernel
theorem dX6_keyOrName_171 : decode cX6_keyOrName 171 = .ok (.ireturn, 1) := by decide +kernel
theorem dX6_spells_0 : decode cX6_spells 0 = .ok (.aload_n 0, 1) := by decide +kernel
theorem dX6_spells_1 : decode cX6_spells 1 = .ok (.getfield 43, 3) := by decide +kernel
theorem dX6_spells_4 : decode cX6_spells 4 = .ok (.iload_n 2, 1) := by decide +kernel
theorem dX6_spells_5 : decode cX6_spells 5 = .ok (.isub, 1) := by decide +kernel
theorem dX6_spells_6 : decode cX6_spells 6 = .ok (.aload_n 1, 1) := by decide +kernel
theorem dX6_spells_7 : decode cX6_spells 7 = .ok (.invokevirtual 33, 3) := by decide +kernel
theorem dX6_spells_10 : decode cX6_spells 10 = .ok (.if_icmp .eq 5, 3) := by decide +kernel
theorem dX6_spells_13 : decode cX6_spells 13 = .ok (.iconst 0, 1) := by decide +kernel
theorem dX6_spells_14 : decode cX6_spells 14 = .ok (.ireturn, 1) := by decide +kernel
theorem dX6_spells_15 : decode cX6_spells 15 = .ok (.iconst 0, 1) := by decide +kernel
theorem dX6_spells_16 : decode cX6_spells 16 = .ok (.istore_n 3, 1) := by decide +kernel
theorem dX6_spells_17 : decode cX6_spells 17 = .ok (.iload_n 3, 1) := by decide +kernel
theorem dX6_spells_18 : decode cX6_spells 18 = .ok (.aload_n 1, 1) := by decide +kernel
theorem dX6_spells_19 : decode cX6_spells 19 = .ok (.invokevirtual 33, 3) := by decide +kernel
theorem dX6_spells_22 : decode cX6_spells 22 = .ok (.if_icmp .ge 26, 3) := by decide +kernel
theorem dX6_spells_25 : decode cX6_spells 25 = .ok (.aload_n 0, 1) := by decide +kernel
theorem dX6_spells_26 : decode cX6_spells 26 = .ok (.iload_n 2, 1) := by decide +kernel
theorem dX6_spells_27 : decode cX6_spells 27 = .ok (.iload_n 3, 1) := by decide +kernel
theorem dX6_spells_28 : decode cX6_spells 28 = .ok (.iadd, 1) := by decide +kernel
theorem dX6_spells_29 : decode cX6_spells 29 = .ok (.invokevirtual 52, 3) := by decide +kernel
theorem dX6_spells_32 : decode cX6_spells 32 = .ok (.aload_n 1, 1) := by decide +kernel
theorem dX6_spells_33 : decode cX6_spells 33 = .ok (.iload_n 3, 1) := by decide +kernel
theorem dX6_spells_34 : decode cX6_spells 34 = .ok (.invokevirtual 39, 3) := by decide +kernel
theorem dX6_spells_37 : decode cX6_spells 37 = .ok (.if_icmp .eq 5, 3) := by decide +kernel
theorem dX6_spells_40 : decode cX6_spells 40 = .ok (.iconst 0, 1) := by decide +kernel
theorem dX6_spells_41 : decode cX6_spells 41 = .ok (.ireturn, 1) := by decide +kernel
theorem dX6_spells_42 : decode cX6_spells 42 = .ok (.iinc 3 1, 3) := by decide +kernel
theorem dX6_spells_45 : decode cX6_spells 45 = .ok (.goto (-28), 3) := by decide +kernel
theorem dX6_spells_48 : decode cX6_spells 48 = .ok (.iconst 1, 1) := by decide +kernel
theorem dX6_spells_49 : decode cX6_spells 49 = .ok (.ireturn, 1) := by decide +kernel
theorem dX7_init_0 : decode cX7_init 0 = .ok (.aload_n 0, 1) := by decide +kernel
theorem dX7_init_1 : decode cX7_init 1 = .ok (.invokespecial 3, 3) := by decide +kernel
theorem dX7_init_4 : decode cX7_init 4 = .ok (.aload_n 0, 1) := by decide +kernel
theorem dX7_init_5 : decode cX7_init 5 = .ok (.sipush 160, 3) := by decide +kernel
theorem dX7_init_8 : decode cX7_init 8 = .ok (.newarray .int, 2) := by decide +kernel
theorem dX7_init_10 : decode cX7_init 10 = .ok (.putfield 9, 3) := by decide +kernel
theorem dX7_init_13 : decode cX7_init 13 = .ok (.aload_n 0, 1) := by decide +kernel
theorem dX7_init_14 : decode cX7_init 14 = .ok (.iconst 3, 1) := by decide +kernel
theorem dX7_init_15 : decode cX7_init 15 = .ok (.newarray .int, 2) := by decide +kernel
theorem dX7_init_17 : decode cX7_init 17 = .ok (.putfield 15, 3) := by decide +kernel
theorem dX7_init_20 : decode cX7_init 20 = .ok (.aload_n 0, 1) := by decide +kernel
theorem dX7_init_21 : decode cX7_init 21 = .ok (.sipush 160, 3) := by decide +kernel
theorem dX7_init_24 : decode cX7_init 24 = .ok (.newarray .int, 2) := by decide +kernel
theorem dX7_init_26 : decode cX7_init 26 = .ok (.putfield 18, 3) := by decide +kernel
theorem dX7_init_29 : decode cX7_init 29 = .ok (.return_, 1) := by decide +kernel
theorem dX7_begin_0 : decode cX7_begin 0 = .ok (.aload_n 0, 1) := by decide +kernel
theorem dX7_begin_1 : decode cX7_begin 1 = .ok (.iconst 0, 1) := by decide +kernel
theorem dX7_begin_2 : decode cX7_begin 2 = .ok (.putfield 21, 3) := by decide +kernel
theorem dX7_begin_5 : decode cX7_begin 5 = .ok (.aload_n 0, 1) := by decide +kernel
theorem dX7_begin_6 : decode cX7_begin 6 = .ok (.iconst 0, 1) := by decide +kernel
theorem dX7_begin_7 : decode cX7_begin 7 = .ok (.putfield 25, 3) := by decide +kernel
theorem dX7_begin_10 : decode cX7_begin 10 = .ok (.return_, 1) := by decide +kernel
theorem dX7_add_0 : decode cX7_add 0 = .ok (.aload_n 0, 1) := by decide +kernel
theorem dX7_add_1 : decode cX7_add 1 = .ok (.getfield 21, 3) := by decide +kernel
theorem dX7_add_4 : decode cX7_add 4 = .ok (.aload_n 0, 1) := by decide +kernel
theorem dX7_add_5 : decode cX7_add 5 = .ok (.getfield 9, 3) := by decide +kernel
theorem dX7_add_8 : decode cX7_add 8 = .ok (.arraylength, 1) := by decide +kernel
theorem dX7_add_9 : decode cX7_add 9 = .ok (.if_icmp .ge 23, 3) := by decide +kernel
theorem dX7_add_12 : decode cX7_add 12 = .ok (.aload_n 0, 1) := by decide +kernel
theorem dX7_add_13 : decode cX7_add 13 = .ok (.getfield 9, 3) := by decide +kernel
theorem dX7_add_16 : decode cX7_add 16 = .ok (.aload_n 0, 1) := by decide +kernel
theorem dX7_add_17 : decode cX7_add 17 = .ok (.getfield 21, 3) := by decide +kernel
theorem dX7_add_20 : decode cX7_add 20 = .ok (.iload_n 1, 1) := by decide +kernel
theorem dX7_add_21 : decode cX7_add 21 = .ok (.iastore, 1) := by decide +kernel
theorem dX7_add_22 : decode cX7_add 22 = .ok (.aload_n 0, 1) := by decide +kernel
theorem dX7_add_23 : decode cX7_add 23 = .ok (.dup, 1) := by decide +kernel
theorem dX7_add_24 : decode cX7_add 24 = .ok (.getfield 21, 3) := by decide +kernel
theorem dX7_add_27 : decode cX7_add 27 = .ok (.iconst 1, 1) := by decide +kernel
theorem dX7_add_28 : decode cX7_add 28 = .ok (.iadd, 1) := by decide +kernel
theorem dX7_add_29 : decode cX7_add 29 = .ok (.putfield 21, 3) := by decide +kernel
theorem dX7_add_32 : decode cX7_add 32 = .ok (.return_, 1) := by decide +kernel
theorem dX7_addName_0 : decode cX7_addName 0 = .ok (.aload_n 0, 1) := by decide +kernel
theorem dX7_addName_1 : decode cX7_addName 1 = .ok (.iconst (-1), 1) := by decide +kernel
theorem dX7_addName_2 : decode cX7_addName 2 = .ok (.iload_n 1, 1) := by decide +kernel
theorem dX7_addName_3 : decode cX7_addName 3 = .ok (.isub, 1) := by decide +kernel
theorem dX7_addName_4 : decode cX7_addName 4 = .ok (.invokevirtual 28, 3) := by decide +kernel
theorem dX7_addName_7 : decode cX7_addName 7 = .ok (.return_, 1) := by decide +kernel
theorem dX7_endPart_0 : decode cX7_endPart 0 = .ok (.aload_n 0, 1) := by decide +kernel
theorem dX7_endPart_1 : decode cX7_endPart 1 = .ok (.getfield 25, 3) := by decide +kernel
theorem dX7_endPart_4 : decode cX7_endPart 4 = .ok (.aload_n 0, 1) := by decide +kernel
theorem dX7_endPart_5 : decode cX7_endPart 5 = .ok (.getfield 15, 3) := by decide +kernel
theorem dX7_endPart_8 : decode cX7_endPart 8 = .ok (.arraylength, 1) := by decide +kernel
theorem dX7_endPart_9 : decode cX7_endPart 9 = .ok (.if_icmp .ge 26, 3) := by decide +kernel
theorem dX7_endPart_12 : decode cX7_endPart 12 = .ok (.aload_n 0, 1) := by decide +kernel
theorem dX7_endPart_13 : decode cX7_endPart 13 = .ok (.getfield 15, 3) := by decide +kernel
theorem dX7_endPart_16 : decode cX7_endPart 16 = .ok (.aload_n 0, 1) := by decide +kernel
theorem dX7_endPart_17 : decode cX7_endPart 17 = .ok (.getfield 25, 3) := by decide +kernel
theorem dX7_endPart_20 : decode cX7_endPart 20 = .ok (.aload_n 0, 1) := by decide +kernel
theorem dX7_endPart_21 : decode cX7_endPart 21 = .ok (.getfield 21, 3) := by decide +kernel
theorem dX7_endPart_24 : decode cX7_endPart 24 = .ok (.iastore, 1) := by decide +kernel
theorem dX7_endPart_25 : decode cX7_endPart 25 = .ok (.aload_n 0, 1) := by decide +kernel
theorem dX7_endPart_26 : decode cX7_endPart 26 = .ok (.dup, 1) := by decide +kernel
theorem dX7_endPart_27 : decode cX7_endPart 27 = .ok (.getfield 25, 3) := by decide +kernel
theorem dX7_endPart_30 : decode cX7_endPart 30 = .ok (.iconst 1, 1) := by decide +kernel
theorem dX7_endPart_31 : decode cX7_endPart 31 = .ok (.iadd, 1) := by decide +kernel
theorem dX7_endPart_32 : decode cX7_endPart 32 = .ok (.putfield 25, 3) := by decide +kernel
theorem dX7_endPart_35 : decode cX7_endPart 35 = .ok (.return_, 1) := by decide +kernel
theorem dX7_worth_0 : decode cX7_worth 0 = .ok (.aload_n 0, 1) := by decide +kernel
theorem dX7_worth_1 : decode cX7_worth 1 = .ok (.iconst 0, 1) := by decide +kernel
theorem dX7_worth_2 : decode cX7_worth 2 = .ok (.putfield 32, 3) := by decide +kernel
theorem dX7_worth_5 : decode cX7_worth 5 = .ok (.iload_n 1, 1) := by decide +kernel
theorem dX7_worth_6 : decode cX7_worth 6 = .ok (.aload_n 0, 1) := by decide +kernel
theorem dX7_worth_7 : decode cX7_worth 7 = .ok (.getfield 25, 3) := by decide +kernel
theorem dX7_worth_10 : decode cX7_worth 10 = .ok (.invokestatic 35, 3) := by decide +kernel
theorem dX7_worth_13 : decode cX7_worth 13 = .ok (.ifCond .ne 5, 3) := by decide +kernel
theorem dX7_worth_16 : decode cX7_worth 16 = .ok (.iconst 0, 1) := by decide +kernel
theorem dX7_worth_17 : decode cX7_worth 17 = .ok (.ireturn, 1) := by decide +kernel
theorem dX7_worth_18 : decode cX7_worth 18 = .ok (.aload_n 0, 1) := by decide +kernel
theorem dX7_worth_19 : decode cX7_worth 19 = .ok (.getfield 15, 3) := by decide +kernel
theorem dX7_worth_22 : decode cX7_worth 22 = .ok (.iload_n 1, 1) := by decide +kernel
theorem dX7_worth_23 : decode cX7_worth 23 = .ok (.iaload, 1) := by decide +kernel
theorem dX7_worth_24 : decode cX7_worth 24 = .ok (.aload_n 0, 1) := by decide +kernel
theorem dX7_worth_25 : decode cX7_worth 25 = .ok (.getfield 21, 3) := by decide +kernel
theorem dX7_worth_28 : decode cX7_worth 28 = .ok (.invokestatic 39, 3) := by decide +kernel
theorem dX7_worth_31 : decode cX7_worth 31 = .ok (.istore_n 3, 1) := by decide +kernel
theorem dX7_worth_32 : decode cX7_worth 32 = .ok (.iload_n 1, 1) := by decide +kernel
theorem dX7_worth_33 : decode cX7_worth 33 = .ok (.ifCond .ne 7, 3) := by decide +kernel
theorem dX7_worth_36 : decode cX7_worth 36 = .ok (.iconst 0, 1) := by decide +kernel
theorem dX7_worth_37 : decode cX7_worth 37 = .ok (.goto 11, 3) := by decide +kernel
theorem dX7_worth_40 : decode cX7_worth 40 = .ok (.aload_n 0, 1) := by decide +kernel
theorem dX7_worth_41 : decode cX7_worth 41 = .ok (.getfield 15, 3) := by decide +kernel
theorem dX7_worth_44 : decode cX7_worth 44 = .ok (.iload_n 1, 1) := by decide +kernel
theorem dX7_worth_45 : decode cX7_worth 45 = .ok (.iconst 1, 1) := by decide +kernel
theorem dX7_worth_46 : decode cX7_worth 46 = .ok (.isub, 1) := by decide +kernel
theorem dX7_worth_47 : decode cX7_worth 47 = .ok (.iaload, 1) := by decide +kernel
theorem dX7_worth_48 : decode cX7_worth 48 = .ok (.istore 4, 2) := by decide +kernel
theorem dX7_worth_50 : decode cX7_worth 50 = .ok (.iload 4, 2) := by decide +kernel
theorem dX7_worth_52 : decode cX7_worth 52 = .ok (.iload_n 3, 1) := by decide +kernel
theorem dX7_worth_53 : decode cX7_worth 53 = .ok (.if_icmp .ge 21, 3) := by decide +kernel
theorem dX7_worth_56 : decode cX7_worth 56 = .ok (.aload_n 0, 1) := by decide +kernel
theorem dX7_worth_57 : decode cX7_worth 57 = .ok (.aload_n 0, 1) := by decide +kernel
theorem dX7_worth_58 : decode cX7_worth 58 = .ok (.getfield 9, 3) := by decide +kernel
theorem dX7_worth_61 : decode cX7_worth 61 = .ok (.iload 4, 2) := by decide +kernel
theorem dX7_worth_63 : decode cX7_worth 63 = .ok (.iaload, 1) := by decide +kernel
theorem dX7_worth_64 : decode cX7_worth 64 = .ok (.aload_n 2, 1) := by decide +kernel
theorem dX7_worth_65 : decode cX7_worth 65 = .ok (.invokevirtual 45, 3) := by decide +kernel
theorem dX7_worth_68 : decode cX7_worth 68 = .ok (.iinc 4 1, 3) := by decide +kernel
theorem dX7_worth_71 : decode cX7_worth 71 = .ok (.goto (-21), 3) := by decide +kernel
theorem dX7_worth_74 : decode cX7_worth 74 = .ok (.aload_n 0, 1) := by decide +kernel
theorem dX7_worth_75 : decode cX7_worth 75 = .ok (.invokevirtual 49, 3) := by decide +kernel
theorem dX7_worth_78 : decode cX7_worth 78 = .ok (.ireturn, 1) := by decide +kernel
theorem dX7_push_0 : decode cX7_push 0 = .ok (.aload_n 0, 1) := by decide +kernel
theorem dX7_push_1 : decode cX7_push 1 = .ok (.getfield 32, 3) := by decide +kernel
theorem dX7_push_4 : decode cX7_push 4 = .ok (.aload_n 0, 1) := by decide +kernel
theorem dX7_push_5 : decode cX7_push 5 = .ok (.getfield 18, 3) := by decide +kernel
theorem dX7_push_8 : decode cX7_push 8 = .ok (.arraylength, 1) := by decide +kernel
theorem dX7_push_9 : decode cX7_push 9 = .ok (.if_icmp .ge 23, 3) := by decide +kernel
theorem dX7_push_12 : decode cX7_push 12 = .ok (.aload_n 0, 1) := by decide +kernel
theorem dX7_push_13 : decode cX7_push 13 = .ok (.getfield 18, 3) := by decide +kernel
theorem dX7_push_16 : decode cX7_push 16 = .ok (.aload_n 0, 1) := by decide +kernel
theorem dX7_push_17 : decode cX7_push 17 = .ok (.getfield 32, 3) := by decide +kernel
theorem dX7_push_20 : decode cX7_push 20 = .ok (.iload_n 1, 1) := by decide +kernel
theorem dX7_push_21 : decode cX7_push 21 = .ok (.iastore, 1) := by decide +kernel
theorem dX7_push_22 : decode cX7_push 22 = .ok (.aload_n 0, 1) := by decide +kernel
theorem dX7_push_23 : decode cX7_push 23 = .ok (.dup, 1) := by decide +kernel
theorem dX7_push_24 : decode cX7_push 24 = .ok (.getfield 32, 3) := by decide +kernel
theorem dX7_push_27 : decode cX7_push 27 = .ok (.iconst 1, 1) := by decide +kernel
theorem dX7_push_28 : decode cX7_push 28 = .ok (.iadd, 1) := by decide +kernel
theorem dX7_push_29 : decode cX7_push 29 = .ok (.putfield 32, 3) := by decide +kernel
theorem dX7_push_32 : decode cX7_push 32 = .ok (.return_, 1) := by decide +kernel
theorem dX7_pop_0 : decode cX7_pop 0 = .ok (.aload_n 0, 1) := by decide +kernel
theorem dX7_pop_1 : decode cX7_pop 1 = .ok (.getfield 32, 3) := by decide +kernel
theorem dX7_pop_4 : decode cX7_pop 4 = .ok (.ifCond .gt 5, 3) := by decide +kernel
theorem dX7_pop_7 : decode cX7_pop 7 = .ok (.iconst 0, 1) := by decide +kernel
theorem dX7_pop_8 : decode cX7_pop 8 = .ok (.ireturn, 1) := by decide +kernel
theorem dX7_pop_9 : decode cX7_pop 9 = .ok (.aload_n 0, 1) := by decide +kernel
theorem dX7_pop_10 : decode cX7_pop 10 = .ok (.dup, 1) := by decide +kernel
theorem dX7_pop_11 : decode cX7_pop 11 = .ok (.getfield 32, 3) := by decide +kernel
theorem dX7_pop_14 : decode cX7_pop 14 = .ok (.iconst 1, 1) := by decide +kernel
theorem dX7_pop_15 : decode cX7_pop 15 = .ok (.isub, 1) := by decide +kernel
theorem dX7_pop_16 : decode cX7_pop 16 = .ok (.putfield 32, 3) := by decide +kernel
theorem dX7_pop_19 : decode cX7_pop 19 = .ok (.aload_n 0, 1) := by decide +kernel
theorem dX7_pop_20 : decode cX7_pop 20 = .ok (.getfield 18, 3) := by decide +kernel
theorem dX7_pop_23 : decode cX7_pop 23 = .ok (.aload_n 0, 1) := by decide +kernel
theorem dX7_pop_24 : decode cX7_pop 24 = .ok (.getfield 32, 3) := by decide +kernel
theorem dX7_pop_27 : decode cX7_pop 27 = .ok (.iaload, 1) := by decide +kernel
theorem dX7_pop_28 : decode cX7_pop 28 = .ok (.ireturn, 1) := by decide +kernel
theorem dX7_doStep_0 : decode cX7_doStep 0 = .ok (.iload_n 1, 1) := by decide +kernel
theorem dX7_doStep_1 : decode cX7_doStep 1 = .ok (.ifCond .lt 11, 3) := by decide +kernel
theorem dX7_doStep_4 : decode cX7_doStep 4 = .ok (.aload_n 0, 1) := by decide +kernel
theorem dX7_doStep_5 : decode cX7_doStep 5 = .ok (.iload_n 1, 1) := by decide +kernel
theorem dX7_doStep_6 : decode cX7_doStep 6 = .ok (.invokevirtual 53, 3) := by decide +kernel
theorem dX7_doStep_9 : decode cX7_doStep 9 = .ok (.goto 91, 3) := by decide +kernel
theorem dX7_doStep_12 : decode cX7_doStep 12 = .ok (.iconst (-1), 1) := by decide +kernel
theorem dX7_doStep_13 : decode cX7_doStep 13 = .ok (.iload_n 1, 1) := by decide +kernel
theorem dX7_doStep_14 : decode cX7_doStep 14 = .ok (.isub, 1) := by decide +kernel
theorem dX7_doStep_15 : decode cX7_doStep 15 = .ok (.aload_n 2, 1) := by decide +kernel
theorem dX7_doStep_16 : decode cX7_doStep 16 = .ok (.arraylength, 1) := by decide +kernel
theorem dX7_doStep_17 : decode cX7_doStep 17 = .ok (.invokestatic 35, 3) := by decide +kernel
theorem dX7_doStep_20 : decode cX7_doStep 20 = .ok (.ifCond .eq 15, 3) := by decide +kernel
theorem dX7_doStep_23 : decode cX7_doStep 23 = .ok (.aload_n 0, 1) := by decide +kernel
theorem dX7_doStep_24 : decode cX7_doStep 24 = .ok (.aload_n 2, 1) := by decide +kernel
theorem dX7_doStep_25 : decode cX7_doStep 25 = .ok (.iconst (-1), 1) := by decide +kernel
theorem dX7_doStep_26 : decode cX7_doStep 26 = .ok (.iload_n 1, 1) := by decide +kernel
theorem dX7_doStep_27 : decode cX7_doStep 27 = .ok (.isub, 1) := by decide +kernel
theorem dX7_doStep_28 : decode cX7_doStep 28 = .ok (.iaload, 1) := by decide +kernel
theorem dX7_doStep_29 : decode cX7_doStep 29 = .ok (.invokevirtual 53, 3) := by decide +kernel
theorem dX7_doStep_32 : decode cX7_doStep 32 = .ok (.goto 68, 3) := by decide +kernel
theorem dX7_doStep_35 : decode cX7_doStep 35 = .ok (.iload_n 1, 1) := by decide +kernel
theorem dX7_doStep_36 : decode cX7_doStep 36 = .ok (.bipush (-13), 2) := by decide +kernel
theorem dX7_doStep_38 : decode cX7_doStep 38 = .ok (.if_icmp .ne 22, 3) := by decide +kernel
theorem dX7_doStep_41 : decode cX7_doStep 41 = .ok (.aload_n 0, 1) := by decide +kernel
theorem dX7_doStep_42 : decode cX7_doStep 42 = .ok (.aload_n 0, 1) := by decide +kernel
theorem dX7_doStep_43 : decode cX7_doStep 43 = .ok (.invokevirtual 49, 3) := by decide +kernel
theorem dX7_doStep_46 : decode cX7_doStep 46 = .ok (.ifCond .ne 7, 3) := by decide +kernel
theorem dX7_doStep_49 : decode cX7_doStep 49 = .ok (.iconst 1, 1) := by decide +kernel
theorem dX7_doStep_50 : decode cX7_doStep 50 = .ok (.goto 4, 3) := by decide +kernel
theorem dX7_doStep_53 : decode cX7_doStep 53 = .ok (.iconst 0, 1) := by decide +kernel
theorem dX7_doStep_54 : decode cX7_doStep 54 = .ok (.invokevirtual 53, 3) := by decide +kernel
theorem dX7_doStep_57 : decode cX7_doStep 57 = .ok (.goto 43, 3) := by decide +kernel
theorem dX7_doStep_60 : decode cX7_doStep 60 = .ok (.iload_n 1, 1) := by decide +kernel
theorem dX7_doStep_61 : decode cX7_doStep 61 = .ok (.bipush (-19), 2) := by decide +kernel
theorem dX7_doStep_63 : decode cX7_doStep 63 = .ok (.if_icmp .ne 15, 3) := by decide +kernel
theorem dX7_doStep_66 : decode cX7_doStep 66 = .ok (.aload_n 0, 1) := by decide +kernel
theorem dX7_doStep_67 : decode cX7_doStep 67 = .ok (.aload_n 0, 1) := by decide +kernel
theorem dX7_doStep_68 : decode cX7_doStep 68 = .ok (.invokevirtual 49, 3) := by decide +kernel
theorem dX7_doStep_71 : decode cX7_doStep 71 = .ok (.ineg, 1) := by decide +kernel
theorem dX7_doStep_72 : decode cX7_doStep 72 = .ok (.invokevirtual 53, 3) := by decide +kernel
theorem dX7_doStep_75 : decode cX7_doStep 75 = .ok (.goto 25, 3) := by decide +kernel
theorem dX7_doStep_78 : decode cX7_doStep 78 = .ok (.aload_n 0, 1) := by decide +kernel
theorem dX7_doStep_79 : decode cX7_doStep 79 = .ok (.invokevirtual 49, 3) := by decide +kernel
theorem dX7_doStep_82 : decode cX7_doStep 82 = .ok (.istore_n 3, 1) := by decide +kernel
theorem dX7_doStep_83 : decode cX7_doStep 83 = .ok (.aload_n 0, 1) := by decide +kernel
theorem dX7_doStep_84 : decode cX7_doStep 84 = .ok (.invokevirtual 49, 3) := by decide +kernel
theorem dX7_doStep_87 : decode cX7_doStep 87 = .ok (.istore 4, 2) := by decide +kernel
theorem dX7_doStep_89 : decode cX7_doStep 89 = .ok (.aload_n 0, 1) := by decide +kernel
theorem dX7_doStep_90 : decode cX7_doStep 90 = .ok (.iload_n 1, 1) := by decide +kernel
theorem dX7_doStep_91 : decode cX7_doStep 91 = .ok (.iload 4, 2) := by decide +kernel
theorem dX7_doStep_93 : decode cX7_doStep 93 = .ok (.iload_n 3, 1) := by decide +kernel
theorem dX7_doStep_94 : decode cX7_doStep 94 = .ok (.invokestatic 56, 3) := by decide +kernel
theorem dX7_doStep_97 : decode cX7_doStep 97 = .ok (.invokevirtual 53, 3) := by decide +kernel
theorem dX7_doStep_100 : decode cX7_doStep 100 = .ok (.return_, 1) := by decide +kernel
theorem dX7_ofTwo_0 : decode cX7_ofTwo 0 = .ok (.iload_n 0, 1) := by decide +kernel
theorem dX7_ofTwo_1 : decode cX7_ofTwo 1 = .ok (.tableswitch 101 (-17) (-11) #[97, 93, 82, 71, 101, 57, 43], 43) := by decide +kernel
theorem dX7_ofTwo_44 : decode cX7_ofTwo 44 = .ok (.iload_n 1, 1) := by decide +kernel
theorem dX7_ofTwo_45 : decode cX7_ofTwo 45 = .ok (.ifCond .ne 7, 3) := by decide +kernel
theorem dX7_ofTwo_48 : decode cX7_ofTwo 48 = .ok (.iload_n 2, 1) := by decide +kernel
theorem dX7_ofTwo_49 : decode cX7_ofTwo 49 = .ok (.ifCond .eq 7, 3) := by decide +kernel
theorem dX7_ofTwo_52 : decode cX7_ofTwo 52 = .ok (.iconst 1, 1) := by decide +kernel
theorem dX7_ofTwo_53 : decode cX7_ofTwo 53 = .ok (.goto 4, 3) := by decide +kernel
theorem dX7_ofTwo_56 : decode cX7_ofTwo 56 = .ok (.iconst 0, 1) := by decide +kernel
theorem dX7_ofTwo_57 : decode cX7_ofTwo 57 = .ok (.ireturn, 1) := by decide +kernel
theorem dX7_ofTwo_58 : decode cX7_ofTwo 58 = .ok (.iload_n 1, 1) := by decide +kernel
theorem dX7_ofTwo_59 : decode cX7_ofTwo 59 = .ok (.ifCond .eq 11, 3) := by decide +kernel
theorem dX7_ofTwo_62 : decode cX7_ofTwo 62 = .ok (.iload_n 2, 1) := by decide +kernel
theorem dX7_ofTwo_63 : decode cX7_ofTwo 63 = .ok (.ifCond .eq 7, 3) := by decide +kernel
theorem dX7_ofTwo_66 : decode cX7_ofTwo 66 = .ok (.iconst 1, 1) := by decide +kernel
theorem dX7_ofTwo_67 : decode cX7_ofTwo 67 = .ok (.goto 4, 3) := by decide +kernel
theorem dX7_ofTwo_70 : decode cX7_ofTwo 70 = .ok (.iconst 0, 1) := by decide +kernel
theorem dX7_ofTwo_71 : decode cX7_ofTwo 71 = .ok (.ireturn, 1) := by decide +kernel
theorem dX7_ofTwo_72 : decode cX7_ofTwo 72 = .ok (.iload_n 1, 1) := by decide +kernel
theorem dX7_ofTwo_73 : decode cX7_ofTwo 73 = .ok (.iload_n 2, 1) := by decide +kernel
theorem dX7_ofTwo_74 : decode cX7_ofTwo 74 = .ok (.if_icmp .ge 7, 3) := by decide +kernel
theorem dX7_ofTwo_77 : decode cX7_ofTwo 77 = .ok (.iconst 1, 1) := by decide +kernel
theorem dX7_ofTwo_78 : decode cX7_ofTwo 78 = .ok (.goto 4, 3) := by decide +kernel
theorem dX7_ofTwo_81 : decode cX7_ofTwo 81 = .ok (.iconst 0, 1) := by decide +kernel
theorem dX7_ofTwo_82 : decode cX7_ofTwo 82 = .ok (.ireturn, 1) := by decide +kernel
theorem dX7_ofTwo_83 : decode cX7_ofTwo 83 = .ok (.iload_n 1, 1) := by decide +kernel
theorem dX7_ofTwo_84 : decode cX7_ofTwo 84 = .ok (.iload_n 2, 1) := by decide +kernel
theorem dX7_ofTwo_85 : decode cX7_ofTwo 85 = .ok (.if_icmp .ne 7, 3) := by decide +kernel
theorem dX7_ofTwo_88 : decode cX7_ofTwo 88 = .ok (.iconst 1, 1) := by decide +kernel
theorem dX7_ofTwo_89 : decode cX7_ofTwo 89 = .ok (.goto 4, 3) := by decide +kernel
theorem dX7_ofTwo_92 : decode cX7_ofTwo 92 = .ok (.iconst 0, 1) := by decide +kernel
theorem dX7_ofTwo_93 : decode cX7_ofTwo 93 = .ok (.ireturn, 1) := by decide +kernel
theorem dX7_ofTwo_94 : decode cX7_ofTwo 94 = .ok (.iload_n 1, 1) := by decide +kernel
theorem dX7_ofTwo_95 : decode cX7_ofTwo 95 = .ok (.iload_n 2, 1) := by decide +kernel
theorem dX7_ofTwo_96 : decode cX7_ofTwo 96 = .ok (.iadd, 1) := by decide +kernel
theorem dX7_ofTwo_97 : decode cX7_ofTwo 97 = .ok (.ireturn, 1) := by decide +kernel
theorem dX7_ofTwo_98 : decode cX7_ofTwo 98 = .ok (.iload_n 1, 1) := by decide +kernel
theorem dX7_ofTwo_99 : decode cX7_ofTwo 99 = .ok (.iload_n 2, 1) := by decide +kernel
theorem dX7_ofTwo_100 : decode cX7_ofTwo 100 = .ok (.isub, 1) := by decide +kernel
theorem dX7_ofTwo_101 : decode cX7_ofTwo 101 = .ok (.ireturn, 1) := by decide +kernel
theorem dX7_ofTwo_102 : decode cX7_ofTwo 102 = .ok (.iload_n 1, 1) := by decide +kernel
theorem dX7_ofTwo_103 : decode cX7_ofTwo 103 = .ok (.iload_n 2, 1) := by decide +kernel
theorem dX7_ofTwo_104 : decode cX7_ofTwo 104 = .ok (.imul, 1) := by decide +kernel
theorem dX7_ofTwo_105 : decode cX7_ofTwo 105 = .ok (.ireturn, 1) := by decide +kernel
theorem dX8_init_0 : decode cX8_init 0 = .ok (.aload_n 0, 1) := by decide +kernel
theorem dX8_init_1 : decode cX8_init 1 = .ok (.invokespecial 3, 3) := by decide +kernel
theorem dX8_init_4 : decode cX8_init 4 = .ok (.aload_n 0, 1) := by decide +kernel
theorem dX8_init_5 : decode cX8_init 5 = .ok (.bipush 33, 2) := by decide +kernel
theorem dX8_init_7 : decode cX8_init 7 = .ok (.newarray .int, 2) := by decide +kernel
theorem dX8_init_9 : decode cX8_init 9 = .ok (.putfield 9, 3) := by decide +kernel
theorem dX8_init_12 : decode cX8_init 12 = .ok (.aload_n 0, 1) := by decide +kernel
theorem dX8_init_13 : decode cX8_init 13 = .ok (.iload_n 1, 1) := by decide +kernel
theorem dX8_init_14 : decode cX8_init 14 = .ok (.putfield 15, 3) := by decide +kernel
theorem dX8_init_17 : decode cX8_init 17 = .ok (.aload_n 0, 1) := by decide +kernel
theorem dX8_init_18 : decode cX8_init 18 = .ok (.iload_n 2, 1) := by decide +kernel
theorem dX8_init_19 : decode cX8_init 19 = .ok (.putfield 19, 3) := by decide +kernel
theorem dX8_init_22 : decode cX8_init 22 = .ok (.iconst 1, 1) := by decide +kernel
theorem dX8_init_23 : decode cX8_init 23 = .ok (.istore_n 3, 1) := by decide +kernel
theorem dX8_init_24 : decode cX8_init 24 = .ok (.iload_n 3, 1) := by decide +kernel
theorem dX8_init_25 : decode cX8_init 25 = .ok (.bipush 32, 2) := by decide +kernel
theorem dX8_init_27 : decode cX8_init 27 = .ok (.if_icmp .gt 20, 3) := by decide +kernel
theorem dX8_init_30 : decode cX8_init 30 = .ok (.aload_n 0, 1) := by decide +kernel
theorem dX8_init_31 : decode cX8_init 31 = .ok (.getfield 9, 3) := by decide +kernel
theorem dX8_init_34 : decode cX8_init 34 = .ok (.iload_n 3, 1) := by decide +kernel
theorem dX8_init_35 : decode cX8_init 35 = .ok (.aload_n 0, 1) := by decide +kernel
theorem dX8_init_36 : decode cX8_init 36 = .ok (.iload_n 3, 1) := by decide +kernel
theorem dX8_init_37 : decode cX8_init 37 = .ok (.invokevirtual 22, 3) := by decide +kernel
theorem dX8_init_40 : decode cX8_init 40 = .ok (.iastore, 1) := by decide +kernel
theorem dX8_init_41 : decode cX8_init 41 = .ok (.iinc 3 1, 3) := by decide +kernel
theorem dX8_init_44 : decode cX8_init 44 = .ok (.goto (-20), 3) := by decide +kernel
theorem dX8_init_47 : decode cX8_init 47 = .ok (.return_, 1) := by decide +kernel
theorem dX8_kind_0 : decode cX8_kind 0 = .ok (.aload_n 0, 1) := by decide +kernel
theorem dX8_kind_1 : decode cX8_kind 1 = .ok (.getfield 15, 3) := by decide +kernel
theorem dX8_kind_4 : decode cX8_kind 4 = .ok (.ireturn, 1) := by decide +kernel
theorem dX8_cut_0 : decode cX8_cut 0 = .ok (.aload_n 0, 1) := by decide +kernel
theorem dX8_cut_1 : decode cX8_cut 1 = .ok (.getfield 19, 3) := by decide +kernel
theorem dX8_cut_4 : decode cX8_cut 4 = .ok (.ireturn, 1) := by decide +kernel
theorem dX8_above_0 : decode cX8_above 0 = .ok (.iload_n 0, 1) := by decide +kernel
theorem dX8_above_1 : decode cX8_above 1 = .ok (.tableswitch 45 1 5 #[35, 37, 39, 41, 43], 35) := by decide +kernel
theorem dX8_above_36 : decode cX8_above 36 = .ok (.iconst 0, 1) := by decide +kernel
theorem dX8_above_37 : decode cX8_above 37 = .ok (.ireturn, 1) := by decide +kernel
theorem dX8_above_38 : decode cX8_above 38 = .ok (.iconst 1, 1) := by decide +kernel
theorem dX8_above_39 : decode cX8_above 39 = .ok (.ireturn, 1) := by decide +kernel
theorem dX8_above_40 : decode cX8_above 40 = .ok (.iconst 0, 1) := by decide +kernel
theorem dX8_above_41 : decode cX8_above 41 = .ok (.ireturn, 1) := by decide +kernel
theorem dX8_above_42 : decode cX8_above 42 = .ok (.iconst 2, 1) := by decide +kernel
theorem dX8_above_43 : decode cX8_above 43 = .ok (.ireturn, 1) := by decide +kernel
theorem dX8_above_44 : decode cX8_above 44 = .ok (.iconst 3, 1) := by decide +kernel
theorem dX8_above_45 : decode cX8_above 45 = .ok (.ireturn, 1) := by decide +kernel
theorem dX8_above_46 : decode cX8_above 46 = .ok (.iconst (-1), 1) := by decide +kernel
theorem dX8_above_47 : decode cX8_above 47 = .ok (.ireturn, 1) := by decide +kernel
theorem dX8_isUnder_0 : decode cX8_isUnder 0 = .ok (.aload_n 0, 1) := by decide +kernel
theorem dX8_isUnder_1 : decode cX8_isUnder 1 = .ok (.getfield 15, 3) := by decide +kernel
theorem dX8_isUnder_4 : decode cX8_isUnder 4 = .ok (.istore_n 2, 1) := by decide +kernel
theorem dX8_isUnder_5 : decode cX8_isUnder 5 = .ok (.iconst 0, 1) := by decide +kernel
theorem dX8_isUnder_6 : decode cX8_isUnder 6 = .ok (.istore_n 3, 1) := by decide +kernel
theorem dX8_isUnder_7 : decode cX8_isUnder 7 = .ok (.iload_n 3, 1) := by decide +kernel
theorem dX8_isUnder_8 : decode cX8_isUnder 8 = .ok (.bipush 6, 2) := by decide +kernel
theorem dX8_isUnder_10 : decode cX8_isUnder 10 = .ok (.if_icmp .ge 19, 3) := by decide +kernel
theorem dX8_isUnder_13 : decode cX8_isUnder 13 = .ok (.iload_n 2, 1) := by decide +kernel
theorem dX8_isUnder_14 : decode cX8_isUnder 14 = .ok (.iload_n 1, 1) := by decide +kernel
theorem dX8_isUnder_15 : decode cX8_isUnder 15 = .ok (.if_icmp .eq 14, 3) := by decide +kernel
theorem dX8_isUnder_18 : decode cX8_isUnder 18 = .ok (.iload_n 2, 1) := by decide +kernel
theorem dX8_isUnder_19 : decode cX8_isUnder 19 = .ok (.invokestatic 26, 3) := by decide +kernel
theorem dX8_isUnder_22 : decode cX8_isUnder 22 = .ok (.istore_n 2, 1) := by decide +kernel
theorem dX8_isUnder_23 : decode cX8_isUnder 23 = .ok (.iinc 3 1, 3) := by decide +kernel
theorem dX8_isUnder_26 : decode cX8_isUnder 26 = .ok (.goto (-19), 3) := by decide +kernel
theorem dX8_isUnder_29 : decode cX8_isUnder 29 = .ok (.iload_n 2, 1) := by decide +kernel
theorem dX8_isUnder_30 : decode cX8_isUnder 30 = .ok (.iload_n 1, 1) := by decide +kernel
theorem dX8_isUnder_31 : decode cX8_isUnder 31 = .ok (.if_icmp .ne 7, 3) := by decide +kernel
theorem dX8_isUnder_34 : decode cX8_isUnder 34 = .ok (.iconst 1, 1) := by decide +kernel
theorem dX8_isUnder_35 : decode cX8_isUnder 35 = .ok (.goto 4, 3) := by decide +kernel
theorem dX8_isUnder_38 : decode cX8_isUnder 38 = .ok (.iconst 0, 1) := by decide +kernel
theorem dX8_isUnder_39 : decode cX8_isUnder 39 = .ok (.ireturn, 1) := by decide +kernel
theorem dX8_part_0 : decode cX8_part 0 = .ok (.aload_n 0, 1) := by decide +kernel
theorem dX8_part_1 : decode cX8_part 1 = .ok (.getfield 15, 3) := by decide +kernel
theorem dX8_part_4 : decode cX8_part 4 = .ok (.ifCond .ne 5, 3) := by decide +kernel
theorem dX8_part_7 : decode cX8_part 7 = .ok (.iconst 0, 1) := by decide +kernel
theorem dX8_part_8 : decode cX8_part 8 = .ok (.ireturn, 1) := by decide +kernel
theorem dX8_part_9 : decode cX8_part 9 = .ok (.aload_n 0, 1) := by decide +kernel
theorem dX8_part_10 : decode cX8_part 10 = .ok (.iconst 1, 1) := by decide +kernel
theorem dX8_part_11 : decode cX8_part 11 = .ok (.invokevirtual 31, 3) := by decide +kernel
theorem dX8_part_14 : decode cX8_part 14 = .ok (.ifCond .eq 7, 3) := by decide +kernel
theorem dX8_part_17 : decode cX8_part 17 = .ok (.iconst 1, 1) := by decide +kernel
theorem dX8_part_18 : decode cX8_part 18 = .ok (.goto 4, 3) := by decide +kernel
theorem dX8_part_21 : decode cX8_part 21 = .ok (.iconst 2, 1) := by decide +kernel
theorem dX8_part_22 : decode cX8_part 22 = .ok (.ireturn, 1) := by decide +kernel
theorem dX8_countOf_0 : decode cX8_countOf 0 = .ok (.iload_n 1, 1) := by decide +kernel
theorem dX8_countOf_1 : decode cX8_countOf 1 = .ok (.ifCond .eq 7, 3) := by decide +kernel
theorem dX8_countOf_4 : decode cX8_countOf 4 = .ok (.iload_n 2, 1) := by decide +kernel
theorem dX8_countOf_5 : decode cX8_countOf 5 = .ok (.ifCond .ne 5, 3) := by decide +kernel
theorem dX8_countOf_8 : decode cX8_countOf 8 = .ok (.iconst 0, 1) := by decide +kernel
theorem dX8_countOf_9 : decode cX8_countOf 9 = .ok (.ireturn, 1) := by decide +kernel
theorem dX8_countOf_10 : decode cX8_countOf 10 = .ok (.aload_n 0, 1) := by decide +kernel
theorem dX8_countOf_11 : decode cX8_countOf 11 = .ok (.getfield 15, 3) := by decide +kernel
theorem dX8_countOf_14 : decode cX8_countOf 14 = .ok (.lookupswitch 66 #[(0, 34), (3, 38), (5, 48)], 34) := by decide +kernel
theorem dX8_countOf_48 : decode cX8_countOf 48 = .ok (.iload_n 1, 1) := by decide +kernel
theorem dX8_countOf_49 : decode cX8_countOf 49 = .ok (.iload_n 2, 1) := by decide +kernel
theorem dX8_countOf_50 : decode cX8_countOf 50 = .ok (.imul, 1) := by decide +kernel
theorem dX8_countOf_51 : decode cX8_countOf 51 = .ok (.ireturn, 1) := by decide +kernel
theorem dX8_countOf_52 : decode cX8_countOf 52 = .ok (.iload_n 1, 1) := by decide +kernel
theorem dX8_countOf_53 : decode cX8_countOf 53 = .ok (.iload_n 2, 1) := by decide +kernel
theorem dX8_countOf_54 : decode cX8_countOf 54 = .ok (.iadd, 1) := by decide +kernel
theorem dX8_countOf_55 : decode cX8_countOf 55 = .ok (.iconst 1, 1) := by decide +kernel
theorem dX8_countOf_56 : decode cX8_countOf 56 = .ok (.isub, 1) := by decide +kernel
theorem dX8_countOf_57 : decode cX8_countOf 57 = .ok (.iconst 3, 1) := by decide +kernel
theorem dX8_countOf_58 : decode cX8_countOf 58 = .ok (.invokestatic 35, 3) := by decide +kernel
theorem dX8_countOf_61 : decode cX8_countOf 61 = .ok (.ireturn, 1) := by decide +kernel
theorem dX8_countOf_62 : decode cX8_countOf 62 = .ok (.iload_n 1, 1) := by decide +kernel
theorem dX8_countOf_63 : decode cX8_countOf 63 = .ok (.iload_n 2, 1) := by decide +kernel
theorem dX8_countOf_64 : decode cX8_countOf 64 = .ok (.iadd, 1) := by decide +kernel
theorem dX8_countOf_65 : decode cX8_countOf 65 = .ok (.iconst 1, 1) := by decide +kernel
theorem dX8_countOf_66 : decode cX8_countOf 66 = .ok (.isub, 1) := by decide +kernel
theorem dX8_countOf_67 : decode cX8_countOf 67 = .ok (.iload_n 3, 1) := by decide +kernel
theorem dX8_countOf_68 : decode cX8_countOf 68 = .ok (.ifCond .eq 7, 3) := by decide +kernel
theorem dX8_countOf_71 : decode cX8_countOf 71 = .ok (.iconst 2, 1) := by decide +kernel
theorem dX8_countOf_72 : decode cX8_countOf 72 = .ok (.goto 4, 3) := by decide +kernel
theorem dX8_countOf_75 : decode cX8_countOf 75 = .ok (.iconst 3, 1) := by decide +kernel
theorem dX8_countOf_76 : decode cX8_countOf 76 = .ok (.invokestatic 35, 3) := by decide +kernel
theorem dX8_countOf_79 : decode cX8_countOf 79 = .ok (.ireturn, 1) := by decide +kernel
theorem dX8_countOf_80 : decode cX8_countOf 80 = .ok (.aload_n 0, 1) := by decide +kernel
theorem dX8_countOf_81 : decode cX8_countOf 81 = .ok (.iload_n 1, 1) := by decide +kernel
theorem dX8_countOf_82 : decode cX8_countOf 82 = .ok (.iload_n 2, 1) := by decide +kernel
theorem dX8_countOf_83 : decode cX8_countOf 83 = .ok (.invokestatic 39, 3) := by decide +kernel
theorem dX8_countOf_86 : decode cX8_countOf 86 = .ok (.invokevirtual 44, 3) := by decide +kernel
theorem dX8_countOf_89 : decode cX8_countOf 89 = .ok (.ireturn, 1) := by decide +kernel
theorem dX8_countOfSize_0 : decode cX8_countOfSize 0 = .ok (.iload_n 1, 1) := by decide +kernel
theorem dX8_countOfSize_1 : decode cX8_countOfSize 1 = .ok (.aload_n 0, 1) := by decide +kernel
theorem dX8_countOfSize_2 : decode cX8_countOfSize 2 = .ok (.getfield 9, 3) := by decide +kernel
theorem dX8_countOfSize_5 : decode cX8_countOfSize 5 = .ok (.arraylength, 1) := by decide +kernel
theorem dX8_countOfSize_6 : decode cX8_countOfSize 6 = .ok (.invokestatic 47, 3) := by decide +kernel
theorem dX8_countOfSize_9 : decode cX8_countOfSize 9 = .ok (.ifCond .eq 12, 3) := by decide +kernel
theorem dX8_countOfSize_12 : decode cX8_countOfSize 12 = .ok (.aload_n 0, 1) := by decide +kernel
theorem dX8_countOfSize_13 : decode cX8_countOfSize 13 = .ok (.getfield 9, 3) := by decide +kernel
theorem dX8_countOfSize_16 : decode cX8_countOfSize 16 = .ok (.iload_n 1, 1) := by decide +kernel
theorem dX8_countOfSize_17 : decode cX8_countOfSize 17 = .ok (.iaload, 1) := by decide +kernel
theorem dX8_countOfSize_18 : decode cX8_countOfSize 18 = .ok (.goto 4, 3) := by decide +kernel
theorem dX8_countOfSize_21 : decode cX8_countOfSize 21 = .ok (.iconst 0, 1) := by decide +kernel
theorem dX8_countOfSize_22 : decode cX8_countOfSize 22 = .ok (.ireturn, 1) := by decide +kernel
theorem dX8_parted_0 : decode cX8_parted 0 = .ok (.iload_n 1, 1) := by decide +kernel
theorem dX8_parted_1 : decode cX8_parted 1 = .ok (.iconst 1, 1) := by decide +kernel
theorem dX8_parted_2 : decode cX8_parted 2 = .ok (.iadd, 1) := by decide +kernel
theorem dX8_parted_3 : decode cX8_parted 3 = .ok (.iconst 2, 1) := by decide +kernel
theorem dX8_parted_4 : decode cX8_parted 4 = .ok (.idiv, 1) := by decide +kernel
theorem dX8_parted_5 : decode cX8_parted 5 = .ok (.istore_n 2, 1) := by decide +kernel
theorem dX8_parted_6 : decode cX8_parted 6 = .ok (.iload_n 1, 1) := by decide +kernel
theorem dX8_parted_7 : decode cX8_parted 7 = .ok (.iconst 2, 1) := by decide +kernel
theorem dX8_parted_8 : decode cX8_parted 8 = .ok (.iadd, 1) := by decide +kernel
theorem dX8_parted_9 : decode cX8_parted 9 = .ok (.iconst 3, 1) := by decide +kernel
theorem dX8_parted_10 : decode cX8_parted 10 = .ok (.idiv, 1) := by decide +kernel
theorem dX8_parted_11 : decode cX8_parted 11 = .ok (.istore_n 3, 1) := by decide +kernel
theorem dX8_parted_12 : decode cX8_parted 12 = .ok (.aload_n 0, 1) := by decide +kernel
theorem dX8_parted_13 : decode cX8_parted 13 = .ok (.getfield 15, 3) := by decide +kernel
theorem dX8_parted_16 : decode cX8_parted 16 = .ok (.iconst 1, 1) := by decide +kernel
theorem dX8_parted_17 : decode cX8_parted 17 = .ok (.if_icmp .eq 21, 3) := by decide +kernel
theorem dX8_parted_20 : decode cX8_parted 20 = .ok (.aload_n 0, 1) := by decide +kernel
theorem dX8_parted_21 : decode cX8_parted 21 = .ok (.getfield 15, 3) := by decide +kernel
theorem dX8_parted_24 : decode cX8_parted 24 = .ok (.iconst 4, 1) := by decide +kernel
theorem dX8_parted_25 : decode cX8_parted 25 = .ok (.if_icmp .ne 17, 3) := by decide +kernel
theorem dX8_parted_28 : decode cX8_parted 28 = .ok (.iload_n 1, 1) := by decide +kernel
theorem dX8_parted_29 : decode cX8_parted 29 = .ok (.iconst 3, 1) := by decide +kernel
theorem dX8_parted_30 : decode cX8_parted 30 = .ok (.aload_n 0, 1) := by decide +kernel
theorem dX8_parted_31 : decode cX8_parted 31 = .ok (.getfield 19, 3) := by decide +kernel
theorem dX8_parted_34 : decode cX8_parted 34 = .ok (.imul, 1) := by decide +kernel
theorem dX8_parted_35 : decode cX8_parted 35 = .ok (.if_icmp .gt 7, 3) := by decide +kernel
theorem dX8_parted_38 : decode cX8_parted 38 = .ok (.iconst 1, 1) := by decide +kernel
theorem dX8_parted_39 : decode cX8_parted 39 = .ok (.goto 4, 3) := by decide +kernel
theorem dX8_parted_42 : decode cX8_parted 42 = .ok (.iconst 0, 1) := by decide +kernel
theorem dX8_parted_43 : decode cX8_parted 43 = .ok (.istore 4, 2) := by decide +kernel
theorem dX8_parted_45 : decode cX8_parted 45 = .ok (.iload_n 1, 1) := by decide +kernel
theorem dX8_parted_46 : decode cX8_parted 46 = .ok (.aload_n 0, 1) := by decide +kernel
theorem dX8_parted_47 : decode cX8_parted 47 = .ok (.getfield 19, 3) := by decide +kernel
theorem dX8_parted_50 : decode cX8_parted 50 = .ok (.if_icmp .le 16, 3) := by decide +kernel
theorem dX8_parted_53 : decode cX8_parted 53 = .ok (.aload_n 0, 1) := by decide +kernel
theorem dX8_parted_54 : decode cX8_parted 54 = .ok (.getfield 15, 3) := by decide +kernel
theorem dX8_parted_57 : decode cX8_parted 57 = .ok (.iconst 2, 1) := by decide +kernel
theorem dX8_parted_58 : decode cX8_parted 58 = .ok (.if_icmp .ne 12, 3) := by decide +kernel
theorem dX8_parted_61 : decode cX8_parted 61 = .ok (.iload_n 1, 1) := by decide +kernel
theorem dX8_parted_62 : decode cX8_parted 62 = .ok (.iconst 2, 1) := by decide +kernel
theorem dX8_parted_63 : decode cX8_parted 63 = .ok (.if_icmp .gt 7, 3) := by decide +kernel
theorem dX8_parted_66 : decode cX8_parted 66 = .ok (.iload_n 1, 1) := by decide +kernel
theorem dX8_parted_67 : decode cX8_parted 67 = .ok (.iload_n 1, 1) := by decide +kernel
theorem dX8_parted_68 : decode cX8_parted 68 = .ok (.imul, 1) := by decide +kernel
theorem dX8_parted_69 : decode cX8_parted 69 = .ok (.ireturn, 1) := by decide +kernel
theorem dX8_parted_70 : decode cX8_parted 70 = .ok (.iload 4, 2) := by decide +kernel
theorem dX8_parted_72 : decode cX8_parted 72 = .ok (.ifCond .eq 21, 3) := by decide +kernel
theorem dX8_parted_75 : decode cX8_parted 75 = .ok (.iconst 2, 1) := by decide +kernel
theorem dX8_parted_76 : decode cX8_parted 76 = .ok (.aload_n 0, 1) := by decide +kernel
theorem dX8_parted_77 : decode cX8_parted 77 = .ok (.iload_n 2, 1) := by decide +kernel
theorem dX8_parted_78 : decode cX8_parted 78 = .ok (.invokevirtual 44, 3) := by decide +kernel
theorem dX8_parted_81 : decode cX8_parted 81 = .ok (.imul, 1) := by decide +kernel
theorem dX8_parted_82 : decode cX8_parted 82 = .ok (.aload_n 0, 1) := by decide +kernel
theorem dX8_parted_83 : decode cX8_parted 83 = .ok (.iload_n 1, 1) := by decide +kernel
theorem dX8_parted_84 : decode cX8_parted 84 = .ok (.iload_n 2, 1) := by decide +kernel
theorem dX8_parted_85 : decode cX8_parted 85 = .ok (.isub, 1) := by decide +kernel
theorem dX8_parted_86 : decode cX8_parted 86 = .ok (.invokevirtual 44, 3) := by decide +kernel
theorem dX8_parted_89 : decode cX8_parted 89 = .ok (.iadd, 1) := by decide +kernel
theorem dX8_parted_90 : decode cX8_parted 90 = .ok (.goto 10, 3) := by decide +kernel
theorem dX8_parted_93 : decode cX8_parted 93 = .ok (.iconst 5, 1) := by decide +kernel
theorem dX8_parted_94 : decode cX8_parted 94 = .ok (.aload_n 0, 1) := by decide +kernel
theorem dX8_parted_95 : decode cX8_parted 95 = .ok (.iload_n 3, 1) := by decide +kernel
theorem dX8_parted_96 : decode cX8_parted 96 = .ok (.invokevirtual 44, 3) := by decide +kernel
theorem dX8_parted_99 : decode cX8_parted 99 = .ok (.imul, 1) := by decide +kernel
theorem dX8_parted_100 : decode cX8_parted 100 = .ok (.ireturn, 1) := by decide +kernel
theorem dX8_turned_0 : decode cX8_turned 0 = .ok (.iconst 1, 1) := by decide +kernel
theorem dX8_turned_1 : decode cX8_turned 1 = .ok (.istore_n 2, 1) := by decide +kernel
theorem dX8_turned_2 : decode cX8_turned 2 = .ok (.iconst 0, 1) := by decide +kernel
theorem dX8_turned_3 : decode cX8_turned 3 = .ok (.istore_n 3, 1) := by decide +kernel
theorem dX8_turned_4 : decode cX8_turned 4 = .ok (.iload_n 2, 1) := by decide +kernel
theorem dX8_turned_5 : decode cX8_turned 5 = .ok (.iload_n 0, 1) := by decide +kernel
theorem dX8_turned_6 : decode cX8_turned 6 = .ok (.if_icmp .ge 19, 3) := by decide +kernel
theorem dX8_turned_9 : decode cX8_turned 9 = .ok (.iload_n 2, 1) := by decide +kernel
theorem dX8_turned_10 : decode cX8_turned 10 = .ok (.bipush 32, 2) := by decide +kernel
theorem dX8_turned_12 : decode cX8_turned 12 = .ok (.if_icmp .gt 13, 3) := by decide +kernel
theorem dX8_turned_15 : decode cX8_turned 15 = .ok (.iload_n 2, 1) := by decide +kernel
theorem dX8_turned_16 : decode cX8_turned 16 = .ok (.iconst 2, 1) := by decide +kernel
theorem dX8_turned_17 : decode cX8_turned 17 = .ok (.imul, 1) := by decide +kernel
theorem dX8_turned_18 : decode cX8_turned 18 = .ok (.istore_n 2, 1) := by decide +kernel
theorem dX8_turned_19 : decode cX8_turned 19 = .ok (.iinc 3 1, 3) := by decide +kernel
theorem dX8_turned_22 : decode cX8_turned 22 = .ok (.goto (-18), 3) := by decide +kernel
theorem dX8_turned_25 : decode cX8_turned 25 = .ok (.iload_n 2, 1) := by decide +kernel
theorem dX8_turned_26 : decode cX8_turned 26 = .ok (.bipush 32, 2) := by decide +kernel
theorem dX8_turned_28 : decode cX8_turned 28 = .ok (.if_icmp .le 8, 3) := by decide +kernel
theorem dX8_turned_31 : decode cX8_turned 31 = .ok (.bipush (-4), 2) := by decide +kernel
theorem dX8_turned_33 : decode cX8_turned 33 = .ok (.goto 12, 3) := by decide +kernel
theorem dX8_turned_36 : decode cX8_turned 36 = .ok (.iload_n 1, 1) := by decide +kernel
theorem dX8_turned_37 : decode cX8_turned 37 = .ok (.iload_n 3, 1) := by decide +kernel
theorem dX8_turned_38 : decode cX8_turned 38 = .ok (.imul, 1) := by decide +kernel
theorem dX8_turned_39 : decode cX8_turned 39 = .ok (.iload_n 2, 1) := by decide +kernel
theorem dX8_turned_40 : decode cX8_turned 40 = .ok (.imul, 1) := by decide +kernel
theorem dX8_turned_41 : decode cX8_turned 41 = .ok (.iconst 2, 1) := by decide +kernel
theorem dX8_turned_42 : decode cX8_turned 42 = .ok (.idiv, 1) := by decide +kernel
theorem dX8_turned_43 : decode cX8_turned 43 = .ok (.iload_n 2, 1) := by decide +kernel
theorem dX8_turned_44 : decode cX8_turned 44 = .ok (.iadd, 1) := by decide +kernel
theorem dX8_turned_45 : decode cX8_turned 45 = .ok (.ireturn, 1) := by decide +kernel
theorem dX9_init_0 : decode cX9_init 0 = .ok (.aload_n 0, 1) := by decide +kernel
theorem dX9_init_1 : decode cX9_init 1 = .ok (.invokespecial 3, 3) := by decide +kernel
theorem dX9_init_4 : decode cX9_init 4 = .ok (.aload_n 0, 1) := by decide +kernel
theorem dX9_init_5 : decode cX9_init 5 = .ok (.bipush 8, 2) := by decide +kernel
theorem dX9_init_7 : decode cX9_init 7 = .ok (.anewarray 9, 3) := by decide +kernel
theorem dX9_init_10 : decode cX9_init 10 = .ok (.putfield 11, 3) := by decide +kernel
theorem dX9_init_13 : decode cX9_init 13 = .ok (.aload_n 0, 1) := by decide +kernel
theorem dX9_init_14 : decode cX9_init 14 = .ok (.new 9, 3) := by decide +kernel
theorem dX9_init_17 : decode cX9_init 17 = .ok (.dup, 1) := by decide +kernel
theorem dX9_init_18 : decode cX9_init 18 = .ok (.bipush 64, 2) := by decide +kernel
theorem dX9_init_20 : decode cX9_init 20 = .ok (.invokespecial 15, 3) := by decide +kernel
theorem dX9_init_23 : decode cX9_init 23 = .ok (.putfield 18, 3) := by decide +kernel
theorem dX9_init_26 : decode cX9_init 26 = .ok (.aload_n 0, 1) := by decide +kernel
theorem dX9_init_27 : decode cX9_init 27 = .ok (.bipush 8, 2) := by decide +kernel
theorem dX9_init_29 : decode cX9_init 29 = .ok (.anewarray 22, 3) := by decide +kernel
theorem dX9_init_32 : decode cX9_init 32 = .ok (.putfield 24, 3) := by decide +kernel
theorem dX9_init_35 : decode cX9_init 35 = .ok (.aload_n 0, 1) := by decide +kernel
theorem dX9_init_36 : decode cX9_init 36 = .ok (.new 28, 3) := by decide +kernel
theorem dX9_init_39 : decode cX9_init 39 = .ok (.dup, 1) := by decide +kernel
theorem dX9_init_40 : decode cX9_init 40 = .ok (.invokespecial 30, 3) := by decide +kernel
theorem dX9_init_43 : decode cX9_init 43 = .ok (.putfield 31, 3) := by decide +kernel
theorem dX9_init_46 : decode cX9_init 46 = .ok (.aload_n 0, 1) := by decide +kernel
theorem dX9_init_47 : decode cX9_init 47 = .ok (.bipush 6, 2) := by decide +kernel
theorem dX9_init_49 : decode cX9_init 49 = .ok (.anewarray 35, 3) := by decide +kernel
theorem dX9_init_52 : decode cX9_init 52 = .ok (.putfield 37, 3) := by decide +kernel
theorem dX9_init_55 : decode cX9_init 55 = .ok (.aload_n 0, 1) := by decide +kernel
theorem dX9_init_56 : decode cX9_init 56 = .ok (.bipush 6, 2) := by decide +kernel
theorem dX9_init_58 : decode cX9_init 58 = .ok (.newarray .int, 2) := by decide +kernel
theorem dX9_init_60 : decode cX9_init 60 = .ok (.putfield 41, 3) := by decide +kernel
theorem dX9_init_63 : decode cX9_init 63 = .ok (.aload_n 0, 1) := by decide +kernel
theorem dX9_init_64 : decode cX9_init 64 = .ok (.iconst 4, 1) := by decide +kernel
theorem dX9_init_65 : decode cX9_init 65 = .ok (.anewarray 45, 3) := by decide +kernel
theorem dX9_init_68 : decode cX9_init 68 = .ok (.putfield 47, 3) := by decide +kernel
theorem dX9_init_71 : decode cX9_init 71 = .ok (.aload_n 0, 1) := by decide +kernel
theorem dX9_init_72 : decode cX9_init 72 = .ok (.new 51, 3) := by decide +kernel
theorem dX9_init_75 : decode cX9_init 75 = .ok (.dup, 1) := by decide +kernel
theorem dX9_init_76 : decode cX9_init 76 = .ok (.iload_n 1, 1) := by decide +kernel
theorem dX9_init_77 : decode cX9_init 77 = .ok (.invokespecial 53, 3) := by decide +kernel
theorem dX9_init_80 : decode cX9_init 80 = .ok (.putfield 54, 3) := by decide +kernel
theorem dX9_init_83 : decode cX9_init 83 = .ok (.aload_n 0, 1) := by decide +kernel
theorem dX9_init_84 : decode cX9_init 84 = .ok (.new 58, 3) := by decide +kernel
theorem dX9_init_87 : decode cX9_init 87 = .ok (.dup, 1) := by decide +kernel
theorem dX9_init_88 : decode cX9_init 88 = .ok (.aload_n 0, 1) := by decide +kernel
theorem dX9_init_89 : decode cX9_init 89 = .ok (.getfield 54, 3) := by decide +kernel
theorem dX9_init_92 : decode cX9_init 92 = .ok (.invokespecial 60, 3) := by decide +kernel
theorem dX9_init_95 : decode cX9_init 95 = .ok (.putfield 63, 3) := by decide +kernel
theorem dX9_init_98 : decode cX9_init 98 = .ok (.aload_n 0, 1) := by decide +kernel
theorem dX9_init_99 : decode cX9_init 99 = .ok (.new 67, 3) := by decide +kernel
theorem dX9_init_102 : decode cX9_init 102 = .ok (.dup, 1) := by decide +kernel
theorem dX9_init_103 : decode cX9_init 103 = .ok (.aload_n 0, 1) := by decide +kernel
theorem dX9_init_104 : decode cX9_init 104 = .ok (.getfield 54, 3) := by decide +kernel
theorem dX9_init_107 : decode cX9_init 107 = .ok (.aload_n 0, 1) := by decide +kernel
theorem dX9_init_108 : decode cX9_init 108 = .ok (.getfield 63, 3) := by decide +kernel
theorem dX9_init_111 : decode cX9_init 111 = .ok (.invokespecial 69, 3) := by decide +kernel
theorem dX9_init_114 : decode cX9_init 114 = .ok (.putfield 72, 3) := by decide +kernel
theorem dX9_init_117 : decode cX9_init 117 = .ok (.aload_n 0, 1) := by decide +kernel
theorem dX9_init_118 : decode cX9_init 118 = .ok (.new 76, 3) := by decide +kernel
theorem dX9_init_121 : decode cX9_init 121 = .ok (.dup, 1) := by decide +kernel
theorem dX9_init_122 : decode cX9_init 122 = .ok (.aload_n 0, 1) := by decide +kernel
theorem dX9_init_123 : decode cX9_init 123 = .ok (.getfield 31, 3) := by decide +kernel
theorem dX9_init_126 : decode cX9_init 126 = .ok (.invokespecial 78, 3) := by decide +kernel
theorem dX9_init_129 : decode cX9_init 129 = .ok (.putfield 81, 3) := by decide +kernel
theorem dX9_init_132 : decode cX9_init 132 = .ok (.iconst 0, 1) := by decide +kernel
theorem dX9_init_133 : decode cX9_init 133 = .ok (.istore_n 2, 1) := by decide +kernel
theorem dX9_init_134 : decode cX9_init 134 = .ok (.iload_n 2, 1) := by decide +kernel
theorem dX9_init_135 : decode cX9_init 135 = .ok (.bipush 8, 2) := by decide +kernel
theorem dX9_init_137 : decode cX9_init 137 = .ok (.if_icmp .ge 24, 3) := by decide +kernel
theorem dX9_init_140 : decode cX9_init 140 = .ok (.aload_n 0, 1) := by decide +kernel
theorem dX9_init_141 : decode cX9_init 141 = .ok (.getfield 11, 3) := by decide +kernel
theorem dX9_init_144 : decode cX9_init 144 = .ok (.iload_n 2, 1) := by decide +kernel
theorem dX9_init_145 : decode cX9_init 145 = .ok (.new 9, 3) := by decide +kernel
theorem dX9_init_148 : decode cX9_init 148 = .ok (.dup, 1) := by decide +kernel
theorem dX9_init_149 : decode cX9_init 149 = .ok (.bipush 32, 2) := by decide +kernel
theorem dX9_init_151 : decode cX9_init 151 = .ok (.invokespecial 15, 3) := by decide +kernel
theorem dX9_init_154 : decode cX9_init 154 = .ok (.aastore, 1) := by decide +kernel
theorem dX9_init_155 : decode cX9_init 155 = .ok (.iinc 2 1, 3) := by decide +kernel
theorem dX9_init_158 : decode cX9_init 158 = .ok (.goto (-24), 3) := by decide +kernel
theorem dX9_init_161 : decode cX9_init 161 = .ok (.iconst 0, 1) := by decide +kernel
theorem dX9_init_162 : decode cX9_init 162 = .ok (.istore_n 2, 1) := by decide +kernel
theorem dX9_init_163 : decode cX9_init 163 = .ok (.iload_n 2, 1) := by decide +kernel
theorem dX9_init_164 : decode cX9_init 164 = .ok (.iconst 4, 1) := by decide +kernel
theorem dX9_init_165 : decode cX9_init 165 = .ok (.if_icmp .ge 22, 3) := by decide +kernel
theorem dX9_init_168 : decode cX9_init 168 = .ok (.aload_n 0, 1) := by decide +kernel
theorem dX9_init_169 : decode cX9_init 169 = .ok (.getfield 47, 3) := by decide +kernel
theorem dX9_init_172 : decode cX9_init 172 = .ok (.iload_n 2, 1) := by decide +kernel
theorem dX9_init_173 : decode cX9_init 173 = .ok (.new 45, 3) := by decide +kernel
theorem dX9_init_176 : decode cX9_init 176 = .ok (.dup, 1) := by decide +kernel
theorem dX9_init_177 : decode cX9_init 177 = .ok (.invokespecial 85, 3) := by decide +kernel
theorem dX9_init_180 : decode cX9_init 180 = .ok (.aastore, 1) := by decide +kernel
theorem dX9_init_181 : decode cX9_init 181 = .ok (.iinc 2 1, 3) := by decide +kernel
theorem dX9_init_184 : decode cX9_init 184 = .ok (.goto (-21), 3) := by decide +kernel
theorem dX9_init_187 : decode cX9_init 187 = .ok (.iconst 0, 1) := by decide +kernel
theorem dX9_init_188 : decode cX9_init 188 = .ok (.istore_n 2, 1) := by decide +kernel
theorem dX9_init_189 : decode cX9_init 189 = .ok (.iload_n 2, 1) := by decide +kernel
theorem dX9_init_190 : decode cX9_init 190 = .ok (.bipush 6, 2) := by decide +kernel
theorem dX9_init_192 : decode cX9_init 192 = .ok (.if_icmp .ge 22, 3) := by decide +kernel
theorem dX9_init_195 : decode cX9_init 195 = .ok (.aload_n 0, 1) := by decide +kernel
theorem dX9_init_196 : decode cX9_init 196 = .ok (.getfield 37, 3) := by decide +kernel
theorem dX9_init_199 : decode cX9_init 199 = .ok (.iload_n 2, 1) := by decide +kernel
theorem dX9_init_200 : decode cX9_init 200 = .ok (.new 35, 3) := by decide +kernel
theorem dX9_init_203 : decode cX9_init 203 = .ok (.dup, 1) := by decide +kernel
theorem dX9_init_204 : decode cX9_init 204 = .ok (.invokespecial 86, 3) := by decide +kernel
theorem dX9_init_207 : decode cX9_init 207 = .ok (.aastore, 1) := by decide +kernel
theorem dX9_init_208 : decode cX9_init 208 = .ok (.iinc 2 1, 3) := by decide +kernel
theorem dX9_init_211 : decode cX9_init 211 = .ok (.goto (-22), 3) := by decide +kernel
theorem dX9_init_214 : decode cX9_init 214 = .ok (.aload_n 0, 1) := by decide +kernel
theorem dX9_init_215 : decode cX9_init 215 = .ok (.getfield 31, 3) := by decide +kernel
theorem dX9_init_218 : decode cX9_init 218 = .ok (.ldc 87, 2) := by decide +kernel
theorem dX9_init_220 : decode cX9_init 220 = .ok (.invokevirtual 89, 3) := by decide +kernel
theorem dX9_init_223 : decode cX9_init 223 = .ok (.aload_n 0, 1) := by decide +kernel
theorem dX9_init_224 : decode cX9_init 224 = .ok (.getfield 31, 3) := by decide +kernel
theorem dX9_init_227 : decode cX9_init 227 = .ok (.invokevirtual 93, 3) := by decide +kernel
theorem dX9_init_230 : decode cX9_init 230 = .ok (.aload_n 0, 1) := by decide +kernel
theorem dX9_init_231 : decode cX9_init 231 = .ok (.getfield 81, 3) := by decide +kernel
theorem dX9_init_234 : decode cX9_init 234 = .ok (.aload_n 0, 1) := by decide +kernel
theorem dX9_init_235 : decode cX9_init 235 = .ok (.getfield 37, 3) := by decide +kernel
theorem dX9_init_238 : decode cX9_init 238 = .ok (.iconst 0, 1) := by decide +kernel
theorem dX9_init_239 : decode cX9_init 239 = .ok (.aaload, 1) := by decide +kernel
theorem dX9_init_240 : decode cX9_init 240 = .ok (.invokevirtual 96, 3) := by decide +kernel
theorem dX9_init_243 : decode cX9_init 243 = .ok (.pop, 1) := by decide +kernel
theorem dX9_init_244 : decode cX9_init 244 = .ok (.aload_n 0, 1) := by decide +kernel
theorem dX9_init_245 : decode cX9_init 245 = .ok (.getfield 31, 3) := by decide +kernel
theorem dX9_init_248 : decode cX9_init 248 = .ok (.invokevirtual 100, 3) := by decide +kernel
theorem dX9_init_251 : decode cX9_init 251 = .ok (.aload_n 0, 1) := by decide +kernel
theorem dX9_init_252 : decode cX9_init 252 = .ok (.iconst 1, 1) := by decide +kernel
theorem dX9_init_253 : decode cX9_init 253 = .ok (.putfield 103, 3) := by decide +kernel
theorem dX9_init_256 : decode cX9_init 256 = .ok (.return_, 1) := by decide +kernel
theorem dX9_put_0 : decode cX9_put 0 = .ok (.iload_n 1, 1) := by decide +kernel
theorem dX9_put_1 : decode cX9_put 1 = .ok (.invokestatic 107, 3) := by decide +kernel
theorem dX9_put_4 : decode cX9_put 4 = .ok (.ifCond .eq 12, 3) := by decide +kernel
theorem dX9_put_7 : decode cX9_put 7 = .ok (.iload_n 2, 1) := by decide +kernel
theorem dX9_put_8 : decode cX9_put 8 = .ok (.bipush 32, 2) := by decide +kernel
theorem dX9_put_10 : decode cX9_put 10 = .ok (.invokestatic 111, 3) := by decide +kernel
theorem dX9_put_13 : decode cX9_put 13 = .ok (.ifCond .ne 6, 3) := by decide +kernel
theorem dX9_put_16 : decode cX9_put 16 = .ok (.bipush (-2), 2) := by decide +kernel
theorem dX9_put_18 : decode cX9_put 18 = .ok (.ireturn, 1) := by decide +kernel
theorem dX9_put_19 : decode cX9_put 19 = .ok (.aload_n 0, 1) := by decide +kernel
theorem dX9_put_20 : decode cX9_put 20 = .ok (.getfield 11, 3) := by decide +kernel
theorem dX9_put_23 : decode cX9_put 23 = .ok (.iload_n 1, 1) := by decide +kernel
theorem dX9_put_24 : decode cX9_put 24 = .ok (.aaload, 1) := by decide +kernel
theorem dX9_put_25 : decode cX9_put 25 = .ok (.iload_n 2, 1) := by decide +kernel
theorem dX9_put_26 : decode cX9_put 26 = .ok (.invokevirtual 115, 3) := by decide +kernel
theorem dX9_put_29 : decode cX9_put 29 = .ok (.istore 4, 2) := by decide +kernel
theorem dX9_put_31 : decode cX9_put 31 = .ok (.aload_n 0, 1) := by decide +kernel
theorem dX9_put_32 : decode cX9_put 32 = .ok (.getfield 11, 3) := by decide +kernel
theorem dX9_put_35 : decode cX9_put 35 = .ok (.iload_n 1, 1) := by decide +kernel
theorem dX9_put_36 : decode cX9_put 36 = .ok (.aaload, 1) := by decide +kernel
theorem dX9_put_37 : decode cX9_put 37 = .ok (.iload_n 2, 1) := by decide +kernel
theorem dX9_put_38 : decode cX9_put 38 = .ok (.aload_n 0, 1) := by decide +kernel
theorem dX9_put_39 : decode cX9_put 39 = .ok (.getfield 54, 3) := by decide +kernel
theorem dX9_put_42 : decode cX9_put 42 = .ok (.iload_n 3, 1) := by decide +kernel
theorem dX9_put_43 : decode cX9_put 43 = .ok (.i2l, 1) := by decide +kernel
theorem dX9_put_44 : decode cX9_put 44 = .ok (.invokevirtual 119, 3) := by decide +kernel
theorem dX9_put_47 : decode cX9_put 47 = .ok (.invokevirtual 123, 3) := by decide +kernel
theorem dX9_put_50 : decode cX9_put 50 = .ok (.iload 4, 2) := by decide +kernel
theorem dX9_put_52 : decode cX9_put 52 = .ok (.ireturn, 1) := by decide +kernel
theorem dX9_at_0 : decode cX9_at 0 = .ok (.iload_n 1, 1) := by decide +kernel
theorem dX9_at_1 : decode cX9_at 1 = .ok (.invokestatic 107, 3) := by decide +kernel
theorem dX9_at_4 : decode cX9_at 4 = .ok (.ifCond .eq 14, 3) := by decide +kernel
theorem dX9_at_7 : decode cX9_at 7 = .ok (.iload_n 2, 1) := by decide +kernel
theorem dX9_at_8 : decode cX9_at 8 = .ok (.iconst (-1), 1) := by decide +kernel
theorem dX9_at_9 : decode cX9_at 9 = .ok (.if_icmp .lt 9, 3) := by decide +kernel
theorem dX9_at_12 : decode cX9_at 12 = .ok (.iload_n 2, 1) := by decide +kernel
theorem dX9_at_13 : decode cX9_at 13 = .ok (.bipush 32, 2) := by decide +kernel
theorem dX9_at_15 : decode cX9_at 15 = .ok (.if_icmp .lt 6, 3) := by decide +kernel
theorem dX9_at_18 : decode cX9_at 18 = .ok (.bipush (-2), 2) := by decide +kernel
theorem dX9_at_20 : decode cX9_at 20 = .ok (.ireturn, 1) := by decide +kernel
theorem dX9_at_21 : decode cX9_at 21 = .ok (.iload_n 2, 1) := by decide +kernel
theorem dX9_at_22 : decode cX9_at 22 = .ok (.iconst (-1), 1) := by decide +kernel
theorem dX9_at_23 : decode cX9_at 23 = .ok (.if_icmp .ne 15, 3) := by decide +kernel
theorem dX9_at_26 : decode cX9_at 26 = .ok (.aload_n 0, 1) := by decide +kernel
theorem dX9_at_27 : decode cX9_at 27 = .ok (.getfield 11, 3) := by decide +kernel
theorem dX9_at_30 : decode cX9_at 30 = .ok (.iload_n 1, 1) := by decide +kernel
theorem dX9_at_31 : decode cX9_at 31 = .ok (.aaload, 1) := by decide +kernel
theorem dX9_at_32 : decode cX9_at 32 = .ok (.invokevirtual 127, 3) := by decide +kernel
theorem dX9_at_35 : decode cX9_at 35 = .ok (.goto 13, 3) := by decide +kernel
theorem dX9_at_38 : decode cX9_at 38 = .ok (.aload_n 0, 1) := by decide +kernel
theorem dX9_at_39 : decode cX9_at 39 = .ok (.getfield 11, 3) := by decide +kernel
theorem dX9_at_42 : decode cX9_at 42 = .ok (.iload_n 1, 1) := by decide +kernel
theorem dX9_at_43 : decode cX9_at 43 = .ok (.aaload, 1) := by decide +kernel
theorem dX9_at_44 : decode cX9_at 44 = .ok (.iload_n 2, 1) := by decide +kernel
theorem dX9_at_45 : decode cX9_at 45 = .ok (.invokevirtual 115, 3) := by decide +kernel
theorem dX9_at_48 : decode cX9_at 48 = .ok (.ireturn, 1) := by decide +kernel
theorem dX9_clear_0 : decode cX9_clear 0 = .ok (.iload_n 1, 1) := by decide +kernel
theorem dX9_clear_1 : decode cX9_clear 1 = .ok (.invokestatic 107, 3) := by decide +kernel
theorem dX9_clear_4 : decode cX9_clear 4 = .ok (.ifCond .ne 6, 3) := by decide +kernel
theorem dX9_clear_7 : decode cX9_clear 7 = .ok (.bipush (-2), 2) := by decide +kernel
theorem dX9_clear_9 : decode cX9_clear 9 = .ok (.ireturn, 1) := by decide +kernel
theorem dX9_clear_10 : decode cX9_clear 10 = .ok (.aload_n 0, 1) := by decide +kernel
theorem dX9_clear_11 : decode cX9_clear 11 = .ok (.getfield 11, 3) := by decide +kernel
theorem dX9_clear_14 : decode cX9_clear 14 = .ok (.iload_n 1, 1) := by decide +kernel
theorem dX9_clear_15 : decode cX9_clear 15 = .ok (.aaload, 1) := by decide +kernel
theorem dX9_clear_16 : decode cX9_clear 16 = .ok (.invokevirtual 127, 3) := by decide +kernel
theorem dX9_clear_19 : decode cX9_clear 19 = .ok (.istore_n 2, 1) := by decide +kernel
theorem dX9_clear_20 : decode cX9_clear 20 = .ok (.aload_n 0, 1) := by decide +kernel
theorem dX9_clear_21 : decode cX9_clear 21 = .ok (.getfield 11, 3) := by decide +kernel
theorem dX9_clear_24 : decode cX9_clear 24 = .ok (.iload_n 1, 1) := by decide +kernel
theorem dX9_clear_25 : decode cX9_clear 25 = .ok (.aaload, 1) := by decide +kernel
theorem dX9_clear_26 : decode cX9_clear 26 = .ok (.invokevirtual 131, 3) := by decide +kernel
theorem dX9_clear_29 : decode cX9_clear 29 = .ok (.iload_n 2, 1) := by decide +kernel
theorem dX9_clear_30 : decode cX9_clear 30 = .ok (.ireturn, 1) := by decide +kernel
theorem dX9_sum_0 : decode cX9_sum 0 = .ok (.iload_n 1, 1) := by decide +kernel
theorem dX9_sum_1 : decode cX9_sum 1 = .ok (.iload_n 2, 1) := by decide +kernel
theorem dX9_sum_2 : decode cX9_sum 2 = .ok (.iload 4, 2) := by decide +kernel
theorem dX9_sum_4 : decode cX9_sum 4 = .ok (.invokestatic 132, 3) := by decide +kernel
theorem dX9_sum_7 : decode cX9_sum 7 = .ok (.ifCond .ne 6, 3) := by decide +kernel
theorem dX9_sum_10 : decode cX9_sum 10 = .ok (.bipush (-2), 2) := by decide +kernel
theorem dX9_sum_12 : decode cX9_sum 12 = .ok (.ireturn, 1) := by decide +kernel
theorem dX9_sum_13 : decode cX9_sum 13 = .ok (.aload_n 0, 1) := by decide +kernel
theorem dX9_sum_14 : decode cX9_sum 14 = .ok (.getfield 18, 3) := by decide +kernel
theorem dX9_sum_17 : decode cX9_sum 17 = .ok (.aload_n 0, 1) := by decide +kernel
theorem dX9_sum_18 : decode cX9_sum 18 = .ok (.getfield 11, 3) := by decide +kernel
theorem dX9_sum_21 : decode cX9_sum 21 = .ok (.iload 4, 2) := by decide +kernel
theorem dX9_sum_23 : decode cX9_sum 23 = .ok (.aaload, 1) := by decide +kernel
theorem dX9_sum_24 : decode cX9_sum 24 = .ok (.invokevirtual 136, 3) := by decide +kernel
theorem dX9_sum_27 : decode cX9_sum 27 = .ok (.aload_n 0, 1) := by decide +kernel
theorem dX9_sum_28 : decode cX9_sum 28 = .ok (.getfield 63, 3) := by decide +kernel
theorem dX9_sum_31 : decode cX9_sum 31 = .ok (.aload_n 0, 1) := by decide +kernel
theorem dX9_sum_32 : decode cX9_sum 32 = .ok (.getfield 18, 3) := by decide +kernel
theorem dX9_sum_35 : decode cX9_sum 35 = .ok (.aload_n 0, 1) := by decide +kernel
theorem dX9_sum_36 : decode cX9_sum 36 = .ok (.getfield 54, 3) := by decide +kernel
theorem dX9_sum_39 : decode cX9_sum 39 = .ok (.iload_n 3, 1) := by decide +kernel
theorem dX9_sum_40 : decode cX9_sum 40 = .ok (.i2l, 1) := by decide +kernel
theorem dX9_sum_41 : decode cX9_sum 41 = .ok (.invokevirtual 119, 3) := by decide +kernel
theorem dX9_sum_44 : decode cX9_sum 44 = .ok (.aload_n 0, 1) := by decide +kernel
theorem dX9_sum_45 : decode cX9_sum 45 = .ok (.getfield 11, 3) := by decide +kernel
theorem dX9_sum_48 : decode cX9_sum 48 = .ok (.iload_n 2, 1) := by decide +kernel
theorem dX9_sum_49 : decode cX9_sum 49 = .ok (.aaload, 1) := by decide +kernel
theorem dX9_sum_50 : decode cX9_sum 50 = .ok (.iconst 0, 1) := by decide +kernel
theorem dX9_sum_51 : decode cX9_sum 51 = .ok (.invokevirtual 140, 3) := by decide +kernel
theorem dX9_sum_54 : decode cX9_sum 54 = .ok (.aload_n 0, 1) := by decide +kernel
theorem dX9_sum_55 : decode cX9_sum 55 = .ok (.iload_n 1, 1) := by decide +kernel
theorem dX9_sum_56 : decode cX9_sum 56 = .ok (.aload_n 0, 1) := by decide +kernel
theorem dX9_sum_57 : decode cX9_sum 57 = .ok (.getfield 18, 3) := by decide +kernel
theorem dX9_sum_60 : decode cX9_sum 60 = .ok (.invokevirtual 144, 3) := by decide +kernel
theorem dX9_sum_63 : decode cX9_sum 63 = .ok (.ireturn, 1) := by decide +kernel
theorem dX9_way_0 : decode cX9_way 0 = .ok (.iload_n 1, 1) := by decide +kernel
theorem dX9_way_1 : decode cX9_way 1 = .ok (.bipush 6, 2) := by decide +kernel
theorem dX9_way_3 : decode cX9_way 3 = .ok (.invokestatic 111, 3) := by decide +kernel
theorem dX9_way_6 : decode cX9_way 6 = .ok (.ifCond .eq 14, 3) := by decide +kernel
theorem dX9_way_9 : decode cX9_way 9 = .ok (.iload_n 2, 1) := by decide +kernel
theorem dX9_way_10 : decode cX9_way 10 = .ok (.iconst 1, 1) := by decide +kernel
theorem dX9_way_11 : decode cX9_way 11 = .ok (.if_icmp .lt 9, 3) := by decide +kernel
theorem dX9_way_14 : decode cX9_way 14 = .ok (.iload_n 2, 1) := by decide +kernel
theorem dX9_way_15 : decode cX9_way 15 = .ok (.bipush 16, 2) := by decide +kernel
theorem dX9_way_17 : decode cX9_way 17 = .ok (.if_icmp .le 6, 3) := by decide +kernel
theorem dX9_way_20 : decode cX9_way 20 = .ok (.bipush (-2), 2) := by decide +kernel
theorem dX9_way_22 : decode cX9_way 22 = .ok (.ireturn, 1) := by decide +kernel
theorem dX9_way_23 : decode cX9_way 23 = .ok (.aload_n 0, 1) := by decide +kernel
theorem dX9_way_24 : decode cX9_way 24 = .ok (.getfield 148, 3) := by decide +kernel
theorem dX9_way_27 : decode cX9_way 27 = .ok (.bipush 8, 2) := by decide +kernel
theorem dX9_way_29 : decode cX9_way 29 = .ok (.if_icmp .lt 6, 3) := by decide +kernel
theorem dX9_way_32 : decode cX9_way 32 = .ok (.bipush (-4), 2) := by decide +kernel
theorem dX9_way_34 : decode cX9_way 34 = .ok (.ireturn, 1) := by decide +kernel
theorem dX9_way_35 : decode cX9_way 35 = .ok (.aload_n 0, 1) := by decide +kernel
theorem dX9_way_36 : decode cX9_way 36 = .ok (.getfield 24, 3) := by decide +kernel
theorem dX9_way_39 : decode cX9_way 39 = .ok (.aload_n 0, 1) := by decide +kernel
theorem dX9_way_40 : decode cX9_way 40 = .ok (.getfield 148, 3) := by decide +kernel
theorem dX9_way_43 : decode cX9_way 43 = .ok (.new 22, 3) := by decide +kernel
theorem dX9_way_46 : decode cX9_way 46 = .ok (.dup, 1) := by decide +kernel
theorem dX9_way_47 : decode cX9_way 47 = .ok (.iload_n 1, 1) := by decide +kernel
theorem dX9_way_48 : decode cX9_way 48 = .ok (.iload_n 2, 1) := by decide +kernel
theorem dX9_way_49 : decode cX9_way 49 = .ok (.invokespecial 151, 3) := by decide +kernel
theorem dX9_way_52 : decode cX9_way 52 = .ok (.aastore, 1) := by decide +kernel
theorem dX9_way_53 : decode cX9_way 53 = .ok (.aload_n 0, 1) := by decide +kernel
theorem dX9_way_54 : decode cX9_way 54 = .ok (.dup, 1) := by decide +kernel
theorem dX9_way_55 : decode cX9_way 55 = .ok (.getfield 148, 3) := by decide +kernel
theorem dX9_way_58 : decode cX9_way 58 = .ok (.iconst 1, 1) := by decide +kernel
theorem dX9_way_59 : decode cX9_way 59 = .ok (.iadd, 1) := by decide +kernel
theorem dX9_way_60 : decode cX9_way 60 = .ok (.putfield 148, 3) := by decide +kernel
theorem dX9_way_63 : decode cX9_way 63 = .ok (.aload_n 0, 1) := by decide +kernel
theorem dX9_way_64 : decode cX9_way 64 = .ok (.getfield 148, 3) := by decide +kernel
theorem dX9_way_67 : decode cX9_way 67 = .ok (.iconst 1, 1) := by decide +kernel
theorem dX9_way_68 : decode cX9_way 68 = .ok (.isub, 1) := by decide +kernel
theorem dX9_way_69 : decode cX9_way 69 = .ok (.ireturn, 1) := by decide +kernel
theorem dX9_times_0 : decode cX9_times 0 = .ok (.iload_n 1, 1) := by decide +kernel
theorem dX9_times_1 : decode cX9_times 1 = .ok (.iload_n 2, 1) := by decide +kernel
theorem dX9_times_2 : decode cX9_times 2 = .ok (.iload_n 3, 1) := by decide +kernel
theorem dX9_times_3 : decode cX9_times 3 = .ok (.invokestatic 132, 3) := by decide +kernel
theorem dX9_times_6 : decode cX9_times 6 = .ok (.ifCond .eq 12, 3) := by decide +kernel
theorem dX9_times_9 : decode cX9_times 9 = .ok (.aload_n 0, 1) := by decide +kernel
theorem dX9_times_10 : decode cX9_times 10 = .ok (.iload 4, 2) := by decide +kernel
theorem dX9_times_12 : decode cX9_times 12 = .ok (.invokevirtual 153, 3) := by decide +kernel
theorem dX9_times_15 : decode cX9_times 15 = .ok (.ifCond .ne 6, 3) := by decide +kernel
theorem dX9_times_18 : decode cX9_times 18 = .ok (.bipush (-2), 2) := by decide +kernel
theorem dX9_times_20 : decode cX9_times 20 = .ok (.ireturn, 1) := by decide +kernel
theorem dX9_times_21 : decode cX9_times 21 = .ok (.aload_n 0, 1) := by decide +kernel
theorem dX9_times_22 : decode cX9_times 22 = .ok (.iload_n 1, 1) := by decide +kernel
theorem dX9_times_23 : decode cX9_times 23 = .ok (.iload_n 2, 1) := by decide +kernel
theorem dX9_times_24 : decode cX9_times 24 = .ok (.iload_n 3, 1) := by decide +kernel
theorem dX9_times_25 : decode cX9_times 25 = .ok (.iload 4, 2) := by decide +kernel
theorem dX9_times_27 : decode cX9_times 27 = .ok (.invokevirtual 156, 3) := by decide +kernel
theorem dX9_times_30 : decode cX9_times 30 = .ok (.ireturn, 1) := by decide +kernel
theorem dX9_cost_0 : decode cX9_cost 0 = .ok (.iload_n 1, 1) := by decide +kernel
theorem dX9_cost_1 : decode cX9_cost 1 = .ok (.invokestatic 107, 3) := by decide +kernel
theorem dX9_cost_4 : decode cX9_cost 4 = .ok (.ifCond .eq 18, 3) := by decide +kernel
theorem dX9_cost_7 : decode cX9_cost 7 = .ok (.iload_n 2, 1) := by decide +kernel
theorem dX9_cost_8 : decode cX9_cost 8 = .ok (.invokestatic 107, 3) := by decide +kernel
theorem dX9_cost_11 : decode cX9_cost 11 = .ok (.ifCond .eq 11, 3) := by decide +kernel
theorem dX9_cost_14 : decode cX9_cost 14 = .ok (.aload_n 0, 1) := by decide +kernel
theorem dX9_cost_15 : decode cX9_cost 15 = .ok (.iload_n 3, 1) := by decide +kernel
theorem dX9_cost_16 : decode cX9_cost 16 = .ok (.invokevirtual 153, 3) := by decide +kernel
theorem dX9_cost_19 : decode cX9_cost 19 = .ok (.ifCond .ne 6, 3) := by decide +kernel
theorem dX9_cost_22 : decode cX9_cost 22 = .ok (.bipush (-2), 2) := by decide +kernel
theorem dX9_cost_24 : decode cX9_cost 24 = .ok (.ireturn, 1) := by decide +kernel
theorem dX9_cost_25 : decode cX9_cost 25 = .ok (.aload_n 0, 1) := by decide +kernel
theorem dX9_cost_26 : decode cX9_cost 26 = .ok (.iload_n 1, 1) := by decide +kernel
theorem dX9_cost_27 : decode cX9_cost 27 = .ok (.iload_n 2, 1) := by decide +kernel
theorem dX9_cost_28 : decode cX9_cost 28 = .ok (.iload_n 3, 1) := by decide +kernel
theorem dX9_cost_29 : decode cX9_cost 29 = .ok (.invokevirtual 160, 3) := by decide +kernel
theorem dX9_cost_32 : decode cX9_cost 32 = .ok (.ireturn, 1) := by decide +kernel
theorem dX9_plan_0 : decode cX9_plan 0 = .ok (.iload_n 1, 1) := by decide +kernel
theorem dX9_plan_1 : decode cX9_plan 1 = .ok (.invokestatic 107, 3) := by decide +kernel
theorem dX9_plan_4 : decode cX9_plan 4 = .ok (.ifCond .eq 10, 3) := by decide +kernel
theorem dX9_plan_7 : decode cX9_plan 7 = .ok (.iload_n 2, 1) := by decide +kernel
theorem dX9_plan_8 : decode cX9_plan 8 = .ok (.invokestatic 107, 3) := by decide +kernel
theorem dX9_plan_11 : decode cX9_plan 11 = .ok (.ifCond .ne 6, 3) := by decide +kernel
theorem dX9_plan_14 : decode cX9_plan 14 = .ok (.bipush (-2), 2) := by decide +kernel
theorem dX9_plan_16 : decode cX9_plan 16 = .ok (.ireturn, 1) := by decide +kernel
theorem dX9_plan_17 : decode cX9_plan 17 = .ok (.aload_n 0, 1) := by decide +kernel
theorem dX9_plan_18 : decode cX9_plan 18 = .ok (.iload_n 1, 1) := by decide +kernel
theorem dX9_plan_19 : decode cX9_plan 19 = .ok (.iload_n 2, 1) := by decide +kernel
theorem dX9_plan_20 : decode cX9_plan 20 = .ok (.invokevirtual 164, 3) := by decide +kernel
theorem dX9_plan_23 : decode cX9_plan 23 = .ok (.ireturn, 1) := by decide +kernel
theorem dX9_planned_0 : decode cX9_planned 0 = .ok (.iload_n 1, 1) := by decide +kernel
theorem dX9_planned_1 : decode cX9_planned 1 = .ok (.iload_n 2, 1) := by decide +kernel
theorem dX9_planned_2 : decode cX9_planned 2 = .ok (.iload_n 3, 1) := by decide +kernel
theorem dX9_planned_3 : decode cX9_planned 3 = .ok (.invokestatic 132, 3) := by decide +kernel
theorem dX9_planned_6 : decode cX9_planned 6 = .ok (.ifCond .ne 6, 3) := by decide +kernel
theorem dX9_planned_9 : decode cX9_planned 9 = .ok (.bipush (-2), 2) := by decide +kernel
theorem dX9_planned_11 : decode cX9_planned 11 = .ok (.ireturn, 1) := by decide +kernel
theorem dX9_planned_12 : decode cX9_planned 12 = .ok (.aload_n 0, 1) := by decide +kernel
theorem dX9_planned_13 : decode cX9_planned 13 = .ok (.iload_n 2, 1) := by decide +kernel
theorem dX9_planned_14 : decode cX9_planned 14 = .ok (.iload_n 3, 1) := by decide +kernel
theorem dX9_planned_15 : decode cX9_planned 15 = .ok (.invokevirtual 164, 3) := by decide +kernel
theorem dX9_planned_18 : decode cX9_planned 18 = .ok (.istore 4, 2) := by decide +kernel
theorem dX9_planned_20 : decode cX9_planned 20 = .ok (.iload 4, 2) := by decide +kernel
theorem dX9_planned_22 : decode cX9_planned 22 = .ok (.iconst (-1), 1) := by decide +kernel
theorem dX9_planned_23 : decode cX9_planned 23 = .ok (.if_icmp .ne 6, 3) := by decide +kernel
theorem dX9_planned_26 : decode cX9_planned 26 = .ok (.bipush (-3), 2) := by decide +kernel
theorem dX9_planned_28 : decode cX9_planned 28 = .ok (.ireturn, 1) := by decide +kernel
theorem dX9_planned_29 : decode cX9_planned 29 = .ok (.aload_n 0, 1) := by decide +kernel
theorem dX9_planned_30 : decode cX9_planned 30 = .ok (.iload_n 1, 1) := by decide +kernel
theorem dX9_planned_31 : decode cX9_planned 31 = .ok (.iload_n 2, 1) := by decide +kernel
theorem dX9_planned_32 : decode cX9_planned 32 = .ok (.iload_n 3, 1) := by decide +kernel
theorem dX9_planned_33 : decode cX9_planned 33 = .ok (.iload 4, 2) := by decide +kernel
theorem dX9_planned_35 : decode cX9_planned 35 = .ok (.invokevirtual 156, 3) := by decide +kernel
theorem dX9_planned_38 : decode cX9_planned 38 = .ok (.bipush (-4), 2) := by decide +kernel
theorem dX9_planned_40 : decode cX9_planned 40 = .ok (.if_icmp .ne 8, 3) := by decide +kernel
theorem dX9_planned_43 : decode cX9_planned 43 = .ok (.bipush (-4), 2) := by decide +kernel
theorem dX9_planned_45 : decode cX9_planned 45 = .ok (.goto 5, 3) := by decide +kernel
theorem dX9_planned_48 : decode cX9_planned 48 = .ok (.iload 4, 2) := by decide +kernel
theorem dX9_planned_50 : decode cX9_planned 50 = .ok (.ireturn, 1) := by decide +kernel
theorem dX9_feed_0 : decode cX9_feed 0 = .ok (.iload_n 1, 1) := by decide +kernel
theorem dX9_feed_1 : decode cX9_feed 1 = .ok (.iconst 1, 1) := by decide +kernel
theorem dX9_feed_2 : decode cX9_feed 2 = .ok (.if_icmp .lt 9, 3) := by decide +kernel
theorem dX9_feed_5 : decode cX9_feed 5 = .ok (.iload_n 1, 1) := by decide +kernel
theorem dX9_feed_6 : decode cX9_feed 6 = .ok (.bipush 8, 2) := by decide +kernel
theorem dX9_feed_8 : decode cX9_feed 8 = .ok (.if_icmp .le 6, 3) := by decide +kernel
theorem dX9_feed_11 : decode cX9_feed 11 = .ok (.bipush (-2), 2) := by decide +kernel
theorem dX9_feed_13 : decode cX9_feed 13 = .ok (.ireturn, 1) := by decide +kernel
theorem dX9_feed_14 : decode cX9_feed 14 = .ok (.aload_n 0, 1) := by decide +kernel
theorem dX9_feed_15 : decode cX9_feed 15 = .ok (.getfield 31, 3) := by decide +kernel
theorem dX9_feed_18 : decode cX9_feed 18 = .ok (.invokevirtual 168, 3) := by decide +kernel
theorem dX9_feed_21 : decode cX9_feed 21 = .ok (.iload_n 1, 1) := by decide +kernel
theorem dX9_feed_22 : decode cX9_feed 22 = .ok (.iadd, 1) := by decide +kernel
theorem dX9_feed_23 : decode cX9_feed 23 = .ok (.sipush 160, 3) := by decide +kernel
theorem dX9_feed_26 : decode cX9_feed 26 = .ok (.if_icmp .le 6, 3) := by decide +kernel
theorem dX9_feed_29 : decode cX9_feed 29 = .ok (.bipush (-4), 2) := by decide +kernel
theorem dX9_feed_31 : decode cX9_feed 31 = .ok (.ireturn, 1) := by decide +kernel
theorem dX9_feed_32 : decode cX9_feed 32 = .ok (.aload_n 0, 1) := by decide +kernel
theorem dX9_feed_33 : decode cX9_feed 33 = .ok (.getfield 31, 3) := by decide +kernel
theorem dX9_feed_36 : decode cX9_feed 36 = .ok (.iload_n 1, 1) := by decide +kernel
theorem dX9_feed_37 : decode cX9_feed 37 = .ok (.lload_n 2, 1) := by decide +kernel
theorem dX9_feed_38 : decode cX9_feed 38 = .ok (.invokevirtual 171, 3) := by decide +kernel
theorem dX9_feed_41 : decode cX9_feed 41 = .ok (.aload_n 0, 1) := by decide +kernel
theorem dX9_feed_42 : decode cX9_feed 42 = .ok (.getfield 31, 3) := by decide +kernel
theorem dX9_feed_45 : decode cX9_feed 45 = .ok (.invokevirtual 168, 3) := by decide +kernel
theorem dX9_feed_48 : decode cX9_feed 48 = .ok (.ireturn, 1) := by decide +kernel
theorem dX9_text_0 : decode cX9_text 0 = .ok (.aload_n 0, 1) := by decide +kernel
theorem dX9_text_1 : decode cX9_text 1 = .ok (.getfield 103, 3) := by decide +kernel
theorem dX9_text_4 : decode cX9_text 4 = .ok (.bipush 6, 2) := by decide +kernel
theorem dX9_text_6 : decode cX9_text 6 = .ok (.if_icmp .lt 6, 3) := by decide +kernel
theorem dX9_text_9 : decode cX9_text 9 = .ok (.bipush (-4), 2) := by decide +kernel
theorem dX9_text_11 : decode cX9_text 11 = .ok (.ireturn, 1) := by decide +kernel
theorem dX9_text_12 : decode cX9_text 12 = .ok (.aload_n 0, 1) := by decide +kernel
theorem dX9_text_13 : decode cX9_text 13 = .ok (.getfield 31, 3) := by decide +kernel
theorem dX9_text_16 : decode cX9_text 16 = .ok (.invokevirtual 93, 3) := by decide +kernel
theorem dX9_text_19 : decode cX9_text 19 = .ok (.aload_n 0, 1) := by decide +kernel
theorem dX9_text_20 : decode cX9_text 20 = .ok (.getfield 81, 3) := by decide +kernel
theorem dX9_text_23 : decode cX9_text 23 = .ok (.aload_n 0, 1) := by decide +kernel
theorem dX9_text_24 : decode cX9_text 24 = .ok (.getfield 37, 3) := by decide +kernel
theorem dX9_text_27 : decode cX9_text 27 = .ok (.aload_n 0, 1) := by decide +kernel
theorem dX9_text_28 : decode cX9_text 28 = .ok (.getfield 103, 3) := by decide +kernel
theorem dX9_text_31 : decode cX9_text 31 = .ok (.aaload, 1) := by decide +kernel
theorem dX9_text_32 : decode cX9_text 32 = .ok (.invokevirtual 96, 3) := by decide +kernel
theorem dX9_text_35 : decode cX9_text 35 = .ok (.istore_n 1, 1) := by decide +kernel
theorem dX9_text_36 : decode cX9_text 36 = .ok (.aload_n 0, 1) := by decide +kernel
theorem dX9_text_37 : decode cX9_text 37 = .ok (.getfield 31, 3) := by decide +kernel
theorem dX9_text_40 : decode cX9_text 40 = .ok (.invokevirtual 100, 3) := by decide +kernel
theorem dX9_text_43 : decode cX9_text 43 = .ok (.iload_n 1, 1) := by decide +kernel
theorem dX9_text_44 : decode cX9_text 44 = .ok (.iconst (-1), 1) := by decide +kernel
theorem dX9_text_45 : decode cX9_text 45 = .ok (.if_icmp .eq 8, 3) := by decide +kernel
theorem dX9_text_48 : decode cX9_text 48 = .ok (.bipush (-100), 2) := by decide +kernel
theorem dX9_text_50 : decode cX9_text 50 = .ok (.iload_n 1, 1) := by decide +kernel
theorem dX9_text_51 : decode cX9_text 51 = .ok (.isub, 1) := by decide +kernel
theorem dX9_text_52 : decode cX9_text 52 = .ok (.ireturn, 1) := by decide +kernel
theorem dX9_text_53 : decode cX9_text 53 = .ok (.aload_n 0, 1) := by decide +kernel
theorem dX9_text_54 : decode cX9_text 54 = .ok (.dup, 1) := by decide +kernel
theorem dX9_text_55 : decode cX9_text 55 = .ok (.getfield 103, 3) := by decide +kernel
theorem dX9_text_58 : decode cX9_text 58 = .ok (.iconst 1, 1) := by decide +kernel
theorem dX9_text_59 : decode cX9_text 59 = .ok (.iadd, 1) := by decide +kernel
theorem dX9_text_60 : decode cX9_text 60 = .ok (.putfield 103, 3) := by decide +kernel
theorem dX9_text_63 : decode cX9_text 63 = .ok (.aload_n 0, 1) := by decide +kernel
theorem dX9_text_64 : decode cX9_text 64 = .ok (.getfield 103, 3) := by decide +kernel
theorem dX9_text_67 : decode cX9_text 67 = .ok (.iconst 1, 1) := by decide +kernel
theorem dX9_text_68 : decode cX9_text 68 = .ok (.isub, 1) := by decide +kernel
theorem dX9_text_69 : decode cX9_text 69 = .ok (.ireturn, 1) := by decide +kernel
theorem dX9_force_0 : decode cX9_force 0 = .ok (.iload_n 1, 1) := by decide +kernel
theorem dX9_force_1 : decode cX9_force 1 = .ok (.aload_n 0, 1) := by decide +kernel
theorem dX9_force_2 : decode cX9_force 2 = .ok (.getfield 103, 3) := by decide +kernel
theorem dX9_force_5 : decode cX9_force 5 = .ok (.invokestatic 111, 3) := by decide +kernel
theorem dX9_force_8 : decode cX9_force 8 = .ok (.ifCond .ne 6, 3) := by decide +kernel
theorem dX9_force_11 : decode cX9_force 11 = .ok (.bipush (-2), 2) := by decide +kernel
theorem dX9_force_13 : decode cX9_force 13 = .ok (.ireturn, 1) := by decide +kernel
theorem dX9_force_14 : decode cX9_force 14 = .ok (.aload_n 0, 1) := by decide +kernel
theorem dX9_force_15 : decode cX9_force 15 = .ok (.getfield 175, 3) := by decide +kernel
theorem dX9_force_18 : decode cX9_force 18 = .ok (.istore_n 2, 1) := by decide +kernel
theorem dX9_force_19 : decode cX9_force 19 = .ok (.aload_n 0, 1) := by decide +kernel
theorem dX9_force_20 : decode cX9_force 20 = .ok (.iload_n 1, 1) := by decide +kernel
theorem dX9_force_21 : decode cX9_force 21 = .ok (.putfield 175, 3) := by decide +kernel
theorem dX9_force_24 : decode cX9_force 24 = .ok (.iload_n 2, 1) := by decide +kernel
theorem dX9_force_25 : decode cX9_force 25 = .ok (.ireturn, 1) := by decide +kernel
theorem dX9_says_0 : decode cX9_says 0 = .ok (.aload_n 0, 1) := by decide +kernel
theorem dX9_says_1 : decode cX9_says 1 = .ok (.iload_n 1, 1) := by decide +kernel
theorem dX9_says_2 : decode cX9_says 2 = .ok (.invokevirtual 153, 3) := by decide +kernel
theorem dX9_says_5 : decode cX9_says 5 = .ok (.ifCond .eq 17, 3) := by decide +kernel
theorem dX9_says_8 : decode cX9_says 8 = .ok (.iload_n 2, 1) := by decide +kernel
theorem dX9_says_9 : decode cX9_says 9 = .ok (.invokestatic 107, 3) := by decide +kernel
theorem dX9_says_12 : decode cX9_says 12 = .ok (.ifCond .eq 10, 3) := by decide +kernel
theorem dX9_says_15 : decode cX9_says 15 = .ok (.iload_n 3, 1) := by decide +kernel
theorem dX9_says_16 : decode cX9_says 16 = .ok (.invokestatic 107, 3) := by decide +kernel
theorem dX9_says_19 : decode cX9_says 19 = .ok (.ifCond .ne 7, 3) := by decide +kernel
theorem dX9_says_22 : decode cX9_says 22 = .ok (.ldc2_w 178, 3) := by decide +kernel
theorem dX9_says_25 : decode cX9_says 25 = .ok (.lreturn, 1) := by decide +kernel
theorem dX9_says_26 : decode cX9_says 26 = .ok (.aload_n 0, 1) := by decide +kernel
theorem dX9_says_27 : decode cX9_says 27 = .ok (.iload_n 2, 1) := by decide +kernel
theorem dX9_says_28 : decode cX9_says 28 = .ok (.iload_n 3, 1) := by decide +kernel
theorem dX9_says_29 : decode cX9_says 29 = .ok (.iload_n 1, 1) := by decide +kernel
theorem dX9_says_30 : decode cX9_says 30 = .ok (.invokevirtual 180, 3) := by decide +kernel
theorem dX9_says_33 : decode cX9_says 33 = .ok (.i2l, 1) := by decide +kernel
theorem dX9_says_34 : decode cX9_says 34 = .ok (.lreturn, 1) := by decide +kernel
theorem dX9_divide_0 : decode cX9_divide 0 = .ok (.iload_n 1, 1) := by decide +kernel
theorem dX9_divide_1 : decode cX9_divide 1 = .ok (.iload_n 2, 1) := by decide +kernel
theorem dX9_divide_2 : decode cX9_divide 2 = .ok (.iload_n 3, 1) := by decide +kernel
theorem dX9_divide_3 : decode cX9_divide 3 = .ok (.invokestatic 132, 3) := by decide +kernel
theorem dX9_divide_6 : decode cX9_divide 6 = .ok (.ifCond .ne 6, 3) := by decide +kernel
theorem dX9_divide_9 : decode cX9_divide 9 = .ok (.bipush (-2), 2) := by decide +kernel
theorem dX9_divide_11 : decode cX9_divide 11 = .ok (.ireturn, 1) := by decide +kernel
theorem dX9_divide_12 : decode cX9_divide 12 = .ok (.aload_n 0, 1) := by decide +kernel
theorem dX9_divide_13 : decode cX9_divide 13 = .ok (.getfield 11, 3) := by decide +kernel
theorem dX9_divide_16 : decode cX9_divide 16 = .ok (.iload_n 3, 1) := by decide +kernel
theorem dX9_divide_17 : decode cX9_divide 17 = .ok (.aaload, 1) := by decide +kernel
theorem dX9_divide_18 : decode cX9_divide 18 = .ok (.invokevirtual 127, 3) := by decide +kernel
theorem dX9_divide_21 : decode cX9_divide 21 = .ok (.ifCond .ne 6, 3) := by decide +kernel
theorem dX9_divide_24 : decode cX9_divide 24 = .ok (.bipush (-3), 2) := by decide +kernel
theorem dX9_divide_26 : decode cX9_divide 26 = .ok (.ireturn, 1) := by decide +kernel
theorem dX9_divide_27 : decode cX9_divide 27 = .ok (.aload_n 0, 1) := by decide +kernel
theorem dX9_divide_28 : decode cX9_divide 28 = .ok (.getfield 18, 3) := by decide +kernel
theorem dX9_divide_31 : decode cX9_divide 31 = .ok (.aload_n 0, 1) := by decide +kernel
theorem dX9_divide_32 : decode cX9_divide 32 = .ok (.getfield 11, 3) := by decide +kernel
theorem dX9_divide_35 : decode cX9_divide 35 = .ok (.iload_n 2, 1) := by decide +kernel
theorem dX9_divide_36 : decode cX9_divide 36 = .ok (.aaload, 1) := by decide +kernel
theorem dX9_divide_37 : decode cX9_divide 37 = .ok (.invokevirtual 136, 3) := by decide +kernel
theorem dX9_divide_40 : decode cX9_divide 40 = .ok (.aload_n 0, 1) := by decide +kernel
theorem dX9_divide_41 : decode cX9_divide 41 = .ok (.getfield 63, 3) := by decide +kernel
theorem dX9_divide_44 : decode cX9_divide 44 = .ok (.aload_n 0, 1) := by decide +kernel
theorem dX9_divide_45 : decode cX9_divide 45 = .ok (.getfield 18, 3) := by decide +kernel
theorem dX9_divide_48 : decode cX9_divide 48 = .ok (.aload_n 0, 1) := by decide +kernel
theorem dX9_divide_49 : decode cX9_divide 49 = .ok (.getfield 11, 3) := by decide +kernel
theorem dX9_divide_52 : decode cX9_divide 52 = .ok (.iload_n 3, 1) := by decide +kernel
theorem dX9_divide_53 : decode cX9_divide 53 = .ok (.aaload, 1) := by decide +kernel
theorem dX9_divide_54 : decode cX9_divide 54 = .ok (.invokevirtual 183, 3) := by decide +kernel
theorem dX9_divide_57 : decode cX9_divide 57 = .ok (.astore 5, 2) := by decide +kernel
theorem dX9_divide_59 : decode cX9_divide 59 = .ok (.aload_n 0, 1) := by decide +kernel
theorem dX9_divide_60 : decode cX9_divide 60 = .ok (.iload_n 1, 1) := by decide +kernel
theorem dX9_divide_61 : decode cX9_divide 61 = .ok (.iload 4, 2) := by decide +kernel
theorem dX9_divide_63 : decode cX9_divide 63 = .ok (.ifCond .eq 10, 3) := by decide +kernel
theorem dX9_divide_66 : decode cX9_divide 66 = .ok (.aload_n 0, 1) := by decide +kernel
theorem dX9_divide_67 : decode cX9_divide 67 = .ok (.getfield 18, 3) := by decide +kernel
theorem dX9_divide_70 : decode cX9_divide 70 = .ok (.goto 5, 3) := by decide +kernel
theorem dX9_divide_73 : decode cX9_divide 73 = .ok (.aload 5, 2) := by decide +kernel
theorem dX9_divide_75 : decode cX9_divide 75 = .ok (.invokevirtual 144, 3) := by decide +kernel
theorem dX9_divide_78 : decode cX9_divide 78 = .ok (.ireturn, 1) := by decide +kernel
theorem dX9_gcd_0 : decode cX9_gcd 0 = .ok (.iload_n 1, 1) := by decide +kernel
theorem dX9_gcd_1 : decode cX9_gcd 1 = .ok (.iload_n 2, 1) := by decide +kernel
theorem dX9_gcd_2 : decode cX9_gcd 2 = .ok (.iload_n 3, 1) := by decide +kernel
theorem dX9_gcd_3 : decode cX9_gcd 3 = .ok (.invokestatic 132, 3) := by decide +kernel
theorem dX9_gcd_6 : decode cX9_gcd 6 = .ok (.ifCond .ne 6, 3) := by decide +kernel
theorem dX9_gcd_9 : decode cX9_gcd 9 = .ok (.bipush (-2), 2) := by decide +kernel
theorem dX9_gcd_11 : decode cX9_gcd 11 = .ok (.ireturn, 1) := by decide +kernel
theorem dX9_gcd_12 : decode cX9_gcd 12 = .ok (.aload_n 0, 1) := by decide +kernel
theorem dX9_gcd_13 : decode cX9_gcd 13 = .ok (.iload_n 1, 1) := by decide +kernel
theorem dX9_gcd_14 : decode cX9_gcd 14 = .ok (.aload_n 0, 1) := by decide +kernel
theorem dX9_gcd_15 : decode cX9_gcd 15 = .ok (.getfield 63, 3) := by decide +kernel
theorem dX9_gcd_18 : decode cX9_gcd 18 = .ok (.aload_n 0, 1) := by decide +kernel
theorem dX9_gcd_19 : decode cX9_gcd 19 = .ok (.getfield 11, 3) := by decide +kernel
theorem dX9_gcd_22 : decode cX9_gcd 22 = .ok (.iload_n 2, 1) := by decide +kernel
theorem dX9_gcd_23 : decode cX9_gcd 23 = .ok (.aaload, 1) := by decide +kernel
theorem dX9_gcd_24 : decode cX9_gcd 24 = .ok (.aload_n 0, 1) := by decide +kernel
theorem dX9_gcd_25 : decode cX9_gcd 25 = .ok (.getfield 11, 3) := by decide +kernel
theorem dX9_gcd_28 : decode cX9_gcd 28 = .ok (.iload_n 3, 1) := by decide +kernel
theorem dX9_gcd_29 : decode cX9_gcd 29 = .ok (.aaload, 1) := by decide +kernel
theorem dX9_gcd_30 : decode cX9_gcd 30 = .ok (.invokevirtual 187, 3) := by decide +kernel
theorem dX9_gcd_33 : decode cX9_gcd 33 = .ok (.invokevirtual 144, 3) := by decide +kernel
theorem dX9_gcd_36 : decode cX9_gcd 36 = .ok (.ireturn, 1) := by decide +kernel
theorem dX9_cofactor_0 : decode cX9_cofactor 0 = .ok (.iload_n 1, 1) := by decide +kernel
theorem dX9_cofactor_1 : decode cX9_cofactor 1 = .ok (.iload_n 2, 1) := by decide +kernel
theorem dX9_cofactor_2 : decode cX9_cofactor 2 = .ok (.iload_n 3, 1) := by decide +kernel
theorem dX9_cofactor_3 : decode cX9_cofactor 3 = .ok (.invokestatic 132, 3) := by decide +kernel
theorem dX9_cofactor_6 : decode cX9_cofactor 6 = .ok (.ifCond .ne 6, 3) := by decide +kernel
theorem dX9_cofactor_9 : decode cX9_cofactor 9 = .ok (.bipush (-2), 2) := by decide +kernel
theorem dX9_cofactor_11 : decode cX9_cofactor 11 = .ok (.ireturn, 1) := by decide +kernel
theorem dX9_cofactor_12 : decode cX9_cofactor 12 = .ok (.aload_n 0, 1) := by decide +kernel
theorem dX9_cofactor_13 : decode cX9_cofactor 13 = .ok (.iload_n 1, 1) := by decide +kernel
theorem dX9_cofactor_14 : decode cX9_cofactor 14 = .ok (.aload_n 0, 1) := by decide +kernel
theorem dX9_cofactor_15 : decode cX9_cofactor 15 = .ok (.getfield 63, 3) := by decide +kernel
theorem dX9_cofactor_18 : decode cX9_cofactor 18 = .ok (.aload_n 0, 1) := by decide +kernel
theorem dX9_cofactor_19 : decode cX9_cofactor 19 = .ok (.getfield 11, 3) := by decide +kernel
theorem dX9_cofactor_22 : decode cX9_cofactor 22 = .ok (.iload_n 2, 1) := by decide +kernel
theorem dX9_cofactor_23 : decode cX9_cofactor 23 = .ok (.aaload, 1) := by decide +kernel
theorem dX9_cofactor_24 : decode cX9_cofactor 24 = .ok (.aload_n 0, 1) := by decide +kernel
theorem dX9_cofactor_25 : decode cX9_cofactor 25 = .ok (.getfield 11, 3) := by decide +kernel
theorem dX9_cofactor_28 : decode cX9_cofactor 28 = .ok (.iload_n 3, 1) := by decide +kernel
theorem dX9_cofactor_29 : decode cX9_cofactor 29 = .ok (.aaload, 1) := by decide +kernel
theorem dX9_cofactor_30 : decode cX9_cofactor 30 = .ok (.invokevirtual 190, 3) := by decide +kernel
theorem dX9_cofactor_33 : decode cX9_cofactor 33 = .ok (.invokevirtual 144, 3) := by decide +kernel
theorem dX9_cofactor_36 : decode cX9_cofactor 36 = .ok (.ireturn, 1) := by decide +kernel
theorem dX9_compose_0 : decode cX9_compose 0 = .ok (.iload_n 1, 1) := by decide +kernel
theorem dX9_compose_1 : decode cX9_compose 1 = .ok (.iload_n 2, 1) := by decide +kernel
theorem dX9_compose_2 : decode cX9_compose 2 = .ok (.iload_n 3, 1) := by decide +kernel
theorem dX9_compose_3 : decode cX9_compose 3 = .ok (.invokestatic 132, 3) := by decide +kernel
theorem dX9_compose_6 : decode cX9_compose 6 = .ok (.ifCond .ne 6, 3) := by decide +kernel
theorem dX9_compose_9 : decode cX9_compose 9 = .ok (.bipush (-2), 2) := by decide +kernel
theorem dX9_compose_11 : decode cX9_compose 11 = .ok (.ireturn, 1) := by decide +kernel
theorem dX9_compose_12 : decode cX9_compose 12 = .ok (.aload_n 0, 1) := by decide +kernel
theorem dX9_compose_13 : decode cX9_compose 13 = .ok (.getfield 11, 3) := by decide +kernel
theorem dX9_compose_16 : decode cX9_compose 16 = .ok (.iload_n 2, 1) := by decide +kernel
theorem dX9_compose_17 : decode cX9_compose 17 = .ok (.aaload, 1) := by decide +kernel
theorem dX9_compose_18 : decode cX9_compose 18 = .ok (.invokevirtual 127, 3) := by decide +kernel
theorem dX9_compose_21 : decode cX9_compose 21 = .ok (.istore 4, 2) := by decide +kernel
theorem dX9_compose_23 : decode cX9_compose 23 = .ok (.aload_n 0, 1) := by decide +kernel
theorem dX9_compose_24 : decode cX9_compose 24 = .ok (.getfield 11, 3) := by decide +kernel
theorem dX9_compose_27 : decode cX9_compose 27 = .ok (.iload_n 3, 1) := by decide +kernel
theorem dX9_compose_28 : decode cX9_compose 28 = .ok (.aaload, 1) := by decide +kernel
theorem dX9_compose_29 : decode cX9_compose 29 = .ok (.invokevirtual 127, 3) := by decide +kernel
theorem dX9_compose_32 : decode cX9_compose 32 = .ok (.istore 5, 2) := by decide +kernel
theorem dX9_compose_34 : decode cX9_compose 34 = .ok (.iload 4, 2) := by decide +kernel
theorem dX9_compose_36 : decode cX9_compose 36 = .ok (.iconst 1, 1) := by decide +kernel
theorem dX9_compose_37 : decode cX9_compose 37 = .ok (.if_icmp .le 28, 3) := by decide +kernel
theorem dX9_compose_40 : decode cX9_compose 40 = .ok (.iload 5, 2) := by decide +kernel
theorem dX9_compose_42 : decode cX9_compose 42 = .ok (.iconst 1, 1) := by decide +kernel
theorem dX9_compose_43 : decode cX9_compose 43 = .ok (.if_icmp .le 22, 3) := by decide +kernel
theorem dX9_compose_46 : decode cX9_compose 46 = .ok (.iload 4, 2) := by decide +kernel
theorem dX9_compose_48 : decode cX9_compose 48 = .ok (.iconst 1, 1) := by decide +kernel
theorem dX9_compose_49 : decode cX9_compose 49 = .ok (.isub, 1) := by decide +kernel
theorem dX9_compose_50 : decode cX9_compose 50 = .ok (.iload 5, 2) := by decide +kernel
theorem dX9_compose_52 : decode cX9_compose 52 = .ok (.iconst 1, 1) := by decide +kernel
theorem dX9_compose_53 : decode cX9_compose 53 = .ok (.isub, 1) := by decide +kernel
theorem dX9_compose_54 : decode cX9_compose 54 = .ok (.imul, 1) := by decide +kernel
theorem dX9_compose_55 : decode cX9_compose 55 = .ok (.iconst 1, 1) := by decide +kernel
theorem dX9_compose_56 : decode cX9_compose 56 = .ok (.iadd, 1) := by decide +kernel
theorem dX9_compose_57 : decode cX9_compose 57 = .ok (.bipush 32, 2) := by decide +kernel
theorem dX9_compose_59 : decode cX9_compose 59 = .ok (.if_icmp .le 6, 3) := by decide +kernel
theorem dX9_compose_62 : decode cX9_compose 62 = .ok (.bipush (-4), 2) := by decide +kernel
theorem dX9_compose_64 : decode cX9_compose 64 = .ok (.ireturn, 1) := by decide +kernel
theorem dX9_compose_65 : decode cX9_compose 65 = .ok (.aload_n 0, 1) := by decide +kernel
theorem dX9_compose_66 : decode cX9_compose 66 = .ok (.iload_n 1, 1) := by decide +kernel
theorem dX9_compose_67 : decode cX9_compose 67 = .ok (.aload_n 0, 1) := by decide +kernel
theorem dX9_compose_68 : decode cX9_compose 68 = .ok (.getfield 63, 3) := by decide +kernel
theorem dX9_compose_71 : decode cX9_compose 71 = .ok (.aload_n 0, 1) := by decide +kernel
theorem dX9_compose_72 : decode cX9_compose 72 = .ok (.getfield 11, 3) := by decide +kernel
theorem dX9_compose_75 : decode cX9_compose 75 = .ok (.iload_n 2, 1) := by decide +kernel
theorem dX9_compose_76 : decode cX9_compose 76 = .ok (.aaload, 1) := by decide +kernel
theorem dX9_compose_77 : decode cX9_compose 77 = .ok (.aload_n 0, 1) := by decide +kernel
theorem dX9_compose_78 : decode cX9_compose 78 = .ok (.getfield 11, 3) := by decide +kernel
theorem dX9_compose_81 : decode cX9_compose 81 = .ok (.iload_n 3, 1) := by decide +kernel
theorem dX9_compose_82 : decode cX9_compose 82 = .ok (.aaload, 1) := by decide +kernel
theorem dX9_compose_83 : decode cX9_compose 83 = .ok (.invokevirtual 193, 3) := by decide +kernel
theorem dX9_compose_86 : decode cX9_compose 86 = .ok (.invokevirtual 144, 3) := by decide +kernel
theorem dX9_compose_89 : decode cX9_compose 89 = .ok (.ireturn, 1) := by decide +kernel
theorem dX9_move_0 : decode cX9_move 0 = .ok (.iload_n 1, 1) := by decide +kernel
theorem dX9_move_1 : decode cX9_move 1 = .ok (.invokestatic 107, 3) := by decide +kernel
theorem dX9_move_4 : decode cX9_move 4 = .ok (.ifCond .eq 10, 3) := by decide +kernel
theorem dX9_move_7 : decode cX9_move 7 = .ok (.iload_n 2, 1) := by decide +kernel
theorem dX9_move_8 : decode cX9_move 8 = .ok (.invokestatic 107, 3) := by decide +kernel
theorem dX9_move_11 : decode cX9_move 11 = .ok (.ifCond .ne 6, 3) := by decide +kernel
theorem dX9_move_14 : decode cX9_move 14 = .ok (.bipush (-2), 2) := by decide +kernel
theorem dX9_move_16 : decode cX9_move 16 = .ok (.ireturn, 1) := by decide +kernel
theorem dX9_move_17 : decode cX9_move 17 = .ok (.aload_n 0, 1) := by decide +kernel
theorem dX9_move_18 : decode cX9_move 18 = .ok (.iload_n 1, 1) := by decide +kernel
theorem dX9_move_19 : decode cX9_move 19 = .ok (.aload_n 0, 1) := by decide +kernel
theorem dX9_move_20 : decode cX9_move 20 = .ok (.getfield 63, 3) := by decide +kernel
theorem dX9_move_23 : decode cX9_move 23 = .ok (.aload_n 0, 1) := by decide +kernel
theorem dX9_move_24 : decode cX9_move 24 = .ok (.getfield 11, 3) := by decide +kernel
theorem dX9_move_27 : decode cX9_move 27 = .ok (.iload_n 2, 1) := by decide +kernel
theorem dX9_move_28 : decode cX9_move 28 = .ok (.aaload, 1) := by decide +kernel
theorem dX9_move_29 : decode cX9_move 29 = .ok (.aload_n 0, 1) := by decide +kernel
theorem dX9_move_30 : decode cX9_move 30 = .ok (.getfield 54, 3) := by decide +kernel
theorem dX9_move_33 : decode cX9_move 33 = .ok (.iload_n 3, 1) := by decide +kernel
theorem dX9_move_34 : decode cX9_move 34 = .ok (.i2l, 1) := by decide +kernel
theorem dX9_move_35 : decode cX9_move 35 = .ok (.invokevirtual 119, 3) := by decide +kernel
theorem dX9_move_38 : decode cX9_move 38 = .ok (.invokevirtual 196, 3) := by decide +kernel
theorem dX9_move_41 : decode cX9_move 41 = .ok (.invokevirtual 144, 3) := by decide +kernel
theorem dX9_move_44 : decode cX9_move 44 = .ok (.ireturn, 1) := by decide +kernel
theorem dX9_root_0 : decode cX9_root 0 = .ok (.iload_n 1, 1) := by decide +kernel
theorem dX9_root_1 : decode cX9_root 1 = .ok (.invokestatic 107, 3) := by decide +kernel
theorem dX9_root_4 : decode cX9_root 4 = .ok (.ifCond .ne 6, 3) := by decide +kernel
theorem dX9_root_7 : decode cX9_root 7 = .ok (.bipush (-2), 2) := by decide +kernel
theorem dX9_root_9 : decode cX9_root 9 = .ok (.ireturn, 1) := by decide +kernel
theorem dX9_root_10 : decode cX9_root 10 = .ok (.aload_n 0, 1) := by decide +kernel
theorem dX9_root_11 : decode cX9_root 11 = .ok (.getfield 11, 3) := by decide +kernel
theorem dX9_root_14 : decode cX9_root 14 = .ok (.iload_n 1, 1) := by decide +kernel
theorem dX9_root_15 : decode cX9_root 15 = .ok (.aaload, 1) := by decide +kernel
theorem dX9_root_16 : decode cX9_root 16 = .ok (.invokevirtual 127, 3) := by decide +kernel
theorem dX9_root_19 : decode cX9_root 19 = .ok (.ifCond .ne 6, 3) := by decide +kernel
theorem dX9_root_22 : decode cX9_root 22 = .ok (.bipush (-3), 2) := by decide +kernel
theorem dX9_root_24 : decode cX9_root 24 = .ok (.ireturn, 1) := by decide +kernel
theorem dX9_root_25 : decode cX9_root 25 = .ok (.aload_n 0, 1) := by decide +kernel
theorem dX9_root_26 : decode cX9_root 26 = .ok (.getfield 63, 3) := by decide +kernel
theorem dX9_root_29 : decode cX9_root 29 = .ok (.aload_n 0, 1) := by decide +kernel
theorem dX9_root_30 : decode cX9_root 30 = .ok (.getfield 11, 3) := by decide +kernel
theorem dX9_root_33 : decode cX9_root 33 = .ok (.iload_n 1, 1) := by decide +kernel
theorem dX9_root_34 : decode cX9_root 34 = .ok (.aaload, 1) := by decide +kernel
theorem dX9_root_35 : decode cX9_root 35 = .ok (.invokevirtual 200, 3) := by decide +kernel
theorem dX9_root_38 : decode cX9_root 38 = .ok (.istore_n 3, 1) := by decide +kernel
theorem dX9_root_39 : decode cX9_root 39 = .ok (.iload_n 2, 1) := by decide +kernel
theorem dX9_root_40 : decode cX9_root 40 = .ok (.iconst (-1), 1) := by decide +kernel
theorem dX9_root_41 : decode cX9_root 41 = .ok (.if_icmp .ne 5, 3) := by decide +kernel
theorem dX9_root_44 : decode cX9_root 44 = .ok (.iload_n 3, 1) := by decide +kernel
theorem dX9_root_45 : decode cX9_root 45 = .ok (.ireturn, 1) := by decide +kernel
theorem dX9_root_46 : decode cX9_root 46 = .ok (.iload_n 2, 1) := by decide +kernel
theorem dX9_root_47 : decode cX9_root 47 = .ok (.iload_n 3, 1) := by decide +kernel
theorem dX9_root_48 : decode cX9_root 48 = .ok (.invokestatic 111, 3) := by decide +kernel
theorem dX9_root_51 : decode cX9_root 51 = .ok (.ifCond .eq 14, 3) := by decide +kernel
theorem dX9_root_54 : decode cX9_root 54 = .ok (.aload_n 0, 1) := by decide +kernel
theorem dX9_root_55 : decode cX9_root 55 = .ok (.getfield 63, 3) := by decide +kernel
theorem dX9_root_58 : decode cX9_root 58 = .ok (.iload_n 2, 1) := by decide +kernel
theorem dX9_root_59 : decode cX9_root 59 = .ok (.invokevirtual 204, 3) := by decide +kernel
theorem dX9_root_62 : decode cX9_root 62 = .ok (.goto 4, 3) := by decide +kernel
theorem dX9_root_65 : decode cX9_root 65 = .ok (.iconst (-1), 1) := by decide +kernel
theorem dX9_root_66 : decode cX9_root 66 = .ok (.ireturn, 1) := by decide +kernel
theorem dX9_order_0 : decode cX9_order 0 = .ok (.iload_n 1, 1) := by decide +kernel
theorem dX9_order_1 : decode cX9_order 1 = .ok (.invokestatic 107, 3) := by decide +kernel
theorem dX9_order_4 : decode cX9_order 4 = .ok (.ifCond .ne 6, 3) := by decide +kernel
theorem dX9_order_7 : decode cX9_order 7 = .ok (.bipush (-2), 2) := by decide +kernel
theorem dX9_order_9 : decode cX9_order 9 = .ok (.ireturn, 1) := by decide +kernel
theorem dX9_order_10 : decode cX9_order 10 = .ok (.aload_n 0, 1) := by decide +kernel
theorem dX9_order_11 : decode cX9_order 11 = .ok (.getfield 11, 3) := by decide +kernel
theorem dX9_order_14 : decode cX9_order 14 = .ok (.iload_n 1, 1) := by decide +kernel
theorem dX9_order_15 : decode cX9_order 15 = .ok (.aaload, 1) := by decide +kernel
theorem dX9_order_16 : decode cX9_order 16 = .ok (.invokevirtual 127, 3) := by decide +kernel
theorem dX9_order_19 : decode cX9_order 19 = .ok (.ifCond .ne 6, 3) := by decide +kernel
theorem dX9_order_22 : decode cX9_order 22 = .ok (.bipush (-3), 2) := by decide +kernel
theorem dX9_order_24 : decode cX9_order 24 = .ok (.ireturn, 1) := by decide +kernel
theorem dX9_order_25 : decode cX9_order 25 = .ok (.aload_n 0, 1) := by decide +kernel
theorem dX9_order_26 : decode cX9_order 26 = .ok (.getfield 63, 3) := by decide +kernel
theorem dX9_order_29 : decode cX9_order 29 = .ok (.aload_n 0, 1) := by decide +kernel
theorem dX9_order_30 : decode cX9_order 30 = .ok (.getfield 11, 3) := by decide +kernel
theorem dX9_order_33 : decode cX9_order 33 = .ok (.iload_n 1, 1) := by decide +kernel
theorem dX9_order_34 : decode cX9_order 34 = .ok (.aaload, 1) := by decide +kernel
theorem dX9_order_35 : decode cX9_order 35 = .ok (.aload_n 0, 1) := by decide +kernel
theorem dX9_order_36 : decode cX9_order 36 = .ok (.getfield 54, 3) := by decide +kernel
theorem dX9_order_39 : decode cX9_order 39 = .ok (.iload_n 2, 1) := by decide +kernel
theorem dX9_order_40 : decode cX9_order 40 = .ok (.i2l, 1) := by decide +kernel
theorem dX9_order_41 : decode cX9_order 41 = .ok (.invokevirtual 119, 3) := by decide +kernel
theorem dX9_order_44 : decode cX9_order 44 = .ok (.invokevirtual 196, 3) := by decide +kernel
theorem dX9_order_47 : decode cX9_order 47 = .ok (.astore_n 3, 1) := by decide +kernel
theorem dX9_order_48 : decode cX9_order 48 = .ok (.iconst 0, 1) := by decide +kernel
theorem dX9_order_49 : decode cX9_order 49 = .ok (.istore 4, 2) := by decide +kernel
theorem dX9_order_51 : decode cX9_order 51 = .ok (.iload 4, 2) := by decide +kernel
theorem dX9_order_53 : decode cX9_order 53 = .ok (.aload_n 3, 1) := by decide +kernel
theorem dX9_order_54 : decode cX9_order 54 = .ok (.invokevirtual 127, 3) := by decide +kernel
theorem dX9_order_57 : decode cX9_order 57 = .ok (.if_icmp .ge 18, 3) := by decide +kernel
theorem dX9_order_60 : decode cX9_order 60 = .ok (.aload_n 3, 1) := by decide +kernel
theorem dX9_order_61 : decode cX9_order 61 = .ok (.iload 4, 2) := by decide +kernel
theorem dX9_order_63 : decode cX9_order 63 = .ok (.invokevirtual 115, 3) := by decide +kernel
theorem dX9_order_66 : decode cX9_order 66 = .ok (.ifCond .ne 9, 3) := by decide +kernel
theorem dX9_order_69 : decode cX9_order 69 = .ok (.iinc 4 1, 3) := by decide +kernel
theorem dX9_order_72 : decode cX9_order 72 = .ok (.goto (-21), 3) := by decide +kernel
theorem dX9_order_75 : decode cX9_order 75 = .ok (.iload 4, 2) := by decide +kernel
theorem dX9_order_77 : decode cX9_order 77 = .ok (.ireturn, 1) := by decide +kernel
theorem dX9_place_0 : decode cX9_place 0 = .ok (.aload_n 0, 1) := by decide +kernel
theorem dX9_place_1 : decode cX9_place 1 = .ok (.getfield 72, 3) := by decide +kernel
theorem dX9_place_4 : decode cX9_place 4 = .ok (.invokevirtual 207, 3) := by decide +kernel
theorem dX9_place_7 : decode cX9_place 7 = .ok (.bipush 16, 2) := by decide +kernel
theorem dX9_place_9 : decode cX9_place 9 = .ok (.if_icmp .lt 6, 3) := by decide +kernel
theorem dX9_place_12 : decode cX9_place 12 = .ok (.bipush (-4), 2) := by decide +kernel
theorem dX9_place_14 : decode cX9_place 14 = .ok (.ireturn, 1) := by decide +kernel
theorem dX9_place_15 : decode cX9_place 15 = .ok (.aload_n 0, 1) := by decide +kernel
theorem dX9_place_16 : decode cX9_place 16 = .ok (.getfield 72, 3) := by decide +kernel
theorem dX9_place_19 : decode cX9_place 19 = .ok (.aload_n 0, 1) := by decide +kernel
theorem dX9_place_20 : decode cX9_place 20 = .ok (.getfield 54, 3) := by decide +kernel
theorem dX9_place_23 : decode cX9_place 23 = .ok (.iload_n 1, 1) := by decide +kernel
theorem dX9_place_24 : decode cX9_place 24 = .ok (.i2l, 1) := by decide +kernel
theorem dX9_place_25 : decode cX9_place 25 = .ok (.invokevirtual 119, 3) := by decide +kernel
theorem dX9_place_28 : decode cX9_place 28 = .ok (.invokevirtual 208, 3) := by decide +kernel
theorem dX9_place_31 : decode cX9_place 31 = .ok (.aload_n 0, 1) := by decide +kernel
theorem dX9_place_32 : decode cX9_place 32 = .ok (.getfield 72, 3) := by decide +kernel
theorem dX9_place_35 : decode cX9_place 35 = .ok (.invokevirtual 207, 3) := by decide +kernel
theorem dX9_place_38 : decode cX9_place 38 = .ok (.iconst 1, 1) := by decide +kernel
theorem dX9_place_39 : decode cX9_place 39 = .ok (.isub, 1) := by decide +kernel
theorem dX9_place_40 : decode cX9_place 40 = .ok (.ireturn, 1) := by decide +kernel
theorem dX9_leave_0 : decode cX9_leave 0 = .ok (.aload_n 0, 1) := by decide +kernel
theorem dX9_leave_1 : decode cX9_leave 1 = .ok (.getfield 72, 3) := by decide +kernel
theorem dX9_leave_4 : decode cX9_leave 4 = .ok (.invokevirtual 207, 3) := by decide +kernel
theorem dX9_leave_7 : decode cX9_leave 7 = .ok (.istore_n 1, 1) := by decide +kernel
theorem dX9_leave_8 : decode cX9_leave 8 = .ok (.aload_n 0, 1) := by decide +kernel
theorem dX9_leave_9 : decode cX9_leave 9 = .ok (.getfield 72, 3) := by decide +kernel
theorem dX9_leave_12 : decode cX9_leave 12 = .ok (.invokevirtual 210, 3) := by decide +kernel
theorem dX9_leave_15 : decode cX9_leave 15 = .ok (.iload_n 1, 1) := by decide +kernel
theorem dX9_leave_16 : decode cX9_leave 16 = .ok (.ireturn, 1) := by decide +kernel
theorem dX9_see_0 : decode cX9_see 0 = .ok (.aload_n 0, 1) := by decide +kernel
theorem dX9_see_1 : decode cX9_see 1 = .ok (.iload_n 1, 1) := by decide +kernel
theorem dX9_see_2 : decode cX9_see 2 = .ok (.invokevirtual 211, 3) := by decide +kernel
theorem dX9_see_5 : decode cX9_see 5 = .ok (.ifCond .ne 6, 3) := by decide +kernel
theorem dX9_see_8 : decode cX9_see 8 = .ok (.bipush (-2), 2) := by decide +kernel
theorem dX9_see_10 : decode cX9_see 10 = .ok (.ireturn, 1) := by decide +kernel
theorem dX9_see_11 : decode cX9_see 11 = .ok (.aload_n 0, 1) := by decide +kernel
theorem dX9_see_12 : decode cX9_see 12 = .ok (.getfield 72, 3) := by decide +kernel
theorem dX9_see_15 : decode cX9_see 15 = .ok (.iload_n 1, 1) := by decide +kernel
theorem dX9_see_16 : decode cX9_see 16 = .ok (.invokevirtual 214, 3) := by decide +kernel
theorem dX9_see_19 : decode cX9_see 19 = .ok (.istore_n 3, 1) := by decide +kernel
theorem dX9_see_20 : decode cX9_see 20 = .ok (.aload_n 0, 1) := by decide +kernel
theorem dX9_see_21 : decode cX9_see 21 = .ok (.getfield 72, 3) := by decide +kernel
theorem dX9_see_24 : decode cX9_see 24 = .ok (.iload_n 1, 1) := by decide +kernel
theorem dX9_see_25 : decode cX9_see 25 = .ok (.aload_n 0, 1) := by decide +kernel
theorem dX9_see_26 : decode cX9_see 26 = .ok (.getfield 54, 3) := by decide +kernel
theorem dX9_see_29 : decode cX9_see 29 = .ok (.iload_n 2, 1) := by decide +kernel
theorem dX9_see_30 : decode cX9_see 30 = .ok (.i2l, 1) := by decide +kernel
theorem dX9_see_31 : decode cX9_see 31 = .ok (.invokevirtual 119, 3) := by decide +kernel
theorem dX9_see_34 : decode cX9_see 34 = .ok (.invokevirtual 217, 3) := by decide +kernel
theorem dX9_see_37 : decode cX9_see 37 = .ok (.iload_n 3, 1) := by decide +kernel
theorem dX9_see_38 : decode cX9_see 38 = .ok (.ireturn, 1) := by decide +kernel
theorem dX9_told_0 : decode cX9_told 0 = .ok (.aload_n 0, 1) := by decide +kernel
theorem dX9_told_1 : decode cX9_told 1 = .ok (.iload_n 1, 1) := by decide +kernel
theorem dX9_told_2 : decode cX9_told 2 = .ok (.invokevirtual 211, 3) := by decide +kernel
theorem dX9_told_5 : decode cX9_told 5 = .ok (.ifCond .eq 11, 3) := by decide +kernel
theorem dX9_told_8 : decode cX9_told 8 = .ok (.iload_n 2, 1) := by decide +kernel
theorem dX9_told_9 : decode cX9_told 9 = .ok (.iconst 2, 1) := by decide +kernel
theorem dX9_told_10 : decode cX9_told 10 = .ok (.invokestatic 111, 3) := by decide +kernel
theorem dX9_told_13 : decode cX9_told 13 = .ok (.ifCond .ne 6, 3) := by decide +kernel
theorem dX9_told_16 : decode cX9_told 16 = .ok (.bipush (-2), 2) := by decide +kernel
theorem dX9_told_18 : decode cX9_told 18 = .ok (.ireturn, 1) := by decide +kernel
theorem dX9_told_19 : decode cX9_told 19 = .ok (.iload_n 2, 1) := by decide +kernel
theorem dX9_told_20 : decode cX9_told 20 = .ok (.ifCond .ne 14, 3) := by decide +kernel
theorem dX9_told_23 : decode cX9_told 23 = .ok (.aload_n 0, 1) := by decide +kernel
theorem dX9_told_24 : decode cX9_told 24 = .ok (.getfield 72, 3) := by decide +kernel
theorem dX9_told_27 : decode cX9_told 27 = .ok (.iload_n 1, 1) := by decide +kernel
theorem dX9_told_28 : decode cX9_told 28 = .ok (.invokevirtual 220, 3) := by decide +kernel
theorem dX9_told_31 : decode cX9_told 31 = .ok (.goto 11, 3) := by decide +kernel
theorem dX9_told_34 : decode cX9_told 34 = .ok (.aload_n 0, 1) := by decide +kernel
theorem dX9_told_35 : decode cX9_told 35 = .ok (.getfield 72, 3) := by decide +kernel
theorem dX9_told_38 : decode cX9_told 38 = .ok (.iload_n 1, 1) := by decide +kernel
theorem dX9_told_39 : decode cX9_told 39 = .ok (.invokevirtual 214, 3) := by decide +kernel
theorem dX9_told_42 : decode cX9_told 42 = .ok (.ireturn, 1) := by decide +kernel
theorem dX9_value_0 : decode cX9_value 0 = .ok (.iload_n 1, 1) := by decide +kernel
theorem dX9_value_1 : decode cX9_value 1 = .ok (.invokestatic 107, 3) := by decide +kernel
theorem dX9_value_4 : decode cX9_value 4 = .ok (.ifCond .eq 11, 3) := by decide +kernel
theorem dX9_value_7 : decode cX9_value 7 = .ok (.aload_n 0, 1) := by decide +kernel
theorem dX9_value_8 : decode cX9_value 8 = .ok (.iload_n 2, 1) := by decide +kernel
theorem dX9_value_9 : decode cX9_value 9 = .ok (.invokevirtual 211, 3) := by decide +kernel
theorem dX9_value_12 : decode cX9_value 12 = .ok (.ifCond .ne 6, 3) := by decide +kernel
theorem dX9_value_15 : decode cX9_value 15 = .ok (.bipush (-2), 2) := by decide +kernel
theorem dX9_value_17 : decode cX9_value 17 = .ok (.ireturn, 1) := by decide +kernel
theorem dX9_value_18 : decode cX9_value 18 = .ok (.aload_n 0, 1) := by decide +kernel
theorem dX9_value_19 : decode cX9_value 19 = .ok (.getfield 63, 3) := by decide +kernel
theorem dX9_value_22 : decode cX9_value 22 = .ok (.aload_n 0, 1) := by decide +kernel
theorem dX9_value_23 : decode cX9_value 23 = .ok (.getfield 11, 3) := by decide +kernel
theorem dX9_value_26 : decode cX9_value 26 = .ok (.iload_n 1, 1) := by decide +kernel
theorem dX9_value_27 : decode cX9_value 27 = .ok (.aaload, 1) := by decide +kernel
theorem dX9_value_28 : decode cX9_value 28 = .ok (.aload_n 0, 1) := by decide +kernel
theorem dX9_value_29 : decode cX9_value 29 = .ok (.getfield 72, 3) := by decide +kernel
theorem dX9_value_32 : decode cX9_value 32 = .ok (.iload_n 2, 1) := by decide +kernel
theorem dX9_value_33 : decode cX9_value 33 = .ok (.invokevirtual 220, 3) := by decide +kernel
theorem dX9_value_36 : decode cX9_value 36 = .ok (.invokevirtual 223, 3) := by decide +kernel
theorem dX9_value_39 : decode cX9_value 39 = .ok (.ireturn, 1) := by decide +kernel
theorem dX9_look_0 : decode cX9_look 0 = .ok (.iload_n 1, 1) := by decide +kernel
theorem dX9_look_1 : decode cX9_look 1 = .ok (.invokestatic 107, 3) := by decide +kernel
theorem dX9_look_4 : decode cX9_look 4 = .ok (.ifCond .ne 6, 3) := by decide +kernel
theorem dX9_look_7 : decode cX9_look 7 = .ok (.bipush (-2), 2) := by decide +kernel
theorem dX9_look_9 : decode cX9_look 9 = .ok (.ireturn, 1) := by decide +kernel
theorem dX9_look_10 : decode cX9_look 10 = .ok (.iconst 0, 1) := by decide +kernel
theorem dX9_look_11 : decode cX9_look 11 = .ok (.istore_n 2, 1) := by decide +kernel
theorem dX9_look_12 : decode cX9_look 12 = .ok (.iload_n 2, 1) := by decide +kernel
theorem dX9_look_13 : decode cX9_look 13 = .ok (.aload_n 0, 1) := by decide +kernel
theorem dX9_look_14 : decode cX9_look 14 = .ok (.getfield 72, 3) := by decide +kernel
theorem dX9_look_17 : decode cX9_look 17 = .ok (.invokevirtual 207, 3) := by decide +kernel
theorem dX9_look_20 : decode cX9_look 20 = .ok (.if_icmp .ge 38, 3) := by decide +kernel
theorem dX9_look_23 : decode cX9_look 23 = .ok (.aload_n 0, 1) := by decide +kernel
theorem dX9_look_24 : decode cX9_look 24 = .ok (.getfield 72, 3) := by decide +kernel
theorem dX9_look_27 : decode cX9_look 27 = .ok (.iload_n 2, 1) := by decide +kernel
theorem dX9_look_28 : decode cX9_look 28 = .ok (.aload_n 0, 1) := by decide +kernel
theorem dX9_look_29 : decode cX9_look 29 = .ok (.getfield 63, 3) := by decide +kernel
theorem dX9_look_32 : decode cX9_look 32 = .ok (.aload_n 0, 1) := by decide +kernel
theorem dX9_look_33 : decode cX9_look 33 = .ok (.getfield 11, 3) := by decide +kernel
theorem dX9_look_36 : decode cX9_look 36 = .ok (.iload_n 1, 1) := by decide +kernel
theorem dX9_look_37 : decode cX9_look 37 = .ok (.aaload, 1) := by decide +kernel
theorem dX9_look_38 : decode cX9_look 38 = .ok (.aload_n 0, 1) := by decide +kernel
theorem dX9_look_39 : decode cX9_look 39 = .ok (.getfield 72, 3) := by decide +kernel
theorem dX9_look_42 : decode cX9_look 42 = .ok (.iload_n 2, 1) := by decide +kernel
theorem dX9_look_43 : decode cX9_look 43 = .ok (.invokevirtual 220, 3) := by decide +kernel
theorem dX9_look_46 : decode cX9_look 46 = .ok (.invokevirtual 223, 3) := by decide +kernel
theorem dX9_look_49 : decode cX9_look 49 = .ok (.invokevirtual 217, 3) := by decide +kernel
theorem dX9_look_52 : decode cX9_look 52 = .ok (.iinc 2 1, 3) := by decide +kernel
theorem dX9_look_55 : decode cX9_look 55 = .ok (.goto (-43), 3) := by decide +kernel
theorem dX9_look_58 : decode cX9_look 58 = .ok (.aload_n 0, 1) := by decide +kernel
theorem dX9_look_59 : decode cX9_look 59 = .ok (.getfield 72, 3) := by decide +kernel
theorem dX9_look_62 : decode cX9_look 62 = .ok (.invokevirtual 207, 3) := by decide +kernel
theorem dX9_look_65 : decode cX9_look 65 = .ok (.ireturn, 1) := by decide +kernel
theorem dX9_fill_0 : decode cX9_fill 0 = .ok (.iload_n 1, 1) := by decide +kernel
theorem dX9_fill_1 : decode cX9_fill 1 = .ok (.invokestatic 107, 3) := by decide +kernel
theorem dX9_fill_4 : decode cX9_fill 4 = .ok (.ifCond .ne 6, 3) := by decide +kernel
theorem dX9_fill_7 : decode cX9_fill 7 = .ok (.bipush (-2), 2) := by decide +kernel
theorem dX9_fill_9 : decode cX9_fill 9 = .ok (.ireturn, 1) := by decide +kernel
theorem dX9_fill_10 : decode cX9_fill 10 = .ok (.aload_n 0, 1) := by decide +kernel
theorem dX9_fill_11 : decode cX9_fill 11 = .ok (.iload_n 1, 1) := by decide +kernel
theorem dX9_fill_12 : decode cX9_fill 12 = .ok (.aload_n 0, 1) := by decide +kernel
theorem dX9_fill_13 : decode cX9_fill 13 = .ok (.getfield 72, 3) := by decide +kernel
theorem dX9_fill_16 : decode cX9_fill 16 = .ok (.invokevirtual 227, 3) := by decide +kernel
theorem dX9_fill_19 : decode cX9_fill 19 = .ok (.invokevirtual 144, 3) := by decide +kernel
theorem dX9_fill_22 : decode cX9_fill 22 = .ok (.ireturn, 1) := by decide +kernel
theorem dX9_right_0 : decode cX9_right 0 = .ok (.iload_n 1, 1) := by decide +kernel
theorem dX9_right_1 : decode cX9_right 1 = .ok (.invokestatic 107, 3) := by decide +kernel
theorem dX9_right_4 : decode cX9_right 4 = .ok (.ifCond .eq 19, 3) := by decide +kernel
theorem dX9_right_7 : decode cX9_right 7 = .ok (.iload_n 2, 1) := by decide +kernel
theorem dX9_right_8 : decode cX9_right 8 = .ok (.iconst 1, 1) := by decide +kernel
theorem dX9_right_9 : decode cX9_right 9 = .ok (.if_icmp .lt 14, 3) := by decide +kernel
theorem dX9_right_12 : decode cX9_right 12 = .ok (.iload_n 2, 1) := by decide +kernel
theorem dX9_right_13 : decode cX9_right 13 = .ok (.aload_n 0, 1) := by decide +kernel
theorem dX9_right_14 : decode cX9_right 14 = .ok (.getfield 72, 3) := by decide +kernel
theorem dX9_right_17 : decode cX9_right 17 = .ok (.invokevirtual 207, 3) := by decide +kernel
theorem dX9_right_20 : decode cX9_right 20 = .ok (.if_icmp .le 6, 3) := by decide +kernel
theorem dX9_right_23 : decode cX9_right 23 = .ok (.bipush (-2), 2) := by decide +kernel
theorem dX9_right_25 : decode cX9_right 25 = .ok (.ireturn, 1) := by decide +kernel
theorem dX9_right_26 : decode cX9_right 26 = .ok (.aload_n 0, 1) := by decide +kernel
theorem dX9_right_27 : decode cX9_right 27 = .ok (.getfield 72, 3) := by decide +kernel
theorem dX9_right_30 : decode cX9_right 30 = .ok (.invokevirtual 231, 3) := by decide +kernel
theorem dX9_right_33 : decode cX9_right 33 = .ok (.ifCond .eq 6, 3) := by decide +kernel
theorem dX9_right_36 : decode cX9_right 36 = .ok (.bipush (-3), 2) := by decide +kernel
theorem dX9_right_38 : decode cX9_right 38 = .ok (.ireturn, 1) := by decide +kernel
theorem dX9_right_39 : decode cX9_right 39 = .ok (.aload_n 0, 1) := by decide +kernel
theorem dX9_right_40 : decode cX9_right 40 = .ok (.getfield 72, 3) := by decide +kernel
theorem dX9_right_43 : decode cX9_right 43 = .ok (.iload_n 2, 1) := by decide +kernel
theorem dX9_right_44 : decode cX9_right 44 = .ok (.invokevirtual 235, 3) := by decide +kernel
theorem dX9_right_47 : decode cX9_right 47 = .ok (.astore_n 3, 1) := by decide +kernel
theorem dX9_right_48 : decode cX9_right 48 = .ok (.aload_n 0, 1) := by decide +kernel
theorem dX9_right_49 : decode cX9_right 49 = .ok (.getfield 72, 3) := by decide +kernel
theorem dX9_right_52 : decode cX9_right 52 = .ok (.aload_n 3, 1) := by decide +kernel
theorem dX9_right_53 : decode cX9_right 53 = .ok (.invokevirtual 239, 3) := by decide +kernel
theorem dX9_right_56 : decode cX9_right 56 = .ok (.istore 4, 2) := by decide +kernel
theorem dX9_right_58 : decode cX9_right 58 = .ok (.aload_n 3, 1) := by decide +kernel
theorem dX9_right_59 : decode cX9_right 59 = .ok (.invokevirtual 127, 3) := by decide +kernel
theorem dX9_right_62 : decode cX9_right 62 = .ok (.iload_n 2, 1) := by decide +kernel
theorem dX9_right_63 : decode cX9_right 63 = .ok (.if_icmp .gt 19, 3) := by decide +kernel
theorem dX9_right_66 : decode cX9_right 66 = .ok (.iload 4, 2) := by decide +kernel
theorem dX9_right_68 : decode cX9_right 68 = .ok (.aload_n 0, 1) := by decide +kernel
theorem dX9_right_69 : decode cX9_right 69 = .ok (.getfield 72, 3) := by decide +kernel
theorem dX9_right_72 : decode cX9_right 72 = .ok (.invokevirtual 207, 3) := by decide +kernel
theorem dX9_right_75 : decode cX9_right 75 = .ok (.iload_n 2, 1) := by decide +kernel
theorem dX9_right_76 : decode cX9_right 76 = .ok (.isub, 1) := by decide +kernel
theorem dX9_right_77 : decode cX9_right 77 = .ok (.iconst 2, 1) := by decide +kernel
theorem dX9_right_78 : decode cX9_right 78 = .ok (.idiv, 1) := by decide +kernel
theorem dX9_right_79 : decode cX9_right 79 = .ok (.if_icmp .le 5, 3) := by decide +kernel
theorem dX9_right_82 : decode cX9_right 82 = .ok (.iconst (-1), 1) := by decide +kernel
theorem dX9_right_83 : decode cX9_right 83 = .ok (.ireturn, 1) := by decide +kernel
theorem dX9_right_84 : decode cX9_right 84 = .ok (.aload_n 0, 1) := by decide +kernel
theorem dX9_right_85 : decode cX9_right 85 = .ok (.iload_n 1, 1) := by decide +kernel
theorem dX9_right_86 : decode cX9_right 86 = .ok (.aload_n 3, 1) := by decide +kernel
theorem dX9_right_87 : decode cX9_right 87 = .ok (.invokevirtual 144, 3) := by decide +kernel
theorem dX9_right_90 : decode cX9_right 90 = .ok (.pop, 1) := by decide +kernel
theorem dX9_right_91 : decode cX9_right 91 = .ok (.iload 4, 2) := by decide +kernel
theorem dX9_right_93 : decode cX9_right 93 = .ok (.ireturn, 1) := by decide +kernel
theorem dX9_relation_0 : decode cX9_relation 0 = .ok (.aload_n 0, 1) := by decide +kernel
theorem dX9_relation_1 : decode cX9_relation 1 = .ok (.getfield 72, 3) := by decide +kernel
theorem dX9_relation_4 : decode cX9_relation 4 = .ok (.invokevirtual 242, 3) := by decide +kernel
theorem dX9_relation_7 : decode cX9_relation 7 = .ok (.istore_n 2, 1) := by decide +kernel
theorem dX9_relation_8 : decode cX9_relation 8 = .ok (.iload_n 1, 1) := by decide +kernel
theorem dX9_relation_9 : decode cX9_relation 9 = .ok (.ifCond .lt 8, 3) := by decide +kernel
theorem dX9_relation_12 : decode cX9_relation 12 = .ok (.iload_n 1, 1) := by decide +kernel
theorem dX9_relation_13 : decode cX9_relation 13 = .ok (.iload_n 2, 1) := by decide +kernel
theorem dX9_relation_14 : decode cX9_relation 14 = .ok (.if_icmp .le 6, 3) := by decide +kernel
theorem dX9_relation_17 : decode cX9_relation 17 = .ok (.bipush (-2), 2) := by decide +kernel
theorem dX9_relation_19 : decode cX9_relation 19 = .ok (.ireturn, 1) := by decide +kernel
theorem dX9_relation_20 : decode cX9_relation 20 = .ok (.iload_n 1, 1) := by decide +kernel
theorem dX9_relation_21 : decode cX9_relation 21 = .ok (.ifCond .ne 5, 3) := by decide +kernel
theorem dX9_relation_24 : decode cX9_relation 24 = .ok (.iload_n 2, 1) := by decide +kernel
theorem dX9_relation_25 : decode cX9_relation 25 = .ok (.ireturn, 1) := by decide +kernel
theorem dX9_relation_26 : decode cX9_relation 26 = .ok (.iconst 2, 1) := by decide +kernel
theorem dX9_relation_27 : decode cX9_relation 27 = .ok (.iload_n 2, 1) := by decide +kernel
theorem dX9_relation_28 : decode cX9_relation 28 = .ok (.imul, 1) := by decide +kernel
theorem dX9_relation_29 : decode cX9_relation 29 = .ok (.aload_n 0, 1) := by decide +kernel
theorem dX9_relation_30 : decode cX9_relation 30 = .ok (.getfield 72, 3) := by decide +kernel
theorem dX9_relation_33 : decode cX9_relation 33 = .ok (.invokevirtual 207, 3) := by decide +kernel
theorem dX9_relation_36 : decode cX9_relation 36 = .ok (.if_icmp .le 8, 3) := by decide +kernel
theorem dX9_relation_39 : decode cX9_relation 39 = .ok (.bipush (-3), 2) := by decide +kernel
theorem dX9_relation_41 : decode cX9_relation 41 = .ok (.goto 11, 3) := by decide +kernel
theorem dX9_relation_44 : decode cX9_relation 44 = .ok (.aload_n 0, 1) := by decide +kernel
theorem dX9_relation_45 : decode cX9_relation 45 = .ok (.getfield 72, 3) := by decide +kernel
theorem dX9_relation_48 : decode cX9_relation 48 = .ok (.iload_n 1, 1) := by decide +kernel
theorem dX9_relation_49 : decode cX9_relation 49 = .ok (.invokevirtual 245, 3) := by decide +kernel
theorem dX9_relation_52 : decode cX9_relation 52 = .ok (.ireturn, 1) := by decide +kernel
theorem dX9_power_0 : decode cX9_power 0 = .ok (.iload_n 1, 1) := by decide +kernel
theorem dX9_power_1 : decode cX9_power 1 = .ok (.ifCond .lt 10, 3) := by decide +kernel
theorem dX9_power_4 : decode cX9_power 4 = .ok (.iload_n 1, 1) := by decide +kernel
theorem dX9_power_5 : decode cX9_power 5 = .ok (.sipush 999, 3) := by decide +kernel
theorem dX9_power_8 : decode cX9_power 8 = .ok (.if_icmp .le 6, 3) := by decide +kernel
theorem dX9_power_11 : decode cX9_power 11 = .ok (.bipush (-2), 2) := by decide +kernel
theorem dX9_power_13 : decode cX9_power 13 = .ok (.ireturn, 1) := by decide +kernel
theorem dX9_power_14 : decode cX9_power 14 = .ok (.aload_n 0, 1) := by decide +kernel
theorem dX9_power_15 : decode cX9_power 15 = .ok (.getfield 72, 3) := by decide +kernel
theorem dX9_power_18 : decode cX9_power 18 = .ok (.iload_n 1, 1) := by decide +kernel
theorem dX9_power_19 : decode cX9_power 19 = .ok (.invokevirtual 248, 3) := by decide +kernel
theorem dX9_power_22 : decode cX9_power 22 = .ok (.ireturn, 1) := by decide +kernel
theorem dX9_count_0 : decode cX9_count 0 = .ok (.iload_n 1, 1) := by decide +kernel
theorem dX9_count_1 : decode cX9_count 1 = .ok (.tableswitch 78 0 5 #[39, 47, 52, 60, 65, 73], 39) := by decide +kernel
theorem dX9_count_40 : decode cX9_count 40 = .ok (.aload_n 0, 1) := by decide +kernel
theorem dX9_count_41 : decode cX9_count 41 = .ok (.getfield 54, 3) := by decide +kernel
theorem dX9_count_44 : decode cX9_count 44 = .ok (.invokevirtual 251, 3) := by decide +kernel
theorem dX9_count_47 : decode cX9_count 47 = .ok (.ireturn, 1) := by decide +kernel
theorem dX9_count_48 : decode cX9_count 48 = .ok (.aload_n 0, 1) := by decide +kernel
theorem dX9_count_49 : decode cX9_count 49 = .ok (.getfield 148, 3) := by decide +kernel
theorem dX9_count_52 : decode cX9_count 52 = .ok (.ireturn, 1) := by decide +kernel
theorem dX9_count_53 : decode cX9_count 53 = .ok (.aload_n 0, 1) := by decide +kernel
theorem dX9_count_54 : decode cX9_count 54 = .ok (.getfield 72, 3) := by decide +kernel
theorem dX9_count_57 : decode cX9_count 57 = .ok (.invokevirtual 207, 3) := by decide +kernel
theorem dX9_count_60 : decode cX9_count 60 = .ok (.ireturn, 1) := by decide +kernel
theorem dX9_count_61 : decode cX9_count 61 = .ok (.aload_n 0, 1) := by decide +kernel
theorem dX9_count_62 : decode cX9_count 62 = .ok (.getfield 103, 3) := by decide +kernel
theorem dX9_count_65 : decode cX9_count 65 = .ok (.ireturn, 1) := by decide +kernel
theorem dX9_count_66 : decode cX9_count 66 = .ok (.aload_n 0, 1) := by decide +kernel
theorem dX9_count_67 : decode cX9_count 67 = .ok (.getfield 31, 3) := by decide +kernel
theorem dX9_count_70 : decode cX9_count 70 = .ok (.invokevirtual 168, 3) := by decide +kernel
theorem dX9_count_73 : decode cX9_count 73 = .ok (.ireturn, 1) := by decide +kernel
theorem dX9_count_74 : decode cX9_count 74 = .ok (.aload_n 0, 1) := by decide +kernel
theorem dX9_count_75 : decode cX9_count 75 = .ok (.getfield 175, 3) := by decide +kernel
theorem dX9_count_78 : decode cX9_count 78 = .ok (.ireturn, 1) := by decide +kernel
theorem dX9_count_79 : decode cX9_count 79 = .ok (.bipush (-2), 2) := by decide +kernel
theorem dX9_count_81 : decode cX9_count 81 = .ok (.ireturn, 1) := by decide +kernel
theorem dX9_counted_0 : decode cX9_counted 0 = .ok (.aload_n 0, 1) := by decide +kernel
theorem dX9_counted_1 : decode cX9_counted 1 = .ok (.getfield 254, 3) := by decide +kernel
theorem dX9_counted_4 : decode cX9_counted 4 = .ok (.lreturn, 1) := by decide +kernel
theorem dX9_sheet_0 : decode cX9_sheet 0 = .ok (.iload_n 1, 1) := by decide +kernel
theorem dX9_sheet_1 : decode cX9_sheet 1 = .ok (.iconst 4, 1) := by decide +kernel
theorem dX9_sheet_2 : decode cX9_sheet 2 = .ok (.invokestatic 111, 3) := by decide +kernel
theorem dX9_sheet_5 : decode cX9_sheet 5 = .ok (.ifCond .eq 16, 3) := by decide +kernel
theorem dX9_sheet_8 : decode cX9_sheet 8 = .ok (.iload_n 2, 1) := by decide +kernel
theorem dX9_sheet_9 : decode cX9_sheet 9 = .ok (.iconst (-1), 1) := by decide +kernel
theorem dX9_sheet_10 : decode cX9_sheet 10 = .ok (.if_icmp .eq 14, 3) := by decide +kernel
theorem dX9_sheet_13 : decode cX9_sheet 13 = .ok (.iload_n 2, 1) := by decide +kernel
theorem dX9_sheet_14 : decode cX9_sheet 14 = .ok (.iconst 3, 1) := by decide +kernel
theorem dX9_sheet_15 : decode cX9_sheet 15 = .ok (.invokestatic 111, 3) := by decide +kernel
theorem dX9_sheet_18 : decode cX9_sheet 18 = .ok (.ifCond .ne 6, 3) := by decide +kernel
theorem dX9_sheet_21 : decode cX9_sheet 21 = .ok (.bipush (-2), 2) := by decide +kernel
theorem dX9_sheet_23 : decode cX9_sheet 23 = .ok (.ireturn, 1) := by decide +kernel
theorem dX9_sheet_24 : decode cX9_sheet 24 = .ok (.iload_n 2, 1) := by decide +kernel
theorem dX9_sheet_25 : decode cX9_sheet 25 = .ok (.iconst (-1), 1) := by decide +kernel
theorem dX9_sheet_26 : decode cX9_sheet 26 = .ok (.if_icmp .ne 16, 3) := by decide +kernel
theorem dX9_sheet_29 : decode cX9_sheet 29 = .ok (.aload_n 0, 1) := by decide +kernel
theorem dX9_sheet_30 : decode cX9_sheet 30 = .ok (.getfield 47, 3) := by decide +kernel
theorem dX9_sheet_33 : decode cX9_sheet 33 = .ok (.iload_n 1, 1) := by decide +kernel
theorem dX9_sheet_34 : decode cX9_sheet 34 = .ok (.aaload, 1) := by decide +kernel
theorem dX9_sheet_35 : decode cX9_sheet 35 = .ok (.iload_n 2, 1) := by decide +kernel
theorem dX9_sheet_36 : decode cX9_sheet 36 = .ok (.iconst 0, 1) := by decide +kernel
theorem dX9_sheet_37 : decode cX9_sheet 37 = .ok (.invokevirtual 258, 3) := by decide +kernel
theorem dX9_sheet_40 : decode cX9_sheet 40 = .ok (.iconst 1, 1) := by decide +kernel
theorem dX9_sheet_41 : decode cX9_sheet 41 = .ok (.ireturn, 1) := by decide +kernel
theorem dX9_sheet_42 : decode cX9_sheet 42 = .ok (.iload_n 3, 1) := by decide +kernel
theorem dX9_sheet_43 : decode cX9_sheet 43 = .ok (.bipush 40, 2) := by decide +kernel
theorem dX9_sheet_45 : decode cX9_sheet 45 = .ok (.if_icmp .le 6, 3) := by decide +kernel
theorem dX9_sheet_48 : decode cX9_sheet 48 = .ok (.bipush (-2), 2) := by decide +kernel
theorem dX9_sheet_50 : decode cX9_sheet 50 = .ok (.ireturn, 1) := by decide +kernel
theorem dX9_sheet_51 : decode cX9_sheet 51 = .ok (.iload_n 3, 1) := by decide +kernel
theorem dX9_sheet_52 : decode cX9_sheet 52 = .ok (.ifCond .ge 6, 3) := by decide +kernel
theorem dX9_sheet_55 : decode cX9_sheet 55 = .ok (.bipush (-14), 2) := by decide +kernel
theorem dX9_sheet_57 : decode cX9_sheet 57 = .ok (.ireturn, 1) := by decide +kernel
theorem dX9_sheet_58 : decode cX9_sheet 58 = .ok (.aload_n 0, 1) := by decide +kernel
theorem dX9_sheet_59 : decode cX9_sheet 59 = .ok (.getfield 47, 3) := by decide +kernel
theorem dX9_sheet_62 : decode cX9_sheet 62 = .ok (.iload_n 1, 1) := by decide +kernel
theorem dX9_sheet_63 : decode cX9_sheet 63 = .ok (.aaload, 1) := by decide +kernel
theorem dX9_sheet_64 : decode cX9_sheet 64 = .ok (.iload_n 2, 1) := by decide +kernel
theorem dX9_sheet_65 : decode cX9_sheet 65 = .ok (.iload_n 3, 1) := by decide +kernel
theorem dX9_sheet_66 : decode cX9_sheet 66 = .ok (.invokevirtual 258, 3) := by decide +kernel
theorem dX9_sheet_69 : decode cX9_sheet 69 = .ok (.iconst 1, 1) := by decide +kernel
theorem dX9_sheet_70 : decode cX9_sheet 70 = .ok (.ireturn, 1) := by decide +kernel
theorem dX9_cell_0 : decode cX9_cell 0 = .ok (.iload_n 1, 1) := by decide +kernel
theorem dX9_cell_1 : decode cX9_cell 1 = .ok (.iconst 4, 1) := by decide +kernel
theorem dX9_cell_2 : decode cX9_cell 2 = .ok (.invokestatic 111, 3) := by decide +kernel
theorem dX9_cell_5 : decode cX9_cell 5 = .ok (.ifCond .ne 6, 3) := by decide +kernel
theorem dX9_cell_8 : decode cX9_cell 8 = .ok (.bipush (-2), 2) := by decide +kernel
theorem dX9_cell_10 : decode cX9_cell 10 = .ok (.ireturn, 1) := by decide +kernel
theorem dX9_cell_11 : decode cX9_cell 11 = .ok (.aload_n 0, 1) := by decide +kernel
theorem dX9_cell_12 : decode cX9_cell 12 = .ok (.getfield 47, 3) := by decide +kernel
theorem dX9_cell_15 : decode cX9_cell 15 = .ok (.iload_n 1, 1) := by decide +kernel
theorem dX9_cell_16 : decode cX9_cell 16 = .ok (.aaload, 1) := by decide +kernel
theorem dX9_cell_17 : decode cX9_cell 17 = .ok (.invokevirtual 261, 3) := by decide +kernel
theorem dX9_cell_20 : decode cX9_cell 20 = .ok (.iconst (-1), 1) := by decide +kernel
theorem dX9_cell_21 : decode cX9_cell 21 = .ok (.if_icmp .ne 6, 3) := by decide +kernel
theorem dX9_cell_24 : decode cX9_cell 24 = .ok (.bipush (-11), 2) := by decide +kernel
theorem dX9_cell_26 : decode cX9_cell 26 = .ok (.ireturn, 1) := by decide +kernel
theorem dX9_cell_27 : decode cX9_cell 27 = .ok (.iload_n 2, 1) := by decide +kernel
theorem dX9_cell_28 : decode cX9_cell 28 = .ok (.aload_n 0, 1) := by decide +kernel
theorem dX9_cell_29 : decode cX9_cell 29 = .ok (.getfield 47, 3) := by decide +kernel
theorem dX9_cell_32 : decode cX9_cell 32 = .ok (.iload_n 1, 1) := by decide +kernel
theorem dX9_cell_33 : decode cX9_cell 33 = .ok (.aaload, 1) := by decide +kernel
theorem dX9_cell_34 : decode cX9_cell 34 = .ok (.invokevirtual 264, 3) := by decide +kernel
theorem dX9_cell_37 : decode cX9_cell 37 = .ok (.invokestatic 111, 3) := by decide +kernel
theorem dX9_cell_40 : decode cX9_cell 40 = .ok (.ifCond .ne 6, 3) := by decide +kernel
theorem dX9_cell_43 : decode cX9_cell 43 = .ok (.bipush (-12), 2) := by decide +kernel
theorem dX9_cell_45 : decode cX9_cell 45 = .ok (.ireturn, 1) := by decide +kernel
theorem dX9_cell_46 : decode cX9_cell 46 = .ok (.aload_n 0, 1) := by decide +kernel
theorem dX9_cell_47 : decode cX9_cell 47 = .ok (.getfield 47, 3) := by decide +kernel
theorem dX9_cell_50 : decode cX9_cell 50 = .ok (.iload_n 1, 1) := by decide +kernel
theorem dX9_cell_51 : decode cX9_cell 51 = .ok (.aaload, 1) := by decide +kernel
theorem dX9_cell_52 : decode cX9_cell 52 = .ok (.iload_n 2, 1) := by decide +kernel
theorem dX9_cell_53 : decode cX9_cell 53 = .ok (.iload_n 3, 1) := by decide +kernel
theorem dX9_cell_54 : decode cX9_cell 54 = .ok (.invokevirtual 265, 3) := by decide +kernel
theorem dX9_cell_57 : decode cX9_cell 57 = .ok (.iconst 1, 1) := by decide +kernel
theorem dX9_cell_58 : decode cX9_cell 58 = .ok (.ireturn, 1) := by decide +kernel
theorem dX9_lay_0 : decode cX9_lay 0 = .ok (.iload_n 1, 1) := by decide +kernel
theorem dX9_lay_1 : decode cX9_lay 1 = .ok (.invokestatic 107, 3) := by decide +kernel
theorem dX9_lay_4 : decode cX9_lay 4 = .ok (.ifCond .eq 31, 3) := by decide +kernel
theorem dX9_lay_7 : decode cX9_lay 7 = .ok (.iload_n 2, 1) := by decide +kernel
theorem dX9_lay_8 : decode cX9_lay 8 = .ok (.iconst 4, 1) := by decide +kernel
theorem dX9_lay_9 : decode cX9_lay 9 = .ok (.invokestatic 111, 3) := by decide +kernel
theorem dX9_lay_12 : decode cX9_lay 12 = .ok (.ifCond .eq 23, 3) := by decide +kernel
theorem dX9_lay_15 : decode cX9_lay 15 = .ok (.iload_n 3, 1) := by decide +kernel
theorem dX9_lay_16 : decode cX9_lay 16 = .ok (.iconst 3, 1) := by decide +kernel
theorem dX9_lay_17 : decode cX9_lay 17 = .ok (.invokestatic 111, 3) := by decide +kernel
theorem dX9_lay_20 : decode cX9_lay 20 = .ok (.ifCond .eq 15, 3) := by decide +kernel
theorem dX9_lay_23 : decode cX9_lay 23 = .ok (.iload 5, 2) := by decide +kernel
theorem dX9_lay_25 : decode cX9_lay 25 = .ok (.ifCond .lt 10, 3) := by decide +kernel
theorem dX9_lay_28 : decode cX9_lay 28 = .ok (.iload 5, 2) := by decide +kernel
theorem dX9_lay_30 : decode cX9_lay 30 = .ok (.bipush 32, 2) := by decide +kernel
theorem dX9_lay_32 : decode cX9_lay 32 = .ok (.if_icmp .le 6, 3) := by decide +kernel
theorem dX9_lay_35 : decode cX9_lay 35 = .ok (.bipush (-2), 2) := by decide +kernel
theorem dX9_lay_37 : decode cX9_lay 37 = .ok (.ireturn, 1) := by decide +kernel
theorem dX9_lay_38 : decode cX9_lay 38 = .ok (.aload_n 0, 1) := by decide +kernel
theorem dX9_lay_39 : decode cX9_lay 39 = .ok (.getfield 47, 3) := by decide +kernel
theorem dX9_lay_42 : decode cX9_lay 42 = .ok (.iload_n 2, 1) := by decide +kernel
theorem dX9_lay_43 : decode cX9_lay 43 = .ok (.aaload, 1) := by decide +kernel
theorem dX9_lay_44 : decode cX9_lay 44 = .ok (.astore 6, 2) := by decide +kernel
theorem dX9_lay_46 : decode cX9_lay 46 = .ok (.aload 6, 2) := by decide +kernel
theorem dX9_lay_48 : decode cX9_lay 48 = .ok (.invokevirtual 261, 3) := by decide +kernel
theorem dX9_lay_51 : decode cX9_lay 51 = .ok (.iconst (-1), 1) := by decide +kernel
theorem dX9_lay_52 : decode cX9_lay 52 = .ok (.if_icmp .eq 15, 3) := by decide +kernel
theorem dX9_lay_55 : decode cX9_lay 55 = .ok (.aload 6, 2) := by decide +kernel
theorem dX9_lay_57 : decode cX9_lay 57 = .ok (.invokevirtual 261, 3) := by decide +kernel
theorem dX9_lay_60 : decode cX9_lay 60 = .ok (.iload_n 3, 1) := by decide +kernel
theorem dX9_lay_61 : decode cX9_lay 61 = .ok (.if_icmp .eq 6, 3) := by decide +kernel
theorem dX9_lay_64 : decode cX9_lay 64 = .ok (.bipush (-13), 2) := by decide +kernel
theorem dX9_lay_66 : decode cX9_lay 66 = .ok (.ireturn, 1) := by decide +kernel
theorem dX9_lay_67 : decode cX9_lay 67 = .ok (.aload 6, 2) := by decide +kernel
theorem dX9_lay_69 : decode cX9_lay 69 = .ok (.invokevirtual 261, 3) := by decide +kernel
theorem dX9_lay_72 : decode cX9_lay 72 = .ok (.iconst (-1), 1) := by decide +kernel
theorem dX9_lay_73 : decode cX9_lay 73 = .ok (.if_icmp .ne 6, 3) := by decide +kernel
theorem dX9_lay_76 : decode cX9_lay 76 = .ok (.bipush (-11), 2) := by decide +kernel
theorem dX9_lay_78 : decode cX9_lay 78 = .ok (.ireturn, 1) := by decide +kernel
theorem dX9_lay_79 : decode cX9_lay 79 = .ok (.iload 5, 2) := by decide +kernel
theorem dX9_lay_81 : decode cX9_lay 81 = .ok (.ifCond .le 24, 3) := by decide +kernel
theorem dX9_lay_84 : decode cX9_lay 84 = .ok (.iload 4, 2) := by decide +kernel
theorem dX9_lay_86 : decode cX9_lay 86 = .ok (.ifCond .lt 16, 3) := by decide +kernel
theorem dX9_lay_89 : decode cX9_lay 89 = .ok (.iload 4, 2) := by decide +kernel
theorem dX9_lay_91 : decode cX9_lay 91 = .ok (.aload 6, 2) := by decide +kernel
theorem dX9_lay_93 : decode cX9_lay 93 = .ok (.invokevirtual 264, 3) := by decide +kernel
theorem dX9_lay_96 : decode cX9_lay 96 = .ok (.iload 5, 2) := by decide +kernel
theorem dX9_lay_98 : decode cX9_lay 98 = .ok (.isub, 1) := by decide +kernel
theorem dX9_lay_99 : decode cX9_lay 99 = .ok (.if_icmp .le 6, 3) := by decide +kernel
theorem dX9_lay_102 : decode cX9_lay 102 = .ok (.bipush (-12), 2) := by decide +kernel
theorem dX9_lay_104 : decode cX9_lay 104 = .ok (.ireturn, 1) := by decide +kernel
theorem dX9_lay_105 : decode cX9_lay 105 = .ok (.aload_n 0, 1) := by decide +kernel
theorem dX9_lay_106 : decode cX9_lay 106 = .ok (.getfield 18, 3) := by decide +kernel
theorem dX9_lay_109 : decode cX9_lay 109 = .ok (.invokevirtual 131, 3) := by decide +kernel
theorem dX9_lay_112 : decode cX9_lay 112 = .ok (.iconst 0, 1) := by decide +kernel
theorem dX9_lay_113 : decode cX9_lay 113 = .ok (.istore 7, 2) := by decide +kernel
theorem dX9_lay_115 : decode cX9_lay 115 = .ok (.iload 7, 2) := by decide +kernel
theorem dX9_lay_117 : decode cX9_lay 117 = .ok (.iload 5, 2) := by decide +kernel
theorem dX9_lay_119 : decode cX9_lay 119 = .ok (.if_icmp .ge 36, 3) := by decide +kernel
theorem dX9_lay_122 : decode cX9_lay 122 = .ok (.aload_n 0, 1) := by decide +kernel
theorem dX9_lay_123 : decode cX9_lay 123 = .ok (.getfield 18, 3) := by decide +kernel
theorem dX9_lay_126 : decode cX9_lay 126 = .ok (.iload 7, 2) := by decide +kernel
theorem dX9_lay_128 : decode cX9_lay 128 = .ok (.aload_n 0, 1) := by decide +kernel
theorem dX9_lay_129 : decode cX9_lay 129 = .ok (.getfield 54, 3) := by decide +kernel
theorem dX9_lay_132 : decode cX9_lay 132 = .ok (.aload 6, 2) := by decide +kernel
theorem dX9_lay_134 : decode cX9_lay 134 = .ok (.iload 4, 2) := by decide +kernel
theorem dX9_lay_136 : decode cX9_lay 136 = .ok (.iload 7, 2) := by decide +kernel
theorem dX9_lay_138 : decode cX9_lay 138 = .ok (.iadd, 1) := by decide +kernel
theorem dX9_lay_139 : decode cX9_lay 139 = .ok (.invokevirtual 267, 3) := by decide +kernel
theorem dX9_lay_142 : decode cX9_lay 142 = .ok (.i2l, 1) := by decide +kernel
theorem dX9_lay_143 : decode cX9_lay 143 = .ok (.invokevirtual 119, 3) := by decide +kernel
theorem dX9_lay_146 : decode cX9_lay 146 = .ok (.invokevirtual 123, 3) := by decide +kernel
theorem dX9_lay_149 : decode cX9_lay 149 = .ok (.iinc 7 1, 3) := by decide +kernel
theorem dX9_lay_152 : decode cX9_lay 152 = .ok (.goto (-37), 3) := by decide +kernel
theorem dX9_lay_155 : decode cX9_lay 155 = .ok (.aload_n 0, 1) := by decide +kernel
theorem dX9_lay_156 : decode cX9_lay 156 = .ok (.iload_n 1, 1) := by decide +kernel
theorem dX9_lay_157 : decode cX9_lay 157 = .ok (.aload_n 0, 1) := by decide +kernel
theorem dX9_lay_158 : decode cX9_lay 158 = .ok (.getfield 18, 3) := by decide +kernel
theorem dX9_lay_161 : decode cX9_lay 161 = .ok (.invokevirtual 144, 3) := by decide +kernel
theorem dX9_lay_164 : decode cX9_lay 164 = .ok (.ireturn, 1) := by decide +kernel
theorem dX9_taken_0 : decode cX9_taken 0 = .ok (.iload_n 2, 1) := by decide +kernel
theorem dX9_taken_1 : decode cX9_taken 1 = .ok (.bipush 6, 2) := by decide +kernel
theorem dX9_taken_3 : decode cX9_taken 3 = .ok (.invokestatic 111, 3) := by decide +kernel
theorem dX9_taken_6 : decode cX9_taken 6 = .ok (.ifCond .ne 6, 3) := by decide +kernel
theorem dX9_taken_9 : decode cX9_taken 9 = .ok (.bipush (-2), 2) := by decide +kernel
theorem dX9_taken_11 : decode cX9_taken 11 = .ok (.ireturn, 1) := by decide +kernel
theorem dX9_taken_12 : decode cX9_taken 12 = .ok (.aload_n 0, 1) := by decide +kernel
theorem dX9_taken_13 : decode cX9_taken 13 = .ok (.iload_n 1, 1) := by decide +kernel
theorem dX9_taken_14 : decode cX9_taken 14 = .ok (.invokevirtual 153, 3) := by decide +kernel
theorem dX9_taken_17 : decode cX9_taken 17 = .ok (.ifCond .ne 6, 3) := by decide +kernel
theorem dX9_taken_20 : decode cX9_taken 20 = .ok (.bipush (-11), 2) := by decide +kernel
theorem dX9_taken_22 : decode cX9_taken 22 = .ok (.ireturn, 1) := by decide +kernel
theorem dX9_taken_23 : decode cX9_taken 23 = .ok (.aload_n 0, 1) := by decide +kernel
theorem dX9_taken_24 : decode cX9_taken 24 = .ok (.getfield 24, 3) := by decide +kernel
theorem dX9_taken_27 : decode cX9_taken 27 = .ok (.iload_n 1, 1) := by decide +kernel
theorem dX9_taken_28 : decode cX9_taken 28 = .ok (.aaload, 1) := by decide +kernel
theorem dX9_taken_29 : decode cX9_taken 29 = .ok (.iload_n 2, 1) := by decide +kernel
theorem dX9_taken_30 : decode cX9_taken 30 = .ok (.invokevirtual 270, 3) := by decide +kernel
theorem dX9_taken_33 : decode cX9_taken 33 = .ok (.ifCond .eq 15, 3) := by decide +kernel
theorem dX9_taken_36 : decode cX9_taken 36 = .ok (.aload_n 0, 1) := by decide +kernel
theorem dX9_taken_37 : decode cX9_taken 37 = .ok (.getfield 24, 3) := by decide +kernel
theorem dX9_taken_40 : decode cX9_taken 40 = .ok (.iload_n 1, 1) := by decide +kernel
theorem dX9_taken_41 : decode cX9_taken 41 = .ok (.aaload, 1) := by decide +kernel
theorem dX9_taken_42 : decode cX9_taken 42 = .ok (.invokevirtual 273, 3) := by decide +kernel
theorem dX9_taken_45 : decode cX9_taken 45 = .ok (.goto 5, 3) := by decide +kernel
theorem dX9_taken_48 : decode cX9_taken 48 = .ok (.bipush (-13), 2) := by decide +kernel
theorem dX9_taken_50 : decode cX9_taken 50 = .ok (.ireturn, 1) := by decide +kernel
theorem dX9_isWithin_0 : decode cX9_isWithin 0 = .ok (.iload_n 0, 1) := by decide +kernel
theorem dX9_isWithin_1 : decode cX9_isWithin 1 = .ok (.ifCond .lt 12, 3) := by decide +kernel
theorem dX9_isWithin_4 : decode cX9_isWithin 4 = .ok (.iload_n 0, 1) := by decide +kernel
theorem dX9_isWithin_5 : decode cX9_isWithin 5 = .ok (.iload_n 1, 1) := by decide +kernel
theorem dX9_isWithin_6 : decode cX9_isWithin 6 = .ok (.if_icmp .ge 7, 3) := by decide +kernel
theorem dX9_isWithin_9 : decode cX9_isWithin 9 = .ok (.iconst 1, 1) := by decide +kernel
theorem dX9_isWithin_10 : decode cX9_isWithin 10 = .ok (.goto 4, 3) := by decide +kernel
theorem dX9_isWithin_13 : decode cX9_isWithin 13 = .ok (.iconst 0, 1) := by decide +kernel
theorem dX9_isWithin_14 : decode cX9_isWithin 14 = .ok (.ireturn, 1) := by decide +kernel
theorem dX9_isPoly_0 : decode cX9_isPoly 0 = .ok (.iload_n 0, 1) := by decide +kernel
theorem dX9_isPoly_1 : decode cX9_isPoly 1 = .ok (.bipush 8, 2) := by decide +kernel
theorem dX9_isPoly_3 : decode cX9_isPoly 3 = .ok (.invokestatic 111, 3) := by decide +kernel
theorem dX9_isPoly_6 : decode cX9_isPoly 6 = .ok (.ireturn, 1) := by decide +kernel
theorem dX9_arePolys_0 : decode cX9_arePolys 0 = .ok (.iload_n 0, 1) := by decide +kernel
theorem dX9_arePolys_1 : decode cX9_arePolys 1 = .ok (.invokestatic 107, 3) := by decide +kernel
theorem dX9_arePolys_4 : decode cX9_arePolys 4 = .ok (.ifCond .eq 21, 3) := by decide +kernel
theorem dX9_arePolys_7 : decode cX9_arePolys 7 = .ok (.iload_n 1, 1) := by decide +kernel
theorem dX9_arePolys_8 : decode cX9_arePolys 8 = .ok (.invokestatic 107, 3) := by decide +kernel
theorem dX9_arePolys_11 : decode cX9_arePolys 11 = .ok (.ifCond .eq 14, 3) := by decide +kernel
theorem dX9_arePolys_14 : decode cX9_arePolys 14 = .ok (.iload_n 2, 1) := by decide +kernel
theorem dX9_arePolys_15 : decode cX9_arePolys 15 = .ok (.invokestatic 107, 3) := by decide +kernel
theorem dX9_arePolys_18 : decode cX9_arePolys 18 = .ok (.ifCond .eq 7, 3) := by decide +kernel
theorem dX9_arePolys_21 : decode cX9_arePolys 21 = .ok (.iconst 1, 1) := by decide +kernel
theorem dX9_arePolys_22 : decode cX9_arePolys 22 = .ok (.goto 4, 3) := by decide +kernel
theorem dX9_arePolys_25 : decode cX9_arePolys 25 = .ok (.iconst 0, 1) := by decide +kernel
theorem dX9_arePolys_26 : decode cX9_arePolys 26 = .ok (.ireturn, 1) := by decide +kernel
theorem dX9_isWay_0 : decode cX9_isWay 0 = .ok (.iload_n 1, 1) := by decide +kernel
theorem dX9_isWay_1 : decode cX9_isWay 1 = .ok (.aload_n 0, 1) := by decide +kernel
theorem dX9_isWay_2 : decode cX9_isWay 2 = .ok (.getfield 148, 3) := by decide +kernel
theorem dX9_isWay_5 : decode cX9_isWay 5 = .ok (.invokestatic 111, 3) := by decide +kernel
theorem dX9_isWay_8 : decode cX9_isWay 8 = .ok (.ifCond .eq 16, 3) := by decide +kernel
theorem dX9_isWay_11 : decode cX9_isWay 11 = .ok (.aload_n 0, 1) := by decide +kernel
theorem dX9_isWay_12 : decode cX9_isWay 12 = .ok (.getfield 24, 3) := by decide +kernel
theorem dX9_isWay_15 : decode cX9_isWay 15 = .ok (.iload_n 1, 1) := by decide +kernel
theorem dX9_isWay_16 : decode cX9_isWay 16 = .ok (.aaload, 1) := by decide +kernel
theorem dX9_isWay_17 : decode cX9_isWay 17 = .ok (.ifnull 7, 3) := by decide +kernel
theorem dX9_isWay_20 : decode cX9_isWay 20 = .ok (.iconst 1, 1) := by decide +kernel
theorem dX9_isWay_21 : decode cX9_isWay 21 = .ok (.goto 4, 3) := by decide +kernel
theorem dX9_isWay_24 : decode cX9_isWay 24 = .ok (.iconst 0, 1) := by decide +kernel
theorem dX9_isWay_25 : decode cX9_isWay 25 = .ok (.ireturn, 1) := by decide +kernel
theorem dX9_isPlace_0 : decode cX9_isPlace 0 = .ok (.iload_n 1, 1) := by decide +kernel
theorem dX9_isPlace_1 : decode cX9_isPlace 1 = .ok (.aload_n 0, 1) := by decide +kernel
theorem dX9_isPlace_2 : decode cX9_isPlace 2 = .ok (.getfield 72, 3) := by decide +kernel
theorem dX9_isPlace_5 : decode cX9_isPlace 5 = .ok (.invokevirtual 207, 3) := by decide +kernel
theorem dX9_isPlace_8 : decode cX9_isPlace 8 = .ok (.invokestatic 111, 3) := by decide +kernel
theorem dX9_isPlace_11 : decode cX9_isPlace 11 = .ok (.ireturn, 1) := by decide +kernel
theorem dX9_become_0 : decode cX9_become 0 = .ok (.aload_n 0, 1) := by decide +kernel
theorem dX9_become_1 : decode cX9_become 1 = .ok (.getfield 11, 3) := by decide +kernel
theorem dX9_become_4 : decode cX9_become 4 = .ok (.iload_n 1, 1) := by decide +kernel
theorem dX9_become_5 : decode cX9_become 5 = .ok (.aaload, 1) := by decide +kernel
theorem dX9_become_6 : decode cX9_become 6 = .ok (.aload_n 2, 1) := by decide +kernel
theorem dX9_become_7 : decode cX9_become 7 = .ok (.invokevirtual 136, 3) := by decide +kernel
theorem dX9_become_10 : decode cX9_become 10 = .ok (.aload_n 0, 1) := by decide +kernel
theorem dX9_become_11 : decode cX9_become 11 = .ok (.getfield 11, 3) := by decide +kernel
theorem dX9_become_14 : decode cX9_become 14 = .ok (.iload_n 1, 1) := by decide +kernel
theorem dX9_become_15 : decode cX9_become 15 = .ok (.aaload, 1) := by decide +kernel
theorem dX9_become_16 : decode cX9_become 16 = .ok (.invokevirtual 127, 3) := by decide +kernel
theorem dX9_become_19 : decode cX9_become 19 = .ok (.ireturn, 1) := by decide +kernel
theorem dX9_countFor_0 : decode cX9_countFor 0 = .ok (.aload_n 0, 1) := by decide +kernel
theorem dX9_countFor_1 : decode cX9_countFor 1 = .ok (.getfield 24, 3) := by decide +kernel
theorem dX9_countFor_4 : decode cX9_countFor 4 = .ok (.iload_n 3, 1) := by decide +kernel
theorem dX9_countFor_5 : decode cX9_countFor 5 = .ok (.aaload, 1) := by decide +kernel
theorem dX9_countFor_6 : decode cX9_countFor 6 = .ok (.aload_n 0, 1) := by decide +kernel
theorem dX9_countFor_7 : decode cX9_countFor 7 = .ok (.getfield 11, 3) := by decide +kernel
theorem dX9_countFor_10 : decode cX9_countFor 10 = .ok (.iload_n 1, 1) := by decide +kernel
theorem dX9_countFor_11 : decode cX9_countFor 11 = .ok (.aaload, 1) := by decide +kernel
theorem dX9_countFor_12 : decode cX9_countFor 12 = .ok (.invokevirtual 127, 3) := by decide +kernel
theorem dX9_countFor_15 : decode cX9_countFor 15 = .ok (.aload_n 0, 1) := by decide +kernel
theorem dX9_countFor_16 : decode cX9_countFor 16 = .ok (.getfield 11, 3) := by decide +kernel
theorem dX9_countFor_19 : decode cX9_countFor 19 = .ok (.iload_n 2, 1) := by decide +kernel
theorem dX9_countFor_20 : decode cX9_countFor 20 = .ok (.aaload, 1) := by decide +kernel
theorem dX9_countFor_21 : decode cX9_countFor 21 = .ok (.invokevirtual 127, 3) := by decide +kernel
theorem dX9_countFor_24 : decode cX9_countFor 24 = .ok (.aload_n 0, 1) := by decide +kernel
theorem dX9_countFor_25 : decode cX9_countFor 25 = .ok (.getfield 11, 3) := by decide +kernel
theorem dX9_countFor_28 : decode cX9_countFor 28 = .ok (.iload_n 1, 1) := by decide +kernel
theorem dX9_countFor_29 : decode cX9_countFor 29 = .ok (.aaload, 1) := by decide +kernel
theorem dX9_countFor_30 : decode cX9_countFor 30 = .ok (.aload_n 0, 1) := by decide +kernel
theorem dX9_countFor_31 : decode cX9_countFor 31 = .ok (.getfield 11, 3) := by decide +kernel
theorem dX9_countFor_34 : decode cX9_countFor 34 = .ok (.iload_n 2, 1) := by decide +kernel
theorem dX9_countFor_35 : decode cX9_countFor 35 = .ok (.aaload, 1) := by decide +kernel
theorem dX9_countFor_36 : decode cX9_countFor 36 = .ok (.invokevirtual 276, 3) := by decide +kernel
theorem dX9_countFor_39 : decode cX9_countFor 39 = .ok (.invokevirtual 280, 3) := by decide +kernel
theorem dX9_countFor_42 : decode cX9_countFor 42 = .ok (.ireturn, 1) := by decide +kernel
theorem dX9_multiply_0 : decode cX9_multiply 0 = .ok (.aload_n 0, 1) := by decide +kernel
theorem dX9_multiply_1 : decode cX9_multiply 1 = .ok (.iload_n 2, 1) := by decide +kernel
theorem dX9_multiply_2 : decode cX9_multiply 2 = .ok (.iload_n 3, 1) := by decide +kernel
theorem dX9_multiply_3 : decode cX9_multiply 3 = .ok (.iload 4, 2) := by decide +kernel
theorem dX9_multiply_5 : decode cX9_multiply 5 = .ok (.invokevirtual 160, 3) := by decide +kernel
theorem dX9_multiply_8 : decode cX9_multiply 8 = .ok (.istore 5, 2) := by decide +kernel
theorem dX9_multiply_10 : decode cX9_multiply 10 = .ok (.iload 5, 2) := by decide +kernel
theorem dX9_multiply_12 : decode cX9_multiply 12 = .ok (.bipush (-4), 2) := by decide +kernel
theorem dX9_multiply_14 : decode cX9_multiply 14 = .ok (.if_icmp .eq 29, 3) := by decide +kernel
theorem dX9_multiply_17 : decode cX9_multiply 17 = .ok (.aload_n 0, 1) := by decide +kernel
theorem dX9_multiply_18 : decode cX9_multiply 18 = .ok (.getfield 11, 3) := by decide +kernel
theorem dX9_multiply_21 : decode cX9_multiply 21 = .ok (.iload_n 2, 1) := by decide +kernel
theorem dX9_multiply_22 : decode cX9_multiply 22 = .ok (.aaload, 1) := by decide +kernel
theorem dX9_multiply_23 : decode cX9_multiply 23 = .ok (.invokevirtual 127, 3) := by decide +kernel
theorem dX9_multiply_26 : decode cX9_multiply 26 = .ok (.aload_n 0, 1) := by decide +kernel
theorem dX9_multiply_27 : decode cX9_multiply 27 = .ok (.getfield 11, 3) := by decide +kernel
theorem dX9_multiply_30 : decode cX9_multiply 30 = .ok (.iload_n 3, 1) := by decide +kernel
theorem dX9_multiply_31 : decode cX9_multiply 31 = .ok (.aaload, 1) := by decide +kernel
theorem dX9_multiply_32 : decode cX9_multiply 32 = .ok (.invokevirtual 127, 3) := by decide +kernel
theorem dX9_multiply_35 : decode cX9_multiply 35 = .ok (.iadd, 1) := by decide +kernel
theorem dX9_multiply_36 : decode cX9_multiply 36 = .ok (.iconst 1, 1) := by decide +kernel
theorem dX9_multiply_37 : decode cX9_multiply 37 = .ok (.isub, 1) := by decide +kernel
theorem dX9_multiply_38 : decode cX9_multiply 38 = .ok (.bipush 32, 2) := by decide +kernel
theorem dX9_multiply_40 : decode cX9_multiply 40 = .ok (.if_icmp .le 6, 3) := by decide +kernel
theorem dX9_multiply_43 : decode cX9_multiply 43 = .ok (.bipush (-4), 2) := by decide +kernel
theorem dX9_multiply_45 : decode cX9_multiply 45 = .ok (.ireturn, 1) := by decide +kernel
theorem dX9_multiply_46 : decode cX9_multiply 46 = .ok (.aload_n 0, 1) := by decide +kernel
theorem dX9_multiply_47 : decode cX9_multiply 47 = .ok (.iload_n 1, 1) := by decide +kernel
theorem dX9_multiply_48 : decode cX9_multiply 48 = .ok (.aload_n 0, 1) := by decide +kernel
theorem dX9_multiply_49 : decode cX9_multiply 49 = .ok (.getfield 63, 3) := by decide +kernel
theorem dX9_multiply_52 : decode cX9_multiply 52 = .ok (.aload_n 0, 1) := by decide +kernel
theorem dX9_multiply_53 : decode cX9_multiply 53 = .ok (.getfield 11, 3) := by decide +kernel
theorem dX9_multiply_56 : decode cX9_multiply 56 = .ok (.iload_n 2, 1) := by decide +kernel
theorem dX9_multiply_57 : decode cX9_multiply 57 = .ok (.aaload, 1) := by decide +kernel
theorem dX9_multiply_58 : decode cX9_multiply 58 = .ok (.aload_n 0, 1) := by decide +kernel
theorem dX9_multiply_59 : decode cX9_multiply 59 = .ok (.getfield 11, 3) := by decide +kernel
theorem dX9_multiply_62 : decode cX9_multiply 62 = .ok (.iload_n 3, 1) := by decide +kernel
theorem dX9_multiply_63 : decode cX9_multiply 63 = .ok (.aaload, 1) := by decide +kernel
theorem dX9_multiply_64 : decode cX9_multiply 64 = .ok (.invokevirtual 284, 3) := by decide +kernel
theorem dX9_multiply_67 : decode cX9_multiply 67 = .ok (.invokevirtual 144, 3) := by decide +kernel
theorem dX9_multiply_70 : decode cX9_multiply 70 = .ok (.pop, 1) := by decide +kernel
theorem dX9_multiply_71 : decode cX9_multiply 71 = .ok (.aload_n 0, 1) := by decide +kernel
theorem dX9_multiply_72 : decode cX9_multiply 72 = .ok (.dup, 1) := by decide +kernel
theorem dX9_multiply_73 : decode cX9_multiply 73 = .ok (.getfield 254, 3) := by decide +kernel
theorem dX9_multiply_76 : decode cX9_multiply 76 = .ok (.iload 5, 2) := by decide +kernel
theorem dX9_multiply_78 : decode cX9_multiply 78 = .ok (.i2l, 1) := by decide +kernel
theorem dX9_multiply_79 : decode cX9_multiply 79 = .ok (.ladd, 1) := by decide +kernel
theorem dX9_multiply_80 : decode cX9_multiply 80 = .ok (.putfield 254, 3) := by decide +kernel
theorem dX9_multiply_83 : decode cX9_multiply 83 = .ok (.iload 5, 2) := by decide +kernel
theorem dX9_multiply_85 : decode cX9_multiply 85 = .ok (.ireturn, 1) := by decide +kernel
theorem dX9_ruleFor_0 : decode cX9_ruleFor 0 = .ok (.aload_n 0, 1) := by decide +kernel
theorem dX9_ruleFor_1 : decode cX9_ruleFor 1 = .ok (.getfield 11, 3) := by decide +kernel
theorem dX9_ruleFor_4 : decode cX9_ruleFor 4 = .ok (.iload_n 1, 1) := by decide +kernel
theorem dX9_ruleFor_5 : decode cX9_ruleFor 5 = .ok (.aaload, 1) := by decide +kernel
theorem dX9_ruleFor_6 : decode cX9_ruleFor 6 = .ok (.invokevirtual 127, 3) := by decide +kernel
theorem dX9_ruleFor_9 : decode cX9_ruleFor 9 = .ok (.istore 4, 2) := by decide +kernel
theorem dX9_ruleFor_11 : decode cX9_ruleFor 11 = .ok (.aload_n 0, 1) := by decide +kernel
theorem dX9_ruleFor_12 : decode cX9_ruleFor 12 = .ok (.getfield 11, 3) := by decide +kernel
theorem dX9_ruleFor_15 : decode cX9_ruleFor 15 = .ok (.iload_n 2, 1) := by decide +kernel
theorem dX9_ruleFor_16 : decode cX9_ruleFor 16 = .ok (.aaload, 1) := by decide +kernel
theorem dX9_ruleFor_17 : decode cX9_ruleFor 17 = .ok (.invokevirtual 127, 3) := by decide +kernel
theorem dX9_ruleFor_20 : decode cX9_ruleFor 20 = .ok (.istore 5, 2) := by decide +kernel
theorem dX9_ruleFor_22 : decode cX9_ruleFor 22 = .ok (.aload_n 0, 1) := by decide +kernel
theorem dX9_ruleFor_23 : decode cX9_ruleFor 23 = .ok (.getfield 41, 3) := by decide +kernel
theorem dX9_ruleFor_26 : decode cX9_ruleFor 26 = .ok (.iconst 0, 1) := by decide +kernel
theorem dX9_ruleFor_27 : decode cX9_ruleFor 27 = .ok (.iload 4, 2) := by decide +kernel
theorem dX9_ruleFor_29 : decode cX9_ruleFor 29 = .ok (.iastore, 1) := by decide +kernel
theorem dX9_ruleFor_30 : decode cX9_ruleFor 30 = .ok (.aload_n 0, 1) := by decide +kernel
theorem dX9_ruleFor_31 : decode cX9_ruleFor 31 = .ok (.getfield 41, 3) := by decide +kernel
theorem dX9_ruleFor_34 : decode cX9_ruleFor 34 = .ok (.iconst 1, 1) := by decide +kernel
theorem dX9_ruleFor_35 : decode cX9_ruleFor 35 = .ok (.iload 5, 2) := by decide +kernel
theorem dX9_ruleFor_37 : decode cX9_ruleFor 37 = .ok (.iastore, 1) := by decide +kernel
theorem dX9_ruleFor_38 : decode cX9_ruleFor 38 = .ok (.aload_n 0, 1) := by decide +kernel
theorem dX9_ruleFor_39 : decode cX9_ruleFor 39 = .ok (.getfield 41, 3) := by decide +kernel
theorem dX9_ruleFor_42 : decode cX9_ruleFor 42 = .ok (.iconst 2, 1) := by decide +kernel
theorem dX9_ruleFor_43 : decode cX9_ruleFor 43 = .ok (.iload 4, 2) := by decide +kernel
theorem dX9_ruleFor_45 : decode cX9_ruleFor 45 = .ok (.iload 5, 2) := by decide +kernel
theorem dX9_ruleFor_47 : decode cX9_ruleFor 47 = .ok (.invokestatic 287, 3) := by decide +kernel
theorem dX9_ruleFor_50 : decode cX9_ruleFor 50 = .ok (.iastore, 1) := by decide +kernel
theorem dX9_ruleFor_51 : decode cX9_ruleFor 51 = .ok (.aload_n 0, 1) := by decide +kernel
theorem dX9_ruleFor_52 : decode cX9_ruleFor 52 = .ok (.getfield 41, 3) := by decide +kernel
theorem dX9_ruleFor_55 : decode cX9_ruleFor 55 = .ok (.iconst 3, 1) := by decide +kernel
theorem dX9_ruleFor_56 : decode cX9_ruleFor 56 = .ok (.aload_n 0, 1) := by decide +kernel
theorem dX9_ruleFor_57 : decode cX9_ruleFor 57 = .ok (.getfield 24, 3) := by decide +kernel
theorem dX9_ruleFor_60 : decode cX9_ruleFor 60 = .ok (.iload_n 3, 1) := by decide +kernel
theorem dX9_ruleFor_61 : decode cX9_ruleFor 61 = .ok (.aaload, 1) := by decide +kernel
theorem dX9_ruleFor_62 : decode cX9_ruleFor 62 = .ok (.invokevirtual 273, 3) := by decide +kernel
theorem dX9_ruleFor_65 : decode cX9_ruleFor 65 = .ok (.iastore, 1) := by decide +kernel
theorem dX9_ruleFor_66 : decode cX9_ruleFor 66 = .ok (.aload_n 0, 1) := by decide +kernel
theorem dX9_ruleFor_67 : decode cX9_ruleFor 67 = .ok (.getfield 41, 3) := by decide +kernel
theorem dX9_ruleFor_70 : decode cX9_ruleFor 70 = .ok (.iconst 4, 1) := by decide +kernel
theorem dX9_ruleFor_71 : decode cX9_ruleFor 71 = .ok (.aload_n 0, 1) := by decide +kernel
theorem dX9_ruleFor_72 : decode cX9_ruleFor 72 = .ok (.getfield 24, 3) := by decide +kernel
theorem dX9_ruleFor_75 : decode cX9_ruleFor 75 = .ok (.iload_n 3, 1) := by decide +kernel
theorem dX9_ruleFor_76 : decode cX9_ruleFor 76 = .ok (.aaload, 1) := by decide +kernel
theorem dX9_ruleFor_77 : decode cX9_ruleFor 77 = .ok (.invokevirtual 292, 3) := by decide +kernel
theorem dX9_ruleFor_80 : decode cX9_ruleFor 80 = .ok (.iastore, 1) := by decide +kernel
theorem dX9_ruleFor_81 : decode cX9_ruleFor 81 = .ok (.aload_n 0, 1) := by decide +kernel
theorem dX9_ruleFor_82 : decode cX9_ruleFor 82 = .ok (.getfield 41, 3) := by decide +kernel
theorem dX9_ruleFor_85 : decode cX9_ruleFor 85 = .ok (.iconst 5, 1) := by decide +kernel
theorem dX9_ruleFor_86 : decode cX9_ruleFor 86 = .ok (.aload_n 0, 1) := by decide +kernel
theorem dX9_ruleFor_87 : decode cX9_ruleFor 87 = .ok (.getfield 11, 3) := by decide +kernel
theorem dX9_ruleFor_90 : decode cX9_ruleFor 90 = .ok (.iload_n 1, 1) := by decide +kernel
theorem dX9_ruleFor_91 : decode cX9_ruleFor 91 = .ok (.aaload, 1) := by decide +kernel
theorem dX9_ruleFor_92 : decode cX9_ruleFor 92 = .ok (.aload_n 0, 1) := by decide +kernel
theorem dX9_ruleFor_93 : decode cX9_ruleFor 93 = .ok (.getfield 11, 3) := by decide +kernel
theorem dX9_ruleFor_96 : decode cX9_ruleFor 96 = .ok (.iload_n 2, 1) := by decide +kernel
theorem dX9_ruleFor_97 : decode cX9_ruleFor 97 = .ok (.aaload, 1) := by decide +kernel
theorem dX9_ruleFor_98 : decode cX9_ruleFor 98 = .ok (.invokevirtual 276, 3) := by decide +kernel
theorem dX9_ruleFor_101 : decode cX9_ruleFor 101 = .ok (.ifCond .eq 7, 3) := by decide +kernel
theorem dX9_ruleFor_104 : decode cX9_ruleFor 104 = .ok (.iconst 1, 1) := by decide +kernel
theorem dX9_ruleFor_105 : decode cX9_ruleFor 105 = .ok (.goto 4, 3) := by decide +kernel
theorem dX9_ruleFor_108 : decode cX9_ruleFor 108 = .ok (.iconst 0, 1) := by decide +kernel
theorem dX9_ruleFor_109 : decode cX9_ruleFor 109 = .ok (.iastore, 1) := by decide +kernel
theorem dX9_ruleFor_110 : decode cX9_ruleFor 110 = .ok (.aload_n 0, 1) := by decide +kernel
theorem dX9_ruleFor_111 : decode cX9_ruleFor 111 = .ok (.getfield 37, 3) := by decide +kernel
theorem dX9_ruleFor_114 : decode cX9_ruleFor 114 = .ok (.aload_n 0, 1) := by decide +kernel
theorem dX9_ruleFor_115 : decode cX9_ruleFor 115 = .ok (.getfield 175, 3) := by decide +kernel
theorem dX9_ruleFor_118 : decode cX9_ruleFor 118 = .ok (.aaload, 1) := by decide +kernel
theorem dX9_ruleFor_119 : decode cX9_ruleFor 119 = .ok (.aload_n 0, 1) := by decide +kernel
theorem dX9_ruleFor_120 : decode cX9_ruleFor 120 = .ok (.getfield 24, 3) := by decide +kernel
theorem dX9_ruleFor_123 : decode cX9_ruleFor 123 = .ok (.iload_n 3, 1) := by decide +kernel
theorem dX9_ruleFor_124 : decode cX9_ruleFor 124 = .ok (.aaload, 1) := by decide +kernel
theorem dX9_ruleFor_125 : decode cX9_ruleFor 125 = .ok (.invokevirtual 295, 3) := by decide +kernel
theorem dX9_ruleFor_128 : decode cX9_ruleFor 128 = .ok (.aload_n 0, 1) := by decide +kernel
theorem dX9_ruleFor_129 : decode cX9_ruleFor 129 = .ok (.getfield 41, 3) := by decide +kernel
theorem dX9_ruleFor_132 : decode cX9_ruleFor 132 = .ok (.invokevirtual 298, 3) := by decide +kernel
theorem dX9_ruleFor_135 : decode cX9_ruleFor 135 = .ok (.ireturn, 1) := by decide +kernel
theorem dX9_bestWay_0 : decode cX9_bestWay 0 = .ok (.iconst (-1), 1) := by decide +kernel
theorem dX9_bestWay_1 : decode cX9_bestWay 1 = .ok (.istore_n 3, 1) := by decide +kernel
theorem dX9_bestWay_2 : decode cX9_bestWay 2 = .ok (.iconst 0, 1) := by decide +kernel
theorem dX9_bestWay_3 : decode cX9_bestWay 3 = .ok (.istore 4, 2) := by decide +kernel
theorem dX9_bestWay_5 : decode cX9_bestWay 5 = .ok (.iconst 0, 1) := by decide +kernel
theorem dX9_bestWay_6 : decode cX9_bestWay 6 = .ok (.istore 5, 2) := by decide +kernel
theorem dX9_bestWay_8 : decode cX9_bestWay 8 = .ok (.iload 5, 2) := by decide +kernel
theorem dX9_bestWay_10 : decode cX9_bestWay 10 = .ok (.aload_n 0, 1) := by decide +kernel
theorem dX9_bestWay_11 : decode cX9_bestWay 11 = .ok (.getfield 148, 3) := by decide +kernel
theorem dX9_bestWay_14 : decode cX9_bestWay 14 = .ok (.if_icmp .ge 54, 3) := by decide +kernel
theorem dX9_bestWay_17 : decode cX9_bestWay 17 = .ok (.aload_n 0, 1) := by decide +kernel
theorem dX9_bestWay_18 : decode cX9_bestWay 18 = .ok (.iload_n 1, 1) := by decide +kernel
theorem dX9_bestWay_19 : decode cX9_bestWay 19 = .ok (.iload_n 2, 1) := by decide +kernel
theorem dX9_bestWay_20 : decode cX9_bestWay 20 = .ok (.iload 5, 2) := by decide +kernel
theorem dX9_bestWay_22 : decode cX9_bestWay 22 = .ok (.invokevirtual 160, 3) := by decide +kernel
theorem dX9_bestWay_25 : decode cX9_bestWay 25 = .ok (.bipush (-4), 2) := by decide +kernel
theorem dX9_bestWay_27 : decode cX9_bestWay 27 = .ok (.if_icmp .ne 6, 3) := by decide +kernel
theorem dX9_bestWay_30 : decode cX9_bestWay 30 = .ok (.goto 32, 3) := by decide +kernel
theorem dX9_bestWay_33 : decode cX9_bestWay 33 = .ok (.aload_n 0, 1) := by decide +kernel
theorem dX9_bestWay_34 : decode cX9_bestWay 34 = .ok (.iload_n 1, 1) := by decide +kernel
theorem dX9_bestWay_35 : decode cX9_bestWay 35 = .ok (.iload_n 2, 1) := by decide +kernel
theorem dX9_bestWay_36 : decode cX9_bestWay 36 = .ok (.iload 5, 2) := by decide +kernel
theorem dX9_bestWay_38 : decode cX9_bestWay 38 = .ok (.invokevirtual 180, 3) := by decide +kernel
theorem dX9_bestWay_41 : decode cX9_bestWay 41 = .ok (.istore 6, 2) := by decide +kernel
theorem dX9_bestWay_43 : decode cX9_bestWay 43 = .ok (.iload_n 3, 1) := by decide +kernel
theorem dX9_bestWay_44 : decode cX9_bestWay 44 = .ok (.iconst (-1), 1) := by decide +kernel
theorem dX9_bestWay_45 : decode cX9_bestWay 45 = .ok (.if_icmp .eq 10, 3) := by decide +kernel
theorem dX9_bestWay_48 : decode cX9_bestWay 48 = .ok (.iload 6, 2) := by decide +kernel
theorem dX9_bestWay_50 : decode cX9_bestWay 50 = .ok (.iload 4, 2) := by decide +kernel
theorem dX9_bestWay_52 : decode cX9_bestWay 52 = .ok (.if_icmp .ge 10, 3) := by decide +kernel
theorem dX9_bestWay_55 : decode cX9_bestWay 55 = .ok (.iload 5, 2) := by decide +kernel
theorem dX9_bestWay_57 : decode cX9_bestWay 57 = .ok (.istore_n 3, 1) := by decide +kernel
theorem dX9_bestWay_58 : decode cX9_bestWay 58 = .ok (.iload 6, 2) := by decide +kernel
theorem dX9_bestWay_60 : decode cX9_bestWay 60 = .ok (.istore 4, 2) := by decide +kernel
theorem dX9_bestWay_62 : decode cX9_bestWay 62 = .ok (.iinc 5 1, 3) := by decide +kernel
theorem dX9_bestWay_65 : decode cX9_bestWay 65 = .ok (.goto (-57), 3) := by decide +kernel
theorem dX9_bestWay_68 : decode cX9_bestWay 68 = .ok (.iload_n 3, 1) := by decide +kernel
theorem dX9_bestWay_69 : decode cX9_bestWay 69 = .ok (.ireturn, 1) := by decide +kernel
theorem dJ9_floorMod_7cf53_0 : decode cJ9_floorMod_7cf53 0 = .ok (.iload_n 0, 1) := by decide +kernel
theorem dJ9_floorMod_7cf53_1 : decode cJ9_floorMod_7cf53 1 = .ok (.iload_n 1, 1) := by decide +kernel
theorem dJ9_floorMod_7cf53_2 : decode cJ9_floorMod_7cf53 2 = .ok (.irem, 1) := by decide +kernel
theorem dJ9_floorMod_7cf53_3 : decode cJ9_floorMod_7cf53 3 = .ok (.istore_n 2, 1) := by decide +kernel
theorem dJ9_floorMod_7cf53_4 : decode cJ9_floorMod_7cf53 4 = .ok (.iload_n 0, 1) := by decide +kernel
theorem dJ9_floorMod_7cf53_5 : decode cJ9_floorMod_7cf53 5 = .ok (.iload_n 1, 1) := by decide +kernel
theorem dJ9_floorMod_7cf53_6 : decode cJ9_floorMod_7cf53 6 = .ok (.ixor, 1) := by decide +kernel
theorem dJ9_floorMod_7cf53_7 : decode cJ9_floorMod_7cf53 7 = .ok (.ifCond .ge 11, 3) := by decide +kernel
theorem dJ9_floorMod_7cf53_10 : decode cJ9_floorMod_7cf53 10 = .ok (.iload_n 2, 1) := by decide +kernel
theorem dJ9_floorMod_7cf53_11 : decode cJ9_floorMod_7cf53 11 = .ok (.ifCond .eq 7, 3) := by decide +kernel
theorem dJ9_floorMod_7cf53_14 : decode cJ9_floorMod_7cf53 14 = .ok (.iload_n 2, 1) := by decide +kernel
theorem dJ9_floorMod_7cf53_15 : decode cJ9_floorMod_7cf53 15 = .ok (.iload_n 1, 1) := by decide +kernel
theorem dJ9_floorMod_7cf53_16 : decode cJ9_floorMod_7cf53 16 = .ok (.iadd, 1) := by decide +kernel
theorem dJ9_floorMod_7cf53_17 : decode cJ9_floorMod_7cf53 17 = .ok (.ireturn, 1) := by decide +kernel
theorem dJ9_floorMod_7cf53_18 : decode cJ9_floorMod_7cf53 18 = .ok (.iload_n 2, 1) := by decide +kernel
theorem dJ9_floorMod_7cf53_19 : decode cJ9_floorMod_7cf53 19 = .ok (.ireturn, 1) := by decide +kernel
theorem dJ9_max_7cf53_0 : decode cJ9_max_7cf53 0 = .ok (.iload_n 0, 1) := by decide +kernel
theorem dJ9_max_7cf53_1 : decode cJ9_max_7cf53 1 = .ok (.iload_n 1, 1) := by decide +kernel
theorem dJ9_max_7cf53_2 : decode cJ9_max_7cf53 2 = .ok (.if_icmp .lt 7, 3) := by decide +kernel
theorem dJ9_max_7cf53_5 : decode cJ9_max_7cf53 5 = .ok (.iload_n 0, 1) := by decide +kernel
theorem dJ9_max_7cf53_6 : decode cJ9_max_7cf53 6 = .ok (.goto 4, 3) := by decide +kernel
theorem dJ9_max_7cf53_9 : decode cJ9_max_7cf53 9 = .ok (.iload_n 1, 1) := by decide +kernel
theorem dJ9_max_7cf53_10 : decode cJ9_max_7cf53 10 = .ok (.ireturn, 1) := by decide +kernel
theorem dJ9_min_7cf53_0 : decode cJ9_min_7cf53 0 = .ok (.iload_n 0, 1) := by decide +kernel
theorem dJ9_min_7cf53_1 : decode cJ9_min_7cf53 1 = .ok (.iload_n 1, 1) := by decide +kernel
theorem dJ9_min_7cf53_2 : decode cJ9_min_7cf53 2 = .ok (.if_icmp .gt 7, 3) := by decide +kernel
theorem dJ9_min_7cf53_5 : decode cJ9_min_7cf53 5 = .ok (.iload_n 0, 1) := by decide +kernel
theorem dJ9_min_7cf53_6 : decode cJ9_min_7cf53 6 = .ok (.goto 4, 3) := by decide +kernel
theorem dJ9_min_7cf53_9 : decode cJ9_min_7cf53 9 = .ok (.iload_n 1, 1) := by decide +kernel
theorem dJ9_min_7cf53_10 : decode cJ9_min_7cf53 10 = .ok (.ireturn, 1) := by decide +kernel
theorem dJ0_length_8abf5_0 : decode cJ0_length_8abf5 0 = .ok (.aload_n 0, 1) := by decide +kernel
theorem dJ0_length_8abf5_1 : decode cJ0_length_8abf5 1 = .ok (.getfield 9, 3) := by decide +kernel
theorem dJ0_length_8abf5_4 : decode cJ0_length_8abf5 4 = .ok (.arraylength, 1) := by decide +kernel
theorem dJ0_length_8abf5_5 : decode cJ0_length_8abf5 5 = .ok (.aload_n 0, 1) := by decide +kernel
theorem dJ0_length_8abf5_6 : decode cJ0_length_8abf5 6 = .ok (.invokevirtual 335, 3) := by decide +kernel
theorem dJ0_length_8abf5_9 : decode cJ0_length_8abf5 9 = .ok (.ishr, 1) := by decide +kernel
theorem dJ0_length_8abf5_10 : decode cJ0_length_8abf5 10 = .ok (.ireturn, 1) := by decide +kernel
theorem dJ0_charAt_5068e_0 : decode cJ0_charAt_5068e 0 = .ok (.aload_n 0, 1) := by decide +kernel
theorem dJ0_charAt_5068e_1 : decode cJ0_charAt_5068e 1 = .ok (.invokevirtual 492, 3) := by decide +kernel
theorem dJ0_charAt_5068e_4 : decode cJ0_charAt_5068e 4 = .ok (.ifCond .eq 12, 3) := by decide +kernel
theorem dJ0_charAt_5068e_7 : decode cJ0_charAt_5068e 7 = .ok (.aload_n 0, 1) := by decide +kernel
theorem dJ0_charAt_5068e_8 : decode cJ0_charAt_5068e 8 = .ok (.getfield 9, 3) := by decide +kernel
theorem dJ0_charAt_5068e_11 : decode cJ0_charAt_5068e 11 = .ok (.iload_n 1, 1) := by decide +kernel
theorem dJ0_charAt_5068e_12 : decode cJ0_charAt_5068e 12 = .ok (.invokestatic 495, 3) := by decide +kernel
theorem dJ0_charAt_5068e_15 : decode cJ0_charAt_5068e 15 = .ok (.ireturn, 1) := by decide +kernel
theorem dJ0_charAt_5068e_16 : decode cJ0_charAt_5068e 16 = .ok (.aload_n 0, 1) := by decide +kernel
theorem dJ0_charAt_5068e_17 : decode cJ0_charAt_5068e 17 = .ok (.getfield 9, 3) := by decide +kernel
theorem dJ0_charAt_5068e_20 : decode cJ0_charAt_5068e 20 = .ok (.iload_n 1, 1) := by decide +kernel
theorem dJ0_charAt_5068e_21 : decode cJ0_charAt_5068e 21 = .ok (.invokestatic 498, 3) := by decide +kernel
theorem dJ0_charAt_5068e_24 : decode cJ0_charAt_5068e 24 = .ok (.ireturn, 1) := by decide +kernel
theorem dJ0_coder_7d493_0 : decode cJ0_coder_7d493 0 = .ok (.getstatic 38, 3) := by decide +kernel
theorem dJ0_coder_7d493_3 : decode cJ0_coder_7d493 3 = .ok (.ifCond .eq 10, 3) := by decide +kernel
theorem dJ0_coder_7d493_6 : decode cJ0_coder_7d493 6 = .ok (.aload_n 0, 1) := by decide +kernel
theorem dJ0_coder_7d493_7 : decode cJ0_coder_7d493 7 = .ok (.getfield 15, 3) := by decide +kernel
theorem dJ0_coder_7d493_10 : decode cJ0_coder_7d493 10 = .ok (.goto 4, 3) := by decide +kernel
theorem dJ0_coder_7d493_13 : decode cJ0_coder_7d493 13 = .ok (.iconst 1, 1) := by decide +kernel
theorem dJ0_coder_7d493_14 : decode cJ0_coder_7d493 14 = .ok (.ireturn, 1) := by decide +kernel
theorem dJ0_isLatin1_aae02_0 : decode cJ0_isLatin1_aae02 0 = .ok (.getstatic 38, 3) := by decide +kernel
theorem dJ0_isLatin1_aae02_3 : decode cJ0_isLatin1_aae02 3 = .ok (.ifCond .eq 14, 3) := by decide +kernel
theorem dJ0_isLatin1_aae02_6 : decode cJ0_isLatin1_aae02 6 = .ok (.aload_n 0, 1) := by decide +kernel
theorem dJ0_isLatin1_aae02_7 : decode cJ0_isLatin1_aae02 7 = .ok (.getfield 15, 3) := by decide +kernel
theorem dJ0_isLatin1_aae02_10 : decode cJ0_isLatin1_aae02 10 = .ok (.ifCond .ne 7, 3) := by decide +kernel
theorem dJ0_isLatin1_aae02_13 : decode cJ0_isLatin1_aae02 13 = .ok (.iconst 1, 1) := by decide +kernel
theorem dJ0_isLatin1_aae02_14 : decode cJ0_isLatin1_aae02 14 = .ok (.goto 4, 3) := by decide +kernel
theorem dJ0_isLatin1_aae02_17 : decode cJ0_isLatin1_aae02 17 = .ok (.iconst 0, 1) := by decide +kernel
theorem dJ0_isLatin1_aae02_18 : decode cJ0_isLatin1_aae02 18 = .ok (.ireturn, 1) := by decide +kernel
theorem dJ0_checkIndex_df160_0 : decode cJ0_checkIndex_df160 0 = .ok (.iload_n 0, 1) := by decide +kernel
theorem dJ0_checkIndex_df160_1 : decode cJ0_checkIndex_df160 1 = .ok (.iload_n 1, 1) := by decide +kernel
theorem dJ0_checkIndex_df160_2 : decode cJ0_checkIndex_df160 2 = .ok (.getstatic 1053, 3) := by decide +kernel
theorem dJ0_checkIndex_df160_5 : decode cJ0_checkIndex_df160 5 = .ok (.invokestatic 1059, 3) := by decide +kernel
theorem dJ0_checkIndex_df160_8 : decode cJ0_checkIndex_df160 8 = .ok (.pop, 1) := by decide +kernel
theorem dJ0_checkIndex_df160_9 : decode cJ0_checkIndex_df160 9 = .ok (.return_, 1) := by decide +kernel
theorem dJ1_charAt_3b067_0 : decode cJ1_charAt_3b067 0 = .ok (.iload_n 1, 1) := by decide +kernel
theorem dJ1_charAt_3b067_1 : decode cJ1_charAt_3b067 1 = .ok (.aload_n 0, 1) := by decide +kernel
theorem dJ1_charAt_3b067_2 : decode cJ1_charAt_3b067 2 = .ok (.arraylength, 1) := by decide +kernel
theorem dJ1_charAt_3b067_3 : decode cJ1_charAt_3b067 3 = .ok (.invokestatic 9, 3) := by decide +kernel
theorem dJ1_charAt_3b067_6 : decode cJ1_charAt_3b067 6 = .ok (.aload_n 0, 1) := by decide +kernel
theorem dJ1_charAt_3b067_7 : decode cJ1_charAt_3b067 7 = .ok (.iload_n 1, 1) := by decide +kernel
theorem dJ1_charAt_3b067_8 : decode cJ1_charAt_3b067 8 = .ok (.baload, 1) := by decide +kernel
theorem dJ1_charAt_3b067_9 : decode cJ1_charAt_3b067 9 = .ok (.sipush 255, 3) := by decide +kernel
theorem dJ1_charAt_3b067_12 : decode cJ1_charAt_3b067 12 = .ok (.iand, 1) := by decide +kernel
theorem dJ1_charAt_3b067_13 : decode cJ1_charAt_3b067 13 = .ok (.i2c, 1) := by decide +kernel
theorem dJ1_charAt_3b067_14 : decode cJ1_charAt_3b067 14 = .ok (.ireturn, 1) := by decide +kernel
theorem dJ2_getChar_3b067_0 : decode cJ2_getChar_3b067 0 = .ok (.getstatic 44, 3) := by decide +kernel
theorem dJ2_getChar_3b067_3 : decode cJ2_getChar_3b067 3 = .ok (.ifCond .ne 25, 3) := by decide +kernel
theorem dJ2_getChar_3b067_6 : decode cJ2_getChar_3b067 6 = .ok (.iload_n 1, 1) := by decide +kernel
theorem dJ2_getChar_3b067_7 : decode cJ2_getChar_3b067 7 = .ok (.ifCond .lt 11, 3) := by decide +kernel
theorem dJ2_getChar_3b067_10 : decode cJ2_getChar_3b067 10 = .ok (.iload_n 1, 1) := by decide +kernel
theorem dJ2_getChar_3b067_11 : decode cJ2_getChar_3b067 11 = .ok (.aload_n 0, 1) := by decide +kernel
theorem dJ2_getChar_3b067_12 : decode cJ2_getChar_3b067 12 = .ok (.invokestatic 48, 3) := by decide +kernel
theorem dJ2_getChar_3b067_15 : decode cJ2_getChar_3b067 15 = .ok (.if_icmp .lt 13, 3) := by decide +kernel
theorem dJ2_getChar_3b067_18 : decode cJ2_getChar_3b067 18 = .ok (.new 52, 3) := by decide +kernel
theorem dJ2_getChar_3b067_21 : decode cJ2_getChar_3b067 21 = .ok (.dup, 1) := by decide +kernel
theorem dJ2_getChar_3b067_22 : decode cJ2_getChar_3b067 22 = .ok (.ldc 54, 2) := by decide +kernel
theorem dJ2_getChar_3b067_24 : decode cJ2_getChar_3b067 24 = .ok (.invokespecial 56, 3) := by decide +kernel
theorem dJ2_getChar_3b067_27 : decode cJ2_getChar_3b067 27 = .ok (.athrow, 1) := by decide +kernel
theorem dJ2_getChar_3b067_28 : decode cJ2_getChar_3b067 28 = .ok (.iload_n 1, 1) := by decide +kernel
theorem dJ2_getChar_3b067_29 : decode cJ2_getChar_3b067 29 = .ok (.iconst 1, 1) := by decide +kernel
theorem dJ2_getChar_3b067_30 : decode cJ2_getChar_3b067 30 = .ok (.ishl, 1) := by decide +kernel
theorem dJ2_getChar_3b067_31 : decode cJ2_getChar_3b067 31 = .ok (.istore_n 1, 1) := by decide +kernel
theorem dJ2_getChar_3b067_32 : decode cJ2_getChar_3b067 32 = .ok (.aload_n 0, 1) := by decide +kernel
theorem dJ2_getChar_3b067_33 : decode cJ2_getChar_3b067 33 = .ok (.iload_n 1, 1) := by decide +kernel
theorem dJ2_getChar_3b067_34 : decode cJ2_getChar_3b067 34 = .ok (.iinc 1 1, 3) := by decide +kernel
theorem dJ2_getChar_3b067_37 : decode cJ2_getChar_3b067 37 = .ok (.baload, 1) := by decide +kernel
theorem dJ2_getChar_3b067_38 : decode cJ2_getChar_3b067 38 = .ok (.sipush 255, 3) := by decide +kernel
theorem dJ2_getChar_3b067_41 : decode cJ2_getChar_3b067 41 = .ok (.iand, 1) := by decide +kernel
theorem dJ2_getChar_3b067_42 : decode cJ2_getChar_3b067 42 = .ok (.getstatic 59, 3) := by decide +kernel
theorem dJ2_getChar_3b067_45 : decode cJ2_getChar_3b067 45 = .ok (.ishl, 1) := by decide +kernel
theorem dJ2_getChar_3b067_46 : decode cJ2_getChar_3b067 46 = .ok (.aload_n 0, 1) := by decide +kernel
theorem dJ2_getChar_3b067_47 : decode cJ2_getChar_3b067 47 = .ok (.iload_n 1, 1) := by decide +kernel
theorem dJ2_getChar_3b067_48 : decode cJ2_getChar_3b067 48 = .ok (.baload, 1) := by decide +kernel
theorem dJ2_getChar_3b067_49 : decode cJ2_getChar_3b067 49 = .ok (.sipush 255, 3) := by decide +kernel
theorem dJ2_getChar_3b067_52 : decode cJ2_getChar_3b067 52 = .ok (.iand, 1) := by decide +kernel
theorem dJ2_getChar_3b067_53 : decode cJ2_getChar_3b067 53 = .ok (.getstatic 63, 3) := by decide +kernel
theorem dJ2_getChar_3b067_56 : decode cJ2_getChar_3b067 56 = .ok (.ishl, 1) := by decide +kernel
theorem dJ2_getChar_3b067_57 : decode cJ2_getChar_3b067 57 = .ok (.ior, 1) := by decide +kernel
theorem dJ2_getChar_3b067_58 : decode cJ2_getChar_3b067 58 = .ok (.i2c, 1) := by decide +kernel
theorem dJ2_getChar_3b067_59 : decode cJ2_getChar_3b067 59 = .ok (.ireturn, 1) := by decide +kernel
theorem dJ2_length_9d52b_0 : decode cJ2_length_9d52b 0 = .ok (.aload_n 0, 1) := by decide +kernel
theorem dJ2_length_9d52b_1 : decode cJ2_length_9d52b 1 = .ok (.arraylength, 1) := by decide +kernel
theorem dJ2_length_9d52b_2 : decode cJ2_length_9d52b 2 = .ok (.iconst 1, 1) := by decide +kernel
theorem dJ2_length_9d52b_3 : decode cJ2_length_9d52b 3 = .ok (.ishr, 1) := by decide +kernel
theorem dJ2_length_9d52b_4 : decode cJ2_length_9d52b 4 = .ok (.ireturn, 1) := by decide +kernel
theorem dJ2_charAt_3b067_0 : decode cJ2_charAt_3b067 0 = .ok (.iload_n 1, 1) := by decide +kernel
theorem dJ2_charAt_3b067_1 : decode cJ2_charAt_3b067 1 = .ok (.aload_n 0, 1) := by decide +kernel
theorem dJ2_charAt_3b067_2 : decode cJ2_charAt_3b067 2 = .ok (.invokestatic 67, 3) := by decide +kernel
theorem dJ2_charAt_3b067_5 : decode cJ2_charAt_3b067 5 = .ok (.aload_n 0, 1) := by decide +kernel
theorem dJ2_charAt_3b067_6 : decode cJ2_charAt_3b067 6 = .ok (.iload_n 1, 1) := by decide +kernel
theorem dJ2_charAt_3b067_7 : decode cJ2_charAt_3b067 7 = .ok (.invokestatic 71, 3) := by decide +kernel
theorem dJ2_charAt_3b067_10 : decode cJ2_charAt_3b067 10 = .ok (.ireturn, 1) := by decide +kernel
theorem dJ2_checkIndex_2214a_0 : decode cJ2_checkIndex_2214a 0 = .ok (.iload_n 0, 1) := by decide +kernel
theorem dJ2_checkIndex_2214a_1 : decode cJ2_checkIndex_2214a 1 = .ok (.aload_n 1, 1) := by decide +kernel
theorem dJ2_checkIndex_2214a_2 : decode cJ2_checkIndex_2214a 2 = .ok (.invokestatic 48, 3) := by decide +kernel
theorem dJ2_checkIndex_2214a_5 : decode cJ2_checkIndex_2214a 5 = .ok (.invokestatic 414, 3) := by decide +kernel
theorem dJ2_checkIndex_2214a_8 : decode cJ2_checkIndex_2214a 8 = .ok (.return_, 1) := by decide +kernel
theorem dJ3_checkIndex_8e157_0 : decode cJ3_checkIndex_8e157 0 = .ok (.iload_n 0, 1) := by decide +kernel
theorem dJ3_checkIndex_8e157_1 : decode cJ3_checkIndex_8e157 1 = .ok (.ifCond .lt 8, 3) := by decide +kernel
theorem dJ3_checkIndex_8e157_4 : decode cJ3_checkIndex_8e157 4 = .ok (.iload_n 0, 1) := by decide +kernel
theorem dJ3_checkIndex_8e157_5 : decode cJ3_checkIndex_8e157 5 = .ok (.iload_n 1, 1) := by decide +kernel
theorem dJ3_checkIndex_8e157_6 : decode cJ3_checkIndex_8e157 6 = .ok (.if_icmp .lt 10, 3) := by decide +kernel
theorem dJ3_checkIndex_8e157_9 : decode cJ3_checkIndex_8e157 9 = .ok (.aload_n 2, 1) := by decide +kernel
theorem dJ3_checkIndex_8e157_10 : decode cJ3_checkIndex_8e157 10 = .ok (.iload_n 0, 1) := by decide +kernel
theorem dJ3_checkIndex_8e157_11 : decode cJ3_checkIndex_8e157 11 = .ok (.iload_n 1, 1) := by decide +kernel
theorem dJ3_checkIndex_8e157_12 : decode cJ3_checkIndex_8e157 12 = .ok (.invokestatic 95, 3) := by decide +kernel
theorem dJ3_checkIndex_8e157_15 : decode cJ3_checkIndex_8e157 15 = .ok (.athrow, 1) := by decide +kernel
theorem dJ3_checkIndex_8e157_16 : decode cJ3_checkIndex_8e157 16 = .ok (.iload_n 0, 1) := by decide +kernel
theorem dJ3_checkIndex_8e157_17 : decode cJ3_checkIndex_8e157 17 = .ok (.ireturn, 1) := by decide +kernel
end
section
theorem dX10_in_0 : decode cX10_in 0 = .ok (.iload_n 0, 1) := by decide +kernel
theorem dX10_in_1 : decode cX10_in 1 = .ok (.iload_n 1, 1) := by decide +kernel
theorem dX10_in_2 : decode cX10_in 2 = .ok (.if_icmp .lt 12, 3) := by decide +kernel
theorem dX10_in_5 : decode cX10_in 5 = .ok (.iload_n 0, 1) := by decide +kernel
theorem dX10_in_6 : decode cX10_in 6 = .ok (.iload_n 2, 1) := by decide +kernel
theorem dX10_in_7 : decode cX10_in 7 = .ok (.if_icmp .gt 7, 3) := by decide +kernel
theorem dX10_in_10 : decode cX10_in 10 = .ok (.iconst 1, 1) := by decide +kernel
theorem dX10_in_11 : decode cX10_in 11 = .ok (.goto 4, 3) := by decide +kernel
theorem dX10_in_14 : decode cX10_in 14 = .ok (.iconst 0, 1) := by decide +kernel
theorem dX10_in_15 : decode cX10_in 15 = .ok (.ireturn, 1) := by decide +kernel
theorem dX10_init_0 : decode cX10_init 0 = .ok (.aload_n 0, 1) := by decide +kernel
theorem dX10_init_1 : decode cX10_init 1 = .ok (.invokespecial 7, 3) := by decide +kernel
theorem dX10_init_4 : decode cX10_init 4 = .ok (.aload_n 0, 1) := by decide +kernel
theorem dX10_init_5 : decode cX10_init 5 = .ok (.sipush 1280, 3) := by decide +kernel
theorem dX10_init_8 : decode cX10_init 8 = .ok (.newarray .int, 2) := by decide +kernel
theorem dX10_init_10 : decode cX10_init 10 = .ok (.putfield 13, 3) := by decide +kernel
theorem dX10_init_13 : decode cX10_init 13 = .ok (.aload_n 0, 1) := by decide +kernel
theorem dX10_init_14 : decode cX10_init 14 = .ok (.bipush 8, 2) := by decide +kernel
theorem dX10_init_16 : decode cX10_init 16 = .ok (.newarray .int, 2) := by decide +kernel
theorem dX10_init_18 : decode cX10_init 18 = .ok (.putfield 17, 3) := by decide +kernel
theorem dX10_init_21 : decode cX10_init 21 = .ok (.aload_n 0, 1) := by decide +kernel
theorem dX10_init_22 : decode cX10_init 22 = .ok (.bipush 8, 2) := by decide +kernel
theorem dX10_init_24 : decode cX10_init 24 = .ok (.newarray .int, 2) := by decide +kernel
theorem dX10_init_26 : decode cX10_init 26 = .ok (.putfield 20, 3) := by decide +kernel
theorem dX10_init_29 : decode cX10_init 29 = .ok (.aload_n 0, 1) := by decide +kernel
theorem dX10_init_30 : decode cX10_init 30 = .ok (.bipush 33, 2) := by decide +kernel
theorem dX10_init_32 : decode cX10_init 32 = .ok (.newarray .long, 2) := by decide +kernel
theorem dX10_init_34 : decode cX10_init 34 = .ok (.putfield 23, 3) := by decide +kernel
theorem dX10_init_37 : decode cX10_init 37 = .ok (.aload_n 0, 1) := by decide +kernel
theorem dX10_init_38 : decode cX10_init 38 = .ok (.bipush 33, 2) := by decide +kernel
theorem dX10_init_40 : decode cX10_init 40 = .ok (.newarray .long, 2) := by decide +kernel
theorem dX10_init_42 : decode cX10_init 42 = .ok (.putfield 27, 3) := by decide +kernel
theorem dX10_init_45 : decode cX10_init 45 = .ok (.aload_n 0, 1) := by decide +kernel
theorem dX10_init_46 : decode cX10_init 46 = .ok (.sipush 960, 3) := by decide +kernel
theorem dX10_init_49 : decode cX10_init 49 = .ok (.newarray .int, 2) := by decide +kernel
theorem dX10_init_51 : decode cX10_init 51 = .ok (.putfield 30, 3) := by decide +kernel
theorem dX10_init_54 : decode cX10_init 54 = .ok (.aload_n 0, 1) := by decide +kernel
theorem dX10_init_55 : decode cX10_init 55 = .ok (.bipush 6, 2) := by decide +kernel
theorem dX10_init_57 : decode cX10_init 57 = .ok (.newarray .int, 2) := by decide +kernel
theorem dX10_init_59 : decode cX10_init 59 = .ok (.putfield 33, 3) := by decide +kernel
theorem dX10_init_62 : decode cX10_init 62 = .ok (.aload_n 0, 1) := by decide +kernel
theorem dX10_init_63 : decode cX10_init 63 = .ok (.sipush 160, 3) := by decide +kernel
theorem dX10_init_66 : decode cX10_init 66 = .ok (.newarray .int, 2) := by decide +kernel
theorem dX10_init_68 : decode cX10_init 68 = .ok (.putfield 36, 3) := by decide +kernel
theorem dX10_init_71 : decode cX10_init 71 = .ok (.aload_n 0, 1) := by decide +kernel
theorem dX10_init_72 : decode cX10_init 72 = .ok (.bipush 16, 2) := by decide +kernel
theorem dX10_init_74 : decode cX10_init 74 = .ok (.newarray .int, 2) := by decide +kernel
theorem dX10_init_76 : decode cX10_init 76 = .ok (.putfield 39, 3) := by decide +kernel
theorem dX10_init_79 : decode cX10_init 79 = .ok (.aload_n 0, 1) := by decide +kernel
theorem dX10_init_80 : decode cX10_init 80 = .ok (.bipush 16, 2) := by decide +kernel
theorem dX10_init_82 : decode cX10_init 82 = .ok (.newarray .int, 2) := by decide +kernel
theorem dX10_init_84 : decode cX10_init 84 = .ok (.putfield 42, 3) := by decide +kernel
theorem dX10_init_87 : decode cX10_init 87 = .ok (.aload_n 0, 1) := by decide +kernel
theorem dX10_init_88 : decode cX10_init 88 = .ok (.sipush 272, 3) := by decide +kernel
theorem dX10_init_91 : decode cX10_init 91 = .ok (.newarray .int, 2) := by decide +kernel
theorem dX10_init_93 : decode cX10_init 93 = .ok (.putfield 45, 3) := by decide +kernel
theorem dX10_init_96 : decode cX10_init 96 = .ok (.aload_n 0, 1) := by decide +kernel
theorem dX10_init_97 : decode cX10_init 97 = .ok (.bipush 16, 2) := by decide +kernel
theorem dX10_init_99 : decode cX10_init 99 = .ok (.newarray .int, 2) := by decide +kernel
theorem dX10_init_101 : decode cX10_init 101 = .ok (.putfield 48, 3) := by decide +kernel
theorem dX10_init_104 : decode cX10_init 104 = .ok (.aload_n 0, 1) := by decide +kernel
theorem dX10_init_105 : decode cX10_init 105 = .ok (.iconst 4, 1) := by decide +kernel
theorem dX10_init_106 : decode cX10_init 106 = .ok (.newarray .boolean, 2) := by decide +kernel
theorem dX10_init_108 : decode cX10_init 108 = .ok (.putfield 51, 3) := by decide +kernel
theorem dX10_init_111 : decode cX10_init 111 = .ok (.aload_n 0, 1) := by decide +kernel
theorem dX10_init_112 : decode cX10_init 112 = .ok (.iconst 4, 1) := by decide +kernel
theorem dX10_init_113 : decode cX10_init 113 = .ok (.newarray .int, 2) := by decide +kernel
theorem dX10_init_115 : decode cX10_init 115 = .ok (.putfield 55, 3) := by decide +kernel
theorem dX10_init_118 : decode cX10_init 118 = .ok (.aload_n 0, 1) := by decide +kernel
theorem dX10_init_119 : decode cX10_init 119 = .ok (.iconst 4, 1) := by decide +kernel
theorem dX10_init_120 : decode cX10_init 120 = .ok (.newarray .int, 2) := by decide +kernel
theorem dX10_init_122 : decode cX10_init 122 = .ok (.putfield 58, 3) := by decide +kernel
theorem dX10_init_125 : decode cX10_init 125 = .ok (.aload_n 0, 1) := by decide +kernel
theorem dX10_init_126 : decode cX10_init 126 = .ok (.sipush 160, 3) := by decide +kernel
theorem dX10_init_129 : decode cX10_init 129 = .ok (.newarray .int, 2) := by decide +kernel
theorem dX10_init_131 : decode cX10_init 131 = .ok (.putfield 61, 3) := by decide +kernel
theorem dX10_init_134 : decode cX10_init 134 = .ok (.iload_n 1, 1) := by decide +kernel
theorem dX10_init_135 : decode cX10_init 135 = .ok (.iconst 4, 1) := by decide +kernel
theorem dX10_init_136 : decode cX10_init 136 = .ok (.irem, 1) := by decide +kernel
theorem dX10_init_137 : decode cX10_init 137 = .ok (.iconst 4, 1) := by decide +kernel
theorem dX10_init_138 : decode cX10_init 138 = .ok (.iadd, 1) := by decide +kernel
theorem dX10_init_139 : decode cX10_init 139 = .ok (.iconst 4, 1) := by decide +kernel
theorem dX10_init_140 : decode cX10_init 140 = .ok (.irem, 1) := by decide +kernel
theorem dX10_init_141 : decode cX10_init 141 = .ok (.istore_n 2, 1) := by decide +kernel
theorem dX10_init_142 : decode cX10_init 142 = .ok (.aload_n 0, 1) := by decide +kernel
theorem dX10_init_143 : decode cX10_init 143 = .ok (.iload_n 2, 1) := by decide +kernel
theorem dX10_init_144 : decode cX10_init 144 = .ok (.ifCond .ne 8, 3) := by decide +kernel
theorem dX10_init_147 : decode cX10_init 147 = .ok (.bipush 97, 2) := by decide +kernel
theorem dX10_init_149 : decode cX10_init 149 = .ok (.goto 28, 3) := by decide +kernel
theorem dX10_init_152 : decode cX10_init 152 = .ok (.iload_n 2, 1) := by decide +kernel
theorem dX10_init_153 : decode cX10_init 153 = .ok (.iconst 1, 1) := by decide +kernel
theorem dX10_init_154 : decode cX10_init 154 = .ok (.if_icmp .ne 9, 3) := by decide +kernel
theorem dX10_init_157 : decode cX10_init 157 = .ok (.sipush 193, 3) := by decide +kernel
theorem dX10_init_160 : decode cX10_init 160 = .ok (.goto 17, 3) := by decide +kernel
theorem dX10_init_163 : decode cX10_init 163 = .ok (.iload_n 2, 1) := by decide +kernel
theorem dX10_init_164 : decode cX10_init 164 = .ok (.iconst 2, 1) := by decide +kernel
theorem dX10_init_165 : decode cX10_init 165 = .ok (.if_icmp .ne 9, 3) := by decide +kernel
theorem dX10_init_168 : decode cX10_init 168 = .ok (.sipush 257, 3) := by decide +kernel
theorem dX10_init_171 : decode cX10_init 171 = .ok (.goto 6, 3) := by decide +kernel
theorem dX10_init_174 : decode cX10_init 174 = .ok (.sipush 7681, 3) := by decide +kernel
theorem dX10_init_177 : decode cX10_init 177 = .ok (.putfield 64, 3) := by decide +kernel
theorem dX10_init_180 : decode cX10_init 180 = .ok (.iconst 0, 1) := by decide +kernel
theorem dX10_init_181 : decode cX10_init 181 = .ok (.istore_n 3, 1) := by decide +kernel
theorem dX10_init_182 : decode cX10_init 182 = .ok (.ldc2_w 67, 3) := by decide +kernel
theorem dX10_init_185 : decode cX10_init 185 = .ok (.lstore 4, 2) := by decide +kernel
theorem dX10_init_187 : decode cX10_init 187 = .ok (.ldc2_w 69, 3) := by decide +kernel
theorem dX10_init_190 : decode cX10_init 190 = .ok (.lstore 6, 2) := by decide +kernel
theorem dX10_init_192 : decode cX10_init 192 = .ok (.ldc2_w 71, 3) := by decide +kernel
theorem dX10_init_195 : decode cX10_init 195 = .ok (.lstore 8, 2) := by decide +kernel
theorem dX10_init_197 : decode cX10_init 197 = .ok (.ldc2_w 73, 3) := by decide +kernel
theorem dX10_init_200 : decode cX10_init 200 = .ok (.lstore 10, 2) := by decide +kernel
theorem dX10_init_202 : decode cX10_init 202 = .ok (.ldc2_w 75, 3) := by decide +kernel
theorem dX10_init_205 : decode cX10_init 205 = .ok (.lstore 12, 2) := by decide +kernel
theorem dX10_init_207 : decode cX10_init 207 = .ok (.bipush 7, 2) := by decide +kernel
theorem dX10_init_209 : decode cX10_init 209 = .ok (.istore 14, 2) := by decide +kernel
theorem dX10_init_211 : decode cX10_init 211 = .ok (.iload 14, 2) := by decide +kernel
theorem dX10_init_213 : decode cX10_init 213 = .ok (.ifCond .lt 119, 3) := by decide +kernel
theorem dX10_init_216 : decode cX10_init 216 = .ok (.aload_n 0, 1) := by decide +kernel
theorem dX10_init_217 : decode cX10_init 217 = .ok (.getfield 30, 3) := by decide +kernel
theorem dX10_init_220 : decode cX10_init 220 = .ok (.iload_n 3, 1) := by decide +kernel
theorem dX10_init_221 : decode cX10_init 221 = .ok (.lload 4, 2) := by decide +kernel
theorem dX10_init_223 : decode cX10_init 223 = .ok (.bipush 8, 2) := by decide +kernel
theorem dX10_init_225 : decode cX10_init 225 = .ok (.iload 14, 2) := by decide +kernel
theorem dX10_init_227 : decode cX10_init 227 = .ok (.imul, 1) := by decide +kernel
theorem dX10_init_228 : decode cX10_init 228 = .ok (.lshr, 1) := by decide +kernel
theorem dX10_init_229 : decode cX10_init 229 = .ok (.ldc2_w 77, 3) := by decide +kernel
theorem dX10_init_232 : decode cX10_init 232 = .ok (.land, 1) := by decide +kernel
theorem dX10_init_233 : decode cX10_init 233 = .ok (.l2i, 1) := by decide +kernel
theorem dX10_init_234 : decode cX10_init 234 = .ok (.iastore, 1) := by decide +kernel
theorem dX10_init_235 : decode cX10_init 235 = .ok (.aload_n 0, 1) := by decide +kernel
theorem dX10_init_236 : decode cX10_init 236 = .ok (.getfield 30, 3) := by decide +kernel
theorem dX10_init_239 : decode cX10_init 239 = .ok (.iload_n 3, 1) := by decide +kernel
theorem dX10_init_240 : decode cX10_init 240 = .ok (.bipush 8, 2) := by decide +kernel
theorem dX10_init_242 : decode cX10_init 242 = .ok (.iadd, 1) := by decide +kernel
theorem dX10_init_243 : decode cX10_init 243 = .ok (.lload 6, 2) := by decide +kernel
theorem dX10_init_245 : decode cX10_init 245 = .ok (.bipush 8, 2) := by decide +kernel
theorem dX10_init_247 : decode cX10_init 247 = .ok (.iload 14, 2) := by decide +kernel
theorem dX10_init_249 : decode cX10_init 249 = .ok (.imul, 1) := by decide +kernel
theorem dX10_init_250 : decode cX10_init 250 = .ok (.lshr, 1) := by decide +kernel
theorem dX10_init_251 : decode cX10_init 251 = .ok (.ldc2_w 77, 3) := by decide +kernel
theorem dX10_init_254 : decode cX10_init 254 = .ok (.land, 1) := by decide +kernel
theorem dX10_init_255 : decode cX10_init 255 = .ok (.l2i, 1) := by decide +kernel
theorem dX10_init_256 : decode cX10_init 256 = .ok (.iastore, 1) := by decide +kernel
theorem dX10_init_257 : decode cX10_init 257 = .ok (.aload_n 0, 1) := by decide +kernel
theorem dX10_init_258 : decode cX10_init 258 = .ok (.getfield 30, 3) := by decide +kernel
theorem dX10_init_261 : decode cX10_init 261 = .ok (.iload_n 3, 1) := by decide +kernel
theorem dX10_init_262 : decode cX10_init 262 = .ok (.bipush 16, 2) := by decide +kernel
theorem dX10_init_264 : decode cX10_init 264 = .ok (.iadd, 1) := by decide +kernel
theorem dX10_init_265 : decode cX10_init 265 = .ok (.lload 8, 2) := by decide +kernel
theorem dX10_init_267 : decode cX10_init 267 = .ok (.bipush 8, 2) := by decide +kernel
theorem dX10_init_269 : decode cX10_init 269 = .ok (.iload 14, 2) := by decide +kernel
theorem dX10_init_271 : decode cX10_init 271 = .ok (.imul, 1) := by decide +kernel
theorem dX10_init_272 : decode cX10_init 272 = .ok (.lshr, 1) := by decide +kernel
theorem dX10_init_273 : decode cX10_init 273 = .ok (.ldc2_w 77, 3) := by decide +kernel
theorem dX10_init_276 : decode cX10_init 276 = .ok (.land, 1) := by decide +kernel
theorem dX10_init_277 : decode cX10_init 277 = .ok (.l2i, 1) := by decide +kernel
theorem dX10_init_278 : decode cX10_init 278 = .ok (.iastore, 1) := by decide +kernel
theorem dX10_init_279 : decode cX10_init 279 = .ok (.aload_n 0, 1) := by decide +kernel
theorem dX10_init_280 : decode cX10_init 280 = .ok (.getfield 30, 3) := by decide +kernel
theorem dX10_init_283 : decode cX10_init 283 = .ok (.iload_n 3, 1) := by decide +kernel
theorem dX10_init_284 : decode cX10_init 284 = .ok (.bipush 24, 2) := by decide +kernel
theorem dX10_init_286 : decode cX10_init 286 = .ok (.iadd, 1) := by decide +kernel
theorem dX10_init_287 : decode cX10_init 287 = .ok (.lload 10, 2) := by decide +kernel
theorem dX10_init_289 : decode cX10_init 289 = .ok (.bipush 8, 2) := by decide +kernel
theorem dX10_init_291 : decode cX10_init 291 = .ok (.iload 14, 2) := by decide +kernel
theorem dX10_init_293 : decode cX10_init 293 = .ok (.imul, 1) := by decide +kernel
theorem dX10_init_294 : decode cX10_init 294 = .ok (.lshr, 1) := by decide +kernel
theorem dX10_init_295 : decode cX10_init 295 = .ok (.ldc2_w 77, 3) := by decide +kernel
theorem dX10_init_298 : decode cX10_init 298 = .ok (.land, 1) := by decide +kernel
theorem dX10_init_299 : decode cX10_init 299 = .ok (.l2i, 1) := by decide +kernel
theorem dX10_init_300 : decode cX10_init 300 = .ok (.iastore, 1) := by decide +kernel
theorem dX10_init_301 : decode cX10_init 301 = .ok (.aload_n 0, 1) := by decide +kernel
theorem dX10_init_302 : decode cX10_init 302 = .ok (.getfield 30, 3) := by decide +kernel
theorem dX10_init_305 : decode cX10_init 305 = .ok (.iload_n 3, 1) := by decide +kernel
theorem dX10_init_306 : decode cX10_init 306 = .ok (.bipush 32, 2) := by decide +kernel
theorem dX10_init_308 : decode cX10_init 308 = .ok (.iadd, 1) := by decide +kernel
theorem dX10_init_309 : decode cX10_init 309 = .ok (.lload 12, 2) := by decide +kernel
theorem dX10_init_311 : decode cX10_init 311 = .ok (.bipush 8, 2) := by decide +kernel
theorem dX10_init_313 : decode cX10_init 313 = .ok (.iload 14, 2) := by decide +kernel
theorem dX10_init_315 : decode cX10_init 315 = .ok (.imul, 1) := by decide +kernel
theorem dX10_init_316 : decode cX10_init 316 = .ok (.lshr, 1) := by decide +kernel
theorem dX10_init_317 : decode cX10_init 317 = .ok (.ldc2_w 77, 3) := by decide +kernel
theorem dX10_init_320 : decode cX10_init 320 = .ok (.land, 1) := by decide +kernel
theorem dX10_init_321 : decode cX10_init 321 = .ok (.l2i, 1) := by decide +kernel
theorem dX10_init_322 : decode cX10_init 322 = .ok (.iastore, 1) := by decide +kernel
theorem dX10_init_323 : decode cX10_init 323 = .ok (.iinc 3 1, 3) := by decide +kernel
theorem dX10_init_326 : decode cX10_init 326 = .ok (.iinc 14 (-1), 3) := by decide +kernel
theorem dX10_init_329 : decode cX10_init 329 = .ok (.goto (-118), 3) := by decide +kernel
theorem dX10_init_332 : decode cX10_init 332 = .ok (.aload_n 0, 1) := by decide +kernel
theorem dX10_init_333 : decode cX10_init 333 = .ok (.getfield 33, 3) := by decide +kernel
theorem dX10_init_336 : decode cX10_init 336 = .ok (.iconst 0, 1) := by decide +kernel
theorem dX10_init_337 : decode cX10_init 337 = .ok (.bipush 40, 2) := by decide +kernel
theorem dX10_init_339 : decode cX10_init 339 = .ok (.iastore, 1) := by decide +kernel
theorem dX10_init_340 : decode cX10_init 340 = .ok (.aload_n 0, 1) := by decide +kernel
theorem dX10_init_341 : decode cX10_init 341 = .ok (.iconst 1, 1) := by decide +kernel
theorem dX10_init_342 : decode cX10_init 342 = .ok (.putfield 79, 3) := by decide +kernel
theorem dX10_init_345 : decode cX10_init 345 = .ok (.return_, 1) := by decide +kernel
theorem dX10_rest_0 : decode cX10_rest 0 = .ok (.iload_n 1, 1) := by decide +kernel
theorem dX10_rest_1 : decode cX10_rest 1 = .ok (.aload_n 0, 1) := by decide +kernel
theorem dX10_rest_2 : decode cX10_rest 2 = .ok (.getfield 64, 3) := by decide +kernel
theorem dX10_rest_5 : decode cX10_rest 5 = .ok (.irem, 1) := by decide +kernel
theorem dX10_rest_6 : decode cX10_rest 6 = .ok (.aload_n 0, 1) := by decide +kernel
theorem dX10_rest_7 : decode cX10_rest 7 = .ok (.getfield 64, 3) := by decide +kernel
theorem dX10_rest_10 : decode cX10_rest 10 = .ok (.iadd, 1) := by decide +kernel
theorem dX10_rest_11 : decode cX10_rest 11 = .ok (.aload_n 0, 1) := by decide +kernel
theorem dX10_rest_12 : decode cX10_rest 12 = .ok (.getfield 64, 3) := by decide +kernel
theorem dX10_rest_15 : decode cX10_rest 15 = .ok (.irem, 1) := by decide +kernel
theorem dX10_rest_16 : decode cX10_rest 16 = .ok (.ireturn, 1) := by decide +kernel
theorem dX10_raised_0 : decode cX10_raised 0 = .ok (.iconst 1, 1) := by decide +kernel
theorem dX10_raised_1 : decode cX10_raised 1 = .ok (.istore_n 3, 1) := by decide +kernel
theorem dX10_raised_2 : decode cX10_raised 2 = .ok (.iload_n 1, 1) := by decide +kernel
theorem dX10_raised_3 : decode cX10_raised 3 = .ok (.istore 4, 2) := by decide +kernel
theorem dX10_raised_5 : decode cX10_raised 5 = .ok (.iload_n 2, 1) := by decide +kernel
theorem dX10_raised_6 : decode cX10_raised 6 = .ok (.istore 5, 2) := by decide +kernel
theorem dX10_raised_8 : decode cX10_raised 8 = .ok (.iload 5, 2) := by decide +kernel
theorem dX10_raised_10 : decode cX10_raised 10 = .ok (.ifCond .le 42, 3) := by decide +kernel
theorem dX10_raised_13 : decode cX10_raised 13 = .ok (.iload 5, 2) := by decide +kernel
theorem dX10_raised_15 : decode cX10_raised 15 = .ok (.iconst 1, 1) := by decide +kernel
theorem dX10_raised_16 : decode cX10_raised 16 = .ok (.iand, 1) := by decide +kernel
theorem dX10_raised_17 : decode cX10_raised 17 = .ok (.iconst 1, 1) := by decide +kernel
theorem dX10_raised_18 : decode cX10_raised 18 = .ok (.if_icmp .ne 13, 3) := by decide +kernel
theorem dX10_raised_21 : decode cX10_raised 21 = .ok (.iload_n 3, 1) := by decide +kernel
theorem dX10_raised_22 : decode cX10_raised 22 = .ok (.iload 4, 2) := by decide +kernel
theorem dX10_raised_24 : decode cX10_raised 24 = .ok (.imul, 1) := by decide +kernel
theorem dX10_raised_25 : decode cX10_raised 25 = .ok (.aload_n 0, 1) := by decide +kernel
theorem dX10_raised_26 : decode cX10_raised 26 = .ok (.getfield 64, 3) := by decide +kernel
theorem dX10_raised_29 : decode cX10_raised 29 = .ok (.irem, 1) := by decide +kernel
theorem dX10_raised_30 : decode cX10_raised 30 = .ok (.istore_n 3, 1) := by decide +kernel
theorem dX10_raised_31 : decode cX10_raised 31 = .ok (.iload 4, 2) := by decide +kernel
theorem dX10_raised_33 : decode cX10_raised 33 = .ok (.iload 4, 2) := by decide +kernel
theorem dX10_raised_35 : decode cX10_raised 35 = .ok (.imul, 1) := by decide +kernel
theorem dX10_raised_36 : decode cX10_raised 36 = .ok (.aload_n 0, 1) := by decide +kernel
theorem dX10_raised_37 : decode cX10_raised 37 = .ok (.getfield 64, 3) := by decide +kernel
theorem dX10_raised_40 : decode cX10_raised 40 = .ok (.irem, 1) := by decide +kernel
theorem dX10_raised_41 : decode cX10_raised 41 = .ok (.istore 4, 2) := by decide +kernel
theorem dX10_raised_43 : decode cX10_raised 43 = .ok (.iload 5, 2) := by decide +kernel
theorem dX10_raised_45 : decode cX10_raised 45 = .ok (.iconst 1, 1) := by decide +kernel
theorem dX10_raised_46 : decode cX10_raised 46 = .ok (.ishr, 1) := by decide +kernel
theorem dX10_raised_47 : decode cX10_raised 47 = .ok (.istore 5, 2) := by decide +kernel
theorem dX10_raised_49 : decode cX10_raised 49 = .ok (.goto (-41), 3) := by decide +kernel
theorem dX10_raised_52 : decode cX10_raised 52 = .ok (.iload_n 3, 1) := by decide +kernel
theorem dX10_raised_53 : decode cX10_raised 53 = .ok (.ireturn, 1) := by decide +kernel
theorem dX10_inverse_0 : decode cX10_inverse 0 = .ok (.aload_n 0, 1) := by decide +kernel
theorem dX10_inverse_1 : decode cX10_inverse 1 = .ok (.iload_n 1, 1) := by decide +kernel
theorem dX10_inverse_2 : decode cX10_inverse 2 = .ok (.aload_n 0, 1) := by decide +kernel
theorem dX10_inverse_3 : decode cX10_inverse 3 = .ok (.getfield 64, 3) := by decide +kernel
theorem dX10_inverse_6 : decode cX10_inverse 6 = .ok (.iconst 2, 1) := by decide +kernel
theorem dX10_inverse_7 : decode cX10_inverse 7 = .ok (.isub, 1) := by decide +kernel
theorem dX10_inverse_8 : decode cX10_inverse 8 = .ok (.invokevirtual 82, 3) := by decide +kernel
theorem dX10_inverse_11 : decode cX10_inverse 11 = .ok (.ireturn, 1) := by decide +kernel
theorem dX10_length_0 : decode cX10_length 0 = .ok (.bipush 80, 2) := by decide +kernel
theorem dX10_length_2 : decode cX10_length 2 = .ok (.istore_n 2, 1) := by decide +kernel
theorem dX10_length_3 : decode cX10_length 3 = .ok (.iload_n 2, 1) := by decide +kernel
theorem dX10_length_4 : decode cX10_length 4 = .ok (.ifCond .le 25, 3) := by decide +kernel
theorem dX10_length_7 : decode cX10_length 7 = .ok (.aload_n 0, 1) := by decide +kernel
theorem dX10_length_8 : decode cX10_length 8 = .ok (.getfield 13, 3) := by decide +kernel
theorem dX10_length_11 : decode cX10_length 11 = .ok (.bipush 80, 2) := by decide +kernel
theorem dX10_length_13 : decode cX10_length 13 = .ok (.iload_n 1, 1) := by decide +kernel
theorem dX10_length_14 : decode cX10_length 14 = .ok (.imul, 1) := by decide +kernel
theorem dX10_length_15 : decode cX10_length 15 = .ok (.iload_n 2, 1) := by decide +kernel
theorem dX10_length_16 : decode cX10_length 16 = .ok (.iadd, 1) := by decide +kernel
theorem dX10_length_17 : decode cX10_length 17 = .ok (.iconst 1, 1) := by decide +kernel
theorem dX10_length_18 : decode cX10_length 18 = .ok (.isub, 1) := by decide +kernel
theorem dX10_length_19 : decode cX10_length 19 = .ok (.iaload, 1) := by decide +kernel
theorem dX10_length_20 : decode cX10_length 20 = .ok (.ifCond .ne 9, 3) := by decide +kernel
theorem dX10_length_23 : decode cX10_length 23 = .ok (.iinc 2 (-1), 3) := by decide +kernel
theorem dX10_length_26 : decode cX10_length 26 = .ok (.goto (-23), 3) := by decide +kernel
theorem dX10_length_29 : decode cX10_length 29 = .ok (.iload_n 2, 1) := by decide +kernel
theorem dX10_length_30 : decode cX10_length 30 = .ok (.ireturn, 1) := by decide +kernel
theorem dX10_empty_0 : decode cX10_empty 0 = .ok (.iconst 0, 1) := by decide +kernel
theorem dX10_empty_1 : decode cX10_empty 1 = .ok (.istore_n 2, 1) := by decide +kernel
theorem dX10_empty_2 : decode cX10_empty 2 = .ok (.iload_n 2, 1) := by decide +kernel
theorem dX10_empty_3 : decode cX10_empty 3 = .ok (.bipush 80, 2) := by decide +kernel
theorem dX10_empty_5 : decode cX10_empty 5 = .ok (.if_icmp .ge 21, 3) := by decide +kernel
theorem dX10_empty_8 : decode cX10_empty 8 = .ok (.aload_n 0, 1) := by decide +kernel
theorem dX10_empty_9 : decode cX10_empty 9 = .ok (.getfield 13, 3) := by decide +kernel
theorem dX10_empty_12 : decode cX10_empty 12 = .ok (.bipush 80, 2) := by decide +kernel
theorem dX10_empty_14 : decode cX10_empty 14 = .ok (.iload_n 1, 1) := by decide +kernel
theorem dX10_empty_15 : decode cX10_empty 15 = .ok (.imul, 1) := by decide +kernel
theorem dX10_empty_16 : decode cX10_empty 16 = .ok (.iload_n 2, 1) := by decide +kernel
theorem dX10_empty_17 : decode cX10_empty 17 = .ok (.iadd, 1) := by decide +kernel
theorem dX10_empty_18 : decode cX10_empty 18 = .ok (.iconst 0, 1) := by decide +kernel
theorem dX10_empty_19 : decode cX10_empty 19 = .ok (.iastore, 1) := by decide +kernel
theorem dX10_empty_20 : decode cX10_empty 20 = .ok (.iinc 2 1, 3) := by decide +kernel
theorem dX10_empty_23 : decode cX10_empty 23 = .ok (.goto (-21), 3) := by decide +kernel
theorem dX10_empty_26 : decode cX10_empty 26 = .ok (.return_, 1) := by decide +kernel
theorem dX10_copy_0 : decode cX10_copy 0 = .ok (.iconst 0, 1) := by decide +kernel
theorem dX10_copy_1 : decode cX10_copy 1 = .ok (.istore_n 3, 1) := by decide +kernel
theorem dX10_copy_2 : decode cX10_copy 2 = .ok (.iload_n 3, 1) := by decide +kernel
theorem dX10_copy_3 : decode cX10_copy 3 = .ok (.bipush 80, 2) := by decide +kernel
theorem dX10_copy_5 : decode cX10_copy 5 = .ok (.if_icmp .ge 31, 3) := by decide +kernel
theorem dX10_copy_8 : decode cX10_copy 8 = .ok (.aload_n 0, 1) := by decide +kernel
theorem dX10_copy_9 : decode cX10_copy 9 = .ok (.getfield 13, 3) := by decide +kernel
theorem dX10_copy_12 : decode cX10_copy 12 = .ok (.bipush 80, 2) := by decide +kernel
theorem dX10_copy_14 : decode cX10_copy 14 = .ok (.iload_n 2, 1) := by decide +kernel
theorem dX10_copy_15 : decode cX10_copy 15 = .ok (.imul, 1) := by decide +kernel
theorem dX10_copy_16 : decode cX10_copy 16 = .ok (.iload_n 3, 1) := by decide +kernel
theorem dX10_copy_17 : decode cX10_copy 17 = .ok (.iadd, 1) := by decide +kernel
theorem dX10_copy_18 : decode cX10_copy 18 = .ok (.aload_n 0, 1) := by decide +kernel
theorem dX10_copy_19 : decode cX10_copy 19 = .ok (.getfield 13, 3) := by decide +kernel
theorem dX10_copy_22 : decode cX10_copy 22 = .ok (.bipush 80, 2) := by decide +kernel
theorem dX10_copy_24 : decode cX10_copy 24 = .ok (.iload_n 1, 1) := by decide +kernel
theorem dX10_copy_25 : decode cX10_copy 25 = .ok (.imul, 1) := by decide +kernel
theorem dX10_copy_26 : decode cX10_copy 26 = .ok (.iload_n 3, 1) := by decide +kernel
theorem dX10_copy_27 : decode cX10_copy 27 = .ok (.iadd, 1) := by decide +kernel
theorem dX10_copy_28 : decode cX10_copy 28 = .ok (.iaload, 1) := by decide +kernel
theorem dX10_copy_29 : decode cX10_copy 29 = .ok (.iastore, 1) := by decide +kernel
theorem dX10_copy_30 : decode cX10_copy 30 = .ok (.iinc 3 1, 3) := by decide +kernel
theorem dX10_copy_33 : decode cX10_copy 33 = .ok (.goto (-31), 3) := by decide +kernel
theorem dX10_copy_36 : decode cX10_copy 36 = .ok (.return_, 1) := by decide +kernel
theorem dX10_isPoly_0 : decode cX10_isPoly 0 = .ok (.iload_n 0, 1) := by decide +kernel
theorem dX10_isPoly_1 : decode cX10_isPoly 1 = .ok (.iconst 0, 1) := by decide +kernel
theorem dX10_isPoly_2 : decode cX10_isPoly 2 = .ok (.bipush 7, 2) := by decide +kernel
theorem dX10_isPoly_4 : decode cX10_isPoly 4 = .ok (.invokestatic 86, 3) := by decide +kernel
theorem dX10_isPoly_7 : decode cX10_isPoly 7 = .ok (.ireturn, 1) := by decide +kernel
theorem dX10_comes_0 : decode cX10_comes 0 = .ok (.aload_n 0, 1) := by decide +kernel
theorem dX10_comes_1 : decode cX10_comes 1 = .ok (.iload_n 2, 1) := by decide +kernel
theorem dX10_comes_2 : decode cX10_comes 2 = .ok (.iload_n 1, 1) := by decide +kernel
theorem dX10_comes_3 : decode cX10_comes 3 = .ok (.invokevirtual 90, 3) := by decide +kernel
theorem dX10_comes_6 : decode cX10_comes 6 = .ok (.aload_n 0, 1) := by decide +kernel
theorem dX10_comes_7 : decode cX10_comes 7 = .ok (.iload_n 1, 1) := by decide +kernel
theorem dX10_comes_8 : decode cX10_comes 8 = .ok (.invokevirtual 94, 3) := by decide +kernel
theorem dX10_comes_11 : decode cX10_comes 11 = .ok (.ireturn, 1) := by decide +kernel
theorem dX10_put_0 : decode cX10_put 0 = .ok (.iload_n 1, 1) := by decide +kernel
theorem dX10_put_1 : decode cX10_put 1 = .ok (.invokestatic 98, 3) := by decide +kernel
theorem dX10_put_4 : decode cX10_put 4 = .ok (.ifCond .eq 13, 3) := by decide +kernel
theorem dX10_put_7 : decode cX10_put 7 = .ok (.iload_n 2, 1) := by decide +kernel
theorem dX10_put_8 : decode cX10_put 8 = .ok (.iconst 0, 1) := by decide +kernel
theorem dX10_put_9 : decode cX10_put 9 = .ok (.bipush 31, 2) := by decide +kernel
theorem dX10_put_11 : decode cX10_put 11 = .ok (.invokestatic 86, 3) := by decide +kernel
theorem dX10_put_14 : decode cX10_put 14 = .ok (.ifCond .ne 6, 3) := by decide +kernel
theorem dX10_put_17 : decode cX10_put 17 = .ok (.bipush (-2), 2) := by decide +kernel
theorem dX10_put_19 : decode cX10_put 19 = .ok (.ireturn, 1) := by decide +kernel
theorem dX10_put_20 : decode cX10_put 20 = .ok (.aload_n 0, 1) := by decide +kernel
theorem dX10_put_21 : decode cX10_put 21 = .ok (.getfield 13, 3) := by decide +kernel
theorem dX10_put_24 : decode cX10_put 24 = .ok (.bipush 80, 2) := by decide +kernel
theorem dX10_put_26 : decode cX10_put 26 = .ok (.iload_n 1, 1) := by decide +kernel
theorem dX10_put_27 : decode cX10_put 27 = .ok (.imul, 1) := by decide +kernel
theorem dX10_put_28 : decode cX10_put 28 = .ok (.iload_n 2, 1) := by decide +kernel
theorem dX10_put_29 : decode cX10_put 29 = .ok (.iadd, 1) := by decide +kernel
theorem dX10_put_30 : decode cX10_put 30 = .ok (.iaload, 1) := by decide +kernel
theorem dX10_put_31 : decode cX10_put 31 = .ok (.istore 4, 2) := by decide +kernel
theorem dX10_put_33 : decode cX10_put 33 = .ok (.aload_n 0, 1) := by decide +kernel
theorem dX10_put_34 : decode cX10_put 34 = .ok (.getfield 13, 3) := by decide +kernel
theorem dX10_put_37 : decode cX10_put 37 = .ok (.bipush 80, 2) := by decide +kernel
theorem dX10_put_39 : decode cX10_put 39 = .ok (.iload_n 1, 1) := by decide +kernel
theorem dX10_put_40 : decode cX10_put 40 = .ok (.imul, 1) := by decide +kernel
theorem dX10_put_41 : decode cX10_put 41 = .ok (.iload_n 2, 1) := by decide +kernel
theorem dX10_put_42 : decode cX10_put 42 = .ok (.iadd, 1) := by decide +kernel
theorem dX10_put_43 : decode cX10_put 43 = .ok (.aload_n 0, 1) := by decide +kernel
theorem dX10_put_44 : decode cX10_put 44 = .ok (.iload_n 3, 1) := by decide +kernel
theorem dX10_put_45 : decode cX10_put 45 = .ok (.invokevirtual 102, 3) := by decide +kernel
theorem dX10_put_48 : decode cX10_put 48 = .ok (.iastore, 1) := by decide +kernel
theorem dX10_put_49 : decode cX10_put 49 = .ok (.iload 4, 2) := by decide +kernel
theorem dX10_put_51 : decode cX10_put 51 = .ok (.ireturn, 1) := by decide +kernel
theorem dX10_at_0 : decode cX10_at 0 = .ok (.iload_n 1, 1) := by decide +kernel
theorem dX10_at_1 : decode cX10_at 1 = .ok (.invokestatic 98, 3) := by decide +kernel
theorem dX10_at_4 : decode cX10_at 4 = .ok (.ifCond .eq 13, 3) := by decide +kernel
theorem dX10_at_7 : decode cX10_at 7 = .ok (.iload_n 2, 1) := by decide +kernel
theorem dX10_at_8 : decode cX10_at 8 = .ok (.iconst (-1), 1) := by decide +kernel
theorem dX10_at_9 : decode cX10_at 9 = .ok (.bipush 31, 2) := by decide +kernel
theorem dX10_at_11 : decode cX10_at 11 = .ok (.invokestatic 86, 3) := by decide +kernel
theorem dX10_at_14 : decode cX10_at 14 = .ok (.ifCond .ne 8, 3) := by decide +kernel
theorem dX10_at_17 : decode cX10_at 17 = .ok (.bipush (-2), 2) := by decide +kernel
theorem dX10_at_19 : decode cX10_at 19 = .ok (.goto 26, 3) := by decide +kernel
theorem dX10_at_22 : decode cX10_at 22 = .ok (.iload_n 2, 1) := by decide +kernel
theorem dX10_at_23 : decode cX10_at 23 = .ok (.ifCond .ge 11, 3) := by decide +kernel
theorem dX10_at_26 : decode cX10_at 26 = .ok (.aload_n 0, 1) := by decide +kernel
theorem dX10_at_27 : decode cX10_at 27 = .ok (.iload_n 1, 1) := by decide +kernel
theorem dX10_at_28 : decode cX10_at 28 = .ok (.invokevirtual 94, 3) := by decide +kernel
theorem dX10_at_31 : decode cX10_at 31 = .ok (.goto 14, 3) := by decide +kernel
theorem dX10_at_34 : decode cX10_at 34 = .ok (.aload_n 0, 1) := by decide +kernel
theorem dX10_at_35 : decode cX10_at 35 = .ok (.getfield 13, 3) := by decide +kernel
theorem dX10_at_38 : decode cX10_at 38 = .ok (.bipush 80, 2) := by decide +kernel
theorem dX10_at_40 : decode cX10_at 40 = .ok (.iload_n 1, 1) := by decide +kernel
theorem dX10_at_41 : decode cX10_at 41 = .ok (.imul, 1) := by decide +kernel
theorem dX10_at_42 : decode cX10_at 42 = .ok (.iload_n 2, 1) := by decide +kernel
theorem dX10_at_43 : decode cX10_at 43 = .ok (.iadd, 1) := by decide +kernel
theorem dX10_at_44 : decode cX10_at 44 = .ok (.iaload, 1) := by decide +kernel
theorem dX10_at_45 : decode cX10_at 45 = .ok (.ireturn, 1) := by decide +kernel
theorem dX10_clear_0 : decode cX10_clear 0 = .ok (.iload_n 1, 1) := by decide +kernel
theorem dX10_clear_1 : decode cX10_clear 1 = .ok (.invokestatic 98, 3) := by decide +kernel
theorem dX10_clear_4 : decode cX10_clear 4 = .ok (.ifCond .ne 6, 3) := by decide +kernel
theorem dX10_clear_7 : decode cX10_clear 7 = .ok (.bipush (-2), 2) := by decide +kernel
theorem dX10_clear_9 : decode cX10_clear 9 = .ok (.ireturn, 1) := by decide +kernel
theorem dX10_clear_10 : decode cX10_clear 10 = .ok (.aload_n 0, 1) := by decide +kernel
theorem dX10_clear_11 : decode cX10_clear 11 = .ok (.iload_n 1, 1) := by decide +kernel
theorem dX10_clear_12 : decode cX10_clear 12 = .ok (.invokevirtual 94, 3) := by decide +kernel
theorem dX10_clear_15 : decode cX10_clear 15 = .ok (.istore_n 2, 1) := by decide +kernel
theorem dX10_clear_16 : decode cX10_clear 16 = .ok (.aload_n 0, 1) := by decide +kernel
theorem dX10_clear_17 : decode cX10_clear 17 = .ok (.iload_n 1, 1) := by decide +kernel
theorem dX10_clear_18 : decode cX10_clear 18 = .ok (.invokevirtual 105, 3) := by decide +kernel
theorem dX10_clear_21 : decode cX10_clear 21 = .ok (.iload_n 2, 1) := by decide +kernel
theorem dX10_clear_22 : decode cX10_clear 22 = .ok (.ireturn, 1) := by decide +kernel
theorem dX10_sum_0 : decode cX10_sum 0 = .ok (.iload_n 1, 1) := by decide +kernel
theorem dX10_sum_1 : decode cX10_sum 1 = .ok (.invokestatic 98, 3) := by decide +kernel
theorem dX10_sum_4 : decode cX10_sum 4 = .ok (.ifCond .eq 18, 3) := by decide +kernel
theorem dX10_sum_7 : decode cX10_sum 7 = .ok (.iload_n 2, 1) := by decide +kernel
theorem dX10_sum_8 : decode cX10_sum 8 = .ok (.invokestatic 98, 3) := by decide +kernel
theorem dX10_sum_11 : decode cX10_sum 11 = .ok (.ifCond .eq 11, 3) := by decide +kernel
theorem dX10_sum_14 : decode cX10_sum 14 = .ok (.iload 4, 2) := by decide +kernel
theorem dX10_sum_16 : decode cX10_sum 16 = .ok (.invokestatic 98, 3) := by decide +kernel
theorem dX10_sum_19 : decode cX10_sum 19 = .ok (.ifCond .ne 6, 3) := by decide +kernel
theorem dX10_sum_22 : decode cX10_sum 22 = .ok (.bipush (-2), 2) := by decide +kernel
theorem dX10_sum_24 : decode cX10_sum 24 = .ok (.ireturn, 1) := by decide +kernel
theorem dX10_sum_25 : decode cX10_sum 25 = .ok (.aload_n 0, 1) := by decide +kernel
theorem dX10_sum_26 : decode cX10_sum 26 = .ok (.iload_n 3, 1) := by decide +kernel
theorem dX10_sum_27 : decode cX10_sum 27 = .ok (.invokevirtual 102, 3) := by decide +kernel
theorem dX10_sum_30 : decode cX10_sum 30 = .ok (.istore 5, 2) := by decide +kernel
theorem dX10_sum_32 : decode cX10_sum 32 = .ok (.iconst 0, 1) := by decide +kernel
theorem dX10_sum_33 : decode cX10_sum 33 = .ok (.istore 6, 2) := by decide +kernel
theorem dX10_sum_35 : decode cX10_sum 35 = .ok (.iload 6, 2) := by decide +kernel
theorem dX10_sum_37 : decode cX10_sum 37 = .ok (.bipush 80, 2) := by decide +kernel
theorem dX10_sum_39 : decode cX10_sum 39 = .ok (.if_icmp .ge 54, 3) := by decide +kernel
theorem dX10_sum_42 : decode cX10_sum 42 = .ok (.aload_n 0, 1) := by decide +kernel
theorem dX10_sum_43 : decode cX10_sum 43 = .ok (.getfield 13, 3) := by decide +kernel
theorem dX10_sum_46 : decode cX10_sum 46 = .ok (.sipush 1200, 3) := by decide +kernel
theorem dX10_sum_49 : decode cX10_sum 49 = .ok (.iload 6, 2) := by decide +kernel
theorem dX10_sum_51 : decode cX10_sum 51 = .ok (.iadd, 1) := by decide +kernel
theorem dX10_sum_52 : decode cX10_sum 52 = .ok (.aload_n 0, 1) := by decide +kernel
theorem dX10_sum_53 : decode cX10_sum 53 = .ok (.getfield 13, 3) := by decide +kernel
theorem dX10_sum_56 : decode cX10_sum 56 = .ok (.bipush 80, 2) := by decide +kernel
theorem dX10_sum_58 : decode cX10_sum 58 = .ok (.iload_n 2, 1) := by decide +kernel
theorem dX10_sum_59 : decode cX10_sum 59 = .ok (.imul, 1) := by decide +kernel
theorem dX10_sum_60 : decode cX10_sum 60 = .ok (.iload 6, 2) := by decide +kernel
theorem dX10_sum_62 : decode cX10_sum 62 = .ok (.iadd, 1) := by decide +kernel
theorem dX10_sum_63 : decode cX10_sum 63 = .ok (.iaload, 1) := by decide +kernel
theorem dX10_sum_64 : decode cX10_sum 64 = .ok (.iload 5, 2) := by decide +kernel
theorem dX10_sum_66 : decode cX10_sum 66 = .ok (.imul, 1) := by decide +kernel
theorem dX10_sum_67 : decode cX10_sum 67 = .ok (.aload_n 0, 1) := by decide +kernel
theorem dX10_sum_68 : decode cX10_sum 68 = .ok (.getfield 13, 3) := by decide +kernel
theorem dX10_sum_71 : decode cX10_sum 71 = .ok (.bipush 80, 2) := by decide +kernel
theorem dX10_sum_73 : decode cX10_sum 73 = .ok (.iload 4, 2) := by decide +kernel
theorem dX10_sum_75 : decode cX10_sum 75 = .ok (.imul, 1) := by decide +kernel
theorem dX10_sum_76 : decode cX10_sum 76 = .ok (.iload 6, 2) := by decide +kernel
theorem dX10_sum_78 : decode cX10_sum 78 = .ok (.iadd, 1) := by decide +kernel
theorem dX10_sum_79 : decode cX10_sum 79 = .ok (.iaload, 1) := by decide +kernel
theorem dX10_sum_80 : decode cX10_sum 80 = .ok (.iadd, 1) := by decide +kernel
theorem dX10_sum_81 : decode cX10_sum 81 = .ok (.aload_n 0, 1) := by decide +kernel
theorem dX10_sum_82 : decode cX10_sum 82 = .ok (.getfield 64, 3) := by decide +kernel
theorem dX10_sum_85 : decode cX10_sum 85 = .ok (.irem, 1) := by decide +kernel
theorem dX10_sum_86 : decode cX10_sum 86 = .ok (.iastore, 1) := by decide +kernel
theorem dX10_sum_87 : decode cX10_sum 87 = .ok (.iinc 6 1, 3) := by decide +kernel
theorem dX10_sum_90 : decode cX10_sum 90 = .ok (.goto (-55), 3) := by decide +kernel
theorem dX10_sum_93 : decode cX10_sum 93 = .ok (.aload_n 0, 1) := by decide +kernel
theorem dX10_sum_94 : decode cX10_sum 94 = .ok (.iload_n 1, 1) := by decide +kernel
theorem dX10_sum_95 : decode cX10_sum 95 = .ok (.bipush 15, 2) := by decide +kernel
theorem dX10_sum_97 : decode cX10_sum 97 = .ok (.invokevirtual 109, 3) := by decide +kernel
theorem dX10_sum_100 : decode cX10_sum 100 = .ok (.ireturn, 1) := by decide +kernel
theorem dX10_multiply_0 : decode cX10_multiply 0 = .ok (.aload_n 0, 1) := by decide +kernel
theorem dX10_multiply_1 : decode cX10_multiply 1 = .ok (.iload_n 3, 1) := by decide +kernel
theorem dX10_multiply_2 : decode cX10_multiply 2 = .ok (.invokevirtual 105, 3) := by decide +kernel
theorem dX10_multiply_5 : decode cX10_multiply 5 = .ok (.aload_n 0, 1) := by decide +kernel
theorem dX10_multiply_6 : decode cX10_multiply 6 = .ok (.iload_n 1, 1) := by decide +kernel
theorem dX10_multiply_7 : decode cX10_multiply 7 = .ok (.invokevirtual 94, 3) := by decide +kernel
theorem dX10_multiply_10 : decode cX10_multiply 10 = .ok (.istore 4, 2) := by decide +kernel
theorem dX10_multiply_12 : decode cX10_multiply 12 = .ok (.aload_n 0, 1) := by decide +kernel
theorem dX10_multiply_13 : decode cX10_multiply 13 = .ok (.iload_n 2, 1) := by decide +kernel
theorem dX10_multiply_14 : decode cX10_multiply 14 = .ok (.invokevirtual 94, 3) := by decide +kernel
theorem dX10_multiply_17 : decode cX10_multiply 17 = .ok (.istore 5, 2) := by decide +kernel
theorem dX10_multiply_19 : decode cX10_multiply 19 = .ok (.iconst 0, 1) := by decide +kernel
theorem dX10_multiply_20 : decode cX10_multiply 20 = .ok (.istore 6, 2) := by decide +kernel
theorem dX10_multiply_22 : decode cX10_multiply 22 = .ok (.iload 6, 2) := by decide +kernel
theorem dX10_multiply_24 : decode cX10_multiply 24 = .ok (.iload 4, 2) := by decide +kernel
theorem dX10_multiply_26 : decode cX10_multiply 26 = .ok (.if_icmp .ge 86, 3) := by decide +kernel
theorem dX10_multiply_29 : decode cX10_multiply 29 = .ok (.iconst 0, 1) := by decide +kernel
theorem dX10_multiply_30 : decode cX10_multiply 30 = .ok (.istore 7, 2) := by decide +kernel
theorem dX10_multiply_32 : decode cX10_multiply 32 = .ok (.iload 7, 2) := by decide +kernel
theorem dX10_multiply_34 : decode cX10_multiply 34 = .ok (.iload 5, 2) := by decide +kernel
theorem dX10_multiply_36 : decode cX10_multiply 36 = .ok (.if_icmp .ge 70, 3) := by decide +kernel
theorem dX10_multiply_39 : decode cX10_multiply 39 = .ok (.aload_n 0, 1) := by decide +kernel
theorem dX10_multiply_40 : decode cX10_multiply 40 = .ok (.getfield 13, 3) := by decide +kernel
theorem dX10_multiply_43 : decode cX10_multiply 43 = .ok (.bipush 80, 2) := by decide +kernel
theorem dX10_multiply_45 : decode cX10_multiply 45 = .ok (.iload_n 3, 1) := by decide +kernel
theorem dX10_multiply_46 : decode cX10_multiply 46 = .ok (.imul, 1) := by decide +kernel
theorem dX10_multiply_47 : decode cX10_multiply 47 = .ok (.iload 6, 2) := by decide +kernel
theorem dX10_multiply_49 : decode cX10_multiply 49 = .ok (.iadd, 1) := by decide +kernel
theorem dX10_multiply_50 : decode cX10_multiply 50 = .ok (.iload 7, 2) := by decide +kernel
theorem dX10_multiply_52 : decode cX10_multiply 52 = .ok (.iadd, 1) := by decide +kernel
theorem dX10_multiply_53 : decode cX10_multiply 53 = .ok (.aload_n 0, 1) := by decide +kernel
theorem dX10_multiply_54 : decode cX10_multiply 54 = .ok (.getfield 13, 3) := by decide +kernel
theorem dX10_multiply_57 : decode cX10_multiply 57 = .ok (.bipush 80, 2) := by decide +kernel
theorem dX10_multiply_59 : decode cX10_multiply 59 = .ok (.iload_n 3, 1) := by decide +kernel
theorem dX10_multiply_60 : decode cX10_multiply 60 = .ok (.imul, 1) := by decide +kernel
theorem dX10_multiply_61 : decode cX10_multiply 61 = .ok (.iload 6, 2) := by decide +kernel
theorem dX10_multiply_63 : decode cX10_multiply 63 = .ok (.iadd, 1) := by decide +kernel
theorem dX10_multiply_64 : decode cX10_multiply 64 = .ok (.iload 7, 2) := by decide +kernel
theorem dX10_multiply_66 : decode cX10_multiply 66 = .ok (.iadd, 1) := by decide +kernel
theorem dX10_multiply_67 : decode cX10_multiply 67 = .ok (.iaload, 1) := by decide +kernel
theorem dX10_multiply_68 : decode cX10_multiply 68 = .ok (.aload_n 0, 1) := by decide +kernel
theorem dX10_multiply_69 : decode cX10_multiply 69 = .ok (.getfield 13, 3) := by decide +kernel
theorem dX10_multiply_72 : decode cX10_multiply 72 = .ok (.bipush 80, 2) := by decide +kernel
theorem dX10_multiply_74 : decode cX10_multiply 74 = .ok (.iload_n 1, 1) := by decide +kernel
theorem dX10_multiply_75 : decode cX10_multiply 75 = .ok (.imul, 1) := by decide +kernel
theorem dX10_multiply_76 : decode cX10_multiply 76 = .ok (.iload 6, 2) := by decide +kernel
theorem dX10_multiply_78 : decode cX10_multiply 78 = .ok (.iadd, 1) := by decide +kernel
theorem dX10_multiply_79 : decode cX10_multiply 79 = .ok (.iaload, 1) := by decide +kernel
theorem dX10_multiply_80 : decode cX10_multiply 80 = .ok (.aload_n 0, 1) := by decide +kernel
theorem dX10_multiply_81 : decode cX10_multiply 81 = .ok (.getfield 13, 3) := by decide +kernel
theorem dX10_multiply_84 : decode cX10_multiply 84 = .ok (.bipush 80, 2) := by decide +kernel
theorem dX10_multiply_86 : decode cX10_multiply 86 = .ok (.iload_n 2, 1) := by decide +kernel
theorem dX10_multiply_87 : decode cX10_multiply 87 = .ok (.imul, 1) := by decide +kernel
theorem dX10_multiply_88 : decode cX10_multiply 88 = .ok (.iload 7, 2) := by decide +kernel
theorem dX10_multiply_90 : decode cX10_multiply 90 = .ok (.iadd, 1) := by decide +kernel
theorem dX10_multiply_91 : decode cX10_multiply 91 = .ok (.iaload, 1) := by decide +kernel
theorem dX10_multiply_92 : decode cX10_multiply 92 = .ok (.imul, 1) := by decide +kernel
theorem dX10_multiply_93 : decode cX10_multiply 93 = .ok (.iadd, 1) := by decide +kernel
theorem dX10_multiply_94 : decode cX10_multiply 94 = .ok (.aload_n 0, 1) := by decide +kernel
theorem dX10_multiply_95 : decode cX10_multiply 95 = .ok (.getfield 64, 3) := by decide +kernel
theorem dX10_multiply_98 : decode cX10_multiply 98 = .ok (.irem, 1) := by decide +kernel
theorem dX10_multiply_99 : decode cX10_multiply 99 = .ok (.iastore, 1) := by decide +kernel
theorem dX10_multiply_100 : decode cX10_multiply 100 = .ok (.iinc 7 1, 3) := by decide +kernel
theorem dX10_multiply_103 : decode cX10_multiply 103 = .ok (.goto (-71), 3) := by decide +kernel
theorem dX10_multiply_106 : decode cX10_multiply 106 = .ok (.iinc 6 1, 3) := by decide +kernel
theorem dX10_multiply_109 : decode cX10_multiply 109 = .ok (.goto (-87), 3) := by decide +kernel
theorem dX10_multiply_112 : decode cX10_multiply 112 = .ok (.return_, 1) := by decide +kernel
theorem dX10_isWay_0 : decode cX10_isWay 0 = .ok (.iload_n 1, 1) := by decide +kernel
theorem dX10_isWay_1 : decode cX10_isWay 1 = .ok (.iconst 0, 1) := by decide +kernel
theorem dX10_isWay_2 : decode cX10_isWay 2 = .ok (.aload_n 0, 1) := by decide +kernel
theorem dX10_isWay_3 : decode cX10_isWay 3 = .ok (.getfield 112, 3) := by decide +kernel
theorem dX10_isWay_6 : decode cX10_isWay 6 = .ok (.iconst 1, 1) := by decide +kernel
theorem dX10_isWay_7 : decode cX10_isWay 7 = .ok (.isub, 1) := by decide +kernel
theorem dX10_isWay_8 : decode cX10_isWay 8 = .ok (.invokestatic 86, 3) := by decide +kernel
theorem dX10_isWay_11 : decode cX10_isWay 11 = .ok (.ireturn, 1) := by decide +kernel
theorem dX10_way_0 : decode cX10_way 0 = .ok (.iload_n 1, 1) := by decide +kernel
theorem dX10_way_1 : decode cX10_way 1 = .ok (.iconst 0, 1) := by decide +kernel
theorem dX10_way_2 : decode cX10_way 2 = .ok (.iconst 5, 1) := by decide +kernel
theorem dX10_way_3 : decode cX10_way 3 = .ok (.invokestatic 86, 3) := by decide +kernel
theorem dX10_way_6 : decode cX10_way 6 = .ok (.ifCond .eq 13, 3) := by decide +kernel
theorem dX10_way_9 : decode cX10_way 9 = .ok (.iload_n 2, 1) := by decide +kernel
theorem dX10_way_10 : decode cX10_way 10 = .ok (.iconst 1, 1) := by decide +kernel
theorem dX10_way_11 : decode cX10_way 11 = .ok (.bipush 16, 2) := by decide +kernel
theorem dX10_way_13 : decode cX10_way 13 = .ok (.invokestatic 86, 3) := by decide +kernel
theorem dX10_way_16 : decode cX10_way 16 = .ok (.ifCond .ne 6, 3) := by decide +kernel
theorem dX10_way_19 : decode cX10_way 19 = .ok (.bipush (-2), 2) := by decide +kernel
theorem dX10_way_21 : decode cX10_way 21 = .ok (.ireturn, 1) := by decide +kernel
theorem dX10_way_22 : decode cX10_way 22 = .ok (.aload_n 0, 1) := by decide +kernel
theorem dX10_way_23 : decode cX10_way 23 = .ok (.getfield 112, 3) := by decide +kernel
theorem dX10_way_26 : decode cX10_way 26 = .ok (.bipush 8, 2) := by decide +kernel
theorem dX10_way_28 : decode cX10_way 28 = .ok (.if_icmp .ne 6, 3) := by decide +kernel
theorem dX10_way_31 : decode cX10_way 31 = .ok (.bipush (-4), 2) := by decide +kernel
theorem dX10_way_33 : decode cX10_way 33 = .ok (.ireturn, 1) := by decide +kernel
theorem dX10_way_34 : decode cX10_way 34 = .ok (.aload_n 0, 1) := by decide +kernel
theorem dX10_way_35 : decode cX10_way 35 = .ok (.getfield 17, 3) := by decide +kernel
theorem dX10_way_38 : decode cX10_way 38 = .ok (.aload_n 0, 1) := by decide +kernel
theorem dX10_way_39 : decode cX10_way 39 = .ok (.getfield 112, 3) := by decide +kernel
theorem dX10_way_42 : decode cX10_way 42 = .ok (.iload_n 1, 1) := by decide +kernel
theorem dX10_way_43 : decode cX10_way 43 = .ok (.iastore, 1) := by decide +kernel
theorem dX10_way_44 : decode cX10_way 44 = .ok (.aload_n 0, 1) := by decide +kernel
theorem dX10_way_45 : decode cX10_way 45 = .ok (.getfield 20, 3) := by decide +kernel
theorem dX10_way_48 : decode cX10_way 48 = .ok (.aload_n 0, 1) := by decide +kernel
theorem dX10_way_49 : decode cX10_way 49 = .ok (.getfield 112, 3) := by decide +kernel
theorem dX10_way_52 : decode cX10_way 52 = .ok (.iload_n 2, 1) := by decide +kernel
theorem dX10_way_53 : decode cX10_way 53 = .ok (.iastore, 1) := by decide +kernel
theorem dX10_way_54 : decode cX10_way 54 = .ok (.aload_n 0, 1) := by decide +kernel
theorem dX10_way_55 : decode cX10_way 55 = .ok (.dup, 1) := by decide +kernel
theorem dX10_way_56 : decode cX10_way 56 = .ok (.getfield 112, 3) := by decide +kernel
theorem dX10_way_59 : decode cX10_way 59 = .ok (.iconst 1, 1) := by decide +kernel
theorem dX10_way_60 : decode cX10_way 60 = .ok (.iadd, 1) := by decide +kernel
theorem dX10_way_61 : decode cX10_way 61 = .ok (.putfield 112, 3) := by decide +kernel
theorem dX10_way_64 : decode cX10_way 64 = .ok (.aload_n 0, 1) := by decide +kernel
theorem dX10_way_65 : decode cX10_way 65 = .ok (.getfield 112, 3) := by decide +kernel
theorem dX10_way_68 : decode cX10_way 68 = .ok (.iconst 1, 1) := by decide +kernel
theorem dX10_way_69 : decode cX10_way 69 = .ok (.isub, 1) := by decide +kernel
theorem dX10_way_70 : decode cX10_way 70 = .ok (.ireturn, 1) := by decide +kernel
theorem dX10_layOut_0 : decode cX10_layOut 0 = .ok (.aload_n 0, 1) := by decide +kernel
theorem dX10_layOut_1 : decode cX10_layOut 1 = .ok (.getfield 20, 3) := by decide +kernel
theorem dX10_layOut_4 : decode cX10_layOut 4 = .ok (.iload_n 1, 1) := by decide +kernel
theorem dX10_layOut_5 : decode cX10_layOut 5 = .ok (.iaload, 1) := by decide +kernel
theorem dX10_layOut_6 : decode cX10_layOut 6 = .ok (.istore_n 2, 1) := by decide +kernel
theorem dX10_layOut_7 : decode cX10_layOut 7 = .ok (.iconst 0, 1) := by decide +kernel
theorem dX10_layOut_8 : decode cX10_layOut 8 = .ok (.istore_n 3, 1) := by decide +kernel
theorem dX10_layOut_9 : decode cX10_layOut 9 = .ok (.iload_n 3, 1) := by decide +kernel
theorem dX10_layOut_10 : decode cX10_layOut 10 = .ok (.bipush 32, 2) := by decide +kernel
theorem dX10_layOut_12 : decode cX10_layOut 12 = .ok (.if_icmp .gt 150, 3) := by decide +kernel
theorem dX10_layOut_15 : decode cX10_layOut 15 = .ok (.iload_n 3, 1) := by decide +kernel
theorem dX10_layOut_16 : decode cX10_layOut 16 = .ok (.iconst 1, 1) := by decide +kernel
theorem dX10_layOut_17 : decode cX10_layOut 17 = .ok (.iadd, 1) := by decide +kernel
theorem dX10_layOut_18 : decode cX10_layOut 18 = .ok (.iconst 2, 1) := by decide +kernel
theorem dX10_layOut_19 : decode cX10_layOut 19 = .ok (.idiv, 1) := by decide +kernel
theorem dX10_layOut_20 : decode cX10_layOut 20 = .ok (.istore 4, 2) := by decide +kernel
theorem dX10_layOut_22 : decode cX10_layOut 22 = .ok (.aload_n 0, 1) := by decide +kernel
theorem dX10_layOut_23 : decode cX10_layOut 23 = .ok (.getfield 23, 3) := by decide +kernel
theorem dX10_layOut_26 : decode cX10_layOut 26 = .ok (.iload_n 3, 1) := by decide +kernel
theorem dX10_layOut_27 : decode cX10_layOut 27 = .ok (.iload_n 3, 1) := by decide +kernel
theorem dX10_layOut_28 : decode cX10_layOut 28 = .ok (.iload_n 2, 1) := by decide +kernel
theorem dX10_layOut_29 : decode cX10_layOut 29 = .ok (.if_icmp .gt 11, 3) := by decide +kernel
theorem dX10_layOut_32 : decode cX10_layOut 32 = .ok (.iload_n 3, 1) := by decide +kernel
theorem dX10_layOut_33 : decode cX10_layOut 33 = .ok (.i2l, 1) := by decide +kernel
theorem dX10_layOut_34 : decode cX10_layOut 34 = .ok (.iload_n 3, 1) := by decide +kernel
theorem dX10_layOut_35 : decode cX10_layOut 35 = .ok (.i2l, 1) := by decide +kernel
theorem dX10_layOut_36 : decode cX10_layOut 36 = .ok (.lmul, 1) := by decide +kernel
theorem dX10_layOut_37 : decode cX10_layOut 37 = .ok (.goto 24, 3) := by decide +kernel
theorem dX10_layOut_40 : decode cX10_layOut 40 = .ok (.ldc2_w 115, 3) := by decide +kernel
theorem dX10_layOut_43 : decode cX10_layOut 43 = .ok (.aload_n 0, 1) := by decide +kernel
theorem dX10_layOut_44 : decode cX10_layOut 44 = .ok (.getfield 23, 3) := by decide +kernel
theorem dX10_layOut_47 : decode cX10_layOut 47 = .ok (.iload 4, 2) := by decide +kernel
theorem dX10_layOut_49 : decode cX10_layOut 49 = .ok (.laload, 1) := by decide +kernel
theorem dX10_layOut_50 : decode cX10_layOut 50 = .ok (.lmul, 1) := by decide +kernel
theorem dX10_layOut_51 : decode cX10_layOut 51 = .ok (.aload_n 0, 1) := by decide +kernel
theorem dX10_layOut_52 : decode cX10_layOut 52 = .ok (.getfield 23, 3) := by decide +kernel
theorem dX10_layOut_55 : decode cX10_layOut 55 = .ok (.iload_n 3, 1) := by decide +kernel
theorem dX10_layOut_56 : decode cX10_layOut 56 = .ok (.iload 4, 2) := by decide +kernel
theorem dX10_layOut_58 : decode cX10_layOut 58 = .ok (.isub, 1) := by decide +kernel
theorem dX10_layOut_59 : decode cX10_layOut 59 = .ok (.laload, 1) := by decide +kernel
theorem dX10_layOut_60 : decode cX10_layOut 60 = .ok (.ladd, 1) := by decide +kernel
theorem dX10_layOut_61 : decode cX10_layOut 61 = .ok (.lastore, 1) := by decide +kernel
theorem dX10_layOut_62 : decode cX10_layOut 62 = .ok (.aload_n 0, 1) := by decide +kernel
theorem dX10_layOut_63 : decode cX10_layOut 63 = .ok (.getfield 17, 3) := by decide +kernel
theorem dX10_layOut_66 : decode cX10_layOut 66 = .ok (.iload_n 1, 1) := by decide +kernel
theorem dX10_layOut_67 : decode cX10_layOut 67 = .ok (.iaload, 1) := by decide +kernel
theorem dX10_layOut_68 : decode cX10_layOut 68 = .ok (.iconst 4, 1) := by decide +kernel
theorem dX10_layOut_69 : decode cX10_layOut 69 = .ok (.if_icmp .ne 18, 3) := by decide +kernel
theorem dX10_layOut_72 : decode cX10_layOut 72 = .ok (.iload_n 3, 1) := by decide +kernel
theorem dX10_layOut_73 : decode cX10_layOut 73 = .ok (.iconst 3, 1) := by decide +kernel
theorem dX10_layOut_74 : decode cX10_layOut 74 = .ok (.iload_n 2, 1) := by decide +kernel
theorem dX10_layOut_75 : decode cX10_layOut 75 = .ok (.imul, 1) := by decide +kernel
theorem dX10_layOut_76 : decode cX10_layOut 76 = .ok (.if_icmp .gt 7, 3) := by decide +kernel
theorem dX10_layOut_79 : decode cX10_layOut 79 = .ok (.iconst 1, 1) := by decide +kernel
theorem dX10_layOut_80 : decode cX10_layOut 80 = .ok (.goto 22, 3) := by decide +kernel
theorem dX10_layOut_83 : decode cX10_layOut 83 = .ok (.iconst 0, 1) := by decide +kernel
theorem dX10_layOut_84 : decode cX10_layOut 84 = .ok (.goto 18, 3) := by decide +kernel
theorem dX10_layOut_87 : decode cX10_layOut 87 = .ok (.iload_n 3, 1) := by decide +kernel
theorem dX10_layOut_88 : decode cX10_layOut 88 = .ok (.iload_n 2, 1) := by decide +kernel
theorem dX10_layOut_89 : decode cX10_layOut 89 = .ok (.if_icmp .le 8, 3) := by decide +kernel
theorem dX10_layOut_92 : decode cX10_layOut 92 = .ok (.iload_n 3, 1) := by decide +kernel
theorem dX10_layOut_93 : decode cX10_layOut 93 = .ok (.iconst 2, 1) := by decide +kernel
theorem dX10_layOut_94 : decode cX10_layOut 94 = .ok (.if_icmp .gt 7, 3) := by decide +kernel
theorem dX10_layOut_97 : decode cX10_layOut 97 = .ok (.iconst 1, 1) := by decide +kernel
theorem dX10_layOut_98 : decode cX10_layOut 98 = .ok (.goto 4, 3) := by decide +kernel
theorem dX10_layOut_101 : decode cX10_layOut 101 = .ok (.iconst 0, 1) := by decide +kernel
theorem dX10_layOut_102 : decode cX10_layOut 102 = .ok (.istore 5, 2) := by decide +kernel
theorem dX10_layOut_104 : decode cX10_layOut 104 = .ok (.aload_n 0, 1) := by decide +kernel
theorem dX10_layOut_105 : decode cX10_layOut 105 = .ok (.getfield 27, 3) := by decide +kernel
theorem dX10_layOut_108 : decode cX10_layOut 108 = .ok (.iload_n 3, 1) := by decide +kernel
theorem dX10_layOut_109 : decode cX10_layOut 109 = .ok (.iload 5, 2) := by decide +kernel
theorem dX10_layOut_111 : decode cX10_layOut 111 = .ok (.ifCond .ne 20, 3) := by decide +kernel
theorem dX10_layOut_114 : decode cX10_layOut 114 = .ok (.ldc2_w 117, 3) := by decide +kernel
theorem dX10_layOut_117 : decode cX10_layOut 117 = .ok (.aload_n 0, 1) := by decide +kernel
theorem dX10_layOut_118 : decode cX10_layOut 118 = .ok (.getfield 27, 3) := by decide +kernel
theorem dX10_layOut_121 : decode cX10_layOut 121 = .ok (.iload_n 3, 1) := by decide +kernel
theorem dX10_layOut_122 : decode cX10_layOut 122 = .ok (.iconst 2, 1) := by decide +kernel
theorem dX10_layOut_123 : decode cX10_layOut 123 = .ok (.iadd, 1) := by decide +kernel
theorem dX10_layOut_124 : decode cX10_layOut 124 = .ok (.iconst 3, 1) := by decide +kernel
theorem dX10_layOut_125 : decode cX10_layOut 125 = .ok (.idiv, 1) := by decide +kernel
theorem dX10_layOut_126 : decode cX10_layOut 126 = .ok (.laload, 1) := by decide +kernel
theorem dX10_layOut_127 : decode cX10_layOut 127 = .ok (.lmul, 1) := by decide +kernel
theorem dX10_layOut_128 : decode cX10_layOut 128 = .ok (.goto 27, 3) := by decide +kernel
theorem dX10_layOut_131 : decode cX10_layOut 131 = .ok (.aload_n 0, 1) := by decide +kernel
theorem dX10_layOut_132 : decode cX10_layOut 132 = .ok (.getfield 17, 3) := by decide +kernel
theorem dX10_layOut_135 : decode cX10_layOut 135 = .ok (.iload_n 1, 1) := by decide +kernel
theorem dX10_layOut_136 : decode cX10_layOut 136 = .ok (.iaload, 1) := by decide +kernel
theorem dX10_layOut_137 : decode cX10_layOut 137 = .ok (.iconst 4, 1) := by decide +kernel
theorem dX10_layOut_138 : decode cX10_layOut 138 = .ok (.if_icmp .ne 12, 3) := by decide +kernel
theorem dX10_layOut_141 : decode cX10_layOut 141 = .ok (.aload_n 0, 1) := by decide +kernel
theorem dX10_layOut_142 : decode cX10_layOut 142 = .ok (.getfield 23, 3) := by decide +kernel
theorem dX10_layOut_145 : decode cX10_layOut 145 = .ok (.iload_n 3, 1) := by decide +kernel
theorem dX10_layOut_146 : decode cX10_layOut 146 = .ok (.laload, 1) := by decide +kernel
theorem dX10_layOut_147 : decode cX10_layOut 147 = .ok (.goto 8, 3) := by decide +kernel
theorem dX10_layOut_150 : decode cX10_layOut 150 = .ok (.iload_n 3, 1) := by decide +kernel
theorem dX10_layOut_151 : decode cX10_layOut 151 = .ok (.i2l, 1) := by decide +kernel
theorem dX10_layOut_152 : decode cX10_layOut 152 = .ok (.iload_n 3, 1) := by decide +kernel
theorem dX10_layOut_153 : decode cX10_layOut 153 = .ok (.i2l, 1) := by decide +kernel
theorem dX10_layOut_154 : decode cX10_layOut 154 = .ok (.lmul, 1) := by decide +kernel
theorem dX10_layOut_155 : decode cX10_layOut 155 = .ok (.lastore, 1) := by decide +kernel
theorem dX10_layOut_156 : decode cX10_layOut 156 = .ok (.iinc 3 1, 3) := by decide +kernel
theorem dX10_layOut_159 : decode cX10_layOut 159 = .ok (.goto (-150), 3) := by decide +kernel
theorem dX10_layOut_162 : decode cX10_layOut 162 = .ok (.return_, 1) := by decide +kernel
theorem dX10_powerFor_0 : decode cX10_powerFor 0 = .ok (.iconst 0, 1) := by decide +kernel
theorem dX10_powerFor_1 : decode cX10_powerFor 1 = .ok (.istore_n 1, 1) := by decide +kernel
theorem dX10_powerFor_2 : decode cX10_powerFor 2 = .ok (.iconst 1, 1) := by decide +kernel
theorem dX10_powerFor_3 : decode cX10_powerFor 3 = .ok (.iload_n 1, 1) := by decide +kernel
theorem dX10_powerFor_4 : decode cX10_powerFor 4 = .ok (.ishl, 1) := by decide +kernel
theorem dX10_powerFor_5 : decode cX10_powerFor 5 = .ok (.iload_n 0, 1) := by decide +kernel
theorem dX10_powerFor_6 : decode cX10_powerFor 6 = .ok (.if_icmp .ge 9, 3) := by decide +kernel
theorem dX10_powerFor_9 : decode cX10_powerFor 9 = .ok (.iinc 1 1, 3) := by decide +kernel
theorem dX10_powerFor_12 : decode cX10_powerFor 12 = .ok (.goto (-10), 3) := by decide +kernel
theorem dX10_powerFor_15 : decode cX10_powerFor 15 = .ok (.iload_n 1, 1) := by decide +kernel
theorem dX10_powerFor_16 : decode cX10_powerFor 16 = .ok (.ireturn, 1) := by decide +kernel
theorem dX10_same_0 : decode cX10_same 0 = .ok (.iconst 1, 1) := by decide +kernel
theorem dX10_same_1 : decode cX10_same 1 = .ok (.istore_n 3, 1) := by decide +kernel
theorem dX10_same_2 : decode cX10_same 2 = .ok (.iconst 0, 1) := by decide +kernel
theorem dX10_same_3 : decode cX10_same 3 = .ok (.istore 4, 2) := by decide +kernel
theorem dX10_same_5 : decode cX10_same 5 = .ok (.iload 4, 2) := by decide +kernel
theorem dX10_same_7 : decode cX10_same 7 = .ok (.bipush 32, 2) := by decide +kernel
theorem dX10_same_9 : decode cX10_same 9 = .ok (.if_icmp .ge 46, 3) := by decide +kernel
theorem dX10_same_12 : decode cX10_same 12 = .ok (.iload_n 3, 1) := by decide +kernel
theorem dX10_same_13 : decode cX10_same 13 = .ok (.ifCond .eq 34, 3) := by decide +kernel
theorem dX10_same_16 : decode cX10_same 16 = .ok (.aload_n 0, 1) := by decide +kernel
theorem dX10_same_17 : decode cX10_same 17 = .ok (.getfield 13, 3) := by decide +kernel
theorem dX10_same_20 : decode cX10_same 20 = .ok (.bipush 80, 2) := by decide +kernel
theorem dX10_same_22 : decode cX10_same 22 = .ok (.iload_n 1, 1) := by decide +kernel
theorem dX10_same_23 : decode cX10_same 23 = .ok (.imul, 1) := by decide +kernel
theorem dX10_same_24 : decode cX10_same 24 = .ok (.iload 4, 2) := by decide +kernel
theorem dX10_same_26 : decode cX10_same 26 = .ok (.iadd, 1) := by decide +kernel
theorem dX10_same_27 : decode cX10_same 27 = .ok (.iaload, 1) := by decide +kernel
theorem dX10_same_28 : decode cX10_same 28 = .ok (.aload_n 0, 1) := by decide +kernel
theorem dX10_same_29 : decode cX10_same 29 = .ok (.getfield 13, 3) := by decide +kernel
theorem dX10_same_32 : decode cX10_same 32 = .ok (.bipush 80, 2) := by decide +kernel
theorem dX10_same_34 : decode cX10_same 34 = .ok (.iload_n 2, 1) := by decide +kernel
theorem dX10_same_35 : decode cX10_same 35 = .ok (.imul, 1) := by decide +kernel
theorem dX10_same_36 : decode cX10_same 36 = .ok (.iload 4, 2) := by decide +kernel
theorem dX10_same_38 : decode cX10_same 38 = .ok (.iadd, 1) := by decide +kernel
theorem dX10_same_39 : decode cX10_same 39 = .ok (.iaload, 1) := by decide +kernel
theorem dX10_same_40 : decode cX10_same 40 = .ok (.if_icmp .ne 7, 3) := by decide +kernel
theorem dX10_same_43 : decode cX10_same 43 = .ok (.iconst 1, 1) := by decide +kernel
theorem dX10_same_44 : decode cX10_same 44 = .ok (.goto 4, 3) := by decide +kernel
theorem dX10_same_47 : decode cX10_same 47 = .ok (.iconst 0, 1) := by decide +kernel
theorem dX10_same_48 : decode cX10_same 48 = .ok (.istore_n 3, 1) := by decide +kernel
theorem dX10_same_49 : decode cX10_same 49 = .ok (.iinc 4 1, 3) := by decide +kernel
theorem dX10_same_52 : decode cX10_same 52 = .ok (.goto (-47), 3) := by decide +kernel
theorem dX10_same_55 : decode cX10_same 55 = .ok (.iload_n 3, 1) := by decide +kernel
theorem dX10_same_56 : decode cX10_same 56 = .ok (.ireturn, 1) := by decide +kernel
theorem dX10_costOf_0 : decode cX10_costOf 0 = .ok (.aload_n 0, 1) := by decide +kernel
theorem dX10_costOf_1 : decode cX10_costOf 1 = .ok (.iload_n 1, 1) := by decide +kernel
theorem dX10_costOf_2 : decode cX10_costOf 2 = .ok (.invokevirtual 94, 3) := by decide +kernel
theorem dX10_costOf_5 : decode cX10_costOf 5 = .ok (.istore 4, 2) := by decide +kernel
theorem dX10_costOf_7 : decode cX10_costOf 7 = .ok (.aload_n 0, 1) := by decide +kernel
theorem dX10_costOf_8 : decode cX10_costOf 8 = .ok (.iload_n 2, 1) := by decide +kernel
theorem dX10_costOf_9 : decode cX10_costOf 9 = .ok (.invokevirtual 94, 3) := by decide +kernel
theorem dX10_costOf_12 : decode cX10_costOf 12 = .ok (.istore 5, 2) := by decide +kernel
theorem dX10_costOf_14 : decode cX10_costOf 14 = .ok (.iload 4, 2) := by decide +kernel
theorem dX10_costOf_16 : decode cX10_costOf 16 = .ok (.ifCond .eq 8, 3) := by decide +kernel
theorem dX10_costOf_19 : decode cX10_costOf 19 = .ok (.iload 5, 2) := by decide +kernel
theorem dX10_costOf_21 : decode cX10_costOf 21 = .ok (.ifCond .ne 5, 3) := by decide +kernel
theorem dX10_costOf_24 : decode cX10_costOf 24 = .ok (.lconst 0, 1) := by decide +kernel
theorem dX10_costOf_25 : decode cX10_costOf 25 = .ok (.lreturn, 1) := by decide +kernel
theorem dX10_costOf_26 : decode cX10_costOf 26 = .ok (.iload 4, 2) := by decide +kernel
theorem dX10_costOf_28 : decode cX10_costOf 28 = .ok (.iload 5, 2) := by decide +kernel
theorem dX10_costOf_30 : decode cX10_costOf 30 = .ok (.if_icmp .le 8, 3) := by decide +kernel
theorem dX10_costOf_33 : decode cX10_costOf 33 = .ok (.iload 4, 2) := by decide +kernel
theorem dX10_costOf_35 : decode cX10_costOf 35 = .ok (.goto 5, 3) := by decide +kernel
theorem dX10_costOf_38 : decode cX10_costOf 38 = .ok (.iload 5, 2) := by decide +kernel
theorem dX10_costOf_40 : decode cX10_costOf 40 = .ok (.istore 6, 2) := by decide +kernel
theorem dX10_costOf_42 : decode cX10_costOf 42 = .ok (.aload_n 0, 1) := by decide +kernel
theorem dX10_costOf_43 : decode cX10_costOf 43 = .ok (.getfield 17, 3) := by decide +kernel
theorem dX10_costOf_46 : decode cX10_costOf 46 = .ok (.iload_n 3, 1) := by decide +kernel
theorem dX10_costOf_47 : decode cX10_costOf 47 = .ok (.iaload, 1) := by decide +kernel
theorem dX10_costOf_48 : decode cX10_costOf 48 = .ok (.ifCond .ne 11, 3) := by decide +kernel
theorem dX10_costOf_51 : decode cX10_costOf 51 = .ok (.iload 4, 2) := by decide +kernel
theorem dX10_costOf_53 : decode cX10_costOf 53 = .ok (.i2l, 1) := by decide +kernel
theorem dX10_costOf_54 : decode cX10_costOf 54 = .ok (.iload 5, 2) := by decide +kernel
theorem dX10_costOf_56 : decode cX10_costOf 56 = .ok (.i2l, 1) := by decide +kernel
theorem dX10_costOf_57 : decode cX10_costOf 57 = .ok (.lmul, 1) := by decide +kernel
theorem dX10_costOf_58 : decode cX10_costOf 58 = .ok (.lreturn, 1) := by decide +kernel
theorem dX10_costOf_59 : decode cX10_costOf 59 = .ok (.aload_n 0, 1) := by decide +kernel
theorem dX10_costOf_60 : decode cX10_costOf 60 = .ok (.getfield 17, 3) := by decide +kernel
theorem dX10_costOf_63 : decode cX10_costOf 63 = .ok (.iload_n 3, 1) := by decide +kernel
theorem dX10_costOf_64 : decode cX10_costOf 64 = .ok (.iaload, 1) := by decide +kernel
theorem dX10_costOf_65 : decode cX10_costOf 65 = .ok (.iconst 3, 1) := by decide +kernel
theorem dX10_costOf_66 : decode cX10_costOf 66 = .ok (.if_icmp .eq 13, 3) := by decide +kernel
theorem dX10_costOf_69 : decode cX10_costOf 69 = .ok (.aload_n 0, 1) := by decide +kernel
theorem dX10_costOf_70 : decode cX10_costOf 70 = .ok (.getfield 17, 3) := by decide +kernel
theorem dX10_costOf_73 : decode cX10_costOf 73 = .ok (.iload_n 3, 1) := by decide +kernel
theorem dX10_costOf_74 : decode cX10_costOf 74 = .ok (.iaload, 1) := by decide +kernel
theorem dX10_costOf_75 : decode cX10_costOf 75 = .ok (.iconst 5, 1) := by decide +kernel
theorem dX10_costOf_76 : decode cX10_costOf 76 = .ok (.if_icmp .ne 74, 3) := by decide +kernel
theorem dX10_costOf_79 : decode cX10_costOf 79 = .ok (.iload 4, 2) := by decide +kernel
theorem dX10_costOf_81 : decode cX10_costOf 81 = .ok (.iload 5, 2) := by decide +kernel
theorem dX10_costOf_83 : decode cX10_costOf 83 = .ok (.iadd, 1) := by decide +kernel
theorem dX10_costOf_84 : decode cX10_costOf 84 = .ok (.iconst 1, 1) := by decide +kernel
theorem dX10_costOf_85 : decode cX10_costOf 85 = .ok (.isub, 1) := by decide +kernel
theorem dX10_costOf_86 : decode cX10_costOf 86 = .ok (.invokestatic 119, 3) := by decide +kernel
theorem dX10_costOf_89 : decode cX10_costOf 89 = .ok (.istore 7, 2) := by decide +kernel
theorem dX10_costOf_91 : decode cX10_costOf 91 = .ok (.iload 7, 2) := by decide +kernel
theorem dX10_costOf_93 : decode cX10_costOf 93 = .ok (.iconst 5, 1) := by decide +kernel
theorem dX10_costOf_94 : decode cX10_costOf 94 = .ok (.if_icmp .le 7, 3) := by decide +kernel
theorem dX10_costOf_97 : decode cX10_costOf 97 = .ok (.ldc2_w 122, 3) := by decide +kernel
theorem dX10_costOf_100 : decode cX10_costOf 100 = .ok (.lreturn, 1) := by decide +kernel
theorem dX10_costOf_101 : decode cX10_costOf 101 = .ok (.lconst 1, 1) := by decide +kernel
theorem dX10_costOf_102 : decode cX10_costOf 102 = .ok (.iload 7, 2) := by decide +kernel
theorem dX10_costOf_104 : decode cX10_costOf 104 = .ok (.lshl, 1) := by decide +kernel
theorem dX10_costOf_105 : decode cX10_costOf 105 = .ok (.lstore 8, 2) := by decide +kernel
theorem dX10_costOf_107 : decode cX10_costOf 107 = .ok (.aload_n 0, 1) := by decide +kernel
theorem dX10_costOf_108 : decode cX10_costOf 108 = .ok (.getfield 17, 3) := by decide +kernel
theorem dX10_costOf_111 : decode cX10_costOf 111 = .ok (.iload_n 3, 1) := by decide +kernel
theorem dX10_costOf_112 : decode cX10_costOf 112 = .ok (.iaload, 1) := by decide +kernel
theorem dX10_costOf_113 : decode cX10_costOf 113 = .ok (.iconst 5, 1) := by decide +kernel
theorem dX10_costOf_114 : decode cX10_costOf 114 = .ok (.if_icmp .ne 18, 3) := by decide +kernel
theorem dX10_costOf_117 : decode cX10_costOf 117 = .ok (.aload_n 0, 1) := by decide +kernel
theorem dX10_costOf_118 : decode cX10_costOf 118 = .ok (.iload_n 1, 1) := by decide +kernel
theorem dX10_costOf_119 : decode cX10_costOf 119 = .ok (.iload_n 2, 1) := by decide +kernel
theorem dX10_costOf_120 : decode cX10_costOf 120 = .ok (.invokevirtual 124, 3) := by decide +kernel
theorem dX10_costOf_123 : decode cX10_costOf 123 = .ok (.ifCond .eq 9, 3) := by decide +kernel
theorem dX10_costOf_126 : decode cX10_costOf 126 = .ok (.ldc2_w 115, 3) := by decide +kernel
theorem dX10_costOf_129 : decode cX10_costOf 129 = .ok (.goto 6, 3) := by decide +kernel
theorem dX10_costOf_132 : decode cX10_costOf 132 = .ok (.ldc2_w 128, 3) := by decide +kernel
theorem dX10_costOf_135 : decode cX10_costOf 135 = .ok (.iload 7, 2) := by decide +kernel
theorem dX10_costOf_137 : decode cX10_costOf 137 = .ok (.i2l, 1) := by decide +kernel
theorem dX10_costOf_138 : decode cX10_costOf 138 = .ok (.lmul, 1) := by decide +kernel
theorem dX10_costOf_139 : decode cX10_costOf 139 = .ok (.lload 8, 2) := by decide +kernel
theorem dX10_costOf_141 : decode cX10_costOf 141 = .ok (.lmul, 1) := by decide +kernel
theorem dX10_costOf_142 : decode cX10_costOf 142 = .ok (.ldc2_w 115, 3) := by decide +kernel
theorem dX10_costOf_145 : decode cX10_costOf 145 = .ok (.ldiv, 1) := by decide +kernel
theorem dX10_costOf_146 : decode cX10_costOf 146 = .ok (.lload 8, 2) := by decide +kernel
theorem dX10_costOf_148 : decode cX10_costOf 148 = .ok (.ladd, 1) := by decide +kernel
theorem dX10_costOf_149 : decode cX10_costOf 149 = .ok (.lreturn, 1) := by decide +kernel
theorem dX10_costOf_150 : decode cX10_costOf 150 = .ok (.aload_n 0, 1) := by decide +kernel
theorem dX10_costOf_151 : decode cX10_costOf 151 = .ok (.iload_n 3, 1) := by decide +kernel
theorem dX10_costOf_152 : decode cX10_costOf 152 = .ok (.invokevirtual 130, 3) := by decide +kernel
theorem dX10_costOf_155 : decode cX10_costOf 155 = .ok (.aload_n 0, 1) := by decide +kernel
theorem dX10_costOf_156 : decode cX10_costOf 156 = .ok (.getfield 17, 3) := by decide +kernel
theorem dX10_costOf_159 : decode cX10_costOf 159 = .ok (.iload_n 3, 1) := by decide +kernel
theorem dX10_costOf_160 : decode cX10_costOf 160 = .ok (.iaload, 1) := by decide +kernel
theorem dX10_costOf_161 : decode cX10_costOf 161 = .ok (.iconst 1, 1) := by decide +kernel
theorem dX10_costOf_162 : decode cX10_costOf 162 = .ok (.if_icmp .ne 13, 3) := by decide +kernel
theorem dX10_costOf_165 : decode cX10_costOf 165 = .ok (.aload_n 0, 1) := by decide +kernel
theorem dX10_costOf_166 : decode cX10_costOf 166 = .ok (.getfield 23, 3) := by decide +kernel
theorem dX10_costOf_169 : decode cX10_costOf 169 = .ok (.iload 6, 2) := by decide +kernel
theorem dX10_costOf_171 : decode cX10_costOf 171 = .ok (.laload, 1) := by decide +kernel
theorem dX10_costOf_172 : decode cX10_costOf 172 = .ok (.goto 10, 3) := by decide +kernel
theorem dX10_costOf_175 : decode cX10_costOf 175 = .ok (.aload_n 0, 1) := by decide +kernel
theorem dX10_costOf_176 : decode cX10_costOf 176 = .ok (.getfield 27, 3) := by decide +kernel
theorem dX10_costOf_179 : decode cX10_costOf 179 = .ok (.iload 6, 2) := by decide +kernel
theorem dX10_costOf_181 : decode cX10_costOf 181 = .ok (.laload, 1) := by decide +kernel
theorem dX10_costOf_182 : decode cX10_costOf 182 = .ok (.lreturn, 1) := by decide +kernel
theorem dX10_areBad_0 : decode cX10_areBad 0 = .ok (.iload_n 1, 1) := by decide +kernel
theorem dX10_areBad_1 : decode cX10_areBad 1 = .ok (.invokestatic 98, 3) := by decide +kernel
theorem dX10_areBad_4 : decode cX10_areBad 4 = .ok (.ifCond .eq 10, 3) := by decide +kernel
theorem dX10_areBad_7 : decode cX10_areBad 7 = .ok (.iload_n 2, 1) := by decide +kernel
theorem dX10_areBad_8 : decode cX10_areBad 8 = .ok (.invokestatic 98, 3) := by decide +kernel
theorem dX10_areBad_11 : decode cX10_areBad 11 = .ok (.ifCond .ne 7, 3) := by decide +kernel
theorem dX10_areBad_14 : decode cX10_areBad 14 = .ok (.iconst 1, 1) := by decide +kernel
theorem dX10_areBad_15 : decode cX10_areBad 15 = .ok (.goto 4, 3) := by decide +kernel
theorem dX10_areBad_18 : decode cX10_areBad 18 = .ok (.iconst 0, 1) := by decide +kernel
theorem dX10_areBad_19 : decode cX10_areBad 19 = .ok (.ireturn, 1) := by decide +kernel
theorem dX10_isLong_0 : decode cX10_isLong 0 = .ok (.aload_n 0, 1) := by decide +kernel
theorem dX10_isLong_1 : decode cX10_isLong 1 = .ok (.iload_n 1, 1) := by decide +kernel
theorem dX10_isLong_2 : decode cX10_isLong 2 = .ok (.invokevirtual 94, 3) := by decide +kernel
theorem dX10_isLong_5 : decode cX10_isLong 5 = .ok (.ifCond .le 33, 3) := by decide +kernel
theorem dX10_isLong_8 : decode cX10_isLong 8 = .ok (.aload_n 0, 1) := by decide +kernel
theorem dX10_isLong_9 : decode cX10_isLong 9 = .ok (.iload_n 2, 1) := by decide +kernel
theorem dX10_isLong_10 : decode cX10_isLong 10 = .ok (.invokevirtual 94, 3) := by decide +kernel
theorem dX10_isLong_13 : decode cX10_isLong 13 = .ok (.ifCond .le 25, 3) := by decide +kernel
theorem dX10_isLong_16 : decode cX10_isLong 16 = .ok (.aload_n 0, 1) := by decide +kernel
theorem dX10_isLong_17 : decode cX10_isLong 17 = .ok (.iload_n 1, 1) := by decide +kernel
theorem dX10_isLong_18 : decode cX10_isLong 18 = .ok (.invokevirtual 94, 3) := by decide +kernel
theorem dX10_isLong_21 : decode cX10_isLong 21 = .ok (.aload_n 0, 1) := by decide +kernel
theorem dX10_isLong_22 : decode cX10_isLong 22 = .ok (.iload_n 2, 1) := by decide +kernel
theorem dX10_isLong_23 : decode cX10_isLong 23 = .ok (.invokevirtual 94, 3) := by decide +kernel
theorem dX10_isLong_26 : decode cX10_isLong 26 = .ok (.iadd, 1) := by decide +kernel
theorem dX10_isLong_27 : decode cX10_isLong 27 = .ok (.iconst 1, 1) := by decide +kernel
theorem dX10_isLong_28 : decode cX10_isLong 28 = .ok (.isub, 1) := by decide +kernel
theorem dX10_isLong_29 : decode cX10_isLong 29 = .ok (.bipush 32, 2) := by decide +kernel
theorem dX10_isLong_31 : decode cX10_isLong 31 = .ok (.if_icmp .le 7, 3) := by decide +kernel
theorem dX10_isLong_34 : decode cX10_isLong 34 = .ok (.iconst 1, 1) := by decide +kernel
theorem dX10_isLong_35 : decode cX10_isLong 35 = .ok (.goto 4, 3) := by decide +kernel
theorem dX10_isLong_38 : decode cX10_isLong 38 = .ok (.iconst 0, 1) := by decide +kernel
theorem dX10_isLong_39 : decode cX10_isLong 39 = .ok (.ireturn, 1) := by decide +kernel
theorem dX10_times_0 : decode cX10_times 0 = .ok (.iload_n 1, 1) := by decide +kernel
theorem dX10_times_1 : decode cX10_times 1 = .ok (.invokestatic 98, 3) := by decide +kernel
theorem dX10_times_4 : decode cX10_times 4 = .ok (.ifCond .eq 21, 3) := by decide +kernel
theorem dX10_times_7 : decode cX10_times 7 = .ok (.aload_n 0, 1) := by decide +kernel
theorem dX10_times_8 : decode cX10_times 8 = .ok (.iload_n 2, 1) := by decide +kernel
theorem dX10_times_9 : decode cX10_times 9 = .ok (.iload_n 3, 1) := by decide +kernel
theorem dX10_times_10 : decode cX10_times 10 = .ok (.invokevirtual 133, 3) := by decide +kernel
theorem dX10_times_13 : decode cX10_times 13 = .ok (.ifCond .ne 12, 3) := by decide +kernel
theorem dX10_times_16 : decode cX10_times 16 = .ok (.aload_n 0, 1) := by decide +kernel
theorem dX10_times_17 : decode cX10_times 17 = .ok (.iload 4, 2) := by decide +kernel
theorem dX10_times_19 : decode cX10_times 19 = .ok (.invokevirtual 136, 3) := by decide +kernel
theorem dX10_times_22 : decode cX10_times 22 = .ok (.ifCond .ne 6, 3) := by decide +kernel
theorem dX10_times_25 : decode cX10_times 25 = .ok (.bipush (-2), 2) := by decide +kernel
theorem dX10_times_27 : decode cX10_times 27 = .ok (.ireturn, 1) := by decide +kernel
theorem dX10_times_28 : decode cX10_times 28 = .ok (.aload_n 0, 1) := by decide +kernel
theorem dX10_times_29 : decode cX10_times 29 = .ok (.iload_n 2, 1) := by decide +kernel
theorem dX10_times_30 : decode cX10_times 30 = .ok (.iload_n 3, 1) := by decide +kernel
theorem dX10_times_31 : decode cX10_times 31 = .ok (.iload 4, 2) := by decide +kernel
theorem dX10_times_33 : decode cX10_times 33 = .ok (.invokevirtual 139, 3) := by decide +kernel
theorem dX10_times_36 : decode cX10_times 36 = .ok (.lstore 5, 2) := by decide +kernel
theorem dX10_times_38 : decode cX10_times 38 = .ok (.aload_n 0, 1) := by decide +kernel
theorem dX10_times_39 : decode cX10_times 39 = .ok (.iload_n 2, 1) := by decide +kernel
theorem dX10_times_40 : decode cX10_times 40 = .ok (.iload_n 3, 1) := by decide +kernel
theorem dX10_times_41 : decode cX10_times 41 = .ok (.invokevirtual 143, 3) := by decide +kernel
theorem dX10_times_44 : decode cX10_times 44 = .ok (.ifCond .ne 10, 3) := by decide +kernel
theorem dX10_times_47 : decode cX10_times 47 = .ok (.lload 5, 2) := by decide +kernel
theorem dX10_times_49 : decode cX10_times 49 = .ok (.lconst 0, 1) := by decide +kernel
theorem dX10_times_50 : decode cX10_times 50 = .ok (.lcmp, 1) := by decide +kernel
theorem dX10_times_51 : decode cX10_times 51 = .ok (.ifCond .ge 6, 3) := by decide +kernel
theorem dX10_times_54 : decode cX10_times 54 = .ok (.bipush (-4), 2) := by decide +kernel
theorem dX10_times_56 : decode cX10_times 56 = .ok (.ireturn, 1) := by decide +kernel
theorem dX10_times_57 : decode cX10_times 57 = .ok (.aload_n 0, 1) := by decide +kernel
theorem dX10_times_58 : decode cX10_times 58 = .ok (.iload_n 2, 1) := by decide +kernel
theorem dX10_times_59 : decode cX10_times 59 = .ok (.iload_n 3, 1) := by decide +kernel
theorem dX10_times_60 : decode cX10_times 60 = .ok (.bipush 15, 2) := by decide +kernel
theorem dX10_times_62 : decode cX10_times 62 = .ok (.invokevirtual 146, 3) := by decide +kernel
theorem dX10_times_65 : decode cX10_times 65 = .ok (.aload_n 0, 1) := by decide +kernel
theorem dX10_times_66 : decode cX10_times 66 = .ok (.iload_n 1, 1) := by decide +kernel
theorem dX10_times_67 : decode cX10_times 67 = .ok (.bipush 15, 2) := by decide +kernel
theorem dX10_times_69 : decode cX10_times 69 = .ok (.invokevirtual 109, 3) := by decide +kernel
theorem dX10_times_72 : decode cX10_times 72 = .ok (.istore 7, 2) := by decide +kernel
theorem dX10_times_74 : decode cX10_times 74 = .ok (.aload_n 0, 1) := by decide +kernel
theorem dX10_times_75 : decode cX10_times 75 = .ok (.dup, 1) := by decide +kernel
theorem dX10_times_76 : decode cX10_times 76 = .ok (.getfield 150, 3) := by decide +kernel
theorem dX10_times_79 : decode cX10_times 79 = .ok (.lload 5, 2) := by decide +kernel
theorem dX10_times_81 : decode cX10_times 81 = .ok (.ladd, 1) := by decide +kernel
theorem dX10_times_82 : decode cX10_times 82 = .ok (.putfield 150, 3) := by decide +kernel
theorem dX10_times_85 : decode cX10_times 85 = .ok (.lload 5, 2) := by decide +kernel
theorem dX10_times_87 : decode cX10_times 87 = .ok (.l2i, 1) := by decide +kernel
theorem dX10_times_88 : decode cX10_times 88 = .ok (.ireturn, 1) := by decide +kernel
theorem dX10_cost_0 : decode cX10_cost 0 = .ok (.aload_n 0, 1) := by decide +kernel
theorem dX10_cost_1 : decode cX10_cost 1 = .ok (.iload_n 1, 1) := by decide +kernel
theorem dX10_cost_2 : decode cX10_cost 2 = .ok (.iload_n 2, 1) := by decide +kernel
theorem dX10_cost_3 : decode cX10_cost 3 = .ok (.invokevirtual 133, 3) := by decide +kernel
theorem dX10_cost_6 : decode cX10_cost 6 = .ok (.ifCond .ne 11, 3) := by decide +kernel
theorem dX10_cost_9 : decode cX10_cost 9 = .ok (.aload_n 0, 1) := by decide +kernel
theorem dX10_cost_10 : decode cX10_cost 10 = .ok (.iload_n 3, 1) := by decide +kernel
theorem dX10_cost_11 : decode cX10_cost 11 = .ok (.invokevirtual 136, 3) := by decide +kernel
theorem dX10_cost_14 : decode cX10_cost 14 = .ok (.ifCond .ne 8, 3) := by decide +kernel
theorem dX10_cost_17 : decode cX10_cost 17 = .ok (.bipush (-2), 2) := by decide +kernel
theorem dX10_cost_19 : decode cX10_cost 19 = .ok (.goto 11, 3) := by decide +kernel
theorem dX10_cost_22 : decode cX10_cost 22 = .ok (.aload_n 0, 1) := by decide +kernel
theorem dX10_cost_23 : decode cX10_cost 23 = .ok (.iload_n 1, 1) := by decide +kernel
theorem dX10_cost_24 : decode cX10_cost 24 = .ok (.iload_n 2, 1) := by decide +kernel
theorem dX10_cost_25 : decode cX10_cost 25 = .ok (.iload_n 3, 1) := by decide +kernel
theorem dX10_cost_26 : decode cX10_cost 26 = .ok (.invokevirtual 139, 3) := by decide +kernel
theorem dX10_cost_29 : decode cX10_cost 29 = .ok (.l2i, 1) := by decide +kernel
theorem dX10_cost_30 : decode cX10_cost 30 = .ok (.ireturn, 1) := by decide +kernel
theorem dX10_planOf_0 : decode cX10_planOf 0 = .ok (.iconst (-1), 1) := by decide +kernel
theorem dX10_planOf_1 : decode cX10_planOf 1 = .ok (.istore_n 3, 1) := by decide +kernel
theorem dX10_planOf_2 : decode cX10_planOf 2 = .ok (.iconst 0, 1) := by decide +kernel
theorem dX10_planOf_3 : decode cX10_planOf 3 = .ok (.istore 4, 2) := by decide +kernel
theorem dX10_planOf_5 : decode cX10_planOf 5 = .ok (.iconst 0, 1) := by decide +kernel
theorem dX10_planOf_6 : decode cX10_planOf 6 = .ok (.istore 5, 2) := by decide +kernel
theorem dX10_planOf_8 : decode cX10_planOf 8 = .ok (.iload 5, 2) := by decide +kernel
theorem dX10_planOf_10 : decode cX10_planOf 10 = .ok (.aload_n 0, 1) := by decide +kernel
theorem dX10_planOf_11 : decode cX10_planOf 11 = .ok (.getfield 112, 3) := by decide +kernel
theorem dX10_planOf_14 : decode cX10_planOf 14 = .ok (.if_icmp .ge 54, 3) := by decide +kernel
theorem dX10_planOf_17 : decode cX10_planOf 17 = .ok (.aload_n 0, 1) := by decide +kernel
theorem dX10_planOf_18 : decode cX10_planOf 18 = .ok (.iload_n 1, 1) := by decide +kernel
theorem dX10_planOf_19 : decode cX10_planOf 19 = .ok (.iload_n 2, 1) := by decide +kernel
theorem dX10_planOf_20 : decode cX10_planOf 20 = .ok (.iload 5, 2) := by decide +kernel
theorem dX10_planOf_22 : decode cX10_planOf 22 = .ok (.invokevirtual 139, 3) := by decide +kernel
theorem dX10_planOf_25 : decode cX10_planOf 25 = .ok (.lconst 0, 1) := by decide +kernel
theorem dX10_planOf_26 : decode cX10_planOf 26 = .ok (.lcmp, 1) := by decide +kernel
theorem dX10_planOf_27 : decode cX10_planOf 27 = .ok (.ifCond .ge 6, 3) := by decide +kernel
theorem dX10_planOf_30 : decode cX10_planOf 30 = .ok (.goto 32, 3) := by decide +kernel
theorem dX10_planOf_33 : decode cX10_planOf 33 = .ok (.aload_n 0, 1) := by decide +kernel
theorem dX10_planOf_34 : decode cX10_planOf 34 = .ok (.iload 5, 2) := by decide +kernel
theorem dX10_planOf_36 : decode cX10_planOf 36 = .ok (.iload_n 1, 1) := by decide +kernel
theorem dX10_planOf_37 : decode cX10_planOf 37 = .ok (.iload_n 2, 1) := by decide +kernel
theorem dX10_planOf_38 : decode cX10_planOf 38 = .ok (.invokevirtual 154, 3) := by decide +kernel
theorem dX10_planOf_41 : decode cX10_planOf 41 = .ok (.istore 6, 2) := by decide +kernel
theorem dX10_planOf_43 : decode cX10_planOf 43 = .ok (.iload_n 3, 1) := by decide +kernel
theorem dX10_planOf_44 : decode cX10_planOf 44 = .ok (.iconst (-1), 1) := by decide +kernel
theorem dX10_planOf_45 : decode cX10_planOf 45 = .ok (.if_icmp .eq 10, 3) := by decide +kernel
theorem dX10_planOf_48 : decode cX10_planOf 48 = .ok (.iload 6, 2) := by decide +kernel
theorem dX10_planOf_50 : decode cX10_planOf 50 = .ok (.iload 4, 2) := by decide +kernel
theorem dX10_planOf_52 : decode cX10_planOf 52 = .ok (.if_icmp .ge 10, 3) := by decide +kernel
theorem dX10_planOf_55 : decode cX10_planOf 55 = .ok (.iload 5, 2) := by decide +kernel
theorem dX10_planOf_57 : decode cX10_planOf 57 = .ok (.istore_n 3, 1) := by decide +kernel
theorem dX10_planOf_58 : decode cX10_planOf 58 = .ok (.iload 6, 2) := by decide +kernel
theorem dX10_planOf_60 : decode cX10_planOf 60 = .ok (.istore 4, 2) := by decide +kernel
theorem dX10_planOf_62 : decode cX10_planOf 62 = .ok (.iinc 5 1, 3) := by decide +kernel
theorem dX10_planOf_65 : decode cX10_planOf 65 = .ok (.goto (-57), 3) := by decide +kernel
theorem dX10_planOf_68 : decode cX10_planOf 68 = .ok (.iload_n 3, 1) := by decide +kernel
theorem dX10_planOf_69 : decode cX10_planOf 69 = .ok (.ireturn, 1) := by decide +kernel
theorem dX10_plan_0 : decode cX10_plan 0 = .ok (.aload_n 0, 1) := by decide +kernel
theorem dX10_plan_1 : decode cX10_plan 1 = .ok (.iload_n 1, 1) := by decide +kernel
theorem dX10_plan_2 : decode cX10_plan 2 = .ok (.iload_n 2, 1) := by decide +kernel
theorem dX10_plan_3 : decode cX10_plan 3 = .ok (.invokevirtual 133, 3) := by decide +kernel
theorem dX10_plan_6 : decode cX10_plan 6 = .ok (.ifCond .eq 8, 3) := by decide +kernel
theorem dX10_plan_9 : decode cX10_plan 9 = .ok (.bipush (-2), 2) := by decide +kernel
theorem dX10_plan_11 : decode cX10_plan 11 = .ok (.goto 9, 3) := by decide +kernel
theorem dX10_plan_14 : decode cX10_plan 14 = .ok (.aload_n 0, 1) := by decide +kernel
theorem dX10_plan_15 : decode cX10_plan 15 = .ok (.iload_n 1, 1) := by decide +kernel
theorem dX10_plan_16 : decode cX10_plan 16 = .ok (.iload_n 2, 1) := by decide +kernel
theorem dX10_plan_17 : decode cX10_plan 17 = .ok (.invokevirtual 158, 3) := by decide +kernel
theorem dX10_plan_20 : decode cX10_plan 20 = .ok (.ireturn, 1) := by decide +kernel
theorem dX10_planned_0 : decode cX10_planned 0 = .ok (.iload_n 1, 1) := by decide +kernel
theorem dX10_planned_1 : decode cX10_planned 1 = .ok (.invokestatic 98, 3) := by decide +kernel
theorem dX10_planned_4 : decode cX10_planned 4 = .ok (.ifCond .eq 12, 3) := by decide +kernel
theorem dX10_planned_7 : decode cX10_planned 7 = .ok (.aload_n 0, 1) := by decide +kernel
theorem dX10_planned_8 : decode cX10_planned 8 = .ok (.iload_n 2, 1) := by decide +kernel
theorem dX10_planned_9 : decode cX10_planned 9 = .ok (.iload_n 3, 1) := by decide +kernel
theorem dX10_planned_10 : decode cX10_planned 10 = .ok (.invokevirtual 133, 3) := by decide +kernel
theorem dX10_planned_13 : decode cX10_planned 13 = .ok (.ifCond .eq 6, 3) := by decide +kernel
theorem dX10_planned_16 : decode cX10_planned 16 = .ok (.bipush (-2), 2) := by decide +kernel
theorem dX10_planned_18 : decode cX10_planned 18 = .ok (.ireturn, 1) := by decide +kernel
theorem dX10_planned_19 : decode cX10_planned 19 = .ok (.aload_n 0, 1) := by decide +kernel
theorem dX10_planned_20 : decode cX10_planned 20 = .ok (.iload_n 2, 1) := by decide +kernel
theorem dX10_planned_21 : decode cX10_planned 21 = .ok (.iload_n 3, 1) := by decide +kernel
theorem dX10_planned_22 : decode cX10_planned 22 = .ok (.invokevirtual 158, 3) := by decide +kernel
theorem dX10_planned_25 : decode cX10_planned 25 = .ok (.istore 4, 2) := by decide +kernel
theorem dX10_planned_27 : decode cX10_planned 27 = .ok (.iload 4, 2) := by decide +kernel
theorem dX10_planned_29 : decode cX10_planned 29 = .ok (.iconst (-1), 1) := by decide +kernel
theorem dX10_planned_30 : decode cX10_planned 30 = .ok (.if_icmp .ne 6, 3) := by decide +kernel
theorem dX10_planned_33 : decode cX10_planned 33 = .ok (.bipush (-3), 2) := by decide +kernel
theorem dX10_planned_35 : decode cX10_planned 35 = .ok (.ireturn, 1) := by decide +kernel
theorem dX10_planned_36 : decode cX10_planned 36 = .ok (.aload_n 0, 1) := by decide +kernel
theorem dX10_planned_37 : decode cX10_planned 37 = .ok (.iload_n 1, 1) := by decide +kernel
theorem dX10_planned_38 : decode cX10_planned 38 = .ok (.iload_n 2, 1) := by decide +kernel
theorem dX10_planned_39 : decode cX10_planned 39 = .ok (.iload_n 3, 1) := by decide +kernel
theorem dX10_planned_40 : decode cX10_planned 40 = .ok (.iload 4, 2) := by decide +kernel
theorem dX10_planned_42 : decode cX10_planned 42 = .ok (.invokevirtual 161, 3) := by decide +kernel
theorem dX10_planned_45 : decode cX10_planned 45 = .ok (.bipush (-4), 2) := by decide +kernel
theorem dX10_planned_47 : decode cX10_planned 47 = .ok (.if_icmp .ne 8, 3) := by decide +kernel
theorem dX10_planned_50 : decode cX10_planned 50 = .ok (.bipush (-4), 2) := by decide +kernel
theorem dX10_planned_52 : decode cX10_planned 52 = .ok (.goto 5, 3) := by decide +kernel
theorem dX10_planned_55 : decode cX10_planned 55 = .ok (.iload 4, 2) := by decide +kernel
theorem dX10_planned_57 : decode cX10_planned 57 = .ok (.ireturn, 1) := by decide +kernel
theorem dX10_counted_0 : decode cX10_counted 0 = .ok (.aload_n 0, 1) := by decide +kernel
theorem dX10_counted_1 : decode cX10_counted 1 = .ok (.getfield 150, 3) := by decide +kernel
theorem dX10_counted_4 : decode cX10_counted 4 = .ok (.lreturn, 1) := by decide +kernel
theorem dX10_feed_0 : decode cX10_feed 0 = .ok (.iload_n 1, 1) := by decide +kernel
theorem dX10_feed_1 : decode cX10_feed 1 = .ok (.iconst 1, 1) := by decide +kernel
theorem dX10_feed_2 : decode cX10_feed 2 = .ok (.bipush 8, 2) := by decide +kernel
theorem dX10_feed_4 : decode cX10_feed 4 = .ok (.invokestatic 86, 3) := by decide +kernel
theorem dX10_feed_7 : decode cX10_feed 7 = .ok (.ifCond .ne 6, 3) := by decide +kernel
theorem dX10_feed_10 : decode cX10_feed 10 = .ok (.bipush (-2), 2) := by decide +kernel
theorem dX10_feed_12 : decode cX10_feed 12 = .ok (.ireturn, 1) := by decide +kernel
theorem dX10_feed_13 : decode cX10_feed 13 = .ok (.aload_n 0, 1) := by decide +kernel
theorem dX10_feed_14 : decode cX10_feed 14 = .ok (.getfield 165, 3) := by decide +kernel
theorem dX10_feed_17 : decode cX10_feed 17 = .ok (.iload_n 1, 1) := by decide +kernel
theorem dX10_feed_18 : decode cX10_feed 18 = .ok (.iadd, 1) := by decide +kernel
theorem dX10_feed_19 : decode cX10_feed 19 = .ok (.sipush 160, 3) := by decide +kernel
theorem dX10_feed_22 : decode cX10_feed 22 = .ok (.if_icmp .le 6, 3) := by decide +kernel
theorem dX10_feed_25 : decode cX10_feed 25 = .ok (.bipush (-4), 2) := by decide +kernel
theorem dX10_feed_27 : decode cX10_feed 27 = .ok (.ireturn, 1) := by decide +kernel
theorem dX10_feed_28 : decode cX10_feed 28 = .ok (.iconst 0, 1) := by decide +kernel
theorem dX10_feed_29 : decode cX10_feed 29 = .ok (.istore 4, 2) := by decide +kernel
theorem dX10_feed_31 : decode cX10_feed 31 = .ok (.iload 4, 2) := by decide +kernel
theorem dX10_feed_33 : decode cX10_feed 33 = .ok (.iload_n 1, 1) := by decide +kernel
theorem dX10_feed_34 : decode cX10_feed 34 = .ok (.if_icmp .ge 40, 3) := by decide +kernel
theorem dX10_feed_37 : decode cX10_feed 37 = .ok (.aload_n 0, 1) := by decide +kernel
theorem dX10_feed_38 : decode cX10_feed 38 = .ok (.getfield 36, 3) := by decide +kernel
theorem dX10_feed_41 : decode cX10_feed 41 = .ok (.aload_n 0, 1) := by decide +kernel
theorem dX10_feed_42 : decode cX10_feed 42 = .ok (.getfield 165, 3) := by decide +kernel
theorem dX10_feed_45 : decode cX10_feed 45 = .ok (.lload_n 2, 1) := by decide +kernel
theorem dX10_feed_46 : decode cX10_feed 46 = .ok (.bipush 8, 2) := by decide +kernel
theorem dX10_feed_48 : decode cX10_feed 48 = .ok (.iload 4, 2) := by decide +kernel
theorem dX10_feed_50 : decode cX10_feed 50 = .ok (.imul, 1) := by decide +kernel
theorem dX10_feed_51 : decode cX10_feed 51 = .ok (.lshr, 1) := by decide +kernel
theorem dX10_feed_52 : decode cX10_feed 52 = .ok (.ldc2_w 77, 3) := by decide +kernel
theorem dX10_feed_55 : decode cX10_feed 55 = .ok (.land, 1) := by decide +kernel
theorem dX10_feed_56 : decode cX10_feed 56 = .ok (.l2i, 1) := by decide +kernel
theorem dX10_feed_57 : decode cX10_feed 57 = .ok (.iastore, 1) := by decide +kernel
theorem dX10_feed_58 : decode cX10_feed 58 = .ok (.aload_n 0, 1) := by decide +kernel
theorem dX10_feed_59 : decode cX10_feed 59 = .ok (.dup, 1) := by decide +kernel
theorem dX10_feed_60 : decode cX10_feed 60 = .ok (.getfield 165, 3) := by decide +kernel
theorem dX10_feed_63 : decode cX10_feed 63 = .ok (.iconst 1, 1) := by decide +kernel
theorem dX10_feed_64 : decode cX10_feed 64 = .ok (.iadd, 1) := by decide +kernel
theorem dX10_feed_65 : decode cX10_feed 65 = .ok (.putfield 165, 3) := by decide +kernel
theorem dX10_feed_68 : decode cX10_feed 68 = .ok (.iinc 4 1, 3) := by decide +kernel
theorem dX10_feed_71 : decode cX10_feed 71 = .ok (.goto (-40), 3) := by decide +kernel
theorem dX10_feed_74 : decode cX10_feed 74 = .ok (.aload_n 0, 1) := by decide +kernel
theorem dX10_feed_75 : decode cX10_feed 75 = .ok (.getfield 165, 3) := by decide +kernel
theorem dX10_feed_78 : decode cX10_feed 78 = .ok (.ireturn, 1) := by decide +kernel
theorem dX10_byteAt_0 : decode cX10_byteAt 0 = .ok (.iload_n 1, 1) := by decide +kernel
theorem dX10_byteAt_1 : decode cX10_byteAt 1 = .ok (.aload_n 0, 1) := by decide +kernel
theorem dX10_byteAt_2 : decode cX10_byteAt 2 = .ok (.getfield 168, 3) := by decide +kernel
theorem dX10_byteAt_5 : decode cX10_byteAt 5 = .ok (.if_icmp .ge 17, 3) := by decide +kernel
theorem dX10_byteAt_8 : decode cX10_byteAt 8 = .ok (.aload_n 0, 1) := by decide +kernel
theorem dX10_byteAt_9 : decode cX10_byteAt 9 = .ok (.getfield 30, 3) := by decide +kernel
theorem dX10_byteAt_12 : decode cX10_byteAt 12 = .ok (.aload_n 0, 1) := by decide +kernel
theorem dX10_byteAt_13 : decode cX10_byteAt 13 = .ok (.getfield 171, 3) := by decide +kernel
theorem dX10_byteAt_16 : decode cX10_byteAt 16 = .ok (.iload_n 1, 1) := by decide +kernel
theorem dX10_byteAt_17 : decode cX10_byteAt 17 = .ok (.iadd, 1) := by decide +kernel
theorem dX10_byteAt_18 : decode cX10_byteAt 18 = .ok (.iaload, 1) := by decide +kernel
theorem dX10_byteAt_19 : decode cX10_byteAt 19 = .ok (.goto 4, 3) := by decide +kernel
theorem dX10_byteAt_22 : decode cX10_byteAt 22 = .ok (.iconst (-1), 1) := by decide +kernel
theorem dX10_byteAt_23 : decode cX10_byteAt 23 = .ok (.ireturn, 1) := by decide +kernel
theorem dX10_next_0 : decode cX10_next 0 = .ok (.aload_n 0, 1) := by decide +kernel
theorem dX10_next_1 : decode cX10_next 1 = .ok (.aload_n 0, 1) := by decide +kernel
theorem dX10_next_2 : decode cX10_next 2 = .ok (.getfield 174, 3) := by decide +kernel
theorem dX10_next_5 : decode cX10_next 5 = .ok (.invokevirtual 177, 3) := by decide +kernel
theorem dX10_next_8 : decode cX10_next 8 = .ok (.bipush 32, 2) := by decide +kernel
theorem dX10_next_10 : decode cX10_next 10 = .ok (.if_icmp .eq 16, 3) := by decide +kernel
theorem dX10_next_13 : decode cX10_next 13 = .ok (.aload_n 0, 1) := by decide +kernel
theorem dX10_next_14 : decode cX10_next 14 = .ok (.aload_n 0, 1) := by decide +kernel
theorem dX10_next_15 : decode cX10_next 15 = .ok (.getfield 174, 3) := by decide +kernel
theorem dX10_next_18 : decode cX10_next 18 = .ok (.invokevirtual 177, 3) := by decide +kernel
theorem dX10_next_21 : decode cX10_next 21 = .ok (.bipush 10, 2) := by decide +kernel
theorem dX10_next_23 : decode cX10_next 23 = .ok (.if_icmp .ne 16, 3) := by decide +kernel
theorem dX10_next_26 : decode cX10_next 26 = .ok (.aload_n 0, 1) := by decide +kernel
theorem dX10_next_27 : decode cX10_next 27 = .ok (.dup, 1) := by decide +kernel
theorem dX10_next_28 : decode cX10_next 28 = .ok (.getfield 174, 3) := by decide +kernel
theorem dX10_next_31 : decode cX10_next 31 = .ok (.iconst 1, 1) := by decide +kernel
theorem dX10_next_32 : decode cX10_next 32 = .ok (.iadd, 1) := by decide +kernel
theorem dX10_next_33 : decode cX10_next 33 = .ok (.putfield 174, 3) := by decide +kernel
theorem dX10_next_36 : decode cX10_next 36 = .ok (.goto (-36), 3) := by decide +kernel
theorem dX10_next_39 : decode cX10_next 39 = .ok (.aload_n 0, 1) := by decide +kernel
theorem dX10_next_40 : decode cX10_next 40 = .ok (.aload_n 0, 1) := by decide +kernel
theorem dX10_next_41 : decode cX10_next 41 = .ok (.getfield 174, 3) := by decide +kernel
theorem dX10_next_44 : decode cX10_next 44 = .ok (.putfield 180, 3) := by decide +kernel
theorem dX10_next_47 : decode cX10_next 47 = .ok (.aload_n 0, 1) := by decide +kernel
theorem dX10_next_48 : decode cX10_next 48 = .ok (.aload_n 0, 1) := by decide +kernel
theorem dX10_next_49 : decode cX10_next 49 = .ok (.getfield 174, 3) := by decide +kernel
theorem dX10_next_52 : decode cX10_next 52 = .ok (.invokevirtual 177, 3) := by decide +kernel
theorem dX10_next_55 : decode cX10_next 55 = .ok (.istore_n 1, 1) := by decide +kernel
theorem dX10_next_56 : decode cX10_next 56 = .ok (.aload_n 0, 1) := by decide +kernel
theorem dX10_next_57 : decode cX10_next 57 = .ok (.iconst 4, 1) := by decide +kernel
theorem dX10_next_58 : decode cX10_next 58 = .ok (.putfield 183, 3) := by decide +kernel
theorem dX10_next_61 : decode cX10_next 61 = .ok (.iload_n 1, 1) := by decide +kernel
theorem dX10_next_62 : decode cX10_next 62 = .ok (.ifCond .ge 19, 3) := by decide +kernel
theorem dX10_next_65 : decode cX10_next 65 = .ok (.aload_n 0, 1) := by decide +kernel
theorem dX10_next_66 : decode cX10_next 66 = .ok (.iconst 0, 1) := by decide +kernel
theorem dX10_next_67 : decode cX10_next 67 = .ok (.putfield 183, 3) := by decide +kernel
theorem dX10_next_70 : decode cX10_next 70 = .ok (.aload_n 0, 1) := by decide +kernel
theorem dX10_next_71 : decode cX10_next 71 = .ok (.aload_n 0, 1) := by decide +kernel
theorem dX10_next_72 : decode cX10_next 72 = .ok (.getfield 168, 3) := by decide +kernel
theorem dX10_next_75 : decode cX10_next 75 = .ok (.putfield 180, 3) := by decide +kernel
theorem dX10_next_78 : decode cX10_next 78 = .ok (.goto 272, 3) := by decide +kernel
theorem dX10_next_81 : decode cX10_next 81 = .ok (.iload_n 1, 1) := by decide +kernel
theorem dX10_next_82 : decode cX10_next 82 = .ok (.bipush 97, 2) := by decide +kernel
theorem dX10_next_84 : decode cX10_next 84 = .ok (.bipush 122, 2) := by decide +kernel
theorem dX10_next_86 : decode cX10_next 86 = .ok (.invokestatic 86, 3) := by decide +kernel
theorem dX10_next_89 : decode cX10_next 89 = .ok (.ifCond .eq 84, 3) := by decide +kernel
theorem dX10_next_92 : decode cX10_next 92 = .ok (.aload_n 0, 1) := by decide +kernel
theorem dX10_next_93 : decode cX10_next 93 = .ok (.iconst 1, 1) := by decide +kernel
theorem dX10_next_94 : decode cX10_next 94 = .ok (.putfield 183, 3) := by decide +kernel
theorem dX10_next_97 : decode cX10_next 97 = .ok (.aload_n 0, 1) := by decide +kernel
theorem dX10_next_98 : decode cX10_next 98 = .ok (.iconst 0, 1) := by decide +kernel
theorem dX10_next_99 : decode cX10_next 99 = .ok (.putfield 186, 3) := by decide +kernel
theorem dX10_next_102 : decode cX10_next 102 = .ok (.iconst 0, 1) := by decide +kernel
theorem dX10_next_103 : decode cX10_next 103 = .ok (.istore_n 2, 1) := by decide +kernel
theorem dX10_next_104 : decode cX10_next 104 = .ok (.aload_n 0, 1) := by decide +kernel
theorem dX10_next_105 : decode cX10_next 105 = .ok (.aload_n 0, 1) := by decide +kernel
theorem dX10_next_106 : decode cX10_next 106 = .ok (.getfield 174, 3) := by decide +kernel
theorem dX10_next_109 : decode cX10_next 109 = .ok (.invokevirtual 177, 3) := by decide +kernel
theorem dX10_next_112 : decode cX10_next 112 = .ok (.bipush 97, 2) := by decide +kernel
theorem dX10_next_114 : decode cX10_next 114 = .ok (.bipush 122, 2) := by decide +kernel
theorem dX10_next_116 : decode cX10_next 116 = .ok (.invokestatic 86, 3) := by decide +kernel
theorem dX10_next_119 : decode cX10_next 119 = .ok (.ifCond .eq 51, 3) := by decide +kernel
theorem dX10_next_122 : decode cX10_next 122 = .ok (.aload_n 0, 1) := by decide +kernel
theorem dX10_next_123 : decode cX10_next 123 = .ok (.iload_n 2, 1) := by decide +kernel
theorem dX10_next_124 : decode cX10_next 124 = .ok (.iconst 5, 1) := by decide +kernel
theorem dX10_next_125 : decode cX10_next 125 = .ok (.if_icmp .ge 25, 3) := by decide +kernel
theorem dX10_next_128 : decode cX10_next 128 = .ok (.bipush 27, 2) := by decide +kernel
theorem dX10_next_130 : decode cX10_next 130 = .ok (.aload_n 0, 1) := by decide +kernel
theorem dX10_next_131 : decode cX10_next 131 = .ok (.getfield 186, 3) := by decide +kernel
theorem dX10_next_134 : decode cX10_next 134 = .ok (.imul, 1) := by decide +kernel
theorem dX10_next_135 : decode cX10_next 135 = .ok (.aload_n 0, 1) := by decide +kernel
theorem dX10_next_136 : decode cX10_next 136 = .ok (.aload_n 0, 1) := by decide +kernel
theorem dX10_next_137 : decode cX10_next 137 = .ok (.getfield 174, 3) := by decide +kernel
theorem dX10_next_140 : decode cX10_next 140 = .ok (.invokevirtual 177, 3) := by decide +kernel
theorem dX10_next_143 : decode cX10_next 143 = .ok (.iadd, 1) := by decide +kernel
theorem dX10_next_144 : decode cX10_next 144 = .ok (.bipush 96, 2) := by decide +kernel
theorem dX10_next_146 : decode cX10_next 146 = .ok (.isub, 1) := by decide +kernel
theorem dX10_next_147 : decode cX10_next 147 = .ok (.goto 4, 3) := by decide +kernel
theorem dX10_next_150 : decode cX10_next 150 = .ok (.iconst (-1), 1) := by decide +kernel
theorem dX10_next_151 : decode cX10_next 151 = .ok (.putfield 186, 3) := by decide +kernel
theorem dX10_next_154 : decode cX10_next 154 = .ok (.iinc 2 1, 3) := by decide +kernel
theorem dX10_next_157 : decode cX10_next 157 = .ok (.aload_n 0, 1) := by decide +kernel
theorem dX10_next_158 : decode cX10_next 158 = .ok (.dup, 1) := by decide +kernel
theorem dX10_next_159 : decode cX10_next 159 = .ok (.getfield 174, 3) := by decide +kernel
theorem dX10_next_162 : decode cX10_next 162 = .ok (.iconst 1, 1) := by decide +kernel
theorem dX10_next_163 : decode cX10_next 163 = .ok (.iadd, 1) := by decide +kernel
theorem dX10_next_164 : decode cX10_next 164 = .ok (.putfield 174, 3) := by decide +kernel
theorem dX10_next_167 : decode cX10_next 167 = .ok (.goto (-63), 3) := by decide +kernel
theorem dX10_next_170 : decode cX10_next 170 = .ok (.goto 180, 3) := by decide +kernel
theorem dX10_next_173 : decode cX10_next 173 = .ok (.iload_n 1, 1) := by decide +kernel
theorem dX10_next_174 : decode cX10_next 174 = .ok (.bipush 48, 2) := by decide +kernel
theorem dX10_next_176 : decode cX10_next 176 = .ok (.bipush 57, 2) := by decide +kernel
theorem dX10_next_178 : decode cX10_next 178 = .ok (.invokestatic 86, 3) := by decide +kernel
theorem dX10_next_181 : decode cX10_next 181 = .ok (.ifCond .eq 101, 3) := by decide +kernel
theorem dX10_next_184 : decode cX10_next 184 = .ok (.aload_n 0, 1) := by decide +kernel
theorem dX10_next_185 : decode cX10_next 185 = .ok (.iconst 2, 1) := by decide +kernel
theorem dX10_next_186 : decode cX10_next 186 = .ok (.putfield 183, 3) := by decide +kernel
theorem dX10_next_189 : decode cX10_next 189 = .ok (.aload_n 0, 1) := by decide +kernel
theorem dX10_next_190 : decode cX10_next 190 = .ok (.iconst 0, 1) := by decide +kernel
theorem dX10_next_191 : decode cX10_next 191 = .ok (.putfield 186, 3) := by decide +kernel
theorem dX10_next_194 : decode cX10_next 194 = .ok (.iconst 0, 1) := by decide +kernel
theorem dX10_next_195 : decode cX10_next 195 = .ok (.istore_n 2, 1) := by decide +kernel
theorem dX10_next_196 : decode cX10_next 196 = .ok (.aload_n 0, 1) := by decide +kernel
theorem dX10_next_197 : decode cX10_next 197 = .ok (.aload_n 0, 1) := by decide +kernel
theorem dX10_next_198 : decode cX10_next 198 = .ok (.getfield 174, 3) := by decide +kernel
theorem dX10_next_201 : decode cX10_next 201 = .ok (.invokevirtual 177, 3) := by decide +kernel
theorem dX10_next_204 : decode cX10_next 204 = .ok (.bipush 48, 2) := by decide +kernel
theorem dX10_next_206 : decode cX10_next 206 = .ok (.bipush 57, 2) := by decide +kernel
theorem dX10_next_208 : decode cX10_next 208 = .ok (.invokestatic 86, 3) := by decide +kernel
theorem dX10_next_211 : decode cX10_next 211 = .ok (.ifCond .eq 54, 3) := by decide +kernel
theorem dX10_next_214 : decode cX10_next 214 = .ok (.aload_n 0, 1) := by decide +kernel
theorem dX10_next_215 : decode cX10_next 215 = .ok (.iload_n 2, 1) := by decide +kernel
theorem dX10_next_216 : decode cX10_next 216 = .ok (.iconst 4, 1) := by decide +kernel
theorem dX10_next_217 : decode cX10_next 217 = .ok (.if_icmp .ge 25, 3) := by decide +kernel
theorem dX10_next_220 : decode cX10_next 220 = .ok (.bipush 10, 2) := by decide +kernel
theorem dX10_next_222 : decode cX10_next 222 = .ok (.aload_n 0, 1) := by decide +kernel
theorem dX10_next_223 : decode cX10_next 223 = .ok (.getfield 186, 3) := by decide +kernel
theorem dX10_next_226 : decode cX10_next 226 = .ok (.imul, 1) := by decide +kernel
theorem dX10_next_227 : decode cX10_next 227 = .ok (.aload_n 0, 1) := by decide +kernel
theorem dX10_next_228 : decode cX10_next 228 = .ok (.aload_n 0, 1) := by decide +kernel
theorem dX10_next_229 : decode cX10_next 229 = .ok (.getfield 174, 3) := by decide +kernel
theorem dX10_next_232 : decode cX10_next 232 = .ok (.invokevirtual 177, 3) := by decide +kernel
theorem dX10_next_235 : decode cX10_next 235 = .ok (.iadd, 1) := by decide +kernel
theorem dX10_next_236 : decode cX10_next 236 = .ok (.bipush 48, 2) := by decide +kernel
theorem dX10_next_238 : decode cX10_next 238 = .ok (.isub, 1) := by decide +kernel
theorem dX10_next_239 : decode cX10_next 239 = .ok (.goto 7, 3) := by decide +kernel
theorem dX10_next_242 : decode cX10_next 242 = .ok (.aload_n 0, 1) := by decide +kernel
theorem dX10_next_243 : decode cX10_next 243 = .ok (.getfield 186, 3) := by decide +kernel
theorem dX10_next_246 : decode cX10_next 246 = .ok (.putfield 186, 3) := by decide +kernel
theorem dX10_next_249 : decode cX10_next 249 = .ok (.iinc 2 1, 3) := by decide +kernel
theorem dX10_next_252 : decode cX10_next 252 = .ok (.aload_n 0, 1) := by decide +kernel
theorem dX10_next_253 : decode cX10_next 253 = .ok (.dup, 1) := by decide +kernel
theorem dX10_next_254 : decode cX10_next 254 = .ok (.getfield 174, 3) := by decide +kernel
theorem dX10_next_257 : decode cX10_next 257 = .ok (.iconst 1, 1) := by decide +kernel
theorem dX10_next_258 : decode cX10_next 258 = .ok (.iadd, 1) := by decide +kernel
theorem dX10_next_259 : decode cX10_next 259 = .ok (.putfield 174, 3) := by decide +kernel
theorem dX10_next_262 : decode cX10_next 262 = .ok (.goto (-66), 3) := by decide +kernel
theorem dX10_next_265 : decode cX10_next 265 = .ok (.aload_n 0, 1) := by decide +kernel
theorem dX10_next_266 : decode cX10_next 266 = .ok (.iload_n 2, 1) := by decide +kernel
theorem dX10_next_267 : decode cX10_next 267 = .ok (.iconst 4, 1) := by decide +kernel
theorem dX10_next_268 : decode cX10_next 268 = .ok (.if_icmp .le 7, 3) := by decide +kernel
theorem dX10_next_271 : decode cX10_next 271 = .ok (.iconst 4, 1) := by decide +kernel
theorem dX10_next_272 : decode cX10_next 272 = .ok (.goto 4, 3) := by decide +kernel
theorem dX10_next_275 : decode cX10_next 275 = .ok (.iconst 2, 1) := by decide +kernel
theorem dX10_next_276 : decode cX10_next 276 = .ok (.putfield 183, 3) := by decide +kernel
theorem dX10_next_279 : decode cX10_next 279 = .ok (.goto 71, 3) := by decide +kernel
theorem dX10_next_282 : decode cX10_next 282 = .ok (.iload_n 1, 1) := by decide +kernel
theorem dX10_next_283 : decode cX10_next 283 = .ok (.bipush 40, 2) := by decide +kernel
theorem dX10_next_285 : decode cX10_next 285 = .ok (.if_icmp .eq 45, 3) := by decide +kernel
theorem dX10_next_288 : decode cX10_next 288 = .ok (.iload_n 1, 1) := by decide +kernel
theorem dX10_next_289 : decode cX10_next 289 = .ok (.bipush 41, 2) := by decide +kernel
theorem dX10_next_291 : decode cX10_next 291 = .ok (.if_icmp .eq 39, 3) := by decide +kernel
theorem dX10_next_294 : decode cX10_next 294 = .ok (.iload_n 1, 1) := by decide +kernel
theorem dX10_next_295 : decode cX10_next 295 = .ok (.bipush 59, 2) := by decide +kernel
theorem dX10_next_297 : decode cX10_next 297 = .ok (.if_icmp .eq 33, 3) := by decide +kernel
theorem dX10_next_300 : decode cX10_next 300 = .ok (.iload_n 1, 1) := by decide +kernel
theorem dX10_next_301 : decode cX10_next 301 = .ok (.bipush 43, 2) := by decide +kernel
theorem dX10_next_303 : decode cX10_next 303 = .ok (.if_icmp .eq 27, 3) := by decide +kernel
theorem dX10_next_306 : decode cX10_next 306 = .ok (.iload_n 1, 1) := by decide +kernel
theorem dX10_next_307 : decode cX10_next 307 = .ok (.bipush 45, 2) := by decide +kernel
theorem dX10_next_309 : decode cX10_next 309 = .ok (.if_icmp .eq 21, 3) := by decide +kernel
theorem dX10_next_312 : decode cX10_next 312 = .ok (.iload_n 1, 1) := by decide +kernel
theorem dX10_next_313 : decode cX10_next 313 = .ok (.bipush 42, 2) := by decide +kernel
theorem dX10_next_315 : decode cX10_next 315 = .ok (.if_icmp .eq 15, 3) := by decide +kernel
theorem dX10_next_318 : decode cX10_next 318 = .ok (.iload_n 1, 1) := by decide +kernel
theorem dX10_next_319 : decode cX10_next 319 = .ok (.bipush 60, 2) := by decide +kernel
theorem dX10_next_321 : decode cX10_next 321 = .ok (.if_icmp .eq 9, 3) := by decide +kernel
theorem dX10_next_324 : decode cX10_next 324 = .ok (.iload_n 1, 1) := by decide +kernel
theorem dX10_next_325 : decode cX10_next 325 = .ok (.bipush 61, 2) := by decide +kernel
theorem dX10_next_327 : decode cX10_next 327 = .ok (.if_icmp .ne 23, 3) := by decide +kernel
theorem dX10_next_330 : decode cX10_next 330 = .ok (.aload_n 0, 1) := by decide +kernel
theorem dX10_next_331 : decode cX10_next 331 = .ok (.iconst 3, 1) := by decide +kernel
theorem dX10_next_332 : decode cX10_next 332 = .ok (.putfield 183, 3) := by decide +kernel
theorem dX10_next_335 : decode cX10_next 335 = .ok (.aload_n 0, 1) := by decide +kernel
theorem dX10_next_336 : decode cX10_next 336 = .ok (.iload_n 1, 1) := by decide +kernel
theorem dX10_next_337 : decode cX10_next 337 = .ok (.putfield 186, 3) := by decide +kernel
theorem dX10_next_340 : decode cX10_next 340 = .ok (.aload_n 0, 1) := by decide +kernel
theorem dX10_next_341 : decode cX10_next 341 = .ok (.dup, 1) := by decide +kernel
theorem dX10_next_342 : decode cX10_next 342 = .ok (.getfield 174, 3) := by decide +kernel
theorem dX10_next_345 : decode cX10_next 345 = .ok (.iconst 1, 1) := by decide +kernel
theorem dX10_next_346 : decode cX10_next 346 = .ok (.iadd, 1) := by decide +kernel
theorem dX10_next_347 : decode cX10_next 347 = .ok (.putfield 174, 3) := by decide +kernel
theorem dX10_next_350 : decode cX10_next 350 = .ok (.return_, 1) := by decide +kernel
theorem dX10_fail_0 : decode cX10_fail 0 = .ok (.aload_n 0, 1) := by decide +kernel
theorem dX10_fail_1 : decode cX10_fail 1 = .ok (.getfield 189, 3) := by decide +kernel
theorem dX10_fail_4 : decode cX10_fail 4 = .ok (.ifCond .ne 16, 3) := by decide +kernel
theorem dX10_fail_7 : decode cX10_fail 7 = .ok (.aload_n 0, 1) := by decide +kernel
theorem dX10_fail_8 : decode cX10_fail 8 = .ok (.iconst 1, 1) := by decide +kernel
theorem dX10_fail_9 : decode cX10_fail 9 = .ok (.putfield 189, 3) := by decide +kernel
theorem dX10_fail_12 : decode cX10_fail 12 = .ok (.aload_n 0, 1) := by decide +kernel
theorem dX10_fail_13 : decode cX10_fail 13 = .ok (.aload_n 0, 1) := by decide +kernel
theorem dX10_fail_14 : decode cX10_fail 14 = .ok (.getfield 180, 3) := by decide +kernel
theorem dX10_fail_17 : decode cX10_fail 17 = .ok (.putfield 193, 3) := by decide +kernel
theorem dX10_fail_20 : decode cX10_fail 20 = .ok (.return_, 1) := by decide +kernel
theorem dX10_isWord_0 : decode cX10_isWord 0 = .ok (.aload_n 0, 1) := by decide +kernel
theorem dX10_isWord_1 : decode cX10_isWord 1 = .ok (.getfield 189, 3) := by decide +kernel
theorem dX10_isWord_4 : decode cX10_isWord 4 = .ok (.ifCond .ne 23, 3) := by decide +kernel
theorem dX10_isWord_7 : decode cX10_isWord 7 = .ok (.aload_n 0, 1) := by decide +kernel
theorem dX10_isWord_8 : decode cX10_isWord 8 = .ok (.getfield 183, 3) := by decide +kernel
theorem dX10_isWord_11 : decode cX10_isWord 11 = .ok (.iconst 1, 1) := by decide +kernel
theorem dX10_isWord_12 : decode cX10_isWord 12 = .ok (.if_icmp .ne 15, 3) := by decide +kernel
theorem dX10_isWord_15 : decode cX10_isWord 15 = .ok (.aload_n 0, 1) := by decide +kernel
theorem dX10_isWord_16 : decode cX10_isWord 16 = .ok (.getfield 186, 3) := by decide +kernel
theorem dX10_isWord_19 : decode cX10_isWord 19 = .ok (.iload_n 1, 1) := by decide +kernel
theorem dX10_isWord_20 : decode cX10_isWord 20 = .ok (.if_icmp .ne 7, 3) := by decide +kernel
theorem dX10_isWord_23 : decode cX10_isWord 23 = .ok (.iconst 1, 1) := by decide +kernel
theorem dX10_isWord_24 : decode cX10_isWord 24 = .ok (.goto 4, 3) := by decide +kernel
theorem dX10_isWord_27 : decode cX10_isWord 27 = .ok (.iconst 0, 1) := by decide +kernel
theorem dX10_isWord_28 : decode cX10_isWord 28 = .ok (.ireturn, 1) := by decide +kernel
theorem dX10_isSign_0 : decode cX10_isSign 0 = .ok (.aload_n 0, 1) := by decide +kernel
theorem dX10_isSign_1 : decode cX10_isSign 1 = .ok (.getfield 189, 3) := by decide +kernel
theorem dX10_isSign_4 : decode cX10_isSign 4 = .ok (.ifCond .ne 23, 3) := by decide +kernel
theorem dX10_isSign_7 : decode cX10_isSign 7 = .ok (.aload_n 0, 1) := by decide +kernel
theorem dX10_isSign_8 : decode cX10_isSign 8 = .ok (.getfield 183, 3) := by decide +kernel
theorem dX10_isSign_11 : decode cX10_isSign 11 = .ok (.iconst 3, 1) := by decide +kernel
theorem dX10_isSign_12 : decode cX10_isSign 12 = .ok (.if_icmp .ne 15, 3) := by decide +kernel
theorem dX10_isSign_15 : decode cX10_isSign 15 = .ok (.aload_n 0, 1) := by decide +kernel
theorem dX10_isSign_16 : decode cX10_isSign 16 = .ok (.getfield 186, 3) := by decide +kernel
theorem dX10_isSign_19 : decode cX10_isSign 19 = .ok (.iload_n 1, 1) := by decide +kernel
theorem dX10_isSign_20 : decode cX10_isSign 20 = .ok (.if_icmp .ne 7, 3) := by decide +kernel
theorem dX10_isSign_23 : decode cX10_isSign 23 = .ok (.iconst 1, 1) := by decide +kernel
theorem dX10_isSign_24 : decode cX10_isSign 24 = .ok (.goto 4, 3) := by decide +kernel
theorem dX10_isSign_27 : decode cX10_isSign 27 = .ok (.iconst 0, 1) := by decide +kernel
theorem dX10_isSign_28 : decode cX10_isSign 28 = .ok (.ireturn, 1) := by decide +kernel
theorem dX10_opens_0 : decode cX10_opens 0 = .ok (.aload_n 0, 1) := by decide +kernel
theorem dX10_opens_1 : decode cX10_opens 1 = .ok (.getfield 196, 3) := by decide +kernel
theorem dX10_opens_4 : decode cX10_opens 4 = .ok (.iconst 5, 1) := by decide +kernel
theorem dX10_opens_5 : decode cX10_opens 5 = .ok (.if_icmp .ne 9, 3) := by decide +kernel
theorem dX10_opens_8 : decode cX10_opens 8 = .ok (.aload_n 0, 1) := by decide +kernel
theorem dX10_opens_9 : decode cX10_opens 9 = .ok (.invokevirtual 199, 3) := by decide +kernel
theorem dX10_opens_12 : decode cX10_opens 12 = .ok (.iconst 0, 1) := by decide +kernel
theorem dX10_opens_13 : decode cX10_opens 13 = .ok (.ireturn, 1) := by decide +kernel
theorem dX10_opens_14 : decode cX10_opens 14 = .ok (.aload_n 0, 1) := by decide +kernel
theorem dX10_opens_15 : decode cX10_opens 15 = .ok (.dup, 1) := by decide +kernel
theorem dX10_opens_16 : decode cX10_opens 16 = .ok (.getfield 196, 3) := by decide +kernel
theorem dX10_opens_19 : decode cX10_opens 19 = .ok (.iconst 1, 1) := by decide +kernel
theorem dX10_opens_20 : decode cX10_opens 20 = .ok (.iadd, 1) := by decide +kernel
theorem dX10_opens_21 : decode cX10_opens 21 = .ok (.putfield 196, 3) := by decide +kernel
theorem dX10_opens_24 : decode cX10_opens 24 = .ok (.aload_n 0, 1) := by decide +kernel
theorem dX10_opens_25 : decode cX10_opens 25 = .ok (.invokevirtual 202, 3) := by decide +kernel
theorem dX10_opens_28 : decode cX10_opens 28 = .ok (.iconst 1, 1) := by decide +kernel
theorem dX10_opens_29 : decode cX10_opens 29 = .ok (.ireturn, 1) := by decide +kernel
theorem dX10_name_0 : decode cX10_name 0 = .ok (.aload_n 0, 1) := by decide +kernel
theorem dX10_name_1 : decode cX10_name 1 = .ok (.getfield 186, 3) := by decide +kernel
theorem dX10_name_4 : decode cX10_name 4 = .ok (.lookupswitch 108 #[(13, 65), (14, 60), (2774, 93), (223456, 98), (375062, 103), (381245, 70)], 60) := by decide +kernel
theorem dX10_name_64 : decode cX10_name 64 = .ok (.aload_n 0, 1) := by decide +kernel
theorem dX10_name_65 : decode cX10_name 65 = .ok (.getfield 205, 3) := by decide +kernel
theorem dX10_name_68 : decode cX10_name 68 = .ok (.ireturn, 1) := by decide +kernel
theorem dX10_name_69 : decode cX10_name 69 = .ok (.aload_n 0, 1) := by decide +kernel
theorem dX10_name_70 : decode cX10_name 70 = .ok (.getfield 208, 3) := by decide +kernel
theorem dX10_name_73 : decode cX10_name 73 = .ok (.ireturn, 1) := by decide +kernel
theorem dX10_name_74 : decode cX10_name 74 = .ok (.aload_n 0, 1) := by decide +kernel
theorem dX10_name_75 : decode cX10_name 75 = .ok (.getfield 205, 3) := by decide +kernel
theorem dX10_name_78 : decode cX10_name 78 = .ok (.aload_n 0, 1) := by decide +kernel
theorem dX10_name_79 : decode cX10_name 79 = .ok (.getfield 208, 3) := by decide +kernel
theorem dX10_name_82 : decode cX10_name 82 = .ok (.if_icmp .le 10, 3) := by decide +kernel
theorem dX10_name_85 : decode cX10_name 85 = .ok (.aload_n 0, 1) := by decide +kernel
theorem dX10_name_86 : decode cX10_name 86 = .ok (.getfield 205, 3) := by decide +kernel
theorem dX10_name_89 : decode cX10_name 89 = .ok (.goto 7, 3) := by decide +kernel
theorem dX10_name_92 : decode cX10_name 92 = .ok (.aload_n 0, 1) := by decide +kernel
theorem dX10_name_93 : decode cX10_name 93 = .ok (.getfield 208, 3) := by decide +kernel
theorem dX10_name_96 : decode cX10_name 96 = .ok (.ireturn, 1) := by decide +kernel
theorem dX10_name_97 : decode cX10_name 97 = .ok (.aload_n 0, 1) := by decide +kernel
theorem dX10_name_98 : decode cX10_name 98 = .ok (.getfield 211, 3) := by decide +kernel
theorem dX10_name_101 : decode cX10_name 101 = .ok (.ireturn, 1) := by decide +kernel
theorem dX10_name_102 : decode cX10_name 102 = .ok (.aload_n 0, 1) := by decide +kernel
theorem dX10_name_103 : decode cX10_name 103 = .ok (.getfield 214, 3) := by decide +kernel
theorem dX10_name_106 : decode cX10_name 106 = .ok (.ireturn, 1) := by decide +kernel
theorem dX10_name_107 : decode cX10_name 107 = .ok (.aload_n 0, 1) := by decide +kernel
theorem dX10_name_108 : decode cX10_name 108 = .ok (.getfield 217, 3) := by decide +kernel
theorem dX10_name_111 : decode cX10_name 111 = .ok (.ireturn, 1) := by decide +kernel
theorem dX10_name_112 : decode cX10_name 112 = .ok (.aload_n 0, 1) := by decide +kernel
theorem dX10_name_113 : decode cX10_name 113 = .ok (.invokevirtual 199, 3) := by decide +kernel
theorem dX10_name_116 : decode cX10_name 116 = .ok (.iconst 0, 1) := by decide +kernel
theorem dX10_name_117 : decode cX10_name 117 = .ok (.ireturn, 1) := by decide +kernel
theorem dX10_one_0 : decode cX10_one 0 = .ok (.iconst 0, 1) := by decide +kernel
theorem dX10_one_1 : decode cX10_one 1 = .ok (.istore_n 1, 1) := by decide +kernel
theorem dX10_one_2 : decode cX10_one 2 = .ok (.aload_n 0, 1) := by decide +kernel
theorem dX10_one_3 : decode cX10_one 3 = .ok (.bipush 45, 2) := by decide +kernel
theorem dX10_one_5 : decode cX10_one 5 = .ok (.invokevirtual 220, 3) := by decide +kernel
theorem dX10_one_8 : decode cX10_one 8 = .ok (.ifCond .eq 29, 3) := by decide +kernel
theorem dX10_one_11 : decode cX10_one 11 = .ok (.aload_n 0, 1) := by decide +kernel
theorem dX10_one_12 : decode cX10_one 12 = .ok (.invokevirtual 223, 3) := by decide +kernel
theorem dX10_one_15 : decode cX10_one 15 = .ok (.ifCond .eq 145, 3) := by decide +kernel
theorem dX10_one_18 : decode cX10_one 18 = .ok (.aload_n 0, 1) := by decide +kernel
theorem dX10_one_19 : decode cX10_one 19 = .ok (.invokevirtual 227, 3) := by decide +kernel
theorem dX10_one_22 : decode cX10_one 22 = .ok (.ineg, 1) := by decide +kernel
theorem dX10_one_23 : decode cX10_one 23 = .ok (.istore_n 1, 1) := by decide +kernel
theorem dX10_one_24 : decode cX10_one 24 = .ok (.aload_n 0, 1) := by decide +kernel
theorem dX10_one_25 : decode cX10_one 25 = .ok (.dup, 1) := by decide +kernel
theorem dX10_one_26 : decode cX10_one 26 = .ok (.getfield 196, 3) := by decide +kernel
theorem dX10_one_29 : decode cX10_one 29 = .ok (.iconst 1, 1) := by decide +kernel
theorem dX10_one_30 : decode cX10_one 30 = .ok (.isub, 1) := by decide +kernel
theorem dX10_one_31 : decode cX10_one 31 = .ok (.putfield 196, 3) := by decide +kernel
theorem dX10_one_34 : decode cX10_one 34 = .ok (.goto 126, 3) := by decide +kernel
theorem dX10_one_37 : decode cX10_one 37 = .ok (.aload_n 0, 1) := by decide +kernel
theorem dX10_one_38 : decode cX10_one 38 = .ok (.bipush 40, 2) := by decide +kernel
theorem dX10_one_40 : decode cX10_one 40 = .ok (.invokevirtual 220, 3) := by decide +kernel
theorem dX10_one_43 : decode cX10_one 43 = .ok (.ifCond .eq 52, 3) := by decide +kernel
theorem dX10_one_46 : decode cX10_one 46 = .ok (.aload_n 0, 1) := by decide +kernel
theorem dX10_one_47 : decode cX10_one 47 = .ok (.invokevirtual 223, 3) := by decide +kernel
theorem dX10_one_50 : decode cX10_one 50 = .ok (.ifCond .eq 110, 3) := by decide +kernel
theorem dX10_one_53 : decode cX10_one 53 = .ok (.aload_n 0, 1) := by decide +kernel
theorem dX10_one_54 : decode cX10_one 54 = .ok (.invokevirtual 231, 3) := by decide +kernel
theorem dX10_one_57 : decode cX10_one 57 = .ok (.istore_n 1, 1) := by decide +kernel
theorem dX10_one_58 : decode cX10_one 58 = .ok (.aload_n 0, 1) := by decide +kernel
theorem dX10_one_59 : decode cX10_one 59 = .ok (.bipush 41, 2) := by decide +kernel
theorem dX10_one_61 : decode cX10_one 61 = .ok (.invokevirtual 220, 3) := by decide +kernel
theorem dX10_one_64 : decode cX10_one 64 = .ok (.ifCond .ne 7, 3) := by decide +kernel
theorem dX10_one_67 : decode cX10_one 67 = .ok (.aload_n 0, 1) := by decide +kernel
theorem dX10_one_68 : decode cX10_one 68 = .ok (.invokevirtual 199, 3) := by decide +kernel
theorem dX10_one_71 : decode cX10_one 71 = .ok (.aload_n 0, 1) := by decide +kernel
theorem dX10_one_72 : decode cX10_one 72 = .ok (.dup, 1) := by decide +kernel
theorem dX10_one_73 : decode cX10_one 73 = .ok (.getfield 196, 3) := by decide +kernel
theorem dX10_one_76 : decode cX10_one 76 = .ok (.iconst 1, 1) := by decide +kernel
theorem dX10_one_77 : decode cX10_one 77 = .ok (.isub, 1) := by decide +kernel
theorem dX10_one_78 : decode cX10_one 78 = .ok (.putfield 196, 3) := by decide +kernel
theorem dX10_one_81 : decode cX10_one 81 = .ok (.aload_n 0, 1) := by decide +kernel
theorem dX10_one_82 : decode cX10_one 82 = .ok (.getfield 189, 3) := by decide +kernel
theorem dX10_one_85 : decode cX10_one 85 = .ok (.ifCond .ne 75, 3) := by decide +kernel
theorem dX10_one_88 : decode cX10_one 88 = .ok (.aload_n 0, 1) := by decide +kernel
theorem dX10_one_89 : decode cX10_one 89 = .ok (.invokevirtual 202, 3) := by decide +kernel
theorem dX10_one_92 : decode cX10_one 92 = .ok (.goto 68, 3) := by decide +kernel
theorem dX10_one_95 : decode cX10_one 95 = .ok (.aload_n 0, 1) := by decide +kernel
theorem dX10_one_96 : decode cX10_one 96 = .ok (.getfield 189, 3) := by decide +kernel
theorem dX10_one_99 : decode cX10_one 99 = .ok (.ifCond .ne 23, 3) := by decide +kernel
theorem dX10_one_102 : decode cX10_one 102 = .ok (.aload_n 0, 1) := by decide +kernel
theorem dX10_one_103 : decode cX10_one 103 = .ok (.getfield 183, 3) := by decide +kernel
theorem dX10_one_106 : decode cX10_one 106 = .ok (.iconst 2, 1) := by decide +kernel
theorem dX10_one_107 : decode cX10_one 107 = .ok (.if_icmp .ne 15, 3) := by decide +kernel
theorem dX10_one_110 : decode cX10_one 110 = .ok (.aload_n 0, 1) := by decide +kernel
theorem dX10_one_111 : decode cX10_one 111 = .ok (.getfield 186, 3) := by decide +kernel
theorem dX10_one_114 : decode cX10_one 114 = .ok (.istore_n 1, 1) := by decide +kernel
theorem dX10_one_115 : decode cX10_one 115 = .ok (.aload_n 0, 1) := by decide +kernel
theorem dX10_one_116 : decode cX10_one 116 = .ok (.invokevirtual 202, 3) := by decide +kernel
theorem dX10_one_119 : decode cX10_one 119 = .ok (.goto 41, 3) := by decide +kernel
theorem dX10_one_122 : decode cX10_one 122 = .ok (.aload_n 0, 1) := by decide +kernel
theorem dX10_one_123 : decode cX10_one 123 = .ok (.getfield 189, 3) := by decide +kernel
theorem dX10_one_126 : decode cX10_one 126 = .ok (.ifCond .ne 30, 3) := by decide +kernel
theorem dX10_one_129 : decode cX10_one 129 = .ok (.aload_n 0, 1) := by decide +kernel
theorem dX10_one_130 : decode cX10_one 130 = .ok (.getfield 183, 3) := by decide +kernel
theorem dX10_one_133 : decode cX10_one 133 = .ok (.iconst 1, 1) := by decide +kernel
theorem dX10_one_134 : decode cX10_one 134 = .ok (.if_icmp .ne 22, 3) := by decide +kernel
theorem dX10_one_137 : decode cX10_one 137 = .ok (.aload_n 0, 1) := by decide +kernel
theorem dX10_one_138 : decode cX10_one 138 = .ok (.invokevirtual 234, 3) := by decide +kernel
theorem dX10_one_141 : decode cX10_one 141 = .ok (.istore_n 1, 1) := by decide +kernel
theorem dX10_one_142 : decode cX10_one 142 = .ok (.aload_n 0, 1) := by decide +kernel
theorem dX10_one_143 : decode cX10_one 143 = .ok (.getfield 189, 3) := by decide +kernel
theorem dX10_one_146 : decode cX10_one 146 = .ok (.ifCond .ne 14, 3) := by decide +kernel
theorem dX10_one_149 : decode cX10_one 149 = .ok (.aload_n 0, 1) := by decide +kernel
theorem dX10_one_150 : decode cX10_one 150 = .ok (.invokevirtual 202, 3) := by decide +kernel
theorem dX10_one_153 : decode cX10_one 153 = .ok (.goto 7, 3) := by decide +kernel
theorem dX10_one_156 : decode cX10_one 156 = .ok (.aload_n 0, 1) := by decide +kernel
theorem dX10_one_157 : decode cX10_one 157 = .ok (.invokevirtual 199, 3) := by decide +kernel
theorem dX10_one_160 : decode cX10_one 160 = .ok (.iload_n 1, 1) := by decide +kernel
theorem dX10_one_161 : decode cX10_one 161 = .ok (.ireturn, 1) := by decide +kernel
theorem dX10_term_0 : decode cX10_term 0 = .ok (.aload_n 0, 1) := by decide +kernel
theorem dX10_term_1 : decode cX10_term 1 = .ok (.invokevirtual 227, 3) := by decide +kernel
theorem dX10_term_4 : decode cX10_term 4 = .ok (.istore_n 1, 1) := by decide +kernel
theorem dX10_term_5 : decode cX10_term 5 = .ok (.aload_n 0, 1) := by decide +kernel
theorem dX10_term_6 : decode cX10_term 6 = .ok (.bipush 42, 2) := by decide +kernel
theorem dX10_term_8 : decode cX10_term 8 = .ok (.invokevirtual 220, 3) := by decide +kernel
theorem dX10_term_11 : decode cX10_term 11 = .ok (.ifCond .eq 17, 3) := by decide +kernel
theorem dX10_term_14 : decode cX10_term 14 = .ok (.aload_n 0, 1) := by decide +kernel
theorem dX10_term_15 : decode cX10_term 15 = .ok (.invokevirtual 202, 3) := by decide +kernel
theorem dX10_term_18 : decode cX10_term 18 = .ok (.iload_n 1, 1) := by decide +kernel
theorem dX10_term_19 : decode cX10_term 19 = .ok (.aload_n 0, 1) := by decide +kernel
theorem dX10_term_20 : decode cX10_term 20 = .ok (.invokevirtual 227, 3) := by decide +kernel
theorem dX10_term_23 : decode cX10_term 23 = .ok (.imul, 1) := by decide +kernel
theorem dX10_term_24 : decode cX10_term 24 = .ok (.istore_n 1, 1) := by decide +kernel
theorem dX10_term_25 : decode cX10_term 25 = .ok (.goto (-20), 3) := by decide +kernel
theorem dX10_term_28 : decode cX10_term 28 = .ok (.iload_n 1, 1) := by decide +kernel
theorem dX10_term_29 : decode cX10_term 29 = .ok (.ireturn, 1) := by decide +kernel
theorem dX10_added_0 : decode cX10_added 0 = .ok (.aload_n 0, 1) := by decide +kernel
theorem dX10_added_1 : decode cX10_added 1 = .ok (.invokevirtual 237, 3) := by decide +kernel
theorem dX10_added_4 : decode cX10_added 4 = .ok (.istore_n 1, 1) := by decide +kernel
theorem dX10_added_5 : decode cX10_added 5 = .ok (.aload_n 0, 1) := by decide +kernel
theorem dX10_added_6 : decode cX10_added 6 = .ok (.bipush 43, 2) := by decide +kernel
theorem dX10_added_8 : decode cX10_added 8 = .ok (.invokevirtual 220, 3) := by decide +kernel
theorem dX10_added_11 : decode cX10_added 11 = .ok (.ifCond .ne 12, 3) := by decide +kernel
theorem dX10_added_14 : decode cX10_added 14 = .ok (.aload_n 0, 1) := by decide +kernel
theorem dX10_added_15 : decode cX10_added 15 = .ok (.bipush 45, 2) := by decide +kernel
theorem dX10_added_17 : decode cX10_added 17 = .ok (.invokevirtual 220, 3) := by decide +kernel
theorem dX10_added_20 : decode cX10_added 20 = .ok (.ifCond .eq 44, 3) := by decide +kernel
theorem dX10_added_23 : decode cX10_added 23 = .ok (.aload_n 0, 1) := by decide +kernel
theorem dX10_added_24 : decode cX10_added 24 = .ok (.getfield 186, 3) := by decide +kernel
theorem dX10_added_27 : decode cX10_added 27 = .ok (.bipush 43, 2) := by decide +kernel
theorem dX10_added_29 : decode cX10_added 29 = .ok (.if_icmp .ne 7, 3) := by decide +kernel
theorem dX10_added_32 : decode cX10_added 32 = .ok (.iconst 1, 1) := by decide +kernel
theorem dX10_added_33 : decode cX10_added 33 = .ok (.goto 4, 3) := by decide +kernel
theorem dX10_added_36 : decode cX10_added 36 = .ok (.iconst 0, 1) := by decide +kernel
theorem dX10_added_37 : decode cX10_added 37 = .ok (.istore_n 2, 1) := by decide +kernel
theorem dX10_added_38 : decode cX10_added 38 = .ok (.aload_n 0, 1) := by decide +kernel
theorem dX10_added_39 : decode cX10_added 39 = .ok (.invokevirtual 202, 3) := by decide +kernel
theorem dX10_added_42 : decode cX10_added 42 = .ok (.aload_n 0, 1) := by decide +kernel
theorem dX10_added_43 : decode cX10_added 43 = .ok (.invokevirtual 237, 3) := by decide +kernel
theorem dX10_added_46 : decode cX10_added 46 = .ok (.istore_n 3, 1) := by decide +kernel
theorem dX10_added_47 : decode cX10_added 47 = .ok (.iload_n 2, 1) := by decide +kernel
theorem dX10_added_48 : decode cX10_added 48 = .ok (.ifCond .eq 9, 3) := by decide +kernel
theorem dX10_added_51 : decode cX10_added 51 = .ok (.iload_n 1, 1) := by decide +kernel
theorem dX10_added_52 : decode cX10_added 52 = .ok (.iload_n 3, 1) := by decide +kernel
theorem dX10_added_53 : decode cX10_added 53 = .ok (.iadd, 1) := by decide +kernel
theorem dX10_added_54 : decode cX10_added 54 = .ok (.goto 6, 3) := by decide +kernel
theorem dX10_added_57 : decode cX10_added 57 = .ok (.iload_n 1, 1) := by decide +kernel
theorem dX10_added_58 : decode cX10_added 58 = .ok (.iload_n 3, 1) := by decide +kernel
theorem dX10_added_59 : decode cX10_added 59 = .ok (.isub, 1) := by decide +kernel
theorem dX10_added_60 : decode cX10_added 60 = .ok (.istore_n 1, 1) := by decide +kernel
theorem dX10_added_61 : decode cX10_added 61 = .ok (.goto (-56), 3) := by decide +kernel
theorem dX10_added_64 : decode cX10_added 64 = .ok (.iload_n 1, 1) := by decide +kernel
theorem dX10_added_65 : decode cX10_added 65 = .ok (.ireturn, 1) := by decide +kernel
theorem dX10_not_0 : decode cX10_not 0 = .ok (.aload_n 0, 1) := by decide +kernel
theorem dX10_not_1 : decode cX10_not 1 = .ok (.sipush 10631, 3) := by decide +kernel
theorem dX10_not_4 : decode cX10_not 4 = .ok (.invokevirtual 240, 3) := by decide +kernel
theorem dX10_not_7 : decode cX10_not 7 = .ok (.ifCond .eq 37, 3) := by decide +kernel
theorem dX10_not_10 : decode cX10_not 10 = .ok (.aload_n 0, 1) := by decide +kernel
theorem dX10_not_11 : decode cX10_not 11 = .ok (.invokevirtual 223, 3) := by decide +kernel
theorem dX10_not_14 : decode cX10_not 14 = .ok (.ifCond .ne 5, 3) := by decide +kernel
theorem dX10_not_17 : decode cX10_not 17 = .ok (.iconst 0, 1) := by decide +kernel
theorem dX10_not_18 : decode cX10_not 18 = .ok (.ireturn, 1) := by decide +kernel
theorem dX10_not_19 : decode cX10_not 19 = .ok (.aload_n 0, 1) := by decide +kernel
theorem dX10_not_20 : decode cX10_not 20 = .ok (.invokevirtual 243, 3) := by decide +kernel
theorem dX10_not_23 : decode cX10_not 23 = .ok (.istore_n 1, 1) := by decide +kernel
theorem dX10_not_24 : decode cX10_not 24 = .ok (.aload_n 0, 1) := by decide +kernel
theorem dX10_not_25 : decode cX10_not 25 = .ok (.dup, 1) := by decide +kernel
theorem dX10_not_26 : decode cX10_not 26 = .ok (.getfield 196, 3) := by decide +kernel
theorem dX10_not_29 : decode cX10_not 29 = .ok (.iconst 1, 1) := by decide +kernel
theorem dX10_not_30 : decode cX10_not 30 = .ok (.isub, 1) := by decide +kernel
theorem dX10_not_31 : decode cX10_not 31 = .ok (.putfield 196, 3) := by decide +kernel
theorem dX10_not_34 : decode cX10_not 34 = .ok (.iload_n 1, 1) := by decide +kernel
theorem dX10_not_35 : decode cX10_not 35 = .ok (.ifCond .ne 7, 3) := by decide +kernel
theorem dX10_not_38 : decode cX10_not 38 = .ok (.iconst 1, 1) := by decide +kernel
theorem dX10_not_39 : decode cX10_not 39 = .ok (.goto 4, 3) := by decide +kernel
theorem dX10_not_42 : decode cX10_not 42 = .ok (.iconst 0, 1) := by decide +kernel
theorem dX10_not_43 : decode cX10_not 43 = .ok (.ireturn, 1) := by decide +kernel
theorem dX10_not_44 : decode cX10_not 44 = .ok (.aload_n 0, 1) := by decide +kernel
theorem dX10_not_45 : decode cX10_not 45 = .ok (.invokevirtual 246, 3) := by decide +kernel
theorem dX10_not_48 : decode cX10_not 48 = .ok (.istore_n 1, 1) := by decide +kernel
theorem dX10_not_49 : decode cX10_not 49 = .ok (.aload_n 0, 1) := by decide +kernel
theorem dX10_not_50 : decode cX10_not 50 = .ok (.bipush 60, 2) := by decide +kernel
theorem dX10_not_52 : decode cX10_not 52 = .ok (.invokevirtual 220, 3) := by decide +kernel
theorem dX10_not_55 : decode cX10_not 55 = .ok (.ifCond .ne 14, 3) := by decide +kernel
theorem dX10_not_58 : decode cX10_not 58 = .ok (.aload_n 0, 1) := by decide +kernel
theorem dX10_not_59 : decode cX10_not 59 = .ok (.bipush 61, 2) := by decide +kernel
theorem dX10_not_61 : decode cX10_not 61 = .ok (.invokevirtual 220, 3) := by decide +kernel
theorem dX10_not_64 : decode cX10_not 64 = .ok (.ifCond .ne 5, 3) := by decide +kernel
theorem dX10_not_67 : decode cX10_not 67 = .ok (.iload_n 1, 1) := by decide +kernel
theorem dX10_not_68 : decode cX10_not 68 = .ok (.ireturn, 1) := by decide +kernel
theorem dX10_not_69 : decode cX10_not 69 = .ok (.aload_n 0, 1) := by decide +kernel
theorem dX10_not_70 : decode cX10_not 70 = .ok (.getfield 186, 3) := by decide +kernel
theorem dX10_not_73 : decode cX10_not 73 = .ok (.bipush 60, 2) := by decide +kernel
theorem dX10_not_75 : decode cX10_not 75 = .ok (.if_icmp .ne 7, 3) := by decide +kernel
theorem dX10_not_78 : decode cX10_not 78 = .ok (.iconst 1, 1) := by decide +kernel
theorem dX10_not_79 : decode cX10_not 79 = .ok (.goto 4, 3) := by decide +kernel
theorem dX10_not_82 : decode cX10_not 82 = .ok (.iconst 0, 1) := by decide +kernel
theorem dX10_not_83 : decode cX10_not 83 = .ok (.istore_n 2, 1) := by decide +kernel
theorem dX10_not_84 : decode cX10_not 84 = .ok (.aload_n 0, 1) := by decide +kernel
theorem dX10_not_85 : decode cX10_not 85 = .ok (.invokevirtual 202, 3) := by decide +kernel
theorem dX10_not_88 : decode cX10_not 88 = .ok (.aload_n 0, 1) := by decide +kernel
theorem dX10_not_89 : decode cX10_not 89 = .ok (.invokevirtual 246, 3) := by decide +kernel
theorem dX10_not_92 : decode cX10_not 92 = .ok (.istore_n 3, 1) := by decide +kernel
theorem dX10_not_93 : decode cX10_not 93 = .ok (.iload_n 2, 1) := by decide +kernel
theorem dX10_not_94 : decode cX10_not 94 = .ok (.ifCond .eq 11, 3) := by decide +kernel
theorem dX10_not_97 : decode cX10_not 97 = .ok (.iload_n 1, 1) := by decide +kernel
theorem dX10_not_98 : decode cX10_not 98 = .ok (.iload_n 3, 1) := by decide +kernel
theorem dX10_not_99 : decode cX10_not 99 = .ok (.if_icmp .ge 15, 3) := by decide +kernel
theorem dX10_not_102 : decode cX10_not 102 = .ok (.goto 8, 3) := by decide +kernel
theorem dX10_not_105 : decode cX10_not 105 = .ok (.iload_n 1, 1) := by decide +kernel
theorem dX10_not_106 : decode cX10_not 106 = .ok (.iload_n 3, 1) := by decide +kernel
theorem dX10_not_107 : decode cX10_not 107 = .ok (.if_icmp .ne 7, 3) := by decide +kernel
theorem dX10_not_110 : decode cX10_not 110 = .ok (.iconst 1, 1) := by decide +kernel
theorem dX10_not_111 : decode cX10_not 111 = .ok (.goto 4, 3) := by decide +kernel
theorem dX10_not_114 : decode cX10_not 114 = .ok (.iconst 0, 1) := by decide +kernel
theorem dX10_not_115 : decode cX10_not 115 = .ok (.ireturn, 1) := by decide +kernel
theorem dX10_both_0 : decode cX10_both 0 = .ok (.aload_n 0, 1) := by decide +kernel
theorem dX10_both_1 : decode cX10_both 1 = .ok (.invokevirtual 243, 3) := by decide +kernel
theorem dX10_both_4 : decode cX10_both 4 = .ok (.istore_n 1, 1) := by decide +kernel
theorem dX10_both_5 : decode cX10_both 5 = .ok (.aload_n 0, 1) := by decide +kernel
theorem dX10_both_6 : decode cX10_both 6 = .ok (.sipush 1111, 3) := by decide +kernel
theorem dX10_both_9 : decode cX10_both 9 = .ok (.invokevirtual 240, 3) := by decide +kernel
theorem dX10_both_12 : decode cX10_both 12 = .ok (.ifCond .eq 29, 3) := by decide +kernel
theorem dX10_both_15 : decode cX10_both 15 = .ok (.aload_n 0, 1) := by decide +kernel
theorem dX10_both_16 : decode cX10_both 16 = .ok (.invokevirtual 202, 3) := by decide +kernel
theorem dX10_both_19 : decode cX10_both 19 = .ok (.aload_n 0, 1) := by decide +kernel
theorem dX10_both_20 : decode cX10_both 20 = .ok (.invokevirtual 243, 3) := by decide +kernel
theorem dX10_both_23 : decode cX10_both 23 = .ok (.istore_n 2, 1) := by decide +kernel
theorem dX10_both_24 : decode cX10_both 24 = .ok (.iload_n 1, 1) := by decide +kernel
theorem dX10_both_25 : decode cX10_both 25 = .ok (.ifCond .eq 11, 3) := by decide +kernel
theorem dX10_both_28 : decode cX10_both 28 = .ok (.iload_n 2, 1) := by decide +kernel
theorem dX10_both_29 : decode cX10_both 29 = .ok (.ifCond .eq 7, 3) := by decide +kernel
theorem dX10_both_32 : decode cX10_both 32 = .ok (.iconst 1, 1) := by decide +kernel
theorem dX10_both_33 : decode cX10_both 33 = .ok (.goto 4, 3) := by decide +kernel
theorem dX10_both_36 : decode cX10_both 36 = .ok (.iconst 0, 1) := by decide +kernel
theorem dX10_both_37 : decode cX10_both 37 = .ok (.istore_n 1, 1) := by decide +kernel
theorem dX10_both_38 : decode cX10_both 38 = .ok (.goto (-33), 3) := by decide +kernel
theorem dX10_both_41 : decode cX10_both 41 = .ok (.iload_n 1, 1) := by decide +kernel
theorem dX10_both_42 : decode cX10_both 42 = .ok (.ireturn, 1) := by decide +kernel
theorem dX10_either_0 : decode cX10_either 0 = .ok (.aload_n 0, 1) := by decide +kernel
theorem dX10_either_1 : decode cX10_either 1 = .ok (.invokevirtual 249, 3) := by decide +kernel
theorem dX10_either_4 : decode cX10_either 4 = .ok (.istore_n 1, 1) := by decide +kernel
theorem dX10_either_5 : decode cX10_either 5 = .ok (.aload_n 0, 1) := by decide +kernel
theorem dX10_either_6 : decode cX10_either 6 = .ok (.sipush 423, 3) := by decide +kernel
theorem dX10_either_9 : decode cX10_either 9 = .ok (.invokevirtual 240, 3) := by decide +kernel
theorem dX10_either_12 : decode cX10_either 12 = .ok (.ifCond .eq 29, 3) := by decide +kernel
theorem dX10_either_15 : decode cX10_either 15 = .ok (.aload_n 0, 1) := by decide +kernel
theorem dX10_either_16 : decode cX10_either 16 = .ok (.invokevirtual 202, 3) := by decide +kernel
theorem dX10_either_19 : decode cX10_either 19 = .ok (.aload_n 0, 1) := by decide +kernel
theorem dX10_either_20 : decode cX10_either 20 = .ok (.invokevirtual 249, 3) := by decide +kernel
theorem dX10_either_23 : decode cX10_either 23 = .ok (.istore_n 2, 1) := by decide +kernel
theorem dX10_either_24 : decode cX10_either 24 = .ok (.iload_n 1, 1) := by decide +kernel
theorem dX10_either_25 : decode cX10_either 25 = .ok (.ifCond .ne 7, 3) := by decide +kernel
theorem dX10_either_28 : decode cX10_either 28 = .ok (.iload_n 2, 1) := by decide +kernel
theorem dX10_either_29 : decode cX10_either 29 = .ok (.ifCond .eq 7, 3) := by decide +kernel
theorem dX10_either_32 : decode cX10_either 32 = .ok (.iconst 1, 1) := by decide +kernel
theorem dX10_either_33 : decode cX10_either 33 = .ok (.goto 4, 3) := by decide +kernel
theorem dX10_either_36 : decode cX10_either 36 = .ok (.iconst 0, 1) := by decide +kernel
theorem dX10_either_37 : decode cX10_either 37 = .ok (.istore_n 1, 1) := by decide +kernel
theorem dX10_either_38 : decode cX10_either 38 = .ok (.goto (-33), 3) := by decide +kernel
theorem dX10_either_41 : decode cX10_either 41 = .ok (.iload_n 1, 1) := by decide +kernel
theorem dX10_either_42 : decode cX10_either 42 = .ok (.ireturn, 1) := by decide +kernel
theorem dX10_part_0 : decode cX10_part 0 = .ok (.aload_n 0, 1) := by decide +kernel
theorem dX10_part_1 : decode cX10_part 1 = .ok (.iload_n 1, 1) := by decide +kernel
theorem dX10_part_2 : decode cX10_part 2 = .ok (.invokevirtual 240, 3) := by decide +kernel
theorem dX10_part_5 : decode cX10_part 5 = .ok (.ifCond .ne 7, 3) := by decide +kernel
theorem dX10_part_8 : decode cX10_part 8 = .ok (.aload_n 0, 1) := by decide +kernel
theorem dX10_part_9 : decode cX10_part 9 = .ok (.invokevirtual 199, 3) := by decide +kernel
theorem dX10_part_12 : decode cX10_part 12 = .ok (.aload_n 0, 1) := by decide +kernel
theorem dX10_part_13 : decode cX10_part 13 = .ok (.getfield 189, 3) := by decide +kernel
theorem dX10_part_16 : decode cX10_part 16 = .ok (.ifCond .ne 7, 3) := by decide +kernel
theorem dX10_part_19 : decode cX10_part 19 = .ok (.aload_n 0, 1) := by decide +kernel
theorem dX10_part_20 : decode cX10_part 20 = .ok (.invokevirtual 202, 3) := by decide +kernel
theorem dX10_part_23 : decode cX10_part 23 = .ok (.aload_n 0, 1) := by decide +kernel
theorem dX10_part_24 : decode cX10_part 24 = .ok (.getfield 189, 3) := by decide +kernel
theorem dX10_part_27 : decode cX10_part 27 = .ok (.ifCond .eq 7, 3) := by decide +kernel
theorem dX10_part_30 : decode cX10_part 30 = .ok (.iconst 0, 1) := by decide +kernel
theorem dX10_part_31 : decode cX10_part 31 = .ok (.goto 7, 3) := by decide +kernel
theorem dX10_part_34 : decode cX10_part 34 = .ok (.aload_n 0, 1) := by decide +kernel
theorem dX10_part_35 : decode cX10_part 35 = .ok (.invokevirtual 231, 3) := by decide +kernel
theorem dX10_part_38 : decode cX10_part 38 = .ok (.istore_n 2, 1) := by decide +kernel
theorem dX10_part_39 : decode cX10_part 39 = .ok (.aload_n 0, 1) := by decide +kernel
theorem dX10_part_40 : decode cX10_part 40 = .ok (.bipush 59, 2) := by decide +kernel
theorem dX10_part_42 : decode cX10_part 42 = .ok (.invokevirtual 220, 3) := by decide +kernel
theorem dX10_part_45 : decode cX10_part 45 = .ok (.ifCond .ne 7, 3) := by decide +kernel
theorem dX10_part_48 : decode cX10_part 48 = .ok (.aload_n 0, 1) := by decide +kernel
theorem dX10_part_49 : decode cX10_part 49 = .ok (.invokevirtual 199, 3) := by decide +kernel
theorem dX10_part_52 : decode cX10_part 52 = .ok (.aload_n 0, 1) := by decide +kernel
theorem dX10_part_53 : decode cX10_part 53 = .ok (.getfield 189, 3) := by decide +kernel
theorem dX10_part_56 : decode cX10_part 56 = .ok (.ifCond .ne 7, 3) := by decide +kernel
theorem dX10_part_59 : decode cX10_part 59 = .ok (.aload_n 0, 1) := by decide +kernel
theorem dX10_part_60 : decode cX10_part 60 = .ok (.invokevirtual 202, 3) := by decide +kernel
theorem dX10_part_63 : decode cX10_part 63 = .ok (.iload_n 2, 1) := by decide +kernel
theorem dX10_part_64 : decode cX10_part 64 = .ok (.ireturn, 1) := by decide +kernel
theorem dX10_read_0 : decode cX10_read 0 = .ok (.aload_n 0, 1) := by decide +kernel
theorem dX10_read_1 : decode cX10_read 1 = .ok (.sipush 160, 3) := by decide +kernel
theorem dX10_read_4 : decode cX10_read 4 = .ok (.iload_n 1, 1) := by decide +kernel
theorem dX10_read_5 : decode cX10_read 5 = .ok (.imul, 1) := by decide +kernel
theorem dX10_read_6 : decode cX10_read 6 = .ok (.putfield 171, 3) := by decide +kernel
theorem dX10_read_9 : decode cX10_read 9 = .ok (.aload_n 0, 1) := by decide +kernel
theorem dX10_read_10 : decode cX10_read 10 = .ok (.aload_n 0, 1) := by decide +kernel
theorem dX10_read_11 : decode cX10_read 11 = .ok (.getfield 33, 3) := by decide +kernel
theorem dX10_read_14 : decode cX10_read 14 = .ok (.iload_n 1, 1) := by decide +kernel
theorem dX10_read_15 : decode cX10_read 15 = .ok (.iaload, 1) := by decide +kernel
theorem dX10_read_16 : decode cX10_read 16 = .ok (.putfield 168, 3) := by decide +kernel
theorem dX10_read_19 : decode cX10_read 19 = .ok (.aload_n 0, 1) := by decide +kernel
theorem dX10_read_20 : decode cX10_read 20 = .ok (.iconst 0, 1) := by decide +kernel
theorem dX10_read_21 : decode cX10_read 21 = .ok (.putfield 174, 3) := by decide +kernel
theorem dX10_read_24 : decode cX10_read 24 = .ok (.aload_n 0, 1) := by decide +kernel
theorem dX10_read_25 : decode cX10_read 25 = .ok (.iconst 0, 1) := by decide +kernel
theorem dX10_read_26 : decode cX10_read 26 = .ok (.putfield 196, 3) := by decide +kernel
theorem dX10_read_29 : decode cX10_read 29 = .ok (.aload_n 0, 1) := by decide +kernel
theorem dX10_read_30 : decode cX10_read 30 = .ok (.iconst 0, 1) := by decide +kernel
theorem dX10_read_31 : decode cX10_read 31 = .ok (.putfield 189, 3) := by decide +kernel
theorem dX10_read_34 : decode cX10_read 34 = .ok (.aload_n 0, 1) := by decide +kernel
theorem dX10_read_35 : decode cX10_read 35 = .ok (.invokevirtual 202, 3) := by decide +kernel
theorem dX10_read_38 : decode cX10_read 38 = .ok (.aload_n 0, 1) := by decide +kernel
theorem dX10_read_39 : decode cX10_read 39 = .ok (.ldc 252, 2) := by decide +kernel
theorem dX10_read_41 : decode cX10_read 41 = .ok (.invokevirtual 253, 3) := by decide +kernel
theorem dX10_read_44 : decode cX10_read 44 = .ok (.istore_n 3, 1) := by decide +kernel
theorem dX10_read_45 : decode cX10_read 45 = .ok (.aload_n 0, 1) := by decide +kernel
theorem dX10_read_46 : decode cX10_read 46 = .ok (.getfield 189, 3) := by decide +kernel
theorem dX10_read_49 : decode cX10_read 49 = .ok (.ifCond .eq 7, 3) := by decide +kernel
theorem dX10_read_52 : decode cX10_read 52 = .ok (.iconst 0, 1) := by decide +kernel
theorem dX10_read_53 : decode cX10_read 53 = .ok (.goto 10, 3) := by decide +kernel
theorem dX10_read_56 : decode cX10_read 56 = .ok (.aload_n 0, 1) := by decide +kernel
theorem dX10_read_57 : decode cX10_read 57 = .ok (.ldc_w 256, 3) := by decide +kernel
theorem dX10_read_60 : decode cX10_read 60 = .ok (.invokevirtual 253, 3) := by decide +kernel
theorem dX10_read_63 : decode cX10_read 63 = .ok (.istore 4, 2) := by decide +kernel
theorem dX10_read_65 : decode cX10_read 65 = .ok (.aload_n 0, 1) := by decide +kernel
theorem dX10_read_66 : decode cX10_read 66 = .ok (.getfield 189, 3) := by decide +kernel
theorem dX10_read_69 : decode cX10_read 69 = .ok (.ifCond .eq 7, 3) := by decide +kernel
theorem dX10_read_72 : decode cX10_read 72 = .ok (.iconst 0, 1) := by decide +kernel
theorem dX10_read_73 : decode cX10_read 73 = .ok (.goto 10, 3) := by decide +kernel
theorem dX10_read_76 : decode cX10_read 76 = .ok (.aload_n 0, 1) := by decide +kernel
theorem dX10_read_77 : decode cX10_read 77 = .ok (.ldc_w 257, 3) := by decide +kernel
theorem dX10_read_80 : decode cX10_read 80 = .ok (.invokevirtual 253, 3) := by decide +kernel
theorem dX10_read_83 : decode cX10_read 83 = .ok (.istore 5, 2) := by decide +kernel
theorem dX10_read_85 : decode cX10_read 85 = .ok (.aload_n 0, 1) := by decide +kernel
theorem dX10_read_86 : decode cX10_read 86 = .ok (.getfield 189, 3) := by decide +kernel
theorem dX10_read_89 : decode cX10_read 89 = .ok (.ifCond .ne 14, 3) := by decide +kernel
theorem dX10_read_92 : decode cX10_read 92 = .ok (.aload_n 0, 1) := by decide +kernel
theorem dX10_read_93 : decode cX10_read 93 = .ok (.getfield 183, 3) := by decide +kernel
theorem dX10_read_96 : decode cX10_read 96 = .ok (.ifCond .eq 7, 3) := by decide +kernel
theorem dX10_read_99 : decode cX10_read 99 = .ok (.aload_n 0, 1) := by decide +kernel
theorem dX10_read_100 : decode cX10_read 100 = .ok (.invokevirtual 199, 3) := by decide +kernel
theorem dX10_read_103 : decode cX10_read 103 = .ok (.iload_n 2, 1) := by decide +kernel
theorem dX10_read_104 : decode cX10_read 104 = .ok (.ifCond .ne 7, 3) := by decide +kernel
theorem dX10_read_107 : decode cX10_read 107 = .ok (.iload_n 3, 1) := by decide +kernel
theorem dX10_read_108 : decode cX10_read 108 = .ok (.goto 15, 3) := by decide +kernel
theorem dX10_read_111 : decode cX10_read 111 = .ok (.iload_n 2, 1) := by decide +kernel
theorem dX10_read_112 : decode cX10_read 112 = .ok (.iconst 1, 1) := by decide +kernel
theorem dX10_read_113 : decode cX10_read 113 = .ok (.if_icmp .ne 8, 3) := by decide +kernel
theorem dX10_read_116 : decode cX10_read 116 = .ok (.iload 4, 2) := by decide +kernel
theorem dX10_read_118 : decode cX10_read 118 = .ok (.goto 5, 3) := by decide +kernel
theorem dX10_read_121 : decode cX10_read 121 = .ok (.iload 5, 2) := by decide +kernel
theorem dX10_read_123 : decode cX10_read 123 = .ok (.ireturn, 1) := by decide +kernel
theorem dX10_saysOf_0 : decode cX10_saysOf 0 = .ok (.aload_n 0, 1) := by decide +kernel
theorem dX10_saysOf_1 : decode cX10_saysOf 1 = .ok (.aload_n 0, 1) := by decide +kernel
theorem dX10_saysOf_2 : decode cX10_saysOf 2 = .ok (.iload_n 2, 1) := by decide +kernel
theorem dX10_saysOf_3 : decode cX10_saysOf 3 = .ok (.invokevirtual 94, 3) := by decide +kernel
theorem dX10_saysOf_6 : decode cX10_saysOf 6 = .ok (.putfield 205, 3) := by decide +kernel
theorem dX10_saysOf_9 : decode cX10_saysOf 9 = .ok (.aload_n 0, 1) := by decide +kernel
theorem dX10_saysOf_10 : decode cX10_saysOf 10 = .ok (.aload_n 0, 1) := by decide +kernel
theorem dX10_saysOf_11 : decode cX10_saysOf 11 = .ok (.iload_n 3, 1) := by decide +kernel
theorem dX10_saysOf_12 : decode cX10_saysOf 12 = .ok (.invokevirtual 94, 3) := by decide +kernel
theorem dX10_saysOf_15 : decode cX10_saysOf 15 = .ok (.putfield 208, 3) := by decide +kernel
theorem dX10_saysOf_18 : decode cX10_saysOf 18 = .ok (.aload_n 0, 1) := by decide +kernel
theorem dX10_saysOf_19 : decode cX10_saysOf 19 = .ok (.aload_n 0, 1) := by decide +kernel
theorem dX10_saysOf_20 : decode cX10_saysOf 20 = .ok (.getfield 20, 3) := by decide +kernel
theorem dX10_saysOf_23 : decode cX10_saysOf 23 = .ok (.iload_n 1, 1) := by decide +kernel
theorem dX10_saysOf_24 : decode cX10_saysOf 24 = .ok (.iaload, 1) := by decide +kernel
theorem dX10_saysOf_25 : decode cX10_saysOf 25 = .ok (.putfield 211, 3) := by decide +kernel
theorem dX10_saysOf_28 : decode cX10_saysOf 28 = .ok (.aload_n 0, 1) := by decide +kernel
theorem dX10_saysOf_29 : decode cX10_saysOf 29 = .ok (.aload_n 0, 1) := by decide +kernel
theorem dX10_saysOf_30 : decode cX10_saysOf 30 = .ok (.getfield 17, 3) := by decide +kernel
theorem dX10_saysOf_33 : decode cX10_saysOf 33 = .ok (.iload_n 1, 1) := by decide +kernel
theorem dX10_saysOf_34 : decode cX10_saysOf 34 = .ok (.iaload, 1) := by decide +kernel
theorem dX10_saysOf_35 : decode cX10_saysOf 35 = .ok (.putfield 214, 3) := by decide +kernel
theorem dX10_saysOf_38 : decode cX10_saysOf 38 = .ok (.aload_n 0, 1) := by decide +kernel
theorem dX10_saysOf_39 : decode cX10_saysOf 39 = .ok (.aload_n 0, 1) := by decide +kernel
theorem dX10_saysOf_40 : decode cX10_saysOf 40 = .ok (.iload_n 2, 1) := by decide +kernel
theorem dX10_saysOf_41 : decode cX10_saysOf 41 = .ok (.iload_n 3, 1) := by decide +kernel
theorem dX10_saysOf_42 : decode cX10_saysOf 42 = .ok (.invokevirtual 124, 3) := by decide +kernel
theorem dX10_saysOf_45 : decode cX10_saysOf 45 = .ok (.ifCond .eq 7, 3) := by decide +kernel
theorem dX10_saysOf_48 : decode cX10_saysOf 48 = .ok (.iconst 1, 1) := by decide +kernel
theorem dX10_saysOf_49 : decode cX10_saysOf 49 = .ok (.goto 4, 3) := by decide +kernel
theorem dX10_saysOf_52 : decode cX10_saysOf 52 = .ok (.iconst 0, 1) := by decide +kernel
theorem dX10_saysOf_53 : decode cX10_saysOf 53 = .ok (.putfield 217, 3) := by decide +kernel
theorem dX10_saysOf_56 : decode cX10_saysOf 56 = .ok (.aload_n 0, 1) := by decide +kernel
theorem dX10_saysOf_57 : decode cX10_saysOf 57 = .ok (.aload_n 0, 1) := by decide +kernel
theorem dX10_saysOf_58 : decode cX10_saysOf 58 = .ok (.getfield 258, 3) := by decide +kernel
theorem dX10_saysOf_61 : decode cX10_saysOf 61 = .ok (.aload_n 0, 1) := by decide +kernel
theorem dX10_saysOf_62 : decode cX10_saysOf 62 = .ok (.getfield 17, 3) := by decide +kernel
theorem dX10_saysOf_65 : decode cX10_saysOf 65 = .ok (.iload_n 1, 1) := by decide +kernel
theorem dX10_saysOf_66 : decode cX10_saysOf 66 = .ok (.iaload, 1) := by decide +kernel
theorem dX10_saysOf_67 : decode cX10_saysOf 67 = .ok (.ifCond .ne 7, 3) := by decide +kernel
theorem dX10_saysOf_70 : decode cX10_saysOf 70 = .ok (.iconst 0, 1) := by decide +kernel
theorem dX10_saysOf_71 : decode cX10_saysOf 71 = .ok (.goto 28, 3) := by decide +kernel
theorem dX10_saysOf_74 : decode cX10_saysOf 74 = .ok (.aload_n 0, 1) := by decide +kernel
theorem dX10_saysOf_75 : decode cX10_saysOf 75 = .ok (.getfield 17, 3) := by decide +kernel
theorem dX10_saysOf_78 : decode cX10_saysOf 78 = .ok (.iload_n 1, 1) := by decide +kernel
theorem dX10_saysOf_79 : decode cX10_saysOf 79 = .ok (.iaload, 1) := by decide +kernel
theorem dX10_saysOf_80 : decode cX10_saysOf 80 = .ok (.iconst 3, 1) := by decide +kernel
theorem dX10_saysOf_81 : decode cX10_saysOf 81 = .ok (.if_icmp .eq 13, 3) := by decide +kernel
theorem dX10_saysOf_84 : decode cX10_saysOf 84 = .ok (.aload_n 0, 1) := by decide +kernel
theorem dX10_saysOf_85 : decode cX10_saysOf 85 = .ok (.getfield 17, 3) := by decide +kernel
theorem dX10_saysOf_88 : decode cX10_saysOf 88 = .ok (.iload_n 1, 1) := by decide +kernel
theorem dX10_saysOf_89 : decode cX10_saysOf 89 = .ok (.iaload, 1) := by decide +kernel
theorem dX10_saysOf_90 : decode cX10_saysOf 90 = .ok (.iconst 5, 1) := by decide +kernel
theorem dX10_saysOf_91 : decode cX10_saysOf 91 = .ok (.if_icmp .ne 7, 3) := by decide +kernel
theorem dX10_saysOf_94 : decode cX10_saysOf 94 = .ok (.iconst 2, 1) := by decide +kernel
theorem dX10_saysOf_95 : decode cX10_saysOf 95 = .ok (.goto 4, 3) := by decide +kernel
theorem dX10_saysOf_98 : decode cX10_saysOf 98 = .ok (.iconst 1, 1) := by decide +kernel
theorem dX10_saysOf_99 : decode cX10_saysOf 99 = .ok (.invokevirtual 261, 3) := by decide +kernel
theorem dX10_saysOf_102 : decode cX10_saysOf 102 = .ok (.ireturn, 1) := by decide +kernel
theorem dX10_text_0 : decode cX10_text 0 = .ok (.aload_n 0, 1) := by decide +kernel
theorem dX10_text_1 : decode cX10_text 1 = .ok (.getfield 79, 3) := by decide +kernel
theorem dX10_text_4 : decode cX10_text 4 = .ok (.bipush 6, 2) := by decide +kernel
theorem dX10_text_6 : decode cX10_text 6 = .ok (.if_icmp .ne 6, 3) := by decide +kernel
theorem dX10_text_9 : decode cX10_text 9 = .ok (.bipush (-4), 2) := by decide +kernel
theorem dX10_text_11 : decode cX10_text 11 = .ok (.ireturn, 1) := by decide +kernel
theorem dX10_text_12 : decode cX10_text 12 = .ok (.iconst 0, 1) := by decide +kernel
theorem dX10_text_13 : decode cX10_text 13 = .ok (.istore_n 1, 1) := by decide +kernel
theorem dX10_text_14 : decode cX10_text 14 = .ok (.iload_n 1, 1) := by decide +kernel
theorem dX10_text_15 : decode cX10_text 15 = .ok (.aload_n 0, 1) := by decide +kernel
theorem dX10_text_16 : decode cX10_text 16 = .ok (.getfield 165, 3) := by decide +kernel
theorem dX10_text_19 : decode cX10_text 19 = .ok (.if_icmp .ge 30, 3) := by decide +kernel
theorem dX10_text_22 : decode cX10_text 22 = .ok (.aload_n 0, 1) := by decide +kernel
theorem dX10_text_23 : decode cX10_text 23 = .ok (.getfield 30, 3) := by decide +kernel
theorem dX10_text_26 : decode cX10_text 26 = .ok (.sipush 160, 3) := by decide +kernel
theorem dX10_text_29 : decode cX10_text 29 = .ok (.aload_n 0, 1) := by decide +kernel
theorem dX10_text_30 : decode cX10_text 30 = .ok (.getfield 79, 3) := by decide +kernel
theorem dX10_text_33 : decode cX10_text 33 = .ok (.imul, 1) := by decide +kernel
theorem dX10_text_34 : decode cX10_text 34 = .ok (.iload_n 1, 1) := by decide +kernel
theorem dX10_text_35 : decode cX10_text 35 = .ok (.iadd, 1) := by decide +kernel
theorem dX10_text_36 : decode cX10_text 36 = .ok (.aload_n 0, 1) := by decide +kernel
theorem dX10_text_37 : decode cX10_text 37 = .ok (.getfield 36, 3) := by decide +kernel
theorem dX10_text_40 : decode cX10_text 40 = .ok (.iload_n 1, 1) := by decide +kernel
theorem dX10_text_41 : decode cX10_text 41 = .ok (.iaload, 1) := by decide +kernel
theorem dX10_text_42 : decode cX10_text 42 = .ok (.iastore, 1) := by decide +kernel
theorem dX10_text_43 : decode cX10_text 43 = .ok (.iinc 1 1, 3) := by decide +kernel
theorem dX10_text_46 : decode cX10_text 46 = .ok (.goto (-32), 3) := by decide +kernel
theorem dX10_text_49 : decode cX10_text 49 = .ok (.aload_n 0, 1) := by decide +kernel
theorem dX10_text_50 : decode cX10_text 50 = .ok (.getfield 33, 3) := by decide +kernel
theorem dX10_text_53 : decode cX10_text 53 = .ok (.aload_n 0, 1) := by decide +kernel
theorem dX10_text_54 : decode cX10_text 54 = .ok (.getfield 79, 3) := by decide +kernel
theorem dX10_text_57 : decode cX10_text 57 = .ok (.aload_n 0, 1) := by decide +kernel
theorem dX10_text_58 : decode cX10_text 58 = .ok (.getfield 165, 3) := by decide +kernel
theorem dX10_text_61 : decode cX10_text 61 = .ok (.iastore, 1) := by decide +kernel
theorem dX10_text_62 : decode cX10_text 62 = .ok (.aload_n 0, 1) := by decide +kernel
theorem dX10_text_63 : decode cX10_text 63 = .ok (.iconst 0, 1) := by decide +kernel
theorem dX10_text_64 : decode cX10_text 64 = .ok (.putfield 165, 3) := by decide +kernel
theorem dX10_text_67 : decode cX10_text 67 = .ok (.aload_n 0, 1) := by decide +kernel
theorem dX10_text_68 : decode cX10_text 68 = .ok (.aload_n 0, 1) := by decide +kernel
theorem dX10_text_69 : decode cX10_text 69 = .ok (.getfield 79, 3) := by decide +kernel
theorem dX10_text_72 : decode cX10_text 72 = .ok (.iconst 0, 1) := by decide +kernel
theorem dX10_text_73 : decode cX10_text 73 = .ok (.invokevirtual 261, 3) := by decide +kernel
theorem dX10_text_76 : decode cX10_text 76 = .ok (.istore_n 1, 1) := by decide +kernel
theorem dX10_text_77 : decode cX10_text 77 = .ok (.aload_n 0, 1) := by decide +kernel
theorem dX10_text_78 : decode cX10_text 78 = .ok (.getfield 189, 3) := by decide +kernel
theorem dX10_text_81 : decode cX10_text 81 = .ok (.ifCond .eq 11, 3) := by decide +kernel
theorem dX10_text_84 : decode cX10_text 84 = .ok (.bipush (-100), 2) := by decide +kernel
theorem dX10_text_86 : decode cX10_text 86 = .ok (.aload_n 0, 1) := by decide +kernel
theorem dX10_text_87 : decode cX10_text 87 = .ok (.getfield 193, 3) := by decide +kernel
theorem dX10_text_90 : decode cX10_text 90 = .ok (.isub, 1) := by decide +kernel
theorem dX10_text_91 : decode cX10_text 91 = .ok (.ireturn, 1) := by decide +kernel
theorem dX10_text_92 : decode cX10_text 92 = .ok (.aload_n 0, 1) := by decide +kernel
theorem dX10_text_93 : decode cX10_text 93 = .ok (.dup, 1) := by decide +kernel
theorem dX10_text_94 : decode cX10_text 94 = .ok (.getfield 79, 3) := by decide +kernel
theorem dX10_text_97 : decode cX10_text 97 = .ok (.iconst 1, 1) := by decide +kernel
theorem dX10_text_98 : decode cX10_text 98 = .ok (.iadd, 1) := by decide +kernel
theorem dX10_text_99 : decode cX10_text 99 = .ok (.putfield 79, 3) := by decide +kernel
theorem dX10_text_102 : decode cX10_text 102 = .ok (.aload_n 0, 1) := by decide +kernel
theorem dX10_text_103 : decode cX10_text 103 = .ok (.getfield 79, 3) := by decide +kernel
theorem dX10_text_106 : decode cX10_text 106 = .ok (.iconst 1, 1) := by decide +kernel
theorem dX10_text_107 : decode cX10_text 107 = .ok (.isub, 1) := by decide +kernel
theorem dX10_text_108 : decode cX10_text 108 = .ok (.ireturn, 1) := by decide +kernel
theorem dX10_force_0 : decode cX10_force 0 = .ok (.iload_n 1, 1) := by decide +kernel
theorem dX10_force_1 : decode cX10_force 1 = .ok (.iconst 0, 1) := by decide +kernel
theorem dX10_force_2 : decode cX10_force 2 = .ok (.aload_n 0, 1) := by decide +kernel
theorem dX10_force_3 : decode cX10_force 3 = .ok (.getfield 79, 3) := by decide +kernel
theorem dX10_force_6 : decode cX10_force 6 = .ok (.iconst 1, 1) := by decide +kernel
theorem dX10_force_7 : decode cX10_force 7 = .ok (.isub, 1) := by decide +kernel
theorem dX10_force_8 : decode cX10_force 8 = .ok (.invokestatic 86, 3) := by decide +kernel
theorem dX10_force_11 : decode cX10_force 11 = .ok (.ifCond .ne 6, 3) := by decide +kernel
theorem dX10_force_14 : decode cX10_force 14 = .ok (.bipush (-2), 2) := by decide +kernel
theorem dX10_force_16 : decode cX10_force 16 = .ok (.ireturn, 1) := by decide +kernel
theorem dX10_force_17 : decode cX10_force 17 = .ok (.aload_n 0, 1) := by decide +kernel
theorem dX10_force_18 : decode cX10_force 18 = .ok (.getfield 258, 3) := by decide +kernel
theorem dX10_force_21 : decode cX10_force 21 = .ok (.istore_n 2, 1) := by decide +kernel
theorem dX10_force_22 : decode cX10_force 22 = .ok (.aload_n 0, 1) := by decide +kernel
theorem dX10_force_23 : decode cX10_force 23 = .ok (.iload_n 1, 1) := by decide +kernel
theorem dX10_force_24 : decode cX10_force 24 = .ok (.putfield 258, 3) := by decide +kernel
theorem dX10_force_27 : decode cX10_force 27 = .ok (.iload_n 2, 1) := by decide +kernel
theorem dX10_force_28 : decode cX10_force 28 = .ok (.ireturn, 1) := by decide +kernel
theorem dX10_says_0 : decode cX10_says 0 = .ok (.aload_n 0, 1) := by decide +kernel
theorem dX10_says_1 : decode cX10_says 1 = .ok (.iload_n 1, 1) := by decide +kernel
theorem dX10_says_2 : decode cX10_says 2 = .ok (.invokevirtual 136, 3) := by decide +kernel
theorem dX10_says_5 : decode cX10_says 5 = .ok (.ifCond .eq 23, 3) := by decide +kernel
theorem dX10_says_8 : decode cX10_says 8 = .ok (.aload_n 0, 1) := by decide +kernel
theorem dX10_says_9 : decode cX10_says 9 = .ok (.iload_n 2, 1) := by decide +kernel
theorem dX10_says_10 : decode cX10_says 10 = .ok (.iload_n 3, 1) := by decide +kernel
theorem dX10_says_11 : decode cX10_says 11 = .ok (.invokevirtual 133, 3) := by decide +kernel
theorem dX10_says_14 : decode cX10_says 14 = .ok (.ifCond .ne 14, 3) := by decide +kernel
theorem dX10_says_17 : decode cX10_says 17 = .ok (.aload_n 0, 1) := by decide +kernel
theorem dX10_says_18 : decode cX10_says 18 = .ok (.iload_n 1, 1) := by decide +kernel
theorem dX10_says_19 : decode cX10_says 19 = .ok (.iload_n 2, 1) := by decide +kernel
theorem dX10_says_20 : decode cX10_says 20 = .ok (.iload_n 3, 1) := by decide +kernel
theorem dX10_says_21 : decode cX10_says 21 = .ok (.invokevirtual 154, 3) := by decide +kernel
theorem dX10_says_24 : decode cX10_says 24 = .ok (.i2l, 1) := by decide +kernel
theorem dX10_says_25 : decode cX10_says 25 = .ok (.goto 6, 3) := by decide +kernel
theorem dX10_says_28 : decode cX10_says 28 = .ok (.ldc2_w 264, 3) := by decide +kernel
theorem dX10_says_31 : decode cX10_says 31 = .ok (.lreturn, 1) := by decide +kernel
theorem dX10_divideRows_0 : decode cX10_divideRows 0 = .ok (.aload_n 0, 1) := by decide +kernel
theorem dX10_divideRows_1 : decode cX10_divideRows 1 = .ok (.iload_n 3, 1) := by decide +kernel
theorem dX10_divideRows_2 : decode cX10_divideRows 2 = .ok (.invokevirtual 105, 3) := by decide +kernel
theorem dX10_divideRows_5 : decode cX10_divideRows 5 = .ok (.aload_n 0, 1) := by decide +kernel
theorem dX10_divideRows_6 : decode cX10_divideRows 6 = .ok (.iload_n 2, 1) := by decide +kernel
theorem dX10_divideRows_7 : decode cX10_divideRows 7 = .ok (.invokevirtual 94, 3) := by decide +kernel
theorem dX10_divideRows_10 : decode cX10_divideRows 10 = .ok (.istore 4, 2) := by decide +kernel
theorem dX10_divideRows_12 : decode cX10_divideRows 12 = .ok (.aload_n 0, 1) := by decide +kernel
theorem dX10_divideRows_13 : decode cX10_divideRows 13 = .ok (.aload_n 0, 1) := by decide +kernel
theorem dX10_divideRows_14 : decode cX10_divideRows 14 = .ok (.getfield 13, 3) := by decide +kernel
theorem dX10_divideRows_17 : decode cX10_divideRows 17 = .ok (.bipush 80, 2) := by decide +kernel
theorem dX10_divideRows_19 : decode cX10_divideRows 19 = .ok (.iload_n 2, 1) := by decide +kernel
theorem dX10_divideRows_20 : decode cX10_divideRows 20 = .ok (.imul, 1) := by decide +kernel
theorem dX10_divideRows_21 : decode cX10_divideRows 21 = .ok (.iload 4, 2) := by decide +kernel
theorem dX10_divideRows_23 : decode cX10_divideRows 23 = .ok (.iadd, 1) := by decide +kernel
theorem dX10_divideRows_24 : decode cX10_divideRows 24 = .ok (.iconst 1, 1) := by decide +kernel
theorem dX10_divideRows_25 : decode cX10_divideRows 25 = .ok (.isub, 1) := by decide +kernel
theorem dX10_divideRows_26 : decode cX10_divideRows 26 = .ok (.iaload, 1) := by decide +kernel
theorem dX10_divideRows_27 : decode cX10_divideRows 27 = .ok (.invokevirtual 266, 3) := by decide +kernel
theorem dX10_divideRows_30 : decode cX10_divideRows 30 = .ok (.istore 5, 2) := by decide +kernel
theorem dX10_divideRows_32 : decode cX10_divideRows 32 = .ok (.aload_n 0, 1) := by decide +kernel
theorem dX10_divideRows_33 : decode cX10_divideRows 33 = .ok (.iload_n 1, 1) := by decide +kernel
theorem dX10_divideRows_34 : decode cX10_divideRows 34 = .ok (.invokevirtual 94, 3) := by decide +kernel
theorem dX10_divideRows_37 : decode cX10_divideRows 37 = .ok (.istore 6, 2) := by decide +kernel
theorem dX10_divideRows_39 : decode cX10_divideRows 39 = .ok (.iload 6, 2) := by decide +kernel
theorem dX10_divideRows_41 : decode cX10_divideRows 41 = .ok (.iload 4, 2) := by decide +kernel
theorem dX10_divideRows_43 : decode cX10_divideRows 43 = .ok (.if_icmp .lt 126, 3) := by decide +kernel
theorem dX10_divideRows_46 : decode cX10_divideRows 46 = .ok (.aload_n 0, 1) := by decide +kernel
theorem dX10_divideRows_47 : decode cX10_divideRows 47 = .ok (.getfield 13, 3) := by decide +kernel
theorem dX10_divideRows_50 : decode cX10_divideRows 50 = .ok (.bipush 80, 2) := by decide +kernel
theorem dX10_divideRows_52 : decode cX10_divideRows 52 = .ok (.iload_n 1, 1) := by decide +kernel
theorem dX10_divideRows_53 : decode cX10_divideRows 53 = .ok (.imul, 1) := by decide +kernel
theorem dX10_divideRows_54 : decode cX10_divideRows 54 = .ok (.iload 6, 2) := by decide +kernel
theorem dX10_divideRows_56 : decode cX10_divideRows 56 = .ok (.iadd, 1) := by decide +kernel
theorem dX10_divideRows_57 : decode cX10_divideRows 57 = .ok (.iconst 1, 1) := by decide +kernel
theorem dX10_divideRows_58 : decode cX10_divideRows 58 = .ok (.isub, 1) := by decide +kernel
theorem dX10_divideRows_59 : decode cX10_divideRows 59 = .ok (.iaload, 1) := by decide +kernel
theorem dX10_divideRows_60 : decode cX10_divideRows 60 = .ok (.iload 5, 2) := by decide +kernel
theorem dX10_divideRows_62 : decode cX10_divideRows 62 = .ok (.imul, 1) := by decide +kernel
theorem dX10_divideRows_63 : decode cX10_divideRows 63 = .ok (.aload_n 0, 1) := by decide +kernel
theorem dX10_divideRows_64 : decode cX10_divideRows 64 = .ok (.getfield 64, 3) := by decide +kernel
theorem dX10_divideRows_67 : decode cX10_divideRows 67 = .ok (.irem, 1) := by decide +kernel
theorem dX10_divideRows_68 : decode cX10_divideRows 68 = .ok (.istore 7, 2) := by decide +kernel
theorem dX10_divideRows_70 : decode cX10_divideRows 70 = .ok (.aload_n 0, 1) := by decide +kernel
theorem dX10_divideRows_71 : decode cX10_divideRows 71 = .ok (.getfield 13, 3) := by decide +kernel
theorem dX10_divideRows_74 : decode cX10_divideRows 74 = .ok (.bipush 80, 2) := by decide +kernel
theorem dX10_divideRows_76 : decode cX10_divideRows 76 = .ok (.iload_n 3, 1) := by decide +kernel
theorem dX10_divideRows_77 : decode cX10_divideRows 77 = .ok (.imul, 1) := by decide +kernel
theorem dX10_divideRows_78 : decode cX10_divideRows 78 = .ok (.iload 6, 2) := by decide +kernel
theorem dX10_divideRows_80 : decode cX10_divideRows 80 = .ok (.iadd, 1) := by decide +kernel
theorem dX10_divideRows_81 : decode cX10_divideRows 81 = .ok (.iload 4, 2) := by decide +kernel
theorem dX10_divideRows_83 : decode cX10_divideRows 83 = .ok (.isub, 1) := by decide +kernel
theorem dX10_divideRows_84 : decode cX10_divideRows 84 = .ok (.iload 7, 2) := by decide +kernel
theorem dX10_divideRows_86 : decode cX10_divideRows 86 = .ok (.iastore, 1) := by decide +kernel
theorem dX10_divideRows_87 : decode cX10_divideRows 87 = .ok (.iconst 0, 1) := by decide +kernel
theorem dX10_divideRows_88 : decode cX10_divideRows 88 = .ok (.istore 8, 2) := by decide +kernel
theorem dX10_divideRows_90 : decode cX10_divideRows 90 = .ok (.iload 8, 2) := by decide +kernel
theorem dX10_divideRows_92 : decode cX10_divideRows 92 = .ok (.iload 4, 2) := by decide +kernel
theorem dX10_divideRows_94 : decode cX10_divideRows 94 = .ok (.if_icmp .ge 65, 3) := by decide +kernel
theorem dX10_divideRows_97 : decode cX10_divideRows 97 = .ok (.aload_n 0, 1) := by decide +kernel
theorem dX10_divideRows_98 : decode cX10_divideRows 98 = .ok (.getfield 13, 3) := by decide +kernel
theorem dX10_divideRows_101 : decode cX10_divideRows 101 = .ok (.bipush 80, 2) := by decide +kernel
theorem dX10_divideRows_103 : decode cX10_divideRows 103 = .ok (.iload_n 1, 1) := by decide +kernel
theorem dX10_divideRows_104 : decode cX10_divideRows 104 = .ok (.imul, 1) := by decide +kernel
theorem dX10_divideRows_105 : decode cX10_divideRows 105 = .ok (.iload 6, 2) := by decide +kernel
theorem dX10_divideRows_107 : decode cX10_divideRows 107 = .ok (.iadd, 1) := by decide +kernel
theorem dX10_divideRows_108 : decode cX10_divideRows 108 = .ok (.iload 4, 2) := by decide +kernel
theorem dX10_divideRows_110 : decode cX10_divideRows 110 = .ok (.isub, 1) := by decide +kernel
theorem dX10_divideRows_111 : decode cX10_divideRows 111 = .ok (.iload 8, 2) := by decide +kernel
theorem dX10_divideRows_113 : decode cX10_divideRows 113 = .ok (.iadd, 1) := by decide +kernel
theorem dX10_divideRows_114 : decode cX10_divideRows 114 = .ok (.aload_n 0, 1) := by decide +kernel
theorem dX10_divideRows_115 : decode cX10_divideRows 115 = .ok (.aload_n 0, 1) := by decide +kernel
theorem dX10_divideRows_116 : decode cX10_divideRows 116 = .ok (.getfield 13, 3) := by decide +kernel
theorem dX10_divideRows_119 : decode cX10_divideRows 119 = .ok (.bipush 80, 2) := by decide +kernel
theorem dX10_divideRows_121 : decode cX10_divideRows 121 = .ok (.iload_n 1, 1) := by decide +kernel
theorem dX10_divideRows_122 : decode cX10_divideRows 122 = .ok (.imul, 1) := by decide +kernel
theorem dX10_divideRows_123 : decode cX10_divideRows 123 = .ok (.iload 6, 2) := by decide +kernel
theorem dX10_divideRows_125 : decode cX10_divideRows 125 = .ok (.iadd, 1) := by decide +kernel
theorem dX10_divideRows_126 : decode cX10_divideRows 126 = .ok (.iload 4, 2) := by decide +kernel
theorem dX10_divideRows_128 : decode cX10_divideRows 128 = .ok (.isub, 1) := by decide +kernel
theorem dX10_divideRows_129 : decode cX10_divideRows 129 = .ok (.iload 8, 2) := by decide +kernel
theorem dX10_divideRows_131 : decode cX10_divideRows 131 = .ok (.iadd, 1) := by decide +kernel
theorem dX10_divideRows_132 : decode cX10_divideRows 132 = .ok (.iaload, 1) := by decide +kernel
theorem dX10_divideRows_133 : decode cX10_divideRows 133 = .ok (.iload 7, 2) := by decide +kernel
theorem dX10_divideRows_135 : decode cX10_divideRows 135 = .ok (.aload_n 0, 1) := by decide +kernel
theorem dX10_divideRows_136 : decode cX10_divideRows 136 = .ok (.getfield 13, 3) := by decide +kernel
theorem dX10_divideRows_139 : decode cX10_divideRows 139 = .ok (.bipush 80, 2) := by decide +kernel
theorem dX10_divideRows_141 : decode cX10_divideRows 141 = .ok (.iload_n 2, 1) := by decide +kernel
theorem dX10_divideRows_142 : decode cX10_divideRows 142 = .ok (.imul, 1) := by decide +kernel
theorem dX10_divideRows_143 : decode cX10_divideRows 143 = .ok (.iload 8, 2) := by decide +kernel
theorem dX10_divideRows_145 : decode cX10_divideRows 145 = .ok (.iadd, 1) := by decide +kernel
theorem dX10_divideRows_146 : decode cX10_divideRows 146 = .ok (.iaload, 1) := by decide +kernel
theorem dX10_divideRows_147 : decode cX10_divideRows 147 = .ok (.imul, 1) := by decide +kernel
theorem dX10_divideRows_148 : decode cX10_divideRows 148 = .ok (.isub, 1) := by decide +kernel
theorem dX10_divideRows_149 : decode cX10_divideRows 149 = .ok (.invokevirtual 102, 3) := by decide +kernel
theorem dX10_divideRows_152 : decode cX10_divideRows 152 = .ok (.iastore, 1) := by decide +kernel
theorem dX10_divideRows_153 : decode cX10_divideRows 153 = .ok (.iinc 8 1, 3) := by decide +kernel
theorem dX10_divideRows_156 : decode cX10_divideRows 156 = .ok (.goto (-66), 3) := by decide +kernel
theorem dX10_divideRows_159 : decode cX10_divideRows 159 = .ok (.aload_n 0, 1) := by decide +kernel
theorem dX10_divideRows_160 : decode cX10_divideRows 160 = .ok (.iload_n 1, 1) := by decide +kernel
theorem dX10_divideRows_161 : decode cX10_divideRows 161 = .ok (.invokevirtual 94, 3) := by decide +kernel
theorem dX10_divideRows_164 : decode cX10_divideRows 164 = .ok (.istore 6, 2) := by decide +kernel
theorem dX10_divideRows_166 : decode cX10_divideRows 166 = .ok (.goto (-127), 3) := by decide +kernel
theorem dX10_divideRows_169 : decode cX10_divideRows 169 = .ok (.return_, 1) := by decide +kernel
theorem dX10_divide_0 : decode cX10_divide 0 = .ok (.iload_n 1, 1) := by decide +kernel
theorem dX10_divide_1 : decode cX10_divide 1 = .ok (.invokestatic 98, 3) := by decide +kernel
theorem dX10_divide_4 : decode cX10_divide 4 = .ok (.ifCond .eq 12, 3) := by decide +kernel
theorem dX10_divide_7 : decode cX10_divide 7 = .ok (.aload_n 0, 1) := by decide +kernel
theorem dX10_divide_8 : decode cX10_divide 8 = .ok (.iload_n 2, 1) := by decide +kernel
theorem dX10_divide_9 : decode cX10_divide 9 = .ok (.iload_n 3, 1) := by decide +kernel
theorem dX10_divide_10 : decode cX10_divide 10 = .ok (.invokevirtual 133, 3) := by decide +kernel
theorem dX10_divide_13 : decode cX10_divide 13 = .ok (.ifCond .eq 6, 3) := by decide +kernel
theorem dX10_divide_16 : decode cX10_divide 16 = .ok (.bipush (-2), 2) := by decide +kernel
theorem dX10_divide_18 : decode cX10_divide 18 = .ok (.ireturn, 1) := by decide +kernel
theorem dX10_divide_19 : decode cX10_divide 19 = .ok (.aload_n 0, 1) := by decide +kernel
theorem dX10_divide_20 : decode cX10_divide 20 = .ok (.iload_n 3, 1) := by decide +kernel
theorem dX10_divide_21 : decode cX10_divide 21 = .ok (.invokevirtual 94, 3) := by decide +kernel
theorem dX10_divide_24 : decode cX10_divide 24 = .ok (.ifCond .ne 6, 3) := by decide +kernel
theorem dX10_divide_27 : decode cX10_divide 27 = .ok (.bipush (-3), 2) := by decide +kernel
theorem dX10_divide_29 : decode cX10_divide 29 = .ok (.ireturn, 1) := by decide +kernel
theorem dX10_divide_30 : decode cX10_divide 30 = .ok (.aload_n 0, 1) := by decide +kernel
theorem dX10_divide_31 : decode cX10_divide 31 = .ok (.iload_n 2, 1) := by decide +kernel
theorem dX10_divide_32 : decode cX10_divide 32 = .ok (.bipush 8, 2) := by decide +kernel
theorem dX10_divide_34 : decode cX10_divide 34 = .ok (.invokevirtual 90, 3) := by decide +kernel
theorem dX10_divide_37 : decode cX10_divide 37 = .ok (.aload_n 0, 1) := by decide +kernel
theorem dX10_divide_38 : decode cX10_divide 38 = .ok (.iload_n 3, 1) := by decide +kernel
theorem dX10_divide_39 : decode cX10_divide 39 = .ok (.bipush 9, 2) := by decide +kernel
theorem dX10_divide_41 : decode cX10_divide 41 = .ok (.invokevirtual 90, 3) := by decide +kernel
theorem dX10_divide_44 : decode cX10_divide 44 = .ok (.aload_n 0, 1) := by decide +kernel
theorem dX10_divide_45 : decode cX10_divide 45 = .ok (.bipush 8, 2) := by decide +kernel
theorem dX10_divide_47 : decode cX10_divide 47 = .ok (.bipush 9, 2) := by decide +kernel
theorem dX10_divide_49 : decode cX10_divide 49 = .ok (.bipush 10, 2) := by decide +kernel
theorem dX10_divide_51 : decode cX10_divide 51 = .ok (.invokevirtual 269, 3) := by decide +kernel
theorem dX10_divide_54 : decode cX10_divide 54 = .ok (.aload_n 0, 1) := by decide +kernel
theorem dX10_divide_55 : decode cX10_divide 55 = .ok (.iload_n 1, 1) := by decide +kernel
theorem dX10_divide_56 : decode cX10_divide 56 = .ok (.iload 4, 2) := by decide +kernel
theorem dX10_divide_58 : decode cX10_divide 58 = .ok (.ifCond .eq 8, 3) := by decide +kernel
theorem dX10_divide_61 : decode cX10_divide 61 = .ok (.bipush 8, 2) := by decide +kernel
theorem dX10_divide_63 : decode cX10_divide 63 = .ok (.goto 5, 3) := by decide +kernel
theorem dX10_divide_66 : decode cX10_divide 66 = .ok (.bipush 10, 2) := by decide +kernel
theorem dX10_divide_68 : decode cX10_divide 68 = .ok (.invokevirtual 109, 3) := by decide +kernel
theorem dX10_divide_71 : decode cX10_divide 71 = .ok (.ireturn, 1) := by decide +kernel
theorem dX10_scale_0 : decode cX10_scale 0 = .ok (.iconst 0, 1) := by decide +kernel
theorem dX10_scale_1 : decode cX10_scale 1 = .ok (.istore_n 3, 1) := by decide +kernel
theorem dX10_scale_2 : decode cX10_scale 2 = .ok (.iload_n 3, 1) := by decide +kernel
theorem dX10_scale_3 : decode cX10_scale 3 = .ok (.bipush 80, 2) := by decide +kernel
theorem dX10_scale_5 : decode cX10_scale 5 = .ok (.if_icmp .ge 38, 3) := by decide +kernel
theorem dX10_scale_8 : decode cX10_scale 8 = .ok (.aload_n 0, 1) := by decide +kernel
theorem dX10_scale_9 : decode cX10_scale 9 = .ok (.getfield 13, 3) := by decide +kernel
theorem dX10_scale_12 : decode cX10_scale 12 = .ok (.bipush 80, 2) := by decide +kernel
theorem dX10_scale_14 : decode cX10_scale 14 = .ok (.iload_n 1, 1) := by decide +kernel
theorem dX10_scale_15 : decode cX10_scale 15 = .ok (.imul, 1) := by decide +kernel
theorem dX10_scale_16 : decode cX10_scale 16 = .ok (.iload_n 3, 1) := by decide +kernel
theorem dX10_scale_17 : decode cX10_scale 17 = .ok (.iadd, 1) := by decide +kernel
theorem dX10_scale_18 : decode cX10_scale 18 = .ok (.aload_n 0, 1) := by decide +kernel
theorem dX10_scale_19 : decode cX10_scale 19 = .ok (.getfield 13, 3) := by decide +kernel
theorem dX10_scale_22 : decode cX10_scale 22 = .ok (.bipush 80, 2) := by decide +kernel
theorem dX10_scale_24 : decode cX10_scale 24 = .ok (.iload_n 1, 1) := by decide +kernel
theorem dX10_scale_25 : decode cX10_scale 25 = .ok (.imul, 1) := by decide +kernel
theorem dX10_scale_26 : decode cX10_scale 26 = .ok (.iload_n 3, 1) := by decide +kernel
theorem dX10_scale_27 : decode cX10_scale 27 = .ok (.iadd, 1) := by decide +kernel
theorem dX10_scale_28 : decode cX10_scale 28 = .ok (.iaload, 1) := by decide +kernel
theorem dX10_scale_29 : decode cX10_scale 29 = .ok (.iload_n 2, 1) := by decide +kernel
theorem dX10_scale_30 : decode cX10_scale 30 = .ok (.imul, 1) := by decide +kernel
theorem dX10_scale_31 : decode cX10_scale 31 = .ok (.aload_n 0, 1) := by decide +kernel
theorem dX10_scale_32 : decode cX10_scale 32 = .ok (.getfield 64, 3) := by decide +kernel
theorem dX10_scale_35 : decode cX10_scale 35 = .ok (.irem, 1) := by decide +kernel
theorem dX10_scale_36 : decode cX10_scale 36 = .ok (.iastore, 1) := by decide +kernel
theorem dX10_scale_37 : decode cX10_scale 37 = .ok (.iinc 3 1, 3) := by decide +kernel
theorem dX10_scale_40 : decode cX10_scale 40 = .ok (.goto (-38), 3) := by decide +kernel
theorem dX10_scale_43 : decode cX10_scale 43 = .ok (.return_, 1) := by decide +kernel
theorem dX10_common_0 : decode cX10_common 0 = .ok (.aload_n 0, 1) := by decide +kernel
theorem dX10_common_1 : decode cX10_common 1 = .ok (.iload_n 1, 1) := by decide +kernel
theorem dX10_common_2 : decode cX10_common 2 = .ok (.bipush 8, 2) := by decide +kernel
theorem dX10_common_4 : decode cX10_common 4 = .ok (.invokevirtual 90, 3) := by decide +kernel
theorem dX10_common_7 : decode cX10_common 7 = .ok (.aload_n 0, 1) := by decide +kernel
theorem dX10_common_8 : decode cX10_common 8 = .ok (.iload_n 2, 1) := by decide +kernel
theorem dX10_common_9 : decode cX10_common 9 = .ok (.bipush 9, 2) := by decide +kernel
theorem dX10_common_11 : decode cX10_common 11 = .ok (.invokevirtual 90, 3) := by decide +kernel
theorem dX10_common_14 : decode cX10_common 14 = .ok (.aload_n 0, 1) := by decide +kernel
theorem dX10_common_15 : decode cX10_common 15 = .ok (.bipush 12, 2) := by decide +kernel
theorem dX10_common_17 : decode cX10_common 17 = .ok (.invokevirtual 105, 3) := by decide +kernel
theorem dX10_common_20 : decode cX10_common 20 = .ok (.aload_n 0, 1) := by decide +kernel
theorem dX10_common_21 : decode cX10_common 21 = .ok (.bipush 13, 2) := by decide +kernel
theorem dX10_common_23 : decode cX10_common 23 = .ok (.invokevirtual 105, 3) := by decide +kernel
theorem dX10_common_26 : decode cX10_common 26 = .ok (.aload_n 0, 1) := by decide +kernel
theorem dX10_common_27 : decode cX10_common 27 = .ok (.getfield 13, 3) := by decide +kernel
theorem dX10_common_30 : decode cX10_common 30 = .ok (.sipush 960, 3) := by decide +kernel
theorem dX10_common_33 : decode cX10_common 33 = .ok (.iconst 1, 1) := by decide +kernel
theorem dX10_common_34 : decode cX10_common 34 = .ok (.iastore, 1) := by decide +kernel
theorem dX10_common_35 : decode cX10_common 35 = .ok (.aload_n 0, 1) := by decide +kernel
theorem dX10_common_36 : decode cX10_common 36 = .ok (.bipush 9, 2) := by decide +kernel
theorem dX10_common_38 : decode cX10_common 38 = .ok (.invokevirtual 94, 3) := by decide +kernel
theorem dX10_common_41 : decode cX10_common 41 = .ok (.ifCond .le 123, 3) := by decide +kernel
theorem dX10_common_44 : decode cX10_common 44 = .ok (.aload_n 0, 1) := by decide +kernel
theorem dX10_common_45 : decode cX10_common 45 = .ok (.bipush 8, 2) := by decide +kernel
theorem dX10_common_47 : decode cX10_common 47 = .ok (.bipush 9, 2) := by decide +kernel
theorem dX10_common_49 : decode cX10_common 49 = .ok (.bipush 10, 2) := by decide +kernel
theorem dX10_common_51 : decode cX10_common 51 = .ok (.invokevirtual 269, 3) := by decide +kernel
theorem dX10_common_54 : decode cX10_common 54 = .ok (.aload_n 0, 1) := by decide +kernel
theorem dX10_common_55 : decode cX10_common 55 = .ok (.bipush 10, 2) := by decide +kernel
theorem dX10_common_57 : decode cX10_common 57 = .ok (.bipush 13, 2) := by decide +kernel
theorem dX10_common_59 : decode cX10_common 59 = .ok (.bipush 11, 2) := by decide +kernel
theorem dX10_common_61 : decode cX10_common 61 = .ok (.invokevirtual 146, 3) := by decide +kernel
theorem dX10_common_64 : decode cX10_common 64 = .ok (.iconst 0, 1) := by decide +kernel
theorem dX10_common_65 : decode cX10_common 65 = .ok (.istore_n 3, 1) := by decide +kernel
theorem dX10_common_66 : decode cX10_common 66 = .ok (.iload_n 3, 1) := by decide +kernel
theorem dX10_common_67 : decode cX10_common 67 = .ok (.bipush 80, 2) := by decide +kernel
theorem dX10_common_69 : decode cX10_common 69 = .ok (.if_icmp .ge 44, 3) := by decide +kernel
theorem dX10_common_72 : decode cX10_common 72 = .ok (.aload_n 0, 1) := by decide +kernel
theorem dX10_common_73 : decode cX10_common 73 = .ok (.getfield 13, 3) := by decide +kernel
theorem dX10_common_76 : decode cX10_common 76 = .ok (.sipush 960, 3) := by decide +kernel
theorem dX10_common_79 : decode cX10_common 79 = .ok (.iload_n 3, 1) := by decide +kernel
theorem dX10_common_80 : decode cX10_common 80 = .ok (.iadd, 1) := by decide +kernel
theorem dX10_common_81 : decode cX10_common 81 = .ok (.aload_n 0, 1) := by decide +kernel
theorem dX10_common_82 : decode cX10_common 82 = .ok (.aload_n 0, 1) := by decide +kernel
theorem dX10_common_83 : decode cX10_common 83 = .ok (.getfield 13, 3) := by decide +kernel
theorem dX10_common_86 : decode cX10_common 86 = .ok (.sipush 960, 3) := by decide +kernel
theorem dX10_common_89 : decode cX10_common 89 = .ok (.iload_n 3, 1) := by decide +kernel
theorem dX10_common_90 : decode cX10_common 90 = .ok (.iadd, 1) := by decide +kernel
theorem dX10_common_91 : decode cX10_common 91 = .ok (.iaload, 1) := by decide +kernel
theorem dX10_common_92 : decode cX10_common 92 = .ok (.aload_n 0, 1) := by decide +kernel
theorem dX10_common_93 : decode cX10_common 93 = .ok (.getfield 13, 3) := by decide +kernel
theorem dX10_common_96 : decode cX10_common 96 = .ok (.sipush 880, 3) := by decide +kernel
theorem dX10_common_99 : decode cX10_common 99 = .ok (.iload_n 3, 1) := by decide +kernel
theorem dX10_common_100 : decode cX10_common 100 = .ok (.iadd, 1) := by decide +kernel
theorem dX10_common_101 : decode cX10_common 101 = .ok (.iaload, 1) := by decide +kernel
theorem dX10_common_102 : decode cX10_common 102 = .ok (.isub, 1) := by decide +kernel
theorem dX10_common_103 : decode cX10_common 103 = .ok (.invokevirtual 102, 3) := by decide +kernel
theorem dX10_common_106 : decode cX10_common 106 = .ok (.iastore, 1) := by decide +kernel
theorem dX10_common_107 : decode cX10_common 107 = .ok (.iinc 3 1, 3) := by decide +kernel
theorem dX10_common_110 : decode cX10_common 110 = .ok (.goto (-44), 3) := by decide +kernel
theorem dX10_common_113 : decode cX10_common 113 = .ok (.aload_n 0, 1) := by decide +kernel
theorem dX10_common_114 : decode cX10_common 114 = .ok (.bipush 8, 2) := by decide +kernel
theorem dX10_common_116 : decode cX10_common 116 = .ok (.bipush 14, 2) := by decide +kernel
theorem dX10_common_118 : decode cX10_common 118 = .ok (.invokevirtual 90, 3) := by decide +kernel
theorem dX10_common_121 : decode cX10_common 121 = .ok (.aload_n 0, 1) := by decide +kernel
theorem dX10_common_122 : decode cX10_common 122 = .ok (.bipush 9, 2) := by decide +kernel
theorem dX10_common_124 : decode cX10_common 124 = .ok (.bipush 8, 2) := by decide +kernel
theorem dX10_common_126 : decode cX10_common 126 = .ok (.invokevirtual 90, 3) := by decide +kernel
theorem dX10_common_129 : decode cX10_common 129 = .ok (.aload_n 0, 1) := by decide +kernel
theorem dX10_common_130 : decode cX10_common 130 = .ok (.bipush 14, 2) := by decide +kernel
theorem dX10_common_132 : decode cX10_common 132 = .ok (.bipush 9, 2) := by decide +kernel
theorem dX10_common_134 : decode cX10_common 134 = .ok (.invokevirtual 90, 3) := by decide +kernel
theorem dX10_common_137 : decode cX10_common 137 = .ok (.aload_n 0, 1) := by decide +kernel
theorem dX10_common_138 : decode cX10_common 138 = .ok (.bipush 12, 2) := by decide +kernel
theorem dX10_common_140 : decode cX10_common 140 = .ok (.bipush 14, 2) := by decide +kernel
theorem dX10_common_142 : decode cX10_common 142 = .ok (.invokevirtual 90, 3) := by decide +kernel
theorem dX10_common_145 : decode cX10_common 145 = .ok (.aload_n 0, 1) := by decide +kernel
theorem dX10_common_146 : decode cX10_common 146 = .ok (.bipush 13, 2) := by decide +kernel
theorem dX10_common_148 : decode cX10_common 148 = .ok (.bipush 12, 2) := by decide +kernel
theorem dX10_common_150 : decode cX10_common 150 = .ok (.invokevirtual 90, 3) := by decide +kernel
theorem dX10_common_153 : decode cX10_common 153 = .ok (.aload_n 0, 1) := by decide +kernel
theorem dX10_common_154 : decode cX10_common 154 = .ok (.bipush 14, 2) := by decide +kernel
theorem dX10_common_156 : decode cX10_common 156 = .ok (.bipush 13, 2) := by decide +kernel
theorem dX10_common_158 : decode cX10_common 158 = .ok (.invokevirtual 90, 3) := by decide +kernel
theorem dX10_common_161 : decode cX10_common 161 = .ok (.goto (-126), 3) := by decide +kernel
theorem dX10_common_164 : decode cX10_common 164 = .ok (.aload_n 0, 1) := by decide +kernel
theorem dX10_common_165 : decode cX10_common 165 = .ok (.bipush 8, 2) := by decide +kernel
theorem dX10_common_167 : decode cX10_common 167 = .ok (.invokevirtual 94, 3) := by decide +kernel
theorem dX10_common_170 : decode cX10_common 170 = .ok (.ifCond .ne 4, 3) := by decide +kernel
theorem dX10_common_173 : decode cX10_common 173 = .ok (.return_, 1) := by decide +kernel
theorem dX10_common_174 : decode cX10_common 174 = .ok (.aload_n 0, 1) := by decide +kernel
theorem dX10_common_175 : decode cX10_common 175 = .ok (.aload_n 0, 1) := by decide +kernel
theorem dX10_common_176 : decode cX10_common 176 = .ok (.getfield 13, 3) := by decide +kernel
theorem dX10_common_179 : decode cX10_common 179 = .ok (.sipush 640, 3) := by decide +kernel
theorem dX10_common_182 : decode cX10_common 182 = .ok (.aload_n 0, 1) := by decide +kernel
theorem dX10_common_183 : decode cX10_common 183 = .ok (.bipush 8, 2) := by decide +kernel
theorem dX10_common_185 : decode cX10_common 185 = .ok (.invokevirtual 94, 3) := by decide +kernel
theorem dX10_common_188 : decode cX10_common 188 = .ok (.iadd, 1) := by decide +kernel
theorem dX10_common_189 : decode cX10_common 189 = .ok (.iconst 1, 1) := by decide +kernel
theorem dX10_common_190 : decode cX10_common 190 = .ok (.isub, 1) := by decide +kernel
theorem dX10_common_191 : decode cX10_common 191 = .ok (.iaload, 1) := by decide +kernel
theorem dX10_common_192 : decode cX10_common 192 = .ok (.invokevirtual 266, 3) := by decide +kernel
theorem dX10_common_195 : decode cX10_common 195 = .ok (.istore_n 3, 1) := by decide +kernel
theorem dX10_common_196 : decode cX10_common 196 = .ok (.aload_n 0, 1) := by decide +kernel
theorem dX10_common_197 : decode cX10_common 197 = .ok (.bipush 8, 2) := by decide +kernel
theorem dX10_common_199 : decode cX10_common 199 = .ok (.iload_n 3, 1) := by decide +kernel
theorem dX10_common_200 : decode cX10_common 200 = .ok (.invokevirtual 272, 3) := by decide +kernel
theorem dX10_common_203 : decode cX10_common 203 = .ok (.aload_n 0, 1) := by decide +kernel
theorem dX10_common_204 : decode cX10_common 204 = .ok (.bipush 12, 2) := by decide +kernel
theorem dX10_common_206 : decode cX10_common 206 = .ok (.iload_n 3, 1) := by decide +kernel
theorem dX10_common_207 : decode cX10_common 207 = .ok (.invokevirtual 272, 3) := by decide +kernel
theorem dX10_common_210 : decode cX10_common 210 = .ok (.return_, 1) := by decide +kernel
theorem dX10_gcd_0 : decode cX10_gcd 0 = .ok (.iload_n 1, 1) := by decide +kernel
theorem dX10_gcd_1 : decode cX10_gcd 1 = .ok (.invokestatic 98, 3) := by decide +kernel
theorem dX10_gcd_4 : decode cX10_gcd 4 = .ok (.ifCond .eq 12, 3) := by decide +kernel
theorem dX10_gcd_7 : decode cX10_gcd 7 = .ok (.aload_n 0, 1) := by decide +kernel
theorem dX10_gcd_8 : decode cX10_gcd 8 = .ok (.iload_n 2, 1) := by decide +kernel
theorem dX10_gcd_9 : decode cX10_gcd 9 = .ok (.iload_n 3, 1) := by decide +kernel
theorem dX10_gcd_10 : decode cX10_gcd 10 = .ok (.invokevirtual 133, 3) := by decide +kernel
theorem dX10_gcd_13 : decode cX10_gcd 13 = .ok (.ifCond .eq 6, 3) := by decide +kernel
theorem dX10_gcd_16 : decode cX10_gcd 16 = .ok (.bipush (-2), 2) := by decide +kernel
theorem dX10_gcd_18 : decode cX10_gcd 18 = .ok (.ireturn, 1) := by decide +kernel
theorem dX10_gcd_19 : decode cX10_gcd 19 = .ok (.aload_n 0, 1) := by decide +kernel
theorem dX10_gcd_20 : decode cX10_gcd 20 = .ok (.iload_n 2, 1) := by decide +kernel
theorem dX10_gcd_21 : decode cX10_gcd 21 = .ok (.iload_n 3, 1) := by decide +kernel
theorem dX10_gcd_22 : decode cX10_gcd 22 = .ok (.invokevirtual 275, 3) := by decide +kernel
theorem dX10_gcd_25 : decode cX10_gcd 25 = .ok (.aload_n 0, 1) := by decide +kernel
theorem dX10_gcd_26 : decode cX10_gcd 26 = .ok (.iload_n 1, 1) := by decide +kernel
theorem dX10_gcd_27 : decode cX10_gcd 27 = .ok (.bipush 8, 2) := by decide +kernel
theorem dX10_gcd_29 : decode cX10_gcd 29 = .ok (.invokevirtual 109, 3) := by decide +kernel
theorem dX10_gcd_32 : decode cX10_gcd 32 = .ok (.ireturn, 1) := by decide +kernel
theorem dX10_cofactor_0 : decode cX10_cofactor 0 = .ok (.iload_n 1, 1) := by decide +kernel
theorem dX10_cofactor_1 : decode cX10_cofactor 1 = .ok (.invokestatic 98, 3) := by decide +kernel
theorem dX10_cofactor_4 : decode cX10_cofactor 4 = .ok (.ifCond .eq 12, 3) := by decide +kernel
theorem dX10_cofactor_7 : decode cX10_cofactor 7 = .ok (.aload_n 0, 1) := by decide +kernel
theorem dX10_cofactor_8 : decode cX10_cofactor 8 = .ok (.iload_n 2, 1) := by decide +kernel
theorem dX10_cofactor_9 : decode cX10_cofactor 9 = .ok (.iload_n 3, 1) := by decide +kernel
theorem dX10_cofactor_10 : decode cX10_cofactor 10 = .ok (.invokevirtual 133, 3) := by decide +kernel
theorem dX10_cofactor_13 : decode cX10_cofactor 13 = .ok (.ifCond .eq 6, 3) := by decide +kernel
theorem dX10_cofactor_16 : decode cX10_cofactor 16 = .ok (.bipush (-2), 2) := by decide +kernel
theorem dX10_cofactor_18 : decode cX10_cofactor 18 = .ok (.ireturn, 1) := by decide +kernel
theorem dX10_cofactor_19 : decode cX10_cofactor 19 = .ok (.aload_n 0, 1) := by decide +kernel
theorem dX10_cofactor_20 : decode cX10_cofactor 20 = .ok (.iload_n 2, 1) := by decide +kernel
theorem dX10_cofactor_21 : decode cX10_cofactor 21 = .ok (.iload_n 3, 1) := by decide +kernel
theorem dX10_cofactor_22 : decode cX10_cofactor 22 = .ok (.invokevirtual 275, 3) := by decide +kernel
theorem dX10_cofactor_25 : decode cX10_cofactor 25 = .ok (.aload_n 0, 1) := by decide +kernel
theorem dX10_cofactor_26 : decode cX10_cofactor 26 = .ok (.bipush 8, 2) := by decide +kernel
theorem dX10_cofactor_28 : decode cX10_cofactor 28 = .ok (.invokevirtual 94, 3) := by decide +kernel
theorem dX10_cofactor_31 : decode cX10_cofactor 31 = .ok (.ifCond .ne 9, 3) := by decide +kernel
theorem dX10_cofactor_34 : decode cX10_cofactor 34 = .ok (.aload_n 0, 1) := by decide +kernel
theorem dX10_cofactor_35 : decode cX10_cofactor 35 = .ok (.bipush 12, 2) := by decide +kernel
theorem dX10_cofactor_37 : decode cX10_cofactor 37 = .ok (.invokevirtual 105, 3) := by decide +kernel
theorem dX10_cofactor_40 : decode cX10_cofactor 40 = .ok (.aload_n 0, 1) := by decide +kernel
theorem dX10_cofactor_41 : decode cX10_cofactor 41 = .ok (.iload_n 3, 1) := by decide +kernel
theorem dX10_cofactor_42 : decode cX10_cofactor 42 = .ok (.invokevirtual 94, 3) := by decide +kernel
theorem dX10_cofactor_45 : decode cX10_cofactor 45 = .ok (.ifCond .le 30, 3) := by decide +kernel
theorem dX10_cofactor_48 : decode cX10_cofactor 48 = .ok (.aload_n 0, 1) := by decide +kernel
theorem dX10_cofactor_49 : decode cX10_cofactor 49 = .ok (.iload_n 3, 1) := by decide +kernel
theorem dX10_cofactor_50 : decode cX10_cofactor 50 = .ok (.bipush 9, 2) := by decide +kernel
theorem dX10_cofactor_52 : decode cX10_cofactor 52 = .ok (.invokevirtual 90, 3) := by decide +kernel
theorem dX10_cofactor_55 : decode cX10_cofactor 55 = .ok (.aload_n 0, 1) := by decide +kernel
theorem dX10_cofactor_56 : decode cX10_cofactor 56 = .ok (.bipush 9, 2) := by decide +kernel
theorem dX10_cofactor_58 : decode cX10_cofactor 58 = .ok (.bipush 8, 2) := by decide +kernel
theorem dX10_cofactor_60 : decode cX10_cofactor 60 = .ok (.bipush 10, 2) := by decide +kernel
theorem dX10_cofactor_62 : decode cX10_cofactor 62 = .ok (.invokevirtual 269, 3) := by decide +kernel
theorem dX10_cofactor_65 : decode cX10_cofactor 65 = .ok (.aload_n 0, 1) := by decide +kernel
theorem dX10_cofactor_66 : decode cX10_cofactor 66 = .ok (.bipush 12, 2) := by decide +kernel
theorem dX10_cofactor_68 : decode cX10_cofactor 68 = .ok (.bipush 10, 2) := by decide +kernel
theorem dX10_cofactor_70 : decode cX10_cofactor 70 = .ok (.bipush 11, 2) := by decide +kernel
theorem dX10_cofactor_72 : decode cX10_cofactor 72 = .ok (.invokevirtual 269, 3) := by decide +kernel
theorem dX10_cofactor_75 : decode cX10_cofactor 75 = .ok (.aload_n 0, 1) := by decide +kernel
theorem dX10_cofactor_76 : decode cX10_cofactor 76 = .ok (.iload_n 1, 1) := by decide +kernel
theorem dX10_cofactor_77 : decode cX10_cofactor 77 = .ok (.bipush 12, 2) := by decide +kernel
theorem dX10_cofactor_79 : decode cX10_cofactor 79 = .ok (.invokevirtual 109, 3) := by decide +kernel
theorem dX10_cofactor_82 : decode cX10_cofactor 82 = .ok (.ireturn, 1) := by decide +kernel
theorem dX10_compose_0 : decode cX10_compose 0 = .ok (.iload_n 1, 1) := by decide +kernel
theorem dX10_compose_1 : decode cX10_compose 1 = .ok (.invokestatic 98, 3) := by decide +kernel
theorem dX10_compose_4 : decode cX10_compose 4 = .ok (.ifCond .eq 12, 3) := by decide +kernel
theorem dX10_compose_7 : decode cX10_compose 7 = .ok (.aload_n 0, 1) := by decide +kernel
theorem dX10_compose_8 : decode cX10_compose 8 = .ok (.iload_n 2, 1) := by decide +kernel
theorem dX10_compose_9 : decode cX10_compose 9 = .ok (.iload_n 3, 1) := by decide +kernel
theorem dX10_compose_10 : decode cX10_compose 10 = .ok (.invokevirtual 133, 3) := by decide +kernel
theorem dX10_compose_13 : decode cX10_compose 13 = .ok (.ifCond .eq 6, 3) := by decide +kernel
theorem dX10_compose_16 : decode cX10_compose 16 = .ok (.bipush (-2), 2) := by decide +kernel
theorem dX10_compose_18 : decode cX10_compose 18 = .ok (.ireturn, 1) := by decide +kernel
theorem dX10_compose_19 : decode cX10_compose 19 = .ok (.aload_n 0, 1) := by decide +kernel
theorem dX10_compose_20 : decode cX10_compose 20 = .ok (.iload_n 2, 1) := by decide +kernel
theorem dX10_compose_21 : decode cX10_compose 21 = .ok (.invokevirtual 94, 3) := by decide +kernel
theorem dX10_compose_24 : decode cX10_compose 24 = .ok (.istore 4, 2) := by decide +kernel
theorem dX10_compose_26 : decode cX10_compose 26 = .ok (.aload_n 0, 1) := by decide +kernel
theorem dX10_compose_27 : decode cX10_compose 27 = .ok (.iload_n 3, 1) := by decide +kernel
theorem dX10_compose_28 : decode cX10_compose 28 = .ok (.invokevirtual 94, 3) := by decide +kernel
theorem dX10_compose_31 : decode cX10_compose 31 = .ok (.istore 5, 2) := by decide +kernel
theorem dX10_compose_33 : decode cX10_compose 33 = .ok (.iload 4, 2) := by decide +kernel
theorem dX10_compose_35 : decode cX10_compose 35 = .ok (.iconst 1, 1) := by decide +kernel
theorem dX10_compose_36 : decode cX10_compose 36 = .ok (.if_icmp .le 28, 3) := by decide +kernel
theorem dX10_compose_39 : decode cX10_compose 39 = .ok (.iload 5, 2) := by decide +kernel
theorem dX10_compose_41 : decode cX10_compose 41 = .ok (.iconst 1, 1) := by decide +kernel
theorem dX10_compose_42 : decode cX10_compose 42 = .ok (.if_icmp .le 22, 3) := by decide +kernel
theorem dX10_compose_45 : decode cX10_compose 45 = .ok (.iload 4, 2) := by decide +kernel
theorem dX10_compose_47 : decode cX10_compose 47 = .ok (.iconst 1, 1) := by decide +kernel
theorem dX10_compose_48 : decode cX10_compose 48 = .ok (.isub, 1) := by decide +kernel
theorem dX10_compose_49 : decode cX10_compose 49 = .ok (.iload 5, 2) := by decide +kernel
theorem dX10_compose_51 : decode cX10_compose 51 = .ok (.iconst 1, 1) := by decide +kernel
theorem dX10_compose_52 : decode cX10_compose 52 = .ok (.isub, 1) := by decide +kernel
theorem dX10_compose_53 : decode cX10_compose 53 = .ok (.imul, 1) := by decide +kernel
theorem dX10_compose_54 : decode cX10_compose 54 = .ok (.iconst 1, 1) := by decide +kernel
theorem dX10_compose_55 : decode cX10_compose 55 = .ok (.iadd, 1) := by decide +kernel
theorem dX10_compose_56 : decode cX10_compose 56 = .ok (.bipush 32, 2) := by decide +kernel
theorem dX10_compose_58 : decode cX10_compose 58 = .ok (.if_icmp .le 6, 3) := by decide +kernel
theorem dX10_compose_61 : decode cX10_compose 61 = .ok (.bipush (-4), 2) := by decide +kernel
theorem dX10_compose_63 : decode cX10_compose 63 = .ok (.ireturn, 1) := by decide +kernel
theorem dX10_compose_64 : decode cX10_compose 64 = .ok (.aload_n 0, 1) := by decide +kernel
theorem dX10_compose_65 : decode cX10_compose 65 = .ok (.bipush 8, 2) := by decide +kernel
theorem dX10_compose_67 : decode cX10_compose 67 = .ok (.invokevirtual 105, 3) := by decide +kernel
theorem dX10_compose_70 : decode cX10_compose 70 = .ok (.iload 4, 2) := by decide +kernel
theorem dX10_compose_72 : decode cX10_compose 72 = .ok (.iconst 1, 1) := by decide +kernel
theorem dX10_compose_73 : decode cX10_compose 73 = .ok (.isub, 1) := by decide +kernel
theorem dX10_compose_74 : decode cX10_compose 74 = .ok (.istore 6, 2) := by decide +kernel
theorem dX10_compose_76 : decode cX10_compose 76 = .ok (.iload 6, 2) := by decide +kernel
theorem dX10_compose_78 : decode cX10_compose 78 = .ok (.ifCond .lt 60, 3) := by decide +kernel
theorem dX10_compose_81 : decode cX10_compose 81 = .ok (.aload_n 0, 1) := by decide +kernel
theorem dX10_compose_82 : decode cX10_compose 82 = .ok (.bipush 8, 2) := by decide +kernel
theorem dX10_compose_84 : decode cX10_compose 84 = .ok (.iload_n 3, 1) := by decide +kernel
theorem dX10_compose_85 : decode cX10_compose 85 = .ok (.bipush 11, 2) := by decide +kernel
theorem dX10_compose_87 : decode cX10_compose 87 = .ok (.invokevirtual 146, 3) := by decide +kernel
theorem dX10_compose_90 : decode cX10_compose 90 = .ok (.aload_n 0, 1) := by decide +kernel
theorem dX10_compose_91 : decode cX10_compose 91 = .ok (.bipush 11, 2) := by decide +kernel
theorem dX10_compose_93 : decode cX10_compose 93 = .ok (.bipush 8, 2) := by decide +kernel
theorem dX10_compose_95 : decode cX10_compose 95 = .ok (.invokevirtual 90, 3) := by decide +kernel
theorem dX10_compose_98 : decode cX10_compose 98 = .ok (.aload_n 0, 1) := by decide +kernel
theorem dX10_compose_99 : decode cX10_compose 99 = .ok (.getfield 13, 3) := by decide +kernel
theorem dX10_compose_102 : decode cX10_compose 102 = .ok (.sipush 640, 3) := by decide +kernel
theorem dX10_compose_105 : decode cX10_compose 105 = .ok (.aload_n 0, 1) := by decide +kernel
theorem dX10_compose_106 : decode cX10_compose 106 = .ok (.getfield 13, 3) := by decide +kernel
theorem dX10_compose_109 : decode cX10_compose 109 = .ok (.sipush 640, 3) := by decide +kernel
theorem dX10_compose_112 : decode cX10_compose 112 = .ok (.iaload, 1) := by decide +kernel
theorem dX10_compose_113 : decode cX10_compose 113 = .ok (.aload_n 0, 1) := by decide +kernel
theorem dX10_compose_114 : decode cX10_compose 114 = .ok (.getfield 13, 3) := by decide +kernel
theorem dX10_compose_117 : decode cX10_compose 117 = .ok (.bipush 80, 2) := by decide +kernel
theorem dX10_compose_119 : decode cX10_compose 119 = .ok (.iload_n 2, 1) := by decide +kernel
theorem dX10_compose_120 : decode cX10_compose 120 = .ok (.imul, 1) := by decide +kernel
theorem dX10_compose_121 : decode cX10_compose 121 = .ok (.iload 6, 2) := by decide +kernel
theorem dX10_compose_123 : decode cX10_compose 123 = .ok (.iadd, 1) := by decide +kernel
theorem dX10_compose_124 : decode cX10_compose 124 = .ok (.iaload, 1) := by decide +kernel
theorem dX10_compose_125 : decode cX10_compose 125 = .ok (.iadd, 1) := by decide +kernel
theorem dX10_compose_126 : decode cX10_compose 126 = .ok (.aload_n 0, 1) := by decide +kernel
theorem dX10_compose_127 : decode cX10_compose 127 = .ok (.getfield 64, 3) := by decide +kernel
theorem dX10_compose_130 : decode cX10_compose 130 = .ok (.irem, 1) := by decide +kernel
theorem dX10_compose_131 : decode cX10_compose 131 = .ok (.iastore, 1) := by decide +kernel
theorem dX10_compose_132 : decode cX10_compose 132 = .ok (.iinc 6 (-1), 3) := by decide +kernel
theorem dX10_compose_135 : decode cX10_compose 135 = .ok (.goto (-59), 3) := by decide +kernel
theorem dX10_compose_138 : decode cX10_compose 138 = .ok (.aload_n 0, 1) := by decide +kernel
theorem dX10_compose_139 : decode cX10_compose 139 = .ok (.iload_n 1, 1) := by decide +kernel
theorem dX10_compose_140 : decode cX10_compose 140 = .ok (.bipush 8, 2) := by decide +kernel
theorem dX10_compose_142 : decode cX10_compose 142 = .ok (.invokevirtual 109, 3) := by decide +kernel
theorem dX10_compose_145 : decode cX10_compose 145 = .ok (.ireturn, 1) := by decide +kernel
theorem dX10_moveRow_0 : decode cX10_moveRow 0 = .ok (.aload_n 0, 1) := by decide +kernel
theorem dX10_moveRow_1 : decode cX10_moveRow 1 = .ok (.iload_n 1, 1) := by decide +kernel
theorem dX10_moveRow_2 : decode cX10_moveRow 2 = .ok (.invokevirtual 94, 3) := by decide +kernel
theorem dX10_moveRow_5 : decode cX10_moveRow 5 = .ok (.istore_n 3, 1) := by decide +kernel
theorem dX10_moveRow_6 : decode cX10_moveRow 6 = .ok (.iconst 0, 1) := by decide +kernel
theorem dX10_moveRow_7 : decode cX10_moveRow 7 = .ok (.istore 4, 2) := by decide +kernel
theorem dX10_moveRow_9 : decode cX10_moveRow 9 = .ok (.iload 4, 2) := by decide +kernel
theorem dX10_moveRow_11 : decode cX10_moveRow 11 = .ok (.iload_n 3, 1) := by decide +kernel
theorem dX10_moveRow_12 : decode cX10_moveRow 12 = .ok (.if_icmp .ge 73, 3) := by decide +kernel
theorem dX10_moveRow_15 : decode cX10_moveRow 15 = .ok (.iload_n 3, 1) := by decide +kernel
theorem dX10_moveRow_16 : decode cX10_moveRow 16 = .ok (.iconst 2, 1) := by decide +kernel
theorem dX10_moveRow_17 : decode cX10_moveRow 17 = .ok (.isub, 1) := by decide +kernel
theorem dX10_moveRow_18 : decode cX10_moveRow 18 = .ok (.istore 5, 2) := by decide +kernel
theorem dX10_moveRow_20 : decode cX10_moveRow 20 = .ok (.iload 5, 2) := by decide +kernel
theorem dX10_moveRow_22 : decode cX10_moveRow 22 = .ok (.iload 4, 2) := by decide +kernel
theorem dX10_moveRow_24 : decode cX10_moveRow 24 = .ok (.if_icmp .lt 55, 3) := by decide +kernel
theorem dX10_moveRow_27 : decode cX10_moveRow 27 = .ok (.aload_n 0, 1) := by decide +kernel
theorem dX10_moveRow_28 : decode cX10_moveRow 28 = .ok (.getfield 13, 3) := by decide +kernel
theorem dX10_moveRow_31 : decode cX10_moveRow 31 = .ok (.bipush 80, 2) := by decide +kernel
theorem dX10_moveRow_33 : decode cX10_moveRow 33 = .ok (.iload_n 1, 1) := by decide +kernel
theorem dX10_moveRow_34 : decode cX10_moveRow 34 = .ok (.imul, 1) := by decide +kernel
theorem dX10_moveRow_35 : decode cX10_moveRow 35 = .ok (.iload 5, 2) := by decide +kernel
theorem dX10_moveRow_37 : decode cX10_moveRow 37 = .ok (.iadd, 1) := by decide +kernel
theorem dX10_moveRow_38 : decode cX10_moveRow 38 = .ok (.aload_n 0, 1) := by decide +kernel
theorem dX10_moveRow_39 : decode cX10_moveRow 39 = .ok (.getfield 13, 3) := by decide +kernel
theorem dX10_moveRow_42 : decode cX10_moveRow 42 = .ok (.bipush 80, 2) := by decide +kernel
theorem dX10_moveRow_44 : decode cX10_moveRow 44 = .ok (.iload_n 1, 1) := by decide +kernel
theorem dX10_moveRow_45 : decode cX10_moveRow 45 = .ok (.imul, 1) := by decide +kernel
theorem dX10_moveRow_46 : decode cX10_moveRow 46 = .ok (.iload 5, 2) := by decide +kernel
theorem dX10_moveRow_48 : decode cX10_moveRow 48 = .ok (.iadd, 1) := by decide +kernel
theorem dX10_moveRow_49 : decode cX10_moveRow 49 = .ok (.iaload, 1) := by decide +kernel
theorem dX10_moveRow_50 : decode cX10_moveRow 50 = .ok (.iload_n 2, 1) := by decide +kernel
theorem dX10_moveRow_51 : decode cX10_moveRow 51 = .ok (.aload_n 0, 1) := by decide +kernel
theorem dX10_moveRow_52 : decode cX10_moveRow 52 = .ok (.getfield 13, 3) := by decide +kernel
theorem dX10_moveRow_55 : decode cX10_moveRow 55 = .ok (.bipush 80, 2) := by decide +kernel
theorem dX10_moveRow_57 : decode cX10_moveRow 57 = .ok (.iload_n 1, 1) := by decide +kernel
theorem dX10_moveRow_58 : decode cX10_moveRow 58 = .ok (.imul, 1) := by decide +kernel
theorem dX10_moveRow_59 : decode cX10_moveRow 59 = .ok (.iload 5, 2) := by decide +kernel
theorem dX10_moveRow_61 : decode cX10_moveRow 61 = .ok (.iadd, 1) := by decide +kernel
theorem dX10_moveRow_62 : decode cX10_moveRow 62 = .ok (.iconst 1, 1) := by decide +kernel
theorem dX10_moveRow_63 : decode cX10_moveRow 63 = .ok (.iadd, 1) := by decide +kernel
theorem dX10_moveRow_64 : decode cX10_moveRow 64 = .ok (.iaload, 1) := by decide +kernel
theorem dX10_moveRow_65 : decode cX10_moveRow 65 = .ok (.imul, 1) := by decide +kernel
theorem dX10_moveRow_66 : decode cX10_moveRow 66 = .ok (.iadd, 1) := by decide +kernel
theorem dX10_moveRow_67 : decode cX10_moveRow 67 = .ok (.aload_n 0, 1) := by decide +kernel
theorem dX10_moveRow_68 : decode cX10_moveRow 68 = .ok (.getfield 64, 3) := by decide +kernel
theorem dX10_moveRow_71 : decode cX10_moveRow 71 = .ok (.irem, 1) := by decide +kernel
theorem dX10_moveRow_72 : decode cX10_moveRow 72 = .ok (.iastore, 1) := by decide +kernel
theorem dX10_moveRow_73 : decode cX10_moveRow 73 = .ok (.iinc 5 (-1), 3) := by decide +kernel
theorem dX10_moveRow_76 : decode cX10_moveRow 76 = .ok (.goto (-56), 3) := by decide +kernel
theorem dX10_moveRow_79 : decode cX10_moveRow 79 = .ok (.iinc 4 1, 3) := by decide +kernel
theorem dX10_moveRow_82 : decode cX10_moveRow 82 = .ok (.goto (-73), 3) := by decide +kernel
theorem dX10_moveRow_85 : decode cX10_moveRow 85 = .ok (.return_, 1) := by decide +kernel
theorem dX10_move_0 : decode cX10_move 0 = .ok (.iload_n 1, 1) := by decide +kernel
theorem dX10_move_1 : decode cX10_move 1 = .ok (.invokestatic 98, 3) := by decide +kernel
theorem dX10_move_4 : decode cX10_move 4 = .ok (.ifCond .eq 10, 3) := by decide +kernel
theorem dX10_move_7 : decode cX10_move 7 = .ok (.iload_n 2, 1) := by decide +kernel
theorem dX10_move_8 : decode cX10_move 8 = .ok (.invokestatic 98, 3) := by decide +kernel
theorem dX10_move_11 : decode cX10_move 11 = .ok (.ifCond .ne 6, 3) := by decide +kernel
theorem dX10_move_14 : decode cX10_move 14 = .ok (.bipush (-2), 2) := by decide +kernel
theorem dX10_move_16 : decode cX10_move 16 = .ok (.ireturn, 1) := by decide +kernel
theorem dX10_move_17 : decode cX10_move 17 = .ok (.aload_n 0, 1) := by decide +kernel
theorem dX10_move_18 : decode cX10_move 18 = .ok (.iload_n 2, 1) := by decide +kernel
theorem dX10_move_19 : decode cX10_move 19 = .ok (.bipush 8, 2) := by decide +kernel
theorem dX10_move_21 : decode cX10_move 21 = .ok (.invokevirtual 90, 3) := by decide +kernel
theorem dX10_move_24 : decode cX10_move 24 = .ok (.aload_n 0, 1) := by decide +kernel
theorem dX10_move_25 : decode cX10_move 25 = .ok (.bipush 8, 2) := by decide +kernel
theorem dX10_move_27 : decode cX10_move 27 = .ok (.aload_n 0, 1) := by decide +kernel
theorem dX10_move_28 : decode cX10_move 28 = .ok (.iload_n 3, 1) := by decide +kernel
theorem dX10_move_29 : decode cX10_move 29 = .ok (.invokevirtual 102, 3) := by decide +kernel
theorem dX10_move_32 : decode cX10_move 32 = .ok (.invokevirtual 278, 3) := by decide +kernel
theorem dX10_move_35 : decode cX10_move 35 = .ok (.aload_n 0, 1) := by decide +kernel
theorem dX10_move_36 : decode cX10_move 36 = .ok (.iload_n 1, 1) := by decide +kernel
theorem dX10_move_37 : decode cX10_move 37 = .ok (.bipush 8, 2) := by decide +kernel
theorem dX10_move_39 : decode cX10_move 39 = .ok (.invokevirtual 109, 3) := by decide +kernel
theorem dX10_move_42 : decode cX10_move 42 = .ok (.ireturn, 1) := by decide +kernel
theorem dX10_worth_0 : decode cX10_worth 0 = .ok (.iconst 0, 1) := by decide +kernel
theorem dX10_worth_1 : decode cX10_worth 1 = .ok (.istore_n 3, 1) := by decide +kernel
theorem dX10_worth_2 : decode cX10_worth 2 = .ok (.aload_n 0, 1) := by decide +kernel
theorem dX10_worth_3 : decode cX10_worth 3 = .ok (.iload_n 1, 1) := by decide +kernel
theorem dX10_worth_4 : decode cX10_worth 4 = .ok (.invokevirtual 94, 3) := by decide +kernel
theorem dX10_worth_7 : decode cX10_worth 7 = .ok (.iconst 1, 1) := by decide +kernel
theorem dX10_worth_8 : decode cX10_worth 8 = .ok (.isub, 1) := by decide +kernel
theorem dX10_worth_9 : decode cX10_worth 9 = .ok (.istore 4, 2) := by decide +kernel
theorem dX10_worth_11 : decode cX10_worth 11 = .ok (.iload 4, 2) := by decide +kernel
theorem dX10_worth_13 : decode cX10_worth 13 = .ok (.ifCond .lt 31, 3) := by decide +kernel
theorem dX10_worth_16 : decode cX10_worth 16 = .ok (.iload_n 3, 1) := by decide +kernel
theorem dX10_worth_17 : decode cX10_worth 17 = .ok (.iload_n 2, 1) := by decide +kernel
theorem dX10_worth_18 : decode cX10_worth 18 = .ok (.imul, 1) := by decide +kernel
theorem dX10_worth_19 : decode cX10_worth 19 = .ok (.aload_n 0, 1) := by decide +kernel
theorem dX10_worth_20 : decode cX10_worth 20 = .ok (.getfield 13, 3) := by decide +kernel
theorem dX10_worth_23 : decode cX10_worth 23 = .ok (.bipush 80, 2) := by decide +kernel
theorem dX10_worth_25 : decode cX10_worth 25 = .ok (.iload_n 1, 1) := by decide +kernel
theorem dX10_worth_26 : decode cX10_worth 26 = .ok (.imul, 1) := by decide +kernel
theorem dX10_worth_27 : decode cX10_worth 27 = .ok (.iload 4, 2) := by decide +kernel
theorem dX10_worth_29 : decode cX10_worth 29 = .ok (.iadd, 1) := by decide +kernel
theorem dX10_worth_30 : decode cX10_worth 30 = .ok (.iaload, 1) := by decide +kernel
theorem dX10_worth_31 : decode cX10_worth 31 = .ok (.iadd, 1) := by decide +kernel
theorem dX10_worth_32 : decode cX10_worth 32 = .ok (.aload_n 0, 1) := by decide +kernel
theorem dX10_worth_33 : decode cX10_worth 33 = .ok (.getfield 64, 3) := by decide +kernel
theorem dX10_worth_36 : decode cX10_worth 36 = .ok (.irem, 1) := by decide +kernel
theorem dX10_worth_37 : decode cX10_worth 37 = .ok (.istore_n 3, 1) := by decide +kernel
theorem dX10_worth_38 : decode cX10_worth 38 = .ok (.iinc 4 (-1), 3) := by decide +kernel
theorem dX10_worth_41 : decode cX10_worth 41 = .ok (.goto (-30), 3) := by decide +kernel
theorem dX10_worth_44 : decode cX10_worth 44 = .ok (.iload_n 3, 1) := by decide +kernel
theorem dX10_worth_45 : decode cX10_worth 45 = .ok (.ireturn, 1) := by decide +kernel
theorem dX10_root_0 : decode cX10_root 0 = .ok (.iload_n 1, 1) := by decide +kernel
theorem dX10_root_1 : decode cX10_root 1 = .ok (.invokestatic 98, 3) := by decide +kernel
theorem dX10_root_4 : decode cX10_root 4 = .ok (.ifCond .ne 6, 3) := by decide +kernel
theorem dX10_root_7 : decode cX10_root 7 = .ok (.bipush (-2), 2) := by decide +kernel
theorem dX10_root_9 : decode cX10_root 9 = .ok (.ireturn, 1) := by decide +kernel
theorem dX10_root_10 : decode cX10_root 10 = .ok (.aload_n 0, 1) := by decide +kernel
theorem dX10_root_11 : decode cX10_root 11 = .ok (.iload_n 1, 1) := by decide +kernel
theorem dX10_root_12 : decode cX10_root 12 = .ok (.invokevirtual 94, 3) := by decide +kernel
theorem dX10_root_15 : decode cX10_root 15 = .ok (.ifCond .ne 6, 3) := by decide +kernel
theorem dX10_root_18 : decode cX10_root 18 = .ok (.bipush (-3), 2) := by decide +kernel
theorem dX10_root_20 : decode cX10_root 20 = .ok (.ireturn, 1) := by decide +kernel
theorem dX10_root_21 : decode cX10_root 21 = .ok (.iload_n 2, 1) := by decide +kernel
theorem dX10_root_22 : decode cX10_root 22 = .ok (.iconst (-1), 1) := by decide +kernel
theorem dX10_root_23 : decode cX10_root 23 = .ok (.if_icmp .ge 5, 3) := by decide +kernel
theorem dX10_root_26 : decode cX10_root 26 = .ok (.iconst (-1), 1) := by decide +kernel
theorem dX10_root_27 : decode cX10_root 27 = .ok (.ireturn, 1) := by decide +kernel
theorem dX10_root_28 : decode cX10_root 28 = .ok (.iconst 0, 1) := by decide +kernel
theorem dX10_root_29 : decode cX10_root 29 = .ok (.istore_n 3, 1) := by decide +kernel
theorem dX10_root_30 : decode cX10_root 30 = .ok (.iconst 0, 1) := by decide +kernel
theorem dX10_root_31 : decode cX10_root 31 = .ok (.istore 4, 2) := by decide +kernel
theorem dX10_root_33 : decode cX10_root 33 = .ok (.iload 4, 2) := by decide +kernel
theorem dX10_root_35 : decode cX10_root 35 = .ok (.aload_n 0, 1) := by decide +kernel
theorem dX10_root_36 : decode cX10_root 36 = .ok (.getfield 64, 3) := by decide +kernel
theorem dX10_root_39 : decode cX10_root 39 = .ok (.if_icmp .ge 33, 3) := by decide +kernel
theorem dX10_root_42 : decode cX10_root 42 = .ok (.aload_n 0, 1) := by decide +kernel
theorem dX10_root_43 : decode cX10_root 43 = .ok (.iload_n 1, 1) := by decide +kernel
theorem dX10_root_44 : decode cX10_root 44 = .ok (.iload 4, 2) := by decide +kernel
theorem dX10_root_46 : decode cX10_root 46 = .ok (.invokevirtual 281, 3) := by decide +kernel
theorem dX10_root_49 : decode cX10_root 49 = .ok (.ifCond .eq 6, 3) := by decide +kernel
theorem dX10_root_52 : decode cX10_root 52 = .ok (.goto 14, 3) := by decide +kernel
theorem dX10_root_55 : decode cX10_root 55 = .ok (.iload_n 3, 1) := by decide +kernel
theorem dX10_root_56 : decode cX10_root 56 = .ok (.iload_n 2, 1) := by decide +kernel
theorem dX10_root_57 : decode cX10_root 57 = .ok (.if_icmp .ne 6, 3) := by decide +kernel
theorem dX10_root_60 : decode cX10_root 60 = .ok (.iload 4, 2) := by decide +kernel
theorem dX10_root_62 : decode cX10_root 62 = .ok (.ireturn, 1) := by decide +kernel
theorem dX10_root_63 : decode cX10_root 63 = .ok (.iinc 3 1, 3) := by decide +kernel
theorem dX10_root_66 : decode cX10_root 66 = .ok (.iinc 4 1, 3) := by decide +kernel
theorem dX10_root_69 : decode cX10_root 69 = .ok (.goto (-36), 3) := by decide +kernel
theorem dX10_root_72 : decode cX10_root 72 = .ok (.iload_n 2, 1) := by decide +kernel
theorem dX10_root_73 : decode cX10_root 73 = .ok (.ifCond .ge 7, 3) := by decide +kernel
theorem dX10_root_76 : decode cX10_root 76 = .ok (.iload_n 3, 1) := by decide +kernel
theorem dX10_root_77 : decode cX10_root 77 = .ok (.goto 4, 3) := by decide +kernel
theorem dX10_root_80 : decode cX10_root 80 = .ok (.iconst (-1), 1) := by decide +kernel
theorem dX10_root_81 : decode cX10_root 81 = .ok (.ireturn, 1) := by decide +kernel
theorem dX10_order_0 : decode cX10_order 0 = .ok (.iload_n 1, 1) := by decide +kernel
theorem dX10_order_1 : decode cX10_order 1 = .ok (.invokestatic 98, 3) := by decide +kernel
theorem dX10_order_4 : decode cX10_order 4 = .ok (.ifCond .ne 6, 3) := by decide +kernel
theorem dX10_order_7 : decode cX10_order 7 = .ok (.bipush (-2), 2) := by decide +kernel
theorem dX10_order_9 : decode cX10_order 9 = .ok (.ireturn, 1) := by decide +kernel
theorem dX10_order_10 : decode cX10_order 10 = .ok (.aload_n 0, 1) := by decide +kernel
theorem dX10_order_11 : decode cX10_order 11 = .ok (.iload_n 1, 1) := by decide +kernel
theorem dX10_order_12 : decode cX10_order 12 = .ok (.invokevirtual 94, 3) := by decide +kernel
theorem dX10_order_15 : decode cX10_order 15 = .ok (.ifCond .ne 6, 3) := by decide +kernel
theorem dX10_order_18 : decode cX10_order 18 = .ok (.bipush (-3), 2) := by decide +kernel
theorem dX10_order_20 : decode cX10_order 20 = .ok (.ireturn, 1) := by decide +kernel
theorem dX10_order_21 : decode cX10_order 21 = .ok (.aload_n 0, 1) := by decide +kernel
theorem dX10_order_22 : decode cX10_order 22 = .ok (.iload_n 1, 1) := by decide +kernel
theorem dX10_order_23 : decode cX10_order 23 = .ok (.bipush 8, 2) := by decide +kernel
theorem dX10_order_25 : decode cX10_order 25 = .ok (.invokevirtual 90, 3) := by decide +kernel
theorem dX10_order_28 : decode cX10_order 28 = .ok (.aload_n 0, 1) := by decide +kernel
theorem dX10_order_29 : decode cX10_order 29 = .ok (.bipush 8, 2) := by decide +kernel
theorem dX10_order_31 : decode cX10_order 31 = .ok (.aload_n 0, 1) := by decide +kernel
theorem dX10_order_32 : decode cX10_order 32 = .ok (.iload_n 2, 1) := by decide +kernel
theorem dX10_order_33 : decode cX10_order 33 = .ok (.invokevirtual 102, 3) := by decide +kernel
theorem dX10_order_36 : decode cX10_order 36 = .ok (.invokevirtual 278, 3) := by decide +kernel
theorem dX10_order_39 : decode cX10_order 39 = .ok (.iconst 0, 1) := by decide +kernel
theorem dX10_order_40 : decode cX10_order 40 = .ok (.istore_n 3, 1) := by decide +kernel
theorem dX10_order_41 : decode cX10_order 41 = .ok (.aload_n 0, 1) := by decide +kernel
theorem dX10_order_42 : decode cX10_order 42 = .ok (.getfield 13, 3) := by decide +kernel
theorem dX10_order_45 : decode cX10_order 45 = .ok (.sipush 640, 3) := by decide +kernel
theorem dX10_order_48 : decode cX10_order 48 = .ok (.iload_n 3, 1) := by decide +kernel
theorem dX10_order_49 : decode cX10_order 49 = .ok (.iadd, 1) := by decide +kernel
theorem dX10_order_50 : decode cX10_order 50 = .ok (.iaload, 1) := by decide +kernel
theorem dX10_order_51 : decode cX10_order 51 = .ok (.ifCond .ne 9, 3) := by decide +kernel
theorem dX10_order_54 : decode cX10_order 54 = .ok (.iinc 3 1, 3) := by decide +kernel
theorem dX10_order_57 : decode cX10_order 57 = .ok (.goto (-16), 3) := by decide +kernel
theorem dX10_order_60 : decode cX10_order 60 = .ok (.iload_n 3, 1) := by decide +kernel
theorem dX10_order_61 : decode cX10_order 61 = .ok (.ireturn, 1) := by decide +kernel
theorem dX10_isPlace_0 : decode cX10_isPlace 0 = .ok (.iload_n 1, 1) := by decide +kernel
theorem dX10_isPlace_1 : decode cX10_isPlace 1 = .ok (.iconst 0, 1) := by decide +kernel
theorem dX10_isPlace_2 : decode cX10_isPlace 2 = .ok (.aload_n 0, 1) := by decide +kernel
theorem dX10_isPlace_3 : decode cX10_isPlace 3 = .ok (.getfield 284, 3) := by decide +kernel
theorem dX10_isPlace_6 : decode cX10_isPlace 6 = .ok (.iconst 1, 1) := by decide +kernel
theorem dX10_isPlace_7 : decode cX10_isPlace 7 = .ok (.isub, 1) := by decide +kernel
theorem dX10_isPlace_8 : decode cX10_isPlace 8 = .ok (.invokestatic 86, 3) := by decide +kernel
theorem dX10_isPlace_11 : decode cX10_isPlace 11 = .ok (.ireturn, 1) := by decide +kernel
theorem dX10_place_0 : decode cX10_place 0 = .ok (.aload_n 0, 1) := by decide +kernel
theorem dX10_place_1 : decode cX10_place 1 = .ok (.getfield 284, 3) := by decide +kernel
theorem dX10_place_4 : decode cX10_place 4 = .ok (.bipush 16, 2) := by decide +kernel
theorem dX10_place_6 : decode cX10_place 6 = .ok (.if_icmp .ne 6, 3) := by decide +kernel
theorem dX10_place_9 : decode cX10_place 9 = .ok (.bipush (-4), 2) := by decide +kernel
theorem dX10_place_11 : decode cX10_place 11 = .ok (.ireturn, 1) := by decide +kernel
theorem dX10_place_12 : decode cX10_place 12 = .ok (.aload_n 0, 1) := by decide +kernel
theorem dX10_place_13 : decode cX10_place 13 = .ok (.getfield 39, 3) := by decide +kernel
theorem dX10_place_16 : decode cX10_place 16 = .ok (.aload_n 0, 1) := by decide +kernel
theorem dX10_place_17 : decode cX10_place 17 = .ok (.getfield 284, 3) := by decide +kernel
theorem dX10_place_20 : decode cX10_place 20 = .ok (.aload_n 0, 1) := by decide +kernel
theorem dX10_place_21 : decode cX10_place 21 = .ok (.iload_n 1, 1) := by decide +kernel
theorem dX10_place_22 : decode cX10_place 22 = .ok (.invokevirtual 102, 3) := by decide +kernel
theorem dX10_place_25 : decode cX10_place 25 = .ok (.iastore, 1) := by decide +kernel
theorem dX10_place_26 : decode cX10_place 26 = .ok (.aload_n 0, 1) := by decide +kernel
theorem dX10_place_27 : decode cX10_place 27 = .ok (.getfield 42, 3) := by decide +kernel
theorem dX10_place_30 : decode cX10_place 30 = .ok (.aload_n 0, 1) := by decide +kernel
theorem dX10_place_31 : decode cX10_place 31 = .ok (.getfield 284, 3) := by decide +kernel
theorem dX10_place_34 : decode cX10_place 34 = .ok (.iconst 0, 1) := by decide +kernel
theorem dX10_place_35 : decode cX10_place 35 = .ok (.iastore, 1) := by decide +kernel
theorem dX10_place_36 : decode cX10_place 36 = .ok (.aload_n 0, 1) := by decide +kernel
theorem dX10_place_37 : decode cX10_place 37 = .ok (.dup, 1) := by decide +kernel
theorem dX10_place_38 : decode cX10_place 38 = .ok (.getfield 284, 3) := by decide +kernel
theorem dX10_place_41 : decode cX10_place 41 = .ok (.iconst 1, 1) := by decide +kernel
theorem dX10_place_42 : decode cX10_place 42 = .ok (.iadd, 1) := by decide +kernel
theorem dX10_place_43 : decode cX10_place 43 = .ok (.putfield 284, 3) := by decide +kernel
theorem dX10_place_46 : decode cX10_place 46 = .ok (.aload_n 0, 1) := by decide +kernel
theorem dX10_place_47 : decode cX10_place 47 = .ok (.getfield 284, 3) := by decide +kernel
theorem dX10_place_50 : decode cX10_place 50 = .ok (.iconst 1, 1) := by decide +kernel
theorem dX10_place_51 : decode cX10_place 51 = .ok (.isub, 1) := by decide +kernel
theorem dX10_place_52 : decode cX10_place 52 = .ok (.ireturn, 1) := by decide +kernel
theorem dX10_leave_0 : decode cX10_leave 0 = .ok (.aload_n 0, 1) := by decide +kernel
theorem dX10_leave_1 : decode cX10_leave 1 = .ok (.getfield 284, 3) := by decide +kernel
theorem dX10_leave_4 : decode cX10_leave 4 = .ok (.istore_n 1, 1) := by decide +kernel
theorem dX10_leave_5 : decode cX10_leave 5 = .ok (.aload_n 0, 1) := by decide +kernel
theorem dX10_leave_6 : decode cX10_leave 6 = .ok (.iconst 0, 1) := by decide +kernel
theorem dX10_leave_7 : decode cX10_leave 7 = .ok (.putfield 284, 3) := by decide +kernel
theorem dX10_leave_10 : decode cX10_leave 10 = .ok (.iload_n 1, 1) := by decide +kernel
theorem dX10_leave_11 : decode cX10_leave 11 = .ok (.ireturn, 1) := by decide +kernel
theorem dX10_see_0 : decode cX10_see 0 = .ok (.aload_n 0, 1) := by decide +kernel
theorem dX10_see_1 : decode cX10_see 1 = .ok (.iload_n 1, 1) := by decide +kernel
theorem dX10_see_2 : decode cX10_see 2 = .ok (.invokevirtual 287, 3) := by decide +kernel
theorem dX10_see_5 : decode cX10_see 5 = .ok (.ifCond .ne 6, 3) := by decide +kernel
theorem dX10_see_8 : decode cX10_see 8 = .ok (.bipush (-2), 2) := by decide +kernel
theorem dX10_see_10 : decode cX10_see 10 = .ok (.ireturn, 1) := by decide +kernel
theorem dX10_see_11 : decode cX10_see 11 = .ok (.aload_n 0, 1) := by decide +kernel
theorem dX10_see_12 : decode cX10_see 12 = .ok (.getfield 42, 3) := by decide +kernel
theorem dX10_see_15 : decode cX10_see 15 = .ok (.iload_n 1, 1) := by decide +kernel
theorem dX10_see_16 : decode cX10_see 16 = .ok (.iaload, 1) := by decide +kernel
theorem dX10_see_17 : decode cX10_see 17 = .ok (.istore_n 3, 1) := by decide +kernel
theorem dX10_see_18 : decode cX10_see 18 = .ok (.aload_n 0, 1) := by decide +kernel
theorem dX10_see_19 : decode cX10_see 19 = .ok (.getfield 42, 3) := by decide +kernel
theorem dX10_see_22 : decode cX10_see 22 = .ok (.iload_n 1, 1) := by decide +kernel
theorem dX10_see_23 : decode cX10_see 23 = .ok (.aload_n 0, 1) := by decide +kernel
theorem dX10_see_24 : decode cX10_see 24 = .ok (.iload_n 2, 1) := by decide +kernel
theorem dX10_see_25 : decode cX10_see 25 = .ok (.invokevirtual 102, 3) := by decide +kernel
theorem dX10_see_28 : decode cX10_see 28 = .ok (.iastore, 1) := by decide +kernel
theorem dX10_see_29 : decode cX10_see 29 = .ok (.iload_n 3, 1) := by decide +kernel
theorem dX10_see_30 : decode cX10_see 30 = .ok (.ireturn, 1) := by decide +kernel
theorem dX10_told_0 : decode cX10_told 0 = .ok (.aload_n 0, 1) := by decide +kernel
theorem dX10_told_1 : decode cX10_told 1 = .ok (.iload_n 1, 1) := by decide +kernel
theorem dX10_told_2 : decode cX10_told 2 = .ok (.invokevirtual 287, 3) := by decide +kernel
theorem dX10_told_5 : decode cX10_told 5 = .ok (.ifCond .eq 12, 3) := by decide +kernel
theorem dX10_told_8 : decode cX10_told 8 = .ok (.iload_n 2, 1) := by decide +kernel
theorem dX10_told_9 : decode cX10_told 9 = .ok (.iconst 0, 1) := by decide +kernel
theorem dX10_told_10 : decode cX10_told 10 = .ok (.iconst 1, 1) := by decide +kernel
theorem dX10_told_11 : decode cX10_told 11 = .ok (.invokestatic 86, 3) := by decide +kernel
theorem dX10_told_14 : decode cX10_told 14 = .ok (.ifCond .ne 8, 3) := by decide +kernel
theorem dX10_told_17 : decode cX10_told 17 = .ok (.bipush (-2), 2) := by decide +kernel
theorem dX10_told_19 : decode cX10_told 19 = .ok (.goto 22, 3) := by decide +kernel
theorem dX10_told_22 : decode cX10_told 22 = .ok (.iload_n 2, 1) := by decide +kernel
theorem dX10_told_23 : decode cX10_told 23 = .ok (.ifCond .ne 12, 3) := by decide +kernel
theorem dX10_told_26 : decode cX10_told 26 = .ok (.aload_n 0, 1) := by decide +kernel
theorem dX10_told_27 : decode cX10_told 27 = .ok (.getfield 39, 3) := by decide +kernel
theorem dX10_told_30 : decode cX10_told 30 = .ok (.iload_n 1, 1) := by decide +kernel
theorem dX10_told_31 : decode cX10_told 31 = .ok (.iaload, 1) := by decide +kernel
theorem dX10_told_32 : decode cX10_told 32 = .ok (.goto 9, 3) := by decide +kernel
theorem dX10_told_35 : decode cX10_told 35 = .ok (.aload_n 0, 1) := by decide +kernel
theorem dX10_told_36 : decode cX10_told 36 = .ok (.getfield 42, 3) := by decide +kernel
theorem dX10_told_39 : decode cX10_told 39 = .ok (.iload_n 1, 1) := by decide +kernel
theorem dX10_told_40 : decode cX10_told 40 = .ok (.iaload, 1) := by decide +kernel
theorem dX10_told_41 : decode cX10_told 41 = .ok (.ireturn, 1) := by decide +kernel
theorem dX10_value_0 : decode cX10_value 0 = .ok (.iload_n 1, 1) := by decide +kernel
theorem dX10_value_1 : decode cX10_value 1 = .ok (.invokestatic 98, 3) := by decide +kernel
theorem dX10_value_4 : decode cX10_value 4 = .ok (.ifCond .eq 25, 3) := by decide +kernel
theorem dX10_value_7 : decode cX10_value 7 = .ok (.aload_n 0, 1) := by decide +kernel
theorem dX10_value_8 : decode cX10_value 8 = .ok (.iload_n 2, 1) := by decide +kernel
theorem dX10_value_9 : decode cX10_value 9 = .ok (.invokevirtual 287, 3) := by decide +kernel
theorem dX10_value_12 : decode cX10_value 12 = .ok (.ifCond .eq 17, 3) := by decide +kernel
theorem dX10_value_15 : decode cX10_value 15 = .ok (.aload_n 0, 1) := by decide +kernel
theorem dX10_value_16 : decode cX10_value 16 = .ok (.iload_n 1, 1) := by decide +kernel
theorem dX10_value_17 : decode cX10_value 17 = .ok (.aload_n 0, 1) := by decide +kernel
theorem dX10_value_18 : decode cX10_value 18 = .ok (.getfield 39, 3) := by decide +kernel
theorem dX10_value_21 : decode cX10_value 21 = .ok (.iload_n 2, 1) := by decide +kernel
theorem dX10_value_22 : decode cX10_value 22 = .ok (.iaload, 1) := by decide +kernel
theorem dX10_value_23 : decode cX10_value 23 = .ok (.invokevirtual 281, 3) := by decide +kernel
theorem dX10_value_26 : decode cX10_value 26 = .ok (.goto 5, 3) := by decide +kernel
theorem dX10_value_29 : decode cX10_value 29 = .ok (.bipush (-2), 2) := by decide +kernel
theorem dX10_value_31 : decode cX10_value 31 = .ok (.ireturn, 1) := by decide +kernel
theorem dX10_look_0 : decode cX10_look 0 = .ok (.iload_n 1, 1) := by decide +kernel
theorem dX10_look_1 : decode cX10_look 1 = .ok (.invokestatic 98, 3) := by decide +kernel
theorem dX10_look_4 : decode cX10_look 4 = .ok (.ifCond .ne 6, 3) := by decide +kernel
theorem dX10_look_7 : decode cX10_look 7 = .ok (.bipush (-2), 2) := by decide +kernel
theorem dX10_look_9 : decode cX10_look 9 = .ok (.ireturn, 1) := by decide +kernel
theorem dX10_look_10 : decode cX10_look 10 = .ok (.iconst 0, 1) := by decide +kernel
theorem dX10_look_11 : decode cX10_look 11 = .ok (.istore_n 2, 1) := by decide +kernel
theorem dX10_look_12 : decode cX10_look 12 = .ok (.iload_n 2, 1) := by decide +kernel
theorem dX10_look_13 : decode cX10_look 13 = .ok (.aload_n 0, 1) := by decide +kernel
theorem dX10_look_14 : decode cX10_look 14 = .ok (.getfield 284, 3) := by decide +kernel
theorem dX10_look_17 : decode cX10_look 17 = .ok (.if_icmp .ge 26, 3) := by decide +kernel
theorem dX10_look_20 : decode cX10_look 20 = .ok (.aload_n 0, 1) := by decide +kernel
theorem dX10_look_21 : decode cX10_look 21 = .ok (.getfield 42, 3) := by decide +kernel
theorem dX10_look_24 : decode cX10_look 24 = .ok (.iload_n 2, 1) := by decide +kernel
theorem dX10_look_25 : decode cX10_look 25 = .ok (.aload_n 0, 1) := by decide +kernel
theorem dX10_look_26 : decode cX10_look 26 = .ok (.iload_n 1, 1) := by decide +kernel
theorem dX10_look_27 : decode cX10_look 27 = .ok (.aload_n 0, 1) := by decide +kernel
theorem dX10_look_28 : decode cX10_look 28 = .ok (.getfield 39, 3) := by decide +kernel
theorem dX10_look_31 : decode cX10_look 31 = .ok (.iload_n 2, 1) := by decide +kernel
theorem dX10_look_32 : decode cX10_look 32 = .ok (.iaload, 1) := by decide +kernel
theorem dX10_look_33 : decode cX10_look 33 = .ok (.invokevirtual 281, 3) := by decide +kernel
theorem dX10_look_36 : decode cX10_look 36 = .ok (.iastore, 1) := by decide +kernel
theorem dX10_look_37 : decode cX10_look 37 = .ok (.iinc 2 1, 3) := by decide +kernel
theorem dX10_look_40 : decode cX10_look 40 = .ok (.goto (-28), 3) := by decide +kernel
theorem dX10_look_43 : decode cX10_look 43 = .ok (.aload_n 0, 1) := by decide +kernel
theorem dX10_look_44 : decode cX10_look 44 = .ok (.getfield 284, 3) := by decide +kernel
theorem dX10_look_47 : decode cX10_look 47 = .ok (.ireturn, 1) := by decide +kernel
theorem dX10_solve_0 : decode cX10_solve 0 = .ok (.aload_n 0, 1) := by decide +kernel
theorem dX10_solve_1 : decode cX10_solve 1 = .ok (.iload_n 3, 1) := by decide +kernel
theorem dX10_solve_2 : decode cX10_solve 2 = .ok (.invokevirtual 105, 3) := by decide +kernel
theorem dX10_solve_5 : decode cX10_solve 5 = .ok (.iconst 0, 1) := by decide +kernel
theorem dX10_solve_6 : decode cX10_solve 6 = .ok (.istore 4, 2) := by decide +kernel
theorem dX10_solve_8 : decode cX10_solve 8 = .ok (.iconst 0, 1) := by decide +kernel
theorem dX10_solve_9 : decode cX10_solve 9 = .ok (.istore 5, 2) := by decide +kernel
theorem dX10_solve_11 : decode cX10_solve 11 = .ok (.iload 5, 2) := by decide +kernel
theorem dX10_solve_13 : decode cX10_solve 13 = .ok (.iload_n 2, 1) := by decide +kernel
theorem dX10_solve_14 : decode cX10_solve 14 = .ok (.if_icmp .ge 308, 3) := by decide +kernel
theorem dX10_solve_17 : decode cX10_solve 17 = .ok (.iload 4, 2) := by decide +kernel
theorem dX10_solve_19 : decode cX10_solve 19 = .ok (.istore 6, 2) := by decide +kernel
theorem dX10_solve_21 : decode cX10_solve 21 = .ok (.iload 6, 2) := by decide +kernel
theorem dX10_solve_23 : decode cX10_solve 23 = .ok (.iload_n 1, 1) := by decide +kernel
theorem dX10_solve_24 : decode cX10_solve 24 = .ok (.if_icmp .ge 25, 3) := by decide +kernel
theorem dX10_solve_27 : decode cX10_solve 27 = .ok (.aload_n 0, 1) := by decide +kernel
theorem dX10_solve_28 : decode cX10_solve 28 = .ok (.getfield 45, 3) := by decide +kernel
theorem dX10_solve_31 : decode cX10_solve 31 = .ok (.bipush 17, 2) := by decide +kernel
theorem dX10_solve_33 : decode cX10_solve 33 = .ok (.iload 6, 2) := by decide +kernel
theorem dX10_solve_35 : decode cX10_solve 35 = .ok (.imul, 1) := by decide +kernel
theorem dX10_solve_36 : decode cX10_solve 36 = .ok (.iload 5, 2) := by decide +kernel
theorem dX10_solve_38 : decode cX10_solve 38 = .ok (.iadd, 1) := by decide +kernel
theorem dX10_solve_39 : decode cX10_solve 39 = .ok (.iaload, 1) := by decide +kernel
theorem dX10_solve_40 : decode cX10_solve 40 = .ok (.ifCond .ne 9, 3) := by decide +kernel
theorem dX10_solve_43 : decode cX10_solve 43 = .ok (.iinc 6 1, 3) := by decide +kernel
theorem dX10_solve_46 : decode cX10_solve 46 = .ok (.goto (-25), 3) := by decide +kernel
theorem dX10_solve_49 : decode cX10_solve 49 = .ok (.iload 6, 2) := by decide +kernel
theorem dX10_solve_51 : decode cX10_solve 51 = .ok (.iload_n 1, 1) := by decide +kernel
theorem dX10_solve_52 : decode cX10_solve 52 = .ok (.if_icmp .ne 6, 3) := by decide +kernel
theorem dX10_solve_55 : decode cX10_solve 55 = .ok (.goto 261, 3) := by decide +kernel
theorem dX10_solve_58 : decode cX10_solve 58 = .ok (.iconst 0, 1) := by decide +kernel
theorem dX10_solve_59 : decode cX10_solve 59 = .ok (.istore 7, 2) := by decide +kernel
theorem dX10_solve_61 : decode cX10_solve 61 = .ok (.iload 7, 2) := by decide +kernel
theorem dX10_solve_63 : decode cX10_solve 63 = .ok (.bipush 17, 2) := by decide +kernel
theorem dX10_solve_65 : decode cX10_solve 65 = .ok (.if_icmp .ge 65, 3) := by decide +kernel
theorem dX10_solve_68 : decode cX10_solve 68 = .ok (.aload_n 0, 1) := by decide +kernel
theorem dX10_solve_69 : decode cX10_solve 69 = .ok (.getfield 45, 3) := by decide +kernel
theorem dX10_solve_72 : decode cX10_solve 72 = .ok (.bipush 17, 2) := by decide +kernel
theorem dX10_solve_74 : decode cX10_solve 74 = .ok (.iload 6, 2) := by decide +kernel
theorem dX10_solve_76 : decode cX10_solve 76 = .ok (.imul, 1) := by decide +kernel
theorem dX10_solve_77 : decode cX10_solve 77 = .ok (.iload 7, 2) := by decide +kernel
theorem dX10_solve_79 : decode cX10_solve 79 = .ok (.iadd, 1) := by decide +kernel
theorem dX10_solve_80 : decode cX10_solve 80 = .ok (.iaload, 1) := by decide +kernel
theorem dX10_solve_81 : decode cX10_solve 81 = .ok (.istore 8, 2) := by decide +kernel
theorem dX10_solve_83 : decode cX10_solve 83 = .ok (.aload_n 0, 1) := by decide +kernel
theorem dX10_solve_84 : decode cX10_solve 84 = .ok (.getfield 45, 3) := by decide +kernel
theorem dX10_solve_87 : decode cX10_solve 87 = .ok (.bipush 17, 2) := by decide +kernel
theorem dX10_solve_89 : decode cX10_solve 89 = .ok (.iload 6, 2) := by decide +kernel
theorem dX10_solve_91 : decode cX10_solve 91 = .ok (.imul, 1) := by decide +kernel
theorem dX10_solve_92 : decode cX10_solve 92 = .ok (.iload 7, 2) := by decide +kernel
theorem dX10_solve_94 : decode cX10_solve 94 = .ok (.iadd, 1) := by decide +kernel
theorem dX10_solve_95 : decode cX10_solve 95 = .ok (.aload_n 0, 1) := by decide +kernel
theorem dX10_solve_96 : decode cX10_solve 96 = .ok (.getfield 45, 3) := by decide +kernel
theorem dX10_solve_99 : decode cX10_solve 99 = .ok (.bipush 17, 2) := by decide +kernel
theorem dX10_solve_101 : decode cX10_solve 101 = .ok (.iload 4, 2) := by decide +kernel
theorem dX10_solve_103 : decode cX10_solve 103 = .ok (.imul, 1) := by decide +kernel
theorem dX10_solve_104 : decode cX10_solve 104 = .ok (.iload 7, 2) := by decide +kernel
theorem dX10_solve_106 : decode cX10_solve 106 = .ok (.iadd, 1) := by decide +kernel
theorem dX10_solve_107 : decode cX10_solve 107 = .ok (.iaload, 1) := by decide +kernel
theorem dX10_solve_108 : decode cX10_solve 108 = .ok (.iastore, 1) := by decide +kernel
theorem dX10_solve_109 : decode cX10_solve 109 = .ok (.aload_n 0, 1) := by decide +kernel
theorem dX10_solve_110 : decode cX10_solve 110 = .ok (.getfield 45, 3) := by decide +kernel
theorem dX10_solve_113 : decode cX10_solve 113 = .ok (.bipush 17, 2) := by decide +kernel
theorem dX10_solve_115 : decode cX10_solve 115 = .ok (.iload 4, 2) := by decide +kernel
theorem dX10_solve_117 : decode cX10_solve 117 = .ok (.imul, 1) := by decide +kernel
theorem dX10_solve_118 : decode cX10_solve 118 = .ok (.iload 7, 2) := by decide +kernel
theorem dX10_solve_120 : decode cX10_solve 120 = .ok (.iadd, 1) := by decide +kernel
theorem dX10_solve_121 : decode cX10_solve 121 = .ok (.iload 8, 2) := by decide +kernel
theorem dX10_solve_123 : decode cX10_solve 123 = .ok (.iastore, 1) := by decide +kernel
theorem dX10_solve_124 : decode cX10_solve 124 = .ok (.iinc 7 1, 3) := by decide +kernel
theorem dX10_solve_127 : decode cX10_solve 127 = .ok (.goto (-66), 3) := by decide +kernel
theorem dX10_solve_130 : decode cX10_solve 130 = .ok (.aload_n 0, 1) := by decide +kernel
theorem dX10_solve_131 : decode cX10_solve 131 = .ok (.aload_n 0, 1) := by decide +kernel
theorem dX10_solve_132 : decode cX10_solve 132 = .ok (.getfield 45, 3) := by decide +kernel
theorem dX10_solve_135 : decode cX10_solve 135 = .ok (.bipush 17, 2) := by decide +kernel
theorem dX10_solve_137 : decode cX10_solve 137 = .ok (.iload 4, 2) := by decide +kernel
theorem dX10_solve_139 : decode cX10_solve 139 = .ok (.imul, 1) := by decide +kernel
theorem dX10_solve_140 : decode cX10_solve 140 = .ok (.iload 5, 2) := by decide +kernel
theorem dX10_solve_142 : decode cX10_solve 142 = .ok (.iadd, 1) := by decide +kernel
theorem dX10_solve_143 : decode cX10_solve 143 = .ok (.iaload, 1) := by decide +kernel
theorem dX10_solve_144 : decode cX10_solve 144 = .ok (.invokevirtual 266, 3) := by decide +kernel
theorem dX10_solve_147 : decode cX10_solve 147 = .ok (.istore 7, 2) := by decide +kernel
theorem dX10_solve_149 : decode cX10_solve 149 = .ok (.iconst 0, 1) := by decide +kernel
theorem dX10_solve_150 : decode cX10_solve 150 = .ok (.istore 8, 2) := by decide +kernel
theorem dX10_solve_152 : decode cX10_solve 152 = .ok (.iload 8, 2) := by decide +kernel
theorem dX10_solve_154 : decode cX10_solve 154 = .ok (.bipush 17, 2) := by decide +kernel
theorem dX10_solve_156 : decode cX10_solve 156 = .ok (.if_icmp .ge 43, 3) := by decide +kernel
theorem dX10_solve_159 : decode cX10_solve 159 = .ok (.aload_n 0, 1) := by decide +kernel
theorem dX10_solve_160 : decode cX10_solve 160 = .ok (.getfield 45, 3) := by decide +kernel
theorem dX10_solve_163 : decode cX10_solve 163 = .ok (.bipush 17, 2) := by decide +kernel
theorem dX10_solve_165 : decode cX10_solve 165 = .ok (.iload 4, 2) := by decide +kernel
theorem dX10_solve_167 : decode cX10_solve 167 = .ok (.imul, 1) := by decide +kernel
theorem dX10_solve_168 : decode cX10_solve 168 = .ok (.iload 8, 2) := by decide +kernel
theorem dX10_solve_170 : decode cX10_solve 170 = .ok (.iadd, 1) := by decide +kernel
theorem dX10_solve_171 : decode cX10_solve 171 = .ok (.aload_n 0, 1) := by decide +kernel
theorem dX10_solve_172 : decode cX10_solve 172 = .ok (.getfield 45, 3) := by decide +kernel
theorem dX10_solve_175 : decode cX10_solve 175 = .ok (.bipush 17, 2) := by decide +kernel
theorem dX10_solve_177 : decode cX10_solve 177 = .ok (.iload 4, 2) := by decide +kernel
theorem dX10_solve_179 : decode cX10_solve 179 = .ok (.imul, 1) := by decide +kernel
theorem dX10_solve_180 : decode cX10_solve 180 = .ok (.iload 8, 2) := by decide +kernel
theorem dX10_solve_182 : decode cX10_solve 182 = .ok (.iadd, 1) := by decide +kernel
theorem dX10_solve_183 : decode cX10_solve 183 = .ok (.iaload, 1) := by decide +kernel
theorem dX10_solve_184 : decode cX10_solve 184 = .ok (.iload 7, 2) := by decide +kernel
theorem dX10_solve_186 : decode cX10_solve 186 = .ok (.imul, 1) := by decide +kernel
theorem dX10_solve_187 : decode cX10_solve 187 = .ok (.aload_n 0, 1) := by decide +kernel
theorem dX10_solve_188 : decode cX10_solve 188 = .ok (.getfield 64, 3) := by decide +kernel
theorem dX10_solve_191 : decode cX10_solve 191 = .ok (.irem, 1) := by decide +kernel
theorem dX10_solve_192 : decode cX10_solve 192 = .ok (.iastore, 1) := by decide +kernel
theorem dX10_solve_193 : decode cX10_solve 193 = .ok (.iinc 8 1, 3) := by decide +kernel
theorem dX10_solve_196 : decode cX10_solve 196 = .ok (.goto (-44), 3) := by decide +kernel
theorem dX10_solve_199 : decode cX10_solve 199 = .ok (.iconst 0, 1) := by decide +kernel
theorem dX10_solve_200 : decode cX10_solve 200 = .ok (.istore 8, 2) := by decide +kernel
theorem dX10_solve_202 : decode cX10_solve 202 = .ok (.iload 8, 2) := by decide +kernel
theorem dX10_solve_204 : decode cX10_solve 204 = .ok (.iload_n 1, 1) := by decide +kernel
theorem dX10_solve_205 : decode cX10_solve 205 = .ok (.if_icmp .ge 99, 3) := by decide +kernel
theorem dX10_solve_208 : decode cX10_solve 208 = .ok (.aload_n 0, 1) := by decide +kernel
theorem dX10_solve_209 : decode cX10_solve 209 = .ok (.getfield 45, 3) := by decide +kernel
theorem dX10_solve_212 : decode cX10_solve 212 = .ok (.bipush 17, 2) := by decide +kernel
theorem dX10_solve_214 : decode cX10_solve 214 = .ok (.iload 8, 2) := by decide +kernel
theorem dX10_solve_216 : decode cX10_solve 216 = .ok (.imul, 1) := by decide +kernel
theorem dX10_solve_217 : decode cX10_solve 217 = .ok (.iload 5, 2) := by decide +kernel
theorem dX10_solve_219 : decode cX10_solve 219 = .ok (.iadd, 1) := by decide +kernel
theorem dX10_solve_220 : decode cX10_solve 220 = .ok (.iaload, 1) := by decide +kernel
theorem dX10_solve_221 : decode cX10_solve 221 = .ok (.istore 9, 2) := by decide +kernel
theorem dX10_solve_223 : decode cX10_solve 223 = .ok (.iconst 0, 1) := by decide +kernel
theorem dX10_solve_224 : decode cX10_solve 224 = .ok (.istore 10, 2) := by decide +kernel
theorem dX10_solve_226 : decode cX10_solve 226 = .ok (.iload 10, 2) := by decide +kernel
theorem dX10_solve_228 : decode cX10_solve 228 = .ok (.bipush 17, 2) := by decide +kernel
theorem dX10_solve_230 : decode cX10_solve 230 = .ok (.if_icmp .ge 68, 3) := by decide +kernel
theorem dX10_solve_233 : decode cX10_solve 233 = .ok (.iload 8, 2) := by decide +kernel
theorem dX10_solve_235 : decode cX10_solve 235 = .ok (.iload 4, 2) := by decide +kernel
theorem dX10_solve_237 : decode cX10_solve 237 = .ok (.if_icmp .eq 61, 3) := by decide +kernel
theorem dX10_solve_240 : decode cX10_solve 240 = .ok (.iload 9, 2) := by decide +kernel
theorem dX10_solve_242 : decode cX10_solve 242 = .ok (.ifCond .eq 56, 3) := by decide +kernel
theorem dX10_solve_245 : decode cX10_solve 245 = .ok (.aload_n 0, 1) := by decide +kernel
theorem dX10_solve_246 : decode cX10_solve 246 = .ok (.getfield 45, 3) := by decide +kernel
theorem dX10_solve_249 : decode cX10_solve 249 = .ok (.bipush 17, 2) := by decide +kernel
theorem dX10_solve_251 : decode cX10_solve 251 = .ok (.iload 8, 2) := by decide +kernel
theorem dX10_solve_253 : decode cX10_solve 253 = .ok (.imul, 1) := by decide +kernel
theorem dX10_solve_254 : decode cX10_solve 254 = .ok (.iload 10, 2) := by decide +kernel
theorem dX10_solve_256 : decode cX10_solve 256 = .ok (.iadd, 1) := by decide +kernel
theorem dX10_solve_257 : decode cX10_solve 257 = .ok (.aload_n 0, 1) := by decide +kernel
theorem dX10_solve_258 : decode cX10_solve 258 = .ok (.aload_n 0, 1) := by decide +kernel
theorem dX10_solve_259 : decode cX10_solve 259 = .ok (.getfield 45, 3) := by decide +kernel
theorem dX10_solve_262 : decode cX10_solve 262 = .ok (.bipush 17, 2) := by decide +kernel
theorem dX10_solve_264 : decode cX10_solve 264 = .ok (.iload 8, 2) := by decide +kernel
theorem dX10_solve_266 : decode cX10_solve 266 = .ok (.imul, 1) := by decide +kernel
theorem dX10_solve_267 : decode cX10_solve 267 = .ok (.iload 10, 2) := by decide +kernel
theorem dX10_solve_269 : decode cX10_solve 269 = .ok (.iadd, 1) := by decide +kernel
theorem dX10_solve_270 : decode cX10_solve 270 = .ok (.iaload, 1) := by decide +kernel
theorem dX10_solve_271 : decode cX10_solve 271 = .ok (.iload 9, 2) := by decide +kernel
theorem dX10_solve_273 : decode cX10_solve 273 = .ok (.aload_n 0, 1) := by decide +kernel
theorem dX10_solve_274 : decode cX10_solve 274 = .ok (.getfield 45, 3) := by decide +kernel
theorem dX10_solve_277 : decode cX10_solve 277 = .ok (.bipush 17, 2) := by decide +kernel
theorem dX10_solve_279 : decode cX10_solve 279 = .ok (.iload 4, 2) := by decide +kernel
theorem dX10_solve_281 : decode cX10_solve 281 = .ok (.imul, 1) := by decide +kernel
theorem dX10_solve_282 : decode cX10_solve 282 = .ok (.iload 10, 2) := by decide +kernel
theorem dX10_solve_284 : decode cX10_solve 284 = .ok (.iadd, 1) := by decide +kernel
theorem dX10_solve_285 : decode cX10_solve 285 = .ok (.iaload, 1) := by decide +kernel
theorem dX10_solve_286 : decode cX10_solve 286 = .ok (.imul, 1) := by decide +kernel
theorem dX10_solve_287 : decode cX10_solve 287 = .ok (.isub, 1) := by decide +kernel
theorem dX10_solve_288 : decode cX10_solve 288 = .ok (.invokevirtual 102, 3) := by decide +kernel
theorem dX10_solve_291 : decode cX10_solve 291 = .ok (.iastore, 1) := by decide +kernel
theorem dX10_solve_292 : decode cX10_solve 292 = .ok (.iinc 10 1, 3) := by decide +kernel
theorem dX10_solve_295 : decode cX10_solve 295 = .ok (.goto (-69), 3) := by decide +kernel
theorem dX10_solve_298 : decode cX10_solve 298 = .ok (.iinc 8 1, 3) := by decide +kernel
theorem dX10_solve_301 : decode cX10_solve 301 = .ok (.goto (-99), 3) := by decide +kernel
theorem dX10_solve_304 : decode cX10_solve 304 = .ok (.aload_n 0, 1) := by decide +kernel
theorem dX10_solve_305 : decode cX10_solve 305 = .ok (.getfield 48, 3) := by decide +kernel
theorem dX10_solve_308 : decode cX10_solve 308 = .ok (.iload 4, 2) := by decide +kernel
theorem dX10_solve_310 : decode cX10_solve 310 = .ok (.iload 5, 2) := by decide +kernel
theorem dX10_solve_312 : decode cX10_solve 312 = .ok (.iastore, 1) := by decide +kernel
theorem dX10_solve_313 : decode cX10_solve 313 = .ok (.iinc 4 1, 3) := by decide +kernel
theorem dX10_solve_316 : decode cX10_solve 316 = .ok (.iinc 5 1, 3) := by decide +kernel
theorem dX10_solve_319 : decode cX10_solve 319 = .ok (.goto (-308), 3) := by decide +kernel
theorem dX10_solve_322 : decode cX10_solve 322 = .ok (.iload 4, 2) := by decide +kernel
theorem dX10_solve_324 : decode cX10_solve 324 = .ok (.istore 5, 2) := by decide +kernel
theorem dX10_solve_326 : decode cX10_solve 326 = .ok (.iload 5, 2) := by decide +kernel
theorem dX10_solve_328 : decode cX10_solve 328 = .ok (.iload_n 1, 1) := by decide +kernel
theorem dX10_solve_329 : decode cX10_solve 329 = .ok (.if_icmp .ge 27, 3) := by decide +kernel
theorem dX10_solve_332 : decode cX10_solve 332 = .ok (.aload_n 0, 1) := by decide +kernel
theorem dX10_solve_333 : decode cX10_solve 333 = .ok (.getfield 45, 3) := by decide +kernel
theorem dX10_solve_336 : decode cX10_solve 336 = .ok (.bipush 17, 2) := by decide +kernel
theorem dX10_solve_338 : decode cX10_solve 338 = .ok (.iload 5, 2) := by decide +kernel
theorem dX10_solve_340 : decode cX10_solve 340 = .ok (.imul, 1) := by decide +kernel
theorem dX10_solve_341 : decode cX10_solve 341 = .ok (.bipush 16, 2) := by decide +kernel
theorem dX10_solve_343 : decode cX10_solve 343 = .ok (.iadd, 1) := by decide +kernel
theorem dX10_solve_344 : decode cX10_solve 344 = .ok (.iaload, 1) := by decide +kernel
theorem dX10_solve_345 : decode cX10_solve 345 = .ok (.ifCond .eq 5, 3) := by decide +kernel
theorem dX10_solve_348 : decode cX10_solve 348 = .ok (.iconst 0, 1) := by decide +kernel
theorem dX10_solve_349 : decode cX10_solve 349 = .ok (.ireturn, 1) := by decide +kernel
theorem dX10_solve_350 : decode cX10_solve 350 = .ok (.iinc 5 1, 3) := by decide +kernel
theorem dX10_solve_353 : decode cX10_solve 353 = .ok (.goto (-27), 3) := by decide +kernel
theorem dX10_solve_356 : decode cX10_solve 356 = .ok (.iconst 0, 1) := by decide +kernel
theorem dX10_solve_357 : decode cX10_solve 357 = .ok (.istore 5, 2) := by decide +kernel
theorem dX10_solve_359 : decode cX10_solve 359 = .ok (.iload 5, 2) := by decide +kernel
theorem dX10_solve_361 : decode cX10_solve 361 = .ok (.iload 4, 2) := by decide +kernel
theorem dX10_solve_363 : decode cX10_solve 363 = .ok (.if_icmp .ge 39, 3) := by decide +kernel
theorem dX10_solve_366 : decode cX10_solve 366 = .ok (.aload_n 0, 1) := by decide +kernel
theorem dX10_solve_367 : decode cX10_solve 367 = .ok (.getfield 13, 3) := by decide +kernel
theorem dX10_solve_370 : decode cX10_solve 370 = .ok (.bipush 80, 2) := by decide +kernel
theorem dX10_solve_372 : decode cX10_solve 372 = .ok (.iload_n 3, 1) := by decide +kernel
theorem dX10_solve_373 : decode cX10_solve 373 = .ok (.imul, 1) := by decide +kernel
theorem dX10_solve_374 : decode cX10_solve 374 = .ok (.aload_n 0, 1) := by decide +kernel
theorem dX10_solve_375 : decode cX10_solve 375 = .ok (.getfield 48, 3) := by decide +kernel
theorem dX10_solve_378 : decode cX10_solve 378 = .ok (.iload 5, 2) := by decide +kernel
theorem dX10_solve_380 : decode cX10_solve 380 = .ok (.iaload, 1) := by decide +kernel
theorem dX10_solve_381 : decode cX10_solve 381 = .ok (.iadd, 1) := by decide +kernel
theorem dX10_solve_382 : decode cX10_solve 382 = .ok (.aload_n 0, 1) := by decide +kernel
theorem dX10_solve_383 : decode cX10_solve 383 = .ok (.getfield 45, 3) := by decide +kernel
theorem dX10_solve_386 : decode cX10_solve 386 = .ok (.bipush 17, 2) := by decide +kernel
theorem dX10_solve_388 : decode cX10_solve 388 = .ok (.iload 5, 2) := by decide +kernel
theorem dX10_solve_390 : decode cX10_solve 390 = .ok (.imul, 1) := by decide +kernel
theorem dX10_solve_391 : decode cX10_solve 391 = .ok (.bipush 16, 2) := by decide +kernel
theorem dX10_solve_393 : decode cX10_solve 393 = .ok (.iadd, 1) := by decide +kernel
theorem dX10_solve_394 : decode cX10_solve 394 = .ok (.iaload, 1) := by decide +kernel
theorem dX10_solve_395 : decode cX10_solve 395 = .ok (.iastore, 1) := by decide +kernel
theorem dX10_solve_396 : decode cX10_solve 396 = .ok (.iinc 5 1, 3) := by decide +kernel
theorem dX10_solve_399 : decode cX10_solve 399 = .ok (.goto (-40), 3) := by decide +kernel
theorem dX10_solve_402 : decode cX10_solve 402 = .ok (.iconst 1, 1) := by decide +kernel
theorem dX10_solve_403 : decode cX10_solve 403 = .ok (.ireturn, 1) := by decide +kernel
theorem dX10_fill_0 : decode cX10_fill 0 = .ok (.iload_n 1, 1) := by decide +kernel
theorem dX10_fill_1 : decode cX10_fill 1 = .ok (.invokestatic 98, 3) := by decide +kernel
theorem dX10_fill_4 : decode cX10_fill 4 = .ok (.ifCond .ne 6, 3) := by decide +kernel
theorem dX10_fill_7 : decode cX10_fill 7 = .ok (.bipush (-2), 2) := by decide +kernel
theorem dX10_fill_9 : decode cX10_fill 9 = .ok (.ireturn, 1) := by decide +kernel
theorem dX10_fill_10 : decode cX10_fill 10 = .ok (.iconst 0, 1) := by decide +kernel
theorem dX10_fill_11 : decode cX10_fill 11 = .ok (.istore_n 2, 1) := by decide +kernel
theorem dX10_fill_12 : decode cX10_fill 12 = .ok (.iload_n 2, 1) := by decide +kernel
theorem dX10_fill_13 : decode cX10_fill 13 = .ok (.aload_n 0, 1) := by decide +kernel
theorem dX10_fill_14 : decode cX10_fill 14 = .ok (.getfield 284, 3) := by decide +kernel
theorem dX10_fill_17 : decode cX10_fill 17 = .ok (.if_icmp .ge 220, 3) := by decide +kernel
theorem dX10_fill_20 : decode cX10_fill 20 = .ok (.iconst 0, 1) := by decide +kernel
theorem dX10_fill_21 : decode cX10_fill 21 = .ok (.istore_n 3, 1) := by decide +kernel
theorem dX10_fill_22 : decode cX10_fill 22 = .ok (.iconst 0, 1) := by decide +kernel
theorem dX10_fill_23 : decode cX10_fill 23 = .ok (.istore 4, 2) := by decide +kernel
theorem dX10_fill_25 : decode cX10_fill 25 = .ok (.iload 4, 2) := by decide +kernel
theorem dX10_fill_27 : decode cX10_fill 27 = .ok (.iload_n 2, 1) := by decide +kernel
theorem dX10_fill_28 : decode cX10_fill 28 = .ok (.if_icmp .ge 33, 3) := by decide +kernel
theorem dX10_fill_31 : decode cX10_fill 31 = .ok (.iload_n 3, 1) := by decide +kernel
theorem dX10_fill_32 : decode cX10_fill 32 = .ok (.aload_n 0, 1) := by decide +kernel
theorem dX10_fill_33 : decode cX10_fill 33 = .ok (.getfield 39, 3) := by decide +kernel
theorem dX10_fill_36 : decode cX10_fill 36 = .ok (.iload 4, 2) := by decide +kernel
theorem dX10_fill_38 : decode cX10_fill 38 = .ok (.iaload, 1) := by decide +kernel
theorem dX10_fill_39 : decode cX10_fill 39 = .ok (.aload_n 0, 1) := by decide +kernel
theorem dX10_fill_40 : decode cX10_fill 40 = .ok (.getfield 39, 3) := by decide +kernel
theorem dX10_fill_43 : decode cX10_fill 43 = .ok (.iload_n 2, 1) := by decide +kernel
theorem dX10_fill_44 : decode cX10_fill 44 = .ok (.iaload, 1) := by decide +kernel
theorem dX10_fill_45 : decode cX10_fill 45 = .ok (.if_icmp .ne 7, 3) := by decide +kernel
theorem dX10_fill_48 : decode cX10_fill 48 = .ok (.iconst 1, 1) := by decide +kernel
theorem dX10_fill_49 : decode cX10_fill 49 = .ok (.goto 4, 3) := by decide +kernel
theorem dX10_fill_52 : decode cX10_fill 52 = .ok (.iconst 0, 1) := by decide +kernel
theorem dX10_fill_53 : decode cX10_fill 53 = .ok (.iadd, 1) := by decide +kernel
theorem dX10_fill_54 : decode cX10_fill 54 = .ok (.istore_n 3, 1) := by decide +kernel
theorem dX10_fill_55 : decode cX10_fill 55 = .ok (.iinc 4 1, 3) := by decide +kernel
theorem dX10_fill_58 : decode cX10_fill 58 = .ok (.goto (-33), 3) := by decide +kernel
theorem dX10_fill_61 : decode cX10_fill 61 = .ok (.iconst 0, 1) := by decide +kernel
theorem dX10_fill_62 : decode cX10_fill 62 = .ok (.istore 4, 2) := by decide +kernel
theorem dX10_fill_64 : decode cX10_fill 64 = .ok (.iload 4, 2) := by decide +kernel
theorem dX10_fill_66 : decode cX10_fill 66 = .ok (.aload_n 0, 1) := by decide +kernel
theorem dX10_fill_67 : decode cX10_fill 67 = .ok (.getfield 284, 3) := by decide +kernel
theorem dX10_fill_70 : decode cX10_fill 70 = .ok (.if_icmp .ge 111, 3) := by decide +kernel
theorem dX10_fill_73 : decode cX10_fill 73 = .ok (.iload 4, 2) := by decide +kernel
theorem dX10_fill_75 : decode cX10_fill 75 = .ok (.iload_n 3, 1) := by decide +kernel
theorem dX10_fill_76 : decode cX10_fill 76 = .ok (.if_icmp .ge 7, 3) := by decide +kernel
theorem dX10_fill_79 : decode cX10_fill 79 = .ok (.lconst 0, 1) := by decide +kernel
theorem dX10_fill_80 : decode cX10_fill 80 = .ok (.goto 4, 3) := by decide +kernel
theorem dX10_fill_83 : decode cX10_fill 83 = .ok (.lconst 1, 1) := by decide +kernel
theorem dX10_fill_84 : decode cX10_fill 84 = .ok (.lstore 5, 2) := by decide +kernel
theorem dX10_fill_86 : decode cX10_fill 86 = .ok (.iconst 0, 1) := by decide +kernel
theorem dX10_fill_87 : decode cX10_fill 87 = .ok (.istore 7, 2) := by decide +kernel
theorem dX10_fill_89 : decode cX10_fill 89 = .ok (.iload 7, 2) := by decide +kernel
theorem dX10_fill_91 : decode cX10_fill 91 = .ok (.iload_n 3, 1) := by decide +kernel
theorem dX10_fill_92 : decode cX10_fill 92 = .ok (.if_icmp .ge 32, 3) := by decide +kernel
theorem dX10_fill_95 : decode cX10_fill 95 = .ok (.iload 4, 2) := by decide +kernel
theorem dX10_fill_97 : decode cX10_fill 97 = .ok (.iload_n 3, 1) := by decide +kernel
theorem dX10_fill_98 : decode cX10_fill 98 = .ok (.if_icmp .lt 26, 3) := by decide +kernel
theorem dX10_fill_101 : decode cX10_fill 101 = .ok (.lload 5, 2) := by decide +kernel
theorem dX10_fill_103 : decode cX10_fill 103 = .ok (.iload 4, 2) := by decide +kernel
theorem dX10_fill_105 : decode cX10_fill 105 = .ok (.iload 7, 2) := by decide +kernel
theorem dX10_fill_107 : decode cX10_fill 107 = .ok (.isub, 1) := by decide +kernel
theorem dX10_fill_108 : decode cX10_fill 108 = .ok (.i2l, 1) := by decide +kernel
theorem dX10_fill_109 : decode cX10_fill 109 = .ok (.lmul, 1) := by decide +kernel
theorem dX10_fill_110 : decode cX10_fill 110 = .ok (.iload 7, 2) := by decide +kernel
theorem dX10_fill_112 : decode cX10_fill 112 = .ok (.iconst 1, 1) := by decide +kernel
theorem dX10_fill_113 : decode cX10_fill 113 = .ok (.iadd, 1) := by decide +kernel
theorem dX10_fill_114 : decode cX10_fill 114 = .ok (.i2l, 1) := by decide +kernel
theorem dX10_fill_115 : decode cX10_fill 115 = .ok (.ldiv, 1) := by decide +kernel
theorem dX10_fill_116 : decode cX10_fill 116 = .ok (.lstore 5, 2) := by decide +kernel
theorem dX10_fill_118 : decode cX10_fill 118 = .ok (.iinc 7 1, 3) := by decide +kernel
theorem dX10_fill_121 : decode cX10_fill 121 = .ok (.goto (-32), 3) := by decide +kernel
theorem dX10_fill_124 : decode cX10_fill 124 = .ok (.aload_n 0, 1) := by decide +kernel
theorem dX10_fill_125 : decode cX10_fill 125 = .ok (.getfield 45, 3) := by decide +kernel
theorem dX10_fill_128 : decode cX10_fill 128 = .ok (.bipush 17, 2) := by decide +kernel
theorem dX10_fill_130 : decode cX10_fill 130 = .ok (.iload_n 2, 1) := by decide +kernel
theorem dX10_fill_131 : decode cX10_fill 131 = .ok (.imul, 1) := by decide +kernel
theorem dX10_fill_132 : decode cX10_fill 132 = .ok (.iload 4, 2) := by decide +kernel
theorem dX10_fill_134 : decode cX10_fill 134 = .ok (.iadd, 1) := by decide +kernel
theorem dX10_fill_135 : decode cX10_fill 135 = .ok (.iload 4, 2) := by decide +kernel
theorem dX10_fill_137 : decode cX10_fill 137 = .ok (.iload_n 3, 1) := by decide +kernel
theorem dX10_fill_138 : decode cX10_fill 138 = .ok (.if_icmp .ge 7, 3) := by decide +kernel
theorem dX10_fill_141 : decode cX10_fill 141 = .ok (.iconst 0, 1) := by decide +kernel
theorem dX10_fill_142 : decode cX10_fill 142 = .ok (.goto 32, 3) := by decide +kernel
theorem dX10_fill_145 : decode cX10_fill 145 = .ok (.lload 5, 2) := by decide +kernel
theorem dX10_fill_147 : decode cX10_fill 147 = .ok (.aload_n 0, 1) := by decide +kernel
theorem dX10_fill_148 : decode cX10_fill 148 = .ok (.getfield 64, 3) := by decide +kernel
theorem dX10_fill_151 : decode cX10_fill 151 = .ok (.i2l, 1) := by decide +kernel
theorem dX10_fill_152 : decode cX10_fill 152 = .ok (.lrem, 1) := by decide +kernel
theorem dX10_fill_153 : decode cX10_fill 153 = .ok (.l2i, 1) := by decide +kernel
theorem dX10_fill_154 : decode cX10_fill 154 = .ok (.aload_n 0, 1) := by decide +kernel
theorem dX10_fill_155 : decode cX10_fill 155 = .ok (.aload_n 0, 1) := by decide +kernel
theorem dX10_fill_156 : decode cX10_fill 156 = .ok (.getfield 39, 3) := by decide +kernel
theorem dX10_fill_159 : decode cX10_fill 159 = .ok (.iload_n 2, 1) := by decide +kernel
theorem dX10_fill_160 : decode cX10_fill 160 = .ok (.iaload, 1) := by decide +kernel
theorem dX10_fill_161 : decode cX10_fill 161 = .ok (.iload 4, 2) := by decide +kernel
theorem dX10_fill_163 : decode cX10_fill 163 = .ok (.iload_n 3, 1) := by decide +kernel
theorem dX10_fill_164 : decode cX10_fill 164 = .ok (.isub, 1) := by decide +kernel
theorem dX10_fill_165 : decode cX10_fill 165 = .ok (.invokevirtual 82, 3) := by decide +kernel
theorem dX10_fill_168 : decode cX10_fill 168 = .ok (.imul, 1) := by decide +kernel
theorem dX10_fill_169 : decode cX10_fill 169 = .ok (.aload_n 0, 1) := by decide +kernel
theorem dX10_fill_170 : decode cX10_fill 170 = .ok (.getfield 64, 3) := by decide +kernel
theorem dX10_fill_173 : decode cX10_fill 173 = .ok (.irem, 1) := by decide +kernel
theorem dX10_fill_174 : decode cX10_fill 174 = .ok (.iastore, 1) := by decide +kernel
theorem dX10_fill_175 : decode cX10_fill 175 = .ok (.iinc 4 1, 3) := by decide +kernel
theorem dX10_fill_178 : decode cX10_fill 178 = .ok (.goto (-114), 3) := by decide +kernel
theorem dX10_fill_181 : decode cX10_fill 181 = .ok (.aload_n 0, 1) := by decide +kernel
theorem dX10_fill_182 : decode cX10_fill 182 = .ok (.getfield 284, 3) := by decide +kernel
theorem dX10_fill_185 : decode cX10_fill 185 = .ok (.istore 4, 2) := by decide +kernel
theorem dX10_fill_187 : decode cX10_fill 187 = .ok (.iload 4, 2) := by decide +kernel
theorem dX10_fill_189 : decode cX10_fill 189 = .ok (.bipush 16, 2) := by decide +kernel
theorem dX10_fill_191 : decode cX10_fill 191 = .ok (.if_icmp .ge 22, 3) := by decide +kernel
theorem dX10_fill_194 : decode cX10_fill 194 = .ok (.aload_n 0, 1) := by decide +kernel
theorem dX10_fill_195 : decode cX10_fill 195 = .ok (.getfield 45, 3) := by decide +kernel
theorem dX10_fill_198 : decode cX10_fill 198 = .ok (.bipush 17, 2) := by decide +kernel
theorem dX10_fill_200 : decode cX10_fill 200 = .ok (.iload_n 2, 1) := by decide +kernel
theorem dX10_fill_201 : decode cX10_fill 201 = .ok (.imul, 1) := by decide +kernel
theorem dX10_fill_202 : decode cX10_fill 202 = .ok (.iload 4, 2) := by decide +kernel
theorem dX10_fill_204 : decode cX10_fill 204 = .ok (.iadd, 1) := by decide +kernel
theorem dX10_fill_205 : decode cX10_fill 205 = .ok (.iconst 0, 1) := by decide +kernel
theorem dX10_fill_206 : decode cX10_fill 206 = .ok (.iastore, 1) := by decide +kernel
theorem dX10_fill_207 : decode cX10_fill 207 = .ok (.iinc 4 1, 3) := by decide +kernel
theorem dX10_fill_210 : decode cX10_fill 210 = .ok (.goto (-23), 3) := by decide +kernel
theorem dX10_fill_213 : decode cX10_fill 213 = .ok (.aload_n 0, 1) := by decide +kernel
theorem dX10_fill_214 : decode cX10_fill 214 = .ok (.getfield 45, 3) := by decide +kernel
theorem dX10_fill_217 : decode cX10_fill 217 = .ok (.bipush 17, 2) := by decide +kernel
theorem dX10_fill_219 : decode cX10_fill 219 = .ok (.iload_n 2, 1) := by decide +kernel
theorem dX10_fill_220 : decode cX10_fill 220 = .ok (.imul, 1) := by decide +kernel
theorem dX10_fill_221 : decode cX10_fill 221 = .ok (.bipush 16, 2) := by decide +kernel
theorem dX10_fill_223 : decode cX10_fill 223 = .ok (.iadd, 1) := by decide +kernel
theorem dX10_fill_224 : decode cX10_fill 224 = .ok (.aload_n 0, 1) := by decide +kernel
theorem dX10_fill_225 : decode cX10_fill 225 = .ok (.getfield 42, 3) := by decide +kernel
theorem dX10_fill_228 : decode cX10_fill 228 = .ok (.iload_n 2, 1) := by decide +kernel
theorem dX10_fill_229 : decode cX10_fill 229 = .ok (.iaload, 1) := by decide +kernel
theorem dX10_fill_230 : decode cX10_fill 230 = .ok (.iastore, 1) := by decide +kernel
theorem dX10_fill_231 : decode cX10_fill 231 = .ok (.iinc 2 1, 3) := by decide +kernel
theorem dX10_fill_234 : decode cX10_fill 234 = .ok (.goto (-222), 3) := by decide +kernel
theorem dX10_fill_237 : decode cX10_fill 237 = .ok (.aload_n 0, 1) := by decide +kernel
theorem dX10_fill_238 : decode cX10_fill 238 = .ok (.aload_n 0, 1) := by decide +kernel
theorem dX10_fill_239 : decode cX10_fill 239 = .ok (.getfield 284, 3) := by decide +kernel
theorem dX10_fill_242 : decode cX10_fill 242 = .ok (.aload_n 0, 1) := by decide +kernel
theorem dX10_fill_243 : decode cX10_fill 243 = .ok (.getfield 284, 3) := by decide +kernel
theorem dX10_fill_246 : decode cX10_fill 246 = .ok (.bipush 8, 2) := by decide +kernel
theorem dX10_fill_248 : decode cX10_fill 248 = .ok (.invokevirtual 290, 3) := by decide +kernel
theorem dX10_fill_251 : decode cX10_fill 251 = .ok (.istore_n 2, 1) := by decide +kernel
theorem dX10_fill_252 : decode cX10_fill 252 = .ok (.aload_n 0, 1) := by decide +kernel
theorem dX10_fill_253 : decode cX10_fill 253 = .ok (.iload_n 1, 1) := by decide +kernel
theorem dX10_fill_254 : decode cX10_fill 254 = .ok (.bipush 8, 2) := by decide +kernel
theorem dX10_fill_256 : decode cX10_fill 256 = .ok (.invokevirtual 109, 3) := by decide +kernel
theorem dX10_fill_259 : decode cX10_fill 259 = .ok (.ireturn, 1) := by decide +kernel
theorem dX10_areUnlike_0 : decode cX10_areUnlike 0 = .ok (.iconst 0, 1) := by decide +kernel
theorem dX10_areUnlike_1 : decode cX10_areUnlike 1 = .ok (.istore_n 1, 1) := by decide +kernel
theorem dX10_areUnlike_2 : decode cX10_areUnlike 2 = .ok (.iload_n 1, 1) := by decide +kernel
theorem dX10_areUnlike_3 : decode cX10_areUnlike 3 = .ok (.aload_n 0, 1) := by decide +kernel
theorem dX10_areUnlike_4 : decode cX10_areUnlike 4 = .ok (.getfield 284, 3) := by decide +kernel
theorem dX10_areUnlike_7 : decode cX10_areUnlike 7 = .ok (.if_icmp .ge 39, 3) := by decide +kernel
theorem dX10_areUnlike_10 : decode cX10_areUnlike 10 = .ok (.iconst 0, 1) := by decide +kernel
theorem dX10_areUnlike_11 : decode cX10_areUnlike 11 = .ok (.istore_n 2, 1) := by decide +kernel
theorem dX10_areUnlike_12 : decode cX10_areUnlike 12 = .ok (.iload_n 2, 1) := by decide +kernel
theorem dX10_areUnlike_13 : decode cX10_areUnlike 13 = .ok (.iload_n 1, 1) := by decide +kernel
theorem dX10_areUnlike_14 : decode cX10_areUnlike 14 = .ok (.if_icmp .ge 26, 3) := by decide +kernel
theorem dX10_areUnlike_17 : decode cX10_areUnlike 17 = .ok (.aload_n 0, 1) := by decide +kernel
theorem dX10_areUnlike_18 : decode cX10_areUnlike 18 = .ok (.getfield 39, 3) := by decide +kernel
theorem dX10_areUnlike_21 : decode cX10_areUnlike 21 = .ok (.iload_n 1, 1) := by decide +kernel
theorem dX10_areUnlike_22 : decode cX10_areUnlike 22 = .ok (.iaload, 1) := by decide +kernel
theorem dX10_areUnlike_23 : decode cX10_areUnlike 23 = .ok (.aload_n 0, 1) := by decide +kernel
theorem dX10_areUnlike_24 : decode cX10_areUnlike 24 = .ok (.getfield 39, 3) := by decide +kernel
theorem dX10_areUnlike_27 : decode cX10_areUnlike 27 = .ok (.iload_n 2, 1) := by decide +kernel
theorem dX10_areUnlike_28 : decode cX10_areUnlike 28 = .ok (.iaload, 1) := by decide +kernel
theorem dX10_areUnlike_29 : decode cX10_areUnlike 29 = .ok (.if_icmp .ne 5, 3) := by decide +kernel
theorem dX10_areUnlike_32 : decode cX10_areUnlike 32 = .ok (.iconst 0, 1) := by decide +kernel
theorem dX10_areUnlike_33 : decode cX10_areUnlike 33 = .ok (.ireturn, 1) := by decide +kernel
theorem dX10_areUnlike_34 : decode cX10_areUnlike 34 = .ok (.iinc 2 1, 3) := by decide +kernel
theorem dX10_areUnlike_37 : decode cX10_areUnlike 37 = .ok (.goto (-25), 3) := by decide +kernel
theorem dX10_areUnlike_40 : decode cX10_areUnlike 40 = .ok (.iinc 1 1, 3) := by decide +kernel
theorem dX10_areUnlike_43 : decode cX10_areUnlike 43 = .ok (.goto (-41), 3) := by decide +kernel
theorem dX10_areUnlike_46 : decode cX10_areUnlike 46 = .ok (.iconst 1, 1) := by decide +kernel
theorem dX10_areUnlike_47 : decode cX10_areUnlike 47 = .ok (.ireturn, 1) := by decide +kernel
theorem dX10_right_0 : decode cX10_right 0 = .ok (.iload_n 1, 1) := by decide +kernel
theorem dX10_right_1 : decode cX10_right 1 = .ok (.invokestatic 98, 3) := by decide +kernel
theorem dX10_right_4 : decode cX10_right 4 = .ok (.ifCond .eq 15, 3) := by decide +kernel
theorem dX10_right_7 : decode cX10_right 7 = .ok (.iload_n 2, 1) := by decide +kernel
theorem dX10_right_8 : decode cX10_right 8 = .ok (.iconst 1, 1) := by decide +kernel
theorem dX10_right_9 : decode cX10_right 9 = .ok (.aload_n 0, 1) := by decide +kernel
theorem dX10_right_10 : decode cX10_right 10 = .ok (.getfield 284, 3) := by decide +kernel
theorem dX10_right_13 : decode cX10_right 13 = .ok (.invokestatic 86, 3) := by decide +kernel
theorem dX10_right_16 : decode cX10_right 16 = .ok (.ifCond .ne 6, 3) := by decide +kernel
theorem dX10_right_19 : decode cX10_right 19 = .ok (.bipush (-2), 2) := by decide +kernel
theorem dX10_right_21 : decode cX10_right 21 = .ok (.ireturn, 1) := by decide +kernel
theorem dX10_right_22 : decode cX10_right 22 = .ok (.aload_n 0, 1) := by decide +kernel
theorem dX10_right_23 : decode cX10_right 23 = .ok (.invokevirtual 293, 3) := by decide +kernel
theorem dX10_right_26 : decode cX10_right 26 = .ok (.ifCond .ne 6, 3) := by decide +kernel
theorem dX10_right_29 : decode cX10_right 29 = .ok (.bipush (-3), 2) := by decide +kernel
theorem dX10_right_31 : decode cX10_right 31 = .ok (.ireturn, 1) := by decide +kernel
theorem dX10_right_32 : decode cX10_right 32 = .ok (.aload_n 0, 1) := by decide +kernel
theorem dX10_right_33 : decode cX10_right 33 = .ok (.getfield 284, 3) := by decide +kernel
theorem dX10_right_36 : decode cX10_right 36 = .ok (.iload_n 2, 1) := by decide +kernel
theorem dX10_right_37 : decode cX10_right 37 = .ok (.isub, 1) := by decide +kernel
theorem dX10_right_38 : decode cX10_right 38 = .ok (.iconst 2, 1) := by decide +kernel
theorem dX10_right_39 : decode cX10_right 39 = .ok (.idiv, 1) := by decide +kernel
theorem dX10_right_40 : decode cX10_right 40 = .ok (.istore_n 3, 1) := by decide +kernel
theorem dX10_right_41 : decode cX10_right 41 = .ok (.iconst 0, 1) := by decide +kernel
theorem dX10_right_42 : decode cX10_right 42 = .ok (.istore 4, 2) := by decide +kernel
theorem dX10_right_44 : decode cX10_right 44 = .ok (.iload 4, 2) := by decide +kernel
theorem dX10_right_46 : decode cX10_right 46 = .ok (.aload_n 0, 1) := by decide +kernel
theorem dX10_right_47 : decode cX10_right 47 = .ok (.getfield 284, 3) := by decide +kernel
theorem dX10_right_50 : decode cX10_right 50 = .ok (.if_icmp .ge 176, 3) := by decide +kernel
theorem dX10_right_53 : decode cX10_right 53 = .ok (.iconst 0, 1) := by decide +kernel
theorem dX10_right_54 : decode cX10_right 54 = .ok (.istore 5, 2) := by decide +kernel
theorem dX10_right_56 : decode cX10_right 56 = .ok (.iload 5, 2) := by decide +kernel
theorem dX10_right_58 : decode cX10_right 58 = .ok (.bipush 17, 2) := by decide +kernel
theorem dX10_right_60 : decode cX10_right 60 = .ok (.if_icmp .ge 23, 3) := by decide +kernel
theorem dX10_right_63 : decode cX10_right 63 = .ok (.aload_n 0, 1) := by decide +kernel
theorem dX10_right_64 : decode cX10_right 64 = .ok (.getfield 45, 3) := by decide +kernel
theorem dX10_right_67 : decode cX10_right 67 = .ok (.bipush 17, 2) := by decide +kernel
theorem dX10_right_69 : decode cX10_right 69 = .ok (.iload 4, 2) := by decide +kernel
theorem dX10_right_71 : decode cX10_right 71 = .ok (.imul, 1) := by decide +kernel
theorem dX10_right_72 : decode cX10_right 72 = .ok (.iload 5, 2) := by decide +kernel
theorem dX10_right_74 : decode cX10_right 74 = .ok (.iadd, 1) := by decide +kernel
theorem dX10_right_75 : decode cX10_right 75 = .ok (.iconst 0, 1) := by decide +kernel
theorem dX10_right_76 : decode cX10_right 76 = .ok (.iastore, 1) := by decide +kernel
theorem dX10_right_77 : decode cX10_right 77 = .ok (.iinc 5 1, 3) := by decide +kernel
theorem dX10_right_80 : decode cX10_right 80 = .ok (.goto (-24), 3) := by decide +kernel
theorem dX10_right_83 : decode cX10_right 83 = .ok (.iconst 0, 1) := by decide +kernel
theorem dX10_right_84 : decode cX10_right 84 = .ok (.istore 5, 2) := by decide +kernel
theorem dX10_right_86 : decode cX10_right 86 = .ok (.iload 5, 2) := by decide +kernel
theorem dX10_right_88 : decode cX10_right 88 = .ok (.iload_n 3, 1) := by decide +kernel
theorem dX10_right_89 : decode cX10_right 89 = .ok (.if_icmp .ge 48, 3) := by decide +kernel
theorem dX10_right_92 : decode cX10_right 92 = .ok (.aload_n 0, 1) := by decide +kernel
theorem dX10_right_93 : decode cX10_right 93 = .ok (.getfield 45, 3) := by decide +kernel
theorem dX10_right_96 : decode cX10_right 96 = .ok (.bipush 17, 2) := by decide +kernel
theorem dX10_right_98 : decode cX10_right 98 = .ok (.iload 4, 2) := by decide +kernel
theorem dX10_right_100 : decode cX10_right 100 = .ok (.imul, 1) := by decide +kernel
theorem dX10_right_101 : decode cX10_right 101 = .ok (.iload 5, 2) := by decide +kernel
theorem dX10_right_103 : decode cX10_right 103 = .ok (.iadd, 1) := by decide +kernel
theorem dX10_right_104 : decode cX10_right 104 = .ok (.aload_n 0, 1) := by decide +kernel
theorem dX10_right_105 : decode cX10_right 105 = .ok (.aload_n 0, 1) := by decide +kernel
theorem dX10_right_106 : decode cX10_right 106 = .ok (.getfield 42, 3) := by decide +kernel
theorem dX10_right_109 : decode cX10_right 109 = .ok (.iload 4, 2) := by decide +kernel
theorem dX10_right_111 : decode cX10_right 111 = .ok (.iaload, 1) := by decide +kernel
theorem dX10_right_112 : decode cX10_right 112 = .ok (.ineg, 1) := by decide +kernel
theorem dX10_right_113 : decode cX10_right 113 = .ok (.aload_n 0, 1) := by decide +kernel
theorem dX10_right_114 : decode cX10_right 114 = .ok (.aload_n 0, 1) := by decide +kernel
theorem dX10_right_115 : decode cX10_right 115 = .ok (.getfield 39, 3) := by decide +kernel
theorem dX10_right_118 : decode cX10_right 118 = .ok (.iload 4, 2) := by decide +kernel
theorem dX10_right_120 : decode cX10_right 120 = .ok (.iaload, 1) := by decide +kernel
theorem dX10_right_121 : decode cX10_right 121 = .ok (.iload 5, 2) := by decide +kernel
theorem dX10_right_123 : decode cX10_right 123 = .ok (.invokevirtual 82, 3) := by decide +kernel
theorem dX10_right_126 : decode cX10_right 126 = .ok (.imul, 1) := by decide +kernel
theorem dX10_right_127 : decode cX10_right 127 = .ok (.invokevirtual 102, 3) := by decide +kernel
theorem dX10_right_130 : decode cX10_right 130 = .ok (.iastore, 1) := by decide +kernel
theorem dX10_right_131 : decode cX10_right 131 = .ok (.iinc 5 1, 3) := by decide +kernel
theorem dX10_right_134 : decode cX10_right 134 = .ok (.goto (-48), 3) := by decide +kernel
theorem dX10_right_137 : decode cX10_right 137 = .ok (.iconst 0, 1) := by decide +kernel
theorem dX10_right_138 : decode cX10_right 138 = .ok (.istore 5, 2) := by decide +kernel
theorem dX10_right_140 : decode cX10_right 140 = .ok (.iload 5, 2) := by decide +kernel
theorem dX10_right_142 : decode cX10_right 142 = .ok (.iload_n 3, 1) := by decide +kernel
theorem dX10_right_143 : decode cX10_right 143 = .ok (.iload_n 2, 1) := by decide +kernel
theorem dX10_right_144 : decode cX10_right 144 = .ok (.iadd, 1) := by decide +kernel
theorem dX10_right_145 : decode cX10_right 145 = .ok (.if_icmp .ge 37, 3) := by decide +kernel
theorem dX10_right_148 : decode cX10_right 148 = .ok (.aload_n 0, 1) := by decide +kernel
theorem dX10_right_149 : decode cX10_right 149 = .ok (.getfield 45, 3) := by decide +kernel
theorem dX10_right_152 : decode cX10_right 152 = .ok (.bipush 17, 2) := by decide +kernel
theorem dX10_right_154 : decode cX10_right 154 = .ok (.iload 4, 2) := by decide +kernel
theorem dX10_right_156 : decode cX10_right 156 = .ok (.imul, 1) := by decide +kernel
theorem dX10_right_157 : decode cX10_right 157 = .ok (.iload_n 3, 1) := by decide +kernel
theorem dX10_right_158 : decode cX10_right 158 = .ok (.iadd, 1) := by decide +kernel
theorem dX10_right_159 : decode cX10_right 159 = .ok (.iload 5, 2) := by decide +kernel
theorem dX10_right_161 : decode cX10_right 161 = .ok (.iadd, 1) := by decide +kernel
theorem dX10_right_162 : decode cX10_right 162 = .ok (.aload_n 0, 1) := by decide +kernel
theorem dX10_right_163 : decode cX10_right 163 = .ok (.aload_n 0, 1) := by decide +kernel
theorem dX10_right_164 : decode cX10_right 164 = .ok (.getfield 39, 3) := by decide +kernel
theorem dX10_right_167 : decode cX10_right 167 = .ok (.iload 4, 2) := by decide +kernel
theorem dX10_right_169 : decode cX10_right 169 = .ok (.iaload, 1) := by decide +kernel
theorem dX10_right_170 : decode cX10_right 170 = .ok (.iload 5, 2) := by decide +kernel
theorem dX10_right_172 : decode cX10_right 172 = .ok (.invokevirtual 82, 3) := by decide +kernel
theorem dX10_right_175 : decode cX10_right 175 = .ok (.iastore, 1) := by decide +kernel
theorem dX10_right_176 : decode cX10_right 176 = .ok (.iinc 5 1, 3) := by decide +kernel
theorem dX10_right_179 : decode cX10_right 179 = .ok (.goto (-39), 3) := by decide +kernel
theorem dX10_right_182 : decode cX10_right 182 = .ok (.aload_n 0, 1) := by decide +kernel
theorem dX10_right_183 : decode cX10_right 183 = .ok (.getfield 45, 3) := by decide +kernel
theorem dX10_right_186 : decode cX10_right 186 = .ok (.bipush 17, 2) := by decide +kernel
theorem dX10_right_188 : decode cX10_right 188 = .ok (.iload 4, 2) := by decide +kernel
theorem dX10_right_190 : decode cX10_right 190 = .ok (.imul, 1) := by decide +kernel
theorem dX10_right_191 : decode cX10_right 191 = .ok (.bipush 16, 2) := by decide +kernel
theorem dX10_right_193 : decode cX10_right 193 = .ok (.iadd, 1) := by decide +kernel
theorem dX10_right_194 : decode cX10_right 194 = .ok (.aload_n 0, 1) := by decide +kernel
theorem dX10_right_195 : decode cX10_right 195 = .ok (.getfield 42, 3) := by decide +kernel
theorem dX10_right_198 : decode cX10_right 198 = .ok (.iload 4, 2) := by decide +kernel
theorem dX10_right_200 : decode cX10_right 200 = .ok (.iaload, 1) := by decide +kernel
theorem dX10_right_201 : decode cX10_right 201 = .ok (.aload_n 0, 1) := by decide +kernel
theorem dX10_right_202 : decode cX10_right 202 = .ok (.aload_n 0, 1) := by decide +kernel
theorem dX10_right_203 : decode cX10_right 203 = .ok (.getfield 39, 3) := by decide +kernel
theorem dX10_right_206 : decode cX10_right 206 = .ok (.iload 4, 2) := by decide +kernel
theorem dX10_right_208 : decode cX10_right 208 = .ok (.iaload, 1) := by decide +kernel
theorem dX10_right_209 : decode cX10_right 209 = .ok (.iload_n 3, 1) := by decide +kernel
theorem dX10_right_210 : decode cX10_right 210 = .ok (.invokevirtual 82, 3) := by decide +kernel
theorem dX10_right_213 : decode cX10_right 213 = .ok (.imul, 1) := by decide +kernel
theorem dX10_right_214 : decode cX10_right 214 = .ok (.aload_n 0, 1) := by decide +kernel
theorem dX10_right_215 : decode cX10_right 215 = .ok (.getfield 64, 3) := by decide +kernel
theorem dX10_right_218 : decode cX10_right 218 = .ok (.irem, 1) := by decide +kernel
theorem dX10_right_219 : decode cX10_right 219 = .ok (.iastore, 1) := by decide +kernel
theorem dX10_right_220 : decode cX10_right 220 = .ok (.iinc 4 1, 3) := by decide +kernel
theorem dX10_right_223 : decode cX10_right 223 = .ok (.goto (-179), 3) := by decide +kernel
theorem dX10_right_226 : decode cX10_right 226 = .ok (.aload_n 0, 1) := by decide +kernel
theorem dX10_right_227 : decode cX10_right 227 = .ok (.aload_n 0, 1) := by decide +kernel
theorem dX10_right_228 : decode cX10_right 228 = .ok (.getfield 284, 3) := by decide +kernel
theorem dX10_right_231 : decode cX10_right 231 = .ok (.iconst 2, 1) := by decide +kernel
theorem dX10_right_232 : decode cX10_right 232 = .ok (.iload_n 3, 1) := by decide +kernel
theorem dX10_right_233 : decode cX10_right 233 = .ok (.imul, 1) := by decide +kernel
theorem dX10_right_234 : decode cX10_right 234 = .ok (.iload_n 2, 1) := by decide +kernel
theorem dX10_right_235 : decode cX10_right 235 = .ok (.iadd, 1) := by decide +kernel
theorem dX10_right_236 : decode cX10_right 236 = .ok (.bipush 8, 2) := by decide +kernel
theorem dX10_right_238 : decode cX10_right 238 = .ok (.invokevirtual 290, 3) := by decide +kernel
theorem dX10_right_241 : decode cX10_right 241 = .ok (.ifCond .ne 5, 3) := by decide +kernel
theorem dX10_right_244 : decode cX10_right 244 = .ok (.iconst (-1), 1) := by decide +kernel
theorem dX10_right_245 : decode cX10_right 245 = .ok (.ireturn, 1) := by decide +kernel
theorem dX10_right_246 : decode cX10_right 246 = .ok (.aload_n 0, 1) := by decide +kernel
theorem dX10_right_247 : decode cX10_right 247 = .ok (.bipush 9, 2) := by decide +kernel
theorem dX10_right_249 : decode cX10_right 249 = .ok (.invokevirtual 105, 3) := by decide +kernel
theorem dX10_right_252 : decode cX10_right 252 = .ok (.aload_n 0, 1) := by decide +kernel
theorem dX10_right_253 : decode cX10_right 253 = .ok (.bipush 10, 2) := by decide +kernel
theorem dX10_right_255 : decode cX10_right 255 = .ok (.invokevirtual 105, 3) := by decide +kernel
theorem dX10_right_258 : decode cX10_right 258 = .ok (.iconst 0, 1) := by decide +kernel
theorem dX10_right_259 : decode cX10_right 259 = .ok (.istore 4, 2) := by decide +kernel
theorem dX10_right_261 : decode cX10_right 261 = .ok (.iload 4, 2) := by decide +kernel
theorem dX10_right_263 : decode cX10_right 263 = .ok (.iload_n 3, 1) := by decide +kernel
theorem dX10_right_264 : decode cX10_right 264 = .ok (.if_icmp .ge 31, 3) := by decide +kernel
theorem dX10_right_267 : decode cX10_right 267 = .ok (.aload_n 0, 1) := by decide +kernel
theorem dX10_right_268 : decode cX10_right 268 = .ok (.getfield 13, 3) := by decide +kernel
theorem dX10_right_271 : decode cX10_right 271 = .ok (.sipush 720, 3) := by decide +kernel
theorem dX10_right_274 : decode cX10_right 274 = .ok (.iload 4, 2) := by decide +kernel
theorem dX10_right_276 : decode cX10_right 276 = .ok (.iadd, 1) := by decide +kernel
theorem dX10_right_277 : decode cX10_right 277 = .ok (.aload_n 0, 1) := by decide +kernel
theorem dX10_right_278 : decode cX10_right 278 = .ok (.getfield 13, 3) := by decide +kernel
theorem dX10_right_281 : decode cX10_right 281 = .ok (.sipush 640, 3) := by decide +kernel
theorem dX10_right_284 : decode cX10_right 284 = .ok (.iload 4, 2) := by decide +kernel
theorem dX10_right_286 : decode cX10_right 286 = .ok (.iadd, 1) := by decide +kernel
theorem dX10_right_287 : decode cX10_right 287 = .ok (.iaload, 1) := by decide +kernel
theorem dX10_right_288 : decode cX10_right 288 = .ok (.iastore, 1) := by decide +kernel
theorem dX10_right_289 : decode cX10_right 289 = .ok (.iinc 4 1, 3) := by decide +kernel
theorem dX10_right_292 : decode cX10_right 292 = .ok (.goto (-31), 3) := by decide +kernel
theorem dX10_right_295 : decode cX10_right 295 = .ok (.aload_n 0, 1) := by decide +kernel
theorem dX10_right_296 : decode cX10_right 296 = .ok (.getfield 13, 3) := by decide +kernel
theorem dX10_right_299 : decode cX10_right 299 = .ok (.sipush 720, 3) := by decide +kernel
theorem dX10_right_302 : decode cX10_right 302 = .ok (.iload_n 3, 1) := by decide +kernel
theorem dX10_right_303 : decode cX10_right 303 = .ok (.iadd, 1) := by decide +kernel
theorem dX10_right_304 : decode cX10_right 304 = .ok (.iconst 1, 1) := by decide +kernel
theorem dX10_right_305 : decode cX10_right 305 = .ok (.iastore, 1) := by decide +kernel
theorem dX10_right_306 : decode cX10_right 306 = .ok (.iconst 0, 1) := by decide +kernel
theorem dX10_right_307 : decode cX10_right 307 = .ok (.istore 4, 2) := by decide +kernel
theorem dX10_right_309 : decode cX10_right 309 = .ok (.iload 4, 2) := by decide +kernel
theorem dX10_right_311 : decode cX10_right 311 = .ok (.iload_n 3, 1) := by decide +kernel
theorem dX10_right_312 : decode cX10_right 312 = .ok (.iload_n 2, 1) := by decide +kernel
theorem dX10_right_313 : decode cX10_right 313 = .ok (.iadd, 1) := by decide +kernel
theorem dX10_right_314 : decode cX10_right 314 = .ok (.if_icmp .ge 33, 3) := by decide +kernel
theorem dX10_right_317 : decode cX10_right 317 = .ok (.aload_n 0, 1) := by decide +kernel
theorem dX10_right_318 : decode cX10_right 318 = .ok (.getfield 13, 3) := by decide +kernel
theorem dX10_right_321 : decode cX10_right 321 = .ok (.sipush 800, 3) := by decide +kernel
theorem dX10_right_324 : decode cX10_right 324 = .ok (.iload 4, 2) := by decide +kernel
theorem dX10_right_326 : decode cX10_right 326 = .ok (.iadd, 1) := by decide +kernel
theorem dX10_right_327 : decode cX10_right 327 = .ok (.aload_n 0, 1) := by decide +kernel
theorem dX10_right_328 : decode cX10_right 328 = .ok (.getfield 13, 3) := by decide +kernel
theorem dX10_right_331 : decode cX10_right 331 = .ok (.sipush 640, 3) := by decide +kernel
theorem dX10_right_334 : decode cX10_right 334 = .ok (.iload_n 3, 1) := by decide +kernel
theorem dX10_right_335 : decode cX10_right 335 = .ok (.iadd, 1) := by decide +kernel
theorem dX10_right_336 : decode cX10_right 336 = .ok (.iload 4, 2) := by decide +kernel
theorem dX10_right_338 : decode cX10_right 338 = .ok (.iadd, 1) := by decide +kernel
theorem dX10_right_339 : decode cX10_right 339 = .ok (.iaload, 1) := by decide +kernel
theorem dX10_right_340 : decode cX10_right 340 = .ok (.iastore, 1) := by decide +kernel
theorem dX10_right_341 : decode cX10_right 341 = .ok (.iinc 4 1, 3) := by decide +kernel
theorem dX10_right_344 : decode cX10_right 344 = .ok (.goto (-35), 3) := by decide +kernel
theorem dX10_right_347 : decode cX10_right 347 = .ok (.aload_n 0, 1) := by decide +kernel
theorem dX10_right_348 : decode cX10_right 348 = .ok (.bipush 10, 2) := by decide +kernel
theorem dX10_right_350 : decode cX10_right 350 = .ok (.bipush 9, 2) := by decide +kernel
theorem dX10_right_352 : decode cX10_right 352 = .ok (.bipush 11, 2) := by decide +kernel
theorem dX10_right_354 : decode cX10_right 354 = .ok (.invokevirtual 269, 3) := by decide +kernel
theorem dX10_right_357 : decode cX10_right 357 = .ok (.aload_n 0, 1) := by decide +kernel
theorem dX10_right_358 : decode cX10_right 358 = .ok (.bipush 10, 2) := by decide +kernel
theorem dX10_right_360 : decode cX10_right 360 = .ok (.invokevirtual 94, 3) := by decide +kernel
theorem dX10_right_363 : decode cX10_right 363 = .ok (.ifCond .gt 13, 3) := by decide +kernel
theorem dX10_right_366 : decode cX10_right 366 = .ok (.aload_n 0, 1) := by decide +kernel
theorem dX10_right_367 : decode cX10_right 367 = .ok (.bipush 11, 2) := by decide +kernel
theorem dX10_right_369 : decode cX10_right 369 = .ok (.invokevirtual 94, 3) := by decide +kernel
theorem dX10_right_372 : decode cX10_right 372 = .ok (.iload_n 2, 1) := by decide +kernel
theorem dX10_right_373 : decode cX10_right 373 = .ok (.if_icmp .le 5, 3) := by decide +kernel
theorem dX10_right_376 : decode cX10_right 376 = .ok (.iconst (-1), 1) := by decide +kernel
theorem dX10_right_377 : decode cX10_right 377 = .ok (.ireturn, 1) := by decide +kernel
theorem dX10_right_378 : decode cX10_right 378 = .ok (.iconst 0, 1) := by decide +kernel
theorem dX10_right_379 : decode cX10_right 379 = .ok (.istore 4, 2) := by decide +kernel
theorem dX10_right_381 : decode cX10_right 381 = .ok (.iconst 0, 1) := by decide +kernel
theorem dX10_right_382 : decode cX10_right 382 = .ok (.istore 5, 2) := by decide +kernel
theorem dX10_right_384 : decode cX10_right 384 = .ok (.iload 5, 2) := by decide +kernel
theorem dX10_right_386 : decode cX10_right 386 = .ok (.aload_n 0, 1) := by decide +kernel
theorem dX10_right_387 : decode cX10_right 387 = .ok (.getfield 284, 3) := by decide +kernel
theorem dX10_right_390 : decode cX10_right 390 = .ok (.if_icmp .ge 42, 3) := by decide +kernel
theorem dX10_right_393 : decode cX10_right 393 = .ok (.iload 4, 2) := by decide +kernel
theorem dX10_right_395 : decode cX10_right 395 = .ok (.aload_n 0, 1) := by decide +kernel
theorem dX10_right_396 : decode cX10_right 396 = .ok (.bipush 11, 2) := by decide +kernel
theorem dX10_right_398 : decode cX10_right 398 = .ok (.aload_n 0, 1) := by decide +kernel
theorem dX10_right_399 : decode cX10_right 399 = .ok (.getfield 39, 3) := by decide +kernel
theorem dX10_right_402 : decode cX10_right 402 = .ok (.iload 5, 2) := by decide +kernel
theorem dX10_right_404 : decode cX10_right 404 = .ok (.iaload, 1) := by decide +kernel
theorem dX10_right_405 : decode cX10_right 405 = .ok (.invokevirtual 281, 3) := by decide +kernel
theorem dX10_right_408 : decode cX10_right 408 = .ok (.aload_n 0, 1) := by decide +kernel
theorem dX10_right_409 : decode cX10_right 409 = .ok (.getfield 42, 3) := by decide +kernel
theorem dX10_right_412 : decode cX10_right 412 = .ok (.iload 5, 2) := by decide +kernel
theorem dX10_right_414 : decode cX10_right 414 = .ok (.iaload, 1) := by decide +kernel
theorem dX10_right_415 : decode cX10_right 415 = .ok (.if_icmp .ne 7, 3) := by decide +kernel
theorem dX10_right_418 : decode cX10_right 418 = .ok (.iconst 0, 1) := by decide +kernel
theorem dX10_right_419 : decode cX10_right 419 = .ok (.goto 4, 3) := by decide +kernel
theorem dX10_right_422 : decode cX10_right 422 = .ok (.iconst 1, 1) := by decide +kernel
theorem dX10_right_423 : decode cX10_right 423 = .ok (.iadd, 1) := by decide +kernel
theorem dX10_right_424 : decode cX10_right 424 = .ok (.istore 4, 2) := by decide +kernel
theorem dX10_right_426 : decode cX10_right 426 = .ok (.iinc 5 1, 3) := by decide +kernel
theorem dX10_right_429 : decode cX10_right 429 = .ok (.goto (-45), 3) := by decide +kernel
theorem dX10_right_432 : decode cX10_right 432 = .ok (.iload 4, 2) := by decide +kernel
theorem dX10_right_434 : decode cX10_right 434 = .ok (.iload_n 3, 1) := by decide +kernel
theorem dX10_right_435 : decode cX10_right 435 = .ok (.if_icmp .le 5, 3) := by decide +kernel
theorem dX10_right_438 : decode cX10_right 438 = .ok (.iconst (-1), 1) := by decide +kernel
theorem dX10_right_439 : decode cX10_right 439 = .ok (.ireturn, 1) := by decide +kernel
theorem dX10_right_440 : decode cX10_right 440 = .ok (.aload_n 0, 1) := by decide +kernel
theorem dX10_right_441 : decode cX10_right 441 = .ok (.iload_n 1, 1) := by decide +kernel
theorem dX10_right_442 : decode cX10_right 442 = .ok (.bipush 11, 2) := by decide +kernel
theorem dX10_right_444 : decode cX10_right 444 = .ok (.invokevirtual 109, 3) := by decide +kernel
theorem dX10_right_447 : decode cX10_right 447 = .ok (.istore 5, 2) := by decide +kernel
theorem dX10_right_449 : decode cX10_right 449 = .ok (.iload 4, 2) := by decide +kernel
theorem dX10_right_451 : decode cX10_right 451 = .ok (.ireturn, 1) := by decide +kernel
theorem dX10_relate_0 : decode cX10_relate 0 = .ok (.aload_n 0, 1) := by decide +kernel
theorem dX10_relate_1 : decode cX10_relate 1 = .ok (.bipush 8, 2) := by decide +kernel
theorem dX10_relate_3 : decode cX10_relate 3 = .ok (.invokevirtual 105, 3) := by decide +kernel
theorem dX10_relate_6 : decode cX10_relate 6 = .ok (.aload_n 0, 1) := by decide +kernel
theorem dX10_relate_7 : decode cX10_relate 7 = .ok (.bipush 9, 2) := by decide +kernel
theorem dX10_relate_9 : decode cX10_relate 9 = .ok (.invokevirtual 105, 3) := by decide +kernel
theorem dX10_relate_12 : decode cX10_relate 12 = .ok (.aload_n 0, 1) := by decide +kernel
theorem dX10_relate_13 : decode cX10_relate 13 = .ok (.getfield 13, 3) := by decide +kernel
theorem dX10_relate_16 : decode cX10_relate 16 = .ok (.sipush 640, 3) := by decide +kernel
theorem dX10_relate_19 : decode cX10_relate 19 = .ok (.iconst 1, 1) := by decide +kernel
theorem dX10_relate_20 : decode cX10_relate 20 = .ok (.iastore, 1) := by decide +kernel
theorem dX10_relate_21 : decode cX10_relate 21 = .ok (.aload_n 0, 1) := by decide +kernel
theorem dX10_relate_22 : decode cX10_relate 22 = .ok (.getfield 13, 3) := by decide +kernel
theorem dX10_relate_25 : decode cX10_relate 25 = .ok (.sipush 720, 3) := by decide +kernel
theorem dX10_relate_28 : decode cX10_relate 28 = .ok (.iconst 1, 1) := by decide +kernel
theorem dX10_relate_29 : decode cX10_relate 29 = .ok (.iastore, 1) := by decide +kernel
theorem dX10_relate_30 : decode cX10_relate 30 = .ok (.aload_n 0, 1) := by decide +kernel
theorem dX10_relate_31 : decode cX10_relate 31 = .ok (.iconst 0, 1) := by decide +kernel
theorem dX10_relate_32 : decode cX10_relate 32 = .ok (.putfield 296, 3) := by decide +kernel
theorem dX10_relate_35 : decode cX10_relate 35 = .ok (.iconst 1, 1) := by decide +kernel
theorem dX10_relate_36 : decode cX10_relate 36 = .ok (.istore_n 1, 1) := by decide +kernel
theorem dX10_relate_37 : decode cX10_relate 37 = .ok (.iconst 1, 1) := by decide +kernel
theorem dX10_relate_38 : decode cX10_relate 38 = .ok (.istore_n 2, 1) := by decide +kernel
theorem dX10_relate_39 : decode cX10_relate 39 = .ok (.iconst 0, 1) := by decide +kernel
theorem dX10_relate_40 : decode cX10_relate 40 = .ok (.istore_n 3, 1) := by decide +kernel
theorem dX10_relate_41 : decode cX10_relate 41 = .ok (.iload_n 3, 1) := by decide +kernel
theorem dX10_relate_42 : decode cX10_relate 42 = .ok (.aload_n 0, 1) := by decide +kernel
theorem dX10_relate_43 : decode cX10_relate 43 = .ok (.getfield 284, 3) := by decide +kernel
theorem dX10_relate_46 : decode cX10_relate 46 = .ok (.if_icmp .ge 204, 3) := by decide +kernel
theorem dX10_relate_49 : decode cX10_relate 49 = .ok (.aload_n 0, 1) := by decide +kernel
theorem dX10_relate_50 : decode cX10_relate 50 = .ok (.getfield 42, 3) := by decide +kernel
theorem dX10_relate_53 : decode cX10_relate 53 = .ok (.iload_n 3, 1) := by decide +kernel
theorem dX10_relate_54 : decode cX10_relate 54 = .ok (.iaload, 1) := by decide +kernel
theorem dX10_relate_55 : decode cX10_relate 55 = .ok (.istore 4, 2) := by decide +kernel
theorem dX10_relate_57 : decode cX10_relate 57 = .ok (.iconst 1, 1) := by decide +kernel
theorem dX10_relate_58 : decode cX10_relate 58 = .ok (.istore 5, 2) := by decide +kernel
theorem dX10_relate_60 : decode cX10_relate 60 = .ok (.iload 5, 2) := by decide +kernel
theorem dX10_relate_62 : decode cX10_relate 62 = .ok (.aload_n 0, 1) := by decide +kernel
theorem dX10_relate_63 : decode cX10_relate 63 = .ok (.getfield 296, 3) := by decide +kernel
theorem dX10_relate_66 : decode cX10_relate 66 = .ok (.if_icmp .gt 40, 3) := by decide +kernel
theorem dX10_relate_69 : decode cX10_relate 69 = .ok (.iload 4, 2) := by decide +kernel
theorem dX10_relate_71 : decode cX10_relate 71 = .ok (.aload_n 0, 1) := by decide +kernel
theorem dX10_relate_72 : decode cX10_relate 72 = .ok (.getfield 13, 3) := by decide +kernel
theorem dX10_relate_75 : decode cX10_relate 75 = .ok (.sipush 640, 3) := by decide +kernel
theorem dX10_relate_78 : decode cX10_relate 78 = .ok (.iload 5, 2) := by decide +kernel
theorem dX10_relate_80 : decode cX10_relate 80 = .ok (.iadd, 1) := by decide +kernel
theorem dX10_relate_81 : decode cX10_relate 81 = .ok (.iaload, 1) := by decide +kernel
theorem dX10_relate_82 : decode cX10_relate 82 = .ok (.aload_n 0, 1) := by decide +kernel
theorem dX10_relate_83 : decode cX10_relate 83 = .ok (.getfield 42, 3) := by decide +kernel
theorem dX10_relate_86 : decode cX10_relate 86 = .ok (.iload_n 3, 1) := by decide +kernel
theorem dX10_relate_87 : decode cX10_relate 87 = .ok (.iload 5, 2) := by decide +kernel
theorem dX10_relate_89 : decode cX10_relate 89 = .ok (.isub, 1) := by decide +kernel
theorem dX10_relate_90 : decode cX10_relate 90 = .ok (.iaload, 1) := by decide +kernel
theorem dX10_relate_91 : decode cX10_relate 91 = .ok (.imul, 1) := by decide +kernel
theorem dX10_relate_92 : decode cX10_relate 92 = .ok (.iadd, 1) := by decide +kernel
theorem dX10_relate_93 : decode cX10_relate 93 = .ok (.aload_n 0, 1) := by decide +kernel
theorem dX10_relate_94 : decode cX10_relate 94 = .ok (.getfield 64, 3) := by decide +kernel
theorem dX10_relate_97 : decode cX10_relate 97 = .ok (.irem, 1) := by decide +kernel
theorem dX10_relate_98 : decode cX10_relate 98 = .ok (.istore 4, 2) := by decide +kernel
theorem dX10_relate_100 : decode cX10_relate 100 = .ok (.iinc 5 1, 3) := by decide +kernel
theorem dX10_relate_103 : decode cX10_relate 103 = .ok (.goto (-43), 3) := by decide +kernel
theorem dX10_relate_106 : decode cX10_relate 106 = .ok (.iload 4, 2) := by decide +kernel
theorem dX10_relate_108 : decode cX10_relate 108 = .ok (.ifCond .ne 9, 3) := by decide +kernel
theorem dX10_relate_111 : decode cX10_relate 111 = .ok (.iinc 1 1, 3) := by decide +kernel
theorem dX10_relate_114 : decode cX10_relate 114 = .ok (.goto 130, 3) := by decide +kernel
theorem dX10_relate_117 : decode cX10_relate 117 = .ok (.aload_n 0, 1) := by decide +kernel
theorem dX10_relate_118 : decode cX10_relate 118 = .ok (.bipush 8, 2) := by decide +kernel
theorem dX10_relate_120 : decode cX10_relate 120 = .ok (.bipush 14, 2) := by decide +kernel
theorem dX10_relate_122 : decode cX10_relate 122 = .ok (.invokevirtual 90, 3) := by decide +kernel
theorem dX10_relate_125 : decode cX10_relate 125 = .ok (.iload 4, 2) := by decide +kernel
theorem dX10_relate_127 : decode cX10_relate 127 = .ok (.aload_n 0, 1) := by decide +kernel
theorem dX10_relate_128 : decode cX10_relate 128 = .ok (.iload_n 2, 1) := by decide +kernel
theorem dX10_relate_129 : decode cX10_relate 129 = .ok (.invokevirtual 266, 3) := by decide +kernel
theorem dX10_relate_132 : decode cX10_relate 132 = .ok (.imul, 1) := by decide +kernel
theorem dX10_relate_133 : decode cX10_relate 133 = .ok (.aload_n 0, 1) := by decide +kernel
theorem dX10_relate_134 : decode cX10_relate 134 = .ok (.getfield 64, 3) := by decide +kernel
theorem dX10_relate_137 : decode cX10_relate 137 = .ok (.irem, 1) := by decide +kernel
theorem dX10_relate_138 : decode cX10_relate 138 = .ok (.istore 5, 2) := by decide +kernel
theorem dX10_relate_140 : decode cX10_relate 140 = .ok (.iconst 0, 1) := by decide +kernel
theorem dX10_relate_141 : decode cX10_relate 141 = .ok (.istore 6, 2) := by decide +kernel
theorem dX10_relate_143 : decode cX10_relate 143 = .ok (.iload 6, 2) := by decide +kernel
theorem dX10_relate_145 : decode cX10_relate 145 = .ok (.iload_n 1, 1) := by decide +kernel
theorem dX10_relate_146 : decode cX10_relate 146 = .ok (.iadd, 1) := by decide +kernel
theorem dX10_relate_147 : decode cX10_relate 147 = .ok (.bipush 80, 2) := by decide +kernel
theorem dX10_relate_149 : decode cX10_relate 149 = .ok (.if_icmp .ge 54, 3) := by decide +kernel
theorem dX10_relate_152 : decode cX10_relate 152 = .ok (.aload_n 0, 1) := by decide +kernel
theorem dX10_relate_153 : decode cX10_relate 153 = .ok (.getfield 13, 3) := by decide +kernel
theorem dX10_relate_156 : decode cX10_relate 156 = .ok (.sipush 640, 3) := by decide +kernel
theorem dX10_relate_159 : decode cX10_relate 159 = .ok (.iload 6, 2) := by decide +kernel
theorem dX10_relate_161 : decode cX10_relate 161 = .ok (.iadd, 1) := by decide +kernel
theorem dX10_relate_162 : decode cX10_relate 162 = .ok (.iload_n 1, 1) := by decide +kernel
theorem dX10_relate_163 : decode cX10_relate 163 = .ok (.iadd, 1) := by decide +kernel
theorem dX10_relate_164 : decode cX10_relate 164 = .ok (.aload_n 0, 1) := by decide +kernel
theorem dX10_relate_165 : decode cX10_relate 165 = .ok (.aload_n 0, 1) := by decide +kernel
theorem dX10_relate_166 : decode cX10_relate 166 = .ok (.getfield 13, 3) := by decide +kernel
theorem dX10_relate_169 : decode cX10_relate 169 = .ok (.sipush 640, 3) := by decide +kernel
theorem dX10_relate_172 : decode cX10_relate 172 = .ok (.iload 6, 2) := by decide +kernel
theorem dX10_relate_174 : decode cX10_relate 174 = .ok (.iadd, 1) := by decide +kernel
theorem dX10_relate_175 : decode cX10_relate 175 = .ok (.iload_n 1, 1) := by decide +kernel
theorem dX10_relate_176 : decode cX10_relate 176 = .ok (.iadd, 1) := by decide +kernel
theorem dX10_relate_177 : decode cX10_relate 177 = .ok (.iaload, 1) := by decide +kernel
theorem dX10_relate_178 : decode cX10_relate 178 = .ok (.iload 5, 2) := by decide +kernel
theorem dX10_relate_180 : decode cX10_relate 180 = .ok (.aload_n 0, 1) := by decide +kernel
theorem dX10_relate_181 : decode cX10_relate 181 = .ok (.getfield 13, 3) := by decide +kernel
theorem dX10_relate_184 : decode cX10_relate 184 = .ok (.sipush 720, 3) := by decide +kernel
theorem dX10_relate_187 : decode cX10_relate 187 = .ok (.iload 6, 2) := by decide +kernel
theorem dX10_relate_189 : decode cX10_relate 189 = .ok (.iadd, 1) := by decide +kernel
theorem dX10_relate_190 : decode cX10_relate 190 = .ok (.iaload, 1) := by decide +kernel
theorem dX10_relate_191 : decode cX10_relate 191 = .ok (.imul, 1) := by decide +kernel
theorem dX10_relate_192 : decode cX10_relate 192 = .ok (.isub, 1) := by decide +kernel
theorem dX10_relate_193 : decode cX10_relate 193 = .ok (.invokevirtual 102, 3) := by decide +kernel
theorem dX10_relate_196 : decode cX10_relate 196 = .ok (.iastore, 1) := by decide +kernel
theorem dX10_relate_197 : decode cX10_relate 197 = .ok (.iinc 6 1, 3) := by decide +kernel
theorem dX10_relate_200 : decode cX10_relate 200 = .ok (.goto (-57), 3) := by decide +kernel
theorem dX10_relate_203 : decode cX10_relate 203 = .ok (.iconst 2, 1) := by decide +kernel
theorem dX10_relate_204 : decode cX10_relate 204 = .ok (.aload_n 0, 1) := by decide +kernel
theorem dX10_relate_205 : decode cX10_relate 205 = .ok (.getfield 296, 3) := by decide +kernel
theorem dX10_relate_208 : decode cX10_relate 208 = .ok (.imul, 1) := by decide +kernel
theorem dX10_relate_209 : decode cX10_relate 209 = .ok (.iload_n 3, 1) := by decide +kernel
theorem dX10_relate_210 : decode cX10_relate 210 = .ok (.if_icmp .le 9, 3) := by decide +kernel
theorem dX10_relate_213 : decode cX10_relate 213 = .ok (.iinc 1 1, 3) := by decide +kernel
theorem dX10_relate_216 : decode cX10_relate 216 = .ok (.goto 28, 3) := by decide +kernel
theorem dX10_relate_219 : decode cX10_relate 219 = .ok (.aload_n 0, 1) := by decide +kernel
theorem dX10_relate_220 : decode cX10_relate 220 = .ok (.iload_n 3, 1) := by decide +kernel
theorem dX10_relate_221 : decode cX10_relate 221 = .ok (.iconst 1, 1) := by decide +kernel
theorem dX10_relate_222 : decode cX10_relate 222 = .ok (.iadd, 1) := by decide +kernel
theorem dX10_relate_223 : decode cX10_relate 223 = .ok (.aload_n 0, 1) := by decide +kernel
theorem dX10_relate_224 : decode cX10_relate 224 = .ok (.getfield 296, 3) := by decide +kernel
theorem dX10_relate_227 : decode cX10_relate 227 = .ok (.isub, 1) := by decide +kernel
theorem dX10_relate_228 : decode cX10_relate 228 = .ok (.putfield 296, 3) := by decide +kernel
theorem dX10_relate_231 : decode cX10_relate 231 = .ok (.aload_n 0, 1) := by decide +kernel
theorem dX10_relate_232 : decode cX10_relate 232 = .ok (.bipush 14, 2) := by decide +kernel
theorem dX10_relate_234 : decode cX10_relate 234 = .ok (.bipush 9, 2) := by decide +kernel
theorem dX10_relate_236 : decode cX10_relate 236 = .ok (.invokevirtual 90, 3) := by decide +kernel
theorem dX10_relate_239 : decode cX10_relate 239 = .ok (.iload 4, 2) := by decide +kernel
theorem dX10_relate_241 : decode cX10_relate 241 = .ok (.istore_n 2, 1) := by decide +kernel
theorem dX10_relate_242 : decode cX10_relate 242 = .ok (.iconst 1, 1) := by decide +kernel
theorem dX10_relate_243 : decode cX10_relate 243 = .ok (.istore_n 1, 1) := by decide +kernel
theorem dX10_relate_244 : decode cX10_relate 244 = .ok (.iinc 3 1, 3) := by decide +kernel
theorem dX10_relate_247 : decode cX10_relate 247 = .ok (.goto (-206), 3) := by decide +kernel
theorem dX10_relate_250 : decode cX10_relate 250 = .ok (.return_, 1) := by decide +kernel
theorem dX10_relation_0 : decode cX10_relation 0 = .ok (.aload_n 0, 1) := by decide +kernel
theorem dX10_relation_1 : decode cX10_relation 1 = .ok (.invokevirtual 299, 3) := by decide +kernel
theorem dX10_relation_4 : decode cX10_relation 4 = .ok (.iload_n 1, 1) := by decide +kernel
theorem dX10_relation_5 : decode cX10_relation 5 = .ok (.iconst 0, 1) := by decide +kernel
theorem dX10_relation_6 : decode cX10_relation 6 = .ok (.aload_n 0, 1) := by decide +kernel
theorem dX10_relation_7 : decode cX10_relation 7 = .ok (.getfield 296, 3) := by decide +kernel
theorem dX10_relation_10 : decode cX10_relation 10 = .ok (.invokestatic 86, 3) := by decide +kernel
theorem dX10_relation_13 : decode cX10_relation 13 = .ok (.ifCond .ne 6, 3) := by decide +kernel
theorem dX10_relation_16 : decode cX10_relation 16 = .ok (.bipush (-2), 2) := by decide +kernel
theorem dX10_relation_18 : decode cX10_relation 18 = .ok (.ireturn, 1) := by decide +kernel
theorem dX10_relation_19 : decode cX10_relation 19 = .ok (.iload_n 1, 1) := by decide +kernel
theorem dX10_relation_20 : decode cX10_relation 20 = .ok (.ifCond .ne 8, 3) := by decide +kernel
theorem dX10_relation_23 : decode cX10_relation 23 = .ok (.aload_n 0, 1) := by decide +kernel
theorem dX10_relation_24 : decode cX10_relation 24 = .ok (.getfield 296, 3) := by decide +kernel
theorem dX10_relation_27 : decode cX10_relation 27 = .ok (.ireturn, 1) := by decide +kernel
theorem dX10_relation_28 : decode cX10_relation 28 = .ok (.iconst 2, 1) := by decide +kernel
theorem dX10_relation_29 : decode cX10_relation 29 = .ok (.aload_n 0, 1) := by decide +kernel
theorem dX10_relation_30 : decode cX10_relation 30 = .ok (.getfield 296, 3) := by decide +kernel
theorem dX10_relation_33 : decode cX10_relation 33 = .ok (.imul, 1) := by decide +kernel
theorem dX10_relation_34 : decode cX10_relation 34 = .ok (.aload_n 0, 1) := by decide +kernel
theorem dX10_relation_35 : decode cX10_relation 35 = .ok (.getfield 284, 3) := by decide +kernel
theorem dX10_relation_38 : decode cX10_relation 38 = .ok (.if_icmp .le 8, 3) := by decide +kernel
theorem dX10_relation_41 : decode cX10_relation 41 = .ok (.bipush (-3), 2) := by decide +kernel
theorem dX10_relation_43 : decode cX10_relation 43 = .ok (.goto 18, 3) := by decide +kernel
theorem dX10_relation_46 : decode cX10_relation 46 = .ok (.aload_n 0, 1) := by decide +kernel
theorem dX10_relation_47 : decode cX10_relation 47 = .ok (.aload_n 0, 1) := by decide +kernel
theorem dX10_relation_48 : decode cX10_relation 48 = .ok (.getfield 13, 3) := by decide +kernel
theorem dX10_relation_51 : decode cX10_relation 51 = .ok (.sipush 640, 3) := by decide +kernel
theorem dX10_relation_54 : decode cX10_relation 54 = .ok (.iload_n 1, 1) := by decide +kernel
theorem dX10_relation_55 : decode cX10_relation 55 = .ok (.iadd, 1) := by decide +kernel
theorem dX10_relation_56 : decode cX10_relation 56 = .ok (.iaload, 1) := by decide +kernel
theorem dX10_relation_57 : decode cX10_relation 57 = .ok (.ineg, 1) := by decide +kernel
theorem dX10_relation_58 : decode cX10_relation 58 = .ok (.invokevirtual 102, 3) := by decide +kernel
theorem dX10_relation_61 : decode cX10_relation 61 = .ok (.ireturn, 1) := by decide +kernel
theorem dX10_power_0 : decode cX10_power 0 = .ok (.iload_n 1, 1) := by decide +kernel
theorem dX10_power_1 : decode cX10_power 1 = .ok (.iconst 0, 1) := by decide +kernel
theorem dX10_power_2 : decode cX10_power 2 = .ok (.sipush 999, 3) := by decide +kernel
theorem dX10_power_5 : decode cX10_power 5 = .ok (.invokestatic 86, 3) := by decide +kernel
theorem dX10_power_8 : decode cX10_power 8 = .ok (.ifCond .ne 6, 3) := by decide +kernel
theorem dX10_power_11 : decode cX10_power 11 = .ok (.bipush (-2), 2) := by decide +kernel
theorem dX10_power_13 : decode cX10_power 13 = .ok (.ireturn, 1) := by decide +kernel
theorem dX10_power_14 : decode cX10_power 14 = .ok (.iconst 0, 1) := by decide +kernel
theorem dX10_power_15 : decode cX10_power 15 = .ok (.istore_n 2, 1) := by decide +kernel
theorem dX10_power_16 : decode cX10_power 16 = .ok (.iconst 0, 1) := by decide +kernel
theorem dX10_power_17 : decode cX10_power 17 = .ok (.istore_n 3, 1) := by decide +kernel
theorem dX10_power_18 : decode cX10_power 18 = .ok (.iload_n 3, 1) := by decide +kernel
theorem dX10_power_19 : decode cX10_power 19 = .ok (.aload_n 0, 1) := by decide +kernel
theorem dX10_power_20 : decode cX10_power 20 = .ok (.getfield 284, 3) := by decide +kernel
theorem dX10_power_23 : decode cX10_power 23 = .ok (.if_icmp .ge 35, 3) := by decide +kernel
theorem dX10_power_26 : decode cX10_power 26 = .ok (.iload_n 2, 1) := by decide +kernel
theorem dX10_power_27 : decode cX10_power 27 = .ok (.aload_n 0, 1) := by decide +kernel
theorem dX10_power_28 : decode cX10_power 28 = .ok (.getfield 42, 3) := by decide +kernel
theorem dX10_power_31 : decode cX10_power 31 = .ok (.iload_n 3, 1) := by decide +kernel
theorem dX10_power_32 : decode cX10_power 32 = .ok (.iaload, 1) := by decide +kernel
theorem dX10_power_33 : decode cX10_power 33 = .ok (.aload_n 0, 1) := by decide +kernel
theorem dX10_power_34 : decode cX10_power 34 = .ok (.aload_n 0, 1) := by decide +kernel
theorem dX10_power_35 : decode cX10_power 35 = .ok (.getfield 39, 3) := by decide +kernel
theorem dX10_power_38 : decode cX10_power 38 = .ok (.iload_n 3, 1) := by decide +kernel
theorem dX10_power_39 : decode cX10_power 39 = .ok (.iaload, 1) := by decide +kernel
theorem dX10_power_40 : decode cX10_power 40 = .ok (.iload_n 1, 1) := by decide +kernel
theorem dX10_power_41 : decode cX10_power 41 = .ok (.invokevirtual 82, 3) := by decide +kernel
theorem dX10_power_44 : decode cX10_power 44 = .ok (.imul, 1) := by decide +kernel
theorem dX10_power_45 : decode cX10_power 45 = .ok (.iadd, 1) := by decide +kernel
theorem dX10_power_46 : decode cX10_power 46 = .ok (.aload_n 0, 1) := by decide +kernel
theorem dX10_power_47 : decode cX10_power 47 = .ok (.getfield 64, 3) := by decide +kernel
theorem dX10_power_50 : decode cX10_power 50 = .ok (.irem, 1) := by decide +kernel
theorem dX10_power_51 : decode cX10_power 51 = .ok (.istore_n 2, 1) := by decide +kernel
theorem dX10_power_52 : decode cX10_power 52 = .ok (.iinc 3 1, 3) := by decide +kernel
theorem dX10_power_55 : decode cX10_power 55 = .ok (.goto (-37), 3) := by decide +kernel
theorem dX10_power_58 : decode cX10_power 58 = .ok (.iload_n 2, 1) := by decide +kernel
theorem dX10_power_59 : decode cX10_power 59 = .ok (.ireturn, 1) := by decide +kernel
theorem dX10_count_0 : decode cX10_count 0 = .ok (.iload_n 1, 1) := by decide +kernel
theorem dX10_count_1 : decode cX10_count 1 = .ok (.tableswitch 69 0 5 #[39, 44, 49, 54, 59, 64], 39) := by decide +kernel
theorem dX10_count_40 : decode cX10_count 40 = .ok (.aload_n 0, 1) := by decide +kernel
theorem dX10_count_41 : decode cX10_count 41 = .ok (.getfield 64, 3) := by decide +kernel
theorem dX10_count_44 : decode cX10_count 44 = .ok (.ireturn, 1) := by decide +kernel
theorem dX10_count_45 : decode cX10_count 45 = .ok (.aload_n 0, 1) := by decide +kernel
theorem dX10_count_46 : decode cX10_count 46 = .ok (.getfield 112, 3) := by decide +kernel
theorem dX10_count_49 : decode cX10_count 49 = .ok (.ireturn, 1) := by decide +kernel
theorem dX10_count_50 : decode cX10_count 50 = .ok (.aload_n 0, 1) := by decide +kernel
theorem dX10_count_51 : decode cX10_count 51 = .ok (.getfield 284, 3) := by decide +kernel
theorem dX10_count_54 : decode cX10_count 54 = .ok (.ireturn, 1) := by decide +kernel
theorem dX10_count_55 : decode cX10_count 55 = .ok (.aload_n 0, 1) := by decide +kernel
theorem dX10_count_56 : decode cX10_count 56 = .ok (.getfield 79, 3) := by decide +kernel
theorem dX10_count_59 : decode cX10_count 59 = .ok (.ireturn, 1) := by decide +kernel
theorem dX10_count_60 : decode cX10_count 60 = .ok (.aload_n 0, 1) := by decide +kernel
theorem dX10_count_61 : decode cX10_count 61 = .ok (.getfield 165, 3) := by decide +kernel
theorem dX10_count_64 : decode cX10_count 64 = .ok (.ireturn, 1) := by decide +kernel
theorem dX10_count_65 : decode cX10_count 65 = .ok (.aload_n 0, 1) := by decide +kernel
theorem dX10_count_66 : decode cX10_count 66 = .ok (.getfield 258, 3) := by decide +kernel
theorem dX10_count_69 : decode cX10_count 69 = .ok (.ireturn, 1) := by decide +kernel
theorem dX10_count_70 : decode cX10_count 70 = .ok (.bipush (-2), 2) := by decide +kernel
theorem dX10_count_72 : decode cX10_count 72 = .ok (.ireturn, 1) := by decide +kernel
theorem dX10_isSheet_0 : decode cX10_isSheet 0 = .ok (.iload_n 0, 1) := by decide +kernel
theorem dX10_isSheet_1 : decode cX10_isSheet 1 = .ok (.iconst 0, 1) := by decide +kernel
theorem dX10_isSheet_2 : decode cX10_isSheet 2 = .ok (.iconst 3, 1) := by decide +kernel
theorem dX10_isSheet_3 : decode cX10_isSheet 3 = .ok (.invokestatic 86, 3) := by decide +kernel
theorem dX10_isSheet_6 : decode cX10_isSheet 6 = .ok (.ireturn, 1) := by decide +kernel
theorem dX10_sheet_0 : decode cX10_sheet 0 = .ok (.iload_n 1, 1) := by decide +kernel
theorem dX10_sheet_1 : decode cX10_sheet 1 = .ok (.invokestatic 302, 3) := by decide +kernel
theorem dX10_sheet_4 : decode cX10_sheet 4 = .ok (.ifCond .eq 22, 3) := by decide +kernel
theorem dX10_sheet_7 : decode cX10_sheet 7 = .ok (.iload_n 2, 1) := by decide +kernel
theorem dX10_sheet_8 : decode cX10_sheet 8 = .ok (.iconst (-1), 1) := by decide +kernel
theorem dX10_sheet_9 : decode cX10_sheet 9 = .ok (.iconst 2, 1) := by decide +kernel
theorem dX10_sheet_10 : decode cX10_sheet 10 = .ok (.invokestatic 86, 3) := by decide +kernel
theorem dX10_sheet_13 : decode cX10_sheet 13 = .ok (.ifCond .eq 13, 3) := by decide +kernel
theorem dX10_sheet_16 : decode cX10_sheet 16 = .ok (.iload_n 2, 1) := by decide +kernel
theorem dX10_sheet_17 : decode cX10_sheet 17 = .ok (.ifCond .lt 12, 3) := by decide +kernel
theorem dX10_sheet_20 : decode cX10_sheet 20 = .ok (.iload_n 3, 1) := by decide +kernel
theorem dX10_sheet_21 : decode cX10_sheet 21 = .ok (.bipush 40, 2) := by decide +kernel
theorem dX10_sheet_23 : decode cX10_sheet 23 = .ok (.if_icmp .le 6, 3) := by decide +kernel
theorem dX10_sheet_26 : decode cX10_sheet 26 = .ok (.bipush (-2), 2) := by decide +kernel
theorem dX10_sheet_28 : decode cX10_sheet 28 = .ok (.ireturn, 1) := by decide +kernel
theorem dX10_sheet_29 : decode cX10_sheet 29 = .ok (.iload_n 2, 1) := by decide +kernel
theorem dX10_sheet_30 : decode cX10_sheet 30 = .ok (.ifCond .lt 10, 3) := by decide +kernel
theorem dX10_sheet_33 : decode cX10_sheet 33 = .ok (.iload_n 3, 1) := by decide +kernel
theorem dX10_sheet_34 : decode cX10_sheet 34 = .ok (.ifCond .ge 6, 3) := by decide +kernel
theorem dX10_sheet_37 : decode cX10_sheet 37 = .ok (.bipush (-14), 2) := by decide +kernel
theorem dX10_sheet_39 : decode cX10_sheet 39 = .ok (.ireturn, 1) := by decide +kernel
theorem dX10_sheet_40 : decode cX10_sheet 40 = .ok (.aload_n 0, 1) := by decide +kernel
theorem dX10_sheet_41 : decode cX10_sheet 41 = .ok (.getfield 51, 3) := by decide +kernel
theorem dX10_sheet_44 : decode cX10_sheet 44 = .ok (.iload_n 1, 1) := by decide +kernel
theorem dX10_sheet_45 : decode cX10_sheet 45 = .ok (.iload_n 2, 1) := by decide +kernel
theorem dX10_sheet_46 : decode cX10_sheet 46 = .ok (.ifCond .lt 7, 3) := by decide +kernel
theorem dX10_sheet_49 : decode cX10_sheet 49 = .ok (.iconst 1, 1) := by decide +kernel
theorem dX10_sheet_50 : decode cX10_sheet 50 = .ok (.goto 4, 3) := by decide +kernel
theorem dX10_sheet_53 : decode cX10_sheet 53 = .ok (.iconst 0, 1) := by decide +kernel
theorem dX10_sheet_54 : decode cX10_sheet 54 = .ok (.bastore, 1) := by decide +kernel
theorem dX10_sheet_55 : decode cX10_sheet 55 = .ok (.aload_n 0, 1) := by decide +kernel
theorem dX10_sheet_56 : decode cX10_sheet 56 = .ok (.getfield 55, 3) := by decide +kernel
theorem dX10_sheet_59 : decode cX10_sheet 59 = .ok (.iload_n 1, 1) := by decide +kernel
theorem dX10_sheet_60 : decode cX10_sheet 60 = .ok (.iload_n 2, 1) := by decide +kernel
theorem dX10_sheet_61 : decode cX10_sheet 61 = .ok (.iastore, 1) := by decide +kernel
theorem dX10_sheet_62 : decode cX10_sheet 62 = .ok (.aload_n 0, 1) := by decide +kernel
theorem dX10_sheet_63 : decode cX10_sheet 63 = .ok (.getfield 58, 3) := by decide +kernel
theorem dX10_sheet_66 : decode cX10_sheet 66 = .ok (.iload_n 1, 1) := by decide +kernel
theorem dX10_sheet_67 : decode cX10_sheet 67 = .ok (.iload_n 3, 1) := by decide +kernel
theorem dX10_sheet_68 : decode cX10_sheet 68 = .ok (.iastore, 1) := by decide +kernel
theorem dX10_sheet_69 : decode cX10_sheet 69 = .ok (.iconst 0, 1) := by decide +kernel
theorem dX10_sheet_70 : decode cX10_sheet 70 = .ok (.istore 4, 2) := by decide +kernel
theorem dX10_sheet_72 : decode cX10_sheet 72 = .ok (.iload 4, 2) := by decide +kernel
theorem dX10_sheet_74 : decode cX10_sheet 74 = .ok (.iload_n 3, 1) := by decide +kernel
theorem dX10_sheet_75 : decode cX10_sheet 75 = .ok (.if_icmp .ge 26, 3) := by decide +kernel
theorem dX10_sheet_78 : decode cX10_sheet 78 = .ok (.iload_n 2, 1) := by decide +kernel
theorem dX10_sheet_79 : decode cX10_sheet 79 = .ok (.ifCond .lt 22, 3) := by decide +kernel
theorem dX10_sheet_82 : decode cX10_sheet 82 = .ok (.aload_n 0, 1) := by decide +kernel
theorem dX10_sheet_83 : decode cX10_sheet 83 = .ok (.getfield 61, 3) := by decide +kernel
theorem dX10_sheet_86 : decode cX10_sheet 86 = .ok (.bipush 40, 2) := by decide +kernel
theorem dX10_sheet_88 : decode cX10_sheet 88 = .ok (.iload_n 1, 1) := by decide +kernel
theorem dX10_sheet_89 : decode cX10_sheet 89 = .ok (.imul, 1) := by decide +kernel
theorem dX10_sheet_90 : decode cX10_sheet 90 = .ok (.iload 4, 2) := by decide +kernel
theorem dX10_sheet_92 : decode cX10_sheet 92 = .ok (.iadd, 1) := by decide +kernel
theorem dX10_sheet_93 : decode cX10_sheet 93 = .ok (.iconst 0, 1) := by decide +kernel
theorem dX10_sheet_94 : decode cX10_sheet 94 = .ok (.iastore, 1) := by decide +kernel
theorem dX10_sheet_95 : decode cX10_sheet 95 = .ok (.iinc 4 1, 3) := by decide +kernel
theorem dX10_sheet_98 : decode cX10_sheet 98 = .ok (.goto (-26), 3) := by decide +kernel
theorem dX10_sheet_101 : decode cX10_sheet 101 = .ok (.iconst 1, 1) := by decide +kernel
theorem dX10_sheet_102 : decode cX10_sheet 102 = .ok (.ireturn, 1) := by decide +kernel
theorem dX10_cell_0 : decode cX10_cell 0 = .ok (.iload_n 1, 1) := by decide +kernel
theorem dX10_cell_1 : decode cX10_cell 1 = .ok (.invokestatic 302, 3) := by decide +kernel
theorem dX10_cell_4 : decode cX10_cell 4 = .ok (.ifCond .ne 6, 3) := by decide +kernel
theorem dX10_cell_7 : decode cX10_cell 7 = .ok (.bipush (-2), 2) := by decide +kernel
theorem dX10_cell_9 : decode cX10_cell 9 = .ok (.ireturn, 1) := by decide +kernel
theorem dX10_cell_10 : decode cX10_cell 10 = .ok (.aload_n 0, 1) := by decide +kernel
theorem dX10_cell_11 : decode cX10_cell 11 = .ok (.getfield 51, 3) := by decide +kernel
theorem dX10_cell_14 : decode cX10_cell 14 = .ok (.iload_n 1, 1) := by decide +kernel
theorem dX10_cell_15 : decode cX10_cell 15 = .ok (.baload, 1) := by decide +kernel
theorem dX10_cell_16 : decode cX10_cell 16 = .ok (.ifCond .ne 6, 3) := by decide +kernel
theorem dX10_cell_19 : decode cX10_cell 19 = .ok (.bipush (-11), 2) := by decide +kernel
theorem dX10_cell_21 : decode cX10_cell 21 = .ok (.ireturn, 1) := by decide +kernel
theorem dX10_cell_22 : decode cX10_cell 22 = .ok (.iload_n 2, 1) := by decide +kernel
theorem dX10_cell_23 : decode cX10_cell 23 = .ok (.iconst 0, 1) := by decide +kernel
theorem dX10_cell_24 : decode cX10_cell 24 = .ok (.aload_n 0, 1) := by decide +kernel
theorem dX10_cell_25 : decode cX10_cell 25 = .ok (.getfield 58, 3) := by decide +kernel
theorem dX10_cell_28 : decode cX10_cell 28 = .ok (.iload_n 1, 1) := by decide +kernel
theorem dX10_cell_29 : decode cX10_cell 29 = .ok (.iaload, 1) := by decide +kernel
theorem dX10_cell_30 : decode cX10_cell 30 = .ok (.iconst 1, 1) := by decide +kernel
theorem dX10_cell_31 : decode cX10_cell 31 = .ok (.isub, 1) := by decide +kernel
theorem dX10_cell_32 : decode cX10_cell 32 = .ok (.invokestatic 86, 3) := by decide +kernel
theorem dX10_cell_35 : decode cX10_cell 35 = .ok (.ifCond .ne 6, 3) := by decide +kernel
theorem dX10_cell_38 : decode cX10_cell 38 = .ok (.bipush (-12), 2) := by decide +kernel
theorem dX10_cell_40 : decode cX10_cell 40 = .ok (.ireturn, 1) := by decide +kernel
theorem dX10_cell_41 : decode cX10_cell 41 = .ok (.aload_n 0, 1) := by decide +kernel
theorem dX10_cell_42 : decode cX10_cell 42 = .ok (.getfield 61, 3) := by decide +kernel
theorem dX10_cell_45 : decode cX10_cell 45 = .ok (.bipush 40, 2) := by decide +kernel
theorem dX10_cell_47 : decode cX10_cell 47 = .ok (.iload_n 1, 1) := by decide +kernel
theorem dX10_cell_48 : decode cX10_cell 48 = .ok (.imul, 1) := by decide +kernel
theorem dX10_cell_49 : decode cX10_cell 49 = .ok (.iload_n 2, 1) := by decide +kernel
theorem dX10_cell_50 : decode cX10_cell 50 = .ok (.iadd, 1) := by decide +kernel
theorem dX10_cell_51 : decode cX10_cell 51 = .ok (.aload_n 0, 1) := by decide +kernel
theorem dX10_cell_52 : decode cX10_cell 52 = .ok (.getfield 55, 3) := by decide +kernel
theorem dX10_cell_55 : decode cX10_cell 55 = .ok (.iload_n 1, 1) := by decide +kernel
theorem dX10_cell_56 : decode cX10_cell 56 = .ok (.iaload, 1) := by decide +kernel
theorem dX10_cell_57 : decode cX10_cell 57 = .ok (.ifCond .ne 8, 3) := by decide +kernel
theorem dX10_cell_60 : decode cX10_cell 60 = .ok (.iload_n 3, 1) := by decide +kernel
theorem dX10_cell_61 : decode cX10_cell 61 = .ok (.i2b, 1) := by decide +kernel
theorem dX10_cell_62 : decode cX10_cell 62 = .ok (.goto 19, 3) := by decide +kernel
theorem dX10_cell_65 : decode cX10_cell 65 = .ok (.aload_n 0, 1) := by decide +kernel
theorem dX10_cell_66 : decode cX10_cell 66 = .ok (.getfield 55, 3) := by decide +kernel
theorem dX10_cell_69 : decode cX10_cell 69 = .ok (.iload_n 1, 1) := by decide +kernel
theorem dX10_cell_70 : decode cX10_cell 70 = .ok (.iaload, 1) := by decide +kernel
theorem dX10_cell_71 : decode cX10_cell 71 = .ok (.iconst 1, 1) := by decide +kernel
theorem dX10_cell_72 : decode cX10_cell 72 = .ok (.if_icmp .ne 8, 3) := by decide +kernel
theorem dX10_cell_75 : decode cX10_cell 75 = .ok (.iload_n 3, 1) := by decide +kernel
theorem dX10_cell_76 : decode cX10_cell 76 = .ok (.i2s, 1) := by decide +kernel
theorem dX10_cell_77 : decode cX10_cell 77 = .ok (.goto 4, 3) := by decide +kernel
theorem dX10_cell_80 : decode cX10_cell 80 = .ok (.iload_n 3, 1) := by decide +kernel
theorem dX10_cell_81 : decode cX10_cell 81 = .ok (.iastore, 1) := by decide +kernel
theorem dX10_cell_82 : decode cX10_cell 82 = .ok (.iconst 1, 1) := by decide +kernel
theorem dX10_cell_83 : decode cX10_cell 83 = .ok (.ireturn, 1) := by decide +kernel
theorem dX10_lay_0 : decode cX10_lay 0 = .ok (.iload_n 1, 1) := by decide +kernel
theorem dX10_lay_1 : decode cX10_lay 1 = .ok (.invokestatic 98, 3) := by decide +kernel
theorem dX10_lay_4 : decode cX10_lay 4 = .ok (.ifCond .eq 30, 3) := by decide +kernel
theorem dX10_lay_7 : decode cX10_lay 7 = .ok (.iload_n 2, 1) := by decide +kernel
theorem dX10_lay_8 : decode cX10_lay 8 = .ok (.invokestatic 302, 3) := by decide +kernel
theorem dX10_lay_11 : decode cX10_lay 11 = .ok (.ifCond .eq 23, 3) := by decide +kernel
theorem dX10_lay_14 : decode cX10_lay 14 = .ok (.iload_n 3, 1) := by decide +kernel
theorem dX10_lay_15 : decode cX10_lay 15 = .ok (.iconst 0, 1) := by decide +kernel
theorem dX10_lay_16 : decode cX10_lay 16 = .ok (.iconst 2, 1) := by decide +kernel
theorem dX10_lay_17 : decode cX10_lay 17 = .ok (.invokestatic 86, 3) := by decide +kernel
theorem dX10_lay_20 : decode cX10_lay 20 = .ok (.ifCond .eq 14, 3) := by decide +kernel
theorem dX10_lay_23 : decode cX10_lay 23 = .ok (.iload 5, 2) := by decide +kernel
theorem dX10_lay_25 : decode cX10_lay 25 = .ok (.iconst 0, 1) := by decide +kernel
theorem dX10_lay_26 : decode cX10_lay 26 = .ok (.bipush 32, 2) := by decide +kernel
theorem dX10_lay_28 : decode cX10_lay 28 = .ok (.invokestatic 86, 3) := by decide +kernel
theorem dX10_lay_31 : decode cX10_lay 31 = .ok (.ifCond .ne 6, 3) := by decide +kernel
theorem dX10_lay_34 : decode cX10_lay 34 = .ok (.bipush (-2), 2) := by decide +kernel
theorem dX10_lay_36 : decode cX10_lay 36 = .ok (.ireturn, 1) := by decide +kernel
theorem dX10_lay_37 : decode cX10_lay 37 = .ok (.aload_n 0, 1) := by decide +kernel
theorem dX10_lay_38 : decode cX10_lay 38 = .ok (.getfield 51, 3) := by decide +kernel
theorem dX10_lay_41 : decode cX10_lay 41 = .ok (.iload_n 2, 1) := by decide +kernel
theorem dX10_lay_42 : decode cX10_lay 42 = .ok (.baload, 1) := by decide +kernel
theorem dX10_lay_43 : decode cX10_lay 43 = .ok (.ifCond .eq 16, 3) := by decide +kernel
theorem dX10_lay_46 : decode cX10_lay 46 = .ok (.aload_n 0, 1) := by decide +kernel
theorem dX10_lay_47 : decode cX10_lay 47 = .ok (.getfield 55, 3) := by decide +kernel
theorem dX10_lay_50 : decode cX10_lay 50 = .ok (.iload_n 2, 1) := by decide +kernel
theorem dX10_lay_51 : decode cX10_lay 51 = .ok (.iaload, 1) := by decide +kernel
theorem dX10_lay_52 : decode cX10_lay 52 = .ok (.iload_n 3, 1) := by decide +kernel
theorem dX10_lay_53 : decode cX10_lay 53 = .ok (.if_icmp .eq 6, 3) := by decide +kernel
theorem dX10_lay_56 : decode cX10_lay 56 = .ok (.bipush (-13), 2) := by decide +kernel
theorem dX10_lay_58 : decode cX10_lay 58 = .ok (.ireturn, 1) := by decide +kernel
theorem dX10_lay_59 : decode cX10_lay 59 = .ok (.aload_n 0, 1) := by decide +kernel
theorem dX10_lay_60 : decode cX10_lay 60 = .ok (.getfield 51, 3) := by decide +kernel
theorem dX10_lay_63 : decode cX10_lay 63 = .ok (.iload_n 2, 1) := by decide +kernel
theorem dX10_lay_64 : decode cX10_lay 64 = .ok (.baload, 1) := by decide +kernel
theorem dX10_lay_65 : decode cX10_lay 65 = .ok (.ifCond .ne 6, 3) := by decide +kernel
theorem dX10_lay_68 : decode cX10_lay 68 = .ok (.bipush (-11), 2) := by decide +kernel
theorem dX10_lay_70 : decode cX10_lay 70 = .ok (.ireturn, 1) := by decide +kernel
theorem dX10_lay_71 : decode cX10_lay 71 = .ok (.iload 5, 2) := by decide +kernel
theorem dX10_lay_73 : decode cX10_lay 73 = .ok (.ifCond .le 25, 3) := by decide +kernel
theorem dX10_lay_76 : decode cX10_lay 76 = .ok (.iload 4, 2) := by decide +kernel
theorem dX10_lay_78 : decode cX10_lay 78 = .ok (.ifCond .lt 17, 3) := by decide +kernel
theorem dX10_lay_81 : decode cX10_lay 81 = .ok (.iload 4, 2) := by decide +kernel
theorem dX10_lay_83 : decode cX10_lay 83 = .ok (.aload_n 0, 1) := by decide +kernel
theorem dX10_lay_84 : decode cX10_lay 84 = .ok (.getfield 58, 3) := by decide +kernel
theorem dX10_lay_87 : decode cX10_lay 87 = .ok (.iload_n 2, 1) := by decide +kernel
theorem dX10_lay_88 : decode cX10_lay 88 = .ok (.iaload, 1) := by decide +kernel
theorem dX10_lay_89 : decode cX10_lay 89 = .ok (.iload 5, 2) := by decide +kernel
theorem dX10_lay_91 : decode cX10_lay 91 = .ok (.isub, 1) := by decide +kernel
theorem dX10_lay_92 : decode cX10_lay 92 = .ok (.if_icmp .le 6, 3) := by decide +kernel
theorem dX10_lay_95 : decode cX10_lay 95 = .ok (.bipush (-12), 2) := by decide +kernel
theorem dX10_lay_97 : decode cX10_lay 97 = .ok (.ireturn, 1) := by decide +kernel
theorem dX10_lay_98 : decode cX10_lay 98 = .ok (.aload_n 0, 1) := by decide +kernel
theorem dX10_lay_99 : decode cX10_lay 99 = .ok (.iload_n 1, 1) := by decide +kernel
theorem dX10_lay_100 : decode cX10_lay 100 = .ok (.invokevirtual 105, 3) := by decide +kernel
theorem dX10_lay_103 : decode cX10_lay 103 = .ok (.iconst 0, 1) := by decide +kernel
theorem dX10_lay_104 : decode cX10_lay 104 = .ok (.istore 6, 2) := by decide +kernel
theorem dX10_lay_106 : decode cX10_lay 106 = .ok (.iload 6, 2) := by decide +kernel
theorem dX10_lay_108 : decode cX10_lay 108 = .ok (.iload 5, 2) := by decide +kernel
theorem dX10_lay_110 : decode cX10_lay 110 = .ok (.if_icmp .ge 40, 3) := by decide +kernel
theorem dX10_lay_113 : decode cX10_lay 113 = .ok (.aload_n 0, 1) := by decide +kernel
theorem dX10_lay_114 : decode cX10_lay 114 = .ok (.getfield 13, 3) := by decide +kernel
theorem dX10_lay_117 : decode cX10_lay 117 = .ok (.bipush 80, 2) := by decide +kernel
theorem dX10_lay_119 : decode cX10_lay 119 = .ok (.iload_n 1, 1) := by decide +kernel
theorem dX10_lay_120 : decode cX10_lay 120 = .ok (.imul, 1) := by decide +kernel
theorem dX10_lay_121 : decode cX10_lay 121 = .ok (.iload 6, 2) := by decide +kernel
theorem dX10_lay_123 : decode cX10_lay 123 = .ok (.iadd, 1) := by decide +kernel
theorem dX10_lay_124 : decode cX10_lay 124 = .ok (.aload_n 0, 1) := by decide +kernel
theorem dX10_lay_125 : decode cX10_lay 125 = .ok (.aload_n 0, 1) := by decide +kernel
theorem dX10_lay_126 : decode cX10_lay 126 = .ok (.getfield 61, 3) := by decide +kernel
theorem dX10_lay_129 : decode cX10_lay 129 = .ok (.bipush 40, 2) := by decide +kernel
theorem dX10_lay_131 : decode cX10_lay 131 = .ok (.iload_n 2, 1) := by decide +kernel
theorem dX10_lay_132 : decode cX10_lay 132 = .ok (.imul, 1) := by decide +kernel
theorem dX10_lay_133 : decode cX10_lay 133 = .ok (.iload 4, 2) := by decide +kernel
theorem dX10_lay_135 : decode cX10_lay 135 = .ok (.iadd, 1) := by decide +kernel
theorem dX10_lay_136 : decode cX10_lay 136 = .ok (.iload 6, 2) := by decide +kernel
theorem dX10_lay_138 : decode cX10_lay 138 = .ok (.iadd, 1) := by decide +kernel
theorem dX10_lay_139 : decode cX10_lay 139 = .ok (.iaload, 1) := by decide +kernel
theorem dX10_lay_140 : decode cX10_lay 140 = .ok (.invokevirtual 102, 3) := by decide +kernel
theorem dX10_lay_143 : decode cX10_lay 143 = .ok (.iastore, 1) := by decide +kernel
theorem dX10_lay_144 : decode cX10_lay 144 = .ok (.iinc 6 1, 3) := by decide +kernel
theorem dX10_lay_147 : decode cX10_lay 147 = .ok (.goto (-41), 3) := by decide +kernel
theorem dX10_lay_150 : decode cX10_lay 150 = .ok (.aload_n 0, 1) := by decide +kernel
theorem dX10_lay_151 : decode cX10_lay 151 = .ok (.iload_n 1, 1) := by decide +kernel
theorem dX10_lay_152 : decode cX10_lay 152 = .ok (.invokevirtual 94, 3) := by decide +kernel
theorem dX10_lay_155 : decode cX10_lay 155 = .ok (.ireturn, 1) := by decide +kernel
theorem dX10_over_0 : decode cX10_over 0 = .ok (.iload_n 0, 1) := by decide +kernel
theorem dX10_over_1 : decode cX10_over 1 = .ok (.ifCond .ne 7, 3) := by decide +kernel
theorem dX10_over_4 : decode cX10_over 4 = .ok (.iconst (-1), 1) := by decide +kernel
theorem dX10_over_5 : decode cX10_over 5 = .ok (.goto 31, 3) := by decide +kernel
theorem dX10_over_8 : decode cX10_over 8 = .ok (.iload_n 0, 1) := by decide +kernel
theorem dX10_over_9 : decode cX10_over 9 = .ok (.iconst 2, 1) := by decide +kernel
theorem dX10_over_10 : decode cX10_over 10 = .ok (.if_icmp .ne 7, 3) := by decide +kernel
theorem dX10_over_13 : decode cX10_over 13 = .ok (.iconst 1, 1) := by decide +kernel
theorem dX10_over_14 : decode cX10_over 14 = .ok (.goto 22, 3) := by decide +kernel
theorem dX10_over_17 : decode cX10_over 17 = .ok (.iload_n 0, 1) := by decide +kernel
theorem dX10_over_18 : decode cX10_over 18 = .ok (.iconst 4, 1) := by decide +kernel
theorem dX10_over_19 : decode cX10_over 19 = .ok (.if_icmp .ne 7, 3) := by decide +kernel
theorem dX10_over_22 : decode cX10_over 22 = .ok (.iconst 2, 1) := by decide +kernel
theorem dX10_over_23 : decode cX10_over 23 = .ok (.goto 13, 3) := by decide +kernel
theorem dX10_over_26 : decode cX10_over 26 = .ok (.iload_n 0, 1) := by decide +kernel
theorem dX10_over_27 : decode cX10_over 27 = .ok (.iconst 5, 1) := by decide +kernel
theorem dX10_over_28 : decode cX10_over 28 = .ok (.if_icmp .ne 7, 3) := by decide +kernel
theorem dX10_over_31 : decode cX10_over 31 = .ok (.iconst 3, 1) := by decide +kernel
theorem dX10_over_32 : decode cX10_over 32 = .ok (.goto 4, 3) := by decide +kernel
theorem dX10_over_35 : decode cX10_over 35 = .ok (.iconst 0, 1) := by decide +kernel
theorem dX10_over_36 : decode cX10_over 36 = .ok (.ireturn, 1) := by decide +kernel
theorem dX10_taken_0 : decode cX10_taken 0 = .ok (.iload_n 2, 1) := by decide +kernel
theorem dX10_taken_1 : decode cX10_taken 1 = .ok (.iconst 0, 1) := by decide +kernel
theorem dX10_taken_2 : decode cX10_taken 2 = .ok (.iconst 5, 1) := by decide +kernel
theorem dX10_taken_3 : decode cX10_taken 3 = .ok (.invokestatic 86, 3) := by decide +kernel
theorem dX10_taken_6 : decode cX10_taken 6 = .ok (.ifCond .ne 6, 3) := by decide +kernel
theorem dX10_taken_9 : decode cX10_taken 9 = .ok (.bipush (-2), 2) := by decide +kernel
theorem dX10_taken_11 : decode cX10_taken 11 = .ok (.ireturn, 1) := by decide +kernel
theorem dX10_taken_12 : decode cX10_taken 12 = .ok (.aload_n 0, 1) := by decide +kernel
theorem dX10_taken_13 : decode cX10_taken 13 = .ok (.iload_n 1, 1) := by decide +kernel
theorem dX10_taken_14 : decode cX10_taken 14 = .ok (.invokevirtual 136, 3) := by decide +kernel
theorem dX10_taken_17 : decode cX10_taken 17 = .ok (.ifCond .ne 6, 3) := by decide +kernel
theorem dX10_taken_20 : decode cX10_taken 20 = .ok (.bipush (-11), 2) := by decide +kernel
theorem dX10_taken_22 : decode cX10_taken 22 = .ok (.ireturn, 1) := by decide +kernel
theorem dX10_taken_23 : decode cX10_taken 23 = .ok (.aload_n 0, 1) := by decide +kernel
theorem dX10_taken_24 : decode cX10_taken 24 = .ok (.getfield 17, 3) := by decide +kernel
theorem dX10_taken_27 : decode cX10_taken 27 = .ok (.iload_n 1, 1) := by decide +kernel
theorem dX10_taken_28 : decode cX10_taken 28 = .ok (.iaload, 1) := by decide +kernel
theorem dX10_taken_29 : decode cX10_taken 29 = .ok (.istore_n 3, 1) := by decide +kernel
theorem dX10_taken_30 : decode cX10_taken 30 = .ok (.iload_n 3, 1) := by decide +kernel
theorem dX10_taken_31 : decode cX10_taken 31 = .ok (.ifCond .lt 16, 3) := by decide +kernel
theorem dX10_taken_34 : decode cX10_taken 34 = .ok (.iload_n 3, 1) := by decide +kernel
theorem dX10_taken_35 : decode cX10_taken 35 = .ok (.iload_n 2, 1) := by decide +kernel
theorem dX10_taken_36 : decode cX10_taken 36 = .ok (.if_icmp .eq 11, 3) := by decide +kernel
theorem dX10_taken_39 : decode cX10_taken 39 = .ok (.iload_n 3, 1) := by decide +kernel
theorem dX10_taken_40 : decode cX10_taken 40 = .ok (.invokestatic 305, 3) := by decide +kernel
theorem dX10_taken_43 : decode cX10_taken 43 = .ok (.istore_n 3, 1) := by decide +kernel
theorem dX10_taken_44 : decode cX10_taken 44 = .ok (.goto (-14), 3) := by decide +kernel
theorem dX10_taken_47 : decode cX10_taken 47 = .ok (.iload_n 3, 1) := by decide +kernel
theorem dX10_taken_48 : decode cX10_taken 48 = .ok (.iload_n 2, 1) := by decide +kernel
theorem dX10_taken_49 : decode cX10_taken 49 = .ok (.if_icmp .ne 12, 3) := by decide +kernel
theorem dX10_taken_52 : decode cX10_taken 52 = .ok (.aload_n 0, 1) := by decide +kernel
theorem dX10_taken_53 : decode cX10_taken 53 = .ok (.getfield 20, 3) := by decide +kernel
theorem dX10_taken_56 : decode cX10_taken 56 = .ok (.iload_n 1, 1) := by decide +kernel
theorem dX10_taken_57 : decode cX10_taken 57 = .ok (.iaload, 1) := by decide +kernel
theorem dX10_taken_58 : decode cX10_taken 58 = .ok (.goto 5, 3) := by decide +kernel
theorem dX10_taken_61 : decode cX10_taken 61 = .ok (.bipush (-13), 2) := by decide +kernel
theorem dX10_taken_63 : decode cX10_taken 63 = .ok (.ireturn, 1) := by decide +kernel
end
section
/-! THE G LAYER: one judgement for a method's frame over an abstract heap; rows without worlds' places -/
def W0 : List Cond := lw_tbl.filter goodWord
theorem W0_good {w : Cond} (h : w ∈ W0) : goodWord w = true := (List.mem_filter.mp h).2
theorem W0_in {w : Cond} (h : w ∈ lw_tbl) (hg : goodWord w = true) : w ∈ W0 := List.mem_filter.mpr ⟨h, hg⟩
def iI (z : Int) : Int32 := Int32.ofInt z
def iL (z : Int) : Int64 := Int64.ofInt z
theorem iI_add (a b : Int) : iI (a + b) = iI a + iI b := Int32.ofInt_add a b
theorem iI_sub (a b : Int) : iI (a - b) = iI a - iI b := Int32.ofInt_sub a b
theorem iI_mul (a b : Int) : iI (a * b) = iI a * iI b := Int32.ofInt_mul a b
theorem iI_neg (a : Int) : iI (-a) = -iI a := Int32.ofInt_neg a
theorem iL_add (a b : Int) : iL (a + b) = iL a + iL b := Int64.ofInt_add a b
theorem iL_sub (a b : Int) : iL (a - b) = iL a - iL b := Int64.ofInt_sub a b
theorem iL_mul (a b : Int) : iL (a * b) = iL a * iL b := Int64.ofInt_mul a b
theorem iI_toInt {a : Int} (h : -2147483648 ≤ a ∧ a ≤ 2147483647) : (iI a).toInt = a := Int32.toInt_ofInt_of_le h.1 (by omega)
theorem iL_toInt {a : Int} (h : -9223372036854775808 ≤ a ∧ a ≤ 9223372036854775807) : (iL a).toInt = a := Int64.toInt_ofInt_of_le h.1 (by omega)
theorem iI_of (x : Int32) : iI x.toInt = x := Int32.ofInt_toInt x
theorem iL_of (x : Int64) : iL x.toInt = x := Int64.ofInt_toInt x
theorem iI_lt {a b : Int} (h : -2147483648 ≤ a ∧ a ≤ 2147483647 ∧ -2147483648 ≤ b ∧ b ≤ 2147483647) : iI a < iI b ↔ a < b := by
  rw [Int32.lt_iff_toInt_lt, iI_toInt ⟨h.1, h.2.1⟩, iI_toInt h.2.2]
theorem iI_le {a b : Int} (h : -2147483648 ≤ a ∧ a ≤ 2147483647 ∧ -2147483648 ≤ b ∧ b ≤ 2147483647) : iI a ≤ iI b ↔ a ≤ b := by
  rw [Int32.le_iff_toInt_le, iI_toInt ⟨h.1, h.2.1⟩, iI_toInt h.2.2]
theorem iI_eq {a b : Int} (h : -2147483648 ≤ a ∧ a ≤ 2147483647 ∧ -2147483648 ≤ b ∧ b ≤ 2147483647) : iI a = iI b ↔ a = b := by
  rw [← Int32.toInt_inj, iI_toInt ⟨h.1, h.2.1⟩, iI_toInt h.2.2]
theorem iI_ne {a b : Int} (h : -2147483648 ≤ a ∧ a ≤ 2147483647 ∧ -2147483648 ≤ b ∧ b ≤ 2147483647) : iI a ≠ iI b ↔ a ≠ b := not_congr (iI_eq h)
theorem iI_zero : (0 : Int32) = iI 0 := rfl
theorem iL_zero : (0 : Int64) = iL 0 := rfl
theorem iI_lt0 {a : Int} (h : -2147483648 ≤ a ∧ a ≤ 2147483647) : iI a < 0 ↔ a < 0 := by rw [iI_zero]; exact iI_lt ⟨h.1, h.2, by omega, by omega⟩
theorem iI_ge0 {a : Int} (h : -2147483648 ≤ a ∧ a ≤ 2147483647) : 0 ≤ iI a ↔ 0 ≤ a := by rw [iI_zero]; exact iI_le ⟨by omega, by omega, h.1, h.2⟩
theorem iI_gt0 {a : Int} (h : -2147483648 ≤ a ∧ a ≤ 2147483647) : 0 < iI a ↔ 0 < a := by rw [iI_zero]; exact iI_lt ⟨by omega, by omega, h.1, h.2⟩
theorem iI_le0 {a : Int} (h : -2147483648 ≤ a ∧ a ≤ 2147483647) : iI a ≤ 0 ↔ a ≤ 0 := by rw [iI_zero]; exact iI_le ⟨h.1, h.2, by omega, by omega⟩
theorem iI_eq0 {a : Int} (h : -2147483648 ≤ a ∧ a ≤ 2147483647) : iI a = 0 ↔ a = 0 := by rw [iI_zero]; exact iI_eq ⟨h.1, h.2, by omega, by omega⟩
theorem iI_ne0 {a : Int} (h : -2147483648 ≤ a ∧ a ≤ 2147483647) : iI a ≠ 0 ↔ a ≠ 0 := not_congr (iI_eq0 h)
theorem iL_ne0 {b : Int} (h : 0 < b ∧ b ≤ 9223372036854775807) : ¬ iL b = 0 := by
  rw [iL_zero, ← Int64.toInt_inj, iL_toInt ⟨by omega, h.2⟩, iL_toInt ⟨by omega, by omega⟩]; omega
theorem tmod_bd {a b : Int} : (0 ≤ a → 0 ≤ a.tmod b ∧ a.tmod b ≤ a) ∧ (a < 0 → a ≤ a.tmod b ∧ a.tmod b ≤ 0) := by
  have key : ∀ c : Int, 0 ≤ c → 0 ≤ c.tmod b ∧ c.tmod b ≤ c := by
    intro c hc
    have h1 : 0 ≤ c.tmod b := Int.tmod_nonneg b hc
    have h2 : (c.tmod b).natAbs ≤ c.natAbs := by rw [Int.natAbs_tmod]; exact Nat.mod_le _ _
    omega
  refine ⟨key a, fun h => ?_⟩
  have h1 := key (-a) (by omega)
  rw [Int.neg_tmod] at h1
  omega
theorem tdiv_bd {a b : Int} (hb : 0 < b) : (0 ≤ a → 0 ≤ a.tdiv b ∧ a.tdiv b ≤ a) ∧ (a < 0 → a ≤ a.tdiv b ∧ a.tdiv b ≤ 0) := by
  have key : ∀ c : Int, 0 ≤ c → 0 ≤ c.tdiv b ∧ c.tdiv b ≤ c := by
    intro c hc
    have h1 : 0 ≤ c.tdiv b := Int.tdiv_nonneg hc (by omega)
    have h2 : (c.tdiv b).natAbs ≤ c.natAbs := by rw [Int.natAbs_tdiv]; exact Nat.div_le_self _ _
    omega
  refine ⟨key a, fun h => ?_⟩
  have h1 := key (-a) (by omega)
  rw [Int.neg_tdiv] at h1
  omega
theorem iI_tmod {a b : Int} (h : -2147483648 ≤ a ∧ a ≤ 2147483647 ∧ -2147483648 ≤ b ∧ b ≤ 2147483647) : iI (a.tmod b) = iI a % iI b := by
  rw [← Int32.toInt_inj, Int32.toInt_mod, iI_toInt ⟨h.1, h.2.1⟩, iI_toInt h.2.2, iI_toInt]
  have h2 := tmod_bd (a := a) (b := b)
  omega
theorem iI_tdiv {a b : Int} (h : -2147483648 ≤ a ∧ a ≤ 2147483647 ∧ 0 < b ∧ b ≤ 2147483647) : iI (a.tdiv b) = iI a / iI b := by
  have hb : iI b ≠ -1 := by
    intro z
    have := congrArg Int32.toInt z
    rw [iI_toInt ⟨by omega, h.2.2.2⟩] at this
    have h1 : (-1 : Int32).toInt = -1 := by decide
    omega
  rw [← Int32.toInt_inj, Int32.toInt_div_of_ne_right _ _ hb, iI_toInt ⟨h.1, h.2.1⟩, iI_toInt ⟨by omega, h.2.2.2⟩, iI_toInt]
  have h2 := tdiv_bd (a := a) (b := b) (by omega)
  omega
theorem iL_tmod {a b : Int} (h : -9223372036854775808 ≤ a ∧ a ≤ 9223372036854775807 ∧ 0 < b ∧ b ≤ 9223372036854775807) : iL (a.tmod b) = iL a % iL b := by
  rw [← Int64.toInt_inj, Int64.toInt_mod, iL_toInt ⟨h.1, h.2.1⟩, iL_toInt ⟨by omega, h.2.2.2⟩, iL_toInt]
  have h2 := tmod_bd (a := a) (b := b)
  omega
theorem iL_tdiv {a b : Int} (h : -9223372036854775808 ≤ a ∧ a ≤ 9223372036854775807 ∧ 0 < b ∧ b ≤ 9223372036854775807) : iL (a.tdiv b) = iL a / iL b := by
  have hb : iL b ≠ -1 := by
    intro z
    have := congrArg Int64.toInt z
    rw [iL_toInt ⟨by omega, h.2.2.2⟩] at this
    have h1 : (-1 : Int64).toInt = -1 := by decide
    omega
  rw [← Int64.toInt_inj, Int64.toInt_div_of_ne_right _ _ hb, iL_toInt ⟨h.1, h.2.1⟩, iL_toInt ⟨by omega, h.2.2.2⟩, iL_toInt]
  have h2 := tdiv_bd (a := a) (b := b) (by omega)
  omega
theorem iI_rem {a b : Int} (h : -2147483648 ≤ a ∧ a ≤ 2147483647 ∧ 0 < b ∧ b ≤ 2147483647) : iI (a.tmod b) = iI a - iI a / iI b * iI b := by
  rw [Int.tmod_def, iI_sub, ← iI_tdiv h, ← iI_mul, Int.mul_comm]
theorem iL_rem {a b : Int} (h : -9223372036854775808 ≤ a ∧ a ≤ 9223372036854775807 ∧ 0 < b ∧ b ≤ 9223372036854775807) : iL (a.tmod b) = iL a - iL a / iL b * iL b := by
  rw [Int.tmod_def, iL_sub, ← iL_tdiv h, ← iL_mul, Int.mul_comm]
theorem iI_toL {a : Int} (h : -2147483648 ≤ a ∧ a ≤ 2147483647) : (iI a).toInt64 = iL a := by
  rw [← Int64.toInt_inj, Int32.toInt_toInt64, iI_toInt h, iL_toInt ⟨by omega, by omega⟩]
theorem iL_toI {a : Int} : (iL a).toInt32 = iI a := Int64.toInt32_ofInt
theorem iI_clamp {a : Int} (h : -2147483648 ≤ a ∧ a ≤ 2147483647) : (iI a).toNatClampNeg = a.toNat := by
  show (iI a).toInt.toNat = _
  rw [iI_toInt h]
-- the abstract heap
abbrev GC : Type := Launch × va_G × Nat × (Nat → ClassId) × ((Nat → Nat) × (Nat → Nat)) × Heap
def gL (g : GC) : Launch := g.1
def gD (g : GC) : va_G := g.2.1
def gB (g : GC) : Nat := g.2.2.1
def gY (g : GC) : Nat → ClassId := g.2.2.2.1
def gSK (g : GC) : Nat → Nat := g.2.2.2.2.1.1
def gSV (g : GC) : Nat → Nat := g.2.2.2.2.1.2
def gH0 (g : GC) : Heap := g.2.2.2.2.2
abbrev GA : Type := Nat → Option va_E
abbrev GM : Type := MethodName × ByteArray × Nat × Option FieldType
def gr (g : GC) (k : Nat) : Value := .ref (gB g + k)
def gup (h : GA) (a : Nat) (e : va_E) : GA := fun k => if k = a then some e else h k
def iup (xs : Int → Int) (i v : Int) : Int → Int := fun j => if j = i then v else xs j
def gtys (g : GC) : List (ClassId × FieldType) := [(gY g 0, .byte), (gY g 1, .int), (gY g 2, .long), (gY g 3, .boolean), (gY g 4, .object RX4), (gY g 5, .object RX5), (gY g 6, .object RX7), (gY g 7, .object RX8)]
def gAi (xs : Int → Int) : Nat → Int32 := fun j => iI (xs (j : Int))
def gAl (xs : Int → Int) : Nat → Int64 := fun j => iL (xs (j : Int))
def gAr (g : GC) (xs : Int → Option Nat) : Nat → Option Nat := fun j => (xs (j : Int)).map (fun k => gB g + k)
/-- arrays of bytes (0), ints (1), booleans (3); of longs; of references of type place t -/
def gI (g : GC) (t n : Nat) (xs : Int → Int) : va_E := .inl (gY g t, n, .inl (gAi xs))
def gJ (g : GC) (n : Nat) (xs : Int → Int) : va_E := .inl (gY g 2, n, .inr (.inl (gAl xs)))
def gR (g : GC) (t n : Nat) (xs : Int → Option Nat) : va_E := .inl (gY g t, n, .inr (.inr (.inr (.inr (gAr g xs)))))
def gO (ci : Nat) (fs : List Value) : va_E := .inr (ci, fs)
def gStrs : List (String × Nat × String) := [(RX9, 87, "plain n * m ; split size * cut + 9 ; turn 80 ;"), (RX6, 75, "plain"), (RX6, 81, "split"), (RX6, 83, "turn"), (RX6, 85, "or"), (RX6, 87, "and"), (RX6, 89, "not"), (RX6, 91, "n"), (RX6, 95, "m"), (RX6, 97, "size"), (RX6, 98, "cut"), (RX6, 100, "kind"), (RX6, 102, "same")]
def gStrLen : List Nat := [46, 5, 5, 4, 2, 3, 3, 1, 1, 4, 3, 4, 4]
def gStrByt : List (List Int32) := [[112, 108, 97, 105, 110, 32, 110, 32, 42, 32, 109, 32, 59, 32, 115, 112, 108, 105, 116, 32, 115, 105, 122, 101, 32, 42, 32, 99, 117, 116, 32, 43, 32, 57, 32, 59, 32, 116, 117, 114, 110, 32, 56, 48, 32, 59], [112, 108, 97, 105, 110], [115, 112, 108, 105, 116], [116, 117, 114, 110], [111, 114], [97, 110, 100], [110, 111, 116], [110], [109], [115, 105, 122, 101], [99, 117, 116], [107, 105, 110, 100], [115, 97, 109, 101]]
def gNest : List Cond := [.methodLinkNest RX9 30 yX6_init RX9, .methodLinkNest RX9 85 yX5_init RX9, .methodLinkNest RX9 86 yX7_init RX9, .methodLinkNest RX1 11 yX7_init RX9, .methodLinkNest RX1 91 yX9_isWithin RX9, .methodLinkNest RX2 51 yX9_isWithin RX9, .methodLinkNest RX5 28 yX9_isWithin RX9, .methodLinkNest RX7 35 yX9_isWithin RX9, .methodLinkNest RX8 47 yX9_isWithin RX9]
def gOver : List String := [RX4, RX5, RX7, RX8]
def Rp (g : GC) (h : GA) (n : Nat) (H : Heap) : Prop := H.size = gB g + n ∧ (∀ k e, h k = some e → va_at (gD g) vwCl (gB g + k, e) H) ∧ ∀ q, q < gB g → H[q]? = (gH0 g)[q]?
def GStr (g : GC) (U : State) : Prop := (∀ i own k tx, gStrs[i]? = some (own, k, tx) → vk_R own k tx (gSK g i) U) ∧ vk_S 13 gStrLen gStrByt (gSK g) (gSV g) (fun q => gB g ≤ q) U (gH0 g) ∧ va_Z "java/lang/String" "COMPACT_STRINGS" "Z" (.int 1) (fun q => gB g ≤ q) U (gH0 g) ∧ va_Zq "jdk/internal/util/Preconditions" "SIOOBE_FORMATTER" "Ljava/util/function/BiFunction;" (fun q => gB g ≤ q) U (gH0 g)
def GK (g : GC) (U : State) : Prop := va_K (gD g) vwCl (gtys g) U ∧ (∀ w ∈ gNest, va_Nw w U) ∧ (∀ C ∈ gOver, va_AO C U) ∧ GStr g U ∧ gB g ≤ U.heap.size ∧ gB g = (gH0 g).size
theorem gNest_ok : ∀ w ∈ gNest, w.onTables = true ∧ ∃ (a : String) (i : Nat) (x : MethodName) (h : String), w = .methodLinkNest a i x h := by
  intro w hw
  simp only [gNest, List.mem_cons, List.not_mem_nil, or_false] at hw
  rcases hw with rfl | rfl | rfl | rfl | rfl | rfl | rfl | rfl | rfl <;> exact ⟨rfl, _, _, _, _, rfl⟩
theorem GStr.warm {g : GC} {s U : State} (hW : s.WarmedH U.vm) (h : GStr g s) : GStr g U :=
  ⟨fun i own k tx q => (h.1 i own k tx q).warm hW, h.2.1.moved hW.alike, h.2.2.1.moved hW.alike, h.2.2.2.moved hW.alike⟩
theorem GStr.same {g : GC} {s U : State} (hv : s.vm = U.vm) (h : GStr g s) : GStr g U := GStr.warm (hv ▸ State.WarmedH.refl s) h
theorem GK.warm {g : GC} {s U : State} (hW : s.WarmedH U.vm) (hz : gB g ≤ U.heap.size) (h : GK g s) : GK g U := by
  refine ⟨va_K.moved hW.alike h.1, fun w hw => ?_, fun C hC => (h.2.2.1 C hC).moved hW.alike, h.2.2.2.1.warm hW, hz, h.2.2.2.2.2⟩
  have h1 := h.2.1 w hw
  obtain ⟨-, a, i, x, hh, rfl⟩ := gNest_ok w hw
  exact va_Nw.warmM hW h1
theorem GK.calling {g : GC} {U : State} {f : JFrame} {mk : MethodId} {a : Array Value} (h : GK g U) : GK g (U.calling f mk a) :=
  GK.warm (s := U) (U := U.calling f mk a) (State.WarmedH.refl U) h.2.2.2.2.1 h
def grm (d mc ms : Nat) : Room := { frames := d, cells := mc, slots := ms, locals := 60 * d }
def gws (y : GM) : List Cond := .code y.1 y.2.1 y.2.2.1 y.2.2.2 :: W0
def gQ (g : GC) (Q : Option Value → GA → Nat → Prop) : Array Value → State → Outcome → State → Prop := fun _ _ o t => ∃ v h n, o = .returned v ∧ Rp g h n t.heap ∧ Q v h n
def GX (g : GC) (y : GM) (p : Program) (s : State) (m : MethodId) (args : Array Value) (meth : Method) (c : Code) : Prop :=
  p.tables.exec = Jvm.exec ∧ c.code = y.2.1 ∧ c.maxLocals = y.2.2.1 ∧ meth.sig.returnType = y.2.2.2 ∧ meth.locks = false ∧ (∀ w ∈ W0, w.before args s = true) ∧ s.vm.findClass y.1.cls = some m.cls ∧ meth.name = y.1.name ∧ GK g s
def G (g : GC) (y : GM) (d mc ms pc : Nat) (ls : List (Nat × Value)) (st : List Value) (h : GA) (n k u : Nat) (Q : Option Value → GA → Nat → Prop) : Prop :=
  ∀ (p : Program) (e : Env) (s : State) (m : MethodId) (args : Array Value) (below : List Frame) (meth : Method) (c : Code) (H : Heap) (locs : List Loc) (la : Array Slot),
    GX g y p s m args meth c → Rp g h n H → (∀ q ∈ locs, gB g ≤ q.base) → lv_has la y.2.2.1 ls →
    W p (gL g) e (grm d mc ms) s m args below meth c H locs k u (MQ below (gQ g Q) args s mc ms (fun q => gB g ≤ q)) (F0 m pc la st)
/-- a call of y with these arguments, over this heap, returns with Q -/
def GCall (g : GC) (y : GM) (d mc ms : Nat) (args : List Value) (h : GA) (n : Nat) (Q : Option Value → GA → Nat → Prop) : Prop :=
  Met (gL g) y.1 (gws y) (grm d mc ms) (va_Pc args (fun U => Rp g h n U.heap ∧ GK g U)) (gQ g Q) mc ms (fun q => gB g ≤ q)
theorem GCall.of {g : GC} {y : GM} {d mc ms : Nat} {args : List Value} {h : GA} {n : Nat} {Q : Option Value → GA → Nat → Prop} (hy : plainName y.1.cls = true) (ha : (lg_sl args).length ≤ y.2.2.1) {ls : List (Nat × Value)} (hls : lv_args 0 args = ls)
    (kk : G g y d mc ms 0 ls [] h n 0 0 Q) : GCall g y d mc ms args h n Q := by
  refine Met.ofW (cc := y.2.1) (maxL := y.2.2.1) (ret := y.2.2.2) (ws' := W0) hy rfl ?_
  intro p e s m args' below meth c s₁ B hml hv
  obtain ⟨rfl, hR, hK⟩ := hv
  have hts := atoms_spec (ws := gws y) B.pre
  have hl := lv_entry args (n := y.2.2.1) ha
  rw [lg_entry_eq]
  rw [hls] at hl
  exact kk p e s m _ below meth c s.heap [] _ ⟨B.exec, B.bytes, hml, B.returns, B.notSynchronized, fun w hw => hts w (List.mem_cons_of_mem _ hw), findClass_of_methodNamed B.named, (name_of_methodNamed B.named B.method).1, hK⟩ hR (fun q hq => absurd hq List.not_mem_nil) hl
-- the locals
def lk : List (Nat × Value) → Nat → Option Value
  | [], _ => none
  | (i, v) :: l, j => if i = j then some v else lk l j
theorem lk_ix : ∀ {ls : List (Nat × Value)} {j : Nat} {v : Value}, lk ls j = some v → ∃ i : Nat, ls[i]? = some (j, v)
  | [], _, _, h => by cases h
  | (i, w) :: l, j, v, h => by
    unfold lk at h
    by_cases hj : i = j
    · rw [if_pos hj] at h
      cases h
      subst hj
      exact ⟨0, rfl⟩
    · rw [if_neg hj] at h
      obtain ⟨q, hq⟩ := lk_ix h
      exact ⟨q + 1, hq⟩
theorem lk_at {la : Array Slot} {nL : Nat} {ls : List (Nat × Value)} (h : lv_has la nL ls) {j : Nat} {v : Value} (hv : lk ls j = some v) : la[j]? = some (.val v) := by
  obtain ⟨i, hi⟩ := lk_ix hv
  exact lv_at h i hi
def lput (ls : List (Nat × Value)) (i : Nat) (v : Value) : List (Nat × Value) := (i, v) :: ls.filter (fun q => !(q.1 == i) && !(q.1 + 1 == i && q.2.category == 2))
def lput2 (ls : List (Nat × Value)) (i : Nat) (v : Value) : List (Nat × Value) := (i, v) :: ls.filter (fun q => !(q.1 == i) && (!(q.1 == i + 1) && !(q.1 + 1 == i && q.2.category == 2)))
/-- every listed value is there -/
def lsub (ls : List (Nat × Value)) : List (Nat × Value) → Prop
  | [] => True
  | (i, v) :: l => lk ls i = some v ∧ lsub ls l
theorem lsub_has {la : Array Slot} {nL : Nat} {ls : List (Nat × Value)} (h : lv_has la nL ls) : ∀ {l : List (Nat × Value)}, lsub ls l → lv_has la nL l
  | [], _ => ⟨h.1, h.2.1, fun q hq => absurd hq List.not_mem_nil⟩
  | (i, v) :: l, hs => by
    refine ⟨h.1, h.2.1, fun q hq => ?_⟩
    rcases List.mem_cons.mp hq with rfl | hq
    · exact lk_at h hs.1
    · exact (lsub_has h hs.2).2.2 q hq
section GROWS
variable {g : GC} {y : GM} {d mc ms pc : Nat} {ls : List (Nat × Value)} {st : List Value} {h : GA} {n k u : Nat} {Q : Option Value → GA → Nat → Prop}
theorem G_ls {ls' : List (Nat × Value)} (hs : lsub ls ls') (kk : G g y d mc ms pc ls' st h n k u Q) : G g y d mc ms pc ls st h n k u Q :=
  fun p e s m args below meth c H locs la X hR hL hl => kk p e s m args below meth c H locs la X hR hL (lsub_has hl hs)
theorem G_post {Q' : Option Value → GA → Nat → Prop} (hq : ∀ v h n, Q' v h n → Q v h n) (kk : G g y d mc ms pc ls st h n k u Q') : G g y d mc ms pc ls st h n k u Q := by
  intro p e s m args below meth c H locs la X hR hL hl T hT XX
  obtain ⟨t, a1, o, b1, b2, ⟨v, h', n', e1, e2, e3⟩, b4⟩ := kk p e s m args below meth c H locs la X hR hL hl T hT XX
  exact ⟨t, a1, o, b1, b2, ⟨v, h', n', e1, e2, hq v h' n' e3⟩, b4⟩

theorem G_iconst {z : Int} (hd : decode y.2.1 pc = .ok (.iconst z, 1)) 
    (kk : G g y d mc ms (pc + 1) ls (.int (iI z) :: st) h n k u Q) : G g y d mc ms pc ls (st) h n k u Q := by
  intro p e s m args below meth c H locs la X hR hL hl
  exact lv_iconst X.1 X.2.1 hd rfl (kk p e s m args below meth c H locs la X hR hL hl)
theorem G_bipush {z : Int} (hd : decode y.2.1 pc = .ok (.bipush z, 2)) (hz : (Int8.ofInt z).toInt32 = iI z)
    (kk : G g y d mc ms (pc + 2) ls (.int (iI z) :: st) h n k u Q) : G g y d mc ms pc ls (st) h n k u Q := by
  intro p e s m args below meth c H locs la X hR hL hl
  exact lv_bipush X.1 X.2.1 hd hz (kk p e s m args below meth c H locs la X hR hL hl)
theorem G_sipush {z : Int} (hd : decode y.2.1 pc = .ok (.sipush z, 3)) (hz : (Int16.ofInt z).toInt32 = iI z)
    (kk : G g y d mc ms (pc + 3) ls (.int (iI z) :: st) h n k u Q) : G g y d mc ms pc ls (st) h n k u Q := by
  intro p e s m args below meth c H locs la X hR hL hl
  exact lv_sipush X.1 X.2.1 hd hz (kk p e s m args below meth c H locs la X hR hL hl)
theorem G_lconst {z : Fin 2} {v : Int} (hd : decode y.2.1 pc = .ok (.lconst z, 1)) (hz : Int64.ofNat (z : Nat) = iL v)
    (kk : G g y d mc ms (pc + 1) ls (.long (iL v) :: st) h n k u Q) : G g y d mc ms pc ls (st) h n k u Q := by
  intro p e s m args below meth c H locs la X hR hL hl
  exact lv_lconst X.1 X.2.1 hd hz (kk p e s m args below meth c H locs la X hR hL hl)
theorem G_ldc {ix : Nat} {v : Int32} {z : Int} (hd : decode y.2.1 pc = .ok (.ldc ix, 2)) (hc : Jvm.Cond.constant y.1.cls ix v ∈ W0) (hz : v = iI z)
    (kk : G g y d mc ms (pc + 2) ls (.int (iI z) :: st) h n k u Q) : G g y d mc ms pc ls (st) h n k u Q := by
  intro p e s m args below meth c H locs la X hR hL hl
  subst hz; exact lv_ldc X.1 X.2.1 X.2.2.2.2.2.2.1 (X.2.2.2.2.2.1 _ hc) hd (kk p e s m args below meth c H locs la X hR hL hl)
theorem G_ldcw {ix : Nat} {v : Int32} {z : Int} (hd : decode y.2.1 pc = .ok (.ldc_w ix, 3)) (hc : Jvm.Cond.constant y.1.cls ix v ∈ W0) (hz : v = iI z)
    (kk : G g y d mc ms (pc + 3) ls (.int (iI z) :: st) h n k u Q) : G g y d mc ms pc ls (st) h n k u Q := by
  intro p e s m args below meth c H locs la X hR hL hl
  subst hz; exact lv_ldcw X.1 X.2.1 X.2.2.2.2.2.2.1 (X.2.2.2.2.2.1 _ hc) hd (kk p e s m args below meth c H locs la X hR hL hl)
theorem G_ldc2 {ix : Nat} {v : Int64} {z : Int} (hd : decode y.2.1 pc = .ok (.ldc2_w ix, 3)) (hc : Jvm.Cond.constantLong y.1.cls ix v ∈ W0) (hz : v = iL z)
    (kk : G g y d mc ms (pc + 3) ls (.long (iL z) :: st) h n k u Q) : G g y d mc ms pc ls (st) h n k u Q := by
  intro p e s m args below meth c H locs la X hR hL hl
  subst hz; exact lv_ldc2 X.1 X.2.1 X.2.2.2.2.2.2.1 (X.2.2.2.2.2.1 _ hc) hd (kk p e s m args below meth c H locs la X hR hL hl)
theorem G_iload_n {j : Fin 4} {v : Int32} (hd : decode y.2.1 pc = .ok (.iload_n j, 1)) (hv : lk ls (j : Nat) = some (.int v))
    (kk : G g y d mc ms (pc + 1) ls (.int v :: st) h n k u Q) : G g y d mc ms pc ls (st) h n k u Q := by
  intro p e s m args below meth c H locs la X hR hL hl
  exact lv_iload_n X.1 X.2.1 hd rfl (lk_at hl hv) (kk p e s m args below meth c H locs la X hR hL hl)
theorem G_iload {j : Nat} {v : Int32} (hd : decode y.2.1 pc = .ok (.iload j, 2)) (hv : lk ls j = some (.int v))
    (kk : G g y d mc ms (pc + 2) ls (.int v :: st) h n k u Q) : G g y d mc ms pc ls (st) h n k u Q := by
  intro p e s m args below meth c H locs la X hR hL hl
  exact lv_iload X.1 X.2.1 hd (lk_at hl hv) (kk p e s m args below meth c H locs la X hR hL hl)
theorem G_lload_n {j : Fin 4} {v : Int64} (hd : decode y.2.1 pc = .ok (.lload_n j, 1)) (hv : lk ls (j : Nat) = some (.long v))
    (kk : G g y d mc ms (pc + 1) ls (.long v :: st) h n k u Q) : G g y d mc ms pc ls (st) h n k u Q := by
  intro p e s m args below meth c H locs la X hR hL hl
  exact lv_lload_n X.1 X.2.1 hd rfl (lk_at hl hv) (kk p e s m args below meth c H locs la X hR hL hl)
theorem G_lload {j : Nat} {v : Int64} (hd : decode y.2.1 pc = .ok (.lload j, 2)) (hv : lk ls j = some (.long v))
    (kk : G g y d mc ms (pc + 2) ls (.long v :: st) h n k u Q) : G g y d mc ms pc ls (st) h n k u Q := by
  intro p e s m args below meth c H locs la X hR hL hl
  exact lv_lload X.1 X.2.1 hd (lk_at hl hv) (kk p e s m args below meth c H locs la X hR hL hl)
theorem G_aload_n {j : Fin 4} {v : Nat} (hd : decode y.2.1 pc = .ok (.aload_n j, 1)) (hv : lk ls (j : Nat) = some (.ref v))
    (kk : G g y d mc ms (pc + 1) ls (.ref v :: st) h n k u Q) : G g y d mc ms pc ls (st) h n k u Q := by
  intro p e s m args below meth c H locs la X hR hL hl
  exact lv_aload_n X.1 X.2.1 hd rfl (lk_at hl hv) (kk p e s m args below meth c H locs la X hR hL hl)
theorem G_aload {j : Nat} {v : Nat} (hd : decode y.2.1 pc = .ok (.aload j, 2)) (hv : lk ls j = some (.ref v))
    (kk : G g y d mc ms (pc + 2) ls (.ref v :: st) h n k u Q) : G g y d mc ms pc ls (st) h n k u Q := by
  intro p e s m args below meth c H locs la X hR hL hl
  exact lv_aload X.1 X.2.1 hd (lk_at hl hv) (kk p e s m args below meth c H locs la X hR hL hl)
theorem G_istore_n {j : Fin 4} {v : Int32} {ls' : List (Nat × Value)} (hd : decode y.2.1 pc = .ok (.istore_n j, 1)) (hn : (j : Nat) < y.2.2.1) (he : lput ls (j : Nat) (.int v) = ls')
    (kk : G g y d mc ms (pc + 1) ls' st h n k u Q) : G g y d mc ms pc ls (.int v :: st) h n k u Q := by
  intro p e s m args below meth c H locs la X hR hL hl
  exact lv_istore_n X.1 X.2.1 hd rfl hl hn he (fun la hl => kk p e s m args below meth c H locs la X hR hL hl)
theorem G_istore {j : Nat} {v : Int32} {ls' : List (Nat × Value)} (hd : decode y.2.1 pc = .ok (.istore j, 2)) (hn : j < y.2.2.1) (he : lput ls j (.int v) = ls')
    (kk : G g y d mc ms (pc + 2) ls' st h n k u Q) : G g y d mc ms pc ls (.int v :: st) h n k u Q := by
  intro p e s m args below meth c H locs la X hR hL hl
  exact lv_istore X.1 X.2.1 hd hl hn he (fun la hl => kk p e s m args below meth c H locs la X hR hL hl)
theorem G_astore_n {j : Fin 4} {v : Nat} {ls' : List (Nat × Value)} (hd : decode y.2.1 pc = .ok (.astore_n j, 1)) (hn : (j : Nat) < y.2.2.1) (he : lput ls (j : Nat) (.ref v) = ls')
    (kk : G g y d mc ms (pc + 1) ls' st h n k u Q) : G g y d mc ms pc ls (.ref v :: st) h n k u Q := by
  intro p e s m args below meth c H locs la X hR hL hl
  exact lv_astore_n X.1 X.2.1 hd rfl hl hn he (fun la hl => kk p e s m args below meth c H locs la X hR hL hl)
theorem G_astore {j : Nat} {v : Nat} {ls' : List (Nat × Value)} (hd : decode y.2.1 pc = .ok (.astore j, 2)) (hn : j < y.2.2.1) (he : lput ls j (.ref v) = ls')
    (kk : G g y d mc ms (pc + 2) ls' st h n k u Q) : G g y d mc ms pc ls (.ref v :: st) h n k u Q := by
  intro p e s m args below meth c H locs la X hR hL hl
  exact lv_astore X.1 X.2.1 hd hl hn he (fun la hl => kk p e s m args below meth c H locs la X hR hL hl)
theorem G_lstore_n {j : Fin 4} {v : Int64} {ls' : List (Nat × Value)} (hd : decode y.2.1 pc = .ok (.lstore_n j, 1)) (hn : (j : Nat) + 1 < y.2.2.1) (he : lput2 ls (j : Nat) (.long v) = ls')
    (kk : G g y d mc ms (pc + 1) ls' st h n k u Q) : G g y d mc ms pc ls (.long v :: st) h n k u Q := by
  intro p e s m args below meth c H locs la X hR hL hl
  exact lv_lstore_n X.1 X.2.1 hd rfl hl hn he (fun la hl => kk p e s m args below meth c H locs la X hR hL hl)
theorem G_lstore {j : Nat} {v : Int64} {ls' : List (Nat × Value)} (hd : decode y.2.1 pc = .ok (.lstore j, 2)) (hn : j + 1 < y.2.2.1) (he : lput2 ls j (.long v) = ls')
    (kk : G g y d mc ms (pc + 2) ls' st h n k u Q) : G g y d mc ms pc ls (.long v :: st) h n k u Q := by
  intro p e s m args below meth c H locs la X hR hL hl
  exact lv_lstore X.1 X.2.1 hd hl hn he (fun la hl => kk p e s m args below meth c H locs la X hR hL hl)
theorem G_iinc {j : Nat} {z a : Int} {ls' : List (Nat × Value)} (hd : decode y.2.1 pc = .ok (.iinc j z, 3)) (hv : lk ls j = some (.int (iI a))) (hn : j < y.2.2.1) (he : lput ls j (.int (iI (a + z))) = ls')
    (kk : G g y d mc ms (pc + 3) ls' st h n k u Q) : G g y d mc ms pc ls st h n k u Q := by
  intro p e s m args below meth c H locs la X hR hL hl
  obtain ⟨i, hi⟩ := lk_ix hv
  exact lv_iinc X.1 X.2.1 hd hl hi (by rw [iI_add]; rfl) hn he (fun la hl => kk p e s m args below meth c H locs la X hR hL hl)
theorem G_iadd {a b : Int} (hd : decode y.2.1 pc = .ok (.iadd, 1)) 
    (kk : G g y d mc ms (pc + 1) ls (.int (iI (a + b)) :: st) h n k u Q) : G g y d mc ms pc ls (.int (iI b) :: .int (iI a) :: st) h n k u Q := by
  intro p e s m args below meth c H locs la X hR hL hl
  rw [iI_add] at kk; exact lv_iadd X.1 X.2.1 hd (kk p e s m args below meth c H locs la X hR hL hl)
theorem G_isub {a b : Int} (hd : decode y.2.1 pc = .ok (.isub, 1)) 
    (kk : G g y d mc ms (pc + 1) ls (.int (iI (a - b)) :: st) h n k u Q) : G g y d mc ms pc ls (.int (iI b) :: .int (iI a) :: st) h n k u Q := by
  intro p e s m args below meth c H locs la X hR hL hl
  rw [iI_sub] at kk; exact lv_isub X.1 X.2.1 hd (kk p e s m args below meth c H locs la X hR hL hl)
theorem G_imul {a b : Int} (hd : decode y.2.1 pc = .ok (.imul, 1)) 
    (kk : G g y d mc ms (pc + 1) ls (.int (iI (a * b)) :: st) h n k u Q) : G g y d mc ms pc ls (.int (iI b) :: .int (iI a) :: st) h n k u Q := by
  intro p e s m args below meth c H locs la X hR hL hl
  rw [iI_mul] at kk; exact lv_imul X.1 X.2.1 hd (kk p e s m args below meth c H locs la X hR hL hl)
theorem G_irem {a b : Int} (hd : decode y.2.1 pc = .ok (.irem, 1)) (hr : -2147483648 ≤ a ∧ a ≤ 2147483647 ∧ 0 < b ∧ b ≤ 2147483647)
    (kk : G g y d mc ms (pc + 1) ls (.int (iI (a.tmod b)) :: st) h n k u Q) : G g y d mc ms pc ls (.int (iI b) :: .int (iI a) :: st) h n k u Q := by
  intro p e s m args below meth c H locs la X hR hL hl
  rw [iI_rem hr] at kk; exact lv_irem X.1 X.2.1 hd ((iI_ne0 ⟨by omega, hr.2.2.2⟩).mpr (by omega)) (kk p e s m args below meth c H locs la X hR hL hl)
theorem G_iremP {a b : Int} (hd : decode y.2.1 pc = .ok (.irem, 1)) (hr : 0 ≤ a ∧ a ≤ 2147483647 ∧ 0 < b ∧ b ≤ 2147483647)
    (kk : G g y d mc ms (pc + 1) ls (.int (iI (a % b)) :: st) h n k u Q) : G g y d mc ms pc ls (.int (iI b) :: .int (iI a) :: st) h n k u Q := by
  intro p e s m args below meth c H locs la X hR hL hl
  rw [← Int.tmod_eq_emod_of_nonneg hr.1] at kk; exact G_irem hd ⟨by omega, by omega, by omega, by omega⟩ kk p e s m args below meth c H locs la X hR hL hl
theorem G_idiv {a b : Int} (hd : decode y.2.1 pc = .ok (.idiv, 1)) (hr : -2147483648 ≤ a ∧ a ≤ 2147483647 ∧ 0 < b ∧ b ≤ 2147483647)
    (kk : G g y d mc ms (pc + 1) ls (.int (iI (a.tdiv b)) :: st) h n k u Q) : G g y d mc ms pc ls (.int (iI b) :: .int (iI a) :: st) h n k u Q := by
  intro p e s m args below meth c H locs la X hR hL hl
  rw [iI_tdiv ⟨hr.1, hr.2.1, hr.2.2.1, hr.2.2.2⟩] at kk; exact lv_idiv X.1 X.2.1 hd ((iI_ne0 ⟨by omega, hr.2.2.2⟩).mpr (by omega)) (kk p e s m args below meth c H locs la X hR hL hl)
theorem G_idivP {a b : Int} (hd : decode y.2.1 pc = .ok (.idiv, 1)) (hr : 0 ≤ a ∧ a ≤ 2147483647 ∧ 0 < b ∧ b ≤ 2147483647)
    (kk : G g y d mc ms (pc + 1) ls (.int (iI (a / b)) :: st) h n k u Q) : G g y d mc ms pc ls (.int (iI b) :: .int (iI a) :: st) h n k u Q := by
  intro p e s m args below meth c H locs la X hR hL hl
  rw [← Int.tdiv_eq_ediv_of_nonneg hr.1] at kk; exact G_idiv hd ⟨by omega, by omega, by omega, by omega⟩ kk p e s m args below meth c H locs la X hR hL hl
theorem G_ineg {a : Int} (hd : decode y.2.1 pc = .ok (.ineg, 1))
    (kk : G g y d mc ms (pc + 1) ls (.int (iI (-a)) :: st) h n k u Q) : G g y d mc ms pc ls (.int (iI a) :: st) h n k u Q := by
  intro p e s m args below meth c H locs la X hR hL hl
  rw [iI_neg] at kk; exact lv_ineg X.1 X.2.1 hd (kk p e s m args below meth c H locs la X hR hL hl)
theorem G_ishl {a b v : Int32} (hd : decode y.2.1 pc = .ok (.ishl, 1)) (hv : a <<< (b &&& 31) = v)
    (kk : G g y d mc ms (pc + 1) ls (.int v :: st) h n k u Q) : G g y d mc ms pc ls (.int b :: .int a :: st) h n k u Q := by
  intro p e s m args below meth c H locs la X hR hL hl
  subst hv; exact lv_ishl X.1 X.2.1 hd (kk p e s m args below meth c H locs la X hR hL hl)
theorem G_ishr {a b v : Int32} (hd : decode y.2.1 pc = .ok (.ishr, 1)) (hv : a >>> (b &&& 31) = v)
    (kk : G g y d mc ms (pc + 1) ls (.int v :: st) h n k u Q) : G g y d mc ms pc ls (.int b :: .int a :: st) h n k u Q := by
  intro p e s m args below meth c H locs la X hR hL hl
  subst hv; exact lv_ishr X.1 X.2.1 hd (kk p e s m args below meth c H locs la X hR hL hl)
theorem G_iand {a b v : Int32} (hd : decode y.2.1 pc = .ok (.iand, 1)) (hv : a &&& b = v)
    (kk : G g y d mc ms (pc + 1) ls (.int v :: st) h n k u Q) : G g y d mc ms pc ls (.int b :: .int a :: st) h n k u Q := by
  intro p e s m args below meth c H locs la X hR hL hl
  subst hv; exact lv_iand X.1 X.2.1 hd (kk p e s m args below meth c H locs la X hR hL hl)
theorem G_lshl {a v : Int64} {b : Int32} (hd : decode y.2.1 pc = .ok (.lshl, 1)) (hv : a <<< (b.toInt64 &&& 63) = v)
    (kk : G g y d mc ms (pc + 1) ls (.long v :: st) h n k u Q) : G g y d mc ms pc ls (.int b :: .long a :: st) h n k u Q := by
  intro p e s m args below meth c H locs la X hR hL hl
  exact lv_lshl X.1 X.2.1 hd hv (kk p e s m args below meth c H locs la X hR hL hl)
theorem G_lshr {a v : Int64} {b : Int32} (hd : decode y.2.1 pc = .ok (.lshr, 1)) (hv : a >>> (b.toInt64 &&& 63) = v)
    (kk : G g y d mc ms (pc + 1) ls (.long v :: st) h n k u Q) : G g y d mc ms pc ls (.int b :: .long a :: st) h n k u Q := by
  intro p e s m args below meth c H locs la X hR hL hl
  exact lv_lshr X.1 X.2.1 hd hv (kk p e s m args below meth c H locs la X hR hL hl)
theorem G_land {a b v : Int64} (hd : decode y.2.1 pc = .ok (.land, 1)) (hv : a &&& b = v)
    (kk : G g y d mc ms (pc + 1) ls (.long v :: st) h n k u Q) : G g y d mc ms pc ls (.long b :: .long a :: st) h n k u Q := by
  intro p e s m args below meth c H locs la X hR hL hl
  subst hv; exact lv_land X.1 X.2.1 hd (kk p e s m args below meth c H locs la X hR hL hl)
theorem G_lor {a b v : Int64} (hd : decode y.2.1 pc = .ok (.lor, 1)) (hv : a ||| b = v)
    (kk : G g y d mc ms (pc + 1) ls (.long v :: st) h n k u Q) : G g y d mc ms pc ls (.long b :: .long a :: st) h n k u Q := by
  intro p e s m args below meth c H locs la X hR hL hl
  subst hv; exact lv_lor X.1 X.2.1 hd (kk p e s m args below meth c H locs la X hR hL hl)
theorem G_ladd {a b : Int} (hd : decode y.2.1 pc = .ok (.ladd, 1)) 
    (kk : G g y d mc ms (pc + 1) ls (.long (iL (a + b)) :: st) h n k u Q) : G g y d mc ms pc ls (.long (iL b) :: .long (iL a) :: st) h n k u Q := by
  intro p e s m args below meth c H locs la X hR hL hl
  rw [iL_add] at kk; exact lv_ladd X.1 X.2.1 hd (kk p e s m args below meth c H locs la X hR hL hl)
theorem G_lsub {a b : Int} (hd : decode y.2.1 pc = .ok (.lsub, 1)) 
    (kk : G g y d mc ms (pc + 1) ls (.long (iL (a - b)) :: st) h n k u Q) : G g y d mc ms pc ls (.long (iL b) :: .long (iL a) :: st) h n k u Q := by
  intro p e s m args below meth c H locs la X hR hL hl
  rw [iL_sub] at kk; exact lv_lsub X.1 X.2.1 hd (kk p e s m args below meth c H locs la X hR hL hl)
theorem G_lmul {a b : Int} (hd : decode y.2.1 pc = .ok (.lmul, 1)) 
    (kk : G g y d mc ms (pc + 1) ls (.long (iL (a * b)) :: st) h n k u Q) : G g y d mc ms pc ls (.long (iL b) :: .long (iL a) :: st) h n k u Q := by
  intro p e s m args below meth c H locs la X hR hL hl
  rw [iL_mul] at kk; exact lv_lmul X.1 X.2.1 hd (kk p e s m args below meth c H locs la X hR hL hl)
theorem G_lrem {a b : Int} (hd : decode y.2.1 pc = .ok (.lrem, 1)) (hr : -9223372036854775808 ≤ a ∧ a ≤ 9223372036854775807 ∧ 0 < b ∧ b ≤ 9223372036854775807)
    (kk : G g y d mc ms (pc + 1) ls (.long (iL (a.tmod b)) :: st) h n k u Q) : G g y d mc ms pc ls (.long (iL b) :: .long (iL a) :: st) h n k u Q := by
  intro p e s m args below meth c H locs la X hR hL hl
  rw [iL_rem hr] at kk; exact lv_lrem X.1 X.2.1 hd (iL_ne0 hr.2.2) (kk p e s m args below meth c H locs la X hR hL hl)
theorem G_ldiv {a b : Int} (hd : decode y.2.1 pc = .ok (.ldiv, 1)) (hr : -9223372036854775808 ≤ a ∧ a ≤ 9223372036854775807 ∧ 0 < b ∧ b ≤ 9223372036854775807)
    (kk : G g y d mc ms (pc + 1) ls (.long (iL (a.tdiv b)) :: st) h n k u Q) : G g y d mc ms pc ls (.long (iL b) :: .long (iL a) :: st) h n k u Q := by
  intro p e s m args below meth c H locs la X hR hL hl
  rw [iL_tdiv hr] at kk; exact lv_ldiv X.1 X.2.1 hd (iL_ne0 hr.2.2) (kk p e s m args below meth c H locs la X hR hL hl)
theorem G_i2l {a : Int} (hd : decode y.2.1 pc = .ok (.i2l, 1)) (hr : -2147483648 ≤ a ∧ a ≤ 2147483647)
    (kk : G g y d mc ms (pc + 1) ls (.long (iL a) :: st) h n k u Q) : G g y d mc ms pc ls (.int (iI a) :: st) h n k u Q := by
  intro p e s m args below meth c H locs la X hR hL hl
  exact lv_i2l X.1 X.2.1 hd (iI_toL hr) (kk p e s m args below meth c H locs la X hR hL hl)
theorem G_l2i {a : Int} (hd : decode y.2.1 pc = .ok (.l2i, 1))
    (kk : G g y d mc ms (pc + 1) ls (.int (iI a) :: st) h n k u Q) : G g y d mc ms pc ls (.long (iL a) :: st) h n k u Q := by
  intro p e s m args below meth c H locs la X hR hL hl
  exact lv_l2i X.1 X.2.1 hd iL_toI (kk p e s m args below meth c H locs la X hR hL hl)
theorem G_i2b {a v : Int32} (hd : decode y.2.1 pc = .ok (.i2b, 1)) (hv : a.toInt8.toInt32 = v)
    (kk : G g y d mc ms (pc + 1) ls (.int v :: st) h n k u Q) : G g y d mc ms pc ls (.int a :: st) h n k u Q := by
  intro p e s m args below meth c H locs la X hR hL hl
  exact lv_i2b X.1 X.2.1 hd hv (kk p e s m args below meth c H locs la X hR hL hl)
theorem G_i2s {a v : Int32} (hd : decode y.2.1 pc = .ok (.i2s, 1)) (hv : a.toInt16.toInt32 = v)
    (kk : G g y d mc ms (pc + 1) ls (.int v :: st) h n k u Q) : G g y d mc ms pc ls (.int a :: st) h n k u Q := by
  intro p e s m args below meth c H locs la X hR hL hl
  exact lv_i2s X.1 X.2.1 hd hv (kk p e s m args below meth c H locs la X hR hL hl)
theorem G_dup {v : Value} (hd : decode y.2.1 pc = .ok (.dup, 1)) (hc : v.category = 1)
    (kk : G g y d mc ms (pc + 1) ls (v :: v :: st) h n k u Q) : G g y d mc ms pc ls (v :: st) h n k u Q := by
  intro p e s m args below meth c H locs la X hR hL hl
  exact lv_dup X.1 X.2.1 hd hc (kk p e s m args below meth c H locs la X hR hL hl)
theorem G_pop {v : Value} (hd : decode y.2.1 pc = .ok (.pop, 1)) (hc : v.category = 1)
    (kk : G g y d mc ms (pc + 1) ls st h n k u Q) : G g y d mc ms pc ls (v :: st) h n k u Q := by
  intro p e s m args below meth c H locs la X hR hL hl
  exact lv_pop X.1 X.2.1 hd hc (kk p e s m args below meth c H locs la X hR hL hl)
theorem G_goto {off : Int} (t : Nat) (hd : decode y.2.1 pc = .ok (.goto off, 3)) (ht : (pc : Int) + off = (t : Int))
    (kk : G g y d mc ms t ls st h n k u Q) : G g y d mc ms pc ls st h n k u Q := by
  intro p e s m args below meth c H locs la X hR hL hl
  exact lv_goto X.1 X.2.1 hd ht (kk p e s m args below meth c H locs la X hR hL hl)
theorem G_ifnull {a : Nat} {off : Int} (hd : decode y.2.1 pc = .ok (.ifnull off, 3))
    (kk : G g y d mc ms (pc + 3) ls st h n k u Q) : G g y d mc ms pc ls (.ref a :: st) h n k u Q := by
  intro p e s m args below meth c H locs la X hR hL hl
  exact lv_ifnull X.1 X.2.1 hd (kk p e s m args below meth c H locs la X hR hL hl)
theorem G_topi {x : Int} (kk : ∀ z : Int, z = x → G g y d mc ms pc ls (.int (iI z) :: st) h n k u Q) : G g y d mc ms pc ls (.int (iI x) :: st) h n k u Q := kk x rfl
theorem G_topl {x : Int} (kk : ∀ z : Int, z = x → G g y d mc ms pc ls (.long (iL z) :: st) h n k u Q) : G g y d mc ms pc ls (.long (iL x) :: st) h n k u Q := kk x rfl
theorem G_rei {x z : Int} (e : x = z) (kk : G g y d mc ms pc ls (.int (iI z) :: st) h n k u Q) : G g y d mc ms pc ls (.int (iI x) :: st) h n k u Q := e ▸ kk
theorem G_rel {x z : Int} (e : x = z) (kk : G g y d mc ms pc ls (.long (iL z) :: st) h n k u Q) : G g y d mc ms pc ls (.long (iL x) :: st) h n k u Q := e ▸ kk
theorem G_h {h' : GA} (e : h = h') (kk : G g y d mc ms pc ls st h' n k u Q) : G g y d mc ms pc ls st h n k u Q := e ▸ kk
theorem G_icmp_eq {a b off : Int} (t : Nat) (hd : decode y.2.1 pc = .ok (.if_icmp .eq off, 3)) (ht : (pc : Int) + off = (t : Int)) (hr : -2147483648 ≤ a ∧ a ≤ 2147483647 ∧ -2147483648 ≤ b ∧ b ≤ 2147483647)
    (kt : a = b → G g y d mc ms t ls st h n k u Q) (kf : ¬ (a = b) → G g y d mc ms (pc + 3) ls st h n k u Q) : G g y d mc ms pc ls (.int (iI b) :: .int (iI a) :: st) h n k u Q := by
  intro p e s m args below meth c H locs la X hR hL hl
  exact lv_icmp_eq X.1 X.2.1 hd ht (fun q => kt ((iI_eq hr).mp q) p e s m args below meth c H locs la X hR hL hl) (fun q => kf (fun z => q ((iI_eq hr).mpr z)) p e s m args below meth c H locs la X hR hL hl)
theorem G_icmp_ne {a b off : Int} (t : Nat) (hd : decode y.2.1 pc = .ok (.if_icmp .ne off, 3)) (ht : (pc : Int) + off = (t : Int)) (hr : -2147483648 ≤ a ∧ a ≤ 2147483647 ∧ -2147483648 ≤ b ∧ b ≤ 2147483647)
    (kt : a ≠ b → G g y d mc ms t ls st h n k u Q) (kf : ¬ (a ≠ b) → G g y d mc ms (pc + 3) ls st h n k u Q) : G g y d mc ms pc ls (.int (iI b) :: .int (iI a) :: st) h n k u Q := by
  intro p e s m args below meth c H locs la X hR hL hl
  exact lv_icmp_ne X.1 X.2.1 hd ht (fun q => kt (fun z => q ((iI_eq hr).mpr z)) p e s m args below meth c H locs la X hR hL hl) (fun q => kf (fun z => z ((iI_eq hr).mp q)) p e s m args below meth c H locs la X hR hL hl)
theorem G_icmp_lt {a b off : Int} (t : Nat) (hd : decode y.2.1 pc = .ok (.if_icmp .lt off, 3)) (ht : (pc : Int) + off = (t : Int)) (hr : -2147483648 ≤ a ∧ a ≤ 2147483647 ∧ -2147483648 ≤ b ∧ b ≤ 2147483647)
    (kt : a < b → G g y d mc ms t ls st h n k u Q) (kf : ¬ (a < b) → G g y d mc ms (pc + 3) ls st h n k u Q) : G g y d mc ms pc ls (.int (iI b) :: .int (iI a) :: st) h n k u Q := by
  intro p e s m args below meth c H locs la X hR hL hl
  exact lv_icmp_lt X.1 X.2.1 hd ht (fun q => kt ((iI_lt hr).mp q) p e s m args below meth c H locs la X hR hL hl) (fun q => kf (fun z => q ((iI_lt hr).mpr z)) p e s m args below meth c H locs la X hR hL hl)
theorem G_icmp_ge {a b off : Int} (t : Nat) (hd : decode y.2.1 pc = .ok (.if_icmp .ge off, 3)) (ht : (pc : Int) + off = (t : Int)) (hr : -2147483648 ≤ a ∧ a ≤ 2147483647 ∧ -2147483648 ≤ b ∧ b ≤ 2147483647)
    (kt : b ≤ a → G g y d mc ms t ls st h n k u Q) (kf : ¬ (b ≤ a) → G g y d mc ms (pc + 3) ls st h n k u Q) : G g y d mc ms pc ls (.int (iI b) :: .int (iI a) :: st) h n k u Q := by
  intro p e s m args below meth c H locs la X hR hL hl
  exact lv_icmp_ge X.1 X.2.1 hd ht (fun q => kt ((iI_le ⟨hr.2.2.1, hr.2.2.2, hr.1, hr.2.1⟩).mp q) p e s m args below meth c H locs la X hR hL hl) (fun q => kf (fun z => q ((iI_le ⟨hr.2.2.1, hr.2.2.2, hr.1, hr.2.1⟩).mpr z)) p e s m args below meth c H locs la X hR hL hl)
theorem G_icmp_gt {a b off : Int} (t : Nat) (hd : decode y.2.1 pc = .ok (.if_icmp .gt off, 3)) (ht : (pc : Int) + off = (t : Int)) (hr : -2147483648 ≤ a ∧ a ≤ 2147483647 ∧ -2147483648 ≤ b ∧ b ≤ 2147483647)
    (kt : b < a → G g y d mc ms t ls st h n k u Q) (kf : ¬ (b < a) → G g y d mc ms (pc + 3) ls st h n k u Q) : G g y d mc ms pc ls (.int (iI b) :: .int (iI a) :: st) h n k u Q := by
  intro p e s m args below meth c H locs la X hR hL hl
  exact lv_icmp_gt X.1 X.2.1 hd ht (fun q => kt ((iI_lt ⟨hr.2.2.1, hr.2.2.2, hr.1, hr.2.1⟩).mp q) p e s m args below meth c H locs la X hR hL hl) (fun q => kf (fun z => q ((iI_lt ⟨hr.2.2.1, hr.2.2.2, hr.1, hr.2.1⟩).mpr z)) p e s m args below meth c H locs la X hR hL hl)
theorem G_icmp_le {a b off : Int} (t : Nat) (hd : decode y.2.1 pc = .ok (.if_icmp .le off, 3)) (ht : (pc : Int) + off = (t : Int)) (hr : -2147483648 ≤ a ∧ a ≤ 2147483647 ∧ -2147483648 ≤ b ∧ b ≤ 2147483647)
    (kt : a ≤ b → G g y d mc ms t ls st h n k u Q) (kf : ¬ (a ≤ b) → G g y d mc ms (pc + 3) ls st h n k u Q) : G g y d mc ms pc ls (.int (iI b) :: .int (iI a) :: st) h n k u Q := by
  intro p e s m args below meth c H locs la X hR hL hl
  exact lv_icmp_le X.1 X.2.1 hd ht (fun q => kt ((iI_le hr).mp q) p e s m args below meth c H locs la X hR hL hl) (fun q => kf (fun z => q ((iI_le hr).mpr z)) p e s m args below meth c H locs la X hR hL hl)
theorem G_if_eq {a off : Int} (t : Nat) (hd : decode y.2.1 pc = .ok (.ifCond .eq off, 3)) (ht : (pc : Int) + off = (t : Int)) (hr : -2147483648 ≤ a ∧ a ≤ 2147483647)
    (kt : a = 0 → G g y d mc ms t ls st h n k u Q) (kf : ¬ (a = 0) → G g y d mc ms (pc + 3) ls st h n k u Q) : G g y d mc ms pc ls (.int (iI a) :: st) h n k u Q := by
  intro p e s m args below meth c H locs la X hR hL hl
  exact lv_if_eq X.1 X.2.1 hd ht (fun q => kt ((iI_eq0 hr).mp q) p e s m args below meth c H locs la X hR hL hl) (fun q => kf (fun z => q ((iI_eq0 hr).mpr z)) p e s m args below meth c H locs la X hR hL hl)
theorem G_if_ne {a off : Int} (t : Nat) (hd : decode y.2.1 pc = .ok (.ifCond .ne off, 3)) (ht : (pc : Int) + off = (t : Int)) (hr : -2147483648 ≤ a ∧ a ≤ 2147483647)
    (kt : a ≠ 0 → G g y d mc ms t ls st h n k u Q) (kf : ¬ (a ≠ 0) → G g y d mc ms (pc + 3) ls st h n k u Q) : G g y d mc ms pc ls (.int (iI a) :: st) h n k u Q := by
  intro p e s m args below meth c H locs la X hR hL hl
  exact lv_if_ne X.1 X.2.1 hd ht (fun q => kt (fun z => q ((iI_eq0 hr).mpr z)) p e s m args below meth c H locs la X hR hL hl) (fun q => kf (fun z => z ((iI_eq0 hr).mp q)) p e s m args below meth c H locs la X hR hL hl)
theorem G_if_lt {a off : Int} (t : Nat) (hd : decode y.2.1 pc = .ok (.ifCond .lt off, 3)) (ht : (pc : Int) + off = (t : Int)) (hr : -2147483648 ≤ a ∧ a ≤ 2147483647)
    (kt : a < 0 → G g y d mc ms t ls st h n k u Q) (kf : ¬ (a < 0) → G g y d mc ms (pc + 3) ls st h n k u Q) : G g y d mc ms pc ls (.int (iI a) :: st) h n k u Q := by
  intro p e s m args below meth c H locs la X hR hL hl
  exact lv_if_lt X.1 X.2.1 hd ht (fun q => kt ((iI_lt0 hr).mp q) p e s m args below meth c H locs la X hR hL hl) (fun q => kf (fun z => q ((iI_lt0 hr).mpr z)) p e s m args below meth c H locs la X hR hL hl)
theorem G_if_ge {a off : Int} (t : Nat) (hd : decode y.2.1 pc = .ok (.ifCond .ge off, 3)) (ht : (pc : Int) + off = (t : Int)) (hr : -2147483648 ≤ a ∧ a ≤ 2147483647)
    (kt : 0 ≤ a → G g y d mc ms t ls st h n k u Q) (kf : ¬ (0 ≤ a) → G g y d mc ms (pc + 3) ls st h n k u Q) : G g y d mc ms pc ls (.int (iI a) :: st) h n k u Q := by
  intro p e s m args below meth c H locs la X hR hL hl
  exact lv_if_ge X.1 X.2.1 hd ht (fun q => kt ((iI_ge0 hr).mp q) p e s m args below meth c H locs la X hR hL hl) (fun q => kf (fun z => q ((iI_ge0 hr).mpr z)) p e s m args below meth c H locs la X hR hL hl)
theorem G_if_gt {a off : Int} (t : Nat) (hd : decode y.2.1 pc = .ok (.ifCond .gt off, 3)) (ht : (pc : Int) + off = (t : Int)) (hr : -2147483648 ≤ a ∧ a ≤ 2147483647)
    (kt : 0 < a → G g y d mc ms t ls st h n k u Q) (kf : ¬ (0 < a) → G g y d mc ms (pc + 3) ls st h n k u Q) : G g y d mc ms pc ls (.int (iI a) :: st) h n k u Q := by
  intro p e s m args below meth c H locs la X hR hL hl
  exact lv_if_gt X.1 X.2.1 hd ht (fun q => kt ((iI_gt0 hr).mp q) p e s m args below meth c H locs la X hR hL hl) (fun q => kf (fun z => q ((iI_gt0 hr).mpr z)) p e s m args below meth c H locs la X hR hL hl)
theorem G_if_le {a off : Int} (t : Nat) (hd : decode y.2.1 pc = .ok (.ifCond .le off, 3)) (ht : (pc : Int) + off = (t : Int)) (hr : -2147483648 ≤ a ∧ a ≤ 2147483647)
    (kt : a ≤ 0 → G g y d mc ms t ls st h n k u Q) (kf : ¬ (a ≤ 0) → G g y d mc ms (pc + 3) ls st h n k u Q) : G g y d mc ms pc ls (.int (iI a) :: st) h n k u Q := by
  intro p e s m args below meth c H locs la X hR hL hl
  exact lv_if_le X.1 X.2.1 hd ht (fun q => kt ((iI_le0 hr).mp q) p e s m args below meth c H locs la X hR hL hl) (fun q => kf (fun z => q ((iI_le0 hr).mpr z)) p e s m args below meth c H locs la X hR hL hl)
end GROWS
end
