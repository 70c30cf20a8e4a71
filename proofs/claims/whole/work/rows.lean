section
-- ===== PART A: goes FIRST, ahead of the names: the tables' words, and 'selects' of the private methods out of them =====
/-- a private method of a class that the tables say can be made, by its rows of tables_1 -/
def lw_okq (q : MethodName × Nat) : Prop := (q.1.cls ≠ "java/lang/invoke/MethodHandle" ∧ q.1.cls ≠ "java/lang/invoke/VarHandle") ∧ Cond.instantiable q.1.cls q.2 ∈ tables_1 ∧ Cond.privateMethod q.1 ∈ tables_1 ∧ Cond.instanceMethod q.1 ∈ tables_1
theorem lw_p0 : lw_okq (⟨"CashDeriver$Reader", "step", "()V"⟩, 8) := ⟨⟨by decide +kernel, by decide +kernel⟩, List.mem_of_getElem? (i := 42) (by decide +kernel), List.mem_of_getElem? (i := 257) (by decide +kernel), List.mem_of_getElem? (i := 258) (by decide +kernel)⟩
theorem lw_p1 : lw_okq (⟨"CashDeriver$Reader", "stepOverRun", "()V"⟩, 8) := ⟨⟨by decide +kernel, by decide +kernel⟩, List.mem_of_getElem? (i := 42) (by decide +kernel), List.mem_of_getElem? (i := 269) (by decide +kernel), List.mem_of_getElem? (i := 270) (by decide +kernel)⟩
theorem lw_p2 : lw_okq (⟨"CashDeriver$Reader", "isWord", "(Ljava/lang/String;)Z"⟩, 8) := ⟨⟨by decide +kernel, by decide +kernel⟩, List.mem_of_getElem? (i := 42) (by decide +kernel), List.mem_of_getElem? (i := 277) (by decide +kernel), List.mem_of_getElem? (i := 278) (by decide +kernel)⟩
theorem lw_p3 : lw_okq (⟨"CashDeriver$Reader", "readAccount", "(LCashDeriver$Book;)Z"⟩, 8) := ⟨⟨by decide +kernel, by decide +kernel⟩, List.mem_of_getElem? (i := 42) (by decide +kernel), List.mem_of_getElem? (i := 329) (by decide +kernel), List.mem_of_getElem? (i := 330) (by decide +kernel)⟩
theorem lw_p4 : lw_okq (⟨"CashDeriver$Reader", "refuse", "(I)Z"⟩, 8) := ⟨⟨by decide +kernel, by decide +kernel⟩, List.mem_of_getElem? (i := 42) (by decide +kernel), List.mem_of_getElem? (i := 337) (by decide +kernel), List.mem_of_getElem? (i := 338) (by decide +kernel)⟩
theorem lw_p5 : lw_okq (⟨"CashDeriver$Reader", "kindNamed", "()I"⟩, 8) := ⟨⟨by decide +kernel, by decide +kernel⟩, List.mem_of_getElem? (i := 42) (by decide +kernel), List.mem_of_getElem? (i := 341) (by decide +kernel), List.mem_of_getElem? (i := 342) (by decide +kernel)⟩
theorem lw_p6 : lw_okq (⟨"CashDeriver$Reader", "readAmount", "(I)Z"⟩, 8) := ⟨⟨by decide +kernel, by decide +kernel⟩, List.mem_of_getElem? (i := 42) (by decide +kernel), List.mem_of_getElem? (i := 354) (by decide +kernel), List.mem_of_getElem? (i := 355) (by decide +kernel)⟩
theorem lw_p7 : lw_okq (⟨"CashDeriver$Reader", "readJournal", "(LCashDeriver$Book;)Z"⟩, 8) := ⟨⟨by decide +kernel, by decide +kernel⟩, List.mem_of_getElem? (i := 42) (by decide +kernel), List.mem_of_getElem? (i := 364) (by decide +kernel), List.mem_of_getElem? (i := 365) (by decide +kernel)⟩
theorem lw_p8 : lw_okq (⟨"CashDeriver$Reader", "isNumberBelow", "(I)Z"⟩, 8) := ⟨⟨by decide +kernel, by decide +kernel⟩, List.mem_of_getElem? (i := 42) (by decide +kernel), List.mem_of_getElem? (i := 372) (by decide +kernel), List.mem_of_getElem? (i := 373) (by decide +kernel)⟩
theorem lw_p9 : lw_okq (⟨"CashDeriver$Reader", "readLine", "(LCashDeriver$Journal;I)Z"⟩, 8) := ⟨⟨by decide +kernel, by decide +kernel⟩, List.mem_of_getElem? (i := 42) (by decide +kernel), List.mem_of_getElem? (i := 384) (by decide +kernel), List.mem_of_getElem? (i := 385) (by decide +kernel)⟩
theorem lw_p10 : lw_okq (⟨"CashDeriver$Journal", "hasLine", "(I)Z"⟩, 11) := ⟨⟨by decide +kernel, by decide +kernel⟩, List.mem_of_getElem? (i := 140) (by decide +kernel), List.mem_of_getElem? (i := 400) (by decide +kernel), List.mem_of_getElem? (i := 401) (by decide +kernel)⟩
theorem lw_p11 : lw_okq (⟨"CashDeriver", "settle", "(LCashDeriver$Journal;)V"⟩, 7) := ⟨⟨by decide +kernel, by decide +kernel⟩, List.mem_of_getElem? (i := 20) (by decide +kernel), List.mem_of_getElem? (i := 413) (by decide +kernel), List.mem_of_getElem? (i := 414) (by decide +kernel)⟩
theorem lw_p12 : lw_okq (⟨"CashDeriver$Parter", "firstWay", "()V"⟩, 3) := ⟨⟨by decide +kernel, by decide +kernel⟩, List.mem_of_getElem? (i := 73) (by decide +kernel), List.mem_of_getElem? (i := 426) (by decide +kernel), List.mem_of_getElem? (i := 427) (by decide +kernel)⟩
theorem lw_p13 : lw_okq (⟨"CashDeriver$Parter", "balancedGroups", "(LCashDeriver$Journal;I)I"⟩, 3) := ⟨⟨by decide +kernel, by decide +kernel⟩, List.mem_of_getElem? (i := 73) (by decide +kernel), List.mem_of_getElem? (i := 430) (by decide +kernel), List.mem_of_getElem? (i := 431) (by decide +kernel)⟩
theorem lw_p14 : lw_okq (⟨"CashDeriver$Parter", "highestAhead", "(I)I"⟩, 3) := ⟨⟨by decide +kernel, by decide +kernel⟩, List.mem_of_getElem? (i := 73) (by decide +kernel), List.mem_of_getElem? (i := 435) (by decide +kernel), List.mem_of_getElem? (i := 436) (by decide +kernel)⟩
theorem lw_p15 : lw_okq (⟨"CashDeriver$Parter", "takeWay", "(LCashDeriver$Journal;I)V"⟩, 3) := ⟨⟨by decide +kernel, by decide +kernel⟩, List.mem_of_getElem? (i := 73) (by decide +kernel), List.mem_of_getElem? (i := 440) (by decide +kernel), List.mem_of_getElem? (i := 441) (by decide +kernel)⟩
def lw_privs_1 : List (MethodName × Nat) := [(⟨"CashDeriver$Reader", "step", "()V"⟩, 8), (⟨"CashDeriver$Reader", "stepOverRun", "()V"⟩, 8), (⟨"CashDeriver$Reader", "isWord", "(Ljava/lang/String;)Z"⟩, 8), (⟨"CashDeriver$Reader", "readAccount", "(LCashDeriver$Book;)Z"⟩, 8), (⟨"CashDeriver$Reader", "refuse", "(I)Z"⟩, 8), (⟨"CashDeriver$Reader", "kindNamed", "()I"⟩, 8), (⟨"CashDeriver$Reader", "readAmount", "(I)Z"⟩, 8), (⟨"CashDeriver$Reader", "readJournal", "(LCashDeriver$Book;)Z"⟩, 8), (⟨"CashDeriver$Reader", "isNumberBelow", "(I)Z"⟩, 8), (⟨"CashDeriver$Reader", "readLine", "(LCashDeriver$Journal;I)Z"⟩, 8), (⟨"CashDeriver$Journal", "hasLine", "(I)Z"⟩, 11), (⟨"CashDeriver", "settle", "(LCashDeriver$Journal;)V"⟩, 7), (⟨"CashDeriver$Parter", "firstWay", "()V"⟩, 3), (⟨"CashDeriver$Parter", "balancedGroups", "(LCashDeriver$Journal;I)I"⟩, 3), (⟨"CashDeriver$Parter", "highestAhead", "(I)I"⟩, 3), (⟨"CashDeriver$Parter", "takeWay", "(LCashDeriver$Journal;I)V"⟩, 3)]
theorem lw_r1 : ∀ q ∈ lw_privs_1, lw_okq q := List.forall_mem_cons.mpr ⟨lw_p0, List.forall_mem_cons.mpr ⟨lw_p1, List.forall_mem_cons.mpr ⟨lw_p2, List.forall_mem_cons.mpr ⟨lw_p3, List.forall_mem_cons.mpr ⟨lw_p4, List.forall_mem_cons.mpr ⟨lw_p5, List.forall_mem_cons.mpr ⟨lw_p6, List.forall_mem_cons.mpr ⟨lw_p7, List.forall_mem_cons.mpr ⟨lw_p8, List.forall_mem_cons.mpr ⟨lw_p9, List.forall_mem_cons.mpr ⟨lw_p10, List.forall_mem_cons.mpr ⟨lw_p11, List.forall_mem_cons.mpr ⟨lw_p12, List.forall_mem_cons.mpr ⟨lw_p13, List.forall_mem_cons.mpr ⟨lw_p14, List.forall_mem_cons.mpr ⟨lw_p15, fun _ h => absurd h List.not_mem_nil⟩⟩⟩⟩⟩⟩⟩⟩⟩⟩⟩⟩⟩⟩⟩⟩
theorem lw_p16 : lw_okq (⟨"CashDeriver$Parter", "nextWay", "(I)Z"⟩, 3) := ⟨⟨by decide +kernel, by decide +kernel⟩, List.mem_of_getElem? (i := 73) (by decide +kernel), List.mem_of_getElem? (i := 448) (by decide +kernel), List.mem_of_getElem? (i := 449) (by decide +kernel)⟩
theorem lw_p17 : lw_okq (⟨"CashDeriver$Parter", "cutGroup", "(LCashDeriver$Journal;I)V"⟩, 3) := ⟨⟨by decide +kernel, by decide +kernel⟩, List.mem_of_getElem? (i := 73) (by decide +kernel), List.mem_of_getElem? (i := 468) (by decide +kernel), List.mem_of_getElem? (i := 469) (by decide +kernel)⟩
theorem lw_p18 : lw_okq (⟨"CashDeriver$Parter", "firstLeft", "(LCashDeriver$Journal;II)I"⟩, 3) := ⟨⟨by decide +kernel, by decide +kernel⟩, List.mem_of_getElem? (i := 73) (by decide +kernel), List.mem_of_getElem? (i := 472) (by decide +kernel), List.mem_of_getElem? (i := 473) (by decide +kernel)⟩
theorem lw_p19 : lw_okq (⟨"CashDeriver$Journal", "hasPiece", "(I)Z"⟩, 11) := ⟨⟨by decide +kernel, by decide +kernel⟩, List.mem_of_getElem? (i := 140) (by decide +kernel), List.mem_of_getElem? (i := 546) (by decide +kernel), List.mem_of_getElem? (i := 547) (by decide +kernel)⟩
theorem lw_p20 : lw_okq (⟨"CashDeriver$Book", "apartBy", "(LCashDeriver$Journal;I)I"⟩, 6) := ⟨⟨by decide +kernel, by decide +kernel⟩, List.mem_of_getElem? (i := 133) (by decide +kernel), List.mem_of_getElem? (i := 615) (by decide +kernel), List.mem_of_getElem? (i := 616) (by decide +kernel)⟩
theorem lw_p21 : lw_okq (⟨"CashDeriver$Tracer", "gatherJournals", "(LCashDeriver$Book;)V"⟩, 5) := ⟨⟨by decide +kernel, by decide +kernel⟩, List.mem_of_getElem? (i := 90) (by decide +kernel), List.mem_of_getElem? (i := 667) (by decide +kernel), List.mem_of_getElem? (i := 668) (by decide +kernel)⟩
theorem lw_p22 : lw_okq (⟨"CashDeriver$Tracer", "gatherAccounts", "(LCashDeriver$Book;)V"⟩, 5) := ⟨⟨by decide +kernel, by decide +kernel⟩, List.mem_of_getElem? (i := 90) (by decide +kernel), List.mem_of_getElem? (i := 672) (by decide +kernel), List.mem_of_getElem? (i := 673) (by decide +kernel)⟩
theorem lw_p23 : lw_okq (⟨"CashDeriver$Tracer", "gatherShares", "(LCashDeriver$Book;I)V"⟩, 5) := ⟨⟨by decide +kernel, by decide +kernel⟩, List.mem_of_getElem? (i := 90) (by decide +kernel), List.mem_of_getElem? (i := 682) (by decide +kernel), List.mem_of_getElem? (i := 683) (by decide +kernel)⟩
theorem lw_p24 : lw_okq (⟨"CashDeriver$Tracer", "explain", "(III)Z"⟩, 5) := ⟨⟨by decide +kernel, by decide +kernel⟩, List.mem_of_getElem? (i := 90) (by decide +kernel), List.mem_of_getElem? (i := 688) (by decide +kernel), List.mem_of_getElem? (i := 689) (by decide +kernel)⟩
theorem lw_p25 : lw_okq (⟨"CashDeriver$Tracer", "searchOne", "()I"⟩, 5) := ⟨⟨by decide +kernel, by decide +kernel⟩, List.mem_of_getElem? (i := 90) (by decide +kernel), List.mem_of_getElem? (i := 692) (by decide +kernel), List.mem_of_getElem? (i := 693) (by decide +kernel)⟩
theorem lw_p26 : lw_okq (⟨"CashDeriver$Tracer", "bitOf", "(I)I"⟩, 5) := ⟨⟨by decide +kernel, by decide +kernel⟩, List.mem_of_getElem? (i := 90) (by decide +kernel), List.mem_of_getElem? (i := 696) (by decide +kernel), List.mem_of_getElem? (i := 697) (by decide +kernel)⟩
theorem lw_p27 : lw_okq (⟨"CashDeriver$Tracer", "searchTwo", "()I"⟩, 5) := ⟨⟨by decide +kernel, by decide +kernel⟩, List.mem_of_getElem? (i := 90) (by decide +kernel), List.mem_of_getElem? (i := 700) (by decide +kernel), List.mem_of_getElem? (i := 701) (by decide +kernel)⟩
theorem lw_p28 : lw_okq (⟨"CashDeriver$Tracer", "searchThree", "()I"⟩, 5) := ⟨⟨by decide +kernel, by decide +kernel⟩, List.mem_of_getElem? (i := 90) (by decide +kernel), List.mem_of_getElem? (i := 704) (by decide +kernel), List.mem_of_getElem? (i := 705) (by decide +kernel)⟩
theorem lw_p29 : lw_okq (⟨"CashDeriver", "isTransfer", "(III)Z"⟩, 7) := ⟨⟨by decide +kernel, by decide +kernel⟩, List.mem_of_getElem? (i := 20) (by decide +kernel), List.mem_of_getElem? (i := 712) (by decide +kernel), List.mem_of_getElem? (i := 713) (by decide +kernel)⟩
theorem lw_p30 : lw_okq (⟨"CashDeriver", "addTransfer", "(LCashDeriver$Journal;III)V"⟩, 7) := ⟨⟨by decide +kernel, by decide +kernel⟩, List.mem_of_getElem? (i := 20) (by decide +kernel), List.mem_of_getElem? (i := 718) (by decide +kernel), List.mem_of_getElem? (i := 719) (by decide +kernel)⟩
theorem lw_p31 : lw_okq (⟨"CashDeriver$Acts", "dropOldest", "()V"⟩, 4) := ⟨⟨by decide +kernel, by decide +kernel⟩, List.mem_of_getElem? (i := 114) (by decide +kernel), List.mem_of_getElem? (i := 727) (by decide +kernel), List.mem_of_getElem? (i := 728) (by decide +kernel)⟩
def lw_privs_2 : List (MethodName × Nat) := [(⟨"CashDeriver$Parter", "nextWay", "(I)Z"⟩, 3), (⟨"CashDeriver$Parter", "cutGroup", "(LCashDeriver$Journal;I)V"⟩, 3), (⟨"CashDeriver$Parter", "firstLeft", "(LCashDeriver$Journal;II)I"⟩, 3), (⟨"CashDeriver$Journal", "hasPiece", "(I)Z"⟩, 11), (⟨"CashDeriver$Book", "apartBy", "(LCashDeriver$Journal;I)I"⟩, 6), (⟨"CashDeriver$Tracer", "gatherJournals", "(LCashDeriver$Book;)V"⟩, 5), (⟨"CashDeriver$Tracer", "gatherAccounts", "(LCashDeriver$Book;)V"⟩, 5), (⟨"CashDeriver$Tracer", "gatherShares", "(LCashDeriver$Book;I)V"⟩, 5), (⟨"CashDeriver$Tracer", "explain", "(III)Z"⟩, 5), (⟨"CashDeriver$Tracer", "searchOne", "()I"⟩, 5), (⟨"CashDeriver$Tracer", "bitOf", "(I)I"⟩, 5), (⟨"CashDeriver$Tracer", "searchTwo", "()I"⟩, 5), (⟨"CashDeriver$Tracer", "searchThree", "()I"⟩, 5), (⟨"CashDeriver", "isTransfer", "(III)Z"⟩, 7), (⟨"CashDeriver", "addTransfer", "(LCashDeriver$Journal;III)V"⟩, 7), (⟨"CashDeriver$Acts", "dropOldest", "()V"⟩, 4)]
theorem lw_r2 : ∀ q ∈ lw_privs_2, lw_okq q := List.forall_mem_cons.mpr ⟨lw_p16, List.forall_mem_cons.mpr ⟨lw_p17, List.forall_mem_cons.mpr ⟨lw_p18, List.forall_mem_cons.mpr ⟨lw_p19, List.forall_mem_cons.mpr ⟨lw_p20, List.forall_mem_cons.mpr ⟨lw_p21, List.forall_mem_cons.mpr ⟨lw_p22, List.forall_mem_cons.mpr ⟨lw_p23, List.forall_mem_cons.mpr ⟨lw_p24, List.forall_mem_cons.mpr ⟨lw_p25, List.forall_mem_cons.mpr ⟨lw_p26, List.forall_mem_cons.mpr ⟨lw_p27, List.forall_mem_cons.mpr ⟨lw_p28, List.forall_mem_cons.mpr ⟨lw_p29, List.forall_mem_cons.mpr ⟨lw_p30, List.forall_mem_cons.mpr ⟨lw_p31, fun _ h => absurd h List.not_mem_nil⟩⟩⟩⟩⟩⟩⟩⟩⟩⟩⟩⟩⟩⟩⟩⟩
theorem lw_p32 : lw_okq (⟨"CashDeriver", "takeBack", "(III)V"⟩, 7) := ⟨⟨by decide +kernel, by decide +kernel⟩, List.mem_of_getElem? (i := 20) (by decide +kernel), List.mem_of_getElem? (i := 781) (by decide +kernel), List.mem_of_getElem? (i := 782) (by decide +kernel)⟩
theorem lw_p33 : lw_okq (⟨"java/lang/Throwable", "fillInStackTrace", "(I)Ljava/lang/Throwable;"⟩, 6) := ⟨⟨by decide +kernel, by decide +kernel⟩, List.mem_of_getElem? (i := 843) (by decide +kernel), List.mem_of_getElem? (i := 841) (by decide +kernel), List.mem_of_getElem? (i := 842) (by decide +kernel)⟩
theorem lw_p34 : lw_okq (⟨"CashDeriverModel", "lays", "(I)V"⟩, 26) := ⟨⟨by decide +kernel, by decide +kernel⟩, List.mem_of_getElem? (i := 903) (by decide +kernel), List.mem_of_getElem? (i := 901) (by decide +kernel), List.mem_of_getElem? (i := 902) (by decide +kernel)⟩
theorem lw_p35 : lw_okq (⟨"CashDeriverModel", "go", "()V"⟩, 26) := ⟨⟨by decide +kernel, by decide +kernel⟩, List.mem_of_getElem? (i := 903) (by decide +kernel), List.mem_of_getElem? (i := 998) (by decide +kernel), List.mem_of_getElem? (i := 999) (by decide +kernel)⟩
theorem lw_p36 : lw_okq (⟨"CashDeriverModel", "tapeAt", "(I)I"⟩, 26) := ⟨⟨by decide +kernel, by decide +kernel⟩, List.mem_of_getElem? (i := 903) (by decide +kernel), List.mem_of_getElem? (i := 1008) (by decide +kernel), List.mem_of_getElem? (i := 1009) (by decide +kernel)⟩
theorem lw_p37 : lw_okq (⟨"CashDeriverModel", "readWhole", "()Z"⟩, 26) := ⟨⟨by decide +kernel, by decide +kernel⟩, List.mem_of_getElem? (i := 903) (by decide +kernel), List.mem_of_getElem? (i := 1014) (by decide +kernel), List.mem_of_getElem? (i := 1015) (by decide +kernel)⟩
theorem lw_p38 : lw_okq (⟨"CashDeriverModel", "isWord", "(J)Z"⟩, 26) := ⟨⟨by decide +kernel, by decide +kernel⟩, List.mem_of_getElem? (i := 903) (by decide +kernel), List.mem_of_getElem? (i := 1029) (by decide +kernel), List.mem_of_getElem? (i := 1030) (by decide +kernel)⟩
theorem lw_p39 : lw_okq (⟨"CashDeriverModel", "readAccount", "()Z"⟩, 26) := ⟨⟨by decide +kernel, by decide +kernel⟩, List.mem_of_getElem? (i := 903) (by decide +kernel), List.mem_of_getElem? (i := 1033) (by decide +kernel), List.mem_of_getElem? (i := 1034) (by decide +kernel)⟩
theorem lw_p40 : lw_okq (⟨"CashDeriverModel", "bad", "(I)Z"⟩, 26) := ⟨⟨by decide +kernel, by decide +kernel⟩, List.mem_of_getElem? (i := 903) (by decide +kernel), List.mem_of_getElem? (i := 1037) (by decide +kernel), List.mem_of_getElem? (i := 1038) (by decide +kernel)⟩
theorem lw_p41 : lw_okq (⟨"CashDeriverModel", "kindHere", "()I"⟩, 26) := ⟨⟨by decide +kernel, by decide +kernel⟩, List.mem_of_getElem? (i := 903) (by decide +kernel), List.mem_of_getElem? (i := 1041) (by decide +kernel), List.mem_of_getElem? (i := 1042) (by decide +kernel)⟩
theorem lw_p42 : lw_okq (⟨"CashDeriverModel", "takesAmount", "(I)Z"⟩, 26) := ⟨⟨by decide +kernel, by decide +kernel⟩, List.mem_of_getElem? (i := 903) (by decide +kernel), List.mem_of_getElem? (i := 1046) (by decide +kernel), List.mem_of_getElem? (i := 1047) (by decide +kernel)⟩
theorem lw_p43 : lw_okq (⟨"CashDeriverModel", "isSign", "(I)Z"⟩, 26) := ⟨⟨by decide +kernel, by decide +kernel⟩, List.mem_of_getElem? (i := 903) (by decide +kernel), List.mem_of_getElem? (i := 1050) (by decide +kernel), List.mem_of_getElem? (i := 1051) (by decide +kernel)⟩
theorem lw_p44 : lw_okq (⟨"CashDeriverModel", "takes", "(II)Z"⟩, 26) := ⟨⟨by decide +kernel, by decide +kernel⟩, List.mem_of_getElem? (i := 903) (by decide +kernel), List.mem_of_getElem? (i := 1055) (by decide +kernel), List.mem_of_getElem? (i := 1056) (by decide +kernel)⟩
theorem lw_p45 : lw_okq (⟨"CashDeriverModel", "readJournal", "()Z"⟩, 26) := ⟨⟨by decide +kernel, by decide +kernel⟩, List.mem_of_getElem? (i := 903) (by decide +kernel), List.mem_of_getElem? (i := 1062) (by decide +kernel), List.mem_of_getElem? (i := 1063) (by decide +kernel)⟩
theorem lw_p46 : lw_okq (⟨"CashDeriverModel", "readLine", "(I)Z"⟩, 26) := ⟨⟨by decide +kernel, by decide +kernel⟩, List.mem_of_getElem? (i := 903) (by decide +kernel), List.mem_of_getElem? (i := 1066) (by decide +kernel), List.mem_of_getElem? (i := 1067) (by decide +kernel)⟩
theorem lw_p47 : lw_okq (⟨"CashDeriverModel", "told", "(II)I"⟩, 26) := ⟨⟨by decide +kernel, by decide +kernel⟩, List.mem_of_getElem? (i := 903) (by decide +kernel), List.mem_of_getElem? (i := 1078) (by decide +kernel), List.mem_of_getElem? (i := 1079) (by decide +kernel)⟩
def lw_privs_3 : List (MethodName × Nat) := [(⟨"CashDeriver", "takeBack", "(III)V"⟩, 7), (⟨"java/lang/Throwable", "fillInStackTrace", "(I)Ljava/lang/Throwable;"⟩, 6), (⟨"CashDeriverModel", "lays", "(I)V"⟩, 26), (⟨"CashDeriverModel", "go", "()V"⟩, 26), (⟨"CashDeriverModel", "tapeAt", "(I)I"⟩, 26), (⟨"CashDeriverModel", "readWhole", "()Z"⟩, 26), (⟨"CashDeriverModel", "isWord", "(J)Z"⟩, 26), (⟨"CashDeriverModel", "readAccount", "()Z"⟩, 26), (⟨"CashDeriverModel", "bad", "(I)Z"⟩, 26), (⟨"CashDeriverModel", "kindHere", "()I"⟩, 26), (⟨"CashDeriverModel", "takesAmount", "(I)Z"⟩, 26), (⟨"CashDeriverModel", "isSign", "(I)Z"⟩, 26), (⟨"CashDeriverModel", "takes", "(II)Z"⟩, 26), (⟨"CashDeriverModel", "readJournal", "()Z"⟩, 26), (⟨"CashDeriverModel", "readLine", "(I)Z"⟩, 26), (⟨"CashDeriverModel", "told", "(II)I"⟩, 26)]
theorem lw_r3 : ∀ q ∈ lw_privs_3, lw_okq q := List.forall_mem_cons.mpr ⟨lw_p32, List.forall_mem_cons.mpr ⟨lw_p33, List.forall_mem_cons.mpr ⟨lw_p34, List.forall_mem_cons.mpr ⟨lw_p35, List.forall_mem_cons.mpr ⟨lw_p36, List.forall_mem_cons.mpr ⟨lw_p37, List.forall_mem_cons.mpr ⟨lw_p38, List.forall_mem_cons.mpr ⟨lw_p39, List.forall_mem_cons.mpr ⟨lw_p40, List.forall_mem_cons.mpr ⟨lw_p41, List.forall_mem_cons.mpr ⟨lw_p42, List.forall_mem_cons.mpr ⟨lw_p43, List.forall_mem_cons.mpr ⟨lw_p44, List.forall_mem_cons.mpr ⟨lw_p45, List.forall_mem_cons.mpr ⟨lw_p46, List.forall_mem_cons.mpr ⟨lw_p47, fun _ h => absurd h List.not_mem_nil⟩⟩⟩⟩⟩⟩⟩⟩⟩⟩⟩⟩⟩⟩⟩⟩
theorem lw_p48 : lw_okq (⟨"CashDeriverModel", "its", "(II)I"⟩, 26) := ⟨⟨by decide +kernel, by decide +kernel⟩, List.mem_of_getElem? (i := 903) (by decide +kernel), List.mem_of_getElem? (i := 1082) (by decide +kernel), List.mem_of_getElem? (i := 1083) (by decide +kernel)⟩
theorem lw_p49 : lw_okq (⟨"CashDeriverModel", "isAccount", "(I)Z"⟩, 26) := ⟨⟨by decide +kernel, by decide +kernel⟩, List.mem_of_getElem? (i := 903) (by decide +kernel), List.mem_of_getElem? (i := 1090) (by decide +kernel), List.mem_of_getElem? (i := 1091) (by decide +kernel)⟩
theorem lw_p50 : lw_okq (⟨"CashDeriverModel", "refuse", "()I"⟩, 26) := ⟨⟨by decide +kernel, by decide +kernel⟩, List.mem_of_getElem? (i := 903) (by decide +kernel), List.mem_of_getElem? (i := 1094) (by decide +kernel), List.mem_of_getElem? (i := 1095) (by decide +kernel)⟩
theorem lw_p51 : lw_okq (⟨"CashDeriverModel", "kindOf", "(I)I"⟩, 26) := ⟨⟨by decide +kernel, by decide +kernel⟩, List.mem_of_getElem? (i := 903) (by decide +kernel), List.mem_of_getElem? (i := 1098) (by decide +kernel), List.mem_of_getElem? (i := 1099) (by decide +kernel)⟩
theorem lw_p52 : lw_okq (⟨"CashDeriverModel", "balanceOf", "(II)I"⟩, 26) := ⟨⟨by decide +kernel, by decide +kernel⟩, List.mem_of_getElem? (i := 903) (by decide +kernel), List.mem_of_getElem? (i := 1102) (by decide +kernel), List.mem_of_getElem? (i := 1103) (by decide +kernel)⟩
theorem lw_p53 : lw_okq (⟨"CashDeriverModel", "movedIn", "(III)I"⟩, 26) := ⟨⟨by decide +kernel, by decide +kernel⟩, List.mem_of_getElem? (i := 903) (by decide +kernel), List.mem_of_getElem? (i := 1106) (by decide +kernel), List.mem_of_getElem? (i := 1107) (by decide +kernel)⟩
theorem lw_p54 : lw_okq (⟨"CashDeriverModel", "counts", "(III)Z"⟩, 26) := ⟨⟨by decide +kernel, by decide +kernel⟩, List.mem_of_getElem? (i := 903) (by decide +kernel), List.mem_of_getElem? (i := 1110) (by decide +kernel), List.mem_of_getElem? (i := 1111) (by decide +kernel)⟩
theorem lw_p55 : lw_okq (⟨"CashDeriverModel", "moved", "(II)I"⟩, 26) := ⟨⟨by decide +kernel, by decide +kernel⟩, List.mem_of_getElem? (i := 903) (by decide +kernel), List.mem_of_getElem? (i := 1114) (by decide +kernel), List.mem_of_getElem? (i := 1115) (by decide +kernel)⟩
theorem lw_p56 : lw_okq (⟨"CashDeriverModel", "lineOf", "(II)I"⟩, 26) := ⟨⟨by decide +kernel, by decide +kernel⟩, List.mem_of_getElem? (i := 903) (by decide +kernel), List.mem_of_getElem? (i := 1118) (by decide +kernel), List.mem_of_getElem? (i := 1119) (by decide +kernel)⟩
theorem lw_p57 : lw_okq (⟨"CashDeriverModel", "amountOf", "(II)I"⟩, 26) := ⟨⟨by decide +kernel, by decide +kernel⟩, List.mem_of_getElem? (i := 903) (by decide +kernel), List.mem_of_getElem? (i := 1122) (by decide +kernel), List.mem_of_getElem? (i := 1123) (by decide +kernel)⟩
theorem lw_p58 : lw_okq (⟨"CashDeriverModel", "residual", "(I)I"⟩, 26) := ⟨⟨by decide +kernel, by decide +kernel⟩, List.mem_of_getElem? (i := 903) (by decide +kernel), List.mem_of_getElem? (i := 1126) (by decide +kernel), List.mem_of_getElem? (i := 1127) (by decide +kernel)⟩
theorem lw_p59 : lw_okq (⟨"CashDeriverModel", "isJournal", "(I)Z"⟩, 26) := ⟨⟨by decide +kernel, by decide +kernel⟩, List.mem_of_getElem? (i := 903) (by decide +kernel), List.mem_of_getElem? (i := 1134) (by decide +kernel), List.mem_of_getElem? (i := 1135) (by decide +kernel)⟩
theorem lw_p60 : lw_okq (⟨"CashDeriverModel", "laysPieces", "(I)V"⟩, 26) := ⟨⟨by decide +kernel, by decide +kernel⟩, List.mem_of_getElem? (i := 903) (by decide +kernel), List.mem_of_getElem? (i := 1138) (by decide +kernel), List.mem_of_getElem? (i := 1139) (by decide +kernel)⟩
theorem lw_p61 : lw_okq (⟨"CashDeriverModel", "tries", "(III)V"⟩, 26) := ⟨⟨by decide +kernel, by decide +kernel⟩, List.mem_of_getElem? (i := 903) (by decide +kernel), List.mem_of_getElem? (i := 1142) (by decide +kernel), List.mem_of_getElem? (i := 1143) (by decide +kernel)⟩
theorem lw_p62 : lw_okq (⟨"CashDeriverModel", "nextLine", "(IIZ)I"⟩, 26) := ⟨⟨by decide +kernel, by decide +kernel⟩, List.mem_of_getElem? (i := 903) (by decide +kernel), List.mem_of_getElem? (i := 1146) (by decide +kernel), List.mem_of_getElem? (i := 1147) (by decide +kernel)⟩
theorem lw_p63 : lw_okq (⟨"CashDeriverModel", "classOf", "(I)I"⟩, 26) := ⟨⟨by decide +kernel, by decide +kernel⟩, List.mem_of_getElem? (i := 903) (by decide +kernel), List.mem_of_getElem? (i := 1154) (by decide +kernel), List.mem_of_getElem? (i := 1155) (by decide +kernel)⟩
def lw_privs_4 : List (MethodName × Nat) := [(⟨"CashDeriverModel", "its", "(II)I"⟩, 26), (⟨"CashDeriverModel", "isAccount", "(I)Z"⟩, 26), (⟨"CashDeriverModel", "refuse", "()I"⟩, 26), (⟨"CashDeriverModel", "kindOf", "(I)I"⟩, 26), (⟨"CashDeriverModel", "balanceOf", "(II)I"⟩, 26), (⟨"CashDeriverModel", "movedIn", "(III)I"⟩, 26), (⟨"CashDeriverModel", "counts", "(III)Z"⟩, 26), (⟨"CashDeriverModel", "moved", "(II)I"⟩, 26), (⟨"CashDeriverModel", "lineOf", "(II)I"⟩, 26), (⟨"CashDeriverModel", "amountOf", "(II)I"⟩, 26), (⟨"CashDeriverModel", "residual", "(I)I"⟩, 26), (⟨"CashDeriverModel", "isJournal", "(I)Z"⟩, 26), (⟨"CashDeriverModel", "laysPieces", "(I)V"⟩, 26), (⟨"CashDeriverModel", "tries", "(III)V"⟩, 26), (⟨"CashDeriverModel", "nextLine", "(IIZ)I"⟩, 26), (⟨"CashDeriverModel", "classOf", "(I)I"⟩, 26)]
theorem lw_r4 : ∀ q ∈ lw_privs_4, lw_okq q := List.forall_mem_cons.mpr ⟨lw_p48, List.forall_mem_cons.mpr ⟨lw_p49, List.forall_mem_cons.mpr ⟨lw_p50, List.forall_mem_cons.mpr ⟨lw_p51, List.forall_mem_cons.mpr ⟨lw_p52, List.forall_mem_cons.mpr ⟨lw_p53, List.forall_mem_cons.mpr ⟨lw_p54, List.forall_mem_cons.mpr ⟨lw_p55, List.forall_mem_cons.mpr ⟨lw_p56, List.forall_mem_cons.mpr ⟨lw_p57, List.forall_mem_cons.mpr ⟨lw_p58, List.forall_mem_cons.mpr ⟨lw_p59, List.forall_mem_cons.mpr ⟨lw_p60, List.forall_mem_cons.mpr ⟨lw_p61, List.forall_mem_cons.mpr ⟨lw_p62, List.forall_mem_cons.mpr ⟨lw_p63, fun _ h => absurd h List.not_mem_nil⟩⟩⟩⟩⟩⟩⟩⟩⟩⟩⟩⟩⟩⟩⟩⟩
theorem lw_p64 : lw_okq (⟨"CashDeriverModel", "credited", "(III)I"⟩, 26) := ⟨⟨by decide +kernel, by decide +kernel⟩, List.mem_of_getElem? (i := 903) (by decide +kernel), List.mem_of_getElem? (i := 1173) (by decide +kernel), List.mem_of_getElem? (i := 1174) (by decide +kernel)⟩
theorem lw_p65 : lw_okq (⟨"CashDeriverModel", "apart", "(II)I"⟩, 26) := ⟨⟨by decide +kernel, by decide +kernel⟩, List.mem_of_getElem? (i := 903) (by decide +kernel), List.mem_of_getElem? (i := 1177) (by decide +kernel), List.mem_of_getElem? (i := 1178) (by decide +kernel)⟩
theorem lw_p66 : lw_okq (⟨"CashDeriverModel", "isCounted", "(I)Z"⟩, 26) := ⟨⟨by decide +kernel, by decide +kernel⟩, List.mem_of_getElem? (i := 903) (by decide +kernel), List.mem_of_getElem? (i := 1204) (by decide +kernel), List.mem_of_getElem? (i := 1205) (by decide +kernel)⟩
theorem lw_p67 : lw_okq (⟨"CashDeriverModel", "explains", "(III)Z"⟩, 26) := ⟨⟨by decide +kernel, by decide +kernel⟩, List.mem_of_getElem? (i := 903) (by decide +kernel), List.mem_of_getElem? (i := 1208) (by decide +kernel), List.mem_of_getElem? (i := 1209) (by decide +kernel)⟩
theorem lw_p68 : lw_okq (⟨"CashDeriverModel", "canPost", "(III)Z"⟩, 26) := ⟨⟨by decide +kernel, by decide +kernel⟩, List.mem_of_getElem? (i := 903) (by decide +kernel), List.mem_of_getElem? (i := 1219) (by decide +kernel), List.mem_of_getElem? (i := 1220) (by decide +kernel)⟩
theorem lw_p69 : lw_okq (⟨"CashDeriverModel", "snap", "()V"⟩, 26) := ⟨⟨by decide +kernel, by decide +kernel⟩, List.mem_of_getElem? (i := 903) (by decide +kernel), List.mem_of_getElem? (i := 1223) (by decide +kernel), List.mem_of_getElem? (i := 1224) (by decide +kernel)⟩
theorem lw_p70 : lw_okq (⟨"CashDeriverModel", "adds", "(IIII)I"⟩, 26) := ⟨⟨by decide +kernel, by decide +kernel⟩, List.mem_of_getElem? (i := 903) (by decide +kernel), List.mem_of_getElem? (i := 1227) (by decide +kernel), List.mem_of_getElem? (i := 1228) (by decide +kernel)⟩
def lw_privs_5 : List (MethodName × Nat) := [(⟨"CashDeriverModel", "credited", "(III)I"⟩, 26), (⟨"CashDeriverModel", "apart", "(II)I"⟩, 26), (⟨"CashDeriverModel", "isCounted", "(I)Z"⟩, 26), (⟨"CashDeriverModel", "explains", "(III)Z"⟩, 26), (⟨"CashDeriverModel", "canPost", "(III)Z"⟩, 26), (⟨"CashDeriverModel", "snap", "()V"⟩, 26), (⟨"CashDeriverModel", "adds", "(IIII)I"⟩, 26)]
theorem lw_r5 : ∀ q ∈ lw_privs_5, lw_okq q := List.forall_mem_cons.mpr ⟨lw_p64, List.forall_mem_cons.mpr ⟨lw_p65, List.forall_mem_cons.mpr ⟨lw_p66, List.forall_mem_cons.mpr ⟨lw_p67, List.forall_mem_cons.mpr ⟨lw_p68, List.forall_mem_cons.mpr ⟨lw_p69, List.forall_mem_cons.mpr ⟨lw_p70, fun _ h => absurd h List.not_mem_nil⟩⟩⟩⟩⟩⟩⟩
def lw_privs : List (MethodName × Nat) := lw_privs_1 ++ (lw_privs_2 ++ (lw_privs_3 ++ (lw_privs_4 ++ (lw_privs_5))))
def lw_tbl : List Cond := k2_sels lw_privs ++ tables_1
theorem lw_privs_ok : ∀ q ∈ lw_privs, lw_okq q := by
  show ∀ q ∈ lw_privs_1 ++ (lw_privs_2 ++ (lw_privs_3 ++ (lw_privs_4 ++ (lw_privs_5)))), lw_okq q
  exact List.forall_mem_append.mpr ⟨lw_r1, List.forall_mem_append.mpr ⟨lw_r2, List.forall_mem_append.mpr ⟨lw_r3, List.forall_mem_append.mpr ⟨lw_r4, lw_r5⟩⟩⟩⟩
end
section
def RX0 : String := "CashDeriver$Acts"
def TX0 : u_T := fun k => match k with
  | 0 => ("CashDeriver$Acts", "sorts", "[I", true)
  | 1 => ("CashDeriver$Acts", "targets", "[I", true)
  | 2 => ("CashDeriver$Acts", "befores", "[I", true)
  | _ => ("CashDeriver$Acts", "size", "I", false)
def tyX0 : Nat → FieldType := fun k => match k with
  | 0 => .array .int
  | 1 => .array .int
  | 2 => .array .int
  | _ => .int
abbrev wsX00 : List Cond := u_ws RX0 TX0 4
theorem nmX0 : ∀ a, a < 4 → ∀ b, b < 4 → a ≠ b → (TX0 a).2.1 ≠ (TX0 b).2.1 := by decide +kernel
theorem tyX0_ok : ∀ k, k < 4 → parseFieldDescriptor (TX0 k).2.2.1 = some (tyX0 k) := by decide +kernel
abbrev cX0_init : ByteArray := prog_2_method_1_code
def yX0_init : MethodName := ⟨RX0, "<init>", "()V"⟩
abbrev cX0_size : ByteArray := prog_2_method_2_code
def yX0_size : MethodName := ⟨RX0, "size", "()I"⟩
abbrev cX0_clear : ByteArray := prog_2_method_3_code
def yX0_clear : MethodName := ⟨RX0, "clear", "()V"⟩
abbrev cX0_keep : ByteArray := prog_2_method_4_code
def yX0_keep : MethodName := ⟨RX0, "keep", "(III)V"⟩
abbrev cX0_latestSort : ByteArray := prog_2_method_5_code
def yX0_latestSort : MethodName := ⟨RX0, "latestSort", "()I"⟩
abbrev cX0_latestTarget : ByteArray := prog_2_method_6_code
def yX0_latestTarget : MethodName := ⟨RX0, "latestTarget", "()I"⟩
abbrev cX0_latestBefore : ByteArray := prog_2_method_7_code
def yX0_latestBefore : MethodName := ⟨RX0, "latestBefore", "()I"⟩
abbrev cX0_dropLatest : ByteArray := prog_2_method_8_code
def yX0_dropLatest : MethodName := ⟨RX0, "dropLatest", "()V"⟩
abbrev cX0_dropOldest : ByteArray := prog_2_method_9_code
def yX0_dropOldest : MethodName := ⟨RX0, "dropOldest", "()V"⟩
def RX1 : String := "CashDeriver$Book"
def TX1 : u_T := fun k => match k with
  | 0 => ("CashDeriver$Book", "kinds", "[I", true)
  | 1 => ("CashDeriver$Book", "firsts", "[I", true)
  | 2 => ("CashDeriver$Book", "tolds", "[I", true)
  | 3 => ("CashDeriver$Book", "rows", "[LCashDeriver$Journal;", true)
  | 4 => ("CashDeriver$Book", "accounts", "I", false)
  | _ => ("CashDeriver$Book", "journals", "I", false)
def tyX1 : Nat → FieldType := fun k => match k with
  | 0 => .array .int
  | 1 => .array .int
  | 2 => .array .int
  | 3 => .array (.object "CashDeriver$Journal")
  | 4 => .int
  | _ => .int
abbrev wsX10 : List Cond := u_ws RX1 TX1 6
theorem nmX1 : ∀ a, a < 6 → ∀ b, b < 6 → a ≠ b → (TX1 a).2.1 ≠ (TX1 b).2.1 := by decide +kernel
theorem tyX1_ok : ∀ k, k < 6 → parseFieldDescriptor (TX1 k).2.2.1 = some (tyX1 k) := by decide +kernel
abbrev cX1_init : ByteArray := prog_3_method_1_code
def yX1_init : MethodName := ⟨RX1, "<init>", "()V"⟩
abbrev cX1_clear : ByteArray := prog_3_method_2_code
def yX1_clear : MethodName := ⟨RX1, "clear", "()V"⟩
abbrev cX1_accounts : ByteArray := prog_3_method_3_code
def yX1_accounts : MethodName := ⟨RX1, "accounts", "()I"⟩
abbrev cX1_journals : ByteArray := prog_3_method_4_code
def yX1_journals : MethodName := ⟨RX1, "journals", "()I"⟩
abbrev cX1_hasAccount : ByteArray := prog_3_method_5_code
def yX1_hasAccount : MethodName := ⟨RX1, "hasAccount", "(I)Z"⟩
abbrev cX1_addAccount : ByteArray := prog_3_method_6_code
def yX1_addAccount : MethodName := ⟨RX1, "addAccount", "(II)V"⟩
abbrev cX1_kindOf : ByteArray := prog_3_method_7_code
def yX1_kindOf : MethodName := ⟨RX1, "kindOf", "(I)I"⟩
abbrev cX1_setKind : ByteArray := prog_3_method_8_code
def yX1_setKind : MethodName := ⟨RX1, "setKind", "(II)V"⟩
abbrev cX1_firstOf : ByteArray := prog_3_method_9_code
def yX1_firstOf : MethodName := ⟨RX1, "firstOf", "(I)I"⟩
abbrev cX1_isTold : ByteArray := prog_3_method_10_code
def yX1_isTold : MethodName := ⟨RX1, "isTold", "(I)Z"⟩
abbrev cX1_toldOf : ByteArray := prog_3_method_11_code
def yX1_toldOf : MethodName := ⟨RX1, "toldOf", "(I)I"⟩
abbrev cX1_setTold : ByteArray := prog_3_method_12_code
def yX1_setTold : MethodName := ⟨RX1, "setTold", "(II)V"⟩
abbrev cX1_toldOnes : ByteArray := prog_3_method_13_code
def yX1_toldOnes : MethodName := ⟨RX1, "toldOnes", "()I"⟩
abbrev cX1_find : ByteArray := prog_3_method_14_code
def yX1_find : MethodName := ⟨RX1, "find", "(I)LCashDeriver$Journal;"⟩
abbrev cX1_open : ByteArray := prog_3_method_15_code
def yX1_open : MethodName := ⟨RX1, "open", "(I)LCashDeriver$Journal;"⟩
abbrev cX1_dropLatest : ByteArray := prog_3_method_16_code
def yX1_dropLatest : MethodName := ⟨RX1, "dropLatest", "()V"⟩
abbrev cX1_counting : ByteArray := prog_3_method_17_code
def yX1_counting : MethodName := ⟨RX1, "counting", "(III)LCashDeriver$Journal;"⟩
abbrev cX1_struckOnes : ByteArray := prog_3_method_18_code
def yX1_struckOnes : MethodName := ⟨RX1, "struckOnes", "()I"⟩
abbrev cX1_balanceOf : ByteArray := prog_3_method_19_code
def yX1_balanceOf : MethodName := ⟨RX1, "balanceOf", "(II)I"⟩
abbrev cX1_residualOf : ByteArray := prog_3_method_20_code
def yX1_residualOf : MethodName := ⟨RX1, "residualOf", "(I)I"⟩
abbrev cX1_netOfKind : ByteArray := prog_3_method_21_code
def yX1_netOfKind : MethodName := ⟨RX1, "netOfKind", "(III)I"⟩
abbrev cX1_sortOf : ByteArray := prog_3_method_22_code
def yX1_sortOf : MethodName := ⟨RX1, "sortOf", "(LCashDeriver$Journal;I)I"⟩
abbrev cX1_cashMoved : ByteArray := prog_3_method_23_code
def yX1_cashMoved : MethodName := ⟨RX1, "cashMoved", "(IZII)I"⟩
abbrev cX1_makersOf : ByteArray := prog_3_method_24_code
def yX1_makersOf : MethodName := ⟨RX1, "makersOf", "(III)I"⟩
abbrev cX1_dealt : ByteArray := prog_3_method_25_code
def yX1_dealt : MethodName := ⟨RX1, "dealt", "(IIII)I"⟩
abbrev cX1_setApart : ByteArray := prog_3_method_26_code
def yX1_setApart : MethodName := ⟨RX1, "setApart", "(II)I"⟩
abbrev cX1_apartBy : ByteArray := prog_3_method_27_code
def yX1_apartBy : MethodName := ⟨RX1, "apartBy", "(LCashDeriver$Journal;I)I"⟩
abbrev cX1_classOf : ByteArray := prog_3_method_28_code
def yX1_classOf : MethodName := ⟨RX1, "classOf", "(I)I"⟩
def RX2 : String := "CashDeriver$Journal"
def TX2 : u_T := fun k => match k with
  | 0 => ("CashDeriver$Journal", "lineAccount", "[I", true)
  | 1 => ("CashDeriver$Journal", "lineAmount", "[I", true)
  | 2 => ("CashDeriver$Journal", "lineGroup", "[I", true)
  | 3 => ("CashDeriver$Journal", "pieceCredited", "[I", true)
  | 4 => ("CashDeriver$Journal", "pieceDebited", "[I", true)
  | 5 => ("CashDeriver$Journal", "pieceMoved", "[I", true)
  | 6 => ("CashDeriver$Journal", "period", "I", false)
  | 7 => ("CashDeriver$Journal", "lines", "I", false)
  | 8 => ("CashDeriver$Journal", "groups", "I", false)
  | 9 => ("CashDeriver$Journal", "pieces", "I", false)
  | _ => ("CashDeriver$Journal", "struck", "Z", false)
def tyX2 : Nat → FieldType := fun k => match k with
  | 0 => .array .int
  | 1 => .array .int
  | 2 => .array .int
  | 3 => .array .int
  | 4 => .array .int
  | 5 => .array .int
  | 6 => .int
  | 7 => .int
  | 8 => .int
  | 9 => .int
  | _ => .boolean
abbrev wsX20 : List Cond := u_ws RX2 TX2 11
theorem nmX2 : ∀ a, a < 11 → ∀ b, b < 11 → a ≠ b → (TX2 a).2.1 ≠ (TX2 b).2.1 := by decide +kernel
theorem tyX2_ok : ∀ k, k < 11 → parseFieldDescriptor (TX2 k).2.2.1 = some (tyX2 k) := by decide +kernel
abbrev cX2_init : ByteArray := prog_4_method_1_code
def yX2_init : MethodName := ⟨RX2, "<init>", "()V"⟩
abbrev cX2_begin : ByteArray := prog_4_method_2_code
def yX2_begin : MethodName := ⟨RX2, "begin", "(I)V"⟩
abbrev cX2_period : ByteArray := prog_4_method_3_code
def yX2_period : MethodName := ⟨RX2, "period", "()I"⟩
abbrev cX2_lines : ByteArray := prog_4_method_4_code
def yX2_lines : MethodName := ⟨RX2, "lines", "()I"⟩
abbrev cX2_groups : ByteArray := prog_4_method_5_code
def yX2_groups : MethodName := ⟨RX2, "groups", "()I"⟩
abbrev cX2_pieces : ByteArray := prog_4_method_6_code
def yX2_pieces : MethodName := ⟨RX2, "pieces", "()I"⟩
abbrev cX2_isStruck : ByteArray := prog_4_method_7_code
def yX2_isStruck : MethodName := ⟨RX2, "isStruck", "()Z"⟩
abbrev cX2_toggle : ByteArray := prog_4_method_8_code
def yX2_toggle : MethodName := ⟨RX2, "toggle", "()V"⟩
abbrev cX2_countsIn : ByteArray := prog_4_method_9_code
def yX2_countsIn : MethodName := ⟨RX2, "countsIn", "(II)Z"⟩
abbrev cX2_add : ByteArray := prog_4_method_10_code
def yX2_add : MethodName := ⟨RX2, "add", "(II)V"⟩
abbrev cX2_dropTransfer : ByteArray := prog_4_method_11_code
def yX2_dropTransfer : MethodName := ⟨RX2, "dropTransfer", "()V"⟩
abbrev cX2_accountOf : ByteArray := prog_4_method_12_code
def yX2_accountOf : MethodName := ⟨RX2, "accountOf", "(I)I"⟩
abbrev cX2_amountOf : ByteArray := prog_4_method_13_code
def yX2_amountOf : MethodName := ⟨RX2, "amountOf", "(I)I"⟩
abbrev cX2_groupOf : ByteArray := prog_4_method_14_code
def yX2_groupOf : MethodName := ⟨RX2, "groupOf", "(I)I"⟩
abbrev cX2_total : ByteArray := prog_4_method_15_code
def yX2_total : MethodName := ⟨RX2, "total", "()I"⟩
abbrev cX2_netOf : ByteArray := prog_4_method_16_code
def yX2_netOf : MethodName := ⟨RX2, "netOf", "(I)I"⟩
abbrev cX2_setGroup : ByteArray := prog_4_method_17_code
def yX2_setGroup : MethodName := ⟨RX2, "setGroup", "(II)V"⟩
abbrev cX2_setGroups : ByteArray := prog_4_method_18_code
def yX2_setGroups : MethodName := ⟨RX2, "setGroups", "(I)V"⟩
abbrev cX2_dropPieces : ByteArray := prog_4_method_19_code
def yX2_dropPieces : MethodName := ⟨RX2, "dropPieces", "()V"⟩
abbrev cX2_addPiece : ByteArray := prog_4_method_20_code
def yX2_addPiece : MethodName := ⟨RX2, "addPiece", "(III)V"⟩
abbrev cX2_creditedOf : ByteArray := prog_4_method_21_code
def yX2_creditedOf : MethodName := ⟨RX2, "creditedOf", "(I)I"⟩
abbrev cX2_debitedOf : ByteArray := prog_4_method_22_code
def yX2_debitedOf : MethodName := ⟨RX2, "debitedOf", "(I)I"⟩
abbrev cX2_movedOf : ByteArray := prog_4_method_23_code
def yX2_movedOf : MethodName := ⟨RX2, "movedOf", "(I)I"⟩
abbrev cX2_hasLine : ByteArray := prog_4_method_24_code
def yX2_hasLine : MethodName := ⟨RX2, "hasLine", "(I)Z"⟩
abbrev cX2_hasPiece : ByteArray := prog_4_method_25_code
def yX2_hasPiece : MethodName := ⟨RX2, "hasPiece", "(I)Z"⟩
def RX3 : String := "CashDeriver$Parter"
def TX3 : u_T := fun k => match k with
  | 0 => ("CashDeriver$Parter", "way", "[I", true)
  | 1 => ("CashDeriver$Parter", "sums", "[I", true)
  | _ => ("CashDeriver$Parter", "left", "[I", true)
def tyX3 : Nat → FieldType := fun k => match k with
  | 0 => .array .int
  | 1 => .array .int
  | _ => .array .int
abbrev wsX30 : List Cond := u_ws RX3 TX3 3
theorem nmX3 : ∀ a, a < 3 → ∀ b, b < 3 → a ≠ b → (TX3 a).2.1 ≠ (TX3 b).2.1 := by decide +kernel
theorem tyX3_ok : ∀ k, k < 3 → parseFieldDescriptor (TX3 k).2.2.1 = some (tyX3 k) := by decide +kernel
abbrev cX3_init : ByteArray := prog_5_method_1_code
def yX3_init : MethodName := ⟨RX3, "<init>", "()V"⟩
abbrev cX3_part : ByteArray := prog_5_method_2_code
def yX3_part : MethodName := ⟨RX3, "part", "(LCashDeriver$Journal;)V"⟩
abbrev cX3_cut : ByteArray := prog_5_method_3_code
def yX3_cut : MethodName := ⟨RX3, "cut", "(LCashDeriver$Journal;)V"⟩
abbrev cX3_firstWay : ByteArray := prog_5_method_4_code
def yX3_firstWay : MethodName := ⟨RX3, "firstWay", "()V"⟩
abbrev cX3_takeWay : ByteArray := prog_5_method_5_code
def yX3_takeWay : MethodName := ⟨RX3, "takeWay", "(LCashDeriver$Journal;I)V"⟩
abbrev cX3_nextWay : ByteArray := prog_5_method_6_code
def yX3_nextWay : MethodName := ⟨RX3, "nextWay", "(I)Z"⟩
abbrev cX3_highestAhead : ByteArray := prog_5_method_7_code
def yX3_highestAhead : MethodName := ⟨RX3, "highestAhead", "(I)I"⟩
abbrev cX3_balancedGroups : ByteArray := prog_5_method_8_code
def yX3_balancedGroups : MethodName := ⟨RX3, "balancedGroups", "(LCashDeriver$Journal;I)I"⟩
abbrev cX3_cutGroup : ByteArray := prog_5_method_9_code
def yX3_cutGroup : MethodName := ⟨RX3, "cutGroup", "(LCashDeriver$Journal;I)V"⟩
abbrev cX3_firstLeft : ByteArray := prog_5_method_10_code
def yX3_firstLeft : MethodName := ⟨RX3, "firstLeft", "(LCashDeriver$Journal;II)I"⟩
def RX4 : String := "CashDeriver$Reader"
def TX4 : u_T := fun k => match k with
  | 0 => ("CashDeriver$Reader", "tape", "LCashDeriver$Tape;", true)
  | 1 => ("CashDeriver$Reader", "token", "I", false)
  | 2 => ("CashDeriver$Reader", "place", "I", false)
  | 3 => ("CashDeriver$Reader", "next", "I", false)
  | 4 => ("CashDeriver$Reader", "value", "I", false)
  | 5 => ("CashDeriver$Reader", "amount", "I", false)
  | 6 => ("CashDeriver$Reader", "faultKind", "I", false)
  | _ => ("CashDeriver$Reader", "faultPlace", "I", false)
def tyX4 : Nat → FieldType := fun k => match k with
  | 0 => .object "CashDeriver$Tape"
  | 1 => .int
  | 2 => .int
  | 3 => .int
  | 4 => .int
  | 5 => .int
  | 6 => .int
  | _ => .int
abbrev wsX40 : List Cond := u_ws RX4 TX4 8
theorem nmX4 : ∀ a, a < 8 → ∀ b, b < 8 → a ≠ b → (TX4 a).2.1 ≠ (TX4 b).2.1 := by decide +kernel
theorem tyX4_ok : ∀ k, k < 8 → parseFieldDescriptor (TX4 k).2.2.1 = some (tyX4 k) := by decide +kernel
abbrev cX4_init : ByteArray := prog_6_method_1_code
def yX4_init : MethodName := ⟨RX4, "<init>", "(LCashDeriver$Tape;)V"⟩
abbrev cX4_faultKind : ByteArray := prog_6_method_2_code
def yX4_faultKind : MethodName := ⟨RX4, "faultKind", "()I"⟩
abbrev cX4_faultPlace : ByteArray := prog_6_method_3_code
def yX4_faultPlace : MethodName := ⟨RX4, "faultPlace", "()I"⟩
abbrev cX4_read : ByteArray := prog_6_method_4_code
def yX4_read : MethodName := ⟨RX4, "read", "(LCashDeriver$Book;)Z"⟩
abbrev cX4_readAccount : ByteArray := prog_6_method_5_code
def yX4_readAccount : MethodName := ⟨RX4, "readAccount", "(LCashDeriver$Book;)Z"⟩
abbrev cX4_readJournal : ByteArray := prog_6_method_6_code
def yX4_readJournal : MethodName := ⟨RX4, "readJournal", "(LCashDeriver$Book;)Z"⟩
abbrev cX4_readLine : ByteArray := prog_6_method_7_code
def yX4_readLine : MethodName := ⟨RX4, "readLine", "(LCashDeriver$Journal;I)Z"⟩
abbrev cX4_readAmount : ByteArray := prog_6_method_8_code
def yX4_readAmount : MethodName := ⟨RX4, "readAmount", "(I)Z"⟩
abbrev cX4_isNumberBelow : ByteArray := prog_6_method_9_code
def yX4_isNumberBelow : MethodName := ⟨RX4, "isNumberBelow", "(I)Z"⟩
abbrev cX4_refuse : ByteArray := prog_6_method_10_code
def yX4_refuse : MethodName := ⟨RX4, "refuse", "(I)Z"⟩
abbrev cX4_kindNamed : ByteArray := prog_6_method_11_code
def yX4_kindNamed : MethodName := ⟨RX4, "kindNamed", "()I"⟩
abbrev cX4_nameOf : ByteArray := prog_6_method_12_code
def yX4_nameOf : MethodName := ⟨RX4, "nameOf", "(I)Ljava/lang/String;"⟩
abbrev cX4_isWord : ByteArray := prog_6_method_13_code
def yX4_isWord : MethodName := ⟨RX4, "isWord", "(Ljava/lang/String;)Z"⟩
abbrev cX4_step : ByteArray := prog_6_method_14_code
def yX4_step : MethodName := ⟨RX4, "step", "()V"⟩
abbrev cX4_stepOverRun : ByteArray := prog_6_method_15_code
def yX4_stepOverRun : MethodName := ⟨RX4, "stepOverRun", "()V"⟩
def RX5 : String := "CashDeriver$Tape"
def TX5 : u_T := fun k => match k with
  | 0 => ("CashDeriver$Tape", "bytes", "[B", true)
  | _ => ("CashDeriver$Tape", "size", "I", false)
def tyX5 : Nat → FieldType := fun k => match k with
  | 0 => .array .byte
  | _ => .int
abbrev wsX50 : List Cond := u_ws RX5 TX5 2
theorem nmX5 : ∀ a, a < 2 → ∀ b, b < 2 → a ≠ b → (TX5 a).2.1 ≠ (TX5 b).2.1 := by decide +kernel
theorem tyX5_ok : ∀ k, k < 2 → parseFieldDescriptor (TX5 k).2.2.1 = some (tyX5 k) := by decide +kernel
abbrev cX5_init : ByteArray := prog_7_method_1_code
def yX5_init : MethodName := ⟨RX5, "<init>", "()V"⟩
abbrev cX5_size : ByteArray := prog_7_method_2_code
def yX5_size : MethodName := ⟨RX5, "size", "()I"⟩
abbrev cX5_room : ByteArray := prog_7_method_3_code
def yX5_room : MethodName := ⟨RX5, "room", "()I"⟩
abbrev cX5_signAt : ByteArray := prog_7_method_4_code
def yX5_signAt : MethodName := ⟨RX5, "signAt", "(I)I"⟩
abbrev cX5_append : ByteArray := prog_7_method_5_code
def yX5_append : MethodName := ⟨RX5, "append", "(I)V"⟩
abbrev cX5_cut : ByteArray := prog_7_method_6_code
def yX5_cut : MethodName := ⟨RX5, "cut", "(I)Z"⟩
def RX6 : String := "CashDeriver$Tracer"
def TX6 : u_T := fun k => match k with
  | 0 => ("CashDeriver$Tracer", "numbers", "[I", true)
  | 1 => ("CashDeriver$Tracer", "shares", "[[I", true)
  | 2 => ("CashDeriver$Tracer", "excess", "[I", true)
  | 3 => ("CashDeriver$Tracer", "journals", "I", false)
  | _ => ("CashDeriver$Tracer", "accounts", "I", false)
def tyX6 : Nat → FieldType := fun k => match k with
  | 0 => .array .int
  | 1 => .array (.array .int)
  | 2 => .array .int
  | 3 => .int
  | _ => .int
abbrev wsX60 : List Cond := u_ws RX6 TX6 5
theorem nmX6 : ∀ a, a < 5 → ∀ b, b < 5 → a ≠ b → (TX6 a).2.1 ≠ (TX6 b).2.1 := by decide +kernel
theorem tyX6_ok : ∀ k, k < 5 → parseFieldDescriptor (TX6 k).2.2.1 = some (tyX6 k) := by decide +kernel
abbrev cX6_init : ByteArray := prog_8_method_1_code
def yX6_init : MethodName := ⟨RX6, "<init>", "()V"⟩
abbrev cX6_trace : ByteArray := prog_8_method_2_code
def yX6_trace : MethodName := ⟨RX6, "trace", "(LCashDeriver$Book;)I"⟩
abbrev cX6_gatherJournals : ByteArray := prog_8_method_3_code
def yX6_gatherJournals : MethodName := ⟨RX6, "gatherJournals", "(LCashDeriver$Book;)V"⟩
abbrev cX6_gatherAccounts : ByteArray := prog_8_method_4_code
def yX6_gatherAccounts : MethodName := ⟨RX6, "gatherAccounts", "(LCashDeriver$Book;)V"⟩
abbrev cX6_gatherShares : ByteArray := prog_8_method_5_code
def yX6_gatherShares : MethodName := ⟨RX6, "gatherShares", "(LCashDeriver$Book;I)V"⟩
abbrev cX6_searchOne : ByteArray := prog_8_method_6_code
def yX6_searchOne : MethodName := ⟨RX6, "searchOne", "()I"⟩
abbrev cX6_searchTwo : ByteArray := prog_8_method_7_code
def yX6_searchTwo : MethodName := ⟨RX6, "searchTwo", "()I"⟩
abbrev cX6_searchThree : ByteArray := prog_8_method_8_code
def yX6_searchThree : MethodName := ⟨RX6, "searchThree", "()I"⟩
abbrev cX6_explain : ByteArray := prog_8_method_9_code
def yX6_explain : MethodName := ⟨RX6, "explain", "(III)Z"⟩
abbrev cX6_bitOf : ByteArray := prog_8_method_10_code
def yX6_bitOf : MethodName := ⟨RX6, "bitOf", "(I)I"⟩
def RX7 : String := "CashDeriver"
def TX7 : u_T := fun k => match k with
  | 0 => ("CashDeriver", "tape", "LCashDeriver$Tape;", true)
  | 1 => ("CashDeriver", "reader", "LCashDeriver$Reader;", true)
  | 2 => ("CashDeriver", "parter", "LCashDeriver$Parter;", true)
  | 3 => ("CashDeriver", "tracer", "LCashDeriver$Tracer;", true)
  | 4 => ("CashDeriver", "acts", "LCashDeriver$Acts;", true)
  | 5 => ("CashDeriver", "book", "LCashDeriver$Book;", false)
  | _ => ("CashDeriver", "draft", "LCashDeriver$Book;", false)
def tyX7 : Nat → FieldType := fun k => match k with
  | 0 => .object "CashDeriver$Tape"
  | 1 => .object "CashDeriver$Reader"
  | 2 => .object "CashDeriver$Parter"
  | 3 => .object "CashDeriver$Tracer"
  | 4 => .object "CashDeriver$Acts"
  | 5 => .object "CashDeriver$Book"
  | _ => .object "CashDeriver$Book"
abbrev wsX70 : List Cond := u_ws RX7 TX7 7
theorem nmX7 : ∀ a, a < 7 → ∀ b, b < 7 → a ≠ b → (TX7 a).2.1 ≠ (TX7 b).2.1 := by decide +kernel
theorem tyX7_ok : ∀ k, k < 7 → parseFieldDescriptor (TX7 k).2.2.1 = some (tyX7 k) := by decide +kernel
abbrev cX7_init : ByteArray := prog_1_method_1_code
def yX7_init : MethodName := ⟨RX7, "<init>", "()V"⟩
abbrev cX7_feed : ByteArray := prog_1_method_2_code
def yX7_feed : MethodName := ⟨RX7, "feed", "(IIIII)I"⟩
abbrev cX7_end : ByteArray := prog_1_method_3_code
def yX7_end : MethodName := ⟨RX7, "end", "(I)Z"⟩
abbrev cX7_text : ByteArray := prog_1_method_4_code
def yX7_text : MethodName := ⟨RX7, "text", "()I"⟩
abbrev cX7_fault : ByteArray := prog_1_method_5_code
def yX7_fault : MethodName := ⟨RX7, "fault", "()I"⟩
abbrev cX7_now : ByteArray := prog_1_method_6_code
def yX7_now : MethodName := ⟨RX7, "now", "(I)I"⟩
abbrev cX7_account : ByteArray := prog_1_method_7_code
def yX7_account : MethodName := ⟨RX7, "account", "(II)I"⟩
abbrev cX7_journal : ByteArray := prog_1_method_8_code
def yX7_journal : MethodName := ⟨RX7, "journal", "(II)I"⟩
abbrev cX7_piece : ByteArray := prog_1_method_9_code
def yX7_piece : MethodName := ⟨RX7, "piece", "(III)I"⟩
abbrev cX7_direct : ByteArray := prog_1_method_10_code
def yX7_direct : MethodName := ⟨RX7, "direct", "(IIII)I"⟩
abbrev cX7_indirect : ByteArray := prog_1_method_11_code
def yX7_indirect : MethodName := ⟨RX7, "indirect", "(III)I"⟩
abbrev cX7_change : ByteArray := prog_1_method_12_code
def yX7_change : MethodName := ⟨RX7, "change", "(II)I"⟩
abbrev cX7_makes : ByteArray := prog_1_method_13_code
def yX7_makes : MethodName := ⟨RX7, "makes", "(III)I"⟩
abbrev cX7_deals : ByteArray := prog_1_method_14_code
def yX7_deals : MethodName := ⟨RX7, "deals", "(IIII)I"⟩
abbrev cX7_balance : ByteArray := prog_1_method_15_code
def yX7_balance : MethodName := ⟨RX7, "balance", "(II)I"⟩
abbrev cX7_traced : ByteArray := prog_1_method_16_code
def yX7_traced : MethodName := ⟨RX7, "traced", "()I"⟩
abbrev cX7_post : ByteArray := prog_1_method_17_code
def yX7_post : MethodName := ⟨RX7, "post", "(IIII)I"⟩
abbrev cX7_more : ByteArray := prog_1_method_18_code
def yX7_more : MethodName := ⟨RX7, "more", "(IIII)I"⟩
abbrev cX7_strike : ByteArray := prog_1_method_19_code
def yX7_strike : MethodName := ⟨RX7, "strike", "(I)I"⟩
abbrev cX7_tell : ByteArray := prog_1_method_20_code
def yX7_tell : MethodName := ⟨RX7, "tell", "(II)Z"⟩
abbrev cX7_turn : ByteArray := prog_1_method_21_code
def yX7_turn : MethodName := ⟨RX7, "turn", "(II)I"⟩
abbrev cX7_undo : ByteArray := prog_1_method_22_code
def yX7_undo : MethodName := ⟨RX7, "undo", "()I"⟩
abbrev cX7_isClass : ByteArray := prog_1_method_23_code
def yX7_isClass : MethodName := ⟨RX7, "isClass", "(I)Z"⟩
abbrev cX7_isPeriod : ByteArray := prog_1_method_24_code
def yX7_isPeriod : MethodName := ⟨RX7, "isPeriod", "(I)Z"⟩
abbrev cX7_arePeriods : ByteArray := prog_1_method_25_code
def yX7_arePeriods : MethodName := ⟨RX7, "arePeriods", "(II)Z"⟩
abbrev cX7_isTransfer : ByteArray := prog_1_method_26_code
def yX7_isTransfer : MethodName := ⟨RX7, "isTransfer", "(III)Z"⟩
abbrev cX7_addTransfer : ByteArray := prog_1_method_27_code
def yX7_addTransfer : MethodName := ⟨RX7, "addTransfer", "(LCashDeriver$Journal;III)V"⟩
abbrev cX7_settle : ByteArray := prog_1_method_28_code
def yX7_settle : MethodName := ⟨RX7, "settle", "(LCashDeriver$Journal;)V"⟩
abbrev cX7_takeBack : ByteArray := prog_1_method_29_code
def yX7_takeBack : MethodName := ⟨RX7, "takeBack", "(III)V"⟩
def RX8 : String := "CashDeriverModel"
def TX8 : u_T := fun k => match k with
  | 0 => ("CashDeriverModel", "thrown", "I", false)
  | 1 => ("CashDeriverModel", "tape", "[I", true)
  | 2 => ("CashDeriverModel", "taped", "I", false)
  | 3 => ("CashDeriverModel", "size", "I", false)
  | 4 => ("CashDeriverModel", "to", "I", false)
  | 5 => ("CashDeriverModel", "from", "I", false)
  | 6 => ("CashDeriverModel", "sort", "I", false)
  | 7 => ("CashDeriverModel", "number", "I", false)
  | 8 => ("CashDeriverModel", "fault", "I", false)
  | 9 => ("CashDeriverModel", "place", "I", false)
  | 10 => ("CashDeriverModel", "word", "J", false)
  | 11 => ("CashDeriverModel", "now", "[I", true)
  | 12 => ("CashDeriverModel", "read", "[I", true)
  | 13 => ("CashDeriverModel", "snaps", "[I", true)
  | 14 => ("CashDeriverModel", "snapMany", "I", false)
  | 15 => ("CashDeriverModel", "got", "I", false)
  | 16 => ("CashDeriverModel", "row", "[I", true)
  | 17 => ("CashDeriverModel", "group", "[I", true)
  | 18 => ("CashDeriverModel", "sums", "[I", true)
  | 19 => ("CashDeriverModel", "groups", "I", false)
  | 20 => ("CashDeriverModel", "giver", "[I", true)
  | 21 => ("CashDeriverModel", "taker", "[I", true)
  | 22 => ("CashDeriverModel", "much", "[I", true)
  | 23 => ("CashDeriverModel", "left", "[I", true)
  | 24 => ("CashDeriverModel", "pieces", "I", false)
  | _ => ("CashDeriverModel", "over", "[I", true)
def tyX8 : Nat → FieldType := fun k => match k with
  | 0 => .int
  | 1 => .array .int
  | 2 => .int
  | 3 => .int
  | 4 => .int
  | 5 => .int
  | 6 => .int
  | 7 => .int
  | 8 => .int
  | 9 => .int
  | 10 => .long
  | 11 => .array .int
  | 12 => .array .int
  | 13 => .array .int
  | 14 => .int
  | 15 => .int
  | 16 => .array .int
  | 17 => .array .int
  | 18 => .array .int
  | 19 => .int
  | 20 => .array .int
  | 21 => .array .int
  | 22 => .array .int
  | 23 => .array .int
  | 24 => .int
  | _ => .array .int
abbrev wsX80 : List Cond := u_ws RX8 TX8 26
theorem nmX8 : ∀ a, a < 26 → ∀ b, b < 26 → a ≠ b → (TX8 a).2.1 ≠ (TX8 b).2.1 := by decide +kernel
theorem tyX8_ok : ∀ k, k < 26 → parseFieldDescriptor (TX8 k).2.2.1 = some (tyX8 k) := by decide +kernel
abbrev cX8_thrown : ByteArray := prog_10_method_1_code
def yX8_thrown : MethodName := ⟨RX8, "thrown", "()I"⟩
abbrev cX8_refuse : ByteArray := prog_10_method_2_code
def yX8_refuse : MethodName := ⟨RX8, "refuse", "()I"⟩
abbrev cX8_isIn : ByteArray := prog_10_method_3_code
def yX8_isIn : MethodName := ⟨RX8, "isIn", "(III)Z"⟩
abbrev cX8_lays : ByteArray := prog_10_method_4_code
def yX8_lays : MethodName := ⟨RX8, "lays", "(I)V"⟩
abbrev cX8_feed : ByteArray := prog_10_method_5_code
def yX8_feed : MethodName := ⟨RX8, "feed", "(IIIII)I"⟩
abbrev cX8_end : ByteArray := prog_10_method_6_code
def yX8_end : MethodName := ⟨RX8, "end", "(I)Z"⟩
abbrev cX8_tapeAt : ByteArray := prog_10_method_7_code
def yX8_tapeAt : MethodName := ⟨RX8, "tapeAt", "(I)I"⟩
abbrev cX8_isDigit : ByteArray := prog_10_method_8_code
def yX8_isDigit : MethodName := ⟨RX8, "isDigit", "(I)Z"⟩
abbrev cX8_isLetter : ByteArray := prog_10_method_9_code
def yX8_isLetter : MethodName := ⟨RX8, "isLetter", "(I)Z"⟩
abbrev cX8_go : ByteArray := prog_10_method_10_code
def yX8_go : MethodName := ⟨RX8, "go", "()V"⟩
abbrev cX8_two : ByteArray := prog_10_method_11_code
def yX8_two : MethodName := ⟨RX8, "two", "(II)J"⟩
abbrev cX8_four : ByteArray := prog_10_method_12_code
def yX8_four : MethodName := ⟨RX8, "four", "(IIII)J"⟩
abbrev cX8_seven : ByteArray := prog_10_method_13_code
def yX8_seven : MethodName := ⟨RX8, "seven", "(IIIIIII)J"⟩
abbrev cX8_isWord : ByteArray := prog_10_method_14_code
def yX8_isWord : MethodName := ⟨RX8, "isWord", "(J)Z"⟩
abbrev cX8_isSign : ByteArray := prog_10_method_15_code
def yX8_isSign : MethodName := ⟨RX8, "isSign", "(I)Z"⟩
abbrev cX8_bad : ByteArray := prog_10_method_16_code
def yX8_bad : MethodName := ⟨RX8, "bad", "(I)Z"⟩
abbrev cX8_init : ByteArray := prog_10_method_17_code
def yX8_init : MethodName := ⟨RX8, "<init>", "()V"⟩
abbrev cX8_takes : ByteArray := prog_10_method_18_code
def yX8_takes : MethodName := ⟨RX8, "takes", "(II)Z"⟩
abbrev cX8_takesAmount : ByteArray := prog_10_method_19_code
def yX8_takesAmount : MethodName := ⟨RX8, "takesAmount", "(I)Z"⟩
abbrev cX8_kindHere : ByteArray := prog_10_method_20_code
def yX8_kindHere : MethodName := ⟨RX8, "kindHere", "()I"⟩
abbrev cX8_readAccount : ByteArray := prog_10_method_21_code
def yX8_readAccount : MethodName := ⟨RX8, "readAccount", "()Z"⟩
abbrev cX8_readLine : ByteArray := prog_10_method_22_code
def yX8_readLine : MethodName := ⟨RX8, "readLine", "(I)Z"⟩
abbrev cX8_readJournal : ByteArray := prog_10_method_23_code
def yX8_readJournal : MethodName := ⟨RX8, "readJournal", "()Z"⟩
abbrev cX8_readWhole : ByteArray := prog_10_method_24_code
def yX8_readWhole : MethodName := ⟨RX8, "readWhole", "()Z"⟩
abbrev cX8_text : ByteArray := prog_10_method_25_code
def yX8_text : MethodName := ⟨RX8, "text", "()I"⟩
abbrev cX8_fault : ByteArray := prog_10_method_26_code
def yX8_fault : MethodName := ⟨RX8, "fault", "()I"⟩
abbrev cX8_isAccount : ByteArray := prog_10_method_27_code
def yX8_isAccount : MethodName := ⟨RX8, "isAccount", "(I)Z"⟩
abbrev cX8_isJournal : ByteArray := prog_10_method_28_code
def yX8_isJournal : MethodName := ⟨RX8, "isJournal", "(I)Z"⟩
abbrev cX8_its : ByteArray := prog_10_method_29_code
def yX8_its : MethodName := ⟨RX8, "its", "(II)I"⟩
abbrev cX8_kindOf : ByteArray := prog_10_method_30_code
def yX8_kindOf : MethodName := ⟨RX8, "kindOf", "(I)I"⟩
abbrev cX8_told : ByteArray := prog_10_method_31_code
def yX8_told : MethodName := ⟨RX8, "told", "(II)I"⟩
abbrev cX8_lineOf : ByteArray := prog_10_method_32_code
def yX8_lineOf : MethodName := ⟨RX8, "lineOf", "(II)I"⟩
abbrev cX8_amountOf : ByteArray := prog_10_method_33_code
def yX8_amountOf : MethodName := ⟨RX8, "amountOf", "(II)I"⟩
abbrev cX8_counts : ByteArray := prog_10_method_34_code
def yX8_counts : MethodName := ⟨RX8, "counts", "(III)Z"⟩
abbrev cX8_moved : ByteArray := prog_10_method_35_code
def yX8_moved : MethodName := ⟨RX8, "moved", "(II)I"⟩
abbrev cX8_movedIn : ByteArray := prog_10_method_36_code
def yX8_movedIn : MethodName := ⟨RX8, "movedIn", "(III)I"⟩
abbrev cX8_balanceOf : ByteArray := prog_10_method_37_code
def yX8_balanceOf : MethodName := ⟨RX8, "balanceOf", "(II)I"⟩
abbrev cX8_residual : ByteArray := prog_10_method_38_code
def yX8_residual : MethodName := ⟨RX8, "residual", "(I)I"⟩
abbrev cX8_tries : ByteArray := prog_10_method_39_code
def yX8_tries : MethodName := ⟨RX8, "tries", "(III)V"⟩
abbrev cX8_nextLine : ByteArray := prog_10_method_40_code
def yX8_nextLine : MethodName := ⟨RX8, "nextLine", "(IIZ)I"⟩
abbrev cX8_laysPieces : ByteArray := prog_10_method_41_code
def yX8_laysPieces : MethodName := ⟨RX8, "laysPieces", "(I)V"⟩
abbrev cX8_classOf : ByteArray := prog_10_method_42_code
def yX8_classOf : MethodName := ⟨RX8, "classOf", "(I)I"⟩
abbrev cX8_now : ByteArray := prog_10_method_43_code
def yX8_now : MethodName := ⟨RX8, "now", "(I)I"⟩
abbrev cX8_account : ByteArray := prog_10_method_44_code
def yX8_account : MethodName := ⟨RX8, "account", "(II)I"⟩
abbrev cX8_journal : ByteArray := prog_10_method_45_code
def yX8_journal : MethodName := ⟨RX8, "journal", "(II)I"⟩
abbrev cX8_piece : ByteArray := prog_10_method_46_code
def yX8_piece : MethodName := ⟨RX8, "piece", "(III)I"⟩
abbrev cX8_arePeriods : ByteArray := prog_10_method_47_code
def yX8_arePeriods : MethodName := ⟨RX8, "arePeriods", "(II)Z"⟩
abbrev cX8_isClass : ByteArray := prog_10_method_48_code
def yX8_isClass : MethodName := ⟨RX8, "isClass", "(I)Z"⟩
abbrev cX8_direct : ByteArray := prog_10_method_49_code
def yX8_direct : MethodName := ⟨RX8, "direct", "(IIII)I"⟩
abbrev cX8_credited : ByteArray := prog_10_method_50_code
def yX8_credited : MethodName := ⟨RX8, "credited", "(III)I"⟩
abbrev cX8_isOfProfit : ByteArray := prog_10_method_51_code
def yX8_isOfProfit : MethodName := ⟨RX8, "isOfProfit", "(I)Z"⟩
abbrev cX8_apart : ByteArray := prog_10_method_52_code
def yX8_apart : MethodName := ⟨RX8, "apart", "(II)I"⟩
abbrev cX8_indirect : ByteArray := prog_10_method_53_code
def yX8_indirect : MethodName := ⟨RX8, "indirect", "(III)I"⟩
abbrev cX8_change : ByteArray := prog_10_method_54_code
def yX8_change : MethodName := ⟨RX8, "change", "(II)I"⟩
abbrev cX8_makes : ByteArray := prog_10_method_55_code
def yX8_makes : MethodName := ⟨RX8, "makes", "(III)I"⟩
abbrev cX8_deals : ByteArray := prog_10_method_56_code
def yX8_deals : MethodName := ⟨RX8, "deals", "(IIII)I"⟩
abbrev cX8_balance : ByteArray := prog_10_method_57_code
def yX8_balance : MethodName := ⟨RX8, "balance", "(II)I"⟩
abbrev cX8_explains : ByteArray := prog_10_method_58_code
def yX8_explains : MethodName := ⟨RX8, "explains", "(III)Z"⟩
abbrev cX8_isCounted : ByteArray := prog_10_method_59_code
def yX8_isCounted : MethodName := ⟨RX8, "isCounted", "(I)Z"⟩
abbrev cX8_bit : ByteArray := prog_10_method_60_code
def yX8_bit : MethodName := ⟨RX8, "bit", "(I)I"⟩
abbrev cX8_traced : ByteArray := prog_10_method_61_code
def yX8_traced : MethodName := ⟨RX8, "traced", "()I"⟩
abbrev cX8_snap : ByteArray := prog_10_method_62_code
def yX8_snap : MethodName := ⟨RX8, "snap", "()V"⟩
abbrev cX8_canPost : ByteArray := prog_10_method_63_code
def yX8_canPost : MethodName := ⟨RX8, "canPost", "(III)Z"⟩
abbrev cX8_adds : ByteArray := prog_10_method_64_code
def yX8_adds : MethodName := ⟨RX8, "adds", "(IIII)I"⟩
abbrev cX8_post : ByteArray := prog_10_method_65_code
def yX8_post : MethodName := ⟨RX8, "post", "(IIII)I"⟩
abbrev cX8_more : ByteArray := prog_10_method_66_code
def yX8_more : MethodName := ⟨RX8, "more", "(IIII)I"⟩
abbrev cX8_strike : ByteArray := prog_10_method_67_code
def yX8_strike : MethodName := ⟨RX8, "strike", "(I)I"⟩
abbrev cX8_tell : ByteArray := prog_10_method_68_code
def yX8_tell : MethodName := ⟨RX8, "tell", "(II)Z"⟩
abbrev cX8_turn : ByteArray := prog_10_method_69_code
def yX8_turn : MethodName := ⟨RX8, "turn", "(II)I"⟩
abbrev cX8_undo : ByteArray := prog_10_method_70_code
def yX8_undo : MethodName := ⟨RX8, "undo", "()I"⟩
def RL : String := "CashDeriverLaw"
abbrev cL_account : ByteArray := method_3_code
def yL_account : MethodName := ⟨RL, "account", "(LCashDeriver;II[J)I"⟩
abbrev cL_journal : ByteArray := method_4_code
def yL_journal : MethodName := ⟨RL, "journal", "(LCashDeriver;II[J)I"⟩
abbrev cL_law : ByteArray := code
def yL_law : MethodName := ⟨RL, "law", "([I)Z"⟩
abbrev vwCl : List vw_C := [(RX0, TX0, 4), (RX1, TX1, 6), (RX2, TX2, 11), (RX3, TX3, 3), (RX4, TX4, 8), (RX5, TX5, 2), (RX6, TX6, 5), (RX7, TX7, 7), (RX8, TX8, 26)]
abbrev vMet : Type := MethodName × ByteArray × Nat × Option FieldType
abbrev vcode (M : vMet) : ByteArray := M.2.1
def mX0_init : vMet := (yX0_init, cX0_init, 1, none)
def mX0_size : vMet := (yX0_size, cX0_size, 1, (some .int))
def mX0_clear : vMet := (yX0_clear, cX0_clear, 1, none)
def mX0_dropOldest : vMet := (yX0_dropOldest, cX0_dropOldest, 2, none)
def mX0_keep : vMet := (yX0_keep, cX0_keep, 4, none)
def mX0_latestSort : vMet := (yX0_latestSort, cX0_latestSort, 1, (some .int))
def mX0_latestTarget : vMet := (yX0_latestTarget, cX0_latestTarget, 1, (some .int))
def mX0_latestBefore : vMet := (yX0_latestBefore, cX0_latestBefore, 1, (some .int))
def mX0_dropLatest : vMet := (yX0_dropLatest, cX0_dropLatest, 1, none)
def mX2_init : vMet := (yX2_init, cX2_init, 1, none)
def mX1_init : vMet := (yX1_init, cX1_init, 2, none)
def mX1_clear : vMet := (yX1_clear, cX1_clear, 1, none)
def mX1_accounts : vMet := (yX1_accounts, cX1_accounts, 1, (some .int))
def mX1_journals : vMet := (yX1_journals, cX1_journals, 1, (some .int))
def mX1_hasAccount : vMet := (yX1_hasAccount, cX1_hasAccount, 2, (some .boolean))
def mX1_addAccount : vMet := (yX1_addAccount, cX1_addAccount, 3, none)
def mX1_kindOf : vMet := (yX1_kindOf, cX1_kindOf, 2, (some .int))
def mX1_setKind : vMet := (yX1_setKind, cX1_setKind, 3, none)
def mX1_firstOf : vMet := (yX1_firstOf, cX1_firstOf, 2, (some .int))
def mX1_toldOf : vMet := (yX1_toldOf, cX1_toldOf, 2, (some .int))
def mX1_isTold : vMet := (yX1_isTold, cX1_isTold, 2, (some .boolean))
def mX1_setTold : vMet := (yX1_setTold, cX1_setTold, 3, none)
def mX1_toldOnes : vMet := (yX1_toldOnes, cX1_toldOnes, 3, (some .int))
def mX1_find : vMet := (yX1_find, cX1_find, 2, (some (.object "CashDeriver$Journal")))
def mX2_begin : vMet := (yX2_begin, cX2_begin, 2, none)
def mX1_open : vMet := (yX1_open, cX1_open, 3, (some (.object "CashDeriver$Journal")))
def mX1_dropLatest : vMet := (yX1_dropLatest, cX1_dropLatest, 1, none)
def mX2_countsIn : vMet := (yX2_countsIn, cX2_countsIn, 3, (some .boolean))
def mX1_counting : vMet := (yX1_counting, cX1_counting, 5, (some (.object "CashDeriver$Journal")))
def mX2_isStruck : vMet := (yX2_isStruck, cX2_isStruck, 1, (some .boolean))
def mX1_struckOnes : vMet := (yX1_struckOnes, cX1_struckOnes, 4, (some .int))
def mX2_hasLine : vMet := (yX2_hasLine, cX2_hasLine, 2, (some .boolean))
def mX2_accountOf : vMet := (yX2_accountOf, cX2_accountOf, 2, (some .int))
def mX2_amountOf : vMet := (yX2_amountOf, cX2_amountOf, 2, (some .int))
def mX2_netOf : vMet := (yX2_netOf, cX2_netOf, 4, (some .int))
def mX1_balanceOf : vMet := (yX1_balanceOf, cX1_balanceOf, 6, (some .int))
def mX1_residualOf : vMet := (yX1_residualOf, cX1_residualOf, 2, (some .int))
def mX2_lines : vMet := (yX2_lines, cX2_lines, 1, (some .int))
def mX1_netOfKind : vMet := (yX1_netOfKind, cX1_netOfKind, 8, (some .int))
def mX2_hasPiece : vMet := (yX2_hasPiece, cX2_hasPiece, 2, (some .boolean))
def mX2_creditedOf : vMet := (yX2_creditedOf, cX2_creditedOf, 2, (some .int))
def mX2_debitedOf : vMet := (yX2_debitedOf, cX2_debitedOf, 2, (some .int))
def mX1_classOf : vMet := (yX1_classOf, cX1_classOf, 1, (some .int))
def mX1_sortOf : vMet := (yX1_sortOf, cX1_sortOf, 5, (some .int))
def mX2_pieces : vMet := (yX2_pieces, cX2_pieces, 1, (some .int))
def mX2_movedOf : vMet := (yX2_movedOf, cX2_movedOf, 2, (some .int))
def mX1_cashMoved : vMet := (yX1_cashMoved, cX1_cashMoved, 10, (some .int))
def mX1_makersOf : vMet := (yX1_makersOf, cX1_makersOf, 8, (some .int))
def mX1_dealt : vMet := (yX1_dealt, cX1_dealt, 12, (some .int))
def mX1_apartBy : vMet := (yX1_apartBy, cX1_apartBy, 5, (some .int))
def mX1_setApart : vMet := (yX1_setApart, cX1_setApart, 7, (some .int))
def mX2_period : vMet := (yX2_period, cX2_period, 1, (some .int))
def mX2_groups : vMet := (yX2_groups, cX2_groups, 1, (some .int))
def mX2_toggle : vMet := (yX2_toggle, cX2_toggle, 1, none)
def mX2_add : vMet := (yX2_add, cX2_add, 3, none)
def mX2_dropTransfer : vMet := (yX2_dropTransfer, cX2_dropTransfer, 1, none)
def mX2_groupOf : vMet := (yX2_groupOf, cX2_groupOf, 2, (some .int))
def mX2_total : vMet := (yX2_total, cX2_total, 3, (some .int))
def mX2_setGroup : vMet := (yX2_setGroup, cX2_setGroup, 3, none)
def mX2_setGroups : vMet := (yX2_setGroups, cX2_setGroups, 2, none)
def mX2_dropPieces : vMet := (yX2_dropPieces, cX2_dropPieces, 1, none)
def mX2_addPiece : vMet := (yX2_addPiece, cX2_addPiece, 4, none)
def mX3_init : vMet := (yX3_init, cX3_init, 1, none)
def mX3_firstWay : vMet := (yX3_firstWay, cX3_firstWay, 2, none)
def mX3_highestAhead : vMet := (yX3_highestAhead, cX3_highestAhead, 4, (some .int))
def mX3_balancedGroups : vMet := (yX3_balancedGroups, cX3_balancedGroups, 4, (some .int))
def mX3_takeWay : vMet := (yX3_takeWay, cX3_takeWay, 4, none)
def mX3_nextWay : vMet := (yX3_nextWay, cX3_nextWay, 3, (some .boolean))
def mX3_part : vMet := (yX3_part, cX3_part, 7, none)
def mX3_firstLeft : vMet := (yX3_firstLeft, cX3_firstLeft, 5, (some .int))
def mX3_cutGroup : vMet := (yX3_cutGroup, cX3_cutGroup, 7, none)
def mX3_cut : vMet := (yX3_cut, cX3_cut, 3, none)
def mX4_init : vMet := (yX4_init, cX4_init, 2, none)
def mX4_faultKind : vMet := (yX4_faultKind, cX4_faultKind, 1, (some .int))
def mX4_faultPlace : vMet := (yX4_faultPlace, cX4_faultPlace, 1, (some .int))
def mX5_size : vMet := (yX5_size, cX5_size, 1, (some .int))
def mX5_signAt : vMet := (yX5_signAt, cX5_signAt, 2, (some .int))
def mX4_stepOverRun : vMet := (yX4_stepOverRun, cX4_stepOverRun, 5, none)
def mX4_step : vMet := (yX4_step, cX4_step, 4, none)
def mX4_isWord : vMet := (yX4_isWord, cX4_isWord, 3, (some .boolean))
def mX4_refuse : vMet := (yX4_refuse, cX4_refuse, 2, (some .boolean))
def mX4_nameOf : vMet := (yX4_nameOf, cX4_nameOf, 1, (some (.object "java/lang/String")))
def mX4_kindNamed : vMet := (yX4_kindNamed, cX4_kindNamed, 2, (some .int))
def mX4_readAmount : vMet := (yX4_readAmount, cX4_readAmount, 3, (some .boolean))
def mX4_readAccount : vMet := (yX4_readAccount, cX4_readAccount, 3, (some .boolean))
def mX4_isNumberBelow : vMet := (yX4_isNumberBelow, cX4_isNumberBelow, 2, (some .boolean))
def mX4_readLine : vMet := (yX4_readLine, cX4_readLine, 4, (some .boolean))
def mX4_readJournal : vMet := (yX4_readJournal, cX4_readJournal, 4, (some .boolean))
def mX4_read : vMet := (yX4_read, cX4_read, 3, (some .boolean))
def mX5_init : vMet := (yX5_init, cX5_init, 1, none)
def mX5_room : vMet := (yX5_room, cX5_room, 1, (some .int))
def mX5_append : vMet := (yX5_append, cX5_append, 3, none)
def mX5_cut : vMet := (yX5_cut, cX5_cut, 2, (some .boolean))
def mX6_init : vMet := (yX6_init, cX6_init, 1, none)
def mX6_gatherJournals : vMet := (yX6_gatherJournals, cX6_gatherJournals, 3, none)
def mX6_gatherShares : vMet := (yX6_gatherShares, cX6_gatherShares, 5, none)
def mX6_gatherAccounts : vMet := (yX6_gatherAccounts, cX6_gatherAccounts, 3, none)
def mX6_explain : vMet := (yX6_explain, cX6_explain, 5, (some .boolean))
def mX6_bitOf : vMet := (yX6_bitOf, cX6_bitOf, 2, (some .int))
def mX6_searchOne : vMet := (yX6_searchOne, cX6_searchOne, 2, (some .int))
def mX6_searchTwo : vMet := (yX6_searchTwo, cX6_searchTwo, 3, (some .int))
def mX6_searchThree : vMet := (yX6_searchThree, cX6_searchThree, 4, (some .int))
def mX6_trace : vMet := (yX6_trace, cX6_trace, 3, (some .int))
def mX7_init : vMet := (yX7_init, cX7_init, 1, none)
def mX7_feed : vMet := (yX7_feed, cX7_feed, 6, (some .int))
def mX7_end : vMet := (yX7_end, cX7_end, 2, (some .boolean))
def mX7_settle : vMet := (yX7_settle, cX7_settle, 2, none)
def mX7_text : vMet := (yX7_text, cX7_text, 4, (some .int))
def mX7_fault : vMet := (yX7_fault, cX7_fault, 1, (some .int))
def mX7_now : vMet := (yX7_now, cX7_now, 2, (some .int))
def mX7_account : vMet := (yX7_account, cX7_account, 3, (some .int))
def mX7_journal : vMet := (yX7_journal, cX7_journal, 5, (some .int))
def mX7_piece : vMet := (yX7_piece, cX7_piece, 5, (some .int))
def mX7_isClass : vMet := (yX7_isClass, cX7_isClass, 1, (some .boolean))
def mX7_isPeriod : vMet := (yX7_isPeriod, cX7_isPeriod, 1, (some .boolean))
def mX7_arePeriods : vMet := (yX7_arePeriods, cX7_arePeriods, 2, (some .boolean))
def mX7_direct : vMet := (yX7_direct, cX7_direct, 7, (some .int))
def mX7_indirect : vMet := (yX7_indirect, cX7_indirect, 7, (some .int))
def mX7_change : vMet := (yX7_change, cX7_change, 3, (some .int))
def mX7_makes : vMet := (yX7_makes, cX7_makes, 4, (some .int))
def mX7_deals : vMet := (yX7_deals, cX7_deals, 6, (some .int))
def mX7_balance : vMet := (yX7_balance, cX7_balance, 4, (some .int))
def mX7_traced : vMet := (yX7_traced, cX7_traced, 1, (some .int))
def mX7_isTransfer : vMet := (yX7_isTransfer, cX7_isTransfer, 4, (some .boolean))
def mX7_addTransfer : vMet := (yX7_addTransfer, cX7_addTransfer, 5, none)
def mX7_post : vMet := (yX7_post, cX7_post, 7, (some .int))
def mX7_more : vMet := (yX7_more, cX7_more, 6, (some .int))
def mX7_strike : vMet := (yX7_strike, cX7_strike, 3, (some .int))
def mX7_tell : vMet := (yX7_tell, cX7_tell, 3, (some .boolean))
def mX7_turn : vMet := (yX7_turn, cX7_turn, 4, (some .int))
def mX7_takeBack : vMet := (yX7_takeBack, cX7_takeBack, 5, none)
def mX7_undo : vMet := (yX7_undo, cX7_undo, 1, (some .int))
def mX8_thrown : vMet := (yX8_thrown, cX8_thrown, 1, (some .int))
def mX8_refuse : vMet := (yX8_refuse, cX8_refuse, 1, (some .int))
def mX8_isIn : vMet := (yX8_isIn, cX8_isIn, 3, (some .boolean))
def mX8_lays : vMet := (yX8_lays, cX8_lays, 3, none)
def mX8_feed : vMet := (yX8_feed, cX8_feed, 6, (some .int))
def mX8_end : vMet := (yX8_end, cX8_end, 2, (some .boolean))
def mX8_tapeAt : vMet := (yX8_tapeAt, cX8_tapeAt, 2, (some .int))
def mX8_isDigit : vMet := (yX8_isDigit, cX8_isDigit, 1, (some .boolean))
def mX8_isLetter : vMet := (yX8_isLetter, cX8_isLetter, 1, (some .boolean))
def mX8_go : vMet := (yX8_go, cX8_go, 5, none)
def mX8_two : vMet := (yX8_two, cX8_two, 2, (some .long))
def mX8_four : vMet := (yX8_four, cX8_four, 4, (some .long))
def mX8_seven : vMet := (yX8_seven, cX8_seven, 7, (some .long))
def mX8_isWord : vMet := (yX8_isWord, cX8_isWord, 3, (some .boolean))
def mX8_isSign : vMet := (yX8_isSign, cX8_isSign, 2, (some .boolean))
def mX8_bad : vMet := (yX8_bad, cX8_bad, 2, (some .boolean))
def mX8_init : vMet := (yX8_init, cX8_init, 1, none)
def mX8_takes : vMet := (yX8_takes, cX8_takes, 3, (some .boolean))
def mX8_takesAmount : vMet := (yX8_takesAmount, cX8_takesAmount, 3, (some .boolean))
def mX8_kindHere : vMet := (yX8_kindHere, cX8_kindHere, 1, (some .int))
def mX8_readAccount : vMet := (yX8_readAccount, cX8_readAccount, 2, (some .boolean))
def mX8_readLine : vMet := (yX8_readLine, cX8_readLine, 3, (some .boolean))
def mX8_readJournal : vMet := (yX8_readJournal, cX8_readJournal, 3, (some .boolean))
def mX8_readWhole : vMet := (yX8_readWhole, cX8_readWhole, 1, (some .boolean))
def mX8_text : vMet := (yX8_text, cX8_text, 2, (some .int))
def mX8_fault : vMet := (yX8_fault, cX8_fault, 1, (some .int))
def mX8_isAccount : vMet := (yX8_isAccount, cX8_isAccount, 2, (some .boolean))
def mX8_isJournal : vMet := (yX8_isJournal, cX8_isJournal, 2, (some .boolean))
def mX8_its : vMet := (yX8_its, cX8_its, 3, (some .int))
def mX8_kindOf : vMet := (yX8_kindOf, cX8_kindOf, 2, (some .int))
def mX8_told : vMet := (yX8_told, cX8_told, 3, (some .int))
def mX8_lineOf : vMet := (yX8_lineOf, cX8_lineOf, 3, (some .int))
def mX8_amountOf : vMet := (yX8_amountOf, cX8_amountOf, 3, (some .int))
def mX8_counts : vMet := (yX8_counts, cX8_counts, 4, (some .boolean))
def mX8_moved : vMet := (yX8_moved, cX8_moved, 5, (some .int))
def mX8_movedIn : vMet := (yX8_movedIn, cX8_movedIn, 6, (some .int))
def mX8_balanceOf : vMet := (yX8_balanceOf, cX8_balanceOf, 3, (some .int))
def mX8_residual : vMet := (yX8_residual, cX8_residual, 2, (some .int))
def mX8_tries : vMet := (yX8_tries, cX8_tries, 5, none)
def mX8_nextLine : vMet := (yX8_nextLine, cX8_nextLine, 5, (some .int))
def mX8_laysPieces : vMet := (yX8_laysPieces, cX8_laysPieces, 6, none)
def mX8_classOf : vMet := (yX8_classOf, cX8_classOf, 5, (some .int))
def mX8_now : vMet := (yX8_now, cX8_now, 4, (some .int))
def mX8_account : vMet := (yX8_account, cX8_account, 3, (some .int))
def mX8_journal : vMet := (yX8_journal, cX8_journal, 4, (some .int))
def mX8_piece : vMet := (yX8_piece, cX8_piece, 4, (some .int))
def mX8_arePeriods : vMet := (yX8_arePeriods, cX8_arePeriods, 2, (some .boolean))
def mX8_isClass : vMet := (yX8_isClass, cX8_isClass, 1, (some .boolean))
def mX8_direct : vMet := (yX8_direct, cX8_direct, 9, (some .int))
def mX8_credited : vMet := (yX8_credited, cX8_credited, 6, (some .int))
def mX8_isOfProfit : vMet := (yX8_isOfProfit, cX8_isOfProfit, 1, (some .boolean))
def mX8_apart : vMet := (yX8_apart, cX8_apart, 7, (some .int))
def mX8_indirect : vMet := (yX8_indirect, cX8_indirect, 4, (some .int))
def mX8_change : vMet := (yX8_change, cX8_change, 3, (some .int))
def mX8_makes : vMet := (yX8_makes, cX8_makes, 7, (some .int))
def mX8_deals : vMet := (yX8_deals, cX8_deals, 10, (some .int))
def mX8_balance : vMet := (yX8_balance, cX8_balance, 3, (some .int))
def mX8_explains : vMet := (yX8_explains, cX8_explains, 6, (some .boolean))
def mX8_isCounted : vMet := (yX8_isCounted, cX8_isCounted, 2, (some .boolean))
def mX8_bit : vMet := (yX8_bit, cX8_bit, 1, (some .int))
def mX8_traced : vMet := (yX8_traced, cX8_traced, 5, (some .int))
def mX8_snap : vMet := (yX8_snap, cX8_snap, 2, none)
def mX8_canPost : vMet := (yX8_canPost, cX8_canPost, 4, (some .boolean))
def mX8_adds : vMet := (yX8_adds, cX8_adds, 7, (some .int))
def mX8_post : vMet := (yX8_post, cX8_post, 7, (some .int))
def mX8_more : vMet := (yX8_more, cX8_more, 5, (some .int))
def mX8_strike : vMet := (yX8_strike, cX8_strike, 2, (some .int))
def mX8_tell : vMet := (yX8_tell, cX8_tell, 3, (some .boolean))
def mX8_turn : vMet := (yX8_turn, cX8_turn, 4, (some .int))
def mX8_undo : vMet := (yX8_undo, cX8_undo, 2, (some .int))
def mL_account : vMet := (yL_account, cL_account, 5, (some .int))
def mL_journal : vMet := (yL_journal, cL_journal, 5, (some .int))
def mL_law : vMet := (yL_law, cL_law, 7, (some .boolean))
abbrev vdec (M : vMet) (pc : Nat) (i : Instr) (n : Nat) : Prop := decode M.2.1 pc = .ok (i, n)
end
section
theorem dL_account_0 : vdec mL_account 0 (.aload_n 3) 1 := by decide +kernel
theorem dL_account_1 : vdec mL_account 1 (.iconst 0) 1 := by decide +kernel
theorem dL_account_2 : vdec mL_account 2 (.aload_n 0) 1 := by decide +kernel
theorem dL_account_3 : vdec mL_account 3 (.iload_n 1) 1 := by decide +kernel
theorem dL_account_4 : vdec mL_account 4 (.iload_n 2) 1 := by decide +kernel
theorem dL_account_5 : vdec mL_account 5 (.invokevirtual 7) 3 := by decide +kernel
theorem dL_account_8 : vdec mL_account 8 (.i2l) 1 := by decide +kernel
theorem dL_account_9 : vdec mL_account 9 (.lastore) 1 := by decide +kernel
theorem dL_account_10 : vdec mL_account 10 (.goto 7) 3 := by decide +kernel
theorem dL_account_13 : vdec mL_account 13 (.astore 4) 2 := by decide +kernel
theorem dL_account_15 : vdec mL_account 15 (.iconst 1) 1 := by decide +kernel
theorem dL_account_16 : vdec mL_account 16 (.ireturn) 1 := by decide +kernel
theorem dL_account_17 : vdec mL_account 17 (.iconst 0) 1 := by decide +kernel
theorem dL_account_18 : vdec mL_account 18 (.ireturn) 1 := by decide +kernel
theorem dL_journal_0 : vdec mL_journal 0 (.aload_n 3) 1 := by decide +kernel
theorem dL_journal_1 : vdec mL_journal 1 (.iconst 0) 1 := by decide +kernel
theorem dL_journal_2 : vdec mL_journal 2 (.aload_n 0) 1 := by decide +kernel
theorem dL_journal_3 : vdec mL_journal 3 (.iload_n 1) 1 := by decide +kernel
theorem dL_journal_4 : vdec mL_journal 4 (.iload_n 2) 1 := by decide +kernel
theorem dL_journal_5 : vdec mL_journal 5 (.invokevirtual 15) 3 := by decide +kernel
theorem dL_journal_8 : vdec mL_journal 8 (.i2l) 1 := by decide +kernel
theorem dL_journal_9 : vdec mL_journal 9 (.lastore) 1 := by decide +kernel
theorem dL_journal_10 : vdec mL_journal 10 (.goto 7) 3 := by decide +kernel
theorem dL_journal_13 : vdec mL_journal 13 (.astore 4) 2 := by decide +kernel
theorem dL_journal_15 : vdec mL_journal 15 (.iconst 1) 1 := by decide +kernel
theorem dL_journal_16 : vdec mL_journal 16 (.ireturn) 1 := by decide +kernel
theorem dL_journal_17 : vdec mL_journal 17 (.iconst 0) 1 := by decide +kernel
theorem dL_journal_18 : vdec mL_journal 18 (.ireturn) 1 := by decide +kernel
theorem dL_law_0 : vdec mL_law 0 (.new 8) 3 := by decide +kernel
theorem dL_law_3 : vdec mL_law 3 (.dup) 1 := by decide +kernel
theorem dL_law_4 : vdec mL_law 4 (.invokespecial 18) 3 := by decide +kernel
theorem dL_law_7 : vdec mL_law 7 (.astore_n 1) 1 := by decide +kernel
theorem dL_law_8 : vdec mL_law 8 (.new 19) 3 := by decide +kernel
theorem dL_law_11 : vdec mL_law 11 (.dup) 1 := by decide +kernel
theorem dL_law_12 : vdec mL_law 12 (.invokespecial 21) 3 := by decide +kernel
theorem dL_law_15 : vdec mL_law 15 (.astore_n 2) 1 := by decide +kernel
theorem dL_law_16 : vdec mL_law 16 (.iconst 1) 1 := by decide +kernel
theorem dL_law_17 : vdec mL_law 17 (.newarray .long) 2 := by decide +kernel
theorem dL_law_19 : vdec mL_law 19 (.astore_n 3) 1 := by decide +kernel
theorem dL_law_20 : vdec mL_law 20 (.iconst 0) 1 := by decide +kernel
theorem dL_law_21 : vdec mL_law 21 (.istore 4) 2 := by decide +kernel
theorem dL_law_23 : vdec mL_law 23 (.iload 4) 2 := by decide +kernel
theorem dL_law_25 : vdec mL_law 25 (.aload_n 0) 1 := by decide +kernel
theorem dL_law_26 : vdec mL_law 26 (.arraylength) 1 := by decide +kernel
theorem dL_law_27 : vdec mL_law 27 (.bipush 6) 2 := by decide +kernel
theorem dL_law_29 : vdec mL_law 29 (.isub) 1 := by decide +kernel
theorem dL_law_30 : vdec mL_law 30 (.if_icmp .gt 991) 3 := by decide +kernel
theorem dL_law_33 : vdec mL_law 33 (.aload_n 0) 1 := by decide +kernel
theorem dL_law_34 : vdec mL_law 34 (.iload 4) 2 := by decide +kernel
theorem dL_law_36 : vdec mL_law 36 (.iaload) 1 := by decide +kernel
theorem dL_law_37 : vdec mL_law 37 (.bipush 31) 2 := by decide +kernel
theorem dL_law_39 : vdec mL_law 39 (.iand) 1 := by decide +kernel
theorem dL_law_40 : vdec mL_law 40 (.tableswitch 975 0 20 #[100, 173, 198, 211, 224, 249, 317, 385, 434, 495, 544, 581, 630, 691, 728, 741, 802, 863, 888, 925, 962]) 100 := by decide +kernel
theorem dL_law_140 : vdec mL_law 140 (.aload_n 1) 1 := by decide +kernel
theorem dL_law_141 : vdec mL_law 141 (.aload_n 0) 1 := by decide +kernel
theorem dL_law_142 : vdec mL_law 142 (.iload 4) 2 := by decide +kernel
theorem dL_law_144 : vdec mL_law 144 (.iconst 1) 1 := by decide +kernel
theorem dL_law_145 : vdec mL_law 145 (.iadd) 1 := by decide +kernel
theorem dL_law_146 : vdec mL_law 146 (.iaload) 1 := by decide +kernel
theorem dL_law_147 : vdec mL_law 147 (.aload_n 0) 1 := by decide +kernel
theorem dL_law_148 : vdec mL_law 148 (.iload 4) 2 := by decide +kernel
theorem dL_law_150 : vdec mL_law 150 (.iconst 2) 1 := by decide +kernel
theorem dL_law_151 : vdec mL_law 151 (.iadd) 1 := by decide +kernel
theorem dL_law_152 : vdec mL_law 152 (.iaload) 1 := by decide +kernel
theorem dL_law_153 : vdec mL_law 153 (.aload_n 0) 1 := by decide +kernel
theorem dL_law_154 : vdec mL_law 154 (.iload 4) 2 := by decide +kernel
theorem dL_law_156 : vdec mL_law 156 (.iconst 3) 1 := by decide +kernel
theorem dL_law_157 : vdec mL_law 157 (.iadd) 1 := by decide +kernel
theorem dL_law_158 : vdec mL_law 158 (.iaload) 1 := by decide +kernel
theorem dL_law_159 : vdec mL_law 159 (.aload_n 0) 1 := by decide +kernel
theorem dL_law_160 : vdec mL_law 160 (.iload 4) 2 := by decide +kernel
theorem dL_law_162 : vdec mL_law 162 (.iconst 4) 1 := by decide +kernel
theorem dL_law_163 : vdec mL_law 163 (.iadd) 1 := by decide +kernel
theorem dL_law_164 : vdec mL_law 164 (.iaload) 1 := by decide +kernel
theorem dL_law_165 : vdec mL_law 165 (.aload_n 0) 1 := by decide +kernel
theorem dL_law_166 : vdec mL_law 166 (.iload 4) 2 := by decide +kernel
theorem dL_law_168 : vdec mL_law 168 (.iconst 5) 1 := by decide +kernel
theorem dL_law_169 : vdec mL_law 169 (.iadd) 1 := by decide +kernel
theorem dL_law_170 : vdec mL_law 170 (.iaload) 1 := by decide +kernel
theorem dL_law_171 : vdec mL_law 171 (.invokevirtual 22) 3 := by decide +kernel
theorem dL_law_174 : vdec mL_law 174 (.aload_n 2) 1 := by decide +kernel
theorem dL_law_175 : vdec mL_law 175 (.aload_n 0) 1 := by decide +kernel
theorem dL_law_176 : vdec mL_law 176 (.iload 4) 2 := by decide +kernel
theorem dL_law_178 : vdec mL_law 178 (.iconst 1) 1 := by decide +kernel
theorem dL_law_179 : vdec mL_law 179 (.iadd) 1 := by decide +kernel
theorem dL_law_180 : vdec mL_law 180 (.iaload) 1 := by decide +kernel
theorem dL_law_181 : vdec mL_law 181 (.aload_n 0) 1 := by decide +kernel
theorem dL_law_182 : vdec mL_law 182 (.iload 4) 2 := by decide +kernel
theorem dL_law_184 : vdec mL_law 184 (.iconst 2) 1 := by decide +kernel
theorem dL_law_185 : vdec mL_law 185 (.iadd) 1 := by decide +kernel
theorem dL_law_186 : vdec mL_law 186 (.iaload) 1 := by decide +kernel
theorem dL_law_187 : vdec mL_law 187 (.aload_n 0) 1 := by decide +kernel
theorem dL_law_188 : vdec mL_law 188 (.iload 4) 2 := by decide +kernel
theorem dL_law_190 : vdec mL_law 190 (.iconst 3) 1 := by decide +kernel
theorem dL_law_191 : vdec mL_law 191 (.iadd) 1 := by decide +kernel
theorem dL_law_192 : vdec mL_law 192 (.iaload) 1 := by decide +kernel
theorem dL_law_193 : vdec mL_law 193 (.aload_n 0) 1 := by decide +kernel
theorem dL_law_194 : vdec mL_law 194 (.iload 4) 2 := by decide +kernel
theorem dL_law_196 : vdec mL_law 196 (.iconst 4) 1 := by decide +kernel
theorem dL_law_197 : vdec mL_law 197 (.iadd) 1 := by decide +kernel
theorem dL_law_198 : vdec mL_law 198 (.iaload) 1 := by decide +kernel
theorem dL_law_199 : vdec mL_law 199 (.aload_n 0) 1 := by decide +kernel
theorem dL_law_200 : vdec mL_law 200 (.iload 4) 2 := by decide +kernel
theorem dL_law_202 : vdec mL_law 202 (.iconst 5) 1 := by decide +kernel
theorem dL_law_203 : vdec mL_law 203 (.iadd) 1 := by decide +kernel
theorem dL_law_204 : vdec mL_law 204 (.iaload) 1 := by decide +kernel
theorem dL_law_205 : vdec mL_law 205 (.invokevirtual 26) 3 := by decide +kernel
theorem dL_law_208 : vdec mL_law 208 (.if_icmp .eq 807) 3 := by decide +kernel
theorem dL_law_211 : vdec mL_law 211 (.iconst 0) 1 := by decide +kernel
theorem dL_law_212 : vdec mL_law 212 (.ireturn) 1 := by decide +kernel
theorem dL_law_213 : vdec mL_law 213 (.aload_n 1) 1 := by decide +kernel
theorem dL_law_214 : vdec mL_law 214 (.aload_n 0) 1 := by decide +kernel
theorem dL_law_215 : vdec mL_law 215 (.iload 4) 2 := by decide +kernel
theorem dL_law_217 : vdec mL_law 217 (.iconst 1) 1 := by decide +kernel
theorem dL_law_218 : vdec mL_law 218 (.iadd) 1 := by decide +kernel
theorem dL_law_219 : vdec mL_law 219 (.iaload) 1 := by decide +kernel
theorem dL_law_220 : vdec mL_law 220 (.invokevirtual 27) 3 := by decide +kernel
theorem dL_law_223 : vdec mL_law 223 (.aload_n 2) 1 := by decide +kernel
theorem dL_law_224 : vdec mL_law 224 (.aload_n 0) 1 := by decide +kernel
theorem dL_law_225 : vdec mL_law 225 (.iload 4) 2 := by decide +kernel
theorem dL_law_227 : vdec mL_law 227 (.iconst 1) 1 := by decide +kernel
theorem dL_law_228 : vdec mL_law 228 (.iadd) 1 := by decide +kernel
theorem dL_law_229 : vdec mL_law 229 (.iaload) 1 := by decide +kernel
theorem dL_law_230 : vdec mL_law 230 (.invokevirtual 31) 3 := by decide +kernel
theorem dL_law_233 : vdec mL_law 233 (.if_icmp .eq 782) 3 := by decide +kernel
theorem dL_law_236 : vdec mL_law 236 (.iconst 0) 1 := by decide +kernel
theorem dL_law_237 : vdec mL_law 237 (.ireturn) 1 := by decide +kernel
theorem dL_law_238 : vdec mL_law 238 (.aload_n 1) 1 := by decide +kernel
theorem dL_law_239 : vdec mL_law 239 (.invokevirtual 32) 3 := by decide +kernel
theorem dL_law_242 : vdec mL_law 242 (.aload_n 2) 1 := by decide +kernel
theorem dL_law_243 : vdec mL_law 243 (.invokevirtual 36) 3 := by decide +kernel
theorem dL_law_246 : vdec mL_law 246 (.if_icmp .eq 769) 3 := by decide +kernel
theorem dL_law_249 : vdec mL_law 249 (.iconst 0) 1 := by decide +kernel
theorem dL_law_250 : vdec mL_law 250 (.ireturn) 1 := by decide +kernel
theorem dL_law_251 : vdec mL_law 251 (.aload_n 1) 1 := by decide +kernel
theorem dL_law_252 : vdec mL_law 252 (.invokevirtual 37) 3 := by decide +kernel
theorem dL_law_255 : vdec mL_law 255 (.aload_n 2) 1 := by decide +kernel
theorem dL_law_256 : vdec mL_law 256 (.invokevirtual 40) 3 := by decide +kernel
theorem dL_law_259 : vdec mL_law 259 (.if_icmp .eq 756) 3 := by decide +kernel
theorem dL_law_262 : vdec mL_law 262 (.iconst 0) 1 := by decide +kernel
theorem dL_law_263 : vdec mL_law 263 (.ireturn) 1 := by decide +kernel
theorem dL_law_264 : vdec mL_law 264 (.aload_n 1) 1 := by decide +kernel
theorem dL_law_265 : vdec mL_law 265 (.aload_n 0) 1 := by decide +kernel
theorem dL_law_266 : vdec mL_law 266 (.iload 4) 2 := by decide +kernel
theorem dL_law_268 : vdec mL_law 268 (.iconst 1) 1 := by decide +kernel
theorem dL_law_269 : vdec mL_law 269 (.iadd) 1 := by decide +kernel
theorem dL_law_270 : vdec mL_law 270 (.iaload) 1 := by decide +kernel
theorem dL_law_271 : vdec mL_law 271 (.invokevirtual 41) 3 := by decide +kernel
theorem dL_law_274 : vdec mL_law 274 (.aload_n 2) 1 := by decide +kernel
theorem dL_law_275 : vdec mL_law 275 (.aload_n 0) 1 := by decide +kernel
theorem dL_law_276 : vdec mL_law 276 (.iload 4) 2 := by decide +kernel
theorem dL_law_278 : vdec mL_law 278 (.iconst 1) 1 := by decide +kernel
theorem dL_law_279 : vdec mL_law 279 (.iadd) 1 := by decide +kernel
theorem dL_law_280 : vdec mL_law 280 (.iaload) 1 := by decide +kernel
theorem dL_law_281 : vdec mL_law 281 (.invokevirtual 45) 3 := by decide +kernel
theorem dL_law_284 : vdec mL_law 284 (.if_icmp .eq 731) 3 := by decide +kernel
theorem dL_law_287 : vdec mL_law 287 (.iconst 0) 1 := by decide +kernel
theorem dL_law_288 : vdec mL_law 288 (.ireturn) 1 := by decide +kernel
theorem dL_law_289 : vdec mL_law 289 (.aload_n 1) 1 := by decide +kernel
theorem dL_law_290 : vdec mL_law 290 (.aload_n 0) 1 := by decide +kernel
theorem dL_law_291 : vdec mL_law 291 (.iload 4) 2 := by decide +kernel
theorem dL_law_293 : vdec mL_law 293 (.iconst 1) 1 := by decide +kernel
theorem dL_law_294 : vdec mL_law 294 (.iadd) 1 := by decide +kernel
theorem dL_law_295 : vdec mL_law 295 (.iaload) 1 := by decide +kernel
theorem dL_law_296 : vdec mL_law 296 (.aload_n 0) 1 := by decide +kernel
theorem dL_law_297 : vdec mL_law 297 (.iload 4) 2 := by decide +kernel
theorem dL_law_299 : vdec mL_law 299 (.iconst 2) 1 := by decide +kernel
theorem dL_law_300 : vdec mL_law 300 (.iadd) 1 := by decide +kernel
theorem dL_law_301 : vdec mL_law 301 (.iaload) 1 := by decide +kernel
theorem dL_law_302 : vdec mL_law 302 (.aload_n 3) 1 := by decide +kernel
theorem dL_law_303 : vdec mL_law 303 (.invokestatic 46) 3 := by decide +kernel
theorem dL_law_306 : vdec mL_law 306 (.istore 5) 2 := by decide +kernel
theorem dL_law_308 : vdec mL_law 308 (.aload_n 2) 1 := by decide +kernel
theorem dL_law_309 : vdec mL_law 309 (.aload_n 0) 1 := by decide +kernel
theorem dL_law_310 : vdec mL_law 310 (.iload 4) 2 := by decide +kernel
theorem dL_law_312 : vdec mL_law 312 (.iconst 1) 1 := by decide +kernel
theorem dL_law_313 : vdec mL_law 313 (.iadd) 1 := by decide +kernel
theorem dL_law_314 : vdec mL_law 314 (.iaload) 1 := by decide +kernel
theorem dL_law_315 : vdec mL_law 315 (.aload_n 0) 1 := by decide +kernel
theorem dL_law_316 : vdec mL_law 316 (.iload 4) 2 := by decide +kernel
theorem dL_law_318 : vdec mL_law 318 (.iconst 2) 1 := by decide +kernel
theorem dL_law_319 : vdec mL_law 319 (.iadd) 1 := by decide +kernel
theorem dL_law_320 : vdec mL_law 320 (.iaload) 1 := by decide +kernel
theorem dL_law_321 : vdec mL_law 321 (.invokevirtual 51) 3 := by decide +kernel
theorem dL_law_324 : vdec mL_law 324 (.istore 6) 2 := by decide +kernel
theorem dL_law_326 : vdec mL_law 326 (.aload_n 2) 1 := by decide +kernel
theorem dL_law_327 : vdec mL_law 327 (.invokevirtual 52) 3 := by decide +kernel
theorem dL_law_330 : vdec mL_law 330 (.iload 5) 2 := by decide +kernel
theorem dL_law_332 : vdec mL_law 332 (.if_icmp .eq 5) 3 := by decide +kernel
theorem dL_law_335 : vdec mL_law 335 (.iconst 0) 1 := by decide +kernel
theorem dL_law_336 : vdec mL_law 336 (.ireturn) 1 := by decide +kernel
theorem dL_law_337 : vdec mL_law 337 (.iload 5) 2 := by decide +kernel
theorem dL_law_339 : vdec mL_law 339 (.ifCond .ne 15) 3 := by decide +kernel
theorem dL_law_342 : vdec mL_law 342 (.aload_n 3) 1 := by decide +kernel
theorem dL_law_343 : vdec mL_law 343 (.iconst 0) 1 := by decide +kernel
theorem dL_law_344 : vdec mL_law 344 (.laload) 1 := by decide +kernel
theorem dL_law_345 : vdec mL_law 345 (.iload 6) 2 := by decide +kernel
theorem dL_law_347 : vdec mL_law 347 (.i2l) 1 := by decide +kernel
theorem dL_law_348 : vdec mL_law 348 (.lcmp) 1 := by decide +kernel
theorem dL_law_349 : vdec mL_law 349 (.ifCond .eq 5) 3 := by decide +kernel
theorem dL_law_352 : vdec mL_law 352 (.iconst 0) 1 := by decide +kernel
theorem dL_law_353 : vdec mL_law 353 (.ireturn) 1 := by decide +kernel
theorem dL_law_354 : vdec mL_law 354 (.goto 661) 3 := by decide +kernel
theorem dL_law_357 : vdec mL_law 357 (.aload_n 1) 1 := by decide +kernel
theorem dL_law_358 : vdec mL_law 358 (.aload_n 0) 1 := by decide +kernel
theorem dL_law_359 : vdec mL_law 359 (.iload 4) 2 := by decide +kernel
theorem dL_law_361 : vdec mL_law 361 (.iconst 1) 1 := by decide +kernel
theorem dL_law_362 : vdec mL_law 362 (.iadd) 1 := by decide +kernel
theorem dL_law_363 : vdec mL_law 363 (.iaload) 1 := by decide +kernel
theorem dL_law_364 : vdec mL_law 364 (.aload_n 0) 1 := by decide +kernel
theorem dL_law_365 : vdec mL_law 365 (.iload 4) 2 := by decide +kernel
theorem dL_law_367 : vdec mL_law 367 (.iconst 2) 1 := by decide +kernel
theorem dL_law_368 : vdec mL_law 368 (.iadd) 1 := by decide +kernel
theorem dL_law_369 : vdec mL_law 369 (.iaload) 1 := by decide +kernel
theorem dL_law_370 : vdec mL_law 370 (.aload_n 3) 1 := by decide +kernel
theorem dL_law_371 : vdec mL_law 371 (.invokestatic 55) 3 := by decide +kernel
theorem dL_law_374 : vdec mL_law 374 (.istore 5) 2 := by decide +kernel
theorem dL_law_376 : vdec mL_law 376 (.aload_n 2) 1 := by decide +kernel
theorem dL_law_377 : vdec mL_law 377 (.aload_n 0) 1 := by decide +kernel
theorem dL_law_378 : vdec mL_law 378 (.iload 4) 2 := by decide +kernel
theorem dL_law_380 : vdec mL_law 380 (.iconst 1) 1 := by decide +kernel
theorem dL_law_381 : vdec mL_law 381 (.iadd) 1 := by decide +kernel
theorem dL_law_382 : vdec mL_law 382 (.iaload) 1 := by decide +kernel
theorem dL_law_383 : vdec mL_law 383 (.aload_n 0) 1 := by decide +kernel
theorem dL_law_384 : vdec mL_law 384 (.iload 4) 2 := by decide +kernel
theorem dL_law_386 : vdec mL_law 386 (.iconst 2) 1 := by decide +kernel
theorem dL_law_387 : vdec mL_law 387 (.iadd) 1 := by decide +kernel
theorem dL_law_388 : vdec mL_law 388 (.iaload) 1 := by decide +kernel
theorem dL_law_389 : vdec mL_law 389 (.invokevirtual 57) 3 := by decide +kernel
theorem dL_law_392 : vdec mL_law 392 (.istore 6) 2 := by decide +kernel
theorem dL_law_394 : vdec mL_law 394 (.aload_n 2) 1 := by decide +kernel
theorem dL_law_395 : vdec mL_law 395 (.invokevirtual 52) 3 := by decide +kernel
theorem dL_law_398 : vdec mL_law 398 (.iload 5) 2 := by decide +kernel
theorem dL_law_400 : vdec mL_law 400 (.if_icmp .eq 5) 3 := by decide +kernel
theorem dL_law_403 : vdec mL_law 403 (.iconst 0) 1 := by decide +kernel
theorem dL_law_404 : vdec mL_law 404 (.ireturn) 1 := by decide +kernel
theorem dL_law_405 : vdec mL_law 405 (.iload 5) 2 := by decide +kernel
theorem dL_law_407 : vdec mL_law 407 (.ifCond .ne 15) 3 := by decide +kernel
theorem dL_law_410 : vdec mL_law 410 (.aload_n 3) 1 := by decide +kernel
theorem dL_law_411 : vdec mL_law 411 (.iconst 0) 1 := by decide +kernel
theorem dL_law_412 : vdec mL_law 412 (.laload) 1 := by decide +kernel
theorem dL_law_413 : vdec mL_law 413 (.iload 6) 2 := by decide +kernel
theorem dL_law_415 : vdec mL_law 415 (.i2l) 1 := by decide +kernel
theorem dL_law_416 : vdec mL_law 416 (.lcmp) 1 := by decide +kernel
theorem dL_law_417 : vdec mL_law 417 (.ifCond .eq 5) 3 := by decide +kernel
theorem dL_law_420 : vdec mL_law 420 (.iconst 0) 1 := by decide +kernel
theorem dL_law_421 : vdec mL_law 421 (.ireturn) 1 := by decide +kernel
theorem dL_law_422 : vdec mL_law 422 (.goto 593) 3 := by decide +kernel
theorem dL_law_425 : vdec mL_law 425 (.aload_n 1) 1 := by decide +kernel
theorem dL_law_426 : vdec mL_law 426 (.aload_n 0) 1 := by decide +kernel
theorem dL_law_427 : vdec mL_law 427 (.iload 4) 2 := by decide +kernel
theorem dL_law_429 : vdec mL_law 429 (.iconst 1) 1 := by decide +kernel
theorem dL_law_430 : vdec mL_law 430 (.iadd) 1 := by decide +kernel
theorem dL_law_431 : vdec mL_law 431 (.iaload) 1 := by decide +kernel
theorem dL_law_432 : vdec mL_law 432 (.aload_n 0) 1 := by decide +kernel
theorem dL_law_433 : vdec mL_law 433 (.iload 4) 2 := by decide +kernel
theorem dL_law_435 : vdec mL_law 435 (.iconst 2) 1 := by decide +kernel
theorem dL_law_436 : vdec mL_law 436 (.iadd) 1 := by decide +kernel
theorem dL_law_437 : vdec mL_law 437 (.iaload) 1 := by decide +kernel
theorem dL_law_438 : vdec mL_law 438 (.aload_n 0) 1 := by decide +kernel
theorem dL_law_439 : vdec mL_law 439 (.iload 4) 2 := by decide +kernel
theorem dL_law_441 : vdec mL_law 441 (.iconst 3) 1 := by decide +kernel
theorem dL_law_442 : vdec mL_law 442 (.iadd) 1 := by decide +kernel
theorem dL_law_443 : vdec mL_law 443 (.iaload) 1 := by decide +kernel
theorem dL_law_444 : vdec mL_law 444 (.invokevirtual 58) 3 := by decide +kernel
theorem dL_law_447 : vdec mL_law 447 (.aload_n 2) 1 := by decide +kernel
theorem dL_law_448 : vdec mL_law 448 (.aload_n 0) 1 := by decide +kernel
theorem dL_law_449 : vdec mL_law 449 (.iload 4) 2 := by decide +kernel
theorem dL_law_451 : vdec mL_law 451 (.iconst 1) 1 := by decide +kernel
theorem dL_law_452 : vdec mL_law 452 (.iadd) 1 := by decide +kernel
theorem dL_law_453 : vdec mL_law 453 (.iaload) 1 := by decide +kernel
theorem dL_law_454 : vdec mL_law 454 (.aload_n 0) 1 := by decide +kernel
theorem dL_law_455 : vdec mL_law 455 (.iload 4) 2 := by decide +kernel
theorem dL_law_457 : vdec mL_law 457 (.iconst 2) 1 := by decide +kernel
theorem dL_law_458 : vdec mL_law 458 (.iadd) 1 := by decide +kernel
theorem dL_law_459 : vdec mL_law 459 (.iaload) 1 := by decide +kernel
theorem dL_law_460 : vdec mL_law 460 (.aload_n 0) 1 := by decide +kernel
theorem dL_law_461 : vdec mL_law 461 (.iload 4) 2 := by decide +kernel
theorem dL_law_463 : vdec mL_law 463 (.iconst 3) 1 := by decide +kernel
theorem dL_law_464 : vdec mL_law 464 (.iadd) 1 := by decide +kernel
theorem dL_law_465 : vdec mL_law 465 (.iaload) 1 := by decide +kernel
theorem dL_law_466 : vdec mL_law 466 (.invokevirtual 62) 3 := by decide +kernel
theorem dL_law_469 : vdec mL_law 469 (.if_icmp .eq 546) 3 := by decide +kernel
theorem dL_law_472 : vdec mL_law 472 (.iconst 0) 1 := by decide +kernel
theorem dL_law_473 : vdec mL_law 473 (.ireturn) 1 := by decide +kernel
theorem dL_law_474 : vdec mL_law 474 (.aload_n 1) 1 := by decide +kernel
theorem dL_law_475 : vdec mL_law 475 (.aload_n 0) 1 := by decide +kernel
theorem dL_law_476 : vdec mL_law 476 (.iload 4) 2 := by decide +kernel
theorem dL_law_478 : vdec mL_law 478 (.iconst 1) 1 := by decide +kernel
theorem dL_law_479 : vdec mL_law 479 (.iadd) 1 := by decide +kernel
theorem dL_law_480 : vdec mL_law 480 (.iaload) 1 := by decide +kernel
theorem dL_law_481 : vdec mL_law 481 (.aload_n 0) 1 := by decide +kernel
theorem dL_law_482 : vdec mL_law 482 (.iload 4) 2 := by decide +kernel
theorem dL_law_484 : vdec mL_law 484 (.iconst 2) 1 := by decide +kernel
theorem dL_law_485 : vdec mL_law 485 (.iadd) 1 := by decide +kernel
theorem dL_law_486 : vdec mL_law 486 (.iaload) 1 := by decide +kernel
theorem dL_law_487 : vdec mL_law 487 (.aload_n 0) 1 := by decide +kernel
theorem dL_law_488 : vdec mL_law 488 (.iload 4) 2 := by decide +kernel
theorem dL_law_490 : vdec mL_law 490 (.iconst 3) 1 := by decide +kernel
theorem dL_law_491 : vdec mL_law 491 (.iadd) 1 := by decide +kernel
theorem dL_law_492 : vdec mL_law 492 (.iaload) 1 := by decide +kernel
theorem dL_law_493 : vdec mL_law 493 (.aload_n 0) 1 := by decide +kernel
theorem dL_law_494 : vdec mL_law 494 (.iload 4) 2 := by decide +kernel
theorem dL_law_496 : vdec mL_law 496 (.iconst 4) 1 := by decide +kernel
theorem dL_law_497 : vdec mL_law 497 (.iadd) 1 := by decide +kernel
theorem dL_law_498 : vdec mL_law 498 (.iaload) 1 := by decide +kernel
theorem dL_law_499 : vdec mL_law 499 (.invokevirtual 63) 3 := by decide +kernel
theorem dL_law_502 : vdec mL_law 502 (.aload_n 2) 1 := by decide +kernel
theorem dL_law_503 : vdec mL_law 503 (.aload_n 0) 1 := by decide +kernel
theorem dL_law_504 : vdec mL_law 504 (.iload 4) 2 := by decide +kernel
theorem dL_law_506 : vdec mL_law 506 (.iconst 1) 1 := by decide +kernel
theorem dL_law_507 : vdec mL_law 507 (.iadd) 1 := by decide +kernel
theorem dL_law_508 : vdec mL_law 508 (.iaload) 1 := by decide +kernel
theorem dL_law_509 : vdec mL_law 509 (.aload_n 0) 1 := by decide +kernel
theorem dL_law_510 : vdec mL_law 510 (.iload 4) 2 := by decide +kernel
theorem dL_law_512 : vdec mL_law 512 (.iconst 2) 1 := by decide +kernel
theorem dL_law_513 : vdec mL_law 513 (.iadd) 1 := by decide +kernel
theorem dL_law_514 : vdec mL_law 514 (.iaload) 1 := by decide +kernel
theorem dL_law_515 : vdec mL_law 515 (.aload_n 0) 1 := by decide +kernel
theorem dL_law_516 : vdec mL_law 516 (.iload 4) 2 := by decide +kernel
theorem dL_law_518 : vdec mL_law 518 (.iconst 3) 1 := by decide +kernel
theorem dL_law_519 : vdec mL_law 519 (.iadd) 1 := by decide +kernel
theorem dL_law_520 : vdec mL_law 520 (.iaload) 1 := by decide +kernel
theorem dL_law_521 : vdec mL_law 521 (.aload_n 0) 1 := by decide +kernel
theorem dL_law_522 : vdec mL_law 522 (.iload 4) 2 := by decide +kernel
theorem dL_law_524 : vdec mL_law 524 (.iconst 4) 1 := by decide +kernel
theorem dL_law_525 : vdec mL_law 525 (.iadd) 1 := by decide +kernel
theorem dL_law_526 : vdec mL_law 526 (.iaload) 1 := by decide +kernel
theorem dL_law_527 : vdec mL_law 527 (.invokevirtual 67) 3 := by decide +kernel
theorem dL_law_530 : vdec mL_law 530 (.if_icmp .eq 485) 3 := by decide +kernel
theorem dL_law_533 : vdec mL_law 533 (.iconst 0) 1 := by decide +kernel
theorem dL_law_534 : vdec mL_law 534 (.ireturn) 1 := by decide +kernel
theorem dL_law_535 : vdec mL_law 535 (.aload_n 1) 1 := by decide +kernel
theorem dL_law_536 : vdec mL_law 536 (.aload_n 0) 1 := by decide +kernel
theorem dL_law_537 : vdec mL_law 537 (.iload 4) 2 := by decide +kernel
theorem dL_law_539 : vdec mL_law 539 (.iconst 1) 1 := by decide +kernel
theorem dL_law_540 : vdec mL_law 540 (.iadd) 1 := by decide +kernel
theorem dL_law_541 : vdec mL_law 541 (.iaload) 1 := by decide +kernel
theorem dL_law_542 : vdec mL_law 542 (.aload_n 0) 1 := by decide +kernel
theorem dL_law_543 : vdec mL_law 543 (.iload 4) 2 := by decide +kernel
theorem dL_law_545 : vdec mL_law 545 (.iconst 2) 1 := by decide +kernel
theorem dL_law_546 : vdec mL_law 546 (.iadd) 1 := by decide +kernel
theorem dL_law_547 : vdec mL_law 547 (.iaload) 1 := by decide +kernel
theorem dL_law_548 : vdec mL_law 548 (.aload_n 0) 1 := by decide +kernel
theorem dL_law_549 : vdec mL_law 549 (.iload 4) 2 := by decide +kernel
theorem dL_law_551 : vdec mL_law 551 (.iconst 3) 1 := by decide +kernel
theorem dL_law_552 : vdec mL_law 552 (.iadd) 1 := by decide +kernel
theorem dL_law_553 : vdec mL_law 553 (.iaload) 1 := by decide +kernel
theorem dL_law_554 : vdec mL_law 554 (.invokevirtual 68) 3 := by decide +kernel
theorem dL_law_557 : vdec mL_law 557 (.aload_n 2) 1 := by decide +kernel
theorem dL_law_558 : vdec mL_law 558 (.aload_n 0) 1 := by decide +kernel
theorem dL_law_559 : vdec mL_law 559 (.iload 4) 2 := by decide +kernel
theorem dL_law_561 : vdec mL_law 561 (.iconst 1) 1 := by decide +kernel
theorem dL_law_562 : vdec mL_law 562 (.iadd) 1 := by decide +kernel
theorem dL_law_563 : vdec mL_law 563 (.iaload) 1 := by decide +kernel
theorem dL_law_564 : vdec mL_law 564 (.aload_n 0) 1 := by decide +kernel
theorem dL_law_565 : vdec mL_law 565 (.iload 4) 2 := by decide +kernel
theorem dL_law_567 : vdec mL_law 567 (.iconst 2) 1 := by decide +kernel
theorem dL_law_568 : vdec mL_law 568 (.iadd) 1 := by decide +kernel
theorem dL_law_569 : vdec mL_law 569 (.iaload) 1 := by decide +kernel
theorem dL_law_570 : vdec mL_law 570 (.aload_n 0) 1 := by decide +kernel
theorem dL_law_571 : vdec mL_law 571 (.iload 4) 2 := by decide +kernel
theorem dL_law_573 : vdec mL_law 573 (.iconst 3) 1 := by decide +kernel
theorem dL_law_574 : vdec mL_law 574 (.iadd) 1 := by decide +kernel
theorem dL_law_575 : vdec mL_law 575 (.iaload) 1 := by decide +kernel
theorem dL_law_576 : vdec mL_law 576 (.invokevirtual 71) 3 := by decide +kernel
theorem dL_law_579 : vdec mL_law 579 (.if_icmp .eq 436) 3 := by decide +kernel
theorem dL_law_582 : vdec mL_law 582 (.iconst 0) 1 := by decide +kernel
theorem dL_law_583 : vdec mL_law 583 (.ireturn) 1 := by decide +kernel
theorem dL_law_584 : vdec mL_law 584 (.aload_n 1) 1 := by decide +kernel
theorem dL_law_585 : vdec mL_law 585 (.aload_n 0) 1 := by decide +kernel
theorem dL_law_586 : vdec mL_law 586 (.iload 4) 2 := by decide +kernel
theorem dL_law_588 : vdec mL_law 588 (.iconst 1) 1 := by decide +kernel
theorem dL_law_589 : vdec mL_law 589 (.iadd) 1 := by decide +kernel
theorem dL_law_590 : vdec mL_law 590 (.iaload) 1 := by decide +kernel
theorem dL_law_591 : vdec mL_law 591 (.aload_n 0) 1 := by decide +kernel
theorem dL_law_592 : vdec mL_law 592 (.iload 4) 2 := by decide +kernel
theorem dL_law_594 : vdec mL_law 594 (.iconst 2) 1 := by decide +kernel
theorem dL_law_595 : vdec mL_law 595 (.iadd) 1 := by decide +kernel
theorem dL_law_596 : vdec mL_law 596 (.iaload) 1 := by decide +kernel
theorem dL_law_597 : vdec mL_law 597 (.invokevirtual 72) 3 := by decide +kernel
theorem dL_law_600 : vdec mL_law 600 (.aload_n 2) 1 := by decide +kernel
theorem dL_law_601 : vdec mL_law 601 (.aload_n 0) 1 := by decide +kernel
theorem dL_law_602 : vdec mL_law 602 (.iload 4) 2 := by decide +kernel
theorem dL_law_604 : vdec mL_law 604 (.iconst 1) 1 := by decide +kernel
theorem dL_law_605 : vdec mL_law 605 (.iadd) 1 := by decide +kernel
theorem dL_law_606 : vdec mL_law 606 (.iaload) 1 := by decide +kernel
theorem dL_law_607 : vdec mL_law 607 (.aload_n 0) 1 := by decide +kernel
theorem dL_law_608 : vdec mL_law 608 (.iload 4) 2 := by decide +kernel
theorem dL_law_610 : vdec mL_law 610 (.iconst 2) 1 := by decide +kernel
theorem dL_law_611 : vdec mL_law 611 (.iadd) 1 := by decide +kernel
theorem dL_law_612 : vdec mL_law 612 (.iaload) 1 := by decide +kernel
theorem dL_law_613 : vdec mL_law 613 (.invokevirtual 75) 3 := by decide +kernel
theorem dL_law_616 : vdec mL_law 616 (.if_icmp .eq 399) 3 := by decide +kernel
theorem dL_law_619 : vdec mL_law 619 (.iconst 0) 1 := by decide +kernel
theorem dL_law_620 : vdec mL_law 620 (.ireturn) 1 := by decide +kernel
theorem dL_law_621 : vdec mL_law 621 (.aload_n 1) 1 := by decide +kernel
theorem dL_law_622 : vdec mL_law 622 (.aload_n 0) 1 := by decide +kernel
theorem dL_law_623 : vdec mL_law 623 (.iload 4) 2 := by decide +kernel
theorem dL_law_625 : vdec mL_law 625 (.iconst 1) 1 := by decide +kernel
theorem dL_law_626 : vdec mL_law 626 (.iadd) 1 := by decide +kernel
theorem dL_law_627 : vdec mL_law 627 (.iaload) 1 := by decide +kernel
theorem dL_law_628 : vdec mL_law 628 (.aload_n 0) 1 := by decide +kernel
theorem dL_law_629 : vdec mL_law 629 (.iload 4) 2 := by decide +kernel
theorem dL_law_631 : vdec mL_law 631 (.iconst 2) 1 := by decide +kernel
theorem dL_law_632 : vdec mL_law 632 (.iadd) 1 := by decide +kernel
theorem dL_law_633 : vdec mL_law 633 (.iaload) 1 := by decide +kernel
theorem dL_law_634 : vdec mL_law 634 (.aload_n 0) 1 := by decide +kernel
theorem dL_law_635 : vdec mL_law 635 (.iload 4) 2 := by decide +kernel
theorem dL_law_637 : vdec mL_law 637 (.iconst 3) 1 := by decide +kernel
theorem dL_law_638 : vdec mL_law 638 (.iadd) 1 := by decide +kernel
theorem dL_law_639 : vdec mL_law 639 (.iaload) 1 := by decide +kernel
theorem dL_law_640 : vdec mL_law 640 (.invokevirtual 76) 3 := by decide +kernel
theorem dL_law_643 : vdec mL_law 643 (.aload_n 2) 1 := by decide +kernel
theorem dL_law_644 : vdec mL_law 644 (.aload_n 0) 1 := by decide +kernel
theorem dL_law_645 : vdec mL_law 645 (.iload 4) 2 := by decide +kernel
theorem dL_law_647 : vdec mL_law 647 (.iconst 1) 1 := by decide +kernel
theorem dL_law_648 : vdec mL_law 648 (.iadd) 1 := by decide +kernel
theorem dL_law_649 : vdec mL_law 649 (.iaload) 1 := by decide +kernel
theorem dL_law_650 : vdec mL_law 650 (.aload_n 0) 1 := by decide +kernel
theorem dL_law_651 : vdec mL_law 651 (.iload 4) 2 := by decide +kernel
theorem dL_law_653 : vdec mL_law 653 (.iconst 2) 1 := by decide +kernel
theorem dL_law_654 : vdec mL_law 654 (.iadd) 1 := by decide +kernel
theorem dL_law_655 : vdec mL_law 655 (.iaload) 1 := by decide +kernel
theorem dL_law_656 : vdec mL_law 656 (.aload_n 0) 1 := by decide +kernel
theorem dL_law_657 : vdec mL_law 657 (.iload 4) 2 := by decide +kernel
theorem dL_law_659 : vdec mL_law 659 (.iconst 3) 1 := by decide +kernel
theorem dL_law_660 : vdec mL_law 660 (.iadd) 1 := by decide +kernel
theorem dL_law_661 : vdec mL_law 661 (.iaload) 1 := by decide +kernel
theorem dL_law_662 : vdec mL_law 662 (.invokevirtual 79) 3 := by decide +kernel
theorem dL_law_665 : vdec mL_law 665 (.if_icmp .eq 350) 3 := by decide +kernel
theorem dL_law_668 : vdec mL_law 668 (.iconst 0) 1 := by decide +kernel
theorem dL_law_669 : vdec mL_law 669 (.ireturn) 1 := by decide +kernel
theorem dL_law_670 : vdec mL_law 670 (.aload_n 1) 1 := by decide +kernel
theorem dL_law_671 : vdec mL_law 671 (.aload_n 0) 1 := by decide +kernel
theorem dL_law_672 : vdec mL_law 672 (.iload 4) 2 := by decide +kernel
theorem dL_law_674 : vdec mL_law 674 (.iconst 1) 1 := by decide +kernel
theorem dL_law_675 : vdec mL_law 675 (.iadd) 1 := by decide +kernel
theorem dL_law_676 : vdec mL_law 676 (.iaload) 1 := by decide +kernel
theorem dL_law_677 : vdec mL_law 677 (.aload_n 0) 1 := by decide +kernel
theorem dL_law_678 : vdec mL_law 678 (.iload 4) 2 := by decide +kernel
theorem dL_law_680 : vdec mL_law 680 (.iconst 2) 1 := by decide +kernel
theorem dL_law_681 : vdec mL_law 681 (.iadd) 1 := by decide +kernel
theorem dL_law_682 : vdec mL_law 682 (.iaload) 1 := by decide +kernel
theorem dL_law_683 : vdec mL_law 683 (.aload_n 0) 1 := by decide +kernel
theorem dL_law_684 : vdec mL_law 684 (.iload 4) 2 := by decide +kernel
theorem dL_law_686 : vdec mL_law 686 (.iconst 3) 1 := by decide +kernel
theorem dL_law_687 : vdec mL_law 687 (.iadd) 1 := by decide +kernel
theorem dL_law_688 : vdec mL_law 688 (.iaload) 1 := by decide +kernel
theorem dL_law_689 : vdec mL_law 689 (.aload_n 0) 1 := by decide +kernel
theorem dL_law_690 : vdec mL_law 690 (.iload 4) 2 := by decide +kernel
theorem dL_law_692 : vdec mL_law 692 (.iconst 4) 1 := by decide +kernel
theorem dL_law_693 : vdec mL_law 693 (.iadd) 1 := by decide +kernel
theorem dL_law_694 : vdec mL_law 694 (.iaload) 1 := by decide +kernel
theorem dL_law_695 : vdec mL_law 695 (.invokevirtual 80) 3 := by decide +kernel
theorem dL_law_698 : vdec mL_law 698 (.aload_n 2) 1 := by decide +kernel
theorem dL_law_699 : vdec mL_law 699 (.aload_n 0) 1 := by decide +kernel
theorem dL_law_700 : vdec mL_law 700 (.iload 4) 2 := by decide +kernel
theorem dL_law_702 : vdec mL_law 702 (.iconst 1) 1 := by decide +kernel
theorem dL_law_703 : vdec mL_law 703 (.iadd) 1 := by decide +kernel
theorem dL_law_704 : vdec mL_law 704 (.iaload) 1 := by decide +kernel
theorem dL_law_705 : vdec mL_law 705 (.aload_n 0) 1 := by decide +kernel
theorem dL_law_706 : vdec mL_law 706 (.iload 4) 2 := by decide +kernel
theorem dL_law_708 : vdec mL_law 708 (.iconst 2) 1 := by decide +kernel
theorem dL_law_709 : vdec mL_law 709 (.iadd) 1 := by decide +kernel
theorem dL_law_710 : vdec mL_law 710 (.iaload) 1 := by decide +kernel
theorem dL_law_711 : vdec mL_law 711 (.aload_n 0) 1 := by decide +kernel
theorem dL_law_712 : vdec mL_law 712 (.iload 4) 2 := by decide +kernel
theorem dL_law_714 : vdec mL_law 714 (.iconst 3) 1 := by decide +kernel
theorem dL_law_715 : vdec mL_law 715 (.iadd) 1 := by decide +kernel
theorem dL_law_716 : vdec mL_law 716 (.iaload) 1 := by decide +kernel
theorem dL_law_717 : vdec mL_law 717 (.aload_n 0) 1 := by decide +kernel
theorem dL_law_718 : vdec mL_law 718 (.iload 4) 2 := by decide +kernel
theorem dL_law_720 : vdec mL_law 720 (.iconst 4) 1 := by decide +kernel
theorem dL_law_721 : vdec mL_law 721 (.iadd) 1 := by decide +kernel
theorem dL_law_722 : vdec mL_law 722 (.iaload) 1 := by decide +kernel
theorem dL_law_723 : vdec mL_law 723 (.invokevirtual 83) 3 := by decide +kernel
theorem dL_law_726 : vdec mL_law 726 (.if_icmp .eq 289) 3 := by decide +kernel
theorem dL_law_729 : vdec mL_law 729 (.iconst 0) 1 := by decide +kernel
theorem dL_law_730 : vdec mL_law 730 (.ireturn) 1 := by decide +kernel
theorem dL_law_731 : vdec mL_law 731 (.aload_n 1) 1 := by decide +kernel
theorem dL_law_732 : vdec mL_law 732 (.aload_n 0) 1 := by decide +kernel
theorem dL_law_733 : vdec mL_law 733 (.iload 4) 2 := by decide +kernel
theorem dL_law_735 : vdec mL_law 735 (.iconst 1) 1 := by decide +kernel
theorem dL_law_736 : vdec mL_law 736 (.iadd) 1 := by decide +kernel
theorem dL_law_737 : vdec mL_law 737 (.iaload) 1 := by decide +kernel
theorem dL_law_738 : vdec mL_law 738 (.aload_n 0) 1 := by decide +kernel
theorem dL_law_739 : vdec mL_law 739 (.iload 4) 2 := by decide +kernel
theorem dL_law_741 : vdec mL_law 741 (.iconst 2) 1 := by decide +kernel
theorem dL_law_742 : vdec mL_law 742 (.iadd) 1 := by decide +kernel
theorem dL_law_743 : vdec mL_law 743 (.iaload) 1 := by decide +kernel
theorem dL_law_744 : vdec mL_law 744 (.invokevirtual 84) 3 := by decide +kernel
theorem dL_law_747 : vdec mL_law 747 (.aload_n 2) 1 := by decide +kernel
theorem dL_law_748 : vdec mL_law 748 (.aload_n 0) 1 := by decide +kernel
theorem dL_law_749 : vdec mL_law 749 (.iload 4) 2 := by decide +kernel
theorem dL_law_751 : vdec mL_law 751 (.iconst 1) 1 := by decide +kernel
theorem dL_law_752 : vdec mL_law 752 (.iadd) 1 := by decide +kernel
theorem dL_law_753 : vdec mL_law 753 (.iaload) 1 := by decide +kernel
theorem dL_law_754 : vdec mL_law 754 (.aload_n 0) 1 := by decide +kernel
theorem dL_law_755 : vdec mL_law 755 (.iload 4) 2 := by decide +kernel
theorem dL_law_757 : vdec mL_law 757 (.iconst 2) 1 := by decide +kernel
theorem dL_law_758 : vdec mL_law 758 (.iadd) 1 := by decide +kernel
theorem dL_law_759 : vdec mL_law 759 (.iaload) 1 := by decide +kernel
theorem dL_law_760 : vdec mL_law 760 (.invokevirtual 87) 3 := by decide +kernel
theorem dL_law_763 : vdec mL_law 763 (.if_icmp .eq 252) 3 := by decide +kernel
theorem dL_law_766 : vdec mL_law 766 (.iconst 0) 1 := by decide +kernel
theorem dL_law_767 : vdec mL_law 767 (.ireturn) 1 := by decide +kernel
theorem dL_law_768 : vdec mL_law 768 (.aload_n 1) 1 := by decide +kernel
theorem dL_law_769 : vdec mL_law 769 (.invokevirtual 88) 3 := by decide +kernel
theorem dL_law_772 : vdec mL_law 772 (.aload_n 2) 1 := by decide +kernel
theorem dL_law_773 : vdec mL_law 773 (.invokevirtual 91) 3 := by decide +kernel
theorem dL_law_776 : vdec mL_law 776 (.if_icmp .eq 239) 3 := by decide +kernel
theorem dL_law_779 : vdec mL_law 779 (.iconst 0) 1 := by decide +kernel
theorem dL_law_780 : vdec mL_law 780 (.ireturn) 1 := by decide +kernel
theorem dL_law_781 : vdec mL_law 781 (.aload_n 1) 1 := by decide +kernel
theorem dL_law_782 : vdec mL_law 782 (.aload_n 0) 1 := by decide +kernel
theorem dL_law_783 : vdec mL_law 783 (.iload 4) 2 := by decide +kernel
theorem dL_law_785 : vdec mL_law 785 (.iconst 1) 1 := by decide +kernel
theorem dL_law_786 : vdec mL_law 786 (.iadd) 1 := by decide +kernel
theorem dL_law_787 : vdec mL_law 787 (.iaload) 1 := by decide +kernel
theorem dL_law_788 : vdec mL_law 788 (.aload_n 0) 1 := by decide +kernel
theorem dL_law_789 : vdec mL_law 789 (.iload 4) 2 := by decide +kernel
theorem dL_law_791 : vdec mL_law 791 (.iconst 2) 1 := by decide +kernel
theorem dL_law_792 : vdec mL_law 792 (.iadd) 1 := by decide +kernel
theorem dL_law_793 : vdec mL_law 793 (.iaload) 1 := by decide +kernel
theorem dL_law_794 : vdec mL_law 794 (.aload_n 0) 1 := by decide +kernel
theorem dL_law_795 : vdec mL_law 795 (.iload 4) 2 := by decide +kernel
theorem dL_law_797 : vdec mL_law 797 (.iconst 3) 1 := by decide +kernel
theorem dL_law_798 : vdec mL_law 798 (.iadd) 1 := by decide +kernel
theorem dL_law_799 : vdec mL_law 799 (.iaload) 1 := by decide +kernel
theorem dL_law_800 : vdec mL_law 800 (.aload_n 0) 1 := by decide +kernel
theorem dL_law_801 : vdec mL_law 801 (.iload 4) 2 := by decide +kernel
theorem dL_law_803 : vdec mL_law 803 (.iconst 4) 1 := by decide +kernel
theorem dL_law_804 : vdec mL_law 804 (.iadd) 1 := by decide +kernel
theorem dL_law_805 : vdec mL_law 805 (.iaload) 1 := by decide +kernel
theorem dL_law_806 : vdec mL_law 806 (.invokevirtual 92) 3 := by decide +kernel
theorem dL_law_809 : vdec mL_law 809 (.aload_n 2) 1 := by decide +kernel
theorem dL_law_810 : vdec mL_law 810 (.aload_n 0) 1 := by decide +kernel
theorem dL_law_811 : vdec mL_law 811 (.iload 4) 2 := by decide +kernel
theorem dL_law_813 : vdec mL_law 813 (.iconst 1) 1 := by decide +kernel
theorem dL_law_814 : vdec mL_law 814 (.iadd) 1 := by decide +kernel
theorem dL_law_815 : vdec mL_law 815 (.iaload) 1 := by decide +kernel
theorem dL_law_816 : vdec mL_law 816 (.aload_n 0) 1 := by decide +kernel
theorem dL_law_817 : vdec mL_law 817 (.iload 4) 2 := by decide +kernel
theorem dL_law_819 : vdec mL_law 819 (.iconst 2) 1 := by decide +kernel
theorem dL_law_820 : vdec mL_law 820 (.iadd) 1 := by decide +kernel
theorem dL_law_821 : vdec mL_law 821 (.iaload) 1 := by decide +kernel
theorem dL_law_822 : vdec mL_law 822 (.aload_n 0) 1 := by decide +kernel
theorem dL_law_823 : vdec mL_law 823 (.iload 4) 2 := by decide +kernel
theorem dL_law_825 : vdec mL_law 825 (.iconst 3) 1 := by decide +kernel
theorem dL_law_826 : vdec mL_law 826 (.iadd) 1 := by decide +kernel
theorem dL_law_827 : vdec mL_law 827 (.iaload) 1 := by decide +kernel
theorem dL_law_828 : vdec mL_law 828 (.aload_n 0) 1 := by decide +kernel
theorem dL_law_829 : vdec mL_law 829 (.iload 4) 2 := by decide +kernel
theorem dL_law_831 : vdec mL_law 831 (.iconst 4) 1 := by decide +kernel
theorem dL_law_832 : vdec mL_law 832 (.iadd) 1 := by decide +kernel
theorem dL_law_833 : vdec mL_law 833 (.iaload) 1 := by decide +kernel
theorem dL_law_834 : vdec mL_law 834 (.invokevirtual 95) 3 := by decide +kernel
theorem dL_law_837 : vdec mL_law 837 (.if_icmp .eq 178) 3 := by decide +kernel
theorem dL_law_840 : vdec mL_law 840 (.iconst 0) 1 := by decide +kernel
theorem dL_law_841 : vdec mL_law 841 (.ireturn) 1 := by decide +kernel
theorem dL_law_842 : vdec mL_law 842 (.aload_n 1) 1 := by decide +kernel
theorem dL_law_843 : vdec mL_law 843 (.aload_n 0) 1 := by decide +kernel
theorem dL_law_844 : vdec mL_law 844 (.iload 4) 2 := by decide +kernel
theorem dL_law_846 : vdec mL_law 846 (.iconst 1) 1 := by decide +kernel
theorem dL_law_847 : vdec mL_law 847 (.iadd) 1 := by decide +kernel
theorem dL_law_848 : vdec mL_law 848 (.iaload) 1 := by decide +kernel
theorem dL_law_849 : vdec mL_law 849 (.aload_n 0) 1 := by decide +kernel
theorem dL_law_850 : vdec mL_law 850 (.iload 4) 2 := by decide +kernel
theorem dL_law_852 : vdec mL_law 852 (.iconst 2) 1 := by decide +kernel
theorem dL_law_853 : vdec mL_law 853 (.iadd) 1 := by decide +kernel
theorem dL_law_854 : vdec mL_law 854 (.iaload) 1 := by decide +kernel
theorem dL_law_855 : vdec mL_law 855 (.aload_n 0) 1 := by decide +kernel
theorem dL_law_856 : vdec mL_law 856 (.iload 4) 2 := by decide +kernel
theorem dL_law_858 : vdec mL_law 858 (.iconst 3) 1 := by decide +kernel
theorem dL_law_859 : vdec mL_law 859 (.iadd) 1 := by decide +kernel
theorem dL_law_860 : vdec mL_law 860 (.iaload) 1 := by decide +kernel
theorem dL_law_861 : vdec mL_law 861 (.aload_n 0) 1 := by decide +kernel
theorem dL_law_862 : vdec mL_law 862 (.iload 4) 2 := by decide +kernel
theorem dL_law_864 : vdec mL_law 864 (.iconst 4) 1 := by decide +kernel
theorem dL_law_865 : vdec mL_law 865 (.iadd) 1 := by decide +kernel
theorem dL_law_866 : vdec mL_law 866 (.iaload) 1 := by decide +kernel
theorem dL_law_867 : vdec mL_law 867 (.invokevirtual 96) 3 := by decide +kernel
theorem dL_law_870 : vdec mL_law 870 (.aload_n 2) 1 := by decide +kernel
theorem dL_law_871 : vdec mL_law 871 (.aload_n 0) 1 := by decide +kernel
theorem dL_law_872 : vdec mL_law 872 (.iload 4) 2 := by decide +kernel
theorem dL_law_874 : vdec mL_law 874 (.iconst 1) 1 := by decide +kernel
theorem dL_law_875 : vdec mL_law 875 (.iadd) 1 := by decide +kernel
theorem dL_law_876 : vdec mL_law 876 (.iaload) 1 := by decide +kernel
theorem dL_law_877 : vdec mL_law 877 (.aload_n 0) 1 := by decide +kernel
theorem dL_law_878 : vdec mL_law 878 (.iload 4) 2 := by decide +kernel
theorem dL_law_880 : vdec mL_law 880 (.iconst 2) 1 := by decide +kernel
theorem dL_law_881 : vdec mL_law 881 (.iadd) 1 := by decide +kernel
theorem dL_law_882 : vdec mL_law 882 (.iaload) 1 := by decide +kernel
theorem dL_law_883 : vdec mL_law 883 (.aload_n 0) 1 := by decide +kernel
theorem dL_law_884 : vdec mL_law 884 (.iload 4) 2 := by decide +kernel
theorem dL_law_886 : vdec mL_law 886 (.iconst 3) 1 := by decide +kernel
theorem dL_law_887 : vdec mL_law 887 (.iadd) 1 := by decide +kernel
theorem dL_law_888 : vdec mL_law 888 (.iaload) 1 := by decide +kernel
theorem dL_law_889 : vdec mL_law 889 (.aload_n 0) 1 := by decide +kernel
theorem dL_law_890 : vdec mL_law 890 (.iload 4) 2 := by decide +kernel
theorem dL_law_892 : vdec mL_law 892 (.iconst 4) 1 := by decide +kernel
theorem dL_law_893 : vdec mL_law 893 (.iadd) 1 := by decide +kernel
theorem dL_law_894 : vdec mL_law 894 (.iaload) 1 := by decide +kernel
theorem dL_law_895 : vdec mL_law 895 (.invokevirtual 99) 3 := by decide +kernel
theorem dL_law_898 : vdec mL_law 898 (.if_icmp .eq 117) 3 := by decide +kernel
theorem dL_law_901 : vdec mL_law 901 (.iconst 0) 1 := by decide +kernel
theorem dL_law_902 : vdec mL_law 902 (.ireturn) 1 := by decide +kernel
theorem dL_law_903 : vdec mL_law 903 (.aload_n 1) 1 := by decide +kernel
theorem dL_law_904 : vdec mL_law 904 (.aload_n 0) 1 := by decide +kernel
theorem dL_law_905 : vdec mL_law 905 (.iload 4) 2 := by decide +kernel
theorem dL_law_907 : vdec mL_law 907 (.iconst 1) 1 := by decide +kernel
theorem dL_law_908 : vdec mL_law 908 (.iadd) 1 := by decide +kernel
theorem dL_law_909 : vdec mL_law 909 (.iaload) 1 := by decide +kernel
theorem dL_law_910 : vdec mL_law 910 (.invokevirtual 100) 3 := by decide +kernel
theorem dL_law_913 : vdec mL_law 913 (.aload_n 2) 1 := by decide +kernel
theorem dL_law_914 : vdec mL_law 914 (.aload_n 0) 1 := by decide +kernel
theorem dL_law_915 : vdec mL_law 915 (.iload 4) 2 := by decide +kernel
theorem dL_law_917 : vdec mL_law 917 (.iconst 1) 1 := by decide +kernel
theorem dL_law_918 : vdec mL_law 918 (.iadd) 1 := by decide +kernel
theorem dL_law_919 : vdec mL_law 919 (.iaload) 1 := by decide +kernel
theorem dL_law_920 : vdec mL_law 920 (.invokevirtual 103) 3 := by decide +kernel
theorem dL_law_923 : vdec mL_law 923 (.if_icmp .eq 92) 3 := by decide +kernel
theorem dL_law_926 : vdec mL_law 926 (.iconst 0) 1 := by decide +kernel
theorem dL_law_927 : vdec mL_law 927 (.ireturn) 1 := by decide +kernel
theorem dL_law_928 : vdec mL_law 928 (.aload_n 1) 1 := by decide +kernel
theorem dL_law_929 : vdec mL_law 929 (.aload_n 0) 1 := by decide +kernel
theorem dL_law_930 : vdec mL_law 930 (.iload 4) 2 := by decide +kernel
theorem dL_law_932 : vdec mL_law 932 (.iconst 1) 1 := by decide +kernel
theorem dL_law_933 : vdec mL_law 933 (.iadd) 1 := by decide +kernel
theorem dL_law_934 : vdec mL_law 934 (.iaload) 1 := by decide +kernel
theorem dL_law_935 : vdec mL_law 935 (.aload_n 0) 1 := by decide +kernel
theorem dL_law_936 : vdec mL_law 936 (.iload 4) 2 := by decide +kernel
theorem dL_law_938 : vdec mL_law 938 (.iconst 2) 1 := by decide +kernel
theorem dL_law_939 : vdec mL_law 939 (.iadd) 1 := by decide +kernel
theorem dL_law_940 : vdec mL_law 940 (.iaload) 1 := by decide +kernel
theorem dL_law_941 : vdec mL_law 941 (.invokevirtual 104) 3 := by decide +kernel
theorem dL_law_944 : vdec mL_law 944 (.aload_n 2) 1 := by decide +kernel
theorem dL_law_945 : vdec mL_law 945 (.aload_n 0) 1 := by decide +kernel
theorem dL_law_946 : vdec mL_law 946 (.iload 4) 2 := by decide +kernel
theorem dL_law_948 : vdec mL_law 948 (.iconst 1) 1 := by decide +kernel
theorem dL_law_949 : vdec mL_law 949 (.iadd) 1 := by decide +kernel
theorem dL_law_950 : vdec mL_law 950 (.iaload) 1 := by decide +kernel
theorem dL_law_951 : vdec mL_law 951 (.aload_n 0) 1 := by decide +kernel
theorem dL_law_952 : vdec mL_law 952 (.iload 4) 2 := by decide +kernel
theorem dL_law_954 : vdec mL_law 954 (.iconst 2) 1 := by decide +kernel
theorem dL_law_955 : vdec mL_law 955 (.iadd) 1 := by decide +kernel
theorem dL_law_956 : vdec mL_law 956 (.iaload) 1 := by decide +kernel
theorem dL_law_957 : vdec mL_law 957 (.invokevirtual 108) 3 := by decide +kernel
theorem dL_law_960 : vdec mL_law 960 (.if_icmp .eq 55) 3 := by decide +kernel
theorem dL_law_963 : vdec mL_law 963 (.iconst 0) 1 := by decide +kernel
theorem dL_law_964 : vdec mL_law 964 (.ireturn) 1 := by decide +kernel
theorem dL_law_965 : vdec mL_law 965 (.aload_n 1) 1 := by decide +kernel
theorem dL_law_966 : vdec mL_law 966 (.aload_n 0) 1 := by decide +kernel
theorem dL_law_967 : vdec mL_law 967 (.iload 4) 2 := by decide +kernel
theorem dL_law_969 : vdec mL_law 969 (.iconst 1) 1 := by decide +kernel
theorem dL_law_970 : vdec mL_law 970 (.iadd) 1 := by decide +kernel
theorem dL_law_971 : vdec mL_law 971 (.iaload) 1 := by decide +kernel
theorem dL_law_972 : vdec mL_law 972 (.aload_n 0) 1 := by decide +kernel
theorem dL_law_973 : vdec mL_law 973 (.iload 4) 2 := by decide +kernel
theorem dL_law_975 : vdec mL_law 975 (.iconst 2) 1 := by decide +kernel
theorem dL_law_976 : vdec mL_law 976 (.iadd) 1 := by decide +kernel
theorem dL_law_977 : vdec mL_law 977 (.iaload) 1 := by decide +kernel
theorem dL_law_978 : vdec mL_law 978 (.invokevirtual 109) 3 := by decide +kernel
theorem dL_law_981 : vdec mL_law 981 (.aload_n 2) 1 := by decide +kernel
theorem dL_law_982 : vdec mL_law 982 (.aload_n 0) 1 := by decide +kernel
theorem dL_law_983 : vdec mL_law 983 (.iload 4) 2 := by decide +kernel
theorem dL_law_985 : vdec mL_law 985 (.iconst 1) 1 := by decide +kernel
theorem dL_law_986 : vdec mL_law 986 (.iadd) 1 := by decide +kernel
theorem dL_law_987 : vdec mL_law 987 (.iaload) 1 := by decide +kernel
theorem dL_law_988 : vdec mL_law 988 (.aload_n 0) 1 := by decide +kernel
theorem dL_law_989 : vdec mL_law 989 (.iload 4) 2 := by decide +kernel
theorem dL_law_991 : vdec mL_law 991 (.iconst 2) 1 := by decide +kernel
theorem dL_law_992 : vdec mL_law 992 (.iadd) 1 := by decide +kernel
theorem dL_law_993 : vdec mL_law 993 (.iaload) 1 := by decide +kernel
theorem dL_law_994 : vdec mL_law 994 (.invokevirtual 112) 3 := by decide +kernel
theorem dL_law_997 : vdec mL_law 997 (.if_icmp .eq 18) 3 := by decide +kernel
theorem dL_law_1000 : vdec mL_law 1000 (.iconst 0) 1 := by decide +kernel
theorem dL_law_1001 : vdec mL_law 1001 (.ireturn) 1 := by decide +kernel
theorem dL_law_1002 : vdec mL_law 1002 (.aload_n 1) 1 := by decide +kernel
theorem dL_law_1003 : vdec mL_law 1003 (.invokevirtual 113) 3 := by decide +kernel
theorem dL_law_1006 : vdec mL_law 1006 (.aload_n 2) 1 := by decide +kernel
theorem dL_law_1007 : vdec mL_law 1007 (.invokevirtual 116) 3 := by decide +kernel
theorem dL_law_1010 : vdec mL_law 1010 (.if_icmp .eq 5) 3 := by decide +kernel
theorem dL_law_1013 : vdec mL_law 1013 (.iconst 0) 1 := by decide +kernel
theorem dL_law_1014 : vdec mL_law 1014 (.ireturn) 1 := by decide +kernel
theorem dL_law_1015 : vdec mL_law 1015 (.iinc 4 6) 3 := by decide +kernel
theorem dL_law_1018 : vdec mL_law 1018 (.goto (-995)) 3 := by decide +kernel
theorem dL_law_1021 : vdec mL_law 1021 (.iconst 1) 1 := by decide +kernel
theorem dL_law_1022 : vdec mL_law 1022 (.ireturn) 1 := by decide +kernel
end
section
theorem dX0_init_0 : vdec mX0_init 0 (.aload_n 0) 1 := by decide +kernel
theorem dX0_init_1 : vdec mX0_init 1 (.invokespecial 3) 3 := by decide +kernel
theorem dX0_init_4 : vdec mX0_init 4 (.aload_n 0) 1 := by decide +kernel
theorem dX0_init_5 : vdec mX0_init 5 (.bipush 10) 2 := by decide +kernel
theorem dX0_init_7 : vdec mX0_init 7 (.newarray .int) 2 := by decide +kernel
theorem dX0_init_9 : vdec mX0_init 9 (.putfield 11) 3 := by decide +kernel
theorem dX0_init_12 : vdec mX0_init 12 (.aload_n 0) 1 := by decide +kernel
theorem dX0_init_13 : vdec mX0_init 13 (.bipush 10) 2 := by decide +kernel
theorem dX0_init_15 : vdec mX0_init 15 (.newarray .int) 2 := by decide +kernel
theorem dX0_init_17 : vdec mX0_init 17 (.putfield 15) 3 := by decide +kernel
theorem dX0_init_20 : vdec mX0_init 20 (.aload_n 0) 1 := by decide +kernel
theorem dX0_init_21 : vdec mX0_init 21 (.bipush 10) 2 := by decide +kernel
theorem dX0_init_23 : vdec mX0_init 23 (.newarray .int) 2 := by decide +kernel
theorem dX0_init_25 : vdec mX0_init 25 (.putfield 18) 3 := by decide +kernel
theorem dX0_init_28 : vdec mX0_init 28 (.aload_n 0) 1 := by decide +kernel
theorem dX0_init_29 : vdec mX0_init 29 (.iconst 0) 1 := by decide +kernel
theorem dX0_init_30 : vdec mX0_init 30 (.putfield 21) 3 := by decide +kernel
theorem dX0_init_33 : vdec mX0_init 33 (.return_) 1 := by decide +kernel
theorem dX0_size_0 : vdec mX0_size 0 (.aload_n 0) 1 := by decide +kernel
theorem dX0_size_1 : vdec mX0_size 1 (.getfield 21) 3 := by decide +kernel
theorem dX0_size_4 : vdec mX0_size 4 (.ireturn) 1 := by decide +kernel
theorem dX0_clear_0 : vdec mX0_clear 0 (.aload_n 0) 1 := by decide +kernel
theorem dX0_clear_1 : vdec mX0_clear 1 (.iconst 0) 1 := by decide +kernel
theorem dX0_clear_2 : vdec mX0_clear 2 (.putfield 21) 3 := by decide +kernel
theorem dX0_clear_5 : vdec mX0_clear 5 (.return_) 1 := by decide +kernel
theorem dX0_keep_0 : vdec mX0_keep 0 (.aload_n 0) 1 := by decide +kernel
theorem dX0_keep_1 : vdec mX0_keep 1 (.getfield 21) 3 := by decide +kernel
theorem dX0_keep_4 : vdec mX0_keep 4 (.bipush 10) 2 := by decide +kernel
theorem dX0_keep_6 : vdec mX0_keep 6 (.if_icmp .lt 7) 3 := by decide +kernel
theorem dX0_keep_9 : vdec mX0_keep 9 (.aload_n 0) 1 := by decide +kernel
theorem dX0_keep_10 : vdec mX0_keep 10 (.invokevirtual 25) 3 := by decide +kernel
theorem dX0_keep_13 : vdec mX0_keep 13 (.aload_n 0) 1 := by decide +kernel
theorem dX0_keep_14 : vdec mX0_keep 14 (.getfield 11) 3 := by decide +kernel
theorem dX0_keep_17 : vdec mX0_keep 17 (.aload_n 0) 1 := by decide +kernel
theorem dX0_keep_18 : vdec mX0_keep 18 (.getfield 21) 3 := by decide +kernel
theorem dX0_keep_21 : vdec mX0_keep 21 (.iload_n 1) 1 := by decide +kernel
theorem dX0_keep_22 : vdec mX0_keep 22 (.iastore) 1 := by decide +kernel
theorem dX0_keep_23 : vdec mX0_keep 23 (.aload_n 0) 1 := by decide +kernel
theorem dX0_keep_24 : vdec mX0_keep 24 (.getfield 15) 3 := by decide +kernel
theorem dX0_keep_27 : vdec mX0_keep 27 (.aload_n 0) 1 := by decide +kernel
theorem dX0_keep_28 : vdec mX0_keep 28 (.getfield 21) 3 := by decide +kernel
theorem dX0_keep_31 : vdec mX0_keep 31 (.iload_n 2) 1 := by decide +kernel
theorem dX0_keep_32 : vdec mX0_keep 32 (.iastore) 1 := by decide +kernel
theorem dX0_keep_33 : vdec mX0_keep 33 (.aload_n 0) 1 := by decide +kernel
theorem dX0_keep_34 : vdec mX0_keep 34 (.getfield 18) 3 := by decide +kernel
theorem dX0_keep_37 : vdec mX0_keep 37 (.aload_n 0) 1 := by decide +kernel
theorem dX0_keep_38 : vdec mX0_keep 38 (.getfield 21) 3 := by decide +kernel
theorem dX0_keep_41 : vdec mX0_keep 41 (.iload_n 3) 1 := by decide +kernel
theorem dX0_keep_42 : vdec mX0_keep 42 (.iastore) 1 := by decide +kernel
theorem dX0_keep_43 : vdec mX0_keep 43 (.aload_n 0) 1 := by decide +kernel
theorem dX0_keep_44 : vdec mX0_keep 44 (.dup) 1 := by decide +kernel
theorem dX0_keep_45 : vdec mX0_keep 45 (.getfield 21) 3 := by decide +kernel
theorem dX0_keep_48 : vdec mX0_keep 48 (.iconst 1) 1 := by decide +kernel
theorem dX0_keep_49 : vdec mX0_keep 49 (.iadd) 1 := by decide +kernel
theorem dX0_keep_50 : vdec mX0_keep 50 (.putfield 21) 3 := by decide +kernel
theorem dX0_keep_53 : vdec mX0_keep 53 (.return_) 1 := by decide +kernel
theorem dX0_latestSort_0 : vdec mX0_latestSort 0 (.aload_n 0) 1 := by decide +kernel
theorem dX0_latestSort_1 : vdec mX0_latestSort 1 (.getfield 21) 3 := by decide +kernel
theorem dX0_latestSort_4 : vdec mX0_latestSort 4 (.ifCond .le 17) 3 := by decide +kernel
theorem dX0_latestSort_7 : vdec mX0_latestSort 7 (.aload_n 0) 1 := by decide +kernel
theorem dX0_latestSort_8 : vdec mX0_latestSort 8 (.getfield 11) 3 := by decide +kernel
theorem dX0_latestSort_11 : vdec mX0_latestSort 11 (.aload_n 0) 1 := by decide +kernel
theorem dX0_latestSort_12 : vdec mX0_latestSort 12 (.getfield 21) 3 := by decide +kernel
theorem dX0_latestSort_15 : vdec mX0_latestSort 15 (.iconst 1) 1 := by decide +kernel
theorem dX0_latestSort_16 : vdec mX0_latestSort 16 (.isub) 1 := by decide +kernel
theorem dX0_latestSort_17 : vdec mX0_latestSort 17 (.iaload) 1 := by decide +kernel
theorem dX0_latestSort_18 : vdec mX0_latestSort 18 (.goto 4) 3 := by decide +kernel
theorem dX0_latestSort_21 : vdec mX0_latestSort 21 (.iconst (-1)) 1 := by decide +kernel
theorem dX0_latestSort_22 : vdec mX0_latestSort 22 (.ireturn) 1 := by decide +kernel
theorem dX0_latestTarget_0 : vdec mX0_latestTarget 0 (.aload_n 0) 1 := by decide +kernel
theorem dX0_latestTarget_1 : vdec mX0_latestTarget 1 (.getfield 21) 3 := by decide +kernel
theorem dX0_latestTarget_4 : vdec mX0_latestTarget 4 (.ifCond .le 17) 3 := by decide +kernel
theorem dX0_latestTarget_7 : vdec mX0_latestTarget 7 (.aload_n 0) 1 := by decide +kernel
theorem dX0_latestTarget_8 : vdec mX0_latestTarget 8 (.getfield 15) 3 := by decide +kernel
theorem dX0_latestTarget_11 : vdec mX0_latestTarget 11 (.aload_n 0) 1 := by decide +kernel
theorem dX0_latestTarget_12 : vdec mX0_latestTarget 12 (.getfield 21) 3 := by decide +kernel
theorem dX0_latestTarget_15 : vdec mX0_latestTarget 15 (.iconst 1) 1 := by decide +kernel
theorem dX0_latestTarget_16 : vdec mX0_latestTarget 16 (.isub) 1 := by decide +kernel
theorem dX0_latestTarget_17 : vdec mX0_latestTarget 17 (.iaload) 1 := by decide +kernel
theorem dX0_latestTarget_18 : vdec mX0_latestTarget 18 (.goto 4) 3 := by decide +kernel
theorem dX0_latestTarget_21 : vdec mX0_latestTarget 21 (.iconst (-1)) 1 := by decide +kernel
theorem dX0_latestTarget_22 : vdec mX0_latestTarget 22 (.ireturn) 1 := by decide +kernel
theorem dX0_latestBefore_0 : vdec mX0_latestBefore 0 (.aload_n 0) 1 := by decide +kernel
theorem dX0_latestBefore_1 : vdec mX0_latestBefore 1 (.getfield 21) 3 := by decide +kernel
theorem dX0_latestBefore_4 : vdec mX0_latestBefore 4 (.ifCond .le 17) 3 := by decide +kernel
theorem dX0_latestBefore_7 : vdec mX0_latestBefore 7 (.aload_n 0) 1 := by decide +kernel
theorem dX0_latestBefore_8 : vdec mX0_latestBefore 8 (.getfield 18) 3 := by decide +kernel
theorem dX0_latestBefore_11 : vdec mX0_latestBefore 11 (.aload_n 0) 1 := by decide +kernel
theorem dX0_latestBefore_12 : vdec mX0_latestBefore 12 (.getfield 21) 3 := by decide +kernel
theorem dX0_latestBefore_15 : vdec mX0_latestBefore 15 (.iconst 1) 1 := by decide +kernel
theorem dX0_latestBefore_16 : vdec mX0_latestBefore 16 (.isub) 1 := by decide +kernel
theorem dX0_latestBefore_17 : vdec mX0_latestBefore 17 (.iaload) 1 := by decide +kernel
theorem dX0_latestBefore_18 : vdec mX0_latestBefore 18 (.goto 4) 3 := by decide +kernel
theorem dX0_latestBefore_21 : vdec mX0_latestBefore 21 (.iconst (-1)) 1 := by decide +kernel
theorem dX0_latestBefore_22 : vdec mX0_latestBefore 22 (.ireturn) 1 := by decide +kernel
theorem dX0_dropLatest_0 : vdec mX0_dropLatest 0 (.aload_n 0) 1 := by decide +kernel
theorem dX0_dropLatest_1 : vdec mX0_dropLatest 1 (.aload_n 0) 1 := by decide +kernel
theorem dX0_dropLatest_2 : vdec mX0_dropLatest 2 (.getfield 21) 3 := by decide +kernel
theorem dX0_dropLatest_5 : vdec mX0_dropLatest 5 (.iconst 1) 1 := by decide +kernel
theorem dX0_dropLatest_6 : vdec mX0_dropLatest 6 (.isub) 1 := by decide +kernel
theorem dX0_dropLatest_7 : vdec mX0_dropLatest 7 (.iconst 0) 1 := by decide +kernel
theorem dX0_dropLatest_8 : vdec mX0_dropLatest 8 (.invokestatic 28) 3 := by decide +kernel
theorem dX0_dropLatest_11 : vdec mX0_dropLatest 11 (.putfield 21) 3 := by decide +kernel
theorem dX0_dropLatest_14 : vdec mX0_dropLatest 14 (.return_) 1 := by decide +kernel
theorem dX0_dropOldest_0 : vdec mX0_dropOldest 0 (.iconst 1) 1 := by decide +kernel
theorem dX0_dropOldest_1 : vdec mX0_dropOldest 1 (.istore_n 1) 1 := by decide +kernel
theorem dX0_dropOldest_2 : vdec mX0_dropOldest 2 (.iload_n 1) 1 := by decide +kernel
theorem dX0_dropOldest_3 : vdec mX0_dropOldest 3 (.bipush 10) 2 := by decide +kernel
theorem dX0_dropOldest_5 : vdec mX0_dropOldest 5 (.if_icmp .ge 51) 3 := by decide +kernel
theorem dX0_dropOldest_8 : vdec mX0_dropOldest 8 (.aload_n 0) 1 := by decide +kernel
theorem dX0_dropOldest_9 : vdec mX0_dropOldest 9 (.getfield 11) 3 := by decide +kernel
theorem dX0_dropOldest_12 : vdec mX0_dropOldest 12 (.iload_n 1) 1 := by decide +kernel
theorem dX0_dropOldest_13 : vdec mX0_dropOldest 13 (.iconst 1) 1 := by decide +kernel
theorem dX0_dropOldest_14 : vdec mX0_dropOldest 14 (.isub) 1 := by decide +kernel
theorem dX0_dropOldest_15 : vdec mX0_dropOldest 15 (.aload_n 0) 1 := by decide +kernel
theorem dX0_dropOldest_16 : vdec mX0_dropOldest 16 (.getfield 11) 3 := by decide +kernel
theorem dX0_dropOldest_19 : vdec mX0_dropOldest 19 (.iload_n 1) 1 := by decide +kernel
theorem dX0_dropOldest_20 : vdec mX0_dropOldest 20 (.iaload) 1 := by decide +kernel
theorem dX0_dropOldest_21 : vdec mX0_dropOldest 21 (.iastore) 1 := by decide +kernel
theorem dX0_dropOldest_22 : vdec mX0_dropOldest 22 (.aload_n 0) 1 := by decide +kernel
theorem dX0_dropOldest_23 : vdec mX0_dropOldest 23 (.getfield 15) 3 := by decide +kernel
theorem dX0_dropOldest_26 : vdec mX0_dropOldest 26 (.iload_n 1) 1 := by decide +kernel
theorem dX0_dropOldest_27 : vdec mX0_dropOldest 27 (.iconst 1) 1 := by decide +kernel
theorem dX0_dropOldest_28 : vdec mX0_dropOldest 28 (.isub) 1 := by decide +kernel
theorem dX0_dropOldest_29 : vdec mX0_dropOldest 29 (.aload_n 0) 1 := by decide +kernel
theorem dX0_dropOldest_30 : vdec mX0_dropOldest 30 (.getfield 15) 3 := by decide +kernel
theorem dX0_dropOldest_33 : vdec mX0_dropOldest 33 (.iload_n 1) 1 := by decide +kernel
theorem dX0_dropOldest_34 : vdec mX0_dropOldest 34 (.iaload) 1 := by decide +kernel
theorem dX0_dropOldest_35 : vdec mX0_dropOldest 35 (.iastore) 1 := by decide +kernel
theorem dX0_dropOldest_36 : vdec mX0_dropOldest 36 (.aload_n 0) 1 := by decide +kernel
theorem dX0_dropOldest_37 : vdec mX0_dropOldest 37 (.getfield 18) 3 := by decide +kernel
theorem dX0_dropOldest_40 : vdec mX0_dropOldest 40 (.iload_n 1) 1 := by decide +kernel
theorem dX0_dropOldest_41 : vdec mX0_dropOldest 41 (.iconst 1) 1 := by decide +kernel
theorem dX0_dropOldest_42 : vdec mX0_dropOldest 42 (.isub) 1 := by decide +kernel
theorem dX0_dropOldest_43 : vdec mX0_dropOldest 43 (.aload_n 0) 1 := by decide +kernel
theorem dX0_dropOldest_44 : vdec mX0_dropOldest 44 (.getfield 18) 3 := by decide +kernel
theorem dX0_dropOldest_47 : vdec mX0_dropOldest 47 (.iload_n 1) 1 := by decide +kernel
theorem dX0_dropOldest_48 : vdec mX0_dropOldest 48 (.iaload) 1 := by decide +kernel
theorem dX0_dropOldest_49 : vdec mX0_dropOldest 49 (.iastore) 1 := by decide +kernel
theorem dX0_dropOldest_50 : vdec mX0_dropOldest 50 (.iinc 1 1) 3 := by decide +kernel
theorem dX0_dropOldest_53 : vdec mX0_dropOldest 53 (.goto (-51)) 3 := by decide +kernel
theorem dX0_dropOldest_56 : vdec mX0_dropOldest 56 (.aload_n 0) 1 := by decide +kernel
theorem dX0_dropOldest_57 : vdec mX0_dropOldest 57 (.bipush 9) 2 := by decide +kernel
theorem dX0_dropOldest_59 : vdec mX0_dropOldest 59 (.putfield 21) 3 := by decide +kernel
theorem dX0_dropOldest_62 : vdec mX0_dropOldest 62 (.return_) 1 := by decide +kernel
end
section
theorem dX1_init_0 : vdec mX1_init 0 (.aload_n 0) 1 := by decide +kernel
theorem dX1_init_1 : vdec mX1_init 1 (.invokespecial 3) 3 := by decide +kernel
theorem dX1_init_4 : vdec mX1_init 4 (.aload_n 0) 1 := by decide +kernel
theorem dX1_init_5 : vdec mX1_init 5 (.bipush 12) 2 := by decide +kernel
theorem dX1_init_7 : vdec mX1_init 7 (.newarray .int) 2 := by decide +kernel
theorem dX1_init_9 : vdec mX1_init 9 (.putfield 9) 3 := by decide +kernel
theorem dX1_init_12 : vdec mX1_init 12 (.aload_n 0) 1 := by decide +kernel
theorem dX1_init_13 : vdec mX1_init 13 (.bipush 12) 2 := by decide +kernel
theorem dX1_init_15 : vdec mX1_init 15 (.newarray .int) 2 := by decide +kernel
theorem dX1_init_17 : vdec mX1_init 17 (.putfield 15) 3 := by decide +kernel
theorem dX1_init_20 : vdec mX1_init 20 (.aload_n 0) 1 := by decide +kernel
theorem dX1_init_21 : vdec mX1_init 21 (.bipush 12) 2 := by decide +kernel
theorem dX1_init_23 : vdec mX1_init 23 (.newarray .int) 2 := by decide +kernel
theorem dX1_init_25 : vdec mX1_init 25 (.putfield 18) 3 := by decide +kernel
theorem dX1_init_28 : vdec mX1_init 28 (.aload_n 0) 1 := by decide +kernel
theorem dX1_init_29 : vdec mX1_init 29 (.bipush 30) 2 := by decide +kernel
theorem dX1_init_31 : vdec mX1_init 31 (.anewarray 21) 3 := by decide +kernel
theorem dX1_init_34 : vdec mX1_init 34 (.putfield 23) 3 := by decide +kernel
theorem dX1_init_37 : vdec mX1_init 37 (.aload_n 0) 1 := by decide +kernel
theorem dX1_init_38 : vdec mX1_init 38 (.iconst 0) 1 := by decide +kernel
theorem dX1_init_39 : vdec mX1_init 39 (.putfield 27) 3 := by decide +kernel
theorem dX1_init_42 : vdec mX1_init 42 (.aload_n 0) 1 := by decide +kernel
theorem dX1_init_43 : vdec mX1_init 43 (.iconst 0) 1 := by decide +kernel
theorem dX1_init_44 : vdec mX1_init 44 (.putfield 31) 3 := by decide +kernel
theorem dX1_init_47 : vdec mX1_init 47 (.iconst 0) 1 := by decide +kernel
theorem dX1_init_48 : vdec mX1_init 48 (.istore_n 1) 1 := by decide +kernel
theorem dX1_init_49 : vdec mX1_init 49 (.iload_n 1) 1 := by decide +kernel
theorem dX1_init_50 : vdec mX1_init 50 (.bipush 30) 2 := by decide +kernel
theorem dX1_init_52 : vdec mX1_init 52 (.if_icmp .ge 22) 3 := by decide +kernel
theorem dX1_init_55 : vdec mX1_init 55 (.aload_n 0) 1 := by decide +kernel
theorem dX1_init_56 : vdec mX1_init 56 (.getfield 23) 3 := by decide +kernel
theorem dX1_init_59 : vdec mX1_init 59 (.iload_n 1) 1 := by decide +kernel
theorem dX1_init_60 : vdec mX1_init 60 (.new 21) 3 := by decide +kernel
theorem dX1_init_63 : vdec mX1_init 63 (.dup) 1 := by decide +kernel
theorem dX1_init_64 : vdec mX1_init 64 (.invokespecial 34) 3 := by decide +kernel
theorem dX1_init_67 : vdec mX1_init 67 (.aastore) 1 := by decide +kernel
theorem dX1_init_68 : vdec mX1_init 68 (.iinc 1 1) 3 := by decide +kernel
theorem dX1_init_71 : vdec mX1_init 71 (.goto (-22)) 3 := by decide +kernel
theorem dX1_init_74 : vdec mX1_init 74 (.return_) 1 := by decide +kernel
theorem dX1_clear_0 : vdec mX1_clear 0 (.aload_n 0) 1 := by decide +kernel
theorem dX1_clear_1 : vdec mX1_clear 1 (.iconst 0) 1 := by decide +kernel
theorem dX1_clear_2 : vdec mX1_clear 2 (.putfield 27) 3 := by decide +kernel
theorem dX1_clear_5 : vdec mX1_clear 5 (.aload_n 0) 1 := by decide +kernel
theorem dX1_clear_6 : vdec mX1_clear 6 (.iconst 0) 1 := by decide +kernel
theorem dX1_clear_7 : vdec mX1_clear 7 (.putfield 31) 3 := by decide +kernel
theorem dX1_clear_10 : vdec mX1_clear 10 (.return_) 1 := by decide +kernel
theorem dX1_accounts_0 : vdec mX1_accounts 0 (.aload_n 0) 1 := by decide +kernel
theorem dX1_accounts_1 : vdec mX1_accounts 1 (.getfield 27) 3 := by decide +kernel
theorem dX1_accounts_4 : vdec mX1_accounts 4 (.ireturn) 1 := by decide +kernel
theorem dX1_journals_0 : vdec mX1_journals 0 (.aload_n 0) 1 := by decide +kernel
theorem dX1_journals_1 : vdec mX1_journals 1 (.getfield 31) 3 := by decide +kernel
theorem dX1_journals_4 : vdec mX1_journals 4 (.ireturn) 1 := by decide +kernel
theorem dX1_hasAccount_0 : vdec mX1_hasAccount 0 (.iload_n 1) 1 := by decide +kernel
theorem dX1_hasAccount_1 : vdec mX1_hasAccount 1 (.ifCond .lt 21) 3 := by decide +kernel
theorem dX1_hasAccount_4 : vdec mX1_hasAccount 4 (.iload_n 1) 1 := by decide +kernel
theorem dX1_hasAccount_5 : vdec mX1_hasAccount 5 (.aload_n 0) 1 := by decide +kernel
theorem dX1_hasAccount_6 : vdec mX1_hasAccount 6 (.getfield 27) 3 := by decide +kernel
theorem dX1_hasAccount_9 : vdec mX1_hasAccount 9 (.if_icmp .ge 13) 3 := by decide +kernel
theorem dX1_hasAccount_12 : vdec mX1_hasAccount 12 (.iload_n 1) 1 := by decide +kernel
theorem dX1_hasAccount_13 : vdec mX1_hasAccount 13 (.bipush 12) 2 := by decide +kernel
theorem dX1_hasAccount_15 : vdec mX1_hasAccount 15 (.if_icmp .ge 7) 3 := by decide +kernel
theorem dX1_hasAccount_18 : vdec mX1_hasAccount 18 (.iconst 1) 1 := by decide +kernel
theorem dX1_hasAccount_19 : vdec mX1_hasAccount 19 (.goto 4) 3 := by decide +kernel
theorem dX1_hasAccount_22 : vdec mX1_hasAccount 22 (.iconst 0) 1 := by decide +kernel
theorem dX1_hasAccount_23 : vdec mX1_hasAccount 23 (.ireturn) 1 := by decide +kernel
theorem dX1_addAccount_0 : vdec mX1_addAccount 0 (.aload_n 0) 1 := by decide +kernel
theorem dX1_addAccount_1 : vdec mX1_addAccount 1 (.getfield 27) 3 := by decide +kernel
theorem dX1_addAccount_4 : vdec mX1_addAccount 4 (.bipush 12) 2 := by decide +kernel
theorem dX1_addAccount_6 : vdec mX1_addAccount 6 (.if_icmp .ge 44) 3 := by decide +kernel
theorem dX1_addAccount_9 : vdec mX1_addAccount 9 (.aload_n 0) 1 := by decide +kernel
theorem dX1_addAccount_10 : vdec mX1_addAccount 10 (.getfield 9) 3 := by decide +kernel
theorem dX1_addAccount_13 : vdec mX1_addAccount 13 (.aload_n 0) 1 := by decide +kernel
theorem dX1_addAccount_14 : vdec mX1_addAccount 14 (.getfield 27) 3 := by decide +kernel
theorem dX1_addAccount_17 : vdec mX1_addAccount 17 (.iload_n 1) 1 := by decide +kernel
theorem dX1_addAccount_18 : vdec mX1_addAccount 18 (.iastore) 1 := by decide +kernel
theorem dX1_addAccount_19 : vdec mX1_addAccount 19 (.aload_n 0) 1 := by decide +kernel
theorem dX1_addAccount_20 : vdec mX1_addAccount 20 (.getfield 15) 3 := by decide +kernel
theorem dX1_addAccount_23 : vdec mX1_addAccount 23 (.aload_n 0) 1 := by decide +kernel
theorem dX1_addAccount_24 : vdec mX1_addAccount 24 (.getfield 27) 3 := by decide +kernel
theorem dX1_addAccount_27 : vdec mX1_addAccount 27 (.iload_n 2) 1 := by decide +kernel
theorem dX1_addAccount_28 : vdec mX1_addAccount 28 (.iastore) 1 := by decide +kernel
theorem dX1_addAccount_29 : vdec mX1_addAccount 29 (.aload_n 0) 1 := by decide +kernel
theorem dX1_addAccount_30 : vdec mX1_addAccount 30 (.getfield 18) 3 := by decide +kernel
theorem dX1_addAccount_33 : vdec mX1_addAccount 33 (.aload_n 0) 1 := by decide +kernel
theorem dX1_addAccount_34 : vdec mX1_addAccount 34 (.getfield 27) 3 := by decide +kernel
theorem dX1_addAccount_37 : vdec mX1_addAccount 37 (.ldc 35) 2 := by decide +kernel
theorem dX1_addAccount_39 : vdec mX1_addAccount 39 (.iastore) 1 := by decide +kernel
theorem dX1_addAccount_40 : vdec mX1_addAccount 40 (.aload_n 0) 1 := by decide +kernel
theorem dX1_addAccount_41 : vdec mX1_addAccount 41 (.dup) 1 := by decide +kernel
theorem dX1_addAccount_42 : vdec mX1_addAccount 42 (.getfield 27) 3 := by decide +kernel
theorem dX1_addAccount_45 : vdec mX1_addAccount 45 (.iconst 1) 1 := by decide +kernel
theorem dX1_addAccount_46 : vdec mX1_addAccount 46 (.iadd) 1 := by decide +kernel
theorem dX1_addAccount_47 : vdec mX1_addAccount 47 (.putfield 27) 3 := by decide +kernel
theorem dX1_addAccount_50 : vdec mX1_addAccount 50 (.return_) 1 := by decide +kernel
theorem dX1_kindOf_0 : vdec mX1_kindOf 0 (.aload_n 0) 1 := by decide +kernel
theorem dX1_kindOf_1 : vdec mX1_kindOf 1 (.iload_n 1) 1 := by decide +kernel
theorem dX1_kindOf_2 : vdec mX1_kindOf 2 (.invokevirtual 36) 3 := by decide +kernel
theorem dX1_kindOf_5 : vdec mX1_kindOf 5 (.ifCond .eq 12) 3 := by decide +kernel
theorem dX1_kindOf_8 : vdec mX1_kindOf 8 (.aload_n 0) 1 := by decide +kernel
theorem dX1_kindOf_9 : vdec mX1_kindOf 9 (.getfield 9) 3 := by decide +kernel
theorem dX1_kindOf_12 : vdec mX1_kindOf 12 (.iload_n 1) 1 := by decide +kernel
theorem dX1_kindOf_13 : vdec mX1_kindOf 13 (.iaload) 1 := by decide +kernel
theorem dX1_kindOf_14 : vdec mX1_kindOf 14 (.goto 4) 3 := by decide +kernel
theorem dX1_kindOf_17 : vdec mX1_kindOf 17 (.iconst (-1)) 1 := by decide +kernel
theorem dX1_kindOf_18 : vdec mX1_kindOf 18 (.ireturn) 1 := by decide +kernel
theorem dX1_setKind_0 : vdec mX1_setKind 0 (.aload_n 0) 1 := by decide +kernel
theorem dX1_setKind_1 : vdec mX1_setKind 1 (.iload_n 1) 1 := by decide +kernel
theorem dX1_setKind_2 : vdec mX1_setKind 2 (.invokevirtual 36) 3 := by decide +kernel
theorem dX1_setKind_5 : vdec mX1_setKind 5 (.ifCond .eq 10) 3 := by decide +kernel
theorem dX1_setKind_8 : vdec mX1_setKind 8 (.aload_n 0) 1 := by decide +kernel
theorem dX1_setKind_9 : vdec mX1_setKind 9 (.getfield 9) 3 := by decide +kernel
theorem dX1_setKind_12 : vdec mX1_setKind 12 (.iload_n 1) 1 := by decide +kernel
theorem dX1_setKind_13 : vdec mX1_setKind 13 (.iload_n 2) 1 := by decide +kernel
theorem dX1_setKind_14 : vdec mX1_setKind 14 (.iastore) 1 := by decide +kernel
theorem dX1_setKind_15 : vdec mX1_setKind 15 (.return_) 1 := by decide +kernel
theorem dX1_firstOf_0 : vdec mX1_firstOf 0 (.aload_n 0) 1 := by decide +kernel
theorem dX1_firstOf_1 : vdec mX1_firstOf 1 (.iload_n 1) 1 := by decide +kernel
theorem dX1_firstOf_2 : vdec mX1_firstOf 2 (.invokevirtual 36) 3 := by decide +kernel
theorem dX1_firstOf_5 : vdec mX1_firstOf 5 (.ifCond .eq 12) 3 := by decide +kernel
theorem dX1_firstOf_8 : vdec mX1_firstOf 8 (.aload_n 0) 1 := by decide +kernel
theorem dX1_firstOf_9 : vdec mX1_firstOf 9 (.getfield 15) 3 := by decide +kernel
theorem dX1_firstOf_12 : vdec mX1_firstOf 12 (.iload_n 1) 1 := by decide +kernel
theorem dX1_firstOf_13 : vdec mX1_firstOf 13 (.iaload) 1 := by decide +kernel
theorem dX1_firstOf_14 : vdec mX1_firstOf 14 (.goto 4) 3 := by decide +kernel
theorem dX1_firstOf_17 : vdec mX1_firstOf 17 (.iconst 0) 1 := by decide +kernel
theorem dX1_firstOf_18 : vdec mX1_firstOf 18 (.ireturn) 1 := by decide +kernel
theorem dX1_isTold_0 : vdec mX1_isTold 0 (.aload_n 0) 1 := by decide +kernel
theorem dX1_isTold_1 : vdec mX1_isTold 1 (.iload_n 1) 1 := by decide +kernel
theorem dX1_isTold_2 : vdec mX1_isTold 2 (.invokevirtual 40) 3 := by decide +kernel
theorem dX1_isTold_5 : vdec mX1_isTold 5 (.ldc 35) 2 := by decide +kernel
theorem dX1_isTold_7 : vdec mX1_isTold 7 (.if_icmp .eq 7) 3 := by decide +kernel
theorem dX1_isTold_10 : vdec mX1_isTold 10 (.iconst 1) 1 := by decide +kernel
theorem dX1_isTold_11 : vdec mX1_isTold 11 (.goto 4) 3 := by decide +kernel
theorem dX1_isTold_14 : vdec mX1_isTold 14 (.iconst 0) 1 := by decide +kernel
theorem dX1_isTold_15 : vdec mX1_isTold 15 (.ireturn) 1 := by decide +kernel
theorem dX1_toldOf_0 : vdec mX1_toldOf 0 (.aload_n 0) 1 := by decide +kernel
theorem dX1_toldOf_1 : vdec mX1_toldOf 1 (.iload_n 1) 1 := by decide +kernel
theorem dX1_toldOf_2 : vdec mX1_toldOf 2 (.invokevirtual 36) 3 := by decide +kernel
theorem dX1_toldOf_5 : vdec mX1_toldOf 5 (.ifCond .eq 12) 3 := by decide +kernel
theorem dX1_toldOf_8 : vdec mX1_toldOf 8 (.aload_n 0) 1 := by decide +kernel
theorem dX1_toldOf_9 : vdec mX1_toldOf 9 (.getfield 18) 3 := by decide +kernel
theorem dX1_toldOf_12 : vdec mX1_toldOf 12 (.iload_n 1) 1 := by decide +kernel
theorem dX1_toldOf_13 : vdec mX1_toldOf 13 (.iaload) 1 := by decide +kernel
theorem dX1_toldOf_14 : vdec mX1_toldOf 14 (.goto 5) 3 := by decide +kernel
theorem dX1_toldOf_17 : vdec mX1_toldOf 17 (.ldc 35) 2 := by decide +kernel
theorem dX1_toldOf_19 : vdec mX1_toldOf 19 (.ireturn) 1 := by decide +kernel
theorem dX1_setTold_0 : vdec mX1_setTold 0 (.aload_n 0) 1 := by decide +kernel
theorem dX1_setTold_1 : vdec mX1_setTold 1 (.iload_n 1) 1 := by decide +kernel
theorem dX1_setTold_2 : vdec mX1_setTold 2 (.invokevirtual 36) 3 := by decide +kernel
theorem dX1_setTold_5 : vdec mX1_setTold 5 (.ifCond .eq 10) 3 := by decide +kernel
theorem dX1_setTold_8 : vdec mX1_setTold 8 (.aload_n 0) 1 := by decide +kernel
theorem dX1_setTold_9 : vdec mX1_setTold 9 (.getfield 18) 3 := by decide +kernel
theorem dX1_setTold_12 : vdec mX1_setTold 12 (.iload_n 1) 1 := by decide +kernel
theorem dX1_setTold_13 : vdec mX1_setTold 13 (.iload_n 2) 1 := by decide +kernel
theorem dX1_setTold_14 : vdec mX1_setTold 14 (.iastore) 1 := by decide +kernel
theorem dX1_setTold_15 : vdec mX1_setTold 15 (.return_) 1 := by decide +kernel
theorem dX1_toldOnes_0 : vdec mX1_toldOnes 0 (.iconst 0) 1 := by decide +kernel
theorem dX1_toldOnes_1 : vdec mX1_toldOnes 1 (.istore_n 1) 1 := by decide +kernel
theorem dX1_toldOnes_2 : vdec mX1_toldOnes 2 (.iconst 0) 1 := by decide +kernel
theorem dX1_toldOnes_3 : vdec mX1_toldOnes 3 (.istore_n 2) 1 := by decide +kernel
theorem dX1_toldOnes_4 : vdec mX1_toldOnes 4 (.iload_n 2) 1 := by decide +kernel
theorem dX1_toldOnes_5 : vdec mX1_toldOnes 5 (.aload_n 0) 1 := by decide +kernel
theorem dX1_toldOnes_6 : vdec mX1_toldOnes 6 (.getfield 27) 3 := by decide +kernel
theorem dX1_toldOnes_9 : vdec mX1_toldOnes 9 (.if_icmp .ge 25) 3 := by decide +kernel
theorem dX1_toldOnes_12 : vdec mX1_toldOnes 12 (.iload_n 1) 1 := by decide +kernel
theorem dX1_toldOnes_13 : vdec mX1_toldOnes 13 (.aload_n 0) 1 := by decide +kernel
theorem dX1_toldOnes_14 : vdec mX1_toldOnes 14 (.iload_n 2) 1 := by decide +kernel
theorem dX1_toldOnes_15 : vdec mX1_toldOnes 15 (.invokevirtual 44) 3 := by decide +kernel
theorem dX1_toldOnes_18 : vdec mX1_toldOnes 18 (.ifCond .eq 7) 3 := by decide +kernel
theorem dX1_toldOnes_21 : vdec mX1_toldOnes 21 (.iconst 1) 1 := by decide +kernel
theorem dX1_toldOnes_22 : vdec mX1_toldOnes 22 (.goto 4) 3 := by decide +kernel
theorem dX1_toldOnes_25 : vdec mX1_toldOnes 25 (.iconst 0) 1 := by decide +kernel
theorem dX1_toldOnes_26 : vdec mX1_toldOnes 26 (.iadd) 1 := by decide +kernel
theorem dX1_toldOnes_27 : vdec mX1_toldOnes 27 (.istore_n 1) 1 := by decide +kernel
theorem dX1_toldOnes_28 : vdec mX1_toldOnes 28 (.iinc 2 1) 3 := by decide +kernel
theorem dX1_toldOnes_31 : vdec mX1_toldOnes 31 (.goto (-27)) 3 := by decide +kernel
theorem dX1_toldOnes_34 : vdec mX1_toldOnes 34 (.iload_n 1) 1 := by decide +kernel
theorem dX1_toldOnes_35 : vdec mX1_toldOnes 35 (.ireturn) 1 := by decide +kernel
theorem dX1_find_0 : vdec mX1_find 0 (.iload_n 1) 1 := by decide +kernel
theorem dX1_find_1 : vdec mX1_find 1 (.ifCond .lt 26) 3 := by decide +kernel
theorem dX1_find_4 : vdec mX1_find 4 (.iload_n 1) 1 := by decide +kernel
theorem dX1_find_5 : vdec mX1_find 5 (.aload_n 0) 1 := by decide +kernel
theorem dX1_find_6 : vdec mX1_find 6 (.getfield 31) 3 := by decide +kernel
theorem dX1_find_9 : vdec mX1_find 9 (.if_icmp .ge 18) 3 := by decide +kernel
theorem dX1_find_12 : vdec mX1_find 12 (.iload_n 1) 1 := by decide +kernel
theorem dX1_find_13 : vdec mX1_find 13 (.bipush 30) 2 := by decide +kernel
theorem dX1_find_15 : vdec mX1_find 15 (.if_icmp .ge 12) 3 := by decide +kernel
theorem dX1_find_18 : vdec mX1_find 18 (.aload_n 0) 1 := by decide +kernel
theorem dX1_find_19 : vdec mX1_find 19 (.getfield 23) 3 := by decide +kernel
theorem dX1_find_22 : vdec mX1_find 22 (.iload_n 1) 1 := by decide +kernel
theorem dX1_find_23 : vdec mX1_find 23 (.aaload) 1 := by decide +kernel
theorem dX1_find_24 : vdec mX1_find 24 (.goto 4) 3 := by decide +kernel
theorem dX1_find_27 : vdec mX1_find 27 (.aconst_null) 1 := by decide +kernel
theorem dX1_find_28 : vdec mX1_find 28 (.areturn) 1 := by decide +kernel
theorem dX1_open_0 : vdec mX1_open 0 (.aload_n 0) 1 := by decide +kernel
theorem dX1_open_1 : vdec mX1_open 1 (.getfield 31) 3 := by decide +kernel
theorem dX1_open_4 : vdec mX1_open 4 (.bipush 30) 2 := by decide +kernel
theorem dX1_open_6 : vdec mX1_open 6 (.if_icmp .lt 5) 3 := by decide +kernel
theorem dX1_open_9 : vdec mX1_open 9 (.aconst_null) 1 := by decide +kernel
theorem dX1_open_10 : vdec mX1_open 10 (.areturn) 1 := by decide +kernel
theorem dX1_open_11 : vdec mX1_open 11 (.aload_n 0) 1 := by decide +kernel
theorem dX1_open_12 : vdec mX1_open 12 (.getfield 23) 3 := by decide +kernel
theorem dX1_open_15 : vdec mX1_open 15 (.aload_n 0) 1 := by decide +kernel
theorem dX1_open_16 : vdec mX1_open 16 (.getfield 31) 3 := by decide +kernel
theorem dX1_open_19 : vdec mX1_open 19 (.aaload) 1 := by decide +kernel
theorem dX1_open_20 : vdec mX1_open 20 (.astore_n 2) 1 := by decide +kernel
theorem dX1_open_21 : vdec mX1_open 21 (.aload_n 2) 1 := by decide +kernel
theorem dX1_open_22 : vdec mX1_open 22 (.ifnull 18) 3 := by decide +kernel
theorem dX1_open_25 : vdec mX1_open 25 (.aload_n 2) 1 := by decide +kernel
theorem dX1_open_26 : vdec mX1_open 26 (.iload_n 1) 1 := by decide +kernel
theorem dX1_open_27 : vdec mX1_open 27 (.invokevirtual 47) 3 := by decide +kernel
theorem dX1_open_30 : vdec mX1_open 30 (.aload_n 0) 1 := by decide +kernel
theorem dX1_open_31 : vdec mX1_open 31 (.dup) 1 := by decide +kernel
theorem dX1_open_32 : vdec mX1_open 32 (.getfield 31) 3 := by decide +kernel
theorem dX1_open_35 : vdec mX1_open 35 (.iconst 1) 1 := by decide +kernel
theorem dX1_open_36 : vdec mX1_open 36 (.iadd) 1 := by decide +kernel
theorem dX1_open_37 : vdec mX1_open 37 (.putfield 31) 3 := by decide +kernel
theorem dX1_open_40 : vdec mX1_open 40 (.aload_n 2) 1 := by decide +kernel
theorem dX1_open_41 : vdec mX1_open 41 (.areturn) 1 := by decide +kernel
theorem dX1_dropLatest_0 : vdec mX1_dropLatest 0 (.aload_n 0) 1 := by decide +kernel
theorem dX1_dropLatest_1 : vdec mX1_dropLatest 1 (.aload_n 0) 1 := by decide +kernel
theorem dX1_dropLatest_2 : vdec mX1_dropLatest 2 (.getfield 31) 3 := by decide +kernel
theorem dX1_dropLatest_5 : vdec mX1_dropLatest 5 (.iconst 1) 1 := by decide +kernel
theorem dX1_dropLatest_6 : vdec mX1_dropLatest 6 (.isub) 1 := by decide +kernel
theorem dX1_dropLatest_7 : vdec mX1_dropLatest 7 (.iconst 0) 1 := by decide +kernel
theorem dX1_dropLatest_8 : vdec mX1_dropLatest 8 (.invokestatic 51) 3 := by decide +kernel
theorem dX1_dropLatest_11 : vdec mX1_dropLatest 11 (.putfield 31) 3 := by decide +kernel
theorem dX1_dropLatest_14 : vdec mX1_dropLatest 14 (.return_) 1 := by decide +kernel
theorem dX1_counting_0 : vdec mX1_counting 0 (.aload_n 0) 1 := by decide +kernel
theorem dX1_counting_1 : vdec mX1_counting 1 (.iload_n 1) 1 := by decide +kernel
theorem dX1_counting_2 : vdec mX1_counting 2 (.invokevirtual 57) 3 := by decide +kernel
theorem dX1_counting_5 : vdec mX1_counting 5 (.astore 4) 2 := by decide +kernel
theorem dX1_counting_7 : vdec mX1_counting 7 (.aload 4) 2 := by decide +kernel
theorem dX1_counting_9 : vdec mX1_counting 9 (.ifnull 18) 3 := by decide +kernel
theorem dX1_counting_12 : vdec mX1_counting 12 (.aload 4) 2 := by decide +kernel
theorem dX1_counting_14 : vdec mX1_counting 14 (.iload_n 2) 1 := by decide +kernel
theorem dX1_counting_15 : vdec mX1_counting 15 (.iload_n 3) 1 := by decide +kernel
theorem dX1_counting_16 : vdec mX1_counting 16 (.invokevirtual 61) 3 := by decide +kernel
theorem dX1_counting_19 : vdec mX1_counting 19 (.ifCond .eq 8) 3 := by decide +kernel
theorem dX1_counting_22 : vdec mX1_counting 22 (.aload 4) 2 := by decide +kernel
theorem dX1_counting_24 : vdec mX1_counting 24 (.goto 4) 3 := by decide +kernel
theorem dX1_counting_27 : vdec mX1_counting 27 (.aconst_null) 1 := by decide +kernel
theorem dX1_counting_28 : vdec mX1_counting 28 (.areturn) 1 := by decide +kernel
theorem dX1_struckOnes_0 : vdec mX1_struckOnes 0 (.iconst 0) 1 := by decide +kernel
theorem dX1_struckOnes_1 : vdec mX1_struckOnes 1 (.istore_n 1) 1 := by decide +kernel
theorem dX1_struckOnes_2 : vdec mX1_struckOnes 2 (.iconst 0) 1 := by decide +kernel
theorem dX1_struckOnes_3 : vdec mX1_struckOnes 3 (.istore_n 2) 1 := by decide +kernel
theorem dX1_struckOnes_4 : vdec mX1_struckOnes 4 (.iload_n 2) 1 := by decide +kernel
theorem dX1_struckOnes_5 : vdec mX1_struckOnes 5 (.aload_n 0) 1 := by decide +kernel
theorem dX1_struckOnes_6 : vdec mX1_struckOnes 6 (.getfield 31) 3 := by decide +kernel
theorem dX1_struckOnes_9 : vdec mX1_struckOnes 9 (.if_icmp .ge 34) 3 := by decide +kernel
theorem dX1_struckOnes_12 : vdec mX1_struckOnes 12 (.aload_n 0) 1 := by decide +kernel
theorem dX1_struckOnes_13 : vdec mX1_struckOnes 13 (.iload_n 2) 1 := by decide +kernel
theorem dX1_struckOnes_14 : vdec mX1_struckOnes 14 (.invokevirtual 57) 3 := by decide +kernel
theorem dX1_struckOnes_17 : vdec mX1_struckOnes 17 (.astore_n 3) 1 := by decide +kernel
theorem dX1_struckOnes_18 : vdec mX1_struckOnes 18 (.iload_n 1) 1 := by decide +kernel
theorem dX1_struckOnes_19 : vdec mX1_struckOnes 19 (.aload_n 3) 1 := by decide +kernel
theorem dX1_struckOnes_20 : vdec mX1_struckOnes 20 (.ifnull 14) 3 := by decide +kernel
theorem dX1_struckOnes_23 : vdec mX1_struckOnes 23 (.aload_n 3) 1 := by decide +kernel
theorem dX1_struckOnes_24 : vdec mX1_struckOnes 24 (.invokevirtual 65) 3 := by decide +kernel
theorem dX1_struckOnes_27 : vdec mX1_struckOnes 27 (.ifCond .eq 7) 3 := by decide +kernel
theorem dX1_struckOnes_30 : vdec mX1_struckOnes 30 (.iconst 1) 1 := by decide +kernel
theorem dX1_struckOnes_31 : vdec mX1_struckOnes 31 (.goto 4) 3 := by decide +kernel
theorem dX1_struckOnes_34 : vdec mX1_struckOnes 34 (.iconst 0) 1 := by decide +kernel
theorem dX1_struckOnes_35 : vdec mX1_struckOnes 35 (.iadd) 1 := by decide +kernel
theorem dX1_struckOnes_36 : vdec mX1_struckOnes 36 (.istore_n 1) 1 := by decide +kernel
theorem dX1_struckOnes_37 : vdec mX1_struckOnes 37 (.iinc 2 1) 3 := by decide +kernel
theorem dX1_struckOnes_40 : vdec mX1_struckOnes 40 (.goto (-36)) 3 := by decide +kernel
theorem dX1_struckOnes_43 : vdec mX1_struckOnes 43 (.iload_n 1) 1 := by decide +kernel
theorem dX1_struckOnes_44 : vdec mX1_struckOnes 44 (.ireturn) 1 := by decide +kernel
theorem dX1_balanceOf_0 : vdec mX1_balanceOf 0 (.aload_n 0) 1 := by decide +kernel
theorem dX1_balanceOf_1 : vdec mX1_balanceOf 1 (.iload_n 1) 1 := by decide +kernel
theorem dX1_balanceOf_2 : vdec mX1_balanceOf 2 (.invokevirtual 69) 3 := by decide +kernel
theorem dX1_balanceOf_5 : vdec mX1_balanceOf 5 (.istore_n 3) 1 := by decide +kernel
theorem dX1_balanceOf_6 : vdec mX1_balanceOf 6 (.iconst 0) 1 := by decide +kernel
theorem dX1_balanceOf_7 : vdec mX1_balanceOf 7 (.istore 4) 2 := by decide +kernel
theorem dX1_balanceOf_9 : vdec mX1_balanceOf 9 (.iload 4) 2 := by decide +kernel
theorem dX1_balanceOf_11 : vdec mX1_balanceOf 11 (.aload_n 0) 1 := by decide +kernel
theorem dX1_balanceOf_12 : vdec mX1_balanceOf 12 (.getfield 31) 3 := by decide +kernel
theorem dX1_balanceOf_15 : vdec mX1_balanceOf 15 (.if_icmp .ge 37) 3 := by decide +kernel
theorem dX1_balanceOf_18 : vdec mX1_balanceOf 18 (.aload_n 0) 1 := by decide +kernel
theorem dX1_balanceOf_19 : vdec mX1_balanceOf 19 (.iload 4) 2 := by decide +kernel
theorem dX1_balanceOf_21 : vdec mX1_balanceOf 21 (.iconst 0) 1 := by decide +kernel
theorem dX1_balanceOf_22 : vdec mX1_balanceOf 22 (.iload_n 2) 1 := by decide +kernel
theorem dX1_balanceOf_23 : vdec mX1_balanceOf 23 (.invokevirtual 72) 3 := by decide +kernel
theorem dX1_balanceOf_26 : vdec mX1_balanceOf 26 (.astore 5) 2 := by decide +kernel
theorem dX1_balanceOf_28 : vdec mX1_balanceOf 28 (.iload_n 3) 1 := by decide +kernel
theorem dX1_balanceOf_29 : vdec mX1_balanceOf 29 (.aload 5) 2 := by decide +kernel
theorem dX1_balanceOf_31 : vdec mX1_balanceOf 31 (.ifnonnull 7) 3 := by decide +kernel
theorem dX1_balanceOf_34 : vdec mX1_balanceOf 34 (.iconst 0) 1 := by decide +kernel
theorem dX1_balanceOf_35 : vdec mX1_balanceOf 35 (.goto 9) 3 := by decide +kernel
theorem dX1_balanceOf_38 : vdec mX1_balanceOf 38 (.aload 5) 2 := by decide +kernel
theorem dX1_balanceOf_40 : vdec mX1_balanceOf 40 (.iload_n 1) 1 := by decide +kernel
theorem dX1_balanceOf_41 : vdec mX1_balanceOf 41 (.invokevirtual 76) 3 := by decide +kernel
theorem dX1_balanceOf_44 : vdec mX1_balanceOf 44 (.iadd) 1 := by decide +kernel
theorem dX1_balanceOf_45 : vdec mX1_balanceOf 45 (.istore_n 3) 1 := by decide +kernel
theorem dX1_balanceOf_46 : vdec mX1_balanceOf 46 (.iinc 4 1) 3 := by decide +kernel
theorem dX1_balanceOf_49 : vdec mX1_balanceOf 49 (.goto (-40)) 3 := by decide +kernel
theorem dX1_balanceOf_52 : vdec mX1_balanceOf 52 (.iload_n 3) 1 := by decide +kernel
theorem dX1_balanceOf_53 : vdec mX1_balanceOf 53 (.ireturn) 1 := by decide +kernel
theorem dX1_residualOf_0 : vdec mX1_residualOf 0 (.aload_n 0) 1 := by decide +kernel
theorem dX1_residualOf_1 : vdec mX1_residualOf 1 (.iload_n 1) 1 := by decide +kernel
theorem dX1_residualOf_2 : vdec mX1_residualOf 2 (.invokevirtual 44) 3 := by decide +kernel
theorem dX1_residualOf_5 : vdec mX1_residualOf 5 (.ifCond .eq 19) 3 := by decide +kernel
theorem dX1_residualOf_8 : vdec mX1_residualOf 8 (.aload_n 0) 1 := by decide +kernel
theorem dX1_residualOf_9 : vdec mX1_residualOf 9 (.iload_n 1) 1 := by decide +kernel
theorem dX1_residualOf_10 : vdec mX1_residualOf 10 (.invokevirtual 40) 3 := by decide +kernel
theorem dX1_residualOf_13 : vdec mX1_residualOf 13 (.aload_n 0) 1 := by decide +kernel
theorem dX1_residualOf_14 : vdec mX1_residualOf 14 (.iload_n 1) 1 := by decide +kernel
theorem dX1_residualOf_15 : vdec mX1_residualOf 15 (.bipush 19) 2 := by decide +kernel
theorem dX1_residualOf_17 : vdec mX1_residualOf 17 (.invokevirtual 79) 3 := by decide +kernel
theorem dX1_residualOf_20 : vdec mX1_residualOf 20 (.isub) 1 := by decide +kernel
theorem dX1_residualOf_21 : vdec mX1_residualOf 21 (.goto 4) 3 := by decide +kernel
theorem dX1_residualOf_24 : vdec mX1_residualOf 24 (.iconst 0) 1 := by decide +kernel
theorem dX1_residualOf_25 : vdec mX1_residualOf 25 (.ireturn) 1 := by decide +kernel
theorem dX1_netOfKind_0 : vdec mX1_netOfKind 0 (.iconst 0) 1 := by decide +kernel
theorem dX1_netOfKind_1 : vdec mX1_netOfKind 1 (.istore 4) 2 := by decide +kernel
theorem dX1_netOfKind_3 : vdec mX1_netOfKind 3 (.iconst 0) 1 := by decide +kernel
theorem dX1_netOfKind_4 : vdec mX1_netOfKind 4 (.istore 5) 2 := by decide +kernel
theorem dX1_netOfKind_6 : vdec mX1_netOfKind 6 (.iload 5) 2 := by decide +kernel
theorem dX1_netOfKind_8 : vdec mX1_netOfKind 8 (.aload_n 0) 1 := by decide +kernel
theorem dX1_netOfKind_9 : vdec mX1_netOfKind 9 (.getfield 31) 3 := by decide +kernel
theorem dX1_netOfKind_12 : vdec mX1_netOfKind 12 (.if_icmp .ge 77) 3 := by decide +kernel
theorem dX1_netOfKind_15 : vdec mX1_netOfKind 15 (.aload_n 0) 1 := by decide +kernel
theorem dX1_netOfKind_16 : vdec mX1_netOfKind 16 (.iload 5) 2 := by decide +kernel
theorem dX1_netOfKind_18 : vdec mX1_netOfKind 18 (.iload_n 2) 1 := by decide +kernel
theorem dX1_netOfKind_19 : vdec mX1_netOfKind 19 (.iload_n 3) 1 := by decide +kernel
theorem dX1_netOfKind_20 : vdec mX1_netOfKind 20 (.invokevirtual 72) 3 := by decide +kernel
theorem dX1_netOfKind_23 : vdec mX1_netOfKind 23 (.astore 6) 2 := by decide +kernel
theorem dX1_netOfKind_25 : vdec mX1_netOfKind 25 (.aload 6) 2 := by decide +kernel
theorem dX1_netOfKind_27 : vdec mX1_netOfKind 27 (.ifnonnull 6) 3 := by decide +kernel
theorem dX1_netOfKind_30 : vdec mX1_netOfKind 30 (.goto 53) 3 := by decide +kernel
theorem dX1_netOfKind_33 : vdec mX1_netOfKind 33 (.iconst 0) 1 := by decide +kernel
theorem dX1_netOfKind_34 : vdec mX1_netOfKind 34 (.istore 7) 2 := by decide +kernel
theorem dX1_netOfKind_36 : vdec mX1_netOfKind 36 (.iload 7) 2 := by decide +kernel
theorem dX1_netOfKind_38 : vdec mX1_netOfKind 38 (.aload 6) 2 := by decide +kernel
theorem dX1_netOfKind_40 : vdec mX1_netOfKind 40 (.invokevirtual 82) 3 := by decide +kernel
theorem dX1_netOfKind_43 : vdec mX1_netOfKind 43 (.if_icmp .ge 40) 3 := by decide +kernel
theorem dX1_netOfKind_46 : vdec mX1_netOfKind 46 (.iload 4) 2 := by decide +kernel
theorem dX1_netOfKind_48 : vdec mX1_netOfKind 48 (.aload_n 0) 1 := by decide +kernel
theorem dX1_netOfKind_49 : vdec mX1_netOfKind 49 (.aload 6) 2 := by decide +kernel
theorem dX1_netOfKind_51 : vdec mX1_netOfKind 51 (.iload 7) 2 := by decide +kernel
theorem dX1_netOfKind_53 : vdec mX1_netOfKind 53 (.invokevirtual 86) 3 := by decide +kernel
theorem dX1_netOfKind_56 : vdec mX1_netOfKind 56 (.invokevirtual 89) 3 := by decide +kernel
theorem dX1_netOfKind_59 : vdec mX1_netOfKind 59 (.iload_n 1) 1 := by decide +kernel
theorem dX1_netOfKind_60 : vdec mX1_netOfKind 60 (.if_icmp .ne 13) 3 := by decide +kernel
theorem dX1_netOfKind_63 : vdec mX1_netOfKind 63 (.aload 6) 2 := by decide +kernel
theorem dX1_netOfKind_65 : vdec mX1_netOfKind 65 (.iload 7) 2 := by decide +kernel
theorem dX1_netOfKind_67 : vdec mX1_netOfKind 67 (.invokevirtual 92) 3 := by decide +kernel
theorem dX1_netOfKind_70 : vdec mX1_netOfKind 70 (.goto 4) 3 := by decide +kernel
theorem dX1_netOfKind_73 : vdec mX1_netOfKind 73 (.iconst 0) 1 := by decide +kernel
theorem dX1_netOfKind_74 : vdec mX1_netOfKind 74 (.iadd) 1 := by decide +kernel
theorem dX1_netOfKind_75 : vdec mX1_netOfKind 75 (.istore 4) 2 := by decide +kernel
theorem dX1_netOfKind_77 : vdec mX1_netOfKind 77 (.iinc 7 1) 3 := by decide +kernel
theorem dX1_netOfKind_80 : vdec mX1_netOfKind 80 (.goto (-44)) 3 := by decide +kernel
theorem dX1_netOfKind_83 : vdec mX1_netOfKind 83 (.iinc 5 1) 3 := by decide +kernel
theorem dX1_netOfKind_86 : vdec mX1_netOfKind 86 (.goto (-80)) 3 := by decide +kernel
theorem dX1_netOfKind_89 : vdec mX1_netOfKind 89 (.iload 4) 2 := by decide +kernel
theorem dX1_netOfKind_91 : vdec mX1_netOfKind 91 (.ireturn) 1 := by decide +kernel
theorem dX1_sortOf_0 : vdec mX1_sortOf 0 (.aload_n 0) 1 := by decide +kernel
theorem dX1_sortOf_1 : vdec mX1_sortOf 1 (.aload_n 1) 1 := by decide +kernel
theorem dX1_sortOf_2 : vdec mX1_sortOf 2 (.iload_n 2) 1 := by decide +kernel
theorem dX1_sortOf_3 : vdec mX1_sortOf 3 (.invokevirtual 95) 3 := by decide +kernel
theorem dX1_sortOf_6 : vdec mX1_sortOf 6 (.invokevirtual 89) 3 := by decide +kernel
theorem dX1_sortOf_9 : vdec mX1_sortOf 9 (.istore_n 3) 1 := by decide +kernel
theorem dX1_sortOf_10 : vdec mX1_sortOf 10 (.aload_n 0) 1 := by decide +kernel
theorem dX1_sortOf_11 : vdec mX1_sortOf 11 (.aload_n 1) 1 := by decide +kernel
theorem dX1_sortOf_12 : vdec mX1_sortOf 12 (.iload_n 2) 1 := by decide +kernel
theorem dX1_sortOf_13 : vdec mX1_sortOf 13 (.invokevirtual 98) 3 := by decide +kernel
theorem dX1_sortOf_16 : vdec mX1_sortOf 16 (.invokevirtual 89) 3 := by decide +kernel
theorem dX1_sortOf_19 : vdec mX1_sortOf 19 (.istore 4) 2 := by decide +kernel
theorem dX1_sortOf_21 : vdec mX1_sortOf 21 (.iload_n 3) 1 := by decide +kernel
theorem dX1_sortOf_22 : vdec mX1_sortOf 22 (.ifCond .eq 10) 3 := by decide +kernel
theorem dX1_sortOf_25 : vdec mX1_sortOf 25 (.iload 4) 2 := by decide +kernel
theorem dX1_sortOf_27 : vdec mX1_sortOf 27 (.ifCond .eq 5) 3 := by decide +kernel
theorem dX1_sortOf_30 : vdec mX1_sortOf 30 (.iconst 4) 1 := by decide +kernel
theorem dX1_sortOf_31 : vdec mX1_sortOf 31 (.ireturn) 1 := by decide +kernel
theorem dX1_sortOf_32 : vdec mX1_sortOf 32 (.iload_n 3) 1 := by decide +kernel
theorem dX1_sortOf_33 : vdec mX1_sortOf 33 (.iload 4) 2 := by decide +kernel
theorem dX1_sortOf_35 : vdec mX1_sortOf 35 (.if_icmp .ne 5) 3 := by decide +kernel
theorem dX1_sortOf_38 : vdec mX1_sortOf 38 (.iconst 5) 1 := by decide +kernel
theorem dX1_sortOf_39 : vdec mX1_sortOf 39 (.ireturn) 1 := by decide +kernel
theorem dX1_sortOf_40 : vdec mX1_sortOf 40 (.iload_n 3) 1 := by decide +kernel
theorem dX1_sortOf_41 : vdec mX1_sortOf 41 (.ifCond .ne 8) 3 := by decide +kernel
theorem dX1_sortOf_44 : vdec mX1_sortOf 44 (.iload 4) 2 := by decide +kernel
theorem dX1_sortOf_46 : vdec mX1_sortOf 46 (.goto 4) 3 := by decide +kernel
theorem dX1_sortOf_49 : vdec mX1_sortOf 49 (.iload_n 3) 1 := by decide +kernel
theorem dX1_sortOf_50 : vdec mX1_sortOf 50 (.invokestatic 101) 3 := by decide +kernel
theorem dX1_sortOf_53 : vdec mX1_sortOf 53 (.ireturn) 1 := by decide +kernel
theorem dX1_cashMoved_0 : vdec mX1_cashMoved 0 (.iconst 0) 1 := by decide +kernel
theorem dX1_cashMoved_1 : vdec mX1_cashMoved 1 (.istore 5) 2 := by decide +kernel
theorem dX1_cashMoved_3 : vdec mX1_cashMoved 3 (.iconst 0) 1 := by decide +kernel
theorem dX1_cashMoved_4 : vdec mX1_cashMoved 4 (.istore 6) 2 := by decide +kernel
theorem dX1_cashMoved_6 : vdec mX1_cashMoved 6 (.iload 6) 2 := by decide +kernel
theorem dX1_cashMoved_8 : vdec mX1_cashMoved 8 (.aload_n 0) 1 := by decide +kernel
theorem dX1_cashMoved_9 : vdec mX1_cashMoved 9 (.getfield 31) 3 := by decide +kernel
theorem dX1_cashMoved_12 : vdec mX1_cashMoved 12 (.if_icmp .ge 102) 3 := by decide +kernel
theorem dX1_cashMoved_15 : vdec mX1_cashMoved 15 (.aload_n 0) 1 := by decide +kernel
theorem dX1_cashMoved_16 : vdec mX1_cashMoved 16 (.iload 6) 2 := by decide +kernel
theorem dX1_cashMoved_18 : vdec mX1_cashMoved 18 (.iload_n 3) 1 := by decide +kernel
theorem dX1_cashMoved_19 : vdec mX1_cashMoved 19 (.iload 4) 2 := by decide +kernel
theorem dX1_cashMoved_21 : vdec mX1_cashMoved 21 (.invokevirtual 72) 3 := by decide +kernel
theorem dX1_cashMoved_24 : vdec mX1_cashMoved 24 (.astore 7) 2 := by decide +kernel
theorem dX1_cashMoved_26 : vdec mX1_cashMoved 26 (.aload 7) 2 := by decide +kernel
theorem dX1_cashMoved_28 : vdec mX1_cashMoved 28 (.ifnonnull 6) 3 := by decide +kernel
theorem dX1_cashMoved_31 : vdec mX1_cashMoved 31 (.goto 77) 3 := by decide +kernel
theorem dX1_cashMoved_34 : vdec mX1_cashMoved 34 (.iconst 0) 1 := by decide +kernel
theorem dX1_cashMoved_35 : vdec mX1_cashMoved 35 (.istore 8) 2 := by decide +kernel
theorem dX1_cashMoved_37 : vdec mX1_cashMoved 37 (.iload 8) 2 := by decide +kernel
theorem dX1_cashMoved_39 : vdec mX1_cashMoved 39 (.aload 7) 2 := by decide +kernel
theorem dX1_cashMoved_41 : vdec mX1_cashMoved 41 (.invokevirtual 104) 3 := by decide +kernel
theorem dX1_cashMoved_44 : vdec mX1_cashMoved 44 (.if_icmp .ge 64) 3 := by decide +kernel
theorem dX1_cashMoved_47 : vdec mX1_cashMoved 47 (.aload_n 0) 1 := by decide +kernel
theorem dX1_cashMoved_48 : vdec mX1_cashMoved 48 (.aload 7) 2 := by decide +kernel
theorem dX1_cashMoved_50 : vdec mX1_cashMoved 50 (.iload 8) 2 := by decide +kernel
theorem dX1_cashMoved_52 : vdec mX1_cashMoved 52 (.invokevirtual 98) 3 := by decide +kernel
theorem dX1_cashMoved_55 : vdec mX1_cashMoved 55 (.invokevirtual 89) 3 := by decide +kernel
theorem dX1_cashMoved_58 : vdec mX1_cashMoved 58 (.ifCond .ne 7) 3 := by decide +kernel
theorem dX1_cashMoved_61 : vdec mX1_cashMoved 61 (.iconst 1) 1 := by decide +kernel
theorem dX1_cashMoved_62 : vdec mX1_cashMoved 62 (.goto 4) 3 := by decide +kernel
theorem dX1_cashMoved_65 : vdec mX1_cashMoved 65 (.iconst 0) 1 := by decide +kernel
theorem dX1_cashMoved_66 : vdec mX1_cashMoved 66 (.istore 9) 2 := by decide +kernel
theorem dX1_cashMoved_68 : vdec mX1_cashMoved 68 (.iload 5) 2 := by decide +kernel
theorem dX1_cashMoved_70 : vdec mX1_cashMoved 70 (.iload 9) 2 := by decide +kernel
theorem dX1_cashMoved_72 : vdec mX1_cashMoved 72 (.iload_n 2) 1 := by decide +kernel
theorem dX1_cashMoved_73 : vdec mX1_cashMoved 73 (.if_icmp .ne 25) 3 := by decide +kernel
theorem dX1_cashMoved_76 : vdec mX1_cashMoved 76 (.aload_n 0) 1 := by decide +kernel
theorem dX1_cashMoved_77 : vdec mX1_cashMoved 77 (.aload 7) 2 := by decide +kernel
theorem dX1_cashMoved_79 : vdec mX1_cashMoved 79 (.iload 8) 2 := by decide +kernel
theorem dX1_cashMoved_81 : vdec mX1_cashMoved 81 (.invokevirtual 107) 3 := by decide +kernel
theorem dX1_cashMoved_84 : vdec mX1_cashMoved 84 (.iload_n 1) 1 := by decide +kernel
theorem dX1_cashMoved_85 : vdec mX1_cashMoved 85 (.if_icmp .ne 13) 3 := by decide +kernel
theorem dX1_cashMoved_88 : vdec mX1_cashMoved 88 (.aload 7) 2 := by decide +kernel
theorem dX1_cashMoved_90 : vdec mX1_cashMoved 90 (.iload 8) 2 := by decide +kernel
theorem dX1_cashMoved_92 : vdec mX1_cashMoved 92 (.invokevirtual 111) 3 := by decide +kernel
theorem dX1_cashMoved_95 : vdec mX1_cashMoved 95 (.goto 4) 3 := by decide +kernel
theorem dX1_cashMoved_98 : vdec mX1_cashMoved 98 (.iconst 0) 1 := by decide +kernel
theorem dX1_cashMoved_99 : vdec mX1_cashMoved 99 (.iadd) 1 := by decide +kernel
theorem dX1_cashMoved_100 : vdec mX1_cashMoved 100 (.istore 5) 2 := by decide +kernel
theorem dX1_cashMoved_102 : vdec mX1_cashMoved 102 (.iinc 8 1) 3 := by decide +kernel
theorem dX1_cashMoved_105 : vdec mX1_cashMoved 105 (.goto (-68)) 3 := by decide +kernel
theorem dX1_cashMoved_108 : vdec mX1_cashMoved 108 (.iinc 6 1) 3 := by decide +kernel
theorem dX1_cashMoved_111 : vdec mX1_cashMoved 111 (.goto (-105)) 3 := by decide +kernel
theorem dX1_cashMoved_114 : vdec mX1_cashMoved 114 (.iload 5) 2 := by decide +kernel
theorem dX1_cashMoved_116 : vdec mX1_cashMoved 116 (.ireturn) 1 := by decide +kernel
theorem dX1_makersOf_0 : vdec mX1_makersOf 0 (.iconst 0) 1 := by decide +kernel
theorem dX1_makersOf_1 : vdec mX1_makersOf 1 (.istore 4) 2 := by decide +kernel
theorem dX1_makersOf_3 : vdec mX1_makersOf 3 (.iconst 0) 1 := by decide +kernel
theorem dX1_makersOf_4 : vdec mX1_makersOf 4 (.istore 5) 2 := by decide +kernel
theorem dX1_makersOf_6 : vdec mX1_makersOf 6 (.iload 5) 2 := by decide +kernel
theorem dX1_makersOf_8 : vdec mX1_makersOf 8 (.aload_n 0) 1 := by decide +kernel
theorem dX1_makersOf_9 : vdec mX1_makersOf 9 (.getfield 31) 3 := by decide +kernel
theorem dX1_makersOf_12 : vdec mX1_makersOf 12 (.if_icmp .ge 71) 3 := by decide +kernel
theorem dX1_makersOf_15 : vdec mX1_makersOf 15 (.aload_n 0) 1 := by decide +kernel
theorem dX1_makersOf_16 : vdec mX1_makersOf 16 (.iload 5) 2 := by decide +kernel
theorem dX1_makersOf_18 : vdec mX1_makersOf 18 (.iload_n 2) 1 := by decide +kernel
theorem dX1_makersOf_19 : vdec mX1_makersOf 19 (.iload_n 3) 1 := by decide +kernel
theorem dX1_makersOf_20 : vdec mX1_makersOf 20 (.invokevirtual 72) 3 := by decide +kernel
theorem dX1_makersOf_23 : vdec mX1_makersOf 23 (.astore 6) 2 := by decide +kernel
theorem dX1_makersOf_25 : vdec mX1_makersOf 25 (.aload 6) 2 := by decide +kernel
theorem dX1_makersOf_27 : vdec mX1_makersOf 27 (.ifnonnull 6) 3 := by decide +kernel
theorem dX1_makersOf_30 : vdec mX1_makersOf 30 (.goto 47) 3 := by decide +kernel
theorem dX1_makersOf_33 : vdec mX1_makersOf 33 (.iconst 0) 1 := by decide +kernel
theorem dX1_makersOf_34 : vdec mX1_makersOf 34 (.istore 7) 2 := by decide +kernel
theorem dX1_makersOf_36 : vdec mX1_makersOf 36 (.iload 7) 2 := by decide +kernel
theorem dX1_makersOf_38 : vdec mX1_makersOf 38 (.aload 6) 2 := by decide +kernel
theorem dX1_makersOf_40 : vdec mX1_makersOf 40 (.invokevirtual 104) 3 := by decide +kernel
theorem dX1_makersOf_43 : vdec mX1_makersOf 43 (.if_icmp .ge 34) 3 := by decide +kernel
theorem dX1_makersOf_46 : vdec mX1_makersOf 46 (.iload 4) 2 := by decide +kernel
theorem dX1_makersOf_48 : vdec mX1_makersOf 48 (.aload_n 0) 1 := by decide +kernel
theorem dX1_makersOf_49 : vdec mX1_makersOf 49 (.aload 6) 2 := by decide +kernel
theorem dX1_makersOf_51 : vdec mX1_makersOf 51 (.iload 7) 2 := by decide +kernel
theorem dX1_makersOf_53 : vdec mX1_makersOf 53 (.invokevirtual 107) 3 := by decide +kernel
theorem dX1_makersOf_56 : vdec mX1_makersOf 56 (.iload_n 1) 1 := by decide +kernel
theorem dX1_makersOf_57 : vdec mX1_makersOf 57 (.if_icmp .ne 10) 3 := by decide +kernel
theorem dX1_makersOf_60 : vdec mX1_makersOf 60 (.iconst 1) 1 := by decide +kernel
theorem dX1_makersOf_61 : vdec mX1_makersOf 61 (.iload 5) 2 := by decide +kernel
theorem dX1_makersOf_63 : vdec mX1_makersOf 63 (.ishl) 1 := by decide +kernel
theorem dX1_makersOf_64 : vdec mX1_makersOf 64 (.goto 4) 3 := by decide +kernel
theorem dX1_makersOf_67 : vdec mX1_makersOf 67 (.iconst 0) 1 := by decide +kernel
theorem dX1_makersOf_68 : vdec mX1_makersOf 68 (.ior) 1 := by decide +kernel
theorem dX1_makersOf_69 : vdec mX1_makersOf 69 (.istore 4) 2 := by decide +kernel
theorem dX1_makersOf_71 : vdec mX1_makersOf 71 (.iinc 7 1) 3 := by decide +kernel
theorem dX1_makersOf_74 : vdec mX1_makersOf 74 (.goto (-38)) 3 := by decide +kernel
theorem dX1_makersOf_77 : vdec mX1_makersOf 77 (.iinc 5 1) 3 := by decide +kernel
theorem dX1_makersOf_80 : vdec mX1_makersOf 80 (.goto (-74)) 3 := by decide +kernel
theorem dX1_makersOf_83 : vdec mX1_makersOf 83 (.iload 4) 2 := by decide +kernel
theorem dX1_makersOf_85 : vdec mX1_makersOf 85 (.ireturn) 1 := by decide +kernel
theorem dX1_dealt_0 : vdec mX1_dealt 0 (.iconst 0) 1 := by decide +kernel
theorem dX1_dealt_1 : vdec mX1_dealt 1 (.istore 5) 2 := by decide +kernel
theorem dX1_dealt_3 : vdec mX1_dealt 3 (.iconst 0) 1 := by decide +kernel
theorem dX1_dealt_4 : vdec mX1_dealt 4 (.istore 6) 2 := by decide +kernel
theorem dX1_dealt_6 : vdec mX1_dealt 6 (.iload 6) 2 := by decide +kernel
theorem dX1_dealt_8 : vdec mX1_dealt 8 (.aload_n 0) 1 := by decide +kernel
theorem dX1_dealt_9 : vdec mX1_dealt 9 (.getfield 31) 3 := by decide +kernel
theorem dX1_dealt_12 : vdec mX1_dealt 12 (.if_icmp .ge 123) 3 := by decide +kernel
theorem dX1_dealt_15 : vdec mX1_dealt 15 (.aload_n 0) 1 := by decide +kernel
theorem dX1_dealt_16 : vdec mX1_dealt 16 (.iload 6) 2 := by decide +kernel
theorem dX1_dealt_18 : vdec mX1_dealt 18 (.iload_n 3) 1 := by decide +kernel
theorem dX1_dealt_19 : vdec mX1_dealt 19 (.iload 4) 2 := by decide +kernel
theorem dX1_dealt_21 : vdec mX1_dealt 21 (.invokevirtual 72) 3 := by decide +kernel
theorem dX1_dealt_24 : vdec mX1_dealt 24 (.astore 7) 2 := by decide +kernel
theorem dX1_dealt_26 : vdec mX1_dealt 26 (.aload 7) 2 := by decide +kernel
theorem dX1_dealt_28 : vdec mX1_dealt 28 (.ifnonnull 6) 3 := by decide +kernel
theorem dX1_dealt_31 : vdec mX1_dealt 31 (.goto 98) 3 := by decide +kernel
theorem dX1_dealt_34 : vdec mX1_dealt 34 (.iconst 0) 1 := by decide +kernel
theorem dX1_dealt_35 : vdec mX1_dealt 35 (.istore 8) 2 := by decide +kernel
theorem dX1_dealt_37 : vdec mX1_dealt 37 (.iload 8) 2 := by decide +kernel
theorem dX1_dealt_39 : vdec mX1_dealt 39 (.aload 7) 2 := by decide +kernel
theorem dX1_dealt_41 : vdec mX1_dealt 41 (.invokevirtual 104) 3 := by decide +kernel
theorem dX1_dealt_44 : vdec mX1_dealt 44 (.if_icmp .ge 85) 3 := by decide +kernel
theorem dX1_dealt_47 : vdec mX1_dealt 47 (.aload_n 0) 1 := by decide +kernel
theorem dX1_dealt_48 : vdec mX1_dealt 48 (.aload 7) 2 := by decide +kernel
theorem dX1_dealt_50 : vdec mX1_dealt 50 (.iload 8) 2 := by decide +kernel
theorem dX1_dealt_52 : vdec mX1_dealt 52 (.invokevirtual 95) 3 := by decide +kernel
theorem dX1_dealt_55 : vdec mX1_dealt 55 (.invokevirtual 89) 3 := by decide +kernel
theorem dX1_dealt_58 : vdec mX1_dealt 58 (.istore 9) 2 := by decide +kernel
theorem dX1_dealt_60 : vdec mX1_dealt 60 (.aload_n 0) 1 := by decide +kernel
theorem dX1_dealt_61 : vdec mX1_dealt 61 (.aload 7) 2 := by decide +kernel
theorem dX1_dealt_63 : vdec mX1_dealt 63 (.iload 8) 2 := by decide +kernel
theorem dX1_dealt_65 : vdec mX1_dealt 65 (.invokevirtual 98) 3 := by decide +kernel
theorem dX1_dealt_68 : vdec mX1_dealt 68 (.invokevirtual 89) 3 := by decide +kernel
theorem dX1_dealt_71 : vdec mX1_dealt 71 (.istore 10) 2 := by decide +kernel
theorem dX1_dealt_73 : vdec mX1_dealt 73 (.iload 9) 2 := by decide +kernel
theorem dX1_dealt_75 : vdec mX1_dealt 75 (.iload 10) 2 := by decide +kernel
theorem dX1_dealt_77 : vdec mX1_dealt 77 (.invokestatic 114) 3 := by decide +kernel
theorem dX1_dealt_80 : vdec mX1_dealt 80 (.iload_n 1) 1 := by decide +kernel
theorem dX1_dealt_81 : vdec mX1_dealt 81 (.if_icmp .ne 18) 3 := by decide +kernel
theorem dX1_dealt_84 : vdec mX1_dealt 84 (.iload 9) 2 := by decide +kernel
theorem dX1_dealt_86 : vdec mX1_dealt 86 (.iload 10) 2 := by decide +kernel
theorem dX1_dealt_88 : vdec mX1_dealt 88 (.invokestatic 51) 3 := by decide +kernel
theorem dX1_dealt_91 : vdec mX1_dealt 91 (.iload_n 2) 1 := by decide +kernel
theorem dX1_dealt_92 : vdec mX1_dealt 92 (.if_icmp .ne 7) 3 := by decide +kernel
theorem dX1_dealt_95 : vdec mX1_dealt 95 (.iconst 1) 1 := by decide +kernel
theorem dX1_dealt_96 : vdec mX1_dealt 96 (.goto 4) 3 := by decide +kernel
theorem dX1_dealt_99 : vdec mX1_dealt 99 (.iconst 0) 1 := by decide +kernel
theorem dX1_dealt_100 : vdec mX1_dealt 100 (.istore 11) 2 := by decide +kernel
theorem dX1_dealt_102 : vdec mX1_dealt 102 (.iload 5) 2 := by decide +kernel
theorem dX1_dealt_104 : vdec mX1_dealt 104 (.iload 11) 2 := by decide +kernel
theorem dX1_dealt_106 : vdec mX1_dealt 106 (.ifCond .eq 13) 3 := by decide +kernel
theorem dX1_dealt_109 : vdec mX1_dealt 109 (.aload 7) 2 := by decide +kernel
theorem dX1_dealt_111 : vdec mX1_dealt 111 (.iload 8) 2 := by decide +kernel
theorem dX1_dealt_113 : vdec mX1_dealt 113 (.invokevirtual 111) 3 := by decide +kernel
theorem dX1_dealt_116 : vdec mX1_dealt 116 (.goto 4) 3 := by decide +kernel
theorem dX1_dealt_119 : vdec mX1_dealt 119 (.iconst 0) 1 := by decide +kernel
theorem dX1_dealt_120 : vdec mX1_dealt 120 (.iadd) 1 := by decide +kernel
theorem dX1_dealt_121 : vdec mX1_dealt 121 (.istore 5) 2 := by decide +kernel
theorem dX1_dealt_123 : vdec mX1_dealt 123 (.iinc 8 1) 3 := by decide +kernel
theorem dX1_dealt_126 : vdec mX1_dealt 126 (.goto (-89)) 3 := by decide +kernel
theorem dX1_dealt_129 : vdec mX1_dealt 129 (.iinc 6 1) 3 := by decide +kernel
theorem dX1_dealt_132 : vdec mX1_dealt 132 (.goto (-126)) 3 := by decide +kernel
theorem dX1_dealt_135 : vdec mX1_dealt 135 (.iload 5) 2 := by decide +kernel
theorem dX1_dealt_137 : vdec mX1_dealt 137 (.ireturn) 1 := by decide +kernel
theorem dX1_setApart_0 : vdec mX1_setApart 0 (.iconst 0) 1 := by decide +kernel
theorem dX1_setApart_1 : vdec mX1_setApart 1 (.istore_n 3) 1 := by decide +kernel
theorem dX1_setApart_2 : vdec mX1_setApart 2 (.iconst 0) 1 := by decide +kernel
theorem dX1_setApart_3 : vdec mX1_setApart 3 (.istore 4) 2 := by decide +kernel
theorem dX1_setApart_5 : vdec mX1_setApart 5 (.iload 4) 2 := by decide +kernel
theorem dX1_setApart_7 : vdec mX1_setApart 7 (.aload_n 0) 1 := by decide +kernel
theorem dX1_setApart_8 : vdec mX1_setApart 8 (.getfield 31) 3 := by decide +kernel
theorem dX1_setApart_11 : vdec mX1_setApart 11 (.if_icmp .ge 57) 3 := by decide +kernel
theorem dX1_setApart_14 : vdec mX1_setApart 14 (.aload_n 0) 1 := by decide +kernel
theorem dX1_setApart_15 : vdec mX1_setApart 15 (.iload 4) 2 := by decide +kernel
theorem dX1_setApart_17 : vdec mX1_setApart 17 (.iload_n 1) 1 := by decide +kernel
theorem dX1_setApart_18 : vdec mX1_setApart 18 (.iload_n 2) 1 := by decide +kernel
theorem dX1_setApart_19 : vdec mX1_setApart 19 (.invokevirtual 72) 3 := by decide +kernel
theorem dX1_setApart_22 : vdec mX1_setApart 22 (.astore 5) 2 := by decide +kernel
theorem dX1_setApart_24 : vdec mX1_setApart 24 (.aload 5) 2 := by decide +kernel
theorem dX1_setApart_26 : vdec mX1_setApart 26 (.ifnonnull 6) 3 := by decide +kernel
theorem dX1_setApart_29 : vdec mX1_setApart 29 (.goto 33) 3 := by decide +kernel
theorem dX1_setApart_32 : vdec mX1_setApart 32 (.iconst 0) 1 := by decide +kernel
theorem dX1_setApart_33 : vdec mX1_setApart 33 (.istore 6) 2 := by decide +kernel
theorem dX1_setApart_35 : vdec mX1_setApart 35 (.iload 6) 2 := by decide +kernel
theorem dX1_setApart_37 : vdec mX1_setApart 37 (.aload 5) 2 := by decide +kernel
theorem dX1_setApart_39 : vdec mX1_setApart 39 (.invokevirtual 104) 3 := by decide +kernel
theorem dX1_setApart_42 : vdec mX1_setApart 42 (.if_icmp .ge 20) 3 := by decide +kernel
theorem dX1_setApart_45 : vdec mX1_setApart 45 (.iload_n 3) 1 := by decide +kernel
theorem dX1_setApart_46 : vdec mX1_setApart 46 (.aload_n 0) 1 := by decide +kernel
theorem dX1_setApart_47 : vdec mX1_setApart 47 (.aload 5) 2 := by decide +kernel
theorem dX1_setApart_49 : vdec mX1_setApart 49 (.iload 6) 2 := by decide +kernel
theorem dX1_setApart_51 : vdec mX1_setApart 51 (.invokevirtual 117) 3 := by decide +kernel
theorem dX1_setApart_54 : vdec mX1_setApart 54 (.iadd) 1 := by decide +kernel
theorem dX1_setApart_55 : vdec mX1_setApart 55 (.istore_n 3) 1 := by decide +kernel
theorem dX1_setApart_56 : vdec mX1_setApart 56 (.iinc 6 1) 3 := by decide +kernel
theorem dX1_setApart_59 : vdec mX1_setApart 59 (.goto (-24)) 3 := by decide +kernel
theorem dX1_setApart_62 : vdec mX1_setApart 62 (.iinc 4 1) 3 := by decide +kernel
theorem dX1_setApart_65 : vdec mX1_setApart 65 (.goto (-60)) 3 := by decide +kernel
theorem dX1_setApart_68 : vdec mX1_setApart 68 (.iload_n 3) 1 := by decide +kernel
theorem dX1_setApart_69 : vdec mX1_setApart 69 (.ireturn) 1 := by decide +kernel
theorem dX1_apartBy_0 : vdec mX1_apartBy 0 (.aload_n 0) 1 := by decide +kernel
theorem dX1_apartBy_1 : vdec mX1_apartBy 1 (.aload_n 1) 1 := by decide +kernel
theorem dX1_apartBy_2 : vdec mX1_apartBy 2 (.iload_n 2) 1 := by decide +kernel
theorem dX1_apartBy_3 : vdec mX1_apartBy 3 (.invokevirtual 107) 3 := by decide +kernel
theorem dX1_apartBy_6 : vdec mX1_apartBy 6 (.iconst 4) 1 := by decide +kernel
theorem dX1_apartBy_7 : vdec mX1_apartBy 7 (.if_icmp .eq 5) 3 := by decide +kernel
theorem dX1_apartBy_10 : vdec mX1_apartBy 10 (.iconst 0) 1 := by decide +kernel
theorem dX1_apartBy_11 : vdec mX1_apartBy 11 (.ireturn) 1 := by decide +kernel
theorem dX1_apartBy_12 : vdec mX1_apartBy 12 (.aload_n 0) 1 := by decide +kernel
theorem dX1_apartBy_13 : vdec mX1_apartBy 13 (.aload_n 1) 1 := by decide +kernel
theorem dX1_apartBy_14 : vdec mX1_apartBy 14 (.iload_n 2) 1 := by decide +kernel
theorem dX1_apartBy_15 : vdec mX1_apartBy 15 (.invokevirtual 95) 3 := by decide +kernel
theorem dX1_apartBy_18 : vdec mX1_apartBy 18 (.invokevirtual 89) 3 := by decide +kernel
theorem dX1_apartBy_21 : vdec mX1_apartBy 21 (.invokestatic 101) 3 := by decide +kernel
theorem dX1_apartBy_24 : vdec mX1_apartBy 24 (.ifCond .ne 7) 3 := by decide +kernel
theorem dX1_apartBy_27 : vdec mX1_apartBy 27 (.iconst 1) 1 := by decide +kernel
theorem dX1_apartBy_28 : vdec mX1_apartBy 28 (.goto 4) 3 := by decide +kernel
theorem dX1_apartBy_31 : vdec mX1_apartBy 31 (.iconst 0) 1 := by decide +kernel
theorem dX1_apartBy_32 : vdec mX1_apartBy 32 (.istore_n 3) 1 := by decide +kernel
theorem dX1_apartBy_33 : vdec mX1_apartBy 33 (.aload_n 0) 1 := by decide +kernel
theorem dX1_apartBy_34 : vdec mX1_apartBy 34 (.aload_n 1) 1 := by decide +kernel
theorem dX1_apartBy_35 : vdec mX1_apartBy 35 (.iload_n 2) 1 := by decide +kernel
theorem dX1_apartBy_36 : vdec mX1_apartBy 36 (.invokevirtual 98) 3 := by decide +kernel
theorem dX1_apartBy_39 : vdec mX1_apartBy 39 (.invokevirtual 89) 3 := by decide +kernel
theorem dX1_apartBy_42 : vdec mX1_apartBy 42 (.invokestatic 101) 3 := by decide +kernel
theorem dX1_apartBy_45 : vdec mX1_apartBy 45 (.ifCond .ne 7) 3 := by decide +kernel
theorem dX1_apartBy_48 : vdec mX1_apartBy 48 (.iconst 1) 1 := by decide +kernel
theorem dX1_apartBy_49 : vdec mX1_apartBy 49 (.goto 4) 3 := by decide +kernel
theorem dX1_apartBy_52 : vdec mX1_apartBy 52 (.iconst 0) 1 := by decide +kernel
theorem dX1_apartBy_53 : vdec mX1_apartBy 53 (.istore 4) 2 := by decide +kernel
theorem dX1_apartBy_55 : vdec mX1_apartBy 55 (.iload_n 3) 1 := by decide +kernel
theorem dX1_apartBy_56 : vdec mX1_apartBy 56 (.iload 4) 2 := by decide +kernel
theorem dX1_apartBy_58 : vdec mX1_apartBy 58 (.if_icmp .ne 5) 3 := by decide +kernel
theorem dX1_apartBy_61 : vdec mX1_apartBy 61 (.iconst 0) 1 := by decide +kernel
theorem dX1_apartBy_62 : vdec mX1_apartBy 62 (.ireturn) 1 := by decide +kernel
theorem dX1_apartBy_63 : vdec mX1_apartBy 63 (.iload 4) 2 := by decide +kernel
theorem dX1_apartBy_65 : vdec mX1_apartBy 65 (.ifCond .eq 11) 3 := by decide +kernel
theorem dX1_apartBy_68 : vdec mX1_apartBy 68 (.aload_n 1) 1 := by decide +kernel
theorem dX1_apartBy_69 : vdec mX1_apartBy 69 (.iload_n 2) 1 := by decide +kernel
theorem dX1_apartBy_70 : vdec mX1_apartBy 70 (.invokevirtual 111) 3 := by decide +kernel
theorem dX1_apartBy_73 : vdec mX1_apartBy 73 (.goto 9) 3 := by decide +kernel
theorem dX1_apartBy_76 : vdec mX1_apartBy 76 (.aload_n 1) 1 := by decide +kernel
theorem dX1_apartBy_77 : vdec mX1_apartBy 77 (.iload_n 2) 1 := by decide +kernel
theorem dX1_apartBy_78 : vdec mX1_apartBy 78 (.invokevirtual 111) 3 := by decide +kernel
theorem dX1_apartBy_81 : vdec mX1_apartBy 81 (.ineg) 1 := by decide +kernel
theorem dX1_apartBy_82 : vdec mX1_apartBy 82 (.ireturn) 1 := by decide +kernel
theorem dX1_classOf_0 : vdec mX1_classOf 0 (.iload_n 0) 1 := by decide +kernel
theorem dX1_classOf_1 : vdec mX1_classOf 1 (.iconst 1) 1 := by decide +kernel
theorem dX1_classOf_2 : vdec mX1_classOf 2 (.if_icmp .eq 8) 3 := by decide +kernel
theorem dX1_classOf_5 : vdec mX1_classOf 5 (.iload_n 0) 1 := by decide +kernel
theorem dX1_classOf_6 : vdec mX1_classOf 6 (.iconst 2) 1 := by decide +kernel
theorem dX1_classOf_7 : vdec mX1_classOf 7 (.if_icmp .ne 7) 3 := by decide +kernel
theorem dX1_classOf_10 : vdec mX1_classOf 10 (.iconst 0) 1 := by decide +kernel
theorem dX1_classOf_11 : vdec mX1_classOf 11 (.goto 6) 3 := by decide +kernel
theorem dX1_classOf_14 : vdec mX1_classOf 14 (.iload_n 0) 1 := by decide +kernel
theorem dX1_classOf_15 : vdec mX1_classOf 15 (.iconst 2) 1 := by decide +kernel
theorem dX1_classOf_16 : vdec mX1_classOf 16 (.isub) 1 := by decide +kernel
theorem dX1_classOf_17 : vdec mX1_classOf 17 (.ireturn) 1 := by decide +kernel
end
section
theorem dX2_init_0 : vdec mX2_init 0 (.aload_n 0) 1 := by decide +kernel
theorem dX2_init_1 : vdec mX2_init 1 (.invokespecial 3) 3 := by decide +kernel
theorem dX2_init_4 : vdec mX2_init 4 (.aload_n 0) 1 := by decide +kernel
theorem dX2_init_5 : vdec mX2_init 5 (.bipush 6) 2 := by decide +kernel
theorem dX2_init_7 : vdec mX2_init 7 (.newarray .int) 2 := by decide +kernel
theorem dX2_init_9 : vdec mX2_init 9 (.putfield 9) 3 := by decide +kernel
theorem dX2_init_12 : vdec mX2_init 12 (.aload_n 0) 1 := by decide +kernel
theorem dX2_init_13 : vdec mX2_init 13 (.bipush 6) 2 := by decide +kernel
theorem dX2_init_15 : vdec mX2_init 15 (.newarray .int) 2 := by decide +kernel
theorem dX2_init_17 : vdec mX2_init 17 (.putfield 15) 3 := by decide +kernel
theorem dX2_init_20 : vdec mX2_init 20 (.aload_n 0) 1 := by decide +kernel
theorem dX2_init_21 : vdec mX2_init 21 (.bipush 6) 2 := by decide +kernel
theorem dX2_init_23 : vdec mX2_init 23 (.newarray .int) 2 := by decide +kernel
theorem dX2_init_25 : vdec mX2_init 25 (.putfield 18) 3 := by decide +kernel
theorem dX2_init_28 : vdec mX2_init 28 (.aload_n 0) 1 := by decide +kernel
theorem dX2_init_29 : vdec mX2_init 29 (.bipush 6) 2 := by decide +kernel
theorem dX2_init_31 : vdec mX2_init 31 (.newarray .int) 2 := by decide +kernel
theorem dX2_init_33 : vdec mX2_init 33 (.putfield 21) 3 := by decide +kernel
theorem dX2_init_36 : vdec mX2_init 36 (.aload_n 0) 1 := by decide +kernel
theorem dX2_init_37 : vdec mX2_init 37 (.bipush 6) 2 := by decide +kernel
theorem dX2_init_39 : vdec mX2_init 39 (.newarray .int) 2 := by decide +kernel
theorem dX2_init_41 : vdec mX2_init 41 (.putfield 24) 3 := by decide +kernel
theorem dX2_init_44 : vdec mX2_init 44 (.aload_n 0) 1 := by decide +kernel
theorem dX2_init_45 : vdec mX2_init 45 (.bipush 6) 2 := by decide +kernel
theorem dX2_init_47 : vdec mX2_init 47 (.newarray .int) 2 := by decide +kernel
theorem dX2_init_49 : vdec mX2_init 49 (.putfield 27) 3 := by decide +kernel
theorem dX2_init_52 : vdec mX2_init 52 (.aload_n 0) 1 := by decide +kernel
theorem dX2_init_53 : vdec mX2_init 53 (.iconst 0) 1 := by decide +kernel
theorem dX2_init_54 : vdec mX2_init 54 (.putfield 30) 3 := by decide +kernel
theorem dX2_init_57 : vdec mX2_init 57 (.aload_n 0) 1 := by decide +kernel
theorem dX2_init_58 : vdec mX2_init 58 (.iconst 0) 1 := by decide +kernel
theorem dX2_init_59 : vdec mX2_init 59 (.putfield 34) 3 := by decide +kernel
theorem dX2_init_62 : vdec mX2_init 62 (.aload_n 0) 1 := by decide +kernel
theorem dX2_init_63 : vdec mX2_init 63 (.iconst 0) 1 := by decide +kernel
theorem dX2_init_64 : vdec mX2_init 64 (.putfield 37) 3 := by decide +kernel
theorem dX2_init_67 : vdec mX2_init 67 (.aload_n 0) 1 := by decide +kernel
theorem dX2_init_68 : vdec mX2_init 68 (.iconst 0) 1 := by decide +kernel
theorem dX2_init_69 : vdec mX2_init 69 (.putfield 40) 3 := by decide +kernel
theorem dX2_init_72 : vdec mX2_init 72 (.aload_n 0) 1 := by decide +kernel
theorem dX2_init_73 : vdec mX2_init 73 (.iconst 0) 1 := by decide +kernel
theorem dX2_init_74 : vdec mX2_init 74 (.putfield 43) 3 := by decide +kernel
theorem dX2_init_77 : vdec mX2_init 77 (.return_) 1 := by decide +kernel
theorem dX2_begin_0 : vdec mX2_begin 0 (.aload_n 0) 1 := by decide +kernel
theorem dX2_begin_1 : vdec mX2_begin 1 (.iload_n 1) 1 := by decide +kernel
theorem dX2_begin_2 : vdec mX2_begin 2 (.putfield 30) 3 := by decide +kernel
theorem dX2_begin_5 : vdec mX2_begin 5 (.aload_n 0) 1 := by decide +kernel
theorem dX2_begin_6 : vdec mX2_begin 6 (.iconst 0) 1 := by decide +kernel
theorem dX2_begin_7 : vdec mX2_begin 7 (.putfield 34) 3 := by decide +kernel
theorem dX2_begin_10 : vdec mX2_begin 10 (.aload_n 0) 1 := by decide +kernel
theorem dX2_begin_11 : vdec mX2_begin 11 (.iconst 0) 1 := by decide +kernel
theorem dX2_begin_12 : vdec mX2_begin 12 (.putfield 37) 3 := by decide +kernel
theorem dX2_begin_15 : vdec mX2_begin 15 (.aload_n 0) 1 := by decide +kernel
theorem dX2_begin_16 : vdec mX2_begin 16 (.iconst 0) 1 := by decide +kernel
theorem dX2_begin_17 : vdec mX2_begin 17 (.putfield 40) 3 := by decide +kernel
theorem dX2_begin_20 : vdec mX2_begin 20 (.aload_n 0) 1 := by decide +kernel
theorem dX2_begin_21 : vdec mX2_begin 21 (.iconst 0) 1 := by decide +kernel
theorem dX2_begin_22 : vdec mX2_begin 22 (.putfield 43) 3 := by decide +kernel
theorem dX2_begin_25 : vdec mX2_begin 25 (.return_) 1 := by decide +kernel
theorem dX2_period_0 : vdec mX2_period 0 (.aload_n 0) 1 := by decide +kernel
theorem dX2_period_1 : vdec mX2_period 1 (.getfield 30) 3 := by decide +kernel
theorem dX2_period_4 : vdec mX2_period 4 (.ireturn) 1 := by decide +kernel
theorem dX2_lines_0 : vdec mX2_lines 0 (.aload_n 0) 1 := by decide +kernel
theorem dX2_lines_1 : vdec mX2_lines 1 (.getfield 34) 3 := by decide +kernel
theorem dX2_lines_4 : vdec mX2_lines 4 (.ireturn) 1 := by decide +kernel
theorem dX2_groups_0 : vdec mX2_groups 0 (.aload_n 0) 1 := by decide +kernel
theorem dX2_groups_1 : vdec mX2_groups 1 (.getfield 37) 3 := by decide +kernel
theorem dX2_groups_4 : vdec mX2_groups 4 (.ireturn) 1 := by decide +kernel
theorem dX2_pieces_0 : vdec mX2_pieces 0 (.aload_n 0) 1 := by decide +kernel
theorem dX2_pieces_1 : vdec mX2_pieces 1 (.getfield 40) 3 := by decide +kernel
theorem dX2_pieces_4 : vdec mX2_pieces 4 (.ireturn) 1 := by decide +kernel
theorem dX2_isStruck_0 : vdec mX2_isStruck 0 (.aload_n 0) 1 := by decide +kernel
theorem dX2_isStruck_1 : vdec mX2_isStruck 1 (.getfield 43) 3 := by decide +kernel
theorem dX2_isStruck_4 : vdec mX2_isStruck 4 (.ireturn) 1 := by decide +kernel
theorem dX2_toggle_0 : vdec mX2_toggle 0 (.aload_n 0) 1 := by decide +kernel
theorem dX2_toggle_1 : vdec mX2_toggle 1 (.aload_n 0) 1 := by decide +kernel
theorem dX2_toggle_2 : vdec mX2_toggle 2 (.getfield 43) 3 := by decide +kernel
theorem dX2_toggle_5 : vdec mX2_toggle 5 (.ifCond .ne 7) 3 := by decide +kernel
theorem dX2_toggle_8 : vdec mX2_toggle 8 (.iconst 1) 1 := by decide +kernel
theorem dX2_toggle_9 : vdec mX2_toggle 9 (.goto 4) 3 := by decide +kernel
theorem dX2_toggle_12 : vdec mX2_toggle 12 (.iconst 0) 1 := by decide +kernel
theorem dX2_toggle_13 : vdec mX2_toggle 13 (.putfield 43) 3 := by decide +kernel
theorem dX2_toggle_16 : vdec mX2_toggle 16 (.return_) 1 := by decide +kernel
theorem dX2_countsIn_0 : vdec mX2_countsIn 0 (.aload_n 0) 1 := by decide +kernel
theorem dX2_countsIn_1 : vdec mX2_countsIn 1 (.getfield 43) 3 := by decide +kernel
theorem dX2_countsIn_4 : vdec mX2_countsIn 4 (.ifCond .ne 23) 3 := by decide +kernel
theorem dX2_countsIn_7 : vdec mX2_countsIn 7 (.aload_n 0) 1 := by decide +kernel
theorem dX2_countsIn_8 : vdec mX2_countsIn 8 (.getfield 30) 3 := by decide +kernel
theorem dX2_countsIn_11 : vdec mX2_countsIn 11 (.iload_n 1) 1 := by decide +kernel
theorem dX2_countsIn_12 : vdec mX2_countsIn 12 (.if_icmp .lt 15) 3 := by decide +kernel
theorem dX2_countsIn_15 : vdec mX2_countsIn 15 (.aload_n 0) 1 := by decide +kernel
theorem dX2_countsIn_16 : vdec mX2_countsIn 16 (.getfield 30) 3 := by decide +kernel
theorem dX2_countsIn_19 : vdec mX2_countsIn 19 (.iload_n 2) 1 := by decide +kernel
theorem dX2_countsIn_20 : vdec mX2_countsIn 20 (.if_icmp .gt 7) 3 := by decide +kernel
theorem dX2_countsIn_23 : vdec mX2_countsIn 23 (.iconst 1) 1 := by decide +kernel
theorem dX2_countsIn_24 : vdec mX2_countsIn 24 (.goto 4) 3 := by decide +kernel
theorem dX2_countsIn_27 : vdec mX2_countsIn 27 (.iconst 0) 1 := by decide +kernel
theorem dX2_countsIn_28 : vdec mX2_countsIn 28 (.ireturn) 1 := by decide +kernel
theorem dX2_add_0 : vdec mX2_add 0 (.aload_n 0) 1 := by decide +kernel
theorem dX2_add_1 : vdec mX2_add 1 (.getfield 34) 3 := by decide +kernel
theorem dX2_add_4 : vdec mX2_add 4 (.bipush 6) 2 := by decide +kernel
theorem dX2_add_6 : vdec mX2_add 6 (.if_icmp .ge 33) 3 := by decide +kernel
theorem dX2_add_9 : vdec mX2_add 9 (.aload_n 0) 1 := by decide +kernel
theorem dX2_add_10 : vdec mX2_add 10 (.getfield 9) 3 := by decide +kernel
theorem dX2_add_13 : vdec mX2_add 13 (.aload_n 0) 1 := by decide +kernel
theorem dX2_add_14 : vdec mX2_add 14 (.getfield 34) 3 := by decide +kernel
theorem dX2_add_17 : vdec mX2_add 17 (.iload_n 1) 1 := by decide +kernel
theorem dX2_add_18 : vdec mX2_add 18 (.iastore) 1 := by decide +kernel
theorem dX2_add_19 : vdec mX2_add 19 (.aload_n 0) 1 := by decide +kernel
theorem dX2_add_20 : vdec mX2_add 20 (.getfield 15) 3 := by decide +kernel
theorem dX2_add_23 : vdec mX2_add 23 (.aload_n 0) 1 := by decide +kernel
theorem dX2_add_24 : vdec mX2_add 24 (.getfield 34) 3 := by decide +kernel
theorem dX2_add_27 : vdec mX2_add 27 (.iload_n 2) 1 := by decide +kernel
theorem dX2_add_28 : vdec mX2_add 28 (.iastore) 1 := by decide +kernel
theorem dX2_add_29 : vdec mX2_add 29 (.aload_n 0) 1 := by decide +kernel
theorem dX2_add_30 : vdec mX2_add 30 (.dup) 1 := by decide +kernel
theorem dX2_add_31 : vdec mX2_add 31 (.getfield 34) 3 := by decide +kernel
theorem dX2_add_34 : vdec mX2_add 34 (.iconst 1) 1 := by decide +kernel
theorem dX2_add_35 : vdec mX2_add 35 (.iadd) 1 := by decide +kernel
theorem dX2_add_36 : vdec mX2_add 36 (.putfield 34) 3 := by decide +kernel
theorem dX2_add_39 : vdec mX2_add 39 (.return_) 1 := by decide +kernel
theorem dX2_dropTransfer_0 : vdec mX2_dropTransfer 0 (.aload_n 0) 1 := by decide +kernel
theorem dX2_dropTransfer_1 : vdec mX2_dropTransfer 1 (.aload_n 0) 1 := by decide +kernel
theorem dX2_dropTransfer_2 : vdec mX2_dropTransfer 2 (.getfield 34) 3 := by decide +kernel
theorem dX2_dropTransfer_5 : vdec mX2_dropTransfer 5 (.iconst 2) 1 := by decide +kernel
theorem dX2_dropTransfer_6 : vdec mX2_dropTransfer 6 (.isub) 1 := by decide +kernel
theorem dX2_dropTransfer_7 : vdec mX2_dropTransfer 7 (.iconst 0) 1 := by decide +kernel
theorem dX2_dropTransfer_8 : vdec mX2_dropTransfer 8 (.invokestatic 47) 3 := by decide +kernel
theorem dX2_dropTransfer_11 : vdec mX2_dropTransfer 11 (.putfield 34) 3 := by decide +kernel
theorem dX2_dropTransfer_14 : vdec mX2_dropTransfer 14 (.return_) 1 := by decide +kernel
theorem dX2_accountOf_0 : vdec mX2_accountOf 0 (.aload_n 0) 1 := by decide +kernel
theorem dX2_accountOf_1 : vdec mX2_accountOf 1 (.iload_n 1) 1 := by decide +kernel
theorem dX2_accountOf_2 : vdec mX2_accountOf 2 (.invokevirtual 53) 3 := by decide +kernel
theorem dX2_accountOf_5 : vdec mX2_accountOf 5 (.ifCond .eq 12) 3 := by decide +kernel
theorem dX2_accountOf_8 : vdec mX2_accountOf 8 (.aload_n 0) 1 := by decide +kernel
theorem dX2_accountOf_9 : vdec mX2_accountOf 9 (.getfield 9) 3 := by decide +kernel
theorem dX2_accountOf_12 : vdec mX2_accountOf 12 (.iload_n 1) 1 := by decide +kernel
theorem dX2_accountOf_13 : vdec mX2_accountOf 13 (.iaload) 1 := by decide +kernel
theorem dX2_accountOf_14 : vdec mX2_accountOf 14 (.goto 4) 3 := by decide +kernel
theorem dX2_accountOf_17 : vdec mX2_accountOf 17 (.iconst (-1)) 1 := by decide +kernel
theorem dX2_accountOf_18 : vdec mX2_accountOf 18 (.ireturn) 1 := by decide +kernel
theorem dX2_amountOf_0 : vdec mX2_amountOf 0 (.aload_n 0) 1 := by decide +kernel
theorem dX2_amountOf_1 : vdec mX2_amountOf 1 (.iload_n 1) 1 := by decide +kernel
theorem dX2_amountOf_2 : vdec mX2_amountOf 2 (.invokevirtual 53) 3 := by decide +kernel
theorem dX2_amountOf_5 : vdec mX2_amountOf 5 (.ifCond .eq 12) 3 := by decide +kernel
theorem dX2_amountOf_8 : vdec mX2_amountOf 8 (.aload_n 0) 1 := by decide +kernel
theorem dX2_amountOf_9 : vdec mX2_amountOf 9 (.getfield 15) 3 := by decide +kernel
theorem dX2_amountOf_12 : vdec mX2_amountOf 12 (.iload_n 1) 1 := by decide +kernel
theorem dX2_amountOf_13 : vdec mX2_amountOf 13 (.iaload) 1 := by decide +kernel
theorem dX2_amountOf_14 : vdec mX2_amountOf 14 (.goto 4) 3 := by decide +kernel
theorem dX2_amountOf_17 : vdec mX2_amountOf 17 (.iconst 0) 1 := by decide +kernel
theorem dX2_amountOf_18 : vdec mX2_amountOf 18 (.ireturn) 1 := by decide +kernel
theorem dX2_groupOf_0 : vdec mX2_groupOf 0 (.aload_n 0) 1 := by decide +kernel
theorem dX2_groupOf_1 : vdec mX2_groupOf 1 (.iload_n 1) 1 := by decide +kernel
theorem dX2_groupOf_2 : vdec mX2_groupOf 2 (.invokevirtual 53) 3 := by decide +kernel
theorem dX2_groupOf_5 : vdec mX2_groupOf 5 (.ifCond .eq 12) 3 := by decide +kernel
theorem dX2_groupOf_8 : vdec mX2_groupOf 8 (.aload_n 0) 1 := by decide +kernel
theorem dX2_groupOf_9 : vdec mX2_groupOf 9 (.getfield 18) 3 := by decide +kernel
theorem dX2_groupOf_12 : vdec mX2_groupOf 12 (.iload_n 1) 1 := by decide +kernel
theorem dX2_groupOf_13 : vdec mX2_groupOf 13 (.iaload) 1 := by decide +kernel
theorem dX2_groupOf_14 : vdec mX2_groupOf 14 (.goto 4) 3 := by decide +kernel
theorem dX2_groupOf_17 : vdec mX2_groupOf 17 (.iconst (-1)) 1 := by decide +kernel
theorem dX2_groupOf_18 : vdec mX2_groupOf 18 (.ireturn) 1 := by decide +kernel
theorem dX2_total_0 : vdec mX2_total 0 (.iconst 0) 1 := by decide +kernel
theorem dX2_total_1 : vdec mX2_total 1 (.istore_n 1) 1 := by decide +kernel
theorem dX2_total_2 : vdec mX2_total 2 (.iconst 0) 1 := by decide +kernel
theorem dX2_total_3 : vdec mX2_total 3 (.istore_n 2) 1 := by decide +kernel
theorem dX2_total_4 : vdec mX2_total 4 (.iload_n 2) 1 := by decide +kernel
theorem dX2_total_5 : vdec mX2_total 5 (.aload_n 0) 1 := by decide +kernel
theorem dX2_total_6 : vdec mX2_total 6 (.getfield 34) 3 := by decide +kernel
theorem dX2_total_9 : vdec mX2_total 9 (.if_icmp .ge 17) 3 := by decide +kernel
theorem dX2_total_12 : vdec mX2_total 12 (.iload_n 1) 1 := by decide +kernel
theorem dX2_total_13 : vdec mX2_total 13 (.aload_n 0) 1 := by decide +kernel
theorem dX2_total_14 : vdec mX2_total 14 (.iload_n 2) 1 := by decide +kernel
theorem dX2_total_15 : vdec mX2_total 15 (.invokevirtual 57) 3 := by decide +kernel
theorem dX2_total_18 : vdec mX2_total 18 (.iadd) 1 := by decide +kernel
theorem dX2_total_19 : vdec mX2_total 19 (.istore_n 1) 1 := by decide +kernel
theorem dX2_total_20 : vdec mX2_total 20 (.iinc 2 1) 3 := by decide +kernel
theorem dX2_total_23 : vdec mX2_total 23 (.goto (-19)) 3 := by decide +kernel
theorem dX2_total_26 : vdec mX2_total 26 (.iload_n 1) 1 := by decide +kernel
theorem dX2_total_27 : vdec mX2_total 27 (.ireturn) 1 := by decide +kernel
theorem dX2_netOf_0 : vdec mX2_netOf 0 (.iconst 0) 1 := by decide +kernel
theorem dX2_netOf_1 : vdec mX2_netOf 1 (.istore_n 2) 1 := by decide +kernel
theorem dX2_netOf_2 : vdec mX2_netOf 2 (.iconst 0) 1 := by decide +kernel
theorem dX2_netOf_3 : vdec mX2_netOf 3 (.istore_n 3) 1 := by decide +kernel
theorem dX2_netOf_4 : vdec mX2_netOf 4 (.iload_n 3) 1 := by decide +kernel
theorem dX2_netOf_5 : vdec mX2_netOf 5 (.aload_n 0) 1 := by decide +kernel
theorem dX2_netOf_6 : vdec mX2_netOf 6 (.getfield 34) 3 := by decide +kernel
theorem dX2_netOf_9 : vdec mX2_netOf 9 (.if_icmp .ge 26) 3 := by decide +kernel
theorem dX2_netOf_12 : vdec mX2_netOf 12 (.aload_n 0) 1 := by decide +kernel
theorem dX2_netOf_13 : vdec mX2_netOf 13 (.iload_n 3) 1 := by decide +kernel
theorem dX2_netOf_14 : vdec mX2_netOf 14 (.invokevirtual 61) 3 := by decide +kernel
theorem dX2_netOf_17 : vdec mX2_netOf 17 (.iload_n 1) 1 := by decide +kernel
theorem dX2_netOf_18 : vdec mX2_netOf 18 (.if_icmp .ne 11) 3 := by decide +kernel
theorem dX2_netOf_21 : vdec mX2_netOf 21 (.iload_n 2) 1 := by decide +kernel
theorem dX2_netOf_22 : vdec mX2_netOf 22 (.aload_n 0) 1 := by decide +kernel
theorem dX2_netOf_23 : vdec mX2_netOf 23 (.iload_n 3) 1 := by decide +kernel
theorem dX2_netOf_24 : vdec mX2_netOf 24 (.invokevirtual 57) 3 := by decide +kernel
theorem dX2_netOf_27 : vdec mX2_netOf 27 (.iadd) 1 := by decide +kernel
theorem dX2_netOf_28 : vdec mX2_netOf 28 (.istore_n 2) 1 := by decide +kernel
theorem dX2_netOf_29 : vdec mX2_netOf 29 (.iinc 3 1) 3 := by decide +kernel
theorem dX2_netOf_32 : vdec mX2_netOf 32 (.goto (-28)) 3 := by decide +kernel
theorem dX2_netOf_35 : vdec mX2_netOf 35 (.iload_n 2) 1 := by decide +kernel
theorem dX2_netOf_36 : vdec mX2_netOf 36 (.ireturn) 1 := by decide +kernel
theorem dX2_setGroup_0 : vdec mX2_setGroup 0 (.aload_n 0) 1 := by decide +kernel
theorem dX2_setGroup_1 : vdec mX2_setGroup 1 (.iload_n 1) 1 := by decide +kernel
theorem dX2_setGroup_2 : vdec mX2_setGroup 2 (.invokevirtual 53) 3 := by decide +kernel
theorem dX2_setGroup_5 : vdec mX2_setGroup 5 (.ifCond .eq 10) 3 := by decide +kernel
theorem dX2_setGroup_8 : vdec mX2_setGroup 8 (.aload_n 0) 1 := by decide +kernel
theorem dX2_setGroup_9 : vdec mX2_setGroup 9 (.getfield 18) 3 := by decide +kernel
theorem dX2_setGroup_12 : vdec mX2_setGroup 12 (.iload_n 1) 1 := by decide +kernel
theorem dX2_setGroup_13 : vdec mX2_setGroup 13 (.iload_n 2) 1 := by decide +kernel
theorem dX2_setGroup_14 : vdec mX2_setGroup 14 (.iastore) 1 := by decide +kernel
theorem dX2_setGroup_15 : vdec mX2_setGroup 15 (.return_) 1 := by decide +kernel
theorem dX2_setGroups_0 : vdec mX2_setGroups 0 (.aload_n 0) 1 := by decide +kernel
theorem dX2_setGroups_1 : vdec mX2_setGroups 1 (.iload_n 1) 1 := by decide +kernel
theorem dX2_setGroups_2 : vdec mX2_setGroups 2 (.putfield 37) 3 := by decide +kernel
theorem dX2_setGroups_5 : vdec mX2_setGroups 5 (.return_) 1 := by decide +kernel
theorem dX2_dropPieces_0 : vdec mX2_dropPieces 0 (.aload_n 0) 1 := by decide +kernel
theorem dX2_dropPieces_1 : vdec mX2_dropPieces 1 (.iconst 0) 1 := by decide +kernel
theorem dX2_dropPieces_2 : vdec mX2_dropPieces 2 (.putfield 40) 3 := by decide +kernel
theorem dX2_dropPieces_5 : vdec mX2_dropPieces 5 (.return_) 1 := by decide +kernel
theorem dX2_addPiece_0 : vdec mX2_addPiece 0 (.aload_n 0) 1 := by decide +kernel
theorem dX2_addPiece_1 : vdec mX2_addPiece 1 (.getfield 40) 3 := by decide +kernel
theorem dX2_addPiece_4 : vdec mX2_addPiece 4 (.bipush 6) 2 := by decide +kernel
theorem dX2_addPiece_6 : vdec mX2_addPiece 6 (.if_icmp .ge 43) 3 := by decide +kernel
theorem dX2_addPiece_9 : vdec mX2_addPiece 9 (.aload_n 0) 1 := by decide +kernel
theorem dX2_addPiece_10 : vdec mX2_addPiece 10 (.getfield 21) 3 := by decide +kernel
theorem dX2_addPiece_13 : vdec mX2_addPiece 13 (.aload_n 0) 1 := by decide +kernel
theorem dX2_addPiece_14 : vdec mX2_addPiece 14 (.getfield 40) 3 := by decide +kernel
theorem dX2_addPiece_17 : vdec mX2_addPiece 17 (.iload_n 1) 1 := by decide +kernel
theorem dX2_addPiece_18 : vdec mX2_addPiece 18 (.iastore) 1 := by decide +kernel
theorem dX2_addPiece_19 : vdec mX2_addPiece 19 (.aload_n 0) 1 := by decide +kernel
theorem dX2_addPiece_20 : vdec mX2_addPiece 20 (.getfield 24) 3 := by decide +kernel
theorem dX2_addPiece_23 : vdec mX2_addPiece 23 (.aload_n 0) 1 := by decide +kernel
theorem dX2_addPiece_24 : vdec mX2_addPiece 24 (.getfield 40) 3 := by decide +kernel
theorem dX2_addPiece_27 : vdec mX2_addPiece 27 (.iload_n 2) 1 := by decide +kernel
theorem dX2_addPiece_28 : vdec mX2_addPiece 28 (.iastore) 1 := by decide +kernel
theorem dX2_addPiece_29 : vdec mX2_addPiece 29 (.aload_n 0) 1 := by decide +kernel
theorem dX2_addPiece_30 : vdec mX2_addPiece 30 (.getfield 27) 3 := by decide +kernel
theorem dX2_addPiece_33 : vdec mX2_addPiece 33 (.aload_n 0) 1 := by decide +kernel
theorem dX2_addPiece_34 : vdec mX2_addPiece 34 (.getfield 40) 3 := by decide +kernel
theorem dX2_addPiece_37 : vdec mX2_addPiece 37 (.iload_n 3) 1 := by decide +kernel
theorem dX2_addPiece_38 : vdec mX2_addPiece 38 (.iastore) 1 := by decide +kernel
theorem dX2_addPiece_39 : vdec mX2_addPiece 39 (.aload_n 0) 1 := by decide +kernel
theorem dX2_addPiece_40 : vdec mX2_addPiece 40 (.dup) 1 := by decide +kernel
theorem dX2_addPiece_41 : vdec mX2_addPiece 41 (.getfield 40) 3 := by decide +kernel
theorem dX2_addPiece_44 : vdec mX2_addPiece 44 (.iconst 1) 1 := by decide +kernel
theorem dX2_addPiece_45 : vdec mX2_addPiece 45 (.iadd) 1 := by decide +kernel
theorem dX2_addPiece_46 : vdec mX2_addPiece 46 (.putfield 40) 3 := by decide +kernel
theorem dX2_addPiece_49 : vdec mX2_addPiece 49 (.return_) 1 := by decide +kernel
theorem dX2_creditedOf_0 : vdec mX2_creditedOf 0 (.aload_n 0) 1 := by decide +kernel
theorem dX2_creditedOf_1 : vdec mX2_creditedOf 1 (.iload_n 1) 1 := by decide +kernel
theorem dX2_creditedOf_2 : vdec mX2_creditedOf 2 (.invokevirtual 64) 3 := by decide +kernel
theorem dX2_creditedOf_5 : vdec mX2_creditedOf 5 (.ifCond .eq 12) 3 := by decide +kernel
theorem dX2_creditedOf_8 : vdec mX2_creditedOf 8 (.aload_n 0) 1 := by decide +kernel
theorem dX2_creditedOf_9 : vdec mX2_creditedOf 9 (.getfield 21) 3 := by decide +kernel
theorem dX2_creditedOf_12 : vdec mX2_creditedOf 12 (.iload_n 1) 1 := by decide +kernel
theorem dX2_creditedOf_13 : vdec mX2_creditedOf 13 (.iaload) 1 := by decide +kernel
theorem dX2_creditedOf_14 : vdec mX2_creditedOf 14 (.goto 4) 3 := by decide +kernel
theorem dX2_creditedOf_17 : vdec mX2_creditedOf 17 (.iconst (-1)) 1 := by decide +kernel
theorem dX2_creditedOf_18 : vdec mX2_creditedOf 18 (.ireturn) 1 := by decide +kernel
theorem dX2_debitedOf_0 : vdec mX2_debitedOf 0 (.aload_n 0) 1 := by decide +kernel
theorem dX2_debitedOf_1 : vdec mX2_debitedOf 1 (.iload_n 1) 1 := by decide +kernel
theorem dX2_debitedOf_2 : vdec mX2_debitedOf 2 (.invokevirtual 64) 3 := by decide +kernel
theorem dX2_debitedOf_5 : vdec mX2_debitedOf 5 (.ifCond .eq 12) 3 := by decide +kernel
theorem dX2_debitedOf_8 : vdec mX2_debitedOf 8 (.aload_n 0) 1 := by decide +kernel
theorem dX2_debitedOf_9 : vdec mX2_debitedOf 9 (.getfield 24) 3 := by decide +kernel
theorem dX2_debitedOf_12 : vdec mX2_debitedOf 12 (.iload_n 1) 1 := by decide +kernel
theorem dX2_debitedOf_13 : vdec mX2_debitedOf 13 (.iaload) 1 := by decide +kernel
theorem dX2_debitedOf_14 : vdec mX2_debitedOf 14 (.goto 4) 3 := by decide +kernel
theorem dX2_debitedOf_17 : vdec mX2_debitedOf 17 (.iconst (-1)) 1 := by decide +kernel
theorem dX2_debitedOf_18 : vdec mX2_debitedOf 18 (.ireturn) 1 := by decide +kernel
theorem dX2_movedOf_0 : vdec mX2_movedOf 0 (.aload_n 0) 1 := by decide +kernel
theorem dX2_movedOf_1 : vdec mX2_movedOf 1 (.iload_n 1) 1 := by decide +kernel
theorem dX2_movedOf_2 : vdec mX2_movedOf 2 (.invokevirtual 64) 3 := by decide +kernel
theorem dX2_movedOf_5 : vdec mX2_movedOf 5 (.ifCond .eq 12) 3 := by decide +kernel
theorem dX2_movedOf_8 : vdec mX2_movedOf 8 (.aload_n 0) 1 := by decide +kernel
theorem dX2_movedOf_9 : vdec mX2_movedOf 9 (.getfield 27) 3 := by decide +kernel
theorem dX2_movedOf_12 : vdec mX2_movedOf 12 (.iload_n 1) 1 := by decide +kernel
theorem dX2_movedOf_13 : vdec mX2_movedOf 13 (.iaload) 1 := by decide +kernel
theorem dX2_movedOf_14 : vdec mX2_movedOf 14 (.goto 4) 3 := by decide +kernel
theorem dX2_movedOf_17 : vdec mX2_movedOf 17 (.iconst 0) 1 := by decide +kernel
theorem dX2_movedOf_18 : vdec mX2_movedOf 18 (.ireturn) 1 := by decide +kernel
theorem dX2_hasLine_0 : vdec mX2_hasLine 0 (.iload_n 1) 1 := by decide +kernel
theorem dX2_hasLine_1 : vdec mX2_hasLine 1 (.ifCond .lt 21) 3 := by decide +kernel
theorem dX2_hasLine_4 : vdec mX2_hasLine 4 (.iload_n 1) 1 := by decide +kernel
theorem dX2_hasLine_5 : vdec mX2_hasLine 5 (.aload_n 0) 1 := by decide +kernel
theorem dX2_hasLine_6 : vdec mX2_hasLine 6 (.getfield 34) 3 := by decide +kernel
theorem dX2_hasLine_9 : vdec mX2_hasLine 9 (.if_icmp .ge 13) 3 := by decide +kernel
theorem dX2_hasLine_12 : vdec mX2_hasLine 12 (.iload_n 1) 1 := by decide +kernel
theorem dX2_hasLine_13 : vdec mX2_hasLine 13 (.bipush 6) 2 := by decide +kernel
theorem dX2_hasLine_15 : vdec mX2_hasLine 15 (.if_icmp .ge 7) 3 := by decide +kernel
theorem dX2_hasLine_18 : vdec mX2_hasLine 18 (.iconst 1) 1 := by decide +kernel
theorem dX2_hasLine_19 : vdec mX2_hasLine 19 (.goto 4) 3 := by decide +kernel
theorem dX2_hasLine_22 : vdec mX2_hasLine 22 (.iconst 0) 1 := by decide +kernel
theorem dX2_hasLine_23 : vdec mX2_hasLine 23 (.ireturn) 1 := by decide +kernel
theorem dX2_hasPiece_0 : vdec mX2_hasPiece 0 (.iload_n 1) 1 := by decide +kernel
theorem dX2_hasPiece_1 : vdec mX2_hasPiece 1 (.ifCond .lt 21) 3 := by decide +kernel
theorem dX2_hasPiece_4 : vdec mX2_hasPiece 4 (.iload_n 1) 1 := by decide +kernel
theorem dX2_hasPiece_5 : vdec mX2_hasPiece 5 (.aload_n 0) 1 := by decide +kernel
theorem dX2_hasPiece_6 : vdec mX2_hasPiece 6 (.getfield 40) 3 := by decide +kernel
theorem dX2_hasPiece_9 : vdec mX2_hasPiece 9 (.if_icmp .ge 13) 3 := by decide +kernel
theorem dX2_hasPiece_12 : vdec mX2_hasPiece 12 (.iload_n 1) 1 := by decide +kernel
theorem dX2_hasPiece_13 : vdec mX2_hasPiece 13 (.bipush 6) 2 := by decide +kernel
theorem dX2_hasPiece_15 : vdec mX2_hasPiece 15 (.if_icmp .ge 7) 3 := by decide +kernel
theorem dX2_hasPiece_18 : vdec mX2_hasPiece 18 (.iconst 1) 1 := by decide +kernel
theorem dX2_hasPiece_19 : vdec mX2_hasPiece 19 (.goto 4) 3 := by decide +kernel
theorem dX2_hasPiece_22 : vdec mX2_hasPiece 22 (.iconst 0) 1 := by decide +kernel
theorem dX2_hasPiece_23 : vdec mX2_hasPiece 23 (.ireturn) 1 := by decide +kernel
end
section
theorem dX3_init_0 : vdec mX3_init 0 (.aload_n 0) 1 := by decide +kernel
theorem dX3_init_1 : vdec mX3_init 1 (.invokespecial 3) 3 := by decide +kernel
theorem dX3_init_4 : vdec mX3_init 4 (.aload_n 0) 1 := by decide +kernel
theorem dX3_init_5 : vdec mX3_init 5 (.bipush 6) 2 := by decide +kernel
theorem dX3_init_7 : vdec mX3_init 7 (.newarray .int) 2 := by decide +kernel
theorem dX3_init_9 : vdec mX3_init 9 (.putfield 9) 3 := by decide +kernel
theorem dX3_init_12 : vdec mX3_init 12 (.aload_n 0) 1 := by decide +kernel
theorem dX3_init_13 : vdec mX3_init 13 (.bipush 6) 2 := by decide +kernel
theorem dX3_init_15 : vdec mX3_init 15 (.newarray .int) 2 := by decide +kernel
theorem dX3_init_17 : vdec mX3_init 17 (.putfield 15) 3 := by decide +kernel
theorem dX3_init_20 : vdec mX3_init 20 (.aload_n 0) 1 := by decide +kernel
theorem dX3_init_21 : vdec mX3_init 21 (.bipush 6) 2 := by decide +kernel
theorem dX3_init_23 : vdec mX3_init 23 (.newarray .int) 2 := by decide +kernel
theorem dX3_init_25 : vdec mX3_init 25 (.putfield 18) 3 := by decide +kernel
theorem dX3_init_28 : vdec mX3_init 28 (.return_) 1 := by decide +kernel
theorem dX3_part_0 : vdec mX3_part 0 (.aload_n 1) 1 := by decide +kernel
theorem dX3_part_1 : vdec mX3_part 1 (.invokevirtual 21) 3 := by decide +kernel
theorem dX3_part_4 : vdec mX3_part 4 (.bipush 6) 2 := by decide +kernel
theorem dX3_part_6 : vdec mX3_part 6 (.invokestatic 27) 3 := by decide +kernel
theorem dX3_part_9 : vdec mX3_part 9 (.istore_n 2) 1 := by decide +kernel
theorem dX3_part_10 : vdec mX3_part 10 (.iconst 0) 1 := by decide +kernel
theorem dX3_part_11 : vdec mX3_part 11 (.istore_n 3) 1 := by decide +kernel
theorem dX3_part_12 : vdec mX3_part 12 (.iconst 1) 1 := by decide +kernel
theorem dX3_part_13 : vdec mX3_part 13 (.istore 4) 2 := by decide +kernel
theorem dX3_part_15 : vdec mX3_part 15 (.aload_n 0) 1 := by decide +kernel
theorem dX3_part_16 : vdec mX3_part 16 (.invokevirtual 33) 3 := by decide +kernel
theorem dX3_part_19 : vdec mX3_part 19 (.iconst 0) 1 := by decide +kernel
theorem dX3_part_20 : vdec mX3_part 20 (.istore 5) 2 := by decide +kernel
theorem dX3_part_22 : vdec mX3_part 22 (.iload 5) 2 := by decide +kernel
theorem dX3_part_24 : vdec mX3_part 24 (.sipush 203) 3 := by decide +kernel
theorem dX3_part_27 : vdec mX3_part 27 (.if_icmp .ge 44) 3 := by decide +kernel
theorem dX3_part_30 : vdec mX3_part 30 (.iload 4) 2 := by decide +kernel
theorem dX3_part_32 : vdec mX3_part 32 (.ifCond .eq 39) 3 := by decide +kernel
theorem dX3_part_35 : vdec mX3_part 35 (.aload_n 0) 1 := by decide +kernel
theorem dX3_part_36 : vdec mX3_part 36 (.aload_n 1) 1 := by decide +kernel
theorem dX3_part_37 : vdec mX3_part 37 (.iload_n 2) 1 := by decide +kernel
theorem dX3_part_38 : vdec mX3_part 38 (.invokevirtual 36) 3 := by decide +kernel
theorem dX3_part_41 : vdec mX3_part 41 (.istore 6) 2 := by decide +kernel
theorem dX3_part_43 : vdec mX3_part 43 (.iload 6) 2 := by decide +kernel
theorem dX3_part_45 : vdec mX3_part 45 (.iload_n 3) 1 := by decide +kernel
theorem dX3_part_46 : vdec mX3_part 46 (.if_icmp .le 12) 3 := by decide +kernel
theorem dX3_part_49 : vdec mX3_part 49 (.iload 6) 2 := by decide +kernel
theorem dX3_part_51 : vdec mX3_part 51 (.istore_n 3) 1 := by decide +kernel
theorem dX3_part_52 : vdec mX3_part 52 (.aload_n 0) 1 := by decide +kernel
theorem dX3_part_53 : vdec mX3_part 53 (.aload_n 1) 1 := by decide +kernel
theorem dX3_part_54 : vdec mX3_part 54 (.iload_n 2) 1 := by decide +kernel
theorem dX3_part_55 : vdec mX3_part 55 (.invokevirtual 40) 3 := by decide +kernel
theorem dX3_part_58 : vdec mX3_part 58 (.aload_n 0) 1 := by decide +kernel
theorem dX3_part_59 : vdec mX3_part 59 (.iload_n 2) 1 := by decide +kernel
theorem dX3_part_60 : vdec mX3_part 60 (.invokevirtual 44) 3 := by decide +kernel
theorem dX3_part_63 : vdec mX3_part 63 (.istore 4) 2 := by decide +kernel
theorem dX3_part_65 : vdec mX3_part 65 (.iinc 5 1) 3 := by decide +kernel
theorem dX3_part_68 : vdec mX3_part 68 (.goto (-46)) 3 := by decide +kernel
theorem dX3_part_71 : vdec mX3_part 71 (.aload_n 1) 1 := by decide +kernel
theorem dX3_part_72 : vdec mX3_part 72 (.iload_n 3) 1 := by decide +kernel
theorem dX3_part_73 : vdec mX3_part 73 (.invokevirtual 48) 3 := by decide +kernel
theorem dX3_part_76 : vdec mX3_part 76 (.return_) 1 := by decide +kernel
theorem dX3_cut_0 : vdec mX3_cut 0 (.aload_n 1) 1 := by decide +kernel
theorem dX3_cut_1 : vdec mX3_cut 1 (.invokevirtual 52) 3 := by decide +kernel
theorem dX3_cut_4 : vdec mX3_cut 4 (.iconst 0) 1 := by decide +kernel
theorem dX3_cut_5 : vdec mX3_cut 5 (.istore_n 2) 1 := by decide +kernel
theorem dX3_cut_6 : vdec mX3_cut 6 (.iload_n 2) 1 := by decide +kernel
theorem dX3_cut_7 : vdec mX3_cut 7 (.bipush 6) 2 := by decide +kernel
theorem dX3_cut_9 : vdec mX3_cut 9 (.if_icmp .ge 20) 3 := by decide +kernel
theorem dX3_cut_12 : vdec mX3_cut 12 (.aload_n 0) 1 := by decide +kernel
theorem dX3_cut_13 : vdec mX3_cut 13 (.getfield 18) 3 := by decide +kernel
theorem dX3_cut_16 : vdec mX3_cut 16 (.iload_n 2) 1 := by decide +kernel
theorem dX3_cut_17 : vdec mX3_cut 17 (.aload_n 1) 1 := by decide +kernel
theorem dX3_cut_18 : vdec mX3_cut 18 (.iload_n 2) 1 := by decide +kernel
theorem dX3_cut_19 : vdec mX3_cut 19 (.invokevirtual 55) 3 := by decide +kernel
theorem dX3_cut_22 : vdec mX3_cut 22 (.iastore) 1 := by decide +kernel
theorem dX3_cut_23 : vdec mX3_cut 23 (.iinc 2 1) 3 := by decide +kernel
theorem dX3_cut_26 : vdec mX3_cut 26 (.goto (-20)) 3 := by decide +kernel
theorem dX3_cut_29 : vdec mX3_cut 29 (.iconst 0) 1 := by decide +kernel
theorem dX3_cut_30 : vdec mX3_cut 30 (.istore_n 2) 1 := by decide +kernel
theorem dX3_cut_31 : vdec mX3_cut 31 (.iload_n 2) 1 := by decide +kernel
theorem dX3_cut_32 : vdec mX3_cut 32 (.aload_n 1) 1 := by decide +kernel
theorem dX3_cut_33 : vdec mX3_cut 33 (.invokevirtual 59) 3 := by decide +kernel
theorem dX3_cut_36 : vdec mX3_cut 36 (.if_icmp .ge 15) 3 := by decide +kernel
theorem dX3_cut_39 : vdec mX3_cut 39 (.aload_n 0) 1 := by decide +kernel
theorem dX3_cut_40 : vdec mX3_cut 40 (.aload_n 1) 1 := by decide +kernel
theorem dX3_cut_41 : vdec mX3_cut 41 (.iload_n 2) 1 := by decide +kernel
theorem dX3_cut_42 : vdec mX3_cut 42 (.invokevirtual 62) 3 := by decide +kernel
theorem dX3_cut_45 : vdec mX3_cut 45 (.iinc 2 1) 3 := by decide +kernel
theorem dX3_cut_48 : vdec mX3_cut 48 (.goto (-17)) 3 := by decide +kernel
theorem dX3_cut_51 : vdec mX3_cut 51 (.return_) 1 := by decide +kernel
theorem dX3_firstWay_0 : vdec mX3_firstWay 0 (.iconst 0) 1 := by decide +kernel
theorem dX3_firstWay_1 : vdec mX3_firstWay 1 (.istore_n 1) 1 := by decide +kernel
theorem dX3_firstWay_2 : vdec mX3_firstWay 2 (.iload_n 1) 1 := by decide +kernel
theorem dX3_firstWay_3 : vdec mX3_firstWay 3 (.bipush 6) 2 := by decide +kernel
theorem dX3_firstWay_5 : vdec mX3_firstWay 5 (.if_icmp .ge 16) 3 := by decide +kernel
theorem dX3_firstWay_8 : vdec mX3_firstWay 8 (.aload_n 0) 1 := by decide +kernel
theorem dX3_firstWay_9 : vdec mX3_firstWay 9 (.getfield 9) 3 := by decide +kernel
theorem dX3_firstWay_12 : vdec mX3_firstWay 12 (.iload_n 1) 1 := by decide +kernel
theorem dX3_firstWay_13 : vdec mX3_firstWay 13 (.iconst 0) 1 := by decide +kernel
theorem dX3_firstWay_14 : vdec mX3_firstWay 14 (.iastore) 1 := by decide +kernel
theorem dX3_firstWay_15 : vdec mX3_firstWay 15 (.iinc 1 1) 3 := by decide +kernel
theorem dX3_firstWay_18 : vdec mX3_firstWay 18 (.goto (-16)) 3 := by decide +kernel
theorem dX3_firstWay_21 : vdec mX3_firstWay 21 (.return_) 1 := by decide +kernel
theorem dX3_takeWay_0 : vdec mX3_takeWay 0 (.iconst 0) 1 := by decide +kernel
theorem dX3_takeWay_1 : vdec mX3_takeWay 1 (.istore_n 3) 1 := by decide +kernel
theorem dX3_takeWay_2 : vdec mX3_takeWay 2 (.iload_n 3) 1 := by decide +kernel
theorem dX3_takeWay_3 : vdec mX3_takeWay 3 (.iload_n 2) 1 := by decide +kernel
theorem dX3_takeWay_4 : vdec mX3_takeWay 4 (.if_icmp .ge 20) 3 := by decide +kernel
theorem dX3_takeWay_7 : vdec mX3_takeWay 7 (.aload_n 1) 1 := by decide +kernel
theorem dX3_takeWay_8 : vdec mX3_takeWay 8 (.iload_n 3) 1 := by decide +kernel
theorem dX3_takeWay_9 : vdec mX3_takeWay 9 (.aload_n 0) 1 := by decide +kernel
theorem dX3_takeWay_10 : vdec mX3_takeWay 10 (.getfield 9) 3 := by decide +kernel
theorem dX3_takeWay_13 : vdec mX3_takeWay 13 (.iload_n 3) 1 := by decide +kernel
theorem dX3_takeWay_14 : vdec mX3_takeWay 14 (.iaload) 1 := by decide +kernel
theorem dX3_takeWay_15 : vdec mX3_takeWay 15 (.invokevirtual 65) 3 := by decide +kernel
theorem dX3_takeWay_18 : vdec mX3_takeWay 18 (.iinc 3 1) 3 := by decide +kernel
theorem dX3_takeWay_21 : vdec mX3_takeWay 21 (.goto (-19)) 3 := by decide +kernel
theorem dX3_takeWay_24 : vdec mX3_takeWay 24 (.return_) 1 := by decide +kernel
theorem dX3_nextWay_0 : vdec mX3_nextWay 0 (.iload_n 1) 1 := by decide +kernel
theorem dX3_nextWay_1 : vdec mX3_nextWay 1 (.iconst 1) 1 := by decide +kernel
theorem dX3_nextWay_2 : vdec mX3_nextWay 2 (.isub) 1 := by decide +kernel
theorem dX3_nextWay_3 : vdec mX3_nextWay 3 (.istore_n 2) 1 := by decide +kernel
theorem dX3_nextWay_4 : vdec mX3_nextWay 4 (.iload_n 2) 1 := by decide +kernel
theorem dX3_nextWay_5 : vdec mX3_nextWay 5 (.ifCond .le 42) 3 := by decide +kernel
theorem dX3_nextWay_8 : vdec mX3_nextWay 8 (.aload_n 0) 1 := by decide +kernel
theorem dX3_nextWay_9 : vdec mX3_nextWay 9 (.getfield 9) 3 := by decide +kernel
theorem dX3_nextWay_12 : vdec mX3_nextWay 12 (.iload_n 2) 1 := by decide +kernel
theorem dX3_nextWay_13 : vdec mX3_nextWay 13 (.iaload) 1 := by decide +kernel
theorem dX3_nextWay_14 : vdec mX3_nextWay 14 (.aload_n 0) 1 := by decide +kernel
theorem dX3_nextWay_15 : vdec mX3_nextWay 15 (.iload_n 2) 1 := by decide +kernel
theorem dX3_nextWay_16 : vdec mX3_nextWay 16 (.invokevirtual 69) 3 := by decide +kernel
theorem dX3_nextWay_19 : vdec mX3_nextWay 19 (.if_icmp .gt 15) 3 := by decide +kernel
theorem dX3_nextWay_22 : vdec mX3_nextWay 22 (.aload_n 0) 1 := by decide +kernel
theorem dX3_nextWay_23 : vdec mX3_nextWay 23 (.getfield 9) 3 := by decide +kernel
theorem dX3_nextWay_26 : vdec mX3_nextWay 26 (.iload_n 2) 1 := by decide +kernel
theorem dX3_nextWay_27 : vdec mX3_nextWay 27 (.dup2) 1 := by decide +kernel
theorem dX3_nextWay_28 : vdec mX3_nextWay 28 (.iaload) 1 := by decide +kernel
theorem dX3_nextWay_29 : vdec mX3_nextWay 29 (.iconst 1) 1 := by decide +kernel
theorem dX3_nextWay_30 : vdec mX3_nextWay 30 (.iadd) 1 := by decide +kernel
theorem dX3_nextWay_31 : vdec mX3_nextWay 31 (.iastore) 1 := by decide +kernel
theorem dX3_nextWay_32 : vdec mX3_nextWay 32 (.iconst 1) 1 := by decide +kernel
theorem dX3_nextWay_33 : vdec mX3_nextWay 33 (.ireturn) 1 := by decide +kernel
theorem dX3_nextWay_34 : vdec mX3_nextWay 34 (.aload_n 0) 1 := by decide +kernel
theorem dX3_nextWay_35 : vdec mX3_nextWay 35 (.getfield 9) 3 := by decide +kernel
theorem dX3_nextWay_38 : vdec mX3_nextWay 38 (.iload_n 2) 1 := by decide +kernel
theorem dX3_nextWay_39 : vdec mX3_nextWay 39 (.iconst 0) 1 := by decide +kernel
theorem dX3_nextWay_40 : vdec mX3_nextWay 40 (.iastore) 1 := by decide +kernel
theorem dX3_nextWay_41 : vdec mX3_nextWay 41 (.iinc 2 (-1)) 3 := by decide +kernel
theorem dX3_nextWay_44 : vdec mX3_nextWay 44 (.goto (-40)) 3 := by decide +kernel
theorem dX3_nextWay_47 : vdec mX3_nextWay 47 (.iconst 0) 1 := by decide +kernel
theorem dX3_nextWay_48 : vdec mX3_nextWay 48 (.ireturn) 1 := by decide +kernel
theorem dX3_highestAhead_0 : vdec mX3_highestAhead 0 (.iconst 0) 1 := by decide +kernel
theorem dX3_highestAhead_1 : vdec mX3_highestAhead 1 (.istore_n 2) 1 := by decide +kernel
theorem dX3_highestAhead_2 : vdec mX3_highestAhead 2 (.iconst 0) 1 := by decide +kernel
theorem dX3_highestAhead_3 : vdec mX3_highestAhead 3 (.istore_n 3) 1 := by decide +kernel
theorem dX3_highestAhead_4 : vdec mX3_highestAhead 4 (.iload_n 3) 1 := by decide +kernel
theorem dX3_highestAhead_5 : vdec mX3_highestAhead 5 (.iload_n 1) 1 := by decide +kernel
theorem dX3_highestAhead_6 : vdec mX3_highestAhead 6 (.if_icmp .ge 20) 3 := by decide +kernel
theorem dX3_highestAhead_9 : vdec mX3_highestAhead 9 (.iload_n 2) 1 := by decide +kernel
theorem dX3_highestAhead_10 : vdec mX3_highestAhead 10 (.aload_n 0) 1 := by decide +kernel
theorem dX3_highestAhead_11 : vdec mX3_highestAhead 11 (.getfield 9) 3 := by decide +kernel
theorem dX3_highestAhead_14 : vdec mX3_highestAhead 14 (.iload_n 3) 1 := by decide +kernel
theorem dX3_highestAhead_15 : vdec mX3_highestAhead 15 (.iaload) 1 := by decide +kernel
theorem dX3_highestAhead_16 : vdec mX3_highestAhead 16 (.invokestatic 72) 3 := by decide +kernel
theorem dX3_highestAhead_19 : vdec mX3_highestAhead 19 (.istore_n 2) 1 := by decide +kernel
theorem dX3_highestAhead_20 : vdec mX3_highestAhead 20 (.iinc 3 1) 3 := by decide +kernel
theorem dX3_highestAhead_23 : vdec mX3_highestAhead 23 (.goto (-19)) 3 := by decide +kernel
theorem dX3_highestAhead_26 : vdec mX3_highestAhead 26 (.iload_n 2) 1 := by decide +kernel
theorem dX3_highestAhead_27 : vdec mX3_highestAhead 27 (.ireturn) 1 := by decide +kernel
theorem dX3_balancedGroups_0 : vdec mX3_balancedGroups 0 (.iconst 0) 1 := by decide +kernel
theorem dX3_balancedGroups_1 : vdec mX3_balancedGroups 1 (.istore_n 3) 1 := by decide +kernel
theorem dX3_balancedGroups_2 : vdec mX3_balancedGroups 2 (.iload_n 3) 1 := by decide +kernel
theorem dX3_balancedGroups_3 : vdec mX3_balancedGroups 3 (.bipush 6) 2 := by decide +kernel
theorem dX3_balancedGroups_5 : vdec mX3_balancedGroups 5 (.if_icmp .ge 16) 3 := by decide +kernel
theorem dX3_balancedGroups_8 : vdec mX3_balancedGroups 8 (.aload_n 0) 1 := by decide +kernel
theorem dX3_balancedGroups_9 : vdec mX3_balancedGroups 9 (.getfield 15) 3 := by decide +kernel
theorem dX3_balancedGroups_12 : vdec mX3_balancedGroups 12 (.iload_n 3) 1 := by decide +kernel
theorem dX3_balancedGroups_13 : vdec mX3_balancedGroups 13 (.iconst 0) 1 := by decide +kernel
theorem dX3_balancedGroups_14 : vdec mX3_balancedGroups 14 (.iastore) 1 := by decide +kernel
theorem dX3_balancedGroups_15 : vdec mX3_balancedGroups 15 (.iinc 3 1) 3 := by decide +kernel
theorem dX3_balancedGroups_18 : vdec mX3_balancedGroups 18 (.goto (-16)) 3 := by decide +kernel
theorem dX3_balancedGroups_21 : vdec mX3_balancedGroups 21 (.iconst 0) 1 := by decide +kernel
theorem dX3_balancedGroups_22 : vdec mX3_balancedGroups 22 (.istore_n 3) 1 := by decide +kernel
theorem dX3_balancedGroups_23 : vdec mX3_balancedGroups 23 (.iload_n 3) 1 := by decide +kernel
theorem dX3_balancedGroups_24 : vdec mX3_balancedGroups 24 (.iload_n 2) 1 := by decide +kernel
theorem dX3_balancedGroups_25 : vdec mX3_balancedGroups 25 (.if_icmp .ge 28) 3 := by decide +kernel
theorem dX3_balancedGroups_28 : vdec mX3_balancedGroups 28 (.aload_n 0) 1 := by decide +kernel
theorem dX3_balancedGroups_29 : vdec mX3_balancedGroups 29 (.getfield 15) 3 := by decide +kernel
theorem dX3_balancedGroups_32 : vdec mX3_balancedGroups 32 (.aload_n 0) 1 := by decide +kernel
theorem dX3_balancedGroups_33 : vdec mX3_balancedGroups 33 (.getfield 9) 3 := by decide +kernel
theorem dX3_balancedGroups_36 : vdec mX3_balancedGroups 36 (.iload_n 3) 1 := by decide +kernel
theorem dX3_balancedGroups_37 : vdec mX3_balancedGroups 37 (.iaload) 1 := by decide +kernel
theorem dX3_balancedGroups_38 : vdec mX3_balancedGroups 38 (.dup2) 1 := by decide +kernel
theorem dX3_balancedGroups_39 : vdec mX3_balancedGroups 39 (.iaload) 1 := by decide +kernel
theorem dX3_balancedGroups_40 : vdec mX3_balancedGroups 40 (.aload_n 1) 1 := by decide +kernel
theorem dX3_balancedGroups_41 : vdec mX3_balancedGroups 41 (.iload_n 3) 1 := by decide +kernel
theorem dX3_balancedGroups_42 : vdec mX3_balancedGroups 42 (.invokevirtual 55) 3 := by decide +kernel
theorem dX3_balancedGroups_45 : vdec mX3_balancedGroups 45 (.iadd) 1 := by decide +kernel
theorem dX3_balancedGroups_46 : vdec mX3_balancedGroups 46 (.iastore) 1 := by decide +kernel
theorem dX3_balancedGroups_47 : vdec mX3_balancedGroups 47 (.iinc 3 1) 3 := by decide +kernel
theorem dX3_balancedGroups_50 : vdec mX3_balancedGroups 50 (.goto (-27)) 3 := by decide +kernel
theorem dX3_balancedGroups_53 : vdec mX3_balancedGroups 53 (.iconst 0) 1 := by decide +kernel
theorem dX3_balancedGroups_54 : vdec mX3_balancedGroups 54 (.istore_n 3) 1 := by decide +kernel
theorem dX3_balancedGroups_55 : vdec mX3_balancedGroups 55 (.iload_n 3) 1 := by decide +kernel
theorem dX3_balancedGroups_56 : vdec mX3_balancedGroups 56 (.bipush 6) 2 := by decide +kernel
theorem dX3_balancedGroups_58 : vdec mX3_balancedGroups 58 (.if_icmp .ge 20) 3 := by decide +kernel
theorem dX3_balancedGroups_61 : vdec mX3_balancedGroups 61 (.aload_n 0) 1 := by decide +kernel
theorem dX3_balancedGroups_62 : vdec mX3_balancedGroups 62 (.getfield 15) 3 := by decide +kernel
theorem dX3_balancedGroups_65 : vdec mX3_balancedGroups 65 (.iload_n 3) 1 := by decide +kernel
theorem dX3_balancedGroups_66 : vdec mX3_balancedGroups 66 (.iaload) 1 := by decide +kernel
theorem dX3_balancedGroups_67 : vdec mX3_balancedGroups 67 (.ifCond .eq 5) 3 := by decide +kernel
theorem dX3_balancedGroups_70 : vdec mX3_balancedGroups 70 (.iconst 0) 1 := by decide +kernel
theorem dX3_balancedGroups_71 : vdec mX3_balancedGroups 71 (.ireturn) 1 := by decide +kernel
theorem dX3_balancedGroups_72 : vdec mX3_balancedGroups 72 (.iinc 3 1) 3 := by decide +kernel
theorem dX3_balancedGroups_75 : vdec mX3_balancedGroups 75 (.goto (-20)) 3 := by decide +kernel
theorem dX3_balancedGroups_78 : vdec mX3_balancedGroups 78 (.aload_n 0) 1 := by decide +kernel
theorem dX3_balancedGroups_79 : vdec mX3_balancedGroups 79 (.iload_n 2) 1 := by decide +kernel
theorem dX3_balancedGroups_80 : vdec mX3_balancedGroups 80 (.invokevirtual 69) 3 := by decide +kernel
theorem dX3_balancedGroups_83 : vdec mX3_balancedGroups 83 (.iconst 1) 1 := by decide +kernel
theorem dX3_balancedGroups_84 : vdec mX3_balancedGroups 84 (.iadd) 1 := by decide +kernel
theorem dX3_balancedGroups_85 : vdec mX3_balancedGroups 85 (.ireturn) 1 := by decide +kernel
theorem dX3_cutGroup_0 : vdec mX3_cutGroup 0 (.iconst 0) 1 := by decide +kernel
theorem dX3_cutGroup_1 : vdec mX3_cutGroup 1 (.istore_n 3) 1 := by decide +kernel
theorem dX3_cutGroup_2 : vdec mX3_cutGroup 2 (.iload_n 3) 1 := by decide +kernel
theorem dX3_cutGroup_3 : vdec mX3_cutGroup 3 (.bipush 6) 2 := by decide +kernel
theorem dX3_cutGroup_5 : vdec mX3_cutGroup 5 (.if_icmp .ge 102) 3 := by decide +kernel
theorem dX3_cutGroup_8 : vdec mX3_cutGroup 8 (.aload_n 0) 1 := by decide +kernel
theorem dX3_cutGroup_9 : vdec mX3_cutGroup 9 (.aload_n 1) 1 := by decide +kernel
theorem dX3_cutGroup_10 : vdec mX3_cutGroup 10 (.iload_n 2) 1 := by decide +kernel
theorem dX3_cutGroup_11 : vdec mX3_cutGroup 11 (.iconst (-1)) 1 := by decide +kernel
theorem dX3_cutGroup_12 : vdec mX3_cutGroup 12 (.invokevirtual 75) 3 := by decide +kernel
theorem dX3_cutGroup_15 : vdec mX3_cutGroup 15 (.istore 4) 2 := by decide +kernel
theorem dX3_cutGroup_17 : vdec mX3_cutGroup 17 (.aload_n 0) 1 := by decide +kernel
theorem dX3_cutGroup_18 : vdec mX3_cutGroup 18 (.aload_n 1) 1 := by decide +kernel
theorem dX3_cutGroup_19 : vdec mX3_cutGroup 19 (.iload_n 2) 1 := by decide +kernel
theorem dX3_cutGroup_20 : vdec mX3_cutGroup 20 (.iconst 1) 1 := by decide +kernel
theorem dX3_cutGroup_21 : vdec mX3_cutGroup 21 (.invokevirtual 75) 3 := by decide +kernel
theorem dX3_cutGroup_24 : vdec mX3_cutGroup 24 (.istore 5) 2 := by decide +kernel
theorem dX3_cutGroup_26 : vdec mX3_cutGroup 26 (.iload 4) 2 := by decide +kernel
theorem dX3_cutGroup_28 : vdec mX3_cutGroup 28 (.iconst (-1)) 1 := by decide +kernel
theorem dX3_cutGroup_29 : vdec mX3_cutGroup 29 (.if_icmp .eq 9) 3 := by decide +kernel
theorem dX3_cutGroup_32 : vdec mX3_cutGroup 32 (.iload 5) 2 := by decide +kernel
theorem dX3_cutGroup_34 : vdec mX3_cutGroup 34 (.iconst (-1)) 1 := by decide +kernel
theorem dX3_cutGroup_35 : vdec mX3_cutGroup 35 (.if_icmp .ne 4) 3 := by decide +kernel
theorem dX3_cutGroup_38 : vdec mX3_cutGroup 38 (.return_) 1 := by decide +kernel
theorem dX3_cutGroup_39 : vdec mX3_cutGroup 39 (.aload_n 0) 1 := by decide +kernel
theorem dX3_cutGroup_40 : vdec mX3_cutGroup 40 (.getfield 18) 3 := by decide +kernel
theorem dX3_cutGroup_43 : vdec mX3_cutGroup 43 (.iload 4) 2 := by decide +kernel
theorem dX3_cutGroup_45 : vdec mX3_cutGroup 45 (.iaload) 1 := by decide +kernel
theorem dX3_cutGroup_46 : vdec mX3_cutGroup 46 (.ineg) 1 := by decide +kernel
theorem dX3_cutGroup_47 : vdec mX3_cutGroup 47 (.aload_n 0) 1 := by decide +kernel
theorem dX3_cutGroup_48 : vdec mX3_cutGroup 48 (.getfield 18) 3 := by decide +kernel
theorem dX3_cutGroup_51 : vdec mX3_cutGroup 51 (.iload 5) 2 := by decide +kernel
theorem dX3_cutGroup_53 : vdec mX3_cutGroup 53 (.iaload) 1 := by decide +kernel
theorem dX3_cutGroup_54 : vdec mX3_cutGroup 54 (.invokestatic 27) 3 := by decide +kernel
theorem dX3_cutGroup_57 : vdec mX3_cutGroup 57 (.istore 6) 2 := by decide +kernel
theorem dX3_cutGroup_59 : vdec mX3_cutGroup 59 (.aload_n 0) 1 := by decide +kernel
theorem dX3_cutGroup_60 : vdec mX3_cutGroup 60 (.getfield 18) 3 := by decide +kernel
theorem dX3_cutGroup_63 : vdec mX3_cutGroup 63 (.iload 4) 2 := by decide +kernel
theorem dX3_cutGroup_65 : vdec mX3_cutGroup 65 (.dup2) 1 := by decide +kernel
theorem dX3_cutGroup_66 : vdec mX3_cutGroup 66 (.iaload) 1 := by decide +kernel
theorem dX3_cutGroup_67 : vdec mX3_cutGroup 67 (.iload 6) 2 := by decide +kernel
theorem dX3_cutGroup_69 : vdec mX3_cutGroup 69 (.iadd) 1 := by decide +kernel
theorem dX3_cutGroup_70 : vdec mX3_cutGroup 70 (.iastore) 1 := by decide +kernel
theorem dX3_cutGroup_71 : vdec mX3_cutGroup 71 (.aload_n 0) 1 := by decide +kernel
theorem dX3_cutGroup_72 : vdec mX3_cutGroup 72 (.getfield 18) 3 := by decide +kernel
theorem dX3_cutGroup_75 : vdec mX3_cutGroup 75 (.iload 5) 2 := by decide +kernel
theorem dX3_cutGroup_77 : vdec mX3_cutGroup 77 (.dup2) 1 := by decide +kernel
theorem dX3_cutGroup_78 : vdec mX3_cutGroup 78 (.iaload) 1 := by decide +kernel
theorem dX3_cutGroup_79 : vdec mX3_cutGroup 79 (.iload 6) 2 := by decide +kernel
theorem dX3_cutGroup_81 : vdec mX3_cutGroup 81 (.isub) 1 := by decide +kernel
theorem dX3_cutGroup_82 : vdec mX3_cutGroup 82 (.iastore) 1 := by decide +kernel
theorem dX3_cutGroup_83 : vdec mX3_cutGroup 83 (.aload_n 1) 1 := by decide +kernel
theorem dX3_cutGroup_84 : vdec mX3_cutGroup 84 (.aload_n 1) 1 := by decide +kernel
theorem dX3_cutGroup_85 : vdec mX3_cutGroup 85 (.iload 4) 2 := by decide +kernel
theorem dX3_cutGroup_87 : vdec mX3_cutGroup 87 (.invokevirtual 79) 3 := by decide +kernel
theorem dX3_cutGroup_90 : vdec mX3_cutGroup 90 (.aload_n 1) 1 := by decide +kernel
theorem dX3_cutGroup_91 : vdec mX3_cutGroup 91 (.iload 5) 2 := by decide +kernel
theorem dX3_cutGroup_93 : vdec mX3_cutGroup 93 (.invokevirtual 79) 3 := by decide +kernel
theorem dX3_cutGroup_96 : vdec mX3_cutGroup 96 (.iload 6) 2 := by decide +kernel
theorem dX3_cutGroup_98 : vdec mX3_cutGroup 98 (.invokevirtual 82) 3 := by decide +kernel
theorem dX3_cutGroup_101 : vdec mX3_cutGroup 101 (.iinc 3 1) 3 := by decide +kernel
theorem dX3_cutGroup_104 : vdec mX3_cutGroup 104 (.goto (-102)) 3 := by decide +kernel
theorem dX3_cutGroup_107 : vdec mX3_cutGroup 107 (.return_) 1 := by decide +kernel
theorem dX3_firstLeft_0 : vdec mX3_firstLeft 0 (.iconst 0) 1 := by decide +kernel
theorem dX3_firstLeft_1 : vdec mX3_firstLeft 1 (.istore 4) 2 := by decide +kernel
theorem dX3_firstLeft_3 : vdec mX3_firstLeft 3 (.iload 4) 2 := by decide +kernel
theorem dX3_firstLeft_5 : vdec mX3_firstLeft 5 (.bipush 6) 2 := by decide +kernel
theorem dX3_firstLeft_7 : vdec mX3_firstLeft 7 (.if_icmp .ge 34) 3 := by decide +kernel
theorem dX3_firstLeft_10 : vdec mX3_firstLeft 10 (.aload_n 1) 1 := by decide +kernel
theorem dX3_firstLeft_11 : vdec mX3_firstLeft 11 (.iload 4) 2 := by decide +kernel
theorem dX3_firstLeft_13 : vdec mX3_firstLeft 13 (.invokevirtual 86) 3 := by decide +kernel
theorem dX3_firstLeft_16 : vdec mX3_firstLeft 16 (.iload_n 2) 1 := by decide +kernel
theorem dX3_firstLeft_17 : vdec mX3_firstLeft 17 (.if_icmp .ne 18) 3 := by decide +kernel
theorem dX3_firstLeft_20 : vdec mX3_firstLeft 20 (.aload_n 0) 1 := by decide +kernel
theorem dX3_firstLeft_21 : vdec mX3_firstLeft 21 (.getfield 18) 3 := by decide +kernel
theorem dX3_firstLeft_24 : vdec mX3_firstLeft 24 (.iload 4) 2 := by decide +kernel
theorem dX3_firstLeft_26 : vdec mX3_firstLeft 26 (.iaload) 1 := by decide +kernel
theorem dX3_firstLeft_27 : vdec mX3_firstLeft 27 (.iload_n 3) 1 := by decide +kernel
theorem dX3_firstLeft_28 : vdec mX3_firstLeft 28 (.imul) 1 := by decide +kernel
theorem dX3_firstLeft_29 : vdec mX3_firstLeft 29 (.ifCond .le 6) 3 := by decide +kernel
theorem dX3_firstLeft_32 : vdec mX3_firstLeft 32 (.iload 4) 2 := by decide +kernel
theorem dX3_firstLeft_34 : vdec mX3_firstLeft 34 (.ireturn) 1 := by decide +kernel
theorem dX3_firstLeft_35 : vdec mX3_firstLeft 35 (.iinc 4 1) 3 := by decide +kernel
theorem dX3_firstLeft_38 : vdec mX3_firstLeft 38 (.goto (-35)) 3 := by decide +kernel
theorem dX3_firstLeft_41 : vdec mX3_firstLeft 41 (.iconst (-1)) 1 := by decide +kernel
theorem dX3_firstLeft_42 : vdec mX3_firstLeft 42 (.ireturn) 1 := by decide +kernel
end
section
theorem dX4_init_0 : vdec mX4_init 0 (.aload_n 0) 1 := by decide +kernel
theorem dX4_init_1 : vdec mX4_init 1 (.invokespecial 3) 3 := by decide +kernel
theorem dX4_init_4 : vdec mX4_init 4 (.aload_n 0) 1 := by decide +kernel
theorem dX4_init_5 : vdec mX4_init 5 (.iconst 0) 1 := by decide +kernel
theorem dX4_init_6 : vdec mX4_init 6 (.putfield 11) 3 := by decide +kernel
theorem dX4_init_9 : vdec mX4_init 9 (.aload_n 0) 1 := by decide +kernel
theorem dX4_init_10 : vdec mX4_init 10 (.iconst 0) 1 := by decide +kernel
theorem dX4_init_11 : vdec mX4_init 11 (.putfield 15) 3 := by decide +kernel
theorem dX4_init_14 : vdec mX4_init 14 (.aload_n 0) 1 := by decide +kernel
theorem dX4_init_15 : vdec mX4_init 15 (.iconst 0) 1 := by decide +kernel
theorem dX4_init_16 : vdec mX4_init 16 (.putfield 18) 3 := by decide +kernel
theorem dX4_init_19 : vdec mX4_init 19 (.aload_n 0) 1 := by decide +kernel
theorem dX4_init_20 : vdec mX4_init 20 (.iconst 0) 1 := by decide +kernel
theorem dX4_init_21 : vdec mX4_init 21 (.putfield 21) 3 := by decide +kernel
theorem dX4_init_24 : vdec mX4_init 24 (.aload_n 0) 1 := by decide +kernel
theorem dX4_init_25 : vdec mX4_init 25 (.iconst 0) 1 := by decide +kernel
theorem dX4_init_26 : vdec mX4_init 26 (.putfield 24) 3 := by decide +kernel
theorem dX4_init_29 : vdec mX4_init 29 (.aload_n 0) 1 := by decide +kernel
theorem dX4_init_30 : vdec mX4_init 30 (.iconst 0) 1 := by decide +kernel
theorem dX4_init_31 : vdec mX4_init 31 (.putfield 27) 3 := by decide +kernel
theorem dX4_init_34 : vdec mX4_init 34 (.aload_n 0) 1 := by decide +kernel
theorem dX4_init_35 : vdec mX4_init 35 (.iconst 0) 1 := by decide +kernel
theorem dX4_init_36 : vdec mX4_init 36 (.putfield 30) 3 := by decide +kernel
theorem dX4_init_39 : vdec mX4_init 39 (.aload_n 0) 1 := by decide +kernel
theorem dX4_init_40 : vdec mX4_init 40 (.aload_n 1) 1 := by decide +kernel
theorem dX4_init_41 : vdec mX4_init 41 (.putfield 33) 3 := by decide +kernel
theorem dX4_init_44 : vdec mX4_init 44 (.return_) 1 := by decide +kernel
theorem dX4_faultKind_0 : vdec mX4_faultKind 0 (.aload_n 0) 1 := by decide +kernel
theorem dX4_faultKind_1 : vdec mX4_faultKind 1 (.getfield 27) 3 := by decide +kernel
theorem dX4_faultKind_4 : vdec mX4_faultKind 4 (.ireturn) 1 := by decide +kernel
theorem dX4_faultPlace_0 : vdec mX4_faultPlace 0 (.aload_n 0) 1 := by decide +kernel
theorem dX4_faultPlace_1 : vdec mX4_faultPlace 1 (.getfield 30) 3 := by decide +kernel
theorem dX4_faultPlace_4 : vdec mX4_faultPlace 4 (.ireturn) 1 := by decide +kernel
theorem dX4_read_0 : vdec mX4_read 0 (.aload_n 1) 1 := by decide +kernel
theorem dX4_read_1 : vdec mX4_read 1 (.invokevirtual 37) 3 := by decide +kernel
theorem dX4_read_4 : vdec mX4_read 4 (.aload_n 0) 1 := by decide +kernel
theorem dX4_read_5 : vdec mX4_read 5 (.iconst 0) 1 := by decide +kernel
theorem dX4_read_6 : vdec mX4_read 6 (.putfield 27) 3 := by decide +kernel
theorem dX4_read_9 : vdec mX4_read 9 (.aload_n 0) 1 := by decide +kernel
theorem dX4_read_10 : vdec mX4_read 10 (.iconst 0) 1 := by decide +kernel
theorem dX4_read_11 : vdec mX4_read 11 (.putfield 30) 3 := by decide +kernel
theorem dX4_read_14 : vdec mX4_read 14 (.aload_n 0) 1 := by decide +kernel
theorem dX4_read_15 : vdec mX4_read 15 (.iconst 0) 1 := by decide +kernel
theorem dX4_read_16 : vdec mX4_read 16 (.putfield 18) 3 := by decide +kernel
theorem dX4_read_19 : vdec mX4_read 19 (.aload_n 0) 1 := by decide +kernel
theorem dX4_read_20 : vdec mX4_read 20 (.invokevirtual 42) 3 := by decide +kernel
theorem dX4_read_23 : vdec mX4_read 23 (.iconst 0) 1 := by decide +kernel
theorem dX4_read_24 : vdec mX4_read 24 (.istore_n 2) 1 := by decide +kernel
theorem dX4_read_25 : vdec mX4_read 25 (.iload_n 2) 1 := by decide +kernel
theorem dX4_read_26 : vdec mX4_read 26 (.bipush 12) 2 := by decide +kernel
theorem dX4_read_28 : vdec mX4_read 28 (.if_icmp .gt 28) 3 := by decide +kernel
theorem dX4_read_31 : vdec mX4_read 31 (.aload_n 0) 1 := by decide +kernel
theorem dX4_read_32 : vdec mX4_read 32 (.ldc 45) 2 := by decide +kernel
theorem dX4_read_34 : vdec mX4_read 34 (.invokevirtual 47) 3 := by decide +kernel
theorem dX4_read_37 : vdec mX4_read 37 (.ifCond .eq 19) 3 := by decide +kernel
theorem dX4_read_40 : vdec mX4_read 40 (.aload_n 0) 1 := by decide +kernel
theorem dX4_read_41 : vdec mX4_read 41 (.aload_n 1) 1 := by decide +kernel
theorem dX4_read_42 : vdec mX4_read 42 (.invokevirtual 51) 3 := by decide +kernel
theorem dX4_read_45 : vdec mX4_read 45 (.ifCond .ne 5) 3 := by decide +kernel
theorem dX4_read_48 : vdec mX4_read 48 (.iconst 0) 1 := by decide +kernel
theorem dX4_read_49 : vdec mX4_read 49 (.ireturn) 1 := by decide +kernel
theorem dX4_read_50 : vdec mX4_read 50 (.iinc 2 1) 3 := by decide +kernel
theorem dX4_read_53 : vdec mX4_read 53 (.goto (-28)) 3 := by decide +kernel
theorem dX4_read_56 : vdec mX4_read 56 (.iconst 0) 1 := by decide +kernel
theorem dX4_read_57 : vdec mX4_read 57 (.istore_n 2) 1 := by decide +kernel
theorem dX4_read_58 : vdec mX4_read 58 (.iload_n 2) 1 := by decide +kernel
theorem dX4_read_59 : vdec mX4_read 59 (.bipush 12) 2 := by decide +kernel
theorem dX4_read_61 : vdec mX4_read 61 (.if_icmp .gt 28) 3 := by decide +kernel
theorem dX4_read_64 : vdec mX4_read 64 (.aload_n 0) 1 := by decide +kernel
theorem dX4_read_65 : vdec mX4_read 65 (.ldc 55) 2 := by decide +kernel
theorem dX4_read_67 : vdec mX4_read 67 (.invokevirtual 47) 3 := by decide +kernel
theorem dX4_read_70 : vdec mX4_read 70 (.ifCond .eq 19) 3 := by decide +kernel
theorem dX4_read_73 : vdec mX4_read 73 (.aload_n 0) 1 := by decide +kernel
theorem dX4_read_74 : vdec mX4_read 74 (.aload_n 1) 1 := by decide +kernel
theorem dX4_read_75 : vdec mX4_read 75 (.invokevirtual 57) 3 := by decide +kernel
theorem dX4_read_78 : vdec mX4_read 78 (.ifCond .ne 5) 3 := by decide +kernel
theorem dX4_read_81 : vdec mX4_read 81 (.iconst 0) 1 := by decide +kernel
theorem dX4_read_82 : vdec mX4_read 82 (.ireturn) 1 := by decide +kernel
theorem dX4_read_83 : vdec mX4_read 83 (.iinc 2 1) 3 := by decide +kernel
theorem dX4_read_86 : vdec mX4_read 86 (.goto (-28)) 3 := by decide +kernel
theorem dX4_read_89 : vdec mX4_read 89 (.aload_n 0) 1 := by decide +kernel
theorem dX4_read_90 : vdec mX4_read 90 (.getfield 11) 3 := by decide +kernel
theorem dX4_read_93 : vdec mX4_read 93 (.ifCond .ne 16) 3 := by decide +kernel
theorem dX4_read_96 : vdec mX4_read 96 (.aload_n 0) 1 := by decide +kernel
theorem dX4_read_97 : vdec mX4_read 97 (.getfield 33) 3 := by decide +kernel
theorem dX4_read_100 : vdec mX4_read 100 (.invokevirtual 60) 3 := by decide +kernel
theorem dX4_read_103 : vdec mX4_read 103 (.sipush 600) 3 := by decide +kernel
theorem dX4_read_106 : vdec mX4_read 106 (.if_icmp .le 11) 3 := by decide +kernel
theorem dX4_read_109 : vdec mX4_read 109 (.aload_n 0) 1 := by decide +kernel
theorem dX4_read_110 : vdec mX4_read 110 (.iconst 1) 1 := by decide +kernel
theorem dX4_read_111 : vdec mX4_read 111 (.invokevirtual 66) 3 := by decide +kernel
theorem dX4_read_114 : vdec mX4_read 114 (.ifCond .eq 7) 3 := by decide +kernel
theorem dX4_read_117 : vdec mX4_read 117 (.iconst 1) 1 := by decide +kernel
theorem dX4_read_118 : vdec mX4_read 118 (.goto 4) 3 := by decide +kernel
theorem dX4_read_121 : vdec mX4_read 121 (.iconst 0) 1 := by decide +kernel
theorem dX4_read_122 : vdec mX4_read 122 (.ireturn) 1 := by decide +kernel
theorem dX4_readAccount_0 : vdec mX4_readAccount 0 (.aload_n 1) 1 := by decide +kernel
theorem dX4_readAccount_1 : vdec mX4_readAccount 1 (.invokevirtual 70) 3 := by decide +kernel
theorem dX4_readAccount_4 : vdec mX4_readAccount 4 (.bipush 12) 2 := by decide +kernel
theorem dX4_readAccount_6 : vdec mX4_readAccount 6 (.if_icmp .lt 9) 3 := by decide +kernel
theorem dX4_readAccount_9 : vdec mX4_readAccount 9 (.aload_n 0) 1 := by decide +kernel
theorem dX4_readAccount_10 : vdec mX4_readAccount 10 (.iconst 3) 1 := by decide +kernel
theorem dX4_readAccount_11 : vdec mX4_readAccount 11 (.invokevirtual 66) 3 := by decide +kernel
theorem dX4_readAccount_14 : vdec mX4_readAccount 14 (.ireturn) 1 := by decide +kernel
theorem dX4_readAccount_15 : vdec mX4_readAccount 15 (.aload_n 0) 1 := by decide +kernel
theorem dX4_readAccount_16 : vdec mX4_readAccount 16 (.invokevirtual 42) 3 := by decide +kernel
theorem dX4_readAccount_19 : vdec mX4_readAccount 19 (.aload_n 0) 1 := by decide +kernel
theorem dX4_readAccount_20 : vdec mX4_readAccount 20 (.invokevirtual 73) 3 := by decide +kernel
theorem dX4_readAccount_23 : vdec mX4_readAccount 23 (.istore_n 2) 1 := by decide +kernel
theorem dX4_readAccount_24 : vdec mX4_readAccount 24 (.iload_n 2) 1 := by decide +kernel
theorem dX4_readAccount_25 : vdec mX4_readAccount 25 (.iconst (-1)) 1 := by decide +kernel
theorem dX4_readAccount_26 : vdec mX4_readAccount 26 (.if_icmp .ne 9) 3 := by decide +kernel
theorem dX4_readAccount_29 : vdec mX4_readAccount 29 (.aload_n 0) 1 := by decide +kernel
theorem dX4_readAccount_30 : vdec mX4_readAccount 30 (.iconst 1) 1 := by decide +kernel
theorem dX4_readAccount_31 : vdec mX4_readAccount 31 (.invokevirtual 66) 3 := by decide +kernel
theorem dX4_readAccount_34 : vdec mX4_readAccount 34 (.ireturn) 1 := by decide +kernel
theorem dX4_readAccount_35 : vdec mX4_readAccount 35 (.aload_n 0) 1 := by decide +kernel
theorem dX4_readAccount_36 : vdec mX4_readAccount 36 (.invokevirtual 42) 3 := by decide +kernel
theorem dX4_readAccount_39 : vdec mX4_readAccount 39 (.aload_n 0) 1 := by decide +kernel
theorem dX4_readAccount_40 : vdec mX4_readAccount 40 (.iconst 0) 1 := by decide +kernel
theorem dX4_readAccount_41 : vdec mX4_readAccount 41 (.invokevirtual 76) 3 := by decide +kernel
theorem dX4_readAccount_44 : vdec mX4_readAccount 44 (.ifCond .ne 5) 3 := by decide +kernel
theorem dX4_readAccount_47 : vdec mX4_readAccount 47 (.iconst 0) 1 := by decide +kernel
theorem dX4_readAccount_48 : vdec mX4_readAccount 48 (.ireturn) 1 := by decide +kernel
theorem dX4_readAccount_49 : vdec mX4_readAccount 49 (.aload_n 0) 1 := by decide +kernel
theorem dX4_readAccount_50 : vdec mX4_readAccount 50 (.getfield 11) 3 := by decide +kernel
theorem dX4_readAccount_53 : vdec mX4_readAccount 53 (.iconst 4) 1 := by decide +kernel
theorem dX4_readAccount_54 : vdec mX4_readAccount 54 (.if_icmp .eq 9) 3 := by decide +kernel
theorem dX4_readAccount_57 : vdec mX4_readAccount 57 (.aload_n 0) 1 := by decide +kernel
theorem dX4_readAccount_58 : vdec mX4_readAccount 58 (.iconst 1) 1 := by decide +kernel
theorem dX4_readAccount_59 : vdec mX4_readAccount 59 (.invokevirtual 66) 3 := by decide +kernel
theorem dX4_readAccount_62 : vdec mX4_readAccount 62 (.ireturn) 1 := by decide +kernel
theorem dX4_readAccount_63 : vdec mX4_readAccount 63 (.aload_n 1) 1 := by decide +kernel
theorem dX4_readAccount_64 : vdec mX4_readAccount 64 (.iload_n 2) 1 := by decide +kernel
theorem dX4_readAccount_65 : vdec mX4_readAccount 65 (.aload_n 0) 1 := by decide +kernel
theorem dX4_readAccount_66 : vdec mX4_readAccount 66 (.getfield 24) 3 := by decide +kernel
theorem dX4_readAccount_69 : vdec mX4_readAccount 69 (.invokevirtual 79) 3 := by decide +kernel
theorem dX4_readAccount_72 : vdec mX4_readAccount 72 (.aload_n 0) 1 := by decide +kernel
theorem dX4_readAccount_73 : vdec mX4_readAccount 73 (.invokevirtual 42) 3 := by decide +kernel
theorem dX4_readAccount_76 : vdec mX4_readAccount 76 (.iconst 1) 1 := by decide +kernel
theorem dX4_readAccount_77 : vdec mX4_readAccount 77 (.ireturn) 1 := by decide +kernel
theorem dX4_readJournal_0 : vdec mX4_readJournal 0 (.aload_n 1) 1 := by decide +kernel
theorem dX4_readJournal_1 : vdec mX4_readJournal 1 (.invokevirtual 83) 3 := by decide +kernel
theorem dX4_readJournal_4 : vdec mX4_readJournal 4 (.bipush 12) 2 := by decide +kernel
theorem dX4_readJournal_6 : vdec mX4_readJournal 6 (.if_icmp .lt 9) 3 := by decide +kernel
theorem dX4_readJournal_9 : vdec mX4_readJournal 9 (.aload_n 0) 1 := by decide +kernel
theorem dX4_readJournal_10 : vdec mX4_readJournal 10 (.iconst 3) 1 := by decide +kernel
theorem dX4_readJournal_11 : vdec mX4_readJournal 11 (.invokevirtual 66) 3 := by decide +kernel
theorem dX4_readJournal_14 : vdec mX4_readJournal 14 (.ireturn) 1 := by decide +kernel
theorem dX4_readJournal_15 : vdec mX4_readJournal 15 (.aload_n 0) 1 := by decide +kernel
theorem dX4_readJournal_16 : vdec mX4_readJournal 16 (.invokevirtual 42) 3 := by decide +kernel
theorem dX4_readJournal_19 : vdec mX4_readJournal 19 (.aload_n 0) 1 := by decide +kernel
theorem dX4_readJournal_20 : vdec mX4_readJournal 20 (.bipush 20) 2 := by decide +kernel
theorem dX4_readJournal_22 : vdec mX4_readJournal 22 (.invokevirtual 86) 3 := by decide +kernel
theorem dX4_readJournal_25 : vdec mX4_readJournal 25 (.ifCond .ne 5) 3 := by decide +kernel
theorem dX4_readJournal_28 : vdec mX4_readJournal 28 (.iconst 0) 1 := by decide +kernel
theorem dX4_readJournal_29 : vdec mX4_readJournal 29 (.ireturn) 1 := by decide +kernel
theorem dX4_readJournal_30 : vdec mX4_readJournal 30 (.aload_n 1) 1 := by decide +kernel
theorem dX4_readJournal_31 : vdec mX4_readJournal 31 (.aload_n 0) 1 := by decide +kernel
theorem dX4_readJournal_32 : vdec mX4_readJournal 32 (.getfield 21) 3 := by decide +kernel
theorem dX4_readJournal_35 : vdec mX4_readJournal 35 (.invokevirtual 89) 3 := by decide +kernel
theorem dX4_readJournal_38 : vdec mX4_readJournal 38 (.astore_n 2) 1 := by decide +kernel
theorem dX4_readJournal_39 : vdec mX4_readJournal 39 (.aload_n 2) 1 := by decide +kernel
theorem dX4_readJournal_40 : vdec mX4_readJournal 40 (.ifnonnull 9) 3 := by decide +kernel
theorem dX4_readJournal_43 : vdec mX4_readJournal 43 (.aload_n 0) 1 := by decide +kernel
theorem dX4_readJournal_44 : vdec mX4_readJournal 44 (.iconst 3) 1 := by decide +kernel
theorem dX4_readJournal_45 : vdec mX4_readJournal 45 (.invokevirtual 66) 3 := by decide +kernel
theorem dX4_readJournal_48 : vdec mX4_readJournal 48 (.ireturn) 1 := by decide +kernel
theorem dX4_readJournal_49 : vdec mX4_readJournal 49 (.aload_n 0) 1 := by decide +kernel
theorem dX4_readJournal_50 : vdec mX4_readJournal 50 (.invokevirtual 42) 3 := by decide +kernel
theorem dX4_readJournal_53 : vdec mX4_readJournal 53 (.iconst 0) 1 := by decide +kernel
theorem dX4_readJournal_54 : vdec mX4_readJournal 54 (.istore_n 3) 1 := by decide +kernel
theorem dX4_readJournal_55 : vdec mX4_readJournal 55 (.iload_n 3) 1 := by decide +kernel
theorem dX4_readJournal_56 : vdec mX4_readJournal 56 (.bipush 6) 2 := by decide +kernel
theorem dX4_readJournal_58 : vdec mX4_readJournal 58 (.if_icmp .ge 36) 3 := by decide +kernel
theorem dX4_readJournal_61 : vdec mX4_readJournal 61 (.iload_n 3) 1 := by decide +kernel
theorem dX4_readJournal_62 : vdec mX4_readJournal 62 (.iconst 2) 1 := by decide +kernel
theorem dX4_readJournal_63 : vdec mX4_readJournal 63 (.if_icmp .lt 11) 3 := by decide +kernel
theorem dX4_readJournal_66 : vdec mX4_readJournal 66 (.aload_n 0) 1 := by decide +kernel
theorem dX4_readJournal_67 : vdec mX4_readJournal 67 (.getfield 11) 3 := by decide +kernel
theorem dX4_readJournal_70 : vdec mX4_readJournal 70 (.iconst 4) 1 := by decide +kernel
theorem dX4_readJournal_71 : vdec mX4_readJournal 71 (.if_icmp .eq 23) 3 := by decide +kernel
theorem dX4_readJournal_74 : vdec mX4_readJournal 74 (.aload_n 0) 1 := by decide +kernel
theorem dX4_readJournal_75 : vdec mX4_readJournal 75 (.aload_n 2) 1 := by decide +kernel
theorem dX4_readJournal_76 : vdec mX4_readJournal 76 (.aload_n 1) 1 := by decide +kernel
theorem dX4_readJournal_77 : vdec mX4_readJournal 77 (.invokevirtual 70) 3 := by decide +kernel
theorem dX4_readJournal_80 : vdec mX4_readJournal 80 (.invokevirtual 93) 3 := by decide +kernel
theorem dX4_readJournal_83 : vdec mX4_readJournal 83 (.ifCond .ne 5) 3 := by decide +kernel
theorem dX4_readJournal_86 : vdec mX4_readJournal 86 (.iconst 0) 1 := by decide +kernel
theorem dX4_readJournal_87 : vdec mX4_readJournal 87 (.ireturn) 1 := by decide +kernel
theorem dX4_readJournal_88 : vdec mX4_readJournal 88 (.iinc 3 1) 3 := by decide +kernel
theorem dX4_readJournal_91 : vdec mX4_readJournal 91 (.goto (-36)) 3 := by decide +kernel
theorem dX4_readJournal_94 : vdec mX4_readJournal 94 (.aload_n 0) 1 := by decide +kernel
theorem dX4_readJournal_95 : vdec mX4_readJournal 95 (.getfield 11) 3 := by decide +kernel
theorem dX4_readJournal_98 : vdec mX4_readJournal 98 (.iconst 4) 1 := by decide +kernel
theorem dX4_readJournal_99 : vdec mX4_readJournal 99 (.if_icmp .eq 28) 3 := by decide +kernel
theorem dX4_readJournal_102 : vdec mX4_readJournal 102 (.aload_n 0) 1 := by decide +kernel
theorem dX4_readJournal_103 : vdec mX4_readJournal 103 (.aload_n 1) 1 := by decide +kernel
theorem dX4_readJournal_104 : vdec mX4_readJournal 104 (.invokevirtual 70) 3 := by decide +kernel
theorem dX4_readJournal_107 : vdec mX4_readJournal 107 (.invokevirtual 86) 3 := by decide +kernel
theorem dX4_readJournal_110 : vdec mX4_readJournal 110 (.ifCond .eq 15) 3 := by decide +kernel
theorem dX4_readJournal_113 : vdec mX4_readJournal 113 (.aload_n 0) 1 := by decide +kernel
theorem dX4_readJournal_114 : vdec mX4_readJournal 114 (.iconst 3) 1 := by decide +kernel
theorem dX4_readJournal_115 : vdec mX4_readJournal 115 (.invokevirtual 66) 3 := by decide +kernel
theorem dX4_readJournal_118 : vdec mX4_readJournal 118 (.ifCond .eq 7) 3 := by decide +kernel
theorem dX4_readJournal_121 : vdec mX4_readJournal 121 (.iconst 1) 1 := by decide +kernel
theorem dX4_readJournal_122 : vdec mX4_readJournal 122 (.goto 4) 3 := by decide +kernel
theorem dX4_readJournal_125 : vdec mX4_readJournal 125 (.iconst 0) 1 := by decide +kernel
theorem dX4_readJournal_126 : vdec mX4_readJournal 126 (.ireturn) 1 := by decide +kernel
theorem dX4_readJournal_127 : vdec mX4_readJournal 127 (.aload_n 2) 1 := by decide +kernel
theorem dX4_readJournal_128 : vdec mX4_readJournal 128 (.invokevirtual 97) 3 := by decide +kernel
theorem dX4_readJournal_131 : vdec mX4_readJournal 131 (.ifCond .eq 9) 3 := by decide +kernel
theorem dX4_readJournal_134 : vdec mX4_readJournal 134 (.aload_n 0) 1 := by decide +kernel
theorem dX4_readJournal_135 : vdec mX4_readJournal 135 (.iconst 4) 1 := by decide +kernel
theorem dX4_readJournal_136 : vdec mX4_readJournal 136 (.invokevirtual 66) 3 := by decide +kernel
theorem dX4_readJournal_139 : vdec mX4_readJournal 139 (.ireturn) 1 := by decide +kernel
theorem dX4_readJournal_140 : vdec mX4_readJournal 140 (.aload_n 0) 1 := by decide +kernel
theorem dX4_readJournal_141 : vdec mX4_readJournal 141 (.invokevirtual 42) 3 := by decide +kernel
theorem dX4_readJournal_144 : vdec mX4_readJournal 144 (.iconst 1) 1 := by decide +kernel
theorem dX4_readJournal_145 : vdec mX4_readJournal 145 (.ireturn) 1 := by decide +kernel
theorem dX4_readLine_0 : vdec mX4_readLine 0 (.aload_n 0) 1 := by decide +kernel
theorem dX4_readLine_1 : vdec mX4_readLine 1 (.iload_n 2) 1 := by decide +kernel
theorem dX4_readLine_2 : vdec mX4_readLine 2 (.invokevirtual 86) 3 := by decide +kernel
theorem dX4_readLine_5 : vdec mX4_readLine 5 (.ifCond .ne 5) 3 := by decide +kernel
theorem dX4_readLine_8 : vdec mX4_readLine 8 (.iconst 0) 1 := by decide +kernel
theorem dX4_readLine_9 : vdec mX4_readLine 9 (.ireturn) 1 := by decide +kernel
theorem dX4_readLine_10 : vdec mX4_readLine 10 (.aload_n 0) 1 := by decide +kernel
theorem dX4_readLine_11 : vdec mX4_readLine 11 (.getfield 21) 3 := by decide +kernel
theorem dX4_readLine_14 : vdec mX4_readLine 14 (.istore_n 3) 1 := by decide +kernel
theorem dX4_readLine_15 : vdec mX4_readLine 15 (.aload_n 0) 1 := by decide +kernel
theorem dX4_readLine_16 : vdec mX4_readLine 16 (.invokevirtual 42) 3 := by decide +kernel
theorem dX4_readLine_19 : vdec mX4_readLine 19 (.aload_n 0) 1 := by decide +kernel
theorem dX4_readLine_20 : vdec mX4_readLine 20 (.iconst 1) 1 := by decide +kernel
theorem dX4_readLine_21 : vdec mX4_readLine 21 (.invokevirtual 76) 3 := by decide +kernel
theorem dX4_readLine_24 : vdec mX4_readLine 24 (.ifCond .ne 5) 3 := by decide +kernel
theorem dX4_readLine_27 : vdec mX4_readLine 27 (.iconst 0) 1 := by decide +kernel
theorem dX4_readLine_28 : vdec mX4_readLine 28 (.ireturn) 1 := by decide +kernel
theorem dX4_readLine_29 : vdec mX4_readLine 29 (.aload_n 1) 1 := by decide +kernel
theorem dX4_readLine_30 : vdec mX4_readLine 30 (.iload_n 3) 1 := by decide +kernel
theorem dX4_readLine_31 : vdec mX4_readLine 31 (.aload_n 0) 1 := by decide +kernel
theorem dX4_readLine_32 : vdec mX4_readLine 32 (.getfield 24) 3 := by decide +kernel
theorem dX4_readLine_35 : vdec mX4_readLine 35 (.invokevirtual 102) 3 := by decide +kernel
theorem dX4_readLine_38 : vdec mX4_readLine 38 (.iconst 1) 1 := by decide +kernel
theorem dX4_readLine_39 : vdec mX4_readLine 39 (.ireturn) 1 := by decide +kernel
theorem dX4_readAmount_0 : vdec mX4_readAmount 0 (.aload_n 0) 1 := by decide +kernel
theorem dX4_readAmount_1 : vdec mX4_readAmount 1 (.getfield 11) 3 := by decide +kernel
theorem dX4_readAmount_4 : vdec mX4_readAmount 4 (.iconst 5) 1 := by decide +kernel
theorem dX4_readAmount_5 : vdec mX4_readAmount 5 (.if_icmp .ne 7) 3 := by decide +kernel
theorem dX4_readAmount_8 : vdec mX4_readAmount 8 (.iconst 1) 1 := by decide +kernel
theorem dX4_readAmount_9 : vdec mX4_readAmount 9 (.goto 4) 3 := by decide +kernel
theorem dX4_readAmount_12 : vdec mX4_readAmount 12 (.iconst 0) 1 := by decide +kernel
theorem dX4_readAmount_13 : vdec mX4_readAmount 13 (.istore_n 2) 1 := by decide +kernel
theorem dX4_readAmount_14 : vdec mX4_readAmount 14 (.iload_n 2) 1 := by decide +kernel
theorem dX4_readAmount_15 : vdec mX4_readAmount 15 (.ifCond .eq 7) 3 := by decide +kernel
theorem dX4_readAmount_18 : vdec mX4_readAmount 18 (.aload_n 0) 1 := by decide +kernel
theorem dX4_readAmount_19 : vdec mX4_readAmount 19 (.invokevirtual 42) 3 := by decide +kernel
theorem dX4_readAmount_22 : vdec mX4_readAmount 22 (.aload_n 0) 1 := by decide +kernel
theorem dX4_readAmount_23 : vdec mX4_readAmount 23 (.getfield 11) 3 := by decide +kernel
theorem dX4_readAmount_26 : vdec mX4_readAmount 26 (.iconst 3) 1 := by decide +kernel
theorem dX4_readAmount_27 : vdec mX4_readAmount 27 (.if_icmp .eq 9) 3 := by decide +kernel
theorem dX4_readAmount_30 : vdec mX4_readAmount 30 (.aload_n 0) 1 := by decide +kernel
theorem dX4_readAmount_31 : vdec mX4_readAmount 31 (.iconst 1) 1 := by decide +kernel
theorem dX4_readAmount_32 : vdec mX4_readAmount 32 (.invokevirtual 66) 3 := by decide +kernel
theorem dX4_readAmount_35 : vdec mX4_readAmount 35 (.ireturn) 1 := by decide +kernel
theorem dX4_readAmount_36 : vdec mX4_readAmount 36 (.aload_n 0) 1 := by decide +kernel
theorem dX4_readAmount_37 : vdec mX4_readAmount 37 (.getfield 21) 3 := by decide +kernel
theorem dX4_readAmount_40 : vdec mX4_readAmount 40 (.iload_n 1) 1 := by decide +kernel
theorem dX4_readAmount_41 : vdec mX4_readAmount 41 (.if_icmp .ge 9) 3 := by decide +kernel
theorem dX4_readAmount_44 : vdec mX4_readAmount 44 (.aload_n 0) 1 := by decide +kernel
theorem dX4_readAmount_45 : vdec mX4_readAmount 45 (.iconst 2) 1 := by decide +kernel
theorem dX4_readAmount_46 : vdec mX4_readAmount 46 (.invokevirtual 66) 3 := by decide +kernel
theorem dX4_readAmount_49 : vdec mX4_readAmount 49 (.ireturn) 1 := by decide +kernel
theorem dX4_readAmount_50 : vdec mX4_readAmount 50 (.aload_n 0) 1 := by decide +kernel
theorem dX4_readAmount_51 : vdec mX4_readAmount 51 (.iload_n 2) 1 := by decide +kernel
theorem dX4_readAmount_52 : vdec mX4_readAmount 52 (.ifCond .eq 11) 3 := by decide +kernel
theorem dX4_readAmount_55 : vdec mX4_readAmount 55 (.aload_n 0) 1 := by decide +kernel
theorem dX4_readAmount_56 : vdec mX4_readAmount 56 (.getfield 21) 3 := by decide +kernel
theorem dX4_readAmount_59 : vdec mX4_readAmount 59 (.ineg) 1 := by decide +kernel
theorem dX4_readAmount_60 : vdec mX4_readAmount 60 (.goto 7) 3 := by decide +kernel
theorem dX4_readAmount_63 : vdec mX4_readAmount 63 (.aload_n 0) 1 := by decide +kernel
theorem dX4_readAmount_64 : vdec mX4_readAmount 64 (.getfield 21) 3 := by decide +kernel
theorem dX4_readAmount_67 : vdec mX4_readAmount 67 (.putfield 24) 3 := by decide +kernel
theorem dX4_readAmount_70 : vdec mX4_readAmount 70 (.aload_n 0) 1 := by decide +kernel
theorem dX4_readAmount_71 : vdec mX4_readAmount 71 (.invokevirtual 42) 3 := by decide +kernel
theorem dX4_readAmount_74 : vdec mX4_readAmount 74 (.iconst 1) 1 := by decide +kernel
theorem dX4_readAmount_75 : vdec mX4_readAmount 75 (.ireturn) 1 := by decide +kernel
theorem dX4_isNumberBelow_0 : vdec mX4_isNumberBelow 0 (.aload_n 0) 1 := by decide +kernel
theorem dX4_isNumberBelow_1 : vdec mX4_isNumberBelow 1 (.getfield 11) 3 := by decide +kernel
theorem dX4_isNumberBelow_4 : vdec mX4_isNumberBelow 4 (.iconst 3) 1 := by decide +kernel
theorem dX4_isNumberBelow_5 : vdec mX4_isNumberBelow 5 (.if_icmp .eq 9) 3 := by decide +kernel
theorem dX4_isNumberBelow_8 : vdec mX4_isNumberBelow 8 (.aload_n 0) 1 := by decide +kernel
theorem dX4_isNumberBelow_9 : vdec mX4_isNumberBelow 9 (.iconst 1) 1 := by decide +kernel
theorem dX4_isNumberBelow_10 : vdec mX4_isNumberBelow 10 (.invokevirtual 66) 3 := by decide +kernel
theorem dX4_isNumberBelow_13 : vdec mX4_isNumberBelow 13 (.ireturn) 1 := by decide +kernel
theorem dX4_isNumberBelow_14 : vdec mX4_isNumberBelow 14 (.aload_n 0) 1 := by decide +kernel
theorem dX4_isNumberBelow_15 : vdec mX4_isNumberBelow 15 (.getfield 21) 3 := by decide +kernel
theorem dX4_isNumberBelow_18 : vdec mX4_isNumberBelow 18 (.iload_n 1) 1 := by decide +kernel
theorem dX4_isNumberBelow_19 : vdec mX4_isNumberBelow 19 (.if_icmp .lt 11) 3 := by decide +kernel
theorem dX4_isNumberBelow_22 : vdec mX4_isNumberBelow 22 (.aload_n 0) 1 := by decide +kernel
theorem dX4_isNumberBelow_23 : vdec mX4_isNumberBelow 23 (.iconst 2) 1 := by decide +kernel
theorem dX4_isNumberBelow_24 : vdec mX4_isNumberBelow 24 (.invokevirtual 66) 3 := by decide +kernel
theorem dX4_isNumberBelow_27 : vdec mX4_isNumberBelow 27 (.ifCond .eq 7) 3 := by decide +kernel
theorem dX4_isNumberBelow_30 : vdec mX4_isNumberBelow 30 (.iconst 1) 1 := by decide +kernel
theorem dX4_isNumberBelow_31 : vdec mX4_isNumberBelow 31 (.goto 4) 3 := by decide +kernel
theorem dX4_isNumberBelow_34 : vdec mX4_isNumberBelow 34 (.iconst 0) 1 := by decide +kernel
theorem dX4_isNumberBelow_35 : vdec mX4_isNumberBelow 35 (.ireturn) 1 := by decide +kernel
theorem dX4_refuse_0 : vdec mX4_refuse 0 (.aload_n 0) 1 := by decide +kernel
theorem dX4_refuse_1 : vdec mX4_refuse 1 (.iload_n 1) 1 := by decide +kernel
theorem dX4_refuse_2 : vdec mX4_refuse 2 (.putfield 27) 3 := by decide +kernel
theorem dX4_refuse_5 : vdec mX4_refuse 5 (.aload_n 0) 1 := by decide +kernel
theorem dX4_refuse_6 : vdec mX4_refuse 6 (.aload_n 0) 1 := by decide +kernel
theorem dX4_refuse_7 : vdec mX4_refuse 7 (.getfield 15) 3 := by decide +kernel
theorem dX4_refuse_10 : vdec mX4_refuse 10 (.putfield 30) 3 := by decide +kernel
theorem dX4_refuse_13 : vdec mX4_refuse 13 (.iconst 0) 1 := by decide +kernel
theorem dX4_refuse_14 : vdec mX4_refuse 14 (.ireturn) 1 := by decide +kernel
theorem dX4_kindNamed_0 : vdec mX4_kindNamed 0 (.iconst 0) 1 := by decide +kernel
theorem dX4_kindNamed_1 : vdec mX4_kindNamed 1 (.istore_n 1) 1 := by decide +kernel
theorem dX4_kindNamed_2 : vdec mX4_kindNamed 2 (.iload_n 1) 1 := by decide +kernel
theorem dX4_kindNamed_3 : vdec mX4_kindNamed 3 (.bipush 6) 2 := by decide +kernel
theorem dX4_kindNamed_5 : vdec mX4_kindNamed 5 (.if_icmp .ge 22) 3 := by decide +kernel
theorem dX4_kindNamed_8 : vdec mX4_kindNamed 8 (.aload_n 0) 1 := by decide +kernel
theorem dX4_kindNamed_9 : vdec mX4_kindNamed 9 (.iload_n 1) 1 := by decide +kernel
theorem dX4_kindNamed_10 : vdec mX4_kindNamed 10 (.invokestatic 105) 3 := by decide +kernel
theorem dX4_kindNamed_13 : vdec mX4_kindNamed 13 (.invokevirtual 47) 3 := by decide +kernel
theorem dX4_kindNamed_16 : vdec mX4_kindNamed 16 (.ifCond .eq 5) 3 := by decide +kernel
theorem dX4_kindNamed_19 : vdec mX4_kindNamed 19 (.iload_n 1) 1 := by decide +kernel
theorem dX4_kindNamed_20 : vdec mX4_kindNamed 20 (.ireturn) 1 := by decide +kernel
theorem dX4_kindNamed_21 : vdec mX4_kindNamed 21 (.iinc 1 1) 3 := by decide +kernel
theorem dX4_kindNamed_24 : vdec mX4_kindNamed 24 (.goto (-22)) 3 := by decide +kernel
theorem dX4_kindNamed_27 : vdec mX4_kindNamed 27 (.iconst (-1)) 1 := by decide +kernel
theorem dX4_kindNamed_28 : vdec mX4_kindNamed 28 (.ireturn) 1 := by decide +kernel
theorem dX4_nameOf_0 : vdec mX4_nameOf 0 (.iload_n 0) 1 := by decide +kernel
theorem dX4_nameOf_1 : vdec mX4_nameOf 1 (.tableswitch 50 0 4 #[35, 38, 41, 44, 47]) 35 := by decide +kernel
theorem dX4_nameOf_36 : vdec mX4_nameOf 36 (.ldc 109) 2 := by decide +kernel
theorem dX4_nameOf_38 : vdec mX4_nameOf 38 (.areturn) 1 := by decide +kernel
theorem dX4_nameOf_39 : vdec mX4_nameOf 39 (.ldc 111) 2 := by decide +kernel
theorem dX4_nameOf_41 : vdec mX4_nameOf 41 (.areturn) 1 := by decide +kernel
theorem dX4_nameOf_42 : vdec mX4_nameOf 42 (.ldc 113) 2 := by decide +kernel
theorem dX4_nameOf_44 : vdec mX4_nameOf 44 (.areturn) 1 := by decide +kernel
theorem dX4_nameOf_45 : vdec mX4_nameOf 45 (.ldc 115) 2 := by decide +kernel
theorem dX4_nameOf_47 : vdec mX4_nameOf 47 (.areturn) 1 := by decide +kernel
theorem dX4_nameOf_48 : vdec mX4_nameOf 48 (.ldc 117) 2 := by decide +kernel
theorem dX4_nameOf_50 : vdec mX4_nameOf 50 (.areturn) 1 := by decide +kernel
theorem dX4_nameOf_51 : vdec mX4_nameOf 51 (.ldc 119) 2 := by decide +kernel
theorem dX4_nameOf_53 : vdec mX4_nameOf 53 (.areturn) 1 := by decide +kernel
theorem dX4_isWord_0 : vdec mX4_isWord 0 (.aload_n 0) 1 := by decide +kernel
theorem dX4_isWord_1 : vdec mX4_isWord 1 (.getfield 11) 3 := by decide +kernel
theorem dX4_isWord_4 : vdec mX4_isWord 4 (.iconst 2) 1 := by decide +kernel
theorem dX4_isWord_5 : vdec mX4_isWord 5 (.if_icmp .ne 19) 3 := by decide +kernel
theorem dX4_isWord_8 : vdec mX4_isWord 8 (.aload_n 0) 1 := by decide +kernel
theorem dX4_isWord_9 : vdec mX4_isWord 9 (.getfield 18) 3 := by decide +kernel
theorem dX4_isWord_12 : vdec mX4_isWord 12 (.aload_n 0) 1 := by decide +kernel
theorem dX4_isWord_13 : vdec mX4_isWord 13 (.getfield 15) 3 := by decide +kernel
theorem dX4_isWord_16 : vdec mX4_isWord 16 (.isub) 1 := by decide +kernel
theorem dX4_isWord_17 : vdec mX4_isWord 17 (.aload_n 1) 1 := by decide +kernel
theorem dX4_isWord_18 : vdec mX4_isWord 18 (.invokevirtual 121) 3 := by decide +kernel
theorem dX4_isWord_21 : vdec mX4_isWord 21 (.if_icmp .eq 5) 3 := by decide +kernel
theorem dX4_isWord_24 : vdec mX4_isWord 24 (.iconst 0) 1 := by decide +kernel
theorem dX4_isWord_25 : vdec mX4_isWord 25 (.ireturn) 1 := by decide +kernel
theorem dX4_isWord_26 : vdec mX4_isWord 26 (.iconst 0) 1 := by decide +kernel
theorem dX4_isWord_27 : vdec mX4_isWord 27 (.istore_n 2) 1 := by decide +kernel
theorem dX4_isWord_28 : vdec mX4_isWord 28 (.iload_n 2) 1 := by decide +kernel
theorem dX4_isWord_29 : vdec mX4_isWord 29 (.aload_n 1) 1 := by decide +kernel
theorem dX4_isWord_30 : vdec mX4_isWord 30 (.invokevirtual 121) 3 := by decide +kernel
theorem dX4_isWord_33 : vdec mX4_isWord 33 (.if_icmp .ge 32) 3 := by decide +kernel
theorem dX4_isWord_36 : vdec mX4_isWord 36 (.aload_n 0) 1 := by decide +kernel
theorem dX4_isWord_37 : vdec mX4_isWord 37 (.getfield 33) 3 := by decide +kernel
theorem dX4_isWord_40 : vdec mX4_isWord 40 (.aload_n 0) 1 := by decide +kernel
theorem dX4_isWord_41 : vdec mX4_isWord 41 (.getfield 15) 3 := by decide +kernel
theorem dX4_isWord_44 : vdec mX4_isWord 44 (.iload_n 2) 1 := by decide +kernel
theorem dX4_isWord_45 : vdec mX4_isWord 45 (.iadd) 1 := by decide +kernel
theorem dX4_isWord_46 : vdec mX4_isWord 46 (.invokevirtual 126) 3 := by decide +kernel
theorem dX4_isWord_49 : vdec mX4_isWord 49 (.aload_n 1) 1 := by decide +kernel
theorem dX4_isWord_50 : vdec mX4_isWord 50 (.iload_n 2) 1 := by decide +kernel
theorem dX4_isWord_51 : vdec mX4_isWord 51 (.invokevirtual 130) 3 := by decide +kernel
theorem dX4_isWord_54 : vdec mX4_isWord 54 (.if_icmp .eq 5) 3 := by decide +kernel
theorem dX4_isWord_57 : vdec mX4_isWord 57 (.iconst 0) 1 := by decide +kernel
theorem dX4_isWord_58 : vdec mX4_isWord 58 (.ireturn) 1 := by decide +kernel
theorem dX4_isWord_59 : vdec mX4_isWord 59 (.iinc 2 1) 3 := by decide +kernel
theorem dX4_isWord_62 : vdec mX4_isWord 62 (.goto (-34)) 3 := by decide +kernel
theorem dX4_isWord_65 : vdec mX4_isWord 65 (.iconst 1) 1 := by decide +kernel
theorem dX4_isWord_66 : vdec mX4_isWord 66 (.ireturn) 1 := by decide +kernel
theorem dX4_step_0 : vdec mX4_step 0 (.aload_n 0) 1 := by decide +kernel
theorem dX4_step_1 : vdec mX4_step 1 (.getfield 33) 3 := by decide +kernel
theorem dX4_step_4 : vdec mX4_step 4 (.invokevirtual 60) 3 := by decide +kernel
theorem dX4_step_7 : vdec mX4_step 7 (.sipush 600) 3 := by decide +kernel
theorem dX4_step_10 : vdec mX4_step 10 (.invokestatic 134) 3 := by decide +kernel
theorem dX4_step_13 : vdec mX4_step 13 (.istore_n 1) 1 := by decide +kernel
theorem dX4_step_14 : vdec mX4_step 14 (.aload_n 0) 1 := by decide +kernel
theorem dX4_step_15 : vdec mX4_step 15 (.getfield 18) 3 := by decide +kernel
theorem dX4_step_18 : vdec mX4_step 18 (.istore_n 2) 1 := by decide +kernel
theorem dX4_step_19 : vdec mX4_step 19 (.iload_n 2) 1 := by decide +kernel
theorem dX4_step_20 : vdec mX4_step 20 (.iload_n 1) 1 := by decide +kernel
theorem dX4_step_21 : vdec mX4_step 21 (.if_icmp .ge 35) 3 := by decide +kernel
theorem dX4_step_24 : vdec mX4_step 24 (.aload_n 0) 1 := by decide +kernel
theorem dX4_step_25 : vdec mX4_step 25 (.getfield 33) 3 := by decide +kernel
theorem dX4_step_28 : vdec mX4_step 28 (.iload_n 2) 1 := by decide +kernel
theorem dX4_step_29 : vdec mX4_step 29 (.invokevirtual 126) 3 := by decide +kernel
theorem dX4_step_32 : vdec mX4_step 32 (.bipush 32) 2 := by decide +kernel
theorem dX4_step_34 : vdec mX4_step 34 (.if_icmp .eq 16) 3 := by decide +kernel
theorem dX4_step_37 : vdec mX4_step 37 (.aload_n 0) 1 := by decide +kernel
theorem dX4_step_38 : vdec mX4_step 38 (.getfield 33) 3 := by decide +kernel
theorem dX4_step_41 : vdec mX4_step 41 (.iload_n 2) 1 := by decide +kernel
theorem dX4_step_42 : vdec mX4_step 42 (.invokevirtual 126) 3 := by decide +kernel
theorem dX4_step_45 : vdec mX4_step 45 (.bipush 10) 2 := by decide +kernel
theorem dX4_step_47 : vdec mX4_step 47 (.if_icmp .ne 9) 3 := by decide +kernel
theorem dX4_step_50 : vdec mX4_step 50 (.iinc 2 1) 3 := by decide +kernel
theorem dX4_step_53 : vdec mX4_step 53 (.goto (-34)) 3 := by decide +kernel
theorem dX4_step_56 : vdec mX4_step 56 (.aload_n 0) 1 := by decide +kernel
theorem dX4_step_57 : vdec mX4_step 57 (.iload_n 2) 1 := by decide +kernel
theorem dX4_step_58 : vdec mX4_step 58 (.iload_n 1) 1 := by decide +kernel
theorem dX4_step_59 : vdec mX4_step 59 (.invokestatic 134) 3 := by decide +kernel
theorem dX4_step_62 : vdec mX4_step 62 (.putfield 15) 3 := by decide +kernel
theorem dX4_step_65 : vdec mX4_step 65 (.aload_n 0) 1 := by decide +kernel
theorem dX4_step_66 : vdec mX4_step 66 (.iload_n 2) 1 := by decide +kernel
theorem dX4_step_67 : vdec mX4_step 67 (.iconst 1) 1 := by decide +kernel
theorem dX4_step_68 : vdec mX4_step 68 (.iadd) 1 := by decide +kernel
theorem dX4_step_69 : vdec mX4_step 69 (.putfield 18) 3 := by decide +kernel
theorem dX4_step_72 : vdec mX4_step 72 (.aload_n 0) 1 := by decide +kernel
theorem dX4_step_73 : vdec mX4_step 73 (.getfield 33) 3 := by decide +kernel
theorem dX4_step_76 : vdec mX4_step 76 (.aload_n 0) 1 := by decide +kernel
theorem dX4_step_77 : vdec mX4_step 77 (.getfield 15) 3 := by decide +kernel
theorem dX4_step_80 : vdec mX4_step 80 (.invokevirtual 126) 3 := by decide +kernel
theorem dX4_step_83 : vdec mX4_step 83 (.istore_n 3) 1 := by decide +kernel
theorem dX4_step_84 : vdec mX4_step 84 (.iload_n 2) 1 := by decide +kernel
theorem dX4_step_85 : vdec mX4_step 85 (.iload_n 1) 1 := by decide +kernel
theorem dX4_step_86 : vdec mX4_step 86 (.if_icmp .lt 16) 3 := by decide +kernel
theorem dX4_step_89 : vdec mX4_step 89 (.aload_n 0) 1 := by decide +kernel
theorem dX4_step_90 : vdec mX4_step 90 (.iload_n 1) 1 := by decide +kernel
theorem dX4_step_91 : vdec mX4_step 91 (.putfield 18) 3 := by decide +kernel
theorem dX4_step_94 : vdec mX4_step 94 (.aload_n 0) 1 := by decide +kernel
theorem dX4_step_95 : vdec mX4_step 95 (.iconst 0) 1 := by decide +kernel
theorem dX4_step_96 : vdec mX4_step 96 (.putfield 11) 3 := by decide +kernel
theorem dX4_step_99 : vdec mX4_step 99 (.goto 35) 3 := by decide +kernel
theorem dX4_step_102 : vdec mX4_step 102 (.iload_n 3) 1 := by decide +kernel
theorem dX4_step_103 : vdec mX4_step 103 (.bipush 59) 2 := by decide +kernel
theorem dX4_step_105 : vdec mX4_step 105 (.if_icmp .ne 11) 3 := by decide +kernel
theorem dX4_step_108 : vdec mX4_step 108 (.aload_n 0) 1 := by decide +kernel
theorem dX4_step_109 : vdec mX4_step 109 (.iconst 4) 1 := by decide +kernel
theorem dX4_step_110 : vdec mX4_step 110 (.putfield 11) 3 := by decide +kernel
theorem dX4_step_113 : vdec mX4_step 113 (.goto 21) 3 := by decide +kernel
theorem dX4_step_116 : vdec mX4_step 116 (.iload_n 3) 1 := by decide +kernel
theorem dX4_step_117 : vdec mX4_step 117 (.bipush 45) 2 := by decide +kernel
theorem dX4_step_119 : vdec mX4_step 119 (.if_icmp .ne 11) 3 := by decide +kernel
theorem dX4_step_122 : vdec mX4_step 122 (.aload_n 0) 1 := by decide +kernel
theorem dX4_step_123 : vdec mX4_step 123 (.iconst 5) 1 := by decide +kernel
theorem dX4_step_124 : vdec mX4_step 124 (.putfield 11) 3 := by decide +kernel
theorem dX4_step_127 : vdec mX4_step 127 (.goto 7) 3 := by decide +kernel
theorem dX4_step_130 : vdec mX4_step 130 (.aload_n 0) 1 := by decide +kernel
theorem dX4_step_131 : vdec mX4_step 131 (.invokevirtual 140) 3 := by decide +kernel
theorem dX4_step_134 : vdec mX4_step 134 (.return_) 1 := by decide +kernel
theorem dX4_stepOverRun_0 : vdec mX4_stepOverRun 0 (.iconst 0) 1 := by decide +kernel
theorem dX4_stepOverRun_1 : vdec mX4_stepOverRun 1 (.istore_n 1) 1 := by decide +kernel
theorem dX4_stepOverRun_2 : vdec mX4_stepOverRun 2 (.iconst 0) 1 := by decide +kernel
theorem dX4_stepOverRun_3 : vdec mX4_stepOverRun 3 (.istore_n 2) 1 := by decide +kernel
theorem dX4_stepOverRun_4 : vdec mX4_stepOverRun 4 (.aload_n 0) 1 := by decide +kernel
theorem dX4_stepOverRun_5 : vdec mX4_stepOverRun 5 (.iconst 0) 1 := by decide +kernel
theorem dX4_stepOverRun_6 : vdec mX4_stepOverRun 6 (.putfield 21) 3 := by decide +kernel
theorem dX4_stepOverRun_9 : vdec mX4_stepOverRun 9 (.aload_n 0) 1 := by decide +kernel
theorem dX4_stepOverRun_10 : vdec mX4_stepOverRun 10 (.getfield 15) 3 := by decide +kernel
theorem dX4_stepOverRun_13 : vdec mX4_stepOverRun 13 (.istore_n 3) 1 := by decide +kernel
theorem dX4_stepOverRun_14 : vdec mX4_stepOverRun 14 (.iload_n 3) 1 := by decide +kernel
theorem dX4_stepOverRun_15 : vdec mX4_stepOverRun 15 (.aload_n 0) 1 := by decide +kernel
theorem dX4_stepOverRun_16 : vdec mX4_stepOverRun 16 (.getfield 33) 3 := by decide +kernel
theorem dX4_stepOverRun_19 : vdec mX4_stepOverRun 19 (.invokevirtual 60) 3 := by decide +kernel
theorem dX4_stepOverRun_22 : vdec mX4_stepOverRun 22 (.if_icmp .ge 85) 3 := by decide +kernel
theorem dX4_stepOverRun_25 : vdec mX4_stepOverRun 25 (.aload_n 0) 1 := by decide +kernel
theorem dX4_stepOverRun_26 : vdec mX4_stepOverRun 26 (.getfield 33) 3 := by decide +kernel
theorem dX4_stepOverRun_29 : vdec mX4_stepOverRun 29 (.iload_n 3) 1 := by decide +kernel
theorem dX4_stepOverRun_30 : vdec mX4_stepOverRun 30 (.invokevirtual 126) 3 := by decide +kernel
theorem dX4_stepOverRun_33 : vdec mX4_stepOverRun 33 (.istore 4) 2 := by decide +kernel
theorem dX4_stepOverRun_35 : vdec mX4_stepOverRun 35 (.iload 4) 2 := by decide +kernel
theorem dX4_stepOverRun_37 : vdec mX4_stepOverRun 37 (.bipush 97) 2 := by decide +kernel
theorem dX4_stepOverRun_39 : vdec mX4_stepOverRun 39 (.if_icmp .lt 16) 3 := by decide +kernel
theorem dX4_stepOverRun_42 : vdec mX4_stepOverRun 42 (.iload 4) 2 := by decide +kernel
theorem dX4_stepOverRun_44 : vdec mX4_stepOverRun 44 (.bipush 122) 2 := by decide +kernel
theorem dX4_stepOverRun_46 : vdec mX4_stepOverRun 46 (.if_icmp .gt 9) 3 := by decide +kernel
theorem dX4_stepOverRun_49 : vdec mX4_stepOverRun 49 (.iinc 1 1) 3 := by decide +kernel
theorem dX4_stepOverRun_52 : vdec mX4_stepOverRun 52 (.goto 49) 3 := by decide +kernel
theorem dX4_stepOverRun_55 : vdec mX4_stepOverRun 55 (.iload 4) 2 := by decide +kernel
theorem dX4_stepOverRun_57 : vdec mX4_stepOverRun 57 (.bipush 48) 2 := by decide +kernel
theorem dX4_stepOverRun_59 : vdec mX4_stepOverRun 59 (.if_icmp .lt 48) 3 := by decide +kernel
theorem dX4_stepOverRun_62 : vdec mX4_stepOverRun 62 (.iload 4) 2 := by decide +kernel
theorem dX4_stepOverRun_64 : vdec mX4_stepOverRun 64 (.bipush 57) 2 := by decide +kernel
theorem dX4_stepOverRun_66 : vdec mX4_stepOverRun 66 (.if_icmp .gt 41) 3 := by decide +kernel
theorem dX4_stepOverRun_69 : vdec mX4_stepOverRun 69 (.iinc 2 1) 3 := by decide +kernel
theorem dX4_stepOverRun_72 : vdec mX4_stepOverRun 72 (.aload_n 0) 1 := by decide +kernel
theorem dX4_stepOverRun_73 : vdec mX4_stepOverRun 73 (.iload_n 2) 1 := by decide +kernel
theorem dX4_stepOverRun_74 : vdec mX4_stepOverRun 74 (.iconst 5) 1 := by decide +kernel
theorem dX4_stepOverRun_75 : vdec mX4_stepOverRun 75 (.if_icmp .gt 19) 3 := by decide +kernel
theorem dX4_stepOverRun_78 : vdec mX4_stepOverRun 78 (.bipush 10) 2 := by decide +kernel
theorem dX4_stepOverRun_80 : vdec mX4_stepOverRun 80 (.aload_n 0) 1 := by decide +kernel
theorem dX4_stepOverRun_81 : vdec mX4_stepOverRun 81 (.getfield 21) 3 := by decide +kernel
theorem dX4_stepOverRun_84 : vdec mX4_stepOverRun 84 (.imul) 1 := by decide +kernel
theorem dX4_stepOverRun_85 : vdec mX4_stepOverRun 85 (.iload 4) 2 := by decide +kernel
theorem dX4_stepOverRun_87 : vdec mX4_stepOverRun 87 (.iadd) 1 := by decide +kernel
theorem dX4_stepOverRun_88 : vdec mX4_stepOverRun 88 (.bipush 48) 2 := by decide +kernel
theorem dX4_stepOverRun_90 : vdec mX4_stepOverRun 90 (.isub) 1 := by decide +kernel
theorem dX4_stepOverRun_91 : vdec mX4_stepOverRun 91 (.goto 7) 3 := by decide +kernel
theorem dX4_stepOverRun_94 : vdec mX4_stepOverRun 94 (.aload_n 0) 1 := by decide +kernel
theorem dX4_stepOverRun_95 : vdec mX4_stepOverRun 95 (.getfield 21) 3 := by decide +kernel
theorem dX4_stepOverRun_98 : vdec mX4_stepOverRun 98 (.putfield 21) 3 := by decide +kernel
theorem dX4_stepOverRun_101 : vdec mX4_stepOverRun 101 (.iinc 3 1) 3 := by decide +kernel
theorem dX4_stepOverRun_104 : vdec mX4_stepOverRun 104 (.goto (-90)) 3 := by decide +kernel
theorem dX4_stepOverRun_107 : vdec mX4_stepOverRun 107 (.aload_n 0) 1 := by decide +kernel
theorem dX4_stepOverRun_108 : vdec mX4_stepOverRun 108 (.aload_n 0) 1 := by decide +kernel
theorem dX4_stepOverRun_109 : vdec mX4_stepOverRun 109 (.getfield 15) 3 := by decide +kernel
theorem dX4_stepOverRun_112 : vdec mX4_stepOverRun 112 (.iload_n 1) 1 := by decide +kernel
theorem dX4_stepOverRun_113 : vdec mX4_stepOverRun 113 (.iload_n 2) 1 := by decide +kernel
theorem dX4_stepOverRun_114 : vdec mX4_stepOverRun 114 (.iadd) 1 := by decide +kernel
theorem dX4_stepOverRun_115 : vdec mX4_stepOverRun 115 (.iconst 1) 1 := by decide +kernel
theorem dX4_stepOverRun_116 : vdec mX4_stepOverRun 116 (.invokestatic 143) 3 := by decide +kernel
theorem dX4_stepOverRun_119 : vdec mX4_stepOverRun 119 (.iadd) 1 := by decide +kernel
theorem dX4_stepOverRun_120 : vdec mX4_stepOverRun 120 (.putfield 18) 3 := by decide +kernel
theorem dX4_stepOverRun_123 : vdec mX4_stepOverRun 123 (.aload_n 0) 1 := by decide +kernel
theorem dX4_stepOverRun_124 : vdec mX4_stepOverRun 124 (.iconst 1) 1 := by decide +kernel
theorem dX4_stepOverRun_125 : vdec mX4_stepOverRun 125 (.putfield 11) 3 := by decide +kernel
theorem dX4_stepOverRun_128 : vdec mX4_stepOverRun 128 (.iload_n 2) 1 := by decide +kernel
theorem dX4_stepOverRun_129 : vdec mX4_stepOverRun 129 (.ifCond .ne 15) 3 := by decide +kernel
theorem dX4_stepOverRun_132 : vdec mX4_stepOverRun 132 (.iload_n 1) 1 := by decide +kernel
theorem dX4_stepOverRun_133 : vdec mX4_stepOverRun 133 (.ifCond .le 11) 3 := by decide +kernel
theorem dX4_stepOverRun_136 : vdec mX4_stepOverRun 136 (.aload_n 0) 1 := by decide +kernel
theorem dX4_stepOverRun_137 : vdec mX4_stepOverRun 137 (.iconst 2) 1 := by decide +kernel
theorem dX4_stepOverRun_138 : vdec mX4_stepOverRun 138 (.putfield 11) 3 := by decide +kernel
theorem dX4_stepOverRun_141 : vdec mX4_stepOverRun 141 (.goto 21) 3 := by decide +kernel
theorem dX4_stepOverRun_144 : vdec mX4_stepOverRun 144 (.iload_n 1) 1 := by decide +kernel
theorem dX4_stepOverRun_145 : vdec mX4_stepOverRun 145 (.ifCond .ne 17) 3 := by decide +kernel
theorem dX4_stepOverRun_148 : vdec mX4_stepOverRun 148 (.iload_n 2) 1 := by decide +kernel
theorem dX4_stepOverRun_149 : vdec mX4_stepOverRun 149 (.ifCond .le 13) 3 := by decide +kernel
theorem dX4_stepOverRun_152 : vdec mX4_stepOverRun 152 (.iload_n 2) 1 := by decide +kernel
theorem dX4_stepOverRun_153 : vdec mX4_stepOverRun 153 (.iconst 5) 1 := by decide +kernel
theorem dX4_stepOverRun_154 : vdec mX4_stepOverRun 154 (.if_icmp .gt 8) 3 := by decide +kernel
theorem dX4_stepOverRun_157 : vdec mX4_stepOverRun 157 (.aload_n 0) 1 := by decide +kernel
theorem dX4_stepOverRun_158 : vdec mX4_stepOverRun 158 (.iconst 3) 1 := by decide +kernel
theorem dX4_stepOverRun_159 : vdec mX4_stepOverRun 159 (.putfield 11) 3 := by decide +kernel
theorem dX4_stepOverRun_162 : vdec mX4_stepOverRun 162 (.return_) 1 := by decide +kernel
end
section
theorem dX5_init_0 : vdec mX5_init 0 (.aload_n 0) 1 := by decide +kernel
theorem dX5_init_1 : vdec mX5_init 1 (.invokespecial 1) 3 := by decide +kernel
theorem dX5_init_4 : vdec mX5_init 4 (.aload_n 0) 1 := by decide +kernel
theorem dX5_init_5 : vdec mX5_init 5 (.sipush 640) 3 := by decide +kernel
theorem dX5_init_8 : vdec mX5_init 8 (.newarray .byte) 2 := by decide +kernel
theorem dX5_init_10 : vdec mX5_init 10 (.putfield 9) 3 := by decide +kernel
theorem dX5_init_13 : vdec mX5_init 13 (.aload_n 0) 1 := by decide +kernel
theorem dX5_init_14 : vdec mX5_init 14 (.iconst 0) 1 := by decide +kernel
theorem dX5_init_15 : vdec mX5_init 15 (.putfield 13) 3 := by decide +kernel
theorem dX5_init_18 : vdec mX5_init 18 (.return_) 1 := by decide +kernel
theorem dX5_size_0 : vdec mX5_size 0 (.aload_n 0) 1 := by decide +kernel
theorem dX5_size_1 : vdec mX5_size 1 (.getfield 13) 3 := by decide +kernel
theorem dX5_size_4 : vdec mX5_size 4 (.ireturn) 1 := by decide +kernel
theorem dX5_room_0 : vdec mX5_room 0 (.sipush 640) 3 := by decide +kernel
theorem dX5_room_3 : vdec mX5_room 3 (.aload_n 0) 1 := by decide +kernel
theorem dX5_room_4 : vdec mX5_room 4 (.getfield 13) 3 := by decide +kernel
theorem dX5_room_7 : vdec mX5_room 7 (.isub) 1 := by decide +kernel
theorem dX5_room_8 : vdec mX5_room 8 (.ireturn) 1 := by decide +kernel
theorem dX5_signAt_0 : vdec mX5_signAt 0 (.iload_n 1) 1 := by decide +kernel
theorem dX5_signAt_1 : vdec mX5_signAt 1 (.ifCond .lt 20) 3 := by decide +kernel
theorem dX5_signAt_4 : vdec mX5_signAt 4 (.iload_n 1) 1 := by decide +kernel
theorem dX5_signAt_5 : vdec mX5_signAt 5 (.aload_n 0) 1 := by decide +kernel
theorem dX5_signAt_6 : vdec mX5_signAt 6 (.getfield 13) 3 := by decide +kernel
theorem dX5_signAt_9 : vdec mX5_signAt 9 (.if_icmp .ge 12) 3 := by decide +kernel
theorem dX5_signAt_12 : vdec mX5_signAt 12 (.aload_n 0) 1 := by decide +kernel
theorem dX5_signAt_13 : vdec mX5_signAt 13 (.getfield 9) 3 := by decide +kernel
theorem dX5_signAt_16 : vdec mX5_signAt 16 (.iload_n 1) 1 := by decide +kernel
theorem dX5_signAt_17 : vdec mX5_signAt 17 (.baload) 1 := by decide +kernel
theorem dX5_signAt_18 : vdec mX5_signAt 18 (.goto 4) 3 := by decide +kernel
theorem dX5_signAt_21 : vdec mX5_signAt 21 (.iconst 0) 1 := by decide +kernel
theorem dX5_signAt_22 : vdec mX5_signAt 22 (.ireturn) 1 := by decide +kernel
theorem dX5_append_0 : vdec mX5_append 0 (.bipush 24) 2 := by decide +kernel
theorem dX5_append_2 : vdec mX5_append 2 (.istore_n 2) 1 := by decide +kernel
theorem dX5_append_3 : vdec mX5_append 3 (.iload_n 2) 1 := by decide +kernel
theorem dX5_append_4 : vdec mX5_append 4 (.ifCond .lt 42) 3 := by decide +kernel
theorem dX5_append_7 : vdec mX5_append 7 (.aload_n 0) 1 := by decide +kernel
theorem dX5_append_8 : vdec mX5_append 8 (.getfield 13) 3 := by decide +kernel
theorem dX5_append_11 : vdec mX5_append 11 (.sipush 640) 3 := by decide +kernel
theorem dX5_append_14 : vdec mX5_append 14 (.if_icmp .ge 32) 3 := by decide +kernel
theorem dX5_append_17 : vdec mX5_append 17 (.aload_n 0) 1 := by decide +kernel
theorem dX5_append_18 : vdec mX5_append 18 (.getfield 9) 3 := by decide +kernel
theorem dX5_append_21 : vdec mX5_append 21 (.aload_n 0) 1 := by decide +kernel
theorem dX5_append_22 : vdec mX5_append 22 (.getfield 13) 3 := by decide +kernel
theorem dX5_append_25 : vdec mX5_append 25 (.iload_n 1) 1 := by decide +kernel
theorem dX5_append_26 : vdec mX5_append 26 (.iload_n 2) 1 := by decide +kernel
theorem dX5_append_27 : vdec mX5_append 27 (.ishr) 1 := by decide +kernel
theorem dX5_append_28 : vdec mX5_append 28 (.i2b) 1 := by decide +kernel
theorem dX5_append_29 : vdec mX5_append 29 (.bastore) 1 := by decide +kernel
theorem dX5_append_30 : vdec mX5_append 30 (.aload_n 0) 1 := by decide +kernel
theorem dX5_append_31 : vdec mX5_append 31 (.dup) 1 := by decide +kernel
theorem dX5_append_32 : vdec mX5_append 32 (.getfield 13) 3 := by decide +kernel
theorem dX5_append_35 : vdec mX5_append 35 (.iconst 1) 1 := by decide +kernel
theorem dX5_append_36 : vdec mX5_append 36 (.iadd) 1 := by decide +kernel
theorem dX5_append_37 : vdec mX5_append 37 (.putfield 13) 3 := by decide +kernel
theorem dX5_append_40 : vdec mX5_append 40 (.iinc 2 (-8)) 3 := by decide +kernel
theorem dX5_append_43 : vdec mX5_append 43 (.goto (-40)) 3 := by decide +kernel
theorem dX5_append_46 : vdec mX5_append 46 (.return_) 1 := by decide +kernel
theorem dX5_cut_0 : vdec mX5_cut 0 (.iload_n 1) 1 := by decide +kernel
theorem dX5_cut_1 : vdec mX5_cut 1 (.ifCond .lt 11) 3 := by decide +kernel
theorem dX5_cut_4 : vdec mX5_cut 4 (.iload_n 1) 1 := by decide +kernel
theorem dX5_cut_5 : vdec mX5_cut 5 (.aload_n 0) 1 := by decide +kernel
theorem dX5_cut_6 : vdec mX5_cut 6 (.getfield 13) 3 := by decide +kernel
theorem dX5_cut_9 : vdec mX5_cut 9 (.if_icmp .le 5) 3 := by decide +kernel
theorem dX5_cut_12 : vdec mX5_cut 12 (.iconst 0) 1 := by decide +kernel
theorem dX5_cut_13 : vdec mX5_cut 13 (.ireturn) 1 := by decide +kernel
theorem dX5_cut_14 : vdec mX5_cut 14 (.aload_n 0) 1 := by decide +kernel
theorem dX5_cut_15 : vdec mX5_cut 15 (.iload_n 1) 1 := by decide +kernel
theorem dX5_cut_16 : vdec mX5_cut 16 (.putfield 13) 3 := by decide +kernel
theorem dX5_cut_19 : vdec mX5_cut 19 (.iconst 1) 1 := by decide +kernel
theorem dX5_cut_20 : vdec mX5_cut 20 (.ireturn) 1 := by decide +kernel
end
section
theorem dX6_init_0 : vdec mX6_init 0 (.aload_n 0) 1 := by decide +kernel
theorem dX6_init_1 : vdec mX6_init 1 (.invokespecial 3) 3 := by decide +kernel
theorem dX6_init_4 : vdec mX6_init 4 (.aload_n 0) 1 := by decide +kernel
theorem dX6_init_5 : vdec mX6_init 5 (.bipush 30) 2 := by decide +kernel
theorem dX6_init_7 : vdec mX6_init 7 (.newarray .int) 2 := by decide +kernel
theorem dX6_init_9 : vdec mX6_init 9 (.putfield 9) 3 := by decide +kernel
theorem dX6_init_12 : vdec mX6_init 12 (.aload_n 0) 1 := by decide +kernel
theorem dX6_init_13 : vdec mX6_init 13 (.bipush 31) 2 := by decide +kernel
theorem dX6_init_15 : vdec mX6_init 15 (.bipush 12) 2 := by decide +kernel
theorem dX6_init_17 : vdec mX6_init 17 (.multianewarray 15 2) 4 := by decide +kernel
theorem dX6_init_21 : vdec mX6_init 21 (.putfield 17) 3 := by decide +kernel
theorem dX6_init_24 : vdec mX6_init 24 (.aload_n 0) 1 := by decide +kernel
theorem dX6_init_25 : vdec mX6_init 25 (.bipush 12) 2 := by decide +kernel
theorem dX6_init_27 : vdec mX6_init 27 (.newarray .int) 2 := by decide +kernel
theorem dX6_init_29 : vdec mX6_init 29 (.putfield 20) 3 := by decide +kernel
theorem dX6_init_32 : vdec mX6_init 32 (.aload_n 0) 1 := by decide +kernel
theorem dX6_init_33 : vdec mX6_init 33 (.iconst 0) 1 := by decide +kernel
theorem dX6_init_34 : vdec mX6_init 34 (.putfield 23) 3 := by decide +kernel
theorem dX6_init_37 : vdec mX6_init 37 (.aload_n 0) 1 := by decide +kernel
theorem dX6_init_38 : vdec mX6_init 38 (.iconst 0) 1 := by decide +kernel
theorem dX6_init_39 : vdec mX6_init 39 (.putfield 27) 3 := by decide +kernel
theorem dX6_init_42 : vdec mX6_init 42 (.return_) 1 := by decide +kernel
theorem dX6_trace_0 : vdec mX6_trace 0 (.aload_n 0) 1 := by decide +kernel
theorem dX6_trace_1 : vdec mX6_trace 1 (.aload_n 1) 1 := by decide +kernel
theorem dX6_trace_2 : vdec mX6_trace 2 (.invokevirtual 30) 3 := by decide +kernel
theorem dX6_trace_5 : vdec mX6_trace 5 (.aload_n 0) 1 := by decide +kernel
theorem dX6_trace_6 : vdec mX6_trace 6 (.aload_n 1) 1 := by decide +kernel
theorem dX6_trace_7 : vdec mX6_trace 7 (.invokevirtual 34) 3 := by decide +kernel
theorem dX6_trace_10 : vdec mX6_trace 10 (.aload_n 0) 1 := by decide +kernel
theorem dX6_trace_11 : vdec mX6_trace 11 (.bipush 30) 2 := by decide +kernel
theorem dX6_trace_13 : vdec mX6_trace 13 (.bipush 30) 2 := by decide +kernel
theorem dX6_trace_15 : vdec mX6_trace 15 (.bipush 30) 2 := by decide +kernel
theorem dX6_trace_17 : vdec mX6_trace 17 (.invokevirtual 37) 3 := by decide +kernel
theorem dX6_trace_20 : vdec mX6_trace 20 (.ifCond .eq 5) 3 := by decide +kernel
theorem dX6_trace_23 : vdec mX6_trace 23 (.iconst 0) 1 := by decide +kernel
theorem dX6_trace_24 : vdec mX6_trace 24 (.ireturn) 1 := by decide +kernel
theorem dX6_trace_25 : vdec mX6_trace 25 (.aload_n 0) 1 := by decide +kernel
theorem dX6_trace_26 : vdec mX6_trace 26 (.invokevirtual 41) 3 := by decide +kernel
theorem dX6_trace_29 : vdec mX6_trace 29 (.istore_n 2) 1 := by decide +kernel
theorem dX6_trace_30 : vdec mX6_trace 30 (.iload_n 2) 1 := by decide +kernel
theorem dX6_trace_31 : vdec mX6_trace 31 (.iconst (-1)) 1 := by decide +kernel
theorem dX6_trace_32 : vdec mX6_trace 32 (.if_icmp .ne 10) 3 := by decide +kernel
theorem dX6_trace_35 : vdec mX6_trace 35 (.aload_n 0) 1 := by decide +kernel
theorem dX6_trace_36 : vdec mX6_trace 36 (.invokevirtual 45) 3 := by decide +kernel
theorem dX6_trace_39 : vdec mX6_trace 39 (.goto 4) 3 := by decide +kernel
theorem dX6_trace_42 : vdec mX6_trace 42 (.iload_n 2) 1 := by decide +kernel
theorem dX6_trace_43 : vdec mX6_trace 43 (.istore_n 2) 1 := by decide +kernel
theorem dX6_trace_44 : vdec mX6_trace 44 (.iload_n 2) 1 := by decide +kernel
theorem dX6_trace_45 : vdec mX6_trace 45 (.iconst (-1)) 1 := by decide +kernel
theorem dX6_trace_46 : vdec mX6_trace 46 (.if_icmp .ne 10) 3 := by decide +kernel
theorem dX6_trace_49 : vdec mX6_trace 49 (.aload_n 0) 1 := by decide +kernel
theorem dX6_trace_50 : vdec mX6_trace 50 (.invokevirtual 48) 3 := by decide +kernel
theorem dX6_trace_53 : vdec mX6_trace 53 (.goto 4) 3 := by decide +kernel
theorem dX6_trace_56 : vdec mX6_trace 56 (.iload_n 2) 1 := by decide +kernel
theorem dX6_trace_57 : vdec mX6_trace 57 (.ireturn) 1 := by decide +kernel
theorem dX6_gatherJournals_0 : vdec mX6_gatherJournals 0 (.aload_n 0) 1 := by decide +kernel
theorem dX6_gatherJournals_1 : vdec mX6_gatherJournals 1 (.iconst 0) 1 := by decide +kernel
theorem dX6_gatherJournals_2 : vdec mX6_gatherJournals 2 (.putfield 23) 3 := by decide +kernel
theorem dX6_gatherJournals_5 : vdec mX6_gatherJournals 5 (.iconst 0) 1 := by decide +kernel
theorem dX6_gatherJournals_6 : vdec mX6_gatherJournals 6 (.istore_n 2) 1 := by decide +kernel
theorem dX6_gatherJournals_7 : vdec mX6_gatherJournals 7 (.iload_n 2) 1 := by decide +kernel
theorem dX6_gatherJournals_8 : vdec mX6_gatherJournals 8 (.bipush 30) 2 := by decide +kernel
theorem dX6_gatherJournals_10 : vdec mX6_gatherJournals 10 (.if_icmp .ge 40) 3 := by decide +kernel
theorem dX6_gatherJournals_13 : vdec mX6_gatherJournals 13 (.aload_n 1) 1 := by decide +kernel
theorem dX6_gatherJournals_14 : vdec mX6_gatherJournals 14 (.iload_n 2) 1 := by decide +kernel
theorem dX6_gatherJournals_15 : vdec mX6_gatherJournals 15 (.iconst 0) 1 := by decide +kernel
theorem dX6_gatherJournals_16 : vdec mX6_gatherJournals 16 (.bipush 19) 2 := by decide +kernel
theorem dX6_gatherJournals_18 : vdec mX6_gatherJournals 18 (.invokevirtual 51) 3 := by decide +kernel
theorem dX6_gatherJournals_21 : vdec mX6_gatherJournals 21 (.ifnull 23) 3 := by decide +kernel
theorem dX6_gatherJournals_24 : vdec mX6_gatherJournals 24 (.aload_n 0) 1 := by decide +kernel
theorem dX6_gatherJournals_25 : vdec mX6_gatherJournals 25 (.getfield 9) 3 := by decide +kernel
theorem dX6_gatherJournals_28 : vdec mX6_gatherJournals 28 (.aload_n 0) 1 := by decide +kernel
theorem dX6_gatherJournals_29 : vdec mX6_gatherJournals 29 (.getfield 23) 3 := by decide +kernel
theorem dX6_gatherJournals_32 : vdec mX6_gatherJournals 32 (.iload_n 2) 1 := by decide +kernel
theorem dX6_gatherJournals_33 : vdec mX6_gatherJournals 33 (.iastore) 1 := by decide +kernel
theorem dX6_gatherJournals_34 : vdec mX6_gatherJournals 34 (.aload_n 0) 1 := by decide +kernel
theorem dX6_gatherJournals_35 : vdec mX6_gatherJournals 35 (.dup) 1 := by decide +kernel
theorem dX6_gatherJournals_36 : vdec mX6_gatherJournals 36 (.getfield 23) 3 := by decide +kernel
theorem dX6_gatherJournals_39 : vdec mX6_gatherJournals 39 (.iconst 1) 1 := by decide +kernel
theorem dX6_gatherJournals_40 : vdec mX6_gatherJournals 40 (.iadd) 1 := by decide +kernel
theorem dX6_gatherJournals_41 : vdec mX6_gatherJournals 41 (.putfield 23) 3 := by decide +kernel
theorem dX6_gatherJournals_44 : vdec mX6_gatherJournals 44 (.iinc 2 1) 3 := by decide +kernel
theorem dX6_gatherJournals_47 : vdec mX6_gatherJournals 47 (.goto (-40)) 3 := by decide +kernel
theorem dX6_gatherJournals_50 : vdec mX6_gatherJournals 50 (.return_) 1 := by decide +kernel
theorem dX6_gatherAccounts_0 : vdec mX6_gatherAccounts 0 (.aload_n 0) 1 := by decide +kernel
theorem dX6_gatherAccounts_1 : vdec mX6_gatherAccounts 1 (.iconst 0) 1 := by decide +kernel
theorem dX6_gatherAccounts_2 : vdec mX6_gatherAccounts 2 (.putfield 27) 3 := by decide +kernel
theorem dX6_gatherAccounts_5 : vdec mX6_gatherAccounts 5 (.iconst 0) 1 := by decide +kernel
theorem dX6_gatherAccounts_6 : vdec mX6_gatherAccounts 6 (.istore_n 2) 1 := by decide +kernel
theorem dX6_gatherAccounts_7 : vdec mX6_gatherAccounts 7 (.iload_n 2) 1 := by decide +kernel
theorem dX6_gatherAccounts_8 : vdec mX6_gatherAccounts 8 (.bipush 12) 2 := by decide +kernel
theorem dX6_gatherAccounts_10 : vdec mX6_gatherAccounts 10 (.if_icmp .ge 48) 3 := by decide +kernel
theorem dX6_gatherAccounts_13 : vdec mX6_gatherAccounts 13 (.aload_n 1) 1 := by decide +kernel
theorem dX6_gatherAccounts_14 : vdec mX6_gatherAccounts 14 (.iload_n 2) 1 := by decide +kernel
theorem dX6_gatherAccounts_15 : vdec mX6_gatherAccounts 15 (.invokevirtual 57) 3 := by decide +kernel
theorem dX6_gatherAccounts_18 : vdec mX6_gatherAccounts 18 (.ifCond .eq 34) 3 := by decide +kernel
theorem dX6_gatherAccounts_21 : vdec mX6_gatherAccounts 21 (.aload_n 0) 1 := by decide +kernel
theorem dX6_gatherAccounts_22 : vdec mX6_gatherAccounts 22 (.getfield 20) 3 := by decide +kernel
theorem dX6_gatherAccounts_25 : vdec mX6_gatherAccounts 25 (.aload_n 0) 1 := by decide +kernel
theorem dX6_gatherAccounts_26 : vdec mX6_gatherAccounts 26 (.getfield 27) 3 := by decide +kernel
theorem dX6_gatherAccounts_29 : vdec mX6_gatherAccounts 29 (.aload_n 1) 1 := by decide +kernel
theorem dX6_gatherAccounts_30 : vdec mX6_gatherAccounts 30 (.iload_n 2) 1 := by decide +kernel
theorem dX6_gatherAccounts_31 : vdec mX6_gatherAccounts 31 (.invokevirtual 61) 3 := by decide +kernel
theorem dX6_gatherAccounts_34 : vdec mX6_gatherAccounts 34 (.ineg) 1 := by decide +kernel
theorem dX6_gatherAccounts_35 : vdec mX6_gatherAccounts 35 (.iastore) 1 := by decide +kernel
theorem dX6_gatherAccounts_36 : vdec mX6_gatherAccounts 36 (.aload_n 0) 1 := by decide +kernel
theorem dX6_gatherAccounts_37 : vdec mX6_gatherAccounts 37 (.aload_n 1) 1 := by decide +kernel
theorem dX6_gatherAccounts_38 : vdec mX6_gatherAccounts 38 (.iload_n 2) 1 := by decide +kernel
theorem dX6_gatherAccounts_39 : vdec mX6_gatherAccounts 39 (.invokevirtual 65) 3 := by decide +kernel
theorem dX6_gatherAccounts_42 : vdec mX6_gatherAccounts 42 (.aload_n 0) 1 := by decide +kernel
theorem dX6_gatherAccounts_43 : vdec mX6_gatherAccounts 43 (.dup) 1 := by decide +kernel
theorem dX6_gatherAccounts_44 : vdec mX6_gatherAccounts 44 (.getfield 27) 3 := by decide +kernel
theorem dX6_gatherAccounts_47 : vdec mX6_gatherAccounts 47 (.iconst 1) 1 := by decide +kernel
theorem dX6_gatherAccounts_48 : vdec mX6_gatherAccounts 48 (.iadd) 1 := by decide +kernel
theorem dX6_gatherAccounts_49 : vdec mX6_gatherAccounts 49 (.putfield 27) 3 := by decide +kernel
theorem dX6_gatherAccounts_52 : vdec mX6_gatherAccounts 52 (.iinc 2 1) 3 := by decide +kernel
theorem dX6_gatherAccounts_55 : vdec mX6_gatherAccounts 55 (.goto (-48)) 3 := by decide +kernel
theorem dX6_gatherAccounts_58 : vdec mX6_gatherAccounts 58 (.return_) 1 := by decide +kernel
theorem dX6_gatherShares_0 : vdec mX6_gatherShares 0 (.iconst 0) 1 := by decide +kernel
theorem dX6_gatherShares_1 : vdec mX6_gatherShares 1 (.istore_n 3) 1 := by decide +kernel
theorem dX6_gatherShares_2 : vdec mX6_gatherShares 2 (.iload_n 3) 1 := by decide +kernel
theorem dX6_gatherShares_3 : vdec mX6_gatherShares 3 (.aload_n 0) 1 := by decide +kernel
theorem dX6_gatherShares_4 : vdec mX6_gatherShares 4 (.getfield 23) 3 := by decide +kernel
theorem dX6_gatherShares_7 : vdec mX6_gatherShares 7 (.if_icmp .ge 47) 3 := by decide +kernel
theorem dX6_gatherShares_10 : vdec mX6_gatherShares 10 (.aload_n 1) 1 := by decide +kernel
theorem dX6_gatherShares_11 : vdec mX6_gatherShares 11 (.aload_n 0) 1 := by decide +kernel
theorem dX6_gatherShares_12 : vdec mX6_gatherShares 12 (.getfield 9) 3 := by decide +kernel
theorem dX6_gatherShares_15 : vdec mX6_gatherShares 15 (.iload_n 3) 1 := by decide +kernel
theorem dX6_gatherShares_16 : vdec mX6_gatherShares 16 (.iaload) 1 := by decide +kernel
theorem dX6_gatherShares_17 : vdec mX6_gatherShares 17 (.invokevirtual 69) 3 := by decide +kernel
theorem dX6_gatherShares_20 : vdec mX6_gatherShares 20 (.astore 4) 2 := by decide +kernel
theorem dX6_gatherShares_22 : vdec mX6_gatherShares 22 (.aload_n 0) 1 := by decide +kernel
theorem dX6_gatherShares_23 : vdec mX6_gatherShares 23 (.getfield 17) 3 := by decide +kernel
theorem dX6_gatherShares_26 : vdec mX6_gatherShares 26 (.iload_n 3) 1 := by decide +kernel
theorem dX6_gatherShares_27 : vdec mX6_gatherShares 27 (.aaload) 1 := by decide +kernel
theorem dX6_gatherShares_28 : vdec mX6_gatherShares 28 (.aload_n 0) 1 := by decide +kernel
theorem dX6_gatherShares_29 : vdec mX6_gatherShares 29 (.getfield 27) 3 := by decide +kernel
theorem dX6_gatherShares_32 : vdec mX6_gatherShares 32 (.aload 4) 2 := by decide +kernel
theorem dX6_gatherShares_34 : vdec mX6_gatherShares 34 (.ifnonnull 7) 3 := by decide +kernel
theorem dX6_gatherShares_37 : vdec mX6_gatherShares 37 (.iconst 0) 1 := by decide +kernel
theorem dX6_gatherShares_38 : vdec mX6_gatherShares 38 (.goto 9) 3 := by decide +kernel
theorem dX6_gatherShares_41 : vdec mX6_gatherShares 41 (.aload 4) 2 := by decide +kernel
theorem dX6_gatherShares_43 : vdec mX6_gatherShares 43 (.iload_n 2) 1 := by decide +kernel
theorem dX6_gatherShares_44 : vdec mX6_gatherShares 44 (.invokevirtual 73) 3 := by decide +kernel
theorem dX6_gatherShares_47 : vdec mX6_gatherShares 47 (.iastore) 1 := by decide +kernel
theorem dX6_gatherShares_48 : vdec mX6_gatherShares 48 (.iinc 3 1) 3 := by decide +kernel
theorem dX6_gatherShares_51 : vdec mX6_gatherShares 51 (.goto (-49)) 3 := by decide +kernel
theorem dX6_gatherShares_54 : vdec mX6_gatherShares 54 (.return_) 1 := by decide +kernel
theorem dX6_searchOne_0 : vdec mX6_searchOne 0 (.iconst 0) 1 := by decide +kernel
theorem dX6_searchOne_1 : vdec mX6_searchOne 1 (.istore_n 1) 1 := by decide +kernel
theorem dX6_searchOne_2 : vdec mX6_searchOne 2 (.iload_n 1) 1 := by decide +kernel
theorem dX6_searchOne_3 : vdec mX6_searchOne 3 (.aload_n 0) 1 := by decide +kernel
theorem dX6_searchOne_4 : vdec mX6_searchOne 4 (.getfield 23) 3 := by decide +kernel
theorem dX6_searchOne_7 : vdec mX6_searchOne 7 (.if_icmp .ge 27) 3 := by decide +kernel
theorem dX6_searchOne_10 : vdec mX6_searchOne 10 (.aload_n 0) 1 := by decide +kernel
theorem dX6_searchOne_11 : vdec mX6_searchOne 11 (.iload_n 1) 1 := by decide +kernel
theorem dX6_searchOne_12 : vdec mX6_searchOne 12 (.bipush 30) 2 := by decide +kernel
theorem dX6_searchOne_14 : vdec mX6_searchOne 14 (.bipush 30) 2 := by decide +kernel
theorem dX6_searchOne_16 : vdec mX6_searchOne 16 (.invokevirtual 37) 3 := by decide +kernel
theorem dX6_searchOne_19 : vdec mX6_searchOne 19 (.ifCond .eq 9) 3 := by decide +kernel
theorem dX6_searchOne_22 : vdec mX6_searchOne 22 (.aload_n 0) 1 := by decide +kernel
theorem dX6_searchOne_23 : vdec mX6_searchOne 23 (.iload_n 1) 1 := by decide +kernel
theorem dX6_searchOne_24 : vdec mX6_searchOne 24 (.invokevirtual 78) 3 := by decide +kernel
theorem dX6_searchOne_27 : vdec mX6_searchOne 27 (.ireturn) 1 := by decide +kernel
theorem dX6_searchOne_28 : vdec mX6_searchOne 28 (.iinc 1 1) 3 := by decide +kernel
theorem dX6_searchOne_31 : vdec mX6_searchOne 31 (.goto (-29)) 3 := by decide +kernel
theorem dX6_searchOne_34 : vdec mX6_searchOne 34 (.iconst (-1)) 1 := by decide +kernel
theorem dX6_searchOne_35 : vdec mX6_searchOne 35 (.ireturn) 1 := by decide +kernel
theorem dX6_searchTwo_0 : vdec mX6_searchTwo 0 (.iconst 1) 1 := by decide +kernel
theorem dX6_searchTwo_1 : vdec mX6_searchTwo 1 (.istore_n 1) 1 := by decide +kernel
theorem dX6_searchTwo_2 : vdec mX6_searchTwo 2 (.iload_n 1) 1 := by decide +kernel
theorem dX6_searchTwo_3 : vdec mX6_searchTwo 3 (.aload_n 0) 1 := by decide +kernel
theorem dX6_searchTwo_4 : vdec mX6_searchTwo 4 (.getfield 23) 3 := by decide +kernel
theorem dX6_searchTwo_7 : vdec mX6_searchTwo 7 (.if_icmp .ge 45) 3 := by decide +kernel
theorem dX6_searchTwo_10 : vdec mX6_searchTwo 10 (.iconst 0) 1 := by decide +kernel
theorem dX6_searchTwo_11 : vdec mX6_searchTwo 11 (.istore_n 2) 1 := by decide +kernel
theorem dX6_searchTwo_12 : vdec mX6_searchTwo 12 (.iload_n 2) 1 := by decide +kernel
theorem dX6_searchTwo_13 : vdec mX6_searchTwo 13 (.iload_n 1) 1 := by decide +kernel
theorem dX6_searchTwo_14 : vdec mX6_searchTwo 14 (.if_icmp .ge 32) 3 := by decide +kernel
theorem dX6_searchTwo_17 : vdec mX6_searchTwo 17 (.aload_n 0) 1 := by decide +kernel
theorem dX6_searchTwo_18 : vdec mX6_searchTwo 18 (.iload_n 1) 1 := by decide +kernel
theorem dX6_searchTwo_19 : vdec mX6_searchTwo 19 (.iload_n 2) 1 := by decide +kernel
theorem dX6_searchTwo_20 : vdec mX6_searchTwo 20 (.bipush 30) 2 := by decide +kernel
theorem dX6_searchTwo_22 : vdec mX6_searchTwo 22 (.invokevirtual 37) 3 := by decide +kernel
theorem dX6_searchTwo_25 : vdec mX6_searchTwo 25 (.ifCond .eq 15) 3 := by decide +kernel
theorem dX6_searchTwo_28 : vdec mX6_searchTwo 28 (.aload_n 0) 1 := by decide +kernel
theorem dX6_searchTwo_29 : vdec mX6_searchTwo 29 (.iload_n 1) 1 := by decide +kernel
theorem dX6_searchTwo_30 : vdec mX6_searchTwo 30 (.invokevirtual 78) 3 := by decide +kernel
theorem dX6_searchTwo_33 : vdec mX6_searchTwo 33 (.aload_n 0) 1 := by decide +kernel
theorem dX6_searchTwo_34 : vdec mX6_searchTwo 34 (.iload_n 2) 1 := by decide +kernel
theorem dX6_searchTwo_35 : vdec mX6_searchTwo 35 (.invokevirtual 78) 3 := by decide +kernel
theorem dX6_searchTwo_38 : vdec mX6_searchTwo 38 (.ior) 1 := by decide +kernel
theorem dX6_searchTwo_39 : vdec mX6_searchTwo 39 (.ireturn) 1 := by decide +kernel
theorem dX6_searchTwo_40 : vdec mX6_searchTwo 40 (.iinc 2 1) 3 := by decide +kernel
theorem dX6_searchTwo_43 : vdec mX6_searchTwo 43 (.goto (-31)) 3 := by decide +kernel
theorem dX6_searchTwo_46 : vdec mX6_searchTwo 46 (.iinc 1 1) 3 := by decide +kernel
theorem dX6_searchTwo_49 : vdec mX6_searchTwo 49 (.goto (-47)) 3 := by decide +kernel
theorem dX6_searchTwo_52 : vdec mX6_searchTwo 52 (.iconst (-1)) 1 := by decide +kernel
theorem dX6_searchTwo_53 : vdec mX6_searchTwo 53 (.ireturn) 1 := by decide +kernel
theorem dX6_searchThree_0 : vdec mX6_searchThree 0 (.iconst 2) 1 := by decide +kernel
theorem dX6_searchThree_1 : vdec mX6_searchThree 1 (.istore_n 1) 1 := by decide +kernel
theorem dX6_searchThree_2 : vdec mX6_searchThree 2 (.iload_n 1) 1 := by decide +kernel
theorem dX6_searchThree_3 : vdec mX6_searchThree 3 (.aload_n 0) 1 := by decide +kernel
theorem dX6_searchThree_4 : vdec mX6_searchThree 4 (.getfield 23) 3 := by decide +kernel
theorem dX6_searchThree_7 : vdec mX6_searchThree 7 (.if_icmp .ge 63) 3 := by decide +kernel
theorem dX6_searchThree_10 : vdec mX6_searchThree 10 (.iconst 1) 1 := by decide +kernel
theorem dX6_searchThree_11 : vdec mX6_searchThree 11 (.istore_n 2) 1 := by decide +kernel
theorem dX6_searchThree_12 : vdec mX6_searchThree 12 (.iload_n 2) 1 := by decide +kernel
theorem dX6_searchThree_13 : vdec mX6_searchThree 13 (.iload_n 1) 1 := by decide +kernel
theorem dX6_searchThree_14 : vdec mX6_searchThree 14 (.if_icmp .ge 50) 3 := by decide +kernel
theorem dX6_searchThree_17 : vdec mX6_searchThree 17 (.iconst 0) 1 := by decide +kernel
theorem dX6_searchThree_18 : vdec mX6_searchThree 18 (.istore_n 3) 1 := by decide +kernel
theorem dX6_searchThree_19 : vdec mX6_searchThree 19 (.iload_n 3) 1 := by decide +kernel
theorem dX6_searchThree_20 : vdec mX6_searchThree 20 (.iload_n 2) 1 := by decide +kernel
theorem dX6_searchThree_21 : vdec mX6_searchThree 21 (.if_icmp .ge 37) 3 := by decide +kernel
theorem dX6_searchThree_24 : vdec mX6_searchThree 24 (.aload_n 0) 1 := by decide +kernel
theorem dX6_searchThree_25 : vdec mX6_searchThree 25 (.iload_n 1) 1 := by decide +kernel
theorem dX6_searchThree_26 : vdec mX6_searchThree 26 (.iload_n 2) 1 := by decide +kernel
theorem dX6_searchThree_27 : vdec mX6_searchThree 27 (.iload_n 3) 1 := by decide +kernel
theorem dX6_searchThree_28 : vdec mX6_searchThree 28 (.invokevirtual 37) 3 := by decide +kernel
theorem dX6_searchThree_31 : vdec mX6_searchThree 31 (.ifCond .eq 21) 3 := by decide +kernel
theorem dX6_searchThree_34 : vdec mX6_searchThree 34 (.aload_n 0) 1 := by decide +kernel
theorem dX6_searchThree_35 : vdec mX6_searchThree 35 (.iload_n 1) 1 := by decide +kernel
theorem dX6_searchThree_36 : vdec mX6_searchThree 36 (.invokevirtual 78) 3 := by decide +kernel
theorem dX6_searchThree_39 : vdec mX6_searchThree 39 (.aload_n 0) 1 := by decide +kernel
theorem dX6_searchThree_40 : vdec mX6_searchThree 40 (.iload_n 2) 1 := by decide +kernel
theorem dX6_searchThree_41 : vdec mX6_searchThree 41 (.invokevirtual 78) 3 := by decide +kernel
theorem dX6_searchThree_44 : vdec mX6_searchThree 44 (.ior) 1 := by decide +kernel
theorem dX6_searchThree_45 : vdec mX6_searchThree 45 (.aload_n 0) 1 := by decide +kernel
theorem dX6_searchThree_46 : vdec mX6_searchThree 46 (.iload_n 3) 1 := by decide +kernel
theorem dX6_searchThree_47 : vdec mX6_searchThree 47 (.invokevirtual 78) 3 := by decide +kernel
theorem dX6_searchThree_50 : vdec mX6_searchThree 50 (.ior) 1 := by decide +kernel
theorem dX6_searchThree_51 : vdec mX6_searchThree 51 (.ireturn) 1 := by decide +kernel
theorem dX6_searchThree_52 : vdec mX6_searchThree 52 (.iinc 3 1) 3 := by decide +kernel
theorem dX6_searchThree_55 : vdec mX6_searchThree 55 (.goto (-36)) 3 := by decide +kernel
theorem dX6_searchThree_58 : vdec mX6_searchThree 58 (.iinc 2 1) 3 := by decide +kernel
theorem dX6_searchThree_61 : vdec mX6_searchThree 61 (.goto (-49)) 3 := by decide +kernel
theorem dX6_searchThree_64 : vdec mX6_searchThree 64 (.iinc 1 1) 3 := by decide +kernel
theorem dX6_searchThree_67 : vdec mX6_searchThree 67 (.goto (-65)) 3 := by decide +kernel
theorem dX6_searchThree_70 : vdec mX6_searchThree 70 (.iconst (-1)) 1 := by decide +kernel
theorem dX6_searchThree_71 : vdec mX6_searchThree 71 (.ireturn) 1 := by decide +kernel
theorem dX6_explain_0 : vdec mX6_explain 0 (.iconst 0) 1 := by decide +kernel
theorem dX6_explain_1 : vdec mX6_explain 1 (.istore 4) 2 := by decide +kernel
theorem dX6_explain_3 : vdec mX6_explain 3 (.iload 4) 2 := by decide +kernel
theorem dX6_explain_5 : vdec mX6_explain 5 (.aload_n 0) 1 := by decide +kernel
theorem dX6_explain_6 : vdec mX6_explain 6 (.getfield 27) 3 := by decide +kernel
theorem dX6_explain_9 : vdec mX6_explain 9 (.if_icmp .ge 50) 3 := by decide +kernel
theorem dX6_explain_12 : vdec mX6_explain 12 (.aload_n 0) 1 := by decide +kernel
theorem dX6_explain_13 : vdec mX6_explain 13 (.getfield 17) 3 := by decide +kernel
theorem dX6_explain_16 : vdec mX6_explain 16 (.iload_n 1) 1 := by decide +kernel
theorem dX6_explain_17 : vdec mX6_explain 17 (.aaload) 1 := by decide +kernel
theorem dX6_explain_18 : vdec mX6_explain 18 (.iload 4) 2 := by decide +kernel
theorem dX6_explain_20 : vdec mX6_explain 20 (.iaload) 1 := by decide +kernel
theorem dX6_explain_21 : vdec mX6_explain 21 (.aload_n 0) 1 := by decide +kernel
theorem dX6_explain_22 : vdec mX6_explain 22 (.getfield 17) 3 := by decide +kernel
theorem dX6_explain_25 : vdec mX6_explain 25 (.iload_n 2) 1 := by decide +kernel
theorem dX6_explain_26 : vdec mX6_explain 26 (.aaload) 1 := by decide +kernel
theorem dX6_explain_27 : vdec mX6_explain 27 (.iload 4) 2 := by decide +kernel
theorem dX6_explain_29 : vdec mX6_explain 29 (.iaload) 1 := by decide +kernel
theorem dX6_explain_30 : vdec mX6_explain 30 (.iadd) 1 := by decide +kernel
theorem dX6_explain_31 : vdec mX6_explain 31 (.aload_n 0) 1 := by decide +kernel
theorem dX6_explain_32 : vdec mX6_explain 32 (.getfield 17) 3 := by decide +kernel
theorem dX6_explain_35 : vdec mX6_explain 35 (.iload_n 3) 1 := by decide +kernel
theorem dX6_explain_36 : vdec mX6_explain 36 (.aaload) 1 := by decide +kernel
theorem dX6_explain_37 : vdec mX6_explain 37 (.iload 4) 2 := by decide +kernel
theorem dX6_explain_39 : vdec mX6_explain 39 (.iaload) 1 := by decide +kernel
theorem dX6_explain_40 : vdec mX6_explain 40 (.iadd) 1 := by decide +kernel
theorem dX6_explain_41 : vdec mX6_explain 41 (.aload_n 0) 1 := by decide +kernel
theorem dX6_explain_42 : vdec mX6_explain 42 (.getfield 20) 3 := by decide +kernel
theorem dX6_explain_45 : vdec mX6_explain 45 (.iload 4) 2 := by decide +kernel
theorem dX6_explain_47 : vdec mX6_explain 47 (.iaload) 1 := by decide +kernel
theorem dX6_explain_48 : vdec mX6_explain 48 (.if_icmp .eq 5) 3 := by decide +kernel
theorem dX6_explain_51 : vdec mX6_explain 51 (.iconst 0) 1 := by decide +kernel
theorem dX6_explain_52 : vdec mX6_explain 52 (.ireturn) 1 := by decide +kernel
theorem dX6_explain_53 : vdec mX6_explain 53 (.iinc 4 1) 3 := by decide +kernel
theorem dX6_explain_56 : vdec mX6_explain 56 (.goto (-53)) 3 := by decide +kernel
theorem dX6_explain_59 : vdec mX6_explain 59 (.iconst 1) 1 := by decide +kernel
theorem dX6_explain_60 : vdec mX6_explain 60 (.ireturn) 1 := by decide +kernel
theorem dX6_bitOf_0 : vdec mX6_bitOf 0 (.iconst 1) 1 := by decide +kernel
theorem dX6_bitOf_1 : vdec mX6_bitOf 1 (.aload_n 0) 1 := by decide +kernel
theorem dX6_bitOf_2 : vdec mX6_bitOf 2 (.getfield 9) 3 := by decide +kernel
theorem dX6_bitOf_5 : vdec mX6_bitOf 5 (.iload_n 1) 1 := by decide +kernel
theorem dX6_bitOf_6 : vdec mX6_bitOf 6 (.iaload) 1 := by decide +kernel
theorem dX6_bitOf_7 : vdec mX6_bitOf 7 (.ishl) 1 := by decide +kernel
theorem dX6_bitOf_8 : vdec mX6_bitOf 8 (.ireturn) 1 := by decide +kernel
end
section
theorem dX7_init_0 : vdec mX7_init 0 (.aload_n 0) 1 := by decide +kernel
theorem dX7_init_1 : vdec mX7_init 1 (.invokespecial 3) 3 := by decide +kernel
theorem dX7_init_4 : vdec mX7_init 4 (.aload_n 0) 1 := by decide +kernel
theorem dX7_init_5 : vdec mX7_init 5 (.new 9) 3 := by decide +kernel
theorem dX7_init_8 : vdec mX7_init 8 (.dup) 1 := by decide +kernel
theorem dX7_init_9 : vdec mX7_init 9 (.invokespecial 11) 3 := by decide +kernel
theorem dX7_init_12 : vdec mX7_init 12 (.putfield 12) 3 := by decide +kernel
theorem dX7_init_15 : vdec mX7_init 15 (.aload_n 0) 1 := by decide +kernel
theorem dX7_init_16 : vdec mX7_init 16 (.new 16) 3 := by decide +kernel
theorem dX7_init_19 : vdec mX7_init 19 (.dup) 1 := by decide +kernel
theorem dX7_init_20 : vdec mX7_init 20 (.aload_n 0) 1 := by decide +kernel
theorem dX7_init_21 : vdec mX7_init 21 (.getfield 12) 3 := by decide +kernel
theorem dX7_init_24 : vdec mX7_init 24 (.invokespecial 18) 3 := by decide +kernel
theorem dX7_init_27 : vdec mX7_init 27 (.putfield 21) 3 := by decide +kernel
theorem dX7_init_30 : vdec mX7_init 30 (.aload_n 0) 1 := by decide +kernel
theorem dX7_init_31 : vdec mX7_init 31 (.new 25) 3 := by decide +kernel
theorem dX7_init_34 : vdec mX7_init 34 (.dup) 1 := by decide +kernel
theorem dX7_init_35 : vdec mX7_init 35 (.invokespecial 27) 3 := by decide +kernel
theorem dX7_init_38 : vdec mX7_init 38 (.putfield 28) 3 := by decide +kernel
theorem dX7_init_41 : vdec mX7_init 41 (.aload_n 0) 1 := by decide +kernel
theorem dX7_init_42 : vdec mX7_init 42 (.new 32) 3 := by decide +kernel
theorem dX7_init_45 : vdec mX7_init 45 (.dup) 1 := by decide +kernel
theorem dX7_init_46 : vdec mX7_init 46 (.invokespecial 34) 3 := by decide +kernel
theorem dX7_init_49 : vdec mX7_init 49 (.putfield 35) 3 := by decide +kernel
theorem dX7_init_52 : vdec mX7_init 52 (.aload_n 0) 1 := by decide +kernel
theorem dX7_init_53 : vdec mX7_init 53 (.new 39) 3 := by decide +kernel
theorem dX7_init_56 : vdec mX7_init 56 (.dup) 1 := by decide +kernel
theorem dX7_init_57 : vdec mX7_init 57 (.invokespecial 41) 3 := by decide +kernel
theorem dX7_init_60 : vdec mX7_init 60 (.putfield 42) 3 := by decide +kernel
theorem dX7_init_63 : vdec mX7_init 63 (.aload_n 0) 1 := by decide +kernel
theorem dX7_init_64 : vdec mX7_init 64 (.new 46) 3 := by decide +kernel
theorem dX7_init_67 : vdec mX7_init 67 (.dup) 1 := by decide +kernel
theorem dX7_init_68 : vdec mX7_init 68 (.invokespecial 48) 3 := by decide +kernel
theorem dX7_init_71 : vdec mX7_init 71 (.putfield 49) 3 := by decide +kernel
theorem dX7_init_74 : vdec mX7_init 74 (.aload_n 0) 1 := by decide +kernel
theorem dX7_init_75 : vdec mX7_init 75 (.new 46) 3 := by decide +kernel
theorem dX7_init_78 : vdec mX7_init 78 (.dup) 1 := by decide +kernel
theorem dX7_init_79 : vdec mX7_init 79 (.invokespecial 48) 3 := by decide +kernel
theorem dX7_init_82 : vdec mX7_init 82 (.putfield 53) 3 := by decide +kernel
theorem dX7_init_85 : vdec mX7_init 85 (.return_) 1 := by decide +kernel
theorem dX7_feed_0 : vdec mX7_feed 0 (.aload_n 0) 1 := by decide +kernel
theorem dX7_feed_1 : vdec mX7_feed 1 (.getfield 12) 3 := by decide +kernel
theorem dX7_feed_4 : vdec mX7_feed 4 (.invokevirtual 56) 3 := by decide +kernel
theorem dX7_feed_7 : vdec mX7_feed 7 (.bipush 20) 2 := by decide +kernel
theorem dX7_feed_9 : vdec mX7_feed 9 (.if_icmp .ge 5) 3 := by decide +kernel
theorem dX7_feed_12 : vdec mX7_feed 12 (.iconst (-1)) 1 := by decide +kernel
theorem dX7_feed_13 : vdec mX7_feed 13 (.ireturn) 1 := by decide +kernel
theorem dX7_feed_14 : vdec mX7_feed 14 (.aload_n 0) 1 := by decide +kernel
theorem dX7_feed_15 : vdec mX7_feed 15 (.getfield 12) 3 := by decide +kernel
theorem dX7_feed_18 : vdec mX7_feed 18 (.iload_n 1) 1 := by decide +kernel
theorem dX7_feed_19 : vdec mX7_feed 19 (.invokevirtual 60) 3 := by decide +kernel
theorem dX7_feed_22 : vdec mX7_feed 22 (.aload_n 0) 1 := by decide +kernel
theorem dX7_feed_23 : vdec mX7_feed 23 (.getfield 12) 3 := by decide +kernel
theorem dX7_feed_26 : vdec mX7_feed 26 (.iload_n 2) 1 := by decide +kernel
theorem dX7_feed_27 : vdec mX7_feed 27 (.invokevirtual 60) 3 := by decide +kernel
theorem dX7_feed_30 : vdec mX7_feed 30 (.aload_n 0) 1 := by decide +kernel
theorem dX7_feed_31 : vdec mX7_feed 31 (.getfield 12) 3 := by decide +kernel
theorem dX7_feed_34 : vdec mX7_feed 34 (.iload_n 3) 1 := by decide +kernel
theorem dX7_feed_35 : vdec mX7_feed 35 (.invokevirtual 60) 3 := by decide +kernel
theorem dX7_feed_38 : vdec mX7_feed 38 (.aload_n 0) 1 := by decide +kernel
theorem dX7_feed_39 : vdec mX7_feed 39 (.getfield 12) 3 := by decide +kernel
theorem dX7_feed_42 : vdec mX7_feed 42 (.iload 4) 2 := by decide +kernel
theorem dX7_feed_44 : vdec mX7_feed 44 (.invokevirtual 60) 3 := by decide +kernel
theorem dX7_feed_47 : vdec mX7_feed 47 (.aload_n 0) 1 := by decide +kernel
theorem dX7_feed_48 : vdec mX7_feed 48 (.getfield 12) 3 := by decide +kernel
theorem dX7_feed_51 : vdec mX7_feed 51 (.iload 5) 2 := by decide +kernel
theorem dX7_feed_53 : vdec mX7_feed 53 (.invokevirtual 60) 3 := by decide +kernel
theorem dX7_feed_56 : vdec mX7_feed 56 (.aload_n 0) 1 := by decide +kernel
theorem dX7_feed_57 : vdec mX7_feed 57 (.getfield 12) 3 := by decide +kernel
theorem dX7_feed_60 : vdec mX7_feed 60 (.invokevirtual 64) 3 := by decide +kernel
theorem dX7_feed_63 : vdec mX7_feed 63 (.ireturn) 1 := by decide +kernel
theorem dX7_end_0 : vdec mX7_end 0 (.aload_n 0) 1 := by decide +kernel
theorem dX7_end_1 : vdec mX7_end 1 (.getfield 12) 3 := by decide +kernel
theorem dX7_end_4 : vdec mX7_end 4 (.iload_n 1) 1 := by decide +kernel
theorem dX7_end_5 : vdec mX7_end 5 (.invokevirtual 67) 3 := by decide +kernel
theorem dX7_end_8 : vdec mX7_end 8 (.ireturn) 1 := by decide +kernel
theorem dX7_text_0 : vdec mX7_text 0 (.aload_n 0) 1 := by decide +kernel
theorem dX7_text_1 : vdec mX7_text 1 (.getfield 21) 3 := by decide +kernel
theorem dX7_text_4 : vdec mX7_text 4 (.aload_n 0) 1 := by decide +kernel
theorem dX7_text_5 : vdec mX7_text 5 (.getfield 53) 3 := by decide +kernel
theorem dX7_text_8 : vdec mX7_text 8 (.invokevirtual 71) 3 := by decide +kernel
theorem dX7_text_11 : vdec mX7_text 11 (.istore_n 1) 1 := by decide +kernel
theorem dX7_text_12 : vdec mX7_text 12 (.aload_n 0) 1 := by decide +kernel
theorem dX7_text_13 : vdec mX7_text 13 (.getfield 12) 3 := by decide +kernel
theorem dX7_text_16 : vdec mX7_text 16 (.iconst 0) 1 := by decide +kernel
theorem dX7_text_17 : vdec mX7_text 17 (.invokevirtual 67) 3 := by decide +kernel
theorem dX7_text_20 : vdec mX7_text 20 (.pop) 1 := by decide +kernel
theorem dX7_text_21 : vdec mX7_text 21 (.iload_n 1) 1 := by decide +kernel
theorem dX7_text_22 : vdec mX7_text 22 (.ifCond .ne 13) 3 := by decide +kernel
theorem dX7_text_25 : vdec mX7_text 25 (.iconst (-1)) 1 := by decide +kernel
theorem dX7_text_26 : vdec mX7_text 26 (.aload_n 0) 1 := by decide +kernel
theorem dX7_text_27 : vdec mX7_text 27 (.getfield 21) 3 := by decide +kernel
theorem dX7_text_30 : vdec mX7_text 30 (.invokevirtual 75) 3 := by decide +kernel
theorem dX7_text_33 : vdec mX7_text 33 (.isub) 1 := by decide +kernel
theorem dX7_text_34 : vdec mX7_text 34 (.ireturn) 1 := by decide +kernel
theorem dX7_text_35 : vdec mX7_text 35 (.aload_n 0) 1 := by decide +kernel
theorem dX7_text_36 : vdec mX7_text 36 (.getfield 49) 3 := by decide +kernel
theorem dX7_text_39 : vdec mX7_text 39 (.astore_n 2) 1 := by decide +kernel
theorem dX7_text_40 : vdec mX7_text 40 (.aload_n 0) 1 := by decide +kernel
theorem dX7_text_41 : vdec mX7_text 41 (.aload_n 0) 1 := by decide +kernel
theorem dX7_text_42 : vdec mX7_text 42 (.getfield 53) 3 := by decide +kernel
theorem dX7_text_45 : vdec mX7_text 45 (.putfield 49) 3 := by decide +kernel
theorem dX7_text_48 : vdec mX7_text 48 (.aload_n 0) 1 := by decide +kernel
theorem dX7_text_49 : vdec mX7_text 49 (.aload_n 2) 1 := by decide +kernel
theorem dX7_text_50 : vdec mX7_text 50 (.putfield 53) 3 := by decide +kernel
theorem dX7_text_53 : vdec mX7_text 53 (.iconst 0) 1 := by decide +kernel
theorem dX7_text_54 : vdec mX7_text 54 (.istore_n 3) 1 := by decide +kernel
theorem dX7_text_55 : vdec mX7_text 55 (.iload_n 3) 1 := by decide +kernel
theorem dX7_text_56 : vdec mX7_text 56 (.aload_n 0) 1 := by decide +kernel
theorem dX7_text_57 : vdec mX7_text 57 (.getfield 49) 3 := by decide +kernel
theorem dX7_text_60 : vdec mX7_text 60 (.invokevirtual 78) 3 := by decide +kernel
theorem dX7_text_63 : vdec mX7_text 63 (.if_icmp .ge 21) 3 := by decide +kernel
theorem dX7_text_66 : vdec mX7_text 66 (.aload_n 0) 1 := by decide +kernel
theorem dX7_text_67 : vdec mX7_text 67 (.aload_n 0) 1 := by decide +kernel
theorem dX7_text_68 : vdec mX7_text 68 (.getfield 49) 3 := by decide +kernel
theorem dX7_text_71 : vdec mX7_text 71 (.iload_n 3) 1 := by decide +kernel
theorem dX7_text_72 : vdec mX7_text 72 (.invokevirtual 81) 3 := by decide +kernel
theorem dX7_text_75 : vdec mX7_text 75 (.invokevirtual 85) 3 := by decide +kernel
theorem dX7_text_78 : vdec mX7_text 78 (.iinc 3 1) 3 := by decide +kernel
theorem dX7_text_81 : vdec mX7_text 81 (.goto (-26)) 3 := by decide +kernel
theorem dX7_text_84 : vdec mX7_text 84 (.aload_n 0) 1 := by decide +kernel
theorem dX7_text_85 : vdec mX7_text 85 (.getfield 42) 3 := by decide +kernel
theorem dX7_text_88 : vdec mX7_text 88 (.invokevirtual 89) 3 := by decide +kernel
theorem dX7_text_91 : vdec mX7_text 91 (.aload_n 0) 1 := by decide +kernel
theorem dX7_text_92 : vdec mX7_text 92 (.getfield 49) 3 := by decide +kernel
theorem dX7_text_95 : vdec mX7_text 95 (.invokevirtual 92) 3 := by decide +kernel
theorem dX7_text_98 : vdec mX7_text 98 (.aload_n 0) 1 := by decide +kernel
theorem dX7_text_99 : vdec mX7_text 99 (.getfield 49) 3 := by decide +kernel
theorem dX7_text_102 : vdec mX7_text 102 (.invokevirtual 78) 3 := by decide +kernel
theorem dX7_text_105 : vdec mX7_text 105 (.iadd) 1 := by decide +kernel
theorem dX7_text_106 : vdec mX7_text 106 (.ireturn) 1 := by decide +kernel
theorem dX7_fault_0 : vdec mX7_fault 0 (.aload_n 0) 1 := by decide +kernel
theorem dX7_fault_1 : vdec mX7_fault 1 (.getfield 21) 3 := by decide +kernel
theorem dX7_fault_4 : vdec mX7_fault 4 (.invokevirtual 95) 3 := by decide +kernel
theorem dX7_fault_7 : vdec mX7_fault 7 (.ireturn) 1 := by decide +kernel
theorem dX7_now_0 : vdec mX7_now 0 (.iload_n 1) 1 := by decide +kernel
theorem dX7_now_1 : vdec mX7_now 1 (.tableswitch 87 0 5 #[39, 47, 55, 63, 71, 79]) 39 := by decide +kernel
theorem dX7_now_40 : vdec mX7_now 40 (.aload_n 0) 1 := by decide +kernel
theorem dX7_now_41 : vdec mX7_now 41 (.getfield 49) 3 := by decide +kernel
theorem dX7_now_44 : vdec mX7_now 44 (.invokevirtual 92) 3 := by decide +kernel
theorem dX7_now_47 : vdec mX7_now 47 (.ireturn) 1 := by decide +kernel
theorem dX7_now_48 : vdec mX7_now 48 (.aload_n 0) 1 := by decide +kernel
theorem dX7_now_49 : vdec mX7_now 49 (.getfield 49) 3 := by decide +kernel
theorem dX7_now_52 : vdec mX7_now 52 (.invokevirtual 78) 3 := by decide +kernel
theorem dX7_now_55 : vdec mX7_now 55 (.ireturn) 1 := by decide +kernel
theorem dX7_now_56 : vdec mX7_now 56 (.aload_n 0) 1 := by decide +kernel
theorem dX7_now_57 : vdec mX7_now 57 (.getfield 49) 3 := by decide +kernel
theorem dX7_now_60 : vdec mX7_now 60 (.invokevirtual 98) 3 := by decide +kernel
theorem dX7_now_63 : vdec mX7_now 63 (.ireturn) 1 := by decide +kernel
theorem dX7_now_64 : vdec mX7_now 64 (.aload_n 0) 1 := by decide +kernel
theorem dX7_now_65 : vdec mX7_now 65 (.getfield 49) 3 := by decide +kernel
theorem dX7_now_68 : vdec mX7_now 68 (.invokevirtual 101) 3 := by decide +kernel
theorem dX7_now_71 : vdec mX7_now 71 (.ireturn) 1 := by decide +kernel
theorem dX7_now_72 : vdec mX7_now 72 (.aload_n 0) 1 := by decide +kernel
theorem dX7_now_73 : vdec mX7_now 73 (.getfield 42) 3 := by decide +kernel
theorem dX7_now_76 : vdec mX7_now 76 (.invokevirtual 104) 3 := by decide +kernel
theorem dX7_now_79 : vdec mX7_now 79 (.ireturn) 1 := by decide +kernel
theorem dX7_now_80 : vdec mX7_now 80 (.aload_n 0) 1 := by decide +kernel
theorem dX7_now_81 : vdec mX7_now 81 (.getfield 12) 3 := by decide +kernel
theorem dX7_now_84 : vdec mX7_now 84 (.invokevirtual 64) 3 := by decide +kernel
theorem dX7_now_87 : vdec mX7_now 87 (.ireturn) 1 := by decide +kernel
theorem dX7_now_88 : vdec mX7_now 88 (.iconst (-1)) 1 := by decide +kernel
theorem dX7_now_89 : vdec mX7_now 89 (.ireturn) 1 := by decide +kernel
theorem dX7_account_0 : vdec mX7_account 0 (.aload_n 0) 1 := by decide +kernel
theorem dX7_account_1 : vdec mX7_account 1 (.getfield 49) 3 := by decide +kernel
theorem dX7_account_4 : vdec mX7_account 4 (.iload_n 1) 1 := by decide +kernel
theorem dX7_account_5 : vdec mX7_account 5 (.invokevirtual 105) 3 := by decide +kernel
theorem dX7_account_8 : vdec mX7_account 8 (.ifCond .ne 13) 3 := by decide +kernel
theorem dX7_account_11 : vdec mX7_account 11 (.new 108) 3 := by decide +kernel
theorem dX7_account_14 : vdec mX7_account 14 (.dup) 1 := by decide +kernel
theorem dX7_account_15 : vdec mX7_account 15 (.ldc 110) 2 := by decide +kernel
theorem dX7_account_17 : vdec mX7_account 17 (.invokespecial 112) 3 := by decide +kernel
theorem dX7_account_20 : vdec mX7_account 20 (.athrow) 1 := by decide +kernel
theorem dX7_account_21 : vdec mX7_account 21 (.iload_n 2) 1 := by decide +kernel
theorem dX7_account_22 : vdec mX7_account 22 (.tableswitch 96 0 4 #[34, 43, 52, 63, 87]) 34 := by decide +kernel
theorem dX7_account_56 : vdec mX7_account 56 (.aload_n 0) 1 := by decide +kernel
theorem dX7_account_57 : vdec mX7_account 57 (.getfield 49) 3 := by decide +kernel
theorem dX7_account_60 : vdec mX7_account 60 (.iload_n 1) 1 := by decide +kernel
theorem dX7_account_61 : vdec mX7_account 61 (.invokevirtual 115) 3 := by decide +kernel
theorem dX7_account_64 : vdec mX7_account 64 (.ireturn) 1 := by decide +kernel
theorem dX7_account_65 : vdec mX7_account 65 (.aload_n 0) 1 := by decide +kernel
theorem dX7_account_66 : vdec mX7_account 66 (.getfield 49) 3 := by decide +kernel
theorem dX7_account_69 : vdec mX7_account 69 (.iload_n 1) 1 := by decide +kernel
theorem dX7_account_70 : vdec mX7_account 70 (.invokevirtual 119) 3 := by decide +kernel
theorem dX7_account_73 : vdec mX7_account 73 (.ireturn) 1 := by decide +kernel
theorem dX7_account_74 : vdec mX7_account 74 (.aload_n 0) 1 := by decide +kernel
theorem dX7_account_75 : vdec mX7_account 75 (.getfield 49) 3 := by decide +kernel
theorem dX7_account_78 : vdec mX7_account 78 (.iload_n 1) 1 := by decide +kernel
theorem dX7_account_79 : vdec mX7_account 79 (.bipush 19) 2 := by decide +kernel
theorem dX7_account_81 : vdec mX7_account 81 (.invokevirtual 122) 3 := by decide +kernel
theorem dX7_account_84 : vdec mX7_account 84 (.ireturn) 1 := by decide +kernel
theorem dX7_account_85 : vdec mX7_account 85 (.aload_n 0) 1 := by decide +kernel
theorem dX7_account_86 : vdec mX7_account 86 (.getfield 49) 3 := by decide +kernel
theorem dX7_account_89 : vdec mX7_account 89 (.iload_n 1) 1 := by decide +kernel
theorem dX7_account_90 : vdec mX7_account 90 (.invokevirtual 126) 3 := by decide +kernel
theorem dX7_account_93 : vdec mX7_account 93 (.ifCond .eq 14) 3 := by decide +kernel
theorem dX7_account_96 : vdec mX7_account 96 (.aload_n 0) 1 := by decide +kernel
theorem dX7_account_97 : vdec mX7_account 97 (.getfield 49) 3 := by decide +kernel
theorem dX7_account_100 : vdec mX7_account 100 (.iload_n 1) 1 := by decide +kernel
theorem dX7_account_101 : vdec mX7_account 101 (.invokevirtual 129) 3 := by decide +kernel
theorem dX7_account_104 : vdec mX7_account 104 (.goto 4) 3 := by decide +kernel
theorem dX7_account_107 : vdec mX7_account 107 (.iconst 0) 1 := by decide +kernel
theorem dX7_account_108 : vdec mX7_account 108 (.ireturn) 1 := by decide +kernel
theorem dX7_account_109 : vdec mX7_account 109 (.aload_n 0) 1 := by decide +kernel
theorem dX7_account_110 : vdec mX7_account 110 (.getfield 49) 3 := by decide +kernel
theorem dX7_account_113 : vdec mX7_account 113 (.iload_n 1) 1 := by decide +kernel
theorem dX7_account_114 : vdec mX7_account 114 (.invokevirtual 132) 3 := by decide +kernel
theorem dX7_account_117 : vdec mX7_account 117 (.ireturn) 1 := by decide +kernel
theorem dX7_account_118 : vdec mX7_account 118 (.new 108) 3 := by decide +kernel
theorem dX7_account_121 : vdec mX7_account 121 (.dup) 1 := by decide +kernel
theorem dX7_account_122 : vdec mX7_account 122 (.ldc 135) 2 := by decide +kernel
theorem dX7_account_124 : vdec mX7_account 124 (.invokespecial 112) 3 := by decide +kernel
theorem dX7_account_127 : vdec mX7_account 127 (.athrow) 1 := by decide +kernel
theorem dX7_journal_0 : vdec mX7_journal 0 (.aload_n 0) 1 := by decide +kernel
theorem dX7_journal_1 : vdec mX7_journal 1 (.getfield 49) 3 := by decide +kernel
theorem dX7_journal_4 : vdec mX7_journal 4 (.iload_n 1) 1 := by decide +kernel
theorem dX7_journal_5 : vdec mX7_journal 5 (.invokevirtual 81) 3 := by decide +kernel
theorem dX7_journal_8 : vdec mX7_journal 8 (.astore_n 3) 1 := by decide +kernel
theorem dX7_journal_9 : vdec mX7_journal 9 (.aload_n 3) 1 := by decide +kernel
theorem dX7_journal_10 : vdec mX7_journal 10 (.ifnonnull 13) 3 := by decide +kernel
theorem dX7_journal_13 : vdec mX7_journal 13 (.new 108) 3 := by decide +kernel
theorem dX7_journal_16 : vdec mX7_journal 16 (.dup) 1 := by decide +kernel
theorem dX7_journal_17 : vdec mX7_journal 17 (.ldc 137) 2 := by decide +kernel
theorem dX7_journal_19 : vdec mX7_journal 19 (.invokespecial 112) 3 := by decide +kernel
theorem dX7_journal_22 : vdec mX7_journal 22 (.athrow) 1 := by decide +kernel
theorem dX7_journal_23 : vdec mX7_journal 23 (.iload_n 2) 1 := by decide +kernel
theorem dX7_journal_24 : vdec mX7_journal 24 (.tableswitch 69 0 4 #[36, 41, 46, 51, 56]) 36 := by decide +kernel
theorem dX7_journal_60 : vdec mX7_journal 60 (.aload_n 3) 1 := by decide +kernel
theorem dX7_journal_61 : vdec mX7_journal 61 (.invokevirtual 139) 3 := by decide +kernel
theorem dX7_journal_64 : vdec mX7_journal 64 (.ireturn) 1 := by decide +kernel
theorem dX7_journal_65 : vdec mX7_journal 65 (.aload_n 3) 1 := by decide +kernel
theorem dX7_journal_66 : vdec mX7_journal 66 (.invokevirtual 144) 3 := by decide +kernel
theorem dX7_journal_69 : vdec mX7_journal 69 (.ireturn) 1 := by decide +kernel
theorem dX7_journal_70 : vdec mX7_journal 70 (.aload_n 3) 1 := by decide +kernel
theorem dX7_journal_71 : vdec mX7_journal 71 (.invokevirtual 147) 3 := by decide +kernel
theorem dX7_journal_74 : vdec mX7_journal 74 (.ireturn) 1 := by decide +kernel
theorem dX7_journal_75 : vdec mX7_journal 75 (.aload_n 3) 1 := by decide +kernel
theorem dX7_journal_76 : vdec mX7_journal 76 (.invokevirtual 150) 3 := by decide +kernel
theorem dX7_journal_79 : vdec mX7_journal 79 (.ireturn) 1 := by decide +kernel
theorem dX7_journal_80 : vdec mX7_journal 80 (.aload_n 3) 1 := by decide +kernel
theorem dX7_journal_81 : vdec mX7_journal 81 (.invokevirtual 153) 3 := by decide +kernel
theorem dX7_journal_84 : vdec mX7_journal 84 (.ifCond .eq 7) 3 := by decide +kernel
theorem dX7_journal_87 : vdec mX7_journal 87 (.iconst 1) 1 := by decide +kernel
theorem dX7_journal_88 : vdec mX7_journal 88 (.goto 4) 3 := by decide +kernel
theorem dX7_journal_91 : vdec mX7_journal 91 (.iconst 0) 1 := by decide +kernel
theorem dX7_journal_92 : vdec mX7_journal 92 (.ireturn) 1 := by decide +kernel
theorem dX7_journal_93 : vdec mX7_journal 93 (.iload_n 2) 1 := by decide +kernel
theorem dX7_journal_94 : vdec mX7_journal 94 (.bipush 10) 2 := by decide +kernel
theorem dX7_journal_96 : vdec mX7_journal 96 (.irem) 1 := by decide +kernel
theorem dX7_journal_97 : vdec mX7_journal 97 (.istore 4) 2 := by decide +kernel
theorem dX7_journal_99 : vdec mX7_journal 99 (.iload_n 2) 1 := by decide +kernel
theorem dX7_journal_100 : vdec mX7_journal 100 (.bipush 10) 2 := by decide +kernel
theorem dX7_journal_102 : vdec mX7_journal 102 (.if_icmp .lt 18) 3 := by decide +kernel
theorem dX7_journal_105 : vdec mX7_journal 105 (.iload_n 2) 1 := by decide +kernel
theorem dX7_journal_106 : vdec mX7_journal 106 (.bipush 40) 2 := by decide +kernel
theorem dX7_journal_108 : vdec mX7_journal 108 (.if_icmp .ge 12) 3 := by decide +kernel
theorem dX7_journal_111 : vdec mX7_journal 111 (.iload 4) 2 := by decide +kernel
theorem dX7_journal_113 : vdec mX7_journal 113 (.aload_n 3) 1 := by decide +kernel
theorem dX7_journal_114 : vdec mX7_journal 114 (.invokevirtual 144) 3 := by decide +kernel
theorem dX7_journal_117 : vdec mX7_journal 117 (.if_icmp .lt 13) 3 := by decide +kernel
theorem dX7_journal_120 : vdec mX7_journal 120 (.new 108) 3 := by decide +kernel
theorem dX7_journal_123 : vdec mX7_journal 123 (.dup) 1 := by decide +kernel
theorem dX7_journal_124 : vdec mX7_journal 124 (.ldc 157) 2 := by decide +kernel
theorem dX7_journal_126 : vdec mX7_journal 126 (.invokespecial 112) 3 := by decide +kernel
theorem dX7_journal_129 : vdec mX7_journal 129 (.athrow) 1 := by decide +kernel
theorem dX7_journal_130 : vdec mX7_journal 130 (.iload_n 2) 1 := by decide +kernel
theorem dX7_journal_131 : vdec mX7_journal 131 (.bipush 10) 2 := by decide +kernel
theorem dX7_journal_133 : vdec mX7_journal 133 (.idiv) 1 := by decide +kernel
theorem dX7_journal_134 : vdec mX7_journal 134 (.lookupswitch 40 #[(1, 26), (2, 33)]) 26 := by decide +kernel
theorem dX7_journal_160 : vdec mX7_journal 160 (.aload_n 3) 1 := by decide +kernel
theorem dX7_journal_161 : vdec mX7_journal 161 (.iload 4) 2 := by decide +kernel
theorem dX7_journal_163 : vdec mX7_journal 163 (.invokevirtual 159) 3 := by decide +kernel
theorem dX7_journal_166 : vdec mX7_journal 166 (.ireturn) 1 := by decide +kernel
theorem dX7_journal_167 : vdec mX7_journal 167 (.aload_n 3) 1 := by decide +kernel
theorem dX7_journal_168 : vdec mX7_journal 168 (.iload 4) 2 := by decide +kernel
theorem dX7_journal_170 : vdec mX7_journal 170 (.invokevirtual 162) 3 := by decide +kernel
theorem dX7_journal_173 : vdec mX7_journal 173 (.ireturn) 1 := by decide +kernel
theorem dX7_journal_174 : vdec mX7_journal 174 (.aload_n 3) 1 := by decide +kernel
theorem dX7_journal_175 : vdec mX7_journal 175 (.iload 4) 2 := by decide +kernel
theorem dX7_journal_177 : vdec mX7_journal 177 (.invokevirtual 165) 3 := by decide +kernel
theorem dX7_journal_180 : vdec mX7_journal 180 (.ireturn) 1 := by decide +kernel
theorem dX7_piece_0 : vdec mX7_piece 0 (.aload_n 0) 1 := by decide +kernel
theorem dX7_piece_1 : vdec mX7_piece 1 (.getfield 49) 3 := by decide +kernel
theorem dX7_piece_4 : vdec mX7_piece 4 (.iload_n 1) 1 := by decide +kernel
theorem dX7_piece_5 : vdec mX7_piece 5 (.invokevirtual 81) 3 := by decide +kernel
theorem dX7_piece_8 : vdec mX7_piece 8 (.astore 4) 2 := by decide +kernel
theorem dX7_piece_10 : vdec mX7_piece 10 (.aload 4) 2 := by decide +kernel
theorem dX7_piece_12 : vdec mX7_piece 12 (.ifnull 16) 3 := by decide +kernel
theorem dX7_piece_15 : vdec mX7_piece 15 (.iload_n 2) 1 := by decide +kernel
theorem dX7_piece_16 : vdec mX7_piece 16 (.ifCond .lt 12) 3 := by decide +kernel
theorem dX7_piece_19 : vdec mX7_piece 19 (.iload_n 2) 1 := by decide +kernel
theorem dX7_piece_20 : vdec mX7_piece 20 (.aload 4) 2 := by decide +kernel
theorem dX7_piece_22 : vdec mX7_piece 22 (.invokevirtual 150) 3 := by decide +kernel
theorem dX7_piece_25 : vdec mX7_piece 25 (.if_icmp .lt 5) 3 := by decide +kernel
theorem dX7_piece_28 : vdec mX7_piece 28 (.iconst (-1)) 1 := by decide +kernel
theorem dX7_piece_29 : vdec mX7_piece 29 (.ireturn) 1 := by decide +kernel
theorem dX7_piece_30 : vdec mX7_piece 30 (.iload_n 3) 1 := by decide +kernel
theorem dX7_piece_31 : vdec mX7_piece 31 (.tableswitch 61 0 3 #[29, 36, 43, 50]) 29 := by decide +kernel
theorem dX7_piece_60 : vdec mX7_piece 60 (.aload 4) 2 := by decide +kernel
theorem dX7_piece_62 : vdec mX7_piece 62 (.iload_n 2) 1 := by decide +kernel
theorem dX7_piece_63 : vdec mX7_piece 63 (.invokevirtual 168) 3 := by decide +kernel
theorem dX7_piece_66 : vdec mX7_piece 66 (.ireturn) 1 := by decide +kernel
theorem dX7_piece_67 : vdec mX7_piece 67 (.aload 4) 2 := by decide +kernel
theorem dX7_piece_69 : vdec mX7_piece 69 (.iload_n 2) 1 := by decide +kernel
theorem dX7_piece_70 : vdec mX7_piece 70 (.invokevirtual 171) 3 := by decide +kernel
theorem dX7_piece_73 : vdec mX7_piece 73 (.ireturn) 1 := by decide +kernel
theorem dX7_piece_74 : vdec mX7_piece 74 (.aload 4) 2 := by decide +kernel
theorem dX7_piece_76 : vdec mX7_piece 76 (.iload_n 2) 1 := by decide +kernel
theorem dX7_piece_77 : vdec mX7_piece 77 (.invokevirtual 174) 3 := by decide +kernel
theorem dX7_piece_80 : vdec mX7_piece 80 (.ireturn) 1 := by decide +kernel
theorem dX7_piece_81 : vdec mX7_piece 81 (.aload_n 0) 1 := by decide +kernel
theorem dX7_piece_82 : vdec mX7_piece 82 (.getfield 49) 3 := by decide +kernel
theorem dX7_piece_85 : vdec mX7_piece 85 (.aload 4) 2 := by decide +kernel
theorem dX7_piece_87 : vdec mX7_piece 87 (.iload_n 2) 1 := by decide +kernel
theorem dX7_piece_88 : vdec mX7_piece 88 (.invokevirtual 177) 3 := by decide +kernel
theorem dX7_piece_91 : vdec mX7_piece 91 (.ireturn) 1 := by decide +kernel
theorem dX7_piece_92 : vdec mX7_piece 92 (.iconst (-1)) 1 := by decide +kernel
theorem dX7_piece_93 : vdec mX7_piece 93 (.ireturn) 1 := by decide +kernel
theorem dX7_direct_0 : vdec mX7_direct 0 (.iload_n 1) 1 := by decide +kernel
theorem dX7_direct_1 : vdec mX7_direct 1 (.invokestatic 181) 3 := by decide +kernel
theorem dX7_direct_4 : vdec mX7_direct 4 (.ifCond .eq 22) 3 := by decide +kernel
theorem dX7_direct_7 : vdec mX7_direct 7 (.iload_n 2) 1 := by decide +kernel
theorem dX7_direct_8 : vdec mX7_direct 8 (.iload_n 3) 1 := by decide +kernel
theorem dX7_direct_9 : vdec mX7_direct 9 (.invokestatic 184) 3 := by decide +kernel
theorem dX7_direct_12 : vdec mX7_direct 12 (.ifCond .eq 14) 3 := by decide +kernel
theorem dX7_direct_15 : vdec mX7_direct 15 (.iload 4) 2 := by decide +kernel
theorem dX7_direct_17 : vdec mX7_direct 17 (.ifCond .lt 9) 3 := by decide +kernel
theorem dX7_direct_20 : vdec mX7_direct 20 (.iload 4) 2 := by decide +kernel
theorem dX7_direct_22 : vdec mX7_direct 22 (.iconst 2) 1 := by decide +kernel
theorem dX7_direct_23 : vdec mX7_direct 23 (.if_icmp .le 6) 3 := by decide +kernel
theorem dX7_direct_26 : vdec mX7_direct 26 (.ldc 188) 2 := by decide +kernel
theorem dX7_direct_28 : vdec mX7_direct 28 (.ireturn) 1 := by decide +kernel
theorem dX7_direct_29 : vdec mX7_direct 29 (.iload 4) 2 := by decide +kernel
theorem dX7_direct_31 : vdec mX7_direct 31 (.iconst 1) 1 := by decide +kernel
theorem dX7_direct_32 : vdec mX7_direct 32 (.if_icmp .ne 7) 3 := by decide +kernel
theorem dX7_direct_35 : vdec mX7_direct 35 (.iconst 0) 1 := by decide +kernel
theorem dX7_direct_36 : vdec mX7_direct 36 (.goto 14) 3 := by decide +kernel
theorem dX7_direct_39 : vdec mX7_direct 39 (.aload_n 0) 1 := by decide +kernel
theorem dX7_direct_40 : vdec mX7_direct 40 (.getfield 49) 3 := by decide +kernel
theorem dX7_direct_43 : vdec mX7_direct 43 (.iload_n 1) 1 := by decide +kernel
theorem dX7_direct_44 : vdec mX7_direct 44 (.iconst 1) 1 := by decide +kernel
theorem dX7_direct_45 : vdec mX7_direct 45 (.iload_n 2) 1 := by decide +kernel
theorem dX7_direct_46 : vdec mX7_direct 46 (.iload_n 3) 1 := by decide +kernel
theorem dX7_direct_47 : vdec mX7_direct 47 (.invokevirtual 189) 3 := by decide +kernel
theorem dX7_direct_50 : vdec mX7_direct 50 (.istore 5) 2 := by decide +kernel
theorem dX7_direct_52 : vdec mX7_direct 52 (.iload 4) 2 := by decide +kernel
theorem dX7_direct_54 : vdec mX7_direct 54 (.ifCond .ne 7) 3 := by decide +kernel
theorem dX7_direct_57 : vdec mX7_direct 57 (.iconst 0) 1 := by decide +kernel
theorem dX7_direct_58 : vdec mX7_direct 58 (.goto 14) 3 := by decide +kernel
theorem dX7_direct_61 : vdec mX7_direct 61 (.aload_n 0) 1 := by decide +kernel
theorem dX7_direct_62 : vdec mX7_direct 62 (.getfield 49) 3 := by decide +kernel
theorem dX7_direct_65 : vdec mX7_direct 65 (.iload_n 1) 1 := by decide +kernel
theorem dX7_direct_66 : vdec mX7_direct 66 (.iconst 0) 1 := by decide +kernel
theorem dX7_direct_67 : vdec mX7_direct 67 (.iload_n 2) 1 := by decide +kernel
theorem dX7_direct_68 : vdec mX7_direct 68 (.iload_n 3) 1 := by decide +kernel
theorem dX7_direct_69 : vdec mX7_direct 69 (.invokevirtual 189) 3 := by decide +kernel
theorem dX7_direct_72 : vdec mX7_direct 72 (.istore 6) 2 := by decide +kernel
theorem dX7_direct_74 : vdec mX7_direct 74 (.iload 4) 2 := by decide +kernel
theorem dX7_direct_76 : vdec mX7_direct 76 (.iconst 1) 1 := by decide +kernel
theorem dX7_direct_77 : vdec mX7_direct 77 (.if_icmp .ne 8) 3 := by decide +kernel
theorem dX7_direct_80 : vdec mX7_direct 80 (.iload 6) 2 := by decide +kernel
theorem dX7_direct_82 : vdec mX7_direct 82 (.goto 8) 3 := by decide +kernel
theorem dX7_direct_85 : vdec mX7_direct 85 (.iload 5) 2 := by decide +kernel
theorem dX7_direct_87 : vdec mX7_direct 87 (.iload 6) 2 := by decide +kernel
theorem dX7_direct_89 : vdec mX7_direct 89 (.isub) 1 := by decide +kernel
theorem dX7_direct_90 : vdec mX7_direct 90 (.ireturn) 1 := by decide +kernel
theorem dX7_indirect_0 : vdec mX7_indirect 0 (.iload_n 1) 1 := by decide +kernel
theorem dX7_indirect_1 : vdec mX7_indirect 1 (.iload_n 2) 1 := by decide +kernel
theorem dX7_indirect_2 : vdec mX7_indirect 2 (.invokestatic 184) 3 := by decide +kernel
theorem dX7_indirect_5 : vdec mX7_indirect 5 (.ifCond .eq 12) 3 := by decide +kernel
theorem dX7_indirect_8 : vdec mX7_indirect 8 (.iload_n 3) 1 := by decide +kernel
theorem dX7_indirect_9 : vdec mX7_indirect 9 (.ifCond .lt 8) 3 := by decide +kernel
theorem dX7_indirect_12 : vdec mX7_indirect 12 (.iload_n 3) 1 := by decide +kernel
theorem dX7_indirect_13 : vdec mX7_indirect 13 (.iconst 3) 1 := by decide +kernel
theorem dX7_indirect_14 : vdec mX7_indirect 14 (.if_icmp .le 6) 3 := by decide +kernel
theorem dX7_indirect_17 : vdec mX7_indirect 17 (.ldc 188) 2 := by decide +kernel
theorem dX7_indirect_19 : vdec mX7_indirect 19 (.ireturn) 1 := by decide +kernel
theorem dX7_indirect_20 : vdec mX7_indirect 20 (.aload_n 0) 1 := by decide +kernel
theorem dX7_indirect_21 : vdec mX7_indirect 21 (.getfield 49) 3 := by decide +kernel
theorem dX7_indirect_24 : vdec mX7_indirect 24 (.iconst 2) 1 := by decide +kernel
theorem dX7_indirect_25 : vdec mX7_indirect 25 (.iload_n 1) 1 := by decide +kernel
theorem dX7_indirect_26 : vdec mX7_indirect 26 (.iload_n 2) 1 := by decide +kernel
theorem dX7_indirect_27 : vdec mX7_indirect 27 (.invokevirtual 193) 3 := by decide +kernel
theorem dX7_indirect_30 : vdec mX7_indirect 30 (.ineg) 1 := by decide +kernel
theorem dX7_indirect_31 : vdec mX7_indirect 31 (.istore 4) 2 := by decide +kernel
theorem dX7_indirect_33 : vdec mX7_indirect 33 (.aload_n 0) 1 := by decide +kernel
theorem dX7_indirect_34 : vdec mX7_indirect 34 (.getfield 49) 3 := by decide +kernel
theorem dX7_indirect_37 : vdec mX7_indirect 37 (.iconst 1) 1 := by decide +kernel
theorem dX7_indirect_38 : vdec mX7_indirect 38 (.iload_n 1) 1 := by decide +kernel
theorem dX7_indirect_39 : vdec mX7_indirect 39 (.iload_n 2) 1 := by decide +kernel
theorem dX7_indirect_40 : vdec mX7_indirect 40 (.invokevirtual 193) 3 := by decide +kernel
theorem dX7_indirect_43 : vdec mX7_indirect 43 (.ineg) 1 := by decide +kernel
theorem dX7_indirect_44 : vdec mX7_indirect 44 (.istore 5) 2 := by decide +kernel
theorem dX7_indirect_46 : vdec mX7_indirect 46 (.aload_n 0) 1 := by decide +kernel
theorem dX7_indirect_47 : vdec mX7_indirect 47 (.getfield 49) 3 := by decide +kernel
theorem dX7_indirect_50 : vdec mX7_indirect 50 (.iload_n 1) 1 := by decide +kernel
theorem dX7_indirect_51 : vdec mX7_indirect 51 (.iload_n 2) 1 := by decide +kernel
theorem dX7_indirect_52 : vdec mX7_indirect 52 (.invokevirtual 197) 3 := by decide +kernel
theorem dX7_indirect_55 : vdec mX7_indirect 55 (.istore 6) 2 := by decide +kernel
theorem dX7_indirect_57 : vdec mX7_indirect 57 (.iload_n 3) 1 := by decide +kernel
theorem dX7_indirect_58 : vdec mX7_indirect 58 (.tableswitch 35 1 3 #[26, 29, 32]) 26 := by decide +kernel
theorem dX7_indirect_84 : vdec mX7_indirect 84 (.iload 4) 2 := by decide +kernel
theorem dX7_indirect_86 : vdec mX7_indirect 86 (.ireturn) 1 := by decide +kernel
theorem dX7_indirect_87 : vdec mX7_indirect 87 (.iload 5) 2 := by decide +kernel
theorem dX7_indirect_89 : vdec mX7_indirect 89 (.ireturn) 1 := by decide +kernel
theorem dX7_indirect_90 : vdec mX7_indirect 90 (.iload 6) 2 := by decide +kernel
theorem dX7_indirect_92 : vdec mX7_indirect 92 (.ireturn) 1 := by decide +kernel
theorem dX7_indirect_93 : vdec mX7_indirect 93 (.iload 4) 2 := by decide +kernel
theorem dX7_indirect_95 : vdec mX7_indirect 95 (.iload 5) 2 := by decide +kernel
theorem dX7_indirect_97 : vdec mX7_indirect 97 (.iadd) 1 := by decide +kernel
theorem dX7_indirect_98 : vdec mX7_indirect 98 (.iload 6) 2 := by decide +kernel
theorem dX7_indirect_100 : vdec mX7_indirect 100 (.iadd) 1 := by decide +kernel
theorem dX7_indirect_101 : vdec mX7_indirect 101 (.ireturn) 1 := by decide +kernel
theorem dX7_change_0 : vdec mX7_change 0 (.iload_n 1) 1 := by decide +kernel
theorem dX7_change_1 : vdec mX7_change 1 (.iload_n 2) 1 := by decide +kernel
theorem dX7_change_2 : vdec mX7_change 2 (.invokestatic 184) 3 := by decide +kernel
theorem dX7_change_5 : vdec mX7_change 5 (.ifCond .eq 16) 3 := by decide +kernel
theorem dX7_change_8 : vdec mX7_change 8 (.aload_n 0) 1 := by decide +kernel
theorem dX7_change_9 : vdec mX7_change 9 (.getfield 49) 3 := by decide +kernel
theorem dX7_change_12 : vdec mX7_change 12 (.iconst 0) 1 := by decide +kernel
theorem dX7_change_13 : vdec mX7_change 13 (.iload_n 1) 1 := by decide +kernel
theorem dX7_change_14 : vdec mX7_change 14 (.iload_n 2) 1 := by decide +kernel
theorem dX7_change_15 : vdec mX7_change 15 (.invokevirtual 193) 3 := by decide +kernel
theorem dX7_change_18 : vdec mX7_change 18 (.goto 5) 3 := by decide +kernel
theorem dX7_change_21 : vdec mX7_change 21 (.ldc 188) 2 := by decide +kernel
theorem dX7_change_23 : vdec mX7_change 23 (.ireturn) 1 := by decide +kernel
theorem dX7_makes_0 : vdec mX7_makes 0 (.iload_n 1) 1 := by decide +kernel
theorem dX7_makes_1 : vdec mX7_makes 1 (.invokestatic 181) 3 := by decide +kernel
theorem dX7_makes_4 : vdec mX7_makes 4 (.ifCond .eq 24) 3 := by decide +kernel
theorem dX7_makes_7 : vdec mX7_makes 7 (.iload_n 2) 1 := by decide +kernel
theorem dX7_makes_8 : vdec mX7_makes 8 (.iload_n 3) 1 := by decide +kernel
theorem dX7_makes_9 : vdec mX7_makes 9 (.invokestatic 184) 3 := by decide +kernel
theorem dX7_makes_12 : vdec mX7_makes 12 (.ifCond .eq 16) 3 := by decide +kernel
theorem dX7_makes_15 : vdec mX7_makes 15 (.aload_n 0) 1 := by decide +kernel
theorem dX7_makes_16 : vdec mX7_makes 16 (.getfield 49) 3 := by decide +kernel
theorem dX7_makes_19 : vdec mX7_makes 19 (.iload_n 1) 1 := by decide +kernel
theorem dX7_makes_20 : vdec mX7_makes 20 (.iload_n 2) 1 := by decide +kernel
theorem dX7_makes_21 : vdec mX7_makes 21 (.iload_n 3) 1 := by decide +kernel
theorem dX7_makes_22 : vdec mX7_makes 22 (.invokevirtual 200) 3 := by decide +kernel
theorem dX7_makes_25 : vdec mX7_makes 25 (.goto 4) 3 := by decide +kernel
theorem dX7_makes_28 : vdec mX7_makes 28 (.iconst (-1)) 1 := by decide +kernel
theorem dX7_makes_29 : vdec mX7_makes 29 (.ireturn) 1 := by decide +kernel
theorem dX7_deals_0 : vdec mX7_deals 0 (.iload_n 1) 1 := by decide +kernel
theorem dX7_deals_1 : vdec mX7_deals 1 (.ifCond .le 18) 3 := by decide +kernel
theorem dX7_deals_4 : vdec mX7_deals 4 (.iload_n 1) 1 := by decide +kernel
theorem dX7_deals_5 : vdec mX7_deals 5 (.iload_n 2) 1 := by decide +kernel
theorem dX7_deals_6 : vdec mX7_deals 6 (.if_icmp .gt 13) 3 := by decide +kernel
theorem dX7_deals_9 : vdec mX7_deals 9 (.iload_n 2) 1 := by decide +kernel
theorem dX7_deals_10 : vdec mX7_deals 10 (.bipush 6) 2 := by decide +kernel
theorem dX7_deals_12 : vdec mX7_deals 12 (.if_icmp .ge 7) 3 := by decide +kernel
theorem dX7_deals_15 : vdec mX7_deals 15 (.iconst 1) 1 := by decide +kernel
theorem dX7_deals_16 : vdec mX7_deals 16 (.goto 4) 3 := by decide +kernel
theorem dX7_deals_19 : vdec mX7_deals 19 (.iconst 0) 1 := by decide +kernel
theorem dX7_deals_20 : vdec mX7_deals 20 (.istore 5) 2 := by decide +kernel
theorem dX7_deals_22 : vdec mX7_deals 22 (.iload 5) 2 := by decide +kernel
theorem dX7_deals_24 : vdec mX7_deals 24 (.ifCond .eq 27) 3 := by decide +kernel
theorem dX7_deals_27 : vdec mX7_deals 27 (.iload_n 3) 1 := by decide +kernel
theorem dX7_deals_28 : vdec mX7_deals 28 (.iload 4) 2 := by decide +kernel
theorem dX7_deals_30 : vdec mX7_deals 30 (.invokestatic 184) 3 := by decide +kernel
theorem dX7_deals_33 : vdec mX7_deals 33 (.ifCond .eq 18) 3 := by decide +kernel
theorem dX7_deals_36 : vdec mX7_deals 36 (.aload_n 0) 1 := by decide +kernel
theorem dX7_deals_37 : vdec mX7_deals 37 (.getfield 49) 3 := by decide +kernel
theorem dX7_deals_40 : vdec mX7_deals 40 (.iload_n 1) 1 := by decide +kernel
theorem dX7_deals_41 : vdec mX7_deals 41 (.iload_n 2) 1 := by decide +kernel
theorem dX7_deals_42 : vdec mX7_deals 42 (.iload_n 3) 1 := by decide +kernel
theorem dX7_deals_43 : vdec mX7_deals 43 (.iload 4) 2 := by decide +kernel
theorem dX7_deals_45 : vdec mX7_deals 45 (.invokevirtual 203) 3 := by decide +kernel
theorem dX7_deals_48 : vdec mX7_deals 48 (.goto 4) 3 := by decide +kernel
theorem dX7_deals_51 : vdec mX7_deals 51 (.iconst (-1)) 1 := by decide +kernel
theorem dX7_deals_52 : vdec mX7_deals 52 (.ireturn) 1 := by decide +kernel
theorem dX7_balance_0 : vdec mX7_balance 0 (.aload_n 0) 1 := by decide +kernel
theorem dX7_balance_1 : vdec mX7_balance 1 (.getfield 49) 3 := by decide +kernel
theorem dX7_balance_4 : vdec mX7_balance 4 (.iload_n 1) 1 := by decide +kernel
theorem dX7_balance_5 : vdec mX7_balance 5 (.invokevirtual 105) 3 := by decide +kernel
theorem dX7_balance_8 : vdec mX7_balance 8 (.ifCond .eq 14) 3 := by decide +kernel
theorem dX7_balance_11 : vdec mX7_balance 11 (.iload_n 2) 1 := by decide +kernel
theorem dX7_balance_12 : vdec mX7_balance 12 (.invokestatic 207) 3 := by decide +kernel
theorem dX7_balance_15 : vdec mX7_balance 15 (.ifCond .eq 7) 3 := by decide +kernel
theorem dX7_balance_18 : vdec mX7_balance 18 (.iconst 1) 1 := by decide +kernel
theorem dX7_balance_19 : vdec mX7_balance 19 (.goto 4) 3 := by decide +kernel
theorem dX7_balance_22 : vdec mX7_balance 22 (.iconst 0) 1 := by decide +kernel
theorem dX7_balance_23 : vdec mX7_balance 23 (.istore_n 3) 1 := by decide +kernel
theorem dX7_balance_24 : vdec mX7_balance 24 (.iload_n 3) 1 := by decide +kernel
theorem dX7_balance_25 : vdec mX7_balance 25 (.ifCond .eq 15) 3 := by decide +kernel
theorem dX7_balance_28 : vdec mX7_balance 28 (.aload_n 0) 1 := by decide +kernel
theorem dX7_balance_29 : vdec mX7_balance 29 (.getfield 49) 3 := by decide +kernel
theorem dX7_balance_32 : vdec mX7_balance 32 (.iload_n 1) 1 := by decide +kernel
theorem dX7_balance_33 : vdec mX7_balance 33 (.iload_n 2) 1 := by decide +kernel
theorem dX7_balance_34 : vdec mX7_balance 34 (.invokevirtual 122) 3 := by decide +kernel
theorem dX7_balance_37 : vdec mX7_balance 37 (.goto 5) 3 := by decide +kernel
theorem dX7_balance_40 : vdec mX7_balance 40 (.ldc 188) 2 := by decide +kernel
theorem dX7_balance_42 : vdec mX7_balance 42 (.ireturn) 1 := by decide +kernel
theorem dX7_traced_0 : vdec mX7_traced 0 (.aload_n 0) 1 := by decide +kernel
theorem dX7_traced_1 : vdec mX7_traced 1 (.getfield 35) 3 := by decide +kernel
theorem dX7_traced_4 : vdec mX7_traced 4 (.aload_n 0) 1 := by decide +kernel
theorem dX7_traced_5 : vdec mX7_traced 5 (.getfield 49) 3 := by decide +kernel
theorem dX7_traced_8 : vdec mX7_traced 8 (.invokevirtual 210) 3 := by decide +kernel
theorem dX7_traced_11 : vdec mX7_traced 11 (.ireturn) 1 := by decide +kernel
theorem dX7_post_0 : vdec mX7_post 0 (.iload_n 1) 1 := by decide +kernel
theorem dX7_post_1 : vdec mX7_post 1 (.invokestatic 207) 3 := by decide +kernel
theorem dX7_post_4 : vdec mX7_post 4 (.ifCond .eq 14) 3 := by decide +kernel
theorem dX7_post_7 : vdec mX7_post 7 (.aload_n 0) 1 := by decide +kernel
theorem dX7_post_8 : vdec mX7_post 8 (.iload_n 2) 1 := by decide +kernel
theorem dX7_post_9 : vdec mX7_post 9 (.iload_n 3) 1 := by decide +kernel
theorem dX7_post_10 : vdec mX7_post 10 (.iload 4) 2 := by decide +kernel
theorem dX7_post_12 : vdec mX7_post 12 (.invokevirtual 214) 3 := by decide +kernel
theorem dX7_post_15 : vdec mX7_post 15 (.ifCond .ne 5) 3 := by decide +kernel
theorem dX7_post_18 : vdec mX7_post 18 (.iconst (-1)) 1 := by decide +kernel
theorem dX7_post_19 : vdec mX7_post 19 (.ireturn) 1 := by decide +kernel
theorem dX7_post_20 : vdec mX7_post 20 (.aload_n 0) 1 := by decide +kernel
theorem dX7_post_21 : vdec mX7_post 21 (.getfield 49) 3 := by decide +kernel
theorem dX7_post_24 : vdec mX7_post 24 (.iload_n 1) 1 := by decide +kernel
theorem dX7_post_25 : vdec mX7_post 25 (.invokevirtual 218) 3 := by decide +kernel
theorem dX7_post_28 : vdec mX7_post 28 (.astore 5) 2 := by decide +kernel
theorem dX7_post_30 : vdec mX7_post 30 (.aload 5) 2 := by decide +kernel
theorem dX7_post_32 : vdec mX7_post 32 (.ifnonnull 6) 3 := by decide +kernel
theorem dX7_post_35 : vdec mX7_post 35 (.bipush (-2)) 2 := by decide +kernel
theorem dX7_post_37 : vdec mX7_post 37 (.ireturn) 1 := by decide +kernel
theorem dX7_post_38 : vdec mX7_post 38 (.aload_n 0) 1 := by decide +kernel
theorem dX7_post_39 : vdec mX7_post 39 (.getfield 49) 3 := by decide +kernel
theorem dX7_post_42 : vdec mX7_post 42 (.invokevirtual 78) 3 := by decide +kernel
theorem dX7_post_45 : vdec mX7_post 45 (.iconst 1) 1 := by decide +kernel
theorem dX7_post_46 : vdec mX7_post 46 (.isub) 1 := by decide +kernel
theorem dX7_post_47 : vdec mX7_post 47 (.istore 6) 2 := by decide +kernel
theorem dX7_post_49 : vdec mX7_post 49 (.aload_n 0) 1 := by decide +kernel
theorem dX7_post_50 : vdec mX7_post 50 (.aload 5) 2 := by decide +kernel
theorem dX7_post_52 : vdec mX7_post 52 (.iload_n 2) 1 := by decide +kernel
theorem dX7_post_53 : vdec mX7_post 53 (.iload_n 3) 1 := by decide +kernel
theorem dX7_post_54 : vdec mX7_post 54 (.iload 4) 2 := by decide +kernel
theorem dX7_post_56 : vdec mX7_post 56 (.invokevirtual 221) 3 := by decide +kernel
theorem dX7_post_59 : vdec mX7_post 59 (.aload_n 0) 1 := by decide +kernel
theorem dX7_post_60 : vdec mX7_post 60 (.getfield 42) 3 := by decide +kernel
theorem dX7_post_63 : vdec mX7_post 63 (.iconst 0) 1 := by decide +kernel
theorem dX7_post_64 : vdec mX7_post 64 (.iload 6) 2 := by decide +kernel
theorem dX7_post_66 : vdec mX7_post 66 (.iconst (-1)) 1 := by decide +kernel
theorem dX7_post_67 : vdec mX7_post 67 (.invokevirtual 225) 3 := by decide +kernel
theorem dX7_post_70 : vdec mX7_post 70 (.iload 6) 2 := by decide +kernel
theorem dX7_post_72 : vdec mX7_post 72 (.ireturn) 1 := by decide +kernel
theorem dX7_more_0 : vdec mX7_more 0 (.aload_n 0) 1 := by decide +kernel
theorem dX7_more_1 : vdec mX7_more 1 (.getfield 49) 3 := by decide +kernel
theorem dX7_more_4 : vdec mX7_more 4 (.iload_n 1) 1 := by decide +kernel
theorem dX7_more_5 : vdec mX7_more 5 (.invokevirtual 81) 3 := by decide +kernel
theorem dX7_more_8 : vdec mX7_more 8 (.astore 5) 2 := by decide +kernel
theorem dX7_more_10 : vdec mX7_more 10 (.aload 5) 2 := by decide +kernel
theorem dX7_more_12 : vdec mX7_more 12 (.ifnull 14) 3 := by decide +kernel
theorem dX7_more_15 : vdec mX7_more 15 (.aload_n 0) 1 := by decide +kernel
theorem dX7_more_16 : vdec mX7_more 16 (.iload_n 2) 1 := by decide +kernel
theorem dX7_more_17 : vdec mX7_more 17 (.iload_n 3) 1 := by decide +kernel
theorem dX7_more_18 : vdec mX7_more 18 (.iload 4) 2 := by decide +kernel
theorem dX7_more_20 : vdec mX7_more 20 (.invokevirtual 214) 3 := by decide +kernel
theorem dX7_more_23 : vdec mX7_more 23 (.ifCond .ne 5) 3 := by decide +kernel
theorem dX7_more_26 : vdec mX7_more 26 (.iconst (-1)) 1 := by decide +kernel
theorem dX7_more_27 : vdec mX7_more 27 (.ireturn) 1 := by decide +kernel
theorem dX7_more_28 : vdec mX7_more 28 (.aload 5) 2 := by decide +kernel
theorem dX7_more_30 : vdec mX7_more 30 (.invokevirtual 144) 3 := by decide +kernel
theorem dX7_more_33 : vdec mX7_more 33 (.iconst 4) 1 := by decide +kernel
theorem dX7_more_34 : vdec mX7_more 34 (.if_icmp .le 6) 3 := by decide +kernel
theorem dX7_more_37 : vdec mX7_more 37 (.bipush (-2)) 2 := by decide +kernel
theorem dX7_more_39 : vdec mX7_more 39 (.ireturn) 1 := by decide +kernel
theorem dX7_more_40 : vdec mX7_more 40 (.aload_n 0) 1 := by decide +kernel
theorem dX7_more_41 : vdec mX7_more 41 (.aload 5) 2 := by decide +kernel
theorem dX7_more_43 : vdec mX7_more 43 (.iload_n 2) 1 := by decide +kernel
theorem dX7_more_44 : vdec mX7_more 44 (.iload_n 3) 1 := by decide +kernel
theorem dX7_more_45 : vdec mX7_more 45 (.iload 4) 2 := by decide +kernel
theorem dX7_more_47 : vdec mX7_more 47 (.invokevirtual 221) 3 := by decide +kernel
theorem dX7_more_50 : vdec mX7_more 50 (.aload_n 0) 1 := by decide +kernel
theorem dX7_more_51 : vdec mX7_more 51 (.getfield 42) 3 := by decide +kernel
theorem dX7_more_54 : vdec mX7_more 54 (.iconst 1) 1 := by decide +kernel
theorem dX7_more_55 : vdec mX7_more 55 (.iload_n 1) 1 := by decide +kernel
theorem dX7_more_56 : vdec mX7_more 56 (.iconst (-1)) 1 := by decide +kernel
theorem dX7_more_57 : vdec mX7_more 57 (.invokevirtual 225) 3 := by decide +kernel
theorem dX7_more_60 : vdec mX7_more 60 (.aload 5) 2 := by decide +kernel
theorem dX7_more_62 : vdec mX7_more 62 (.invokevirtual 144) 3 := by decide +kernel
theorem dX7_more_65 : vdec mX7_more 65 (.ireturn) 1 := by decide +kernel
theorem dX7_strike_0 : vdec mX7_strike 0 (.aload_n 0) 1 := by decide +kernel
theorem dX7_strike_1 : vdec mX7_strike 1 (.getfield 49) 3 := by decide +kernel
theorem dX7_strike_4 : vdec mX7_strike 4 (.iload_n 1) 1 := by decide +kernel
theorem dX7_strike_5 : vdec mX7_strike 5 (.invokevirtual 81) 3 := by decide +kernel
theorem dX7_strike_8 : vdec mX7_strike 8 (.astore_n 2) 1 := by decide +kernel
theorem dX7_strike_9 : vdec mX7_strike 9 (.aload_n 2) 1 := by decide +kernel
theorem dX7_strike_10 : vdec mX7_strike 10 (.ifnonnull 5) 3 := by decide +kernel
theorem dX7_strike_13 : vdec mX7_strike 13 (.iconst (-1)) 1 := by decide +kernel
theorem dX7_strike_14 : vdec mX7_strike 14 (.ireturn) 1 := by decide +kernel
theorem dX7_strike_15 : vdec mX7_strike 15 (.aload_n 2) 1 := by decide +kernel
theorem dX7_strike_16 : vdec mX7_strike 16 (.invokevirtual 229) 3 := by decide +kernel
theorem dX7_strike_19 : vdec mX7_strike 19 (.aload_n 0) 1 := by decide +kernel
theorem dX7_strike_20 : vdec mX7_strike 20 (.getfield 42) 3 := by decide +kernel
theorem dX7_strike_23 : vdec mX7_strike 23 (.iconst 2) 1 := by decide +kernel
theorem dX7_strike_24 : vdec mX7_strike 24 (.iload_n 1) 1 := by decide +kernel
theorem dX7_strike_25 : vdec mX7_strike 25 (.iconst (-1)) 1 := by decide +kernel
theorem dX7_strike_26 : vdec mX7_strike 26 (.invokevirtual 225) 3 := by decide +kernel
theorem dX7_strike_29 : vdec mX7_strike 29 (.aload_n 2) 1 := by decide +kernel
theorem dX7_strike_30 : vdec mX7_strike 30 (.invokevirtual 153) 3 := by decide +kernel
theorem dX7_strike_33 : vdec mX7_strike 33 (.ifCond .eq 7) 3 := by decide +kernel
theorem dX7_strike_36 : vdec mX7_strike 36 (.iconst 1) 1 := by decide +kernel
theorem dX7_strike_37 : vdec mX7_strike 37 (.goto 4) 3 := by decide +kernel
theorem dX7_strike_40 : vdec mX7_strike 40 (.iconst 0) 1 := by decide +kernel
theorem dX7_strike_41 : vdec mX7_strike 41 (.ireturn) 1 := by decide +kernel
theorem dX7_tell_0 : vdec mX7_tell 0 (.aload_n 0) 1 := by decide +kernel
theorem dX7_tell_1 : vdec mX7_tell 1 (.getfield 49) 3 := by decide +kernel
theorem dX7_tell_4 : vdec mX7_tell 4 (.iload_n 1) 1 := by decide +kernel
theorem dX7_tell_5 : vdec mX7_tell 5 (.invokevirtual 105) 3 := by decide +kernel
theorem dX7_tell_8 : vdec mX7_tell 8 (.ifCond .eq 15) 3 := by decide +kernel
theorem dX7_tell_11 : vdec mX7_tell 11 (.iload_n 2) 1 := by decide +kernel
theorem dX7_tell_12 : vdec mX7_tell 12 (.ldc 232) 2 := by decide +kernel
theorem dX7_tell_14 : vdec mX7_tell 14 (.if_icmp .lt 9) 3 := by decide +kernel
theorem dX7_tell_17 : vdec mX7_tell 17 (.iload_n 2) 1 := by decide +kernel
theorem dX7_tell_18 : vdec mX7_tell 18 (.ldc 233) 2 := by decide +kernel
theorem dX7_tell_20 : vdec mX7_tell 20 (.if_icmp .le 5) 3 := by decide +kernel
theorem dX7_tell_23 : vdec mX7_tell 23 (.iconst 0) 1 := by decide +kernel
theorem dX7_tell_24 : vdec mX7_tell 24 (.ireturn) 1 := by decide +kernel
theorem dX7_tell_25 : vdec mX7_tell 25 (.aload_n 0) 1 := by decide +kernel
theorem dX7_tell_26 : vdec mX7_tell 26 (.getfield 42) 3 := by decide +kernel
theorem dX7_tell_29 : vdec mX7_tell 29 (.iconst 3) 1 := by decide +kernel
theorem dX7_tell_30 : vdec mX7_tell 30 (.iload_n 1) 1 := by decide +kernel
theorem dX7_tell_31 : vdec mX7_tell 31 (.aload_n 0) 1 := by decide +kernel
theorem dX7_tell_32 : vdec mX7_tell 32 (.getfield 49) 3 := by decide +kernel
theorem dX7_tell_35 : vdec mX7_tell 35 (.iload_n 1) 1 := by decide +kernel
theorem dX7_tell_36 : vdec mX7_tell 36 (.invokevirtual 129) 3 := by decide +kernel
theorem dX7_tell_39 : vdec mX7_tell 39 (.invokevirtual 225) 3 := by decide +kernel
theorem dX7_tell_42 : vdec mX7_tell 42 (.aload_n 0) 1 := by decide +kernel
theorem dX7_tell_43 : vdec mX7_tell 43 (.getfield 49) 3 := by decide +kernel
theorem dX7_tell_46 : vdec mX7_tell 46 (.iload_n 1) 1 := by decide +kernel
theorem dX7_tell_47 : vdec mX7_tell 47 (.iload_n 2) 1 := by decide +kernel
theorem dX7_tell_48 : vdec mX7_tell 48 (.invokevirtual 234) 3 := by decide +kernel
theorem dX7_tell_51 : vdec mX7_tell 51 (.iconst 1) 1 := by decide +kernel
theorem dX7_tell_52 : vdec mX7_tell 52 (.ireturn) 1 := by decide +kernel
theorem dX7_turn_0 : vdec mX7_turn 0 (.aload_n 0) 1 := by decide +kernel
theorem dX7_turn_1 : vdec mX7_turn 1 (.getfield 49) 3 := by decide +kernel
theorem dX7_turn_4 : vdec mX7_turn 4 (.iload_n 1) 1 := by decide +kernel
theorem dX7_turn_5 : vdec mX7_turn 5 (.invokevirtual 105) 3 := by decide +kernel
theorem dX7_turn_8 : vdec mX7_turn 8 (.ifCond .eq 13) 3 := by decide +kernel
theorem dX7_turn_11 : vdec mX7_turn 11 (.iload_n 2) 1 := by decide +kernel
theorem dX7_turn_12 : vdec mX7_turn 12 (.ifCond .lt 9) 3 := by decide +kernel
theorem dX7_turn_15 : vdec mX7_turn 15 (.iload_n 2) 1 := by decide +kernel
theorem dX7_turn_16 : vdec mX7_turn 16 (.bipush 6) 2 := by decide +kernel
theorem dX7_turn_18 : vdec mX7_turn 18 (.if_icmp .lt 5) 3 := by decide +kernel
theorem dX7_turn_21 : vdec mX7_turn 21 (.iconst (-1)) 1 := by decide +kernel
theorem dX7_turn_22 : vdec mX7_turn 22 (.ireturn) 1 := by decide +kernel
theorem dX7_turn_23 : vdec mX7_turn 23 (.aload_n 0) 1 := by decide +kernel
theorem dX7_turn_24 : vdec mX7_turn 24 (.getfield 49) 3 := by decide +kernel
theorem dX7_turn_27 : vdec mX7_turn 27 (.iload_n 1) 1 := by decide +kernel
theorem dX7_turn_28 : vdec mX7_turn 28 (.invokevirtual 115) 3 := by decide +kernel
theorem dX7_turn_31 : vdec mX7_turn 31 (.istore_n 3) 1 := by decide +kernel
theorem dX7_turn_32 : vdec mX7_turn 32 (.aload_n 0) 1 := by decide +kernel
theorem dX7_turn_33 : vdec mX7_turn 33 (.getfield 42) 3 := by decide +kernel
theorem dX7_turn_36 : vdec mX7_turn 36 (.iconst 4) 1 := by decide +kernel
theorem dX7_turn_37 : vdec mX7_turn 37 (.iload_n 1) 1 := by decide +kernel
theorem dX7_turn_38 : vdec mX7_turn 38 (.iload_n 3) 1 := by decide +kernel
theorem dX7_turn_39 : vdec mX7_turn 39 (.invokevirtual 225) 3 := by decide +kernel
theorem dX7_turn_42 : vdec mX7_turn 42 (.aload_n 0) 1 := by decide +kernel
theorem dX7_turn_43 : vdec mX7_turn 43 (.getfield 49) 3 := by decide +kernel
theorem dX7_turn_46 : vdec mX7_turn 46 (.iload_n 1) 1 := by decide +kernel
theorem dX7_turn_47 : vdec mX7_turn 47 (.iload_n 2) 1 := by decide +kernel
theorem dX7_turn_48 : vdec mX7_turn 48 (.invokevirtual 238) 3 := by decide +kernel
theorem dX7_turn_51 : vdec mX7_turn 51 (.iload_n 3) 1 := by decide +kernel
theorem dX7_turn_52 : vdec mX7_turn 52 (.ireturn) 1 := by decide +kernel
theorem dX7_undo_0 : vdec mX7_undo 0 (.aload_n 0) 1 := by decide +kernel
theorem dX7_undo_1 : vdec mX7_undo 1 (.getfield 42) 3 := by decide +kernel
theorem dX7_undo_4 : vdec mX7_undo 4 (.invokevirtual 104) 3 := by decide +kernel
theorem dX7_undo_7 : vdec mX7_undo 7 (.ifCond .ne 5) 3 := by decide +kernel
theorem dX7_undo_10 : vdec mX7_undo 10 (.iconst (-1)) 1 := by decide +kernel
theorem dX7_undo_11 : vdec mX7_undo 11 (.ireturn) 1 := by decide +kernel
theorem dX7_undo_12 : vdec mX7_undo 12 (.aload_n 0) 1 := by decide +kernel
theorem dX7_undo_13 : vdec mX7_undo 13 (.aload_n 0) 1 := by decide +kernel
theorem dX7_undo_14 : vdec mX7_undo 14 (.getfield 42) 3 := by decide +kernel
theorem dX7_undo_17 : vdec mX7_undo 17 (.invokevirtual 241) 3 := by decide +kernel
theorem dX7_undo_20 : vdec mX7_undo 20 (.aload_n 0) 1 := by decide +kernel
theorem dX7_undo_21 : vdec mX7_undo 21 (.getfield 42) 3 := by decide +kernel
theorem dX7_undo_24 : vdec mX7_undo 24 (.invokevirtual 244) 3 := by decide +kernel
theorem dX7_undo_27 : vdec mX7_undo 27 (.aload_n 0) 1 := by decide +kernel
theorem dX7_undo_28 : vdec mX7_undo 28 (.getfield 42) 3 := by decide +kernel
theorem dX7_undo_31 : vdec mX7_undo 31 (.invokevirtual 247) 3 := by decide +kernel
theorem dX7_undo_34 : vdec mX7_undo 34 (.invokevirtual 250) 3 := by decide +kernel
theorem dX7_undo_37 : vdec mX7_undo 37 (.aload_n 0) 1 := by decide +kernel
theorem dX7_undo_38 : vdec mX7_undo 38 (.getfield 42) 3 := by decide +kernel
theorem dX7_undo_41 : vdec mX7_undo 41 (.invokevirtual 253) 3 := by decide +kernel
theorem dX7_undo_44 : vdec mX7_undo 44 (.aload_n 0) 1 := by decide +kernel
theorem dX7_undo_45 : vdec mX7_undo 45 (.getfield 42) 3 := by decide +kernel
theorem dX7_undo_48 : vdec mX7_undo 48 (.invokevirtual 104) 3 := by decide +kernel
theorem dX7_undo_51 : vdec mX7_undo 51 (.ireturn) 1 := by decide +kernel
theorem dX7_isClass_0 : vdec mX7_isClass 0 (.iload_n 0) 1 := by decide +kernel
theorem dX7_isClass_1 : vdec mX7_isClass 1 (.ifCond .lt 12) 3 := by decide +kernel
theorem dX7_isClass_4 : vdec mX7_isClass 4 (.iload_n 0) 1 := by decide +kernel
theorem dX7_isClass_5 : vdec mX7_isClass 5 (.iconst 4) 1 := by decide +kernel
theorem dX7_isClass_6 : vdec mX7_isClass 6 (.if_icmp .ge 7) 3 := by decide +kernel
theorem dX7_isClass_9 : vdec mX7_isClass 9 (.iconst 1) 1 := by decide +kernel
theorem dX7_isClass_10 : vdec mX7_isClass 10 (.goto 4) 3 := by decide +kernel
theorem dX7_isClass_13 : vdec mX7_isClass 13 (.iconst 0) 1 := by decide +kernel
theorem dX7_isClass_14 : vdec mX7_isClass 14 (.ireturn) 1 := by decide +kernel
theorem dX7_isPeriod_0 : vdec mX7_isPeriod 0 (.iload_n 0) 1 := by decide +kernel
theorem dX7_isPeriod_1 : vdec mX7_isPeriod 1 (.ifCond .lt 13) 3 := by decide +kernel
theorem dX7_isPeriod_4 : vdec mX7_isPeriod 4 (.iload_n 0) 1 := by decide +kernel
theorem dX7_isPeriod_5 : vdec mX7_isPeriod 5 (.bipush 20) 2 := by decide +kernel
theorem dX7_isPeriod_7 : vdec mX7_isPeriod 7 (.if_icmp .ge 7) 3 := by decide +kernel
theorem dX7_isPeriod_10 : vdec mX7_isPeriod 10 (.iconst 1) 1 := by decide +kernel
theorem dX7_isPeriod_11 : vdec mX7_isPeriod 11 (.goto 4) 3 := by decide +kernel
theorem dX7_isPeriod_14 : vdec mX7_isPeriod 14 (.iconst 0) 1 := by decide +kernel
theorem dX7_isPeriod_15 : vdec mX7_isPeriod 15 (.ireturn) 1 := by decide +kernel
theorem dX7_arePeriods_0 : vdec mX7_arePeriods 0 (.iload_n 0) 1 := by decide +kernel
theorem dX7_arePeriods_1 : vdec mX7_arePeriods 1 (.invokestatic 207) 3 := by decide +kernel
theorem dX7_arePeriods_4 : vdec mX7_arePeriods 4 (.ifCond .eq 19) 3 := by decide +kernel
theorem dX7_arePeriods_7 : vdec mX7_arePeriods 7 (.iload_n 1) 1 := by decide +kernel
theorem dX7_arePeriods_8 : vdec mX7_arePeriods 8 (.invokestatic 207) 3 := by decide +kernel
theorem dX7_arePeriods_11 : vdec mX7_arePeriods 11 (.ifCond .eq 12) 3 := by decide +kernel
theorem dX7_arePeriods_14 : vdec mX7_arePeriods 14 (.iload_n 0) 1 := by decide +kernel
theorem dX7_arePeriods_15 : vdec mX7_arePeriods 15 (.iload_n 1) 1 := by decide +kernel
theorem dX7_arePeriods_16 : vdec mX7_arePeriods 16 (.if_icmp .gt 7) 3 := by decide +kernel
theorem dX7_arePeriods_19 : vdec mX7_arePeriods 19 (.iconst 1) 1 := by decide +kernel
theorem dX7_arePeriods_20 : vdec mX7_arePeriods 20 (.goto 4) 3 := by decide +kernel
theorem dX7_arePeriods_23 : vdec mX7_arePeriods 23 (.iconst 0) 1 := by decide +kernel
theorem dX7_arePeriods_24 : vdec mX7_arePeriods 24 (.ireturn) 1 := by decide +kernel
theorem dX7_isTransfer_0 : vdec mX7_isTransfer 0 (.aload_n 0) 1 := by decide +kernel
theorem dX7_isTransfer_1 : vdec mX7_isTransfer 1 (.getfield 49) 3 := by decide +kernel
theorem dX7_isTransfer_4 : vdec mX7_isTransfer 4 (.iload_n 1) 1 := by decide +kernel
theorem dX7_isTransfer_5 : vdec mX7_isTransfer 5 (.invokevirtual 105) 3 := by decide +kernel
theorem dX7_isTransfer_8 : vdec mX7_isTransfer 8 (.ifCond .eq 35) 3 := by decide +kernel
theorem dX7_isTransfer_11 : vdec mX7_isTransfer 11 (.aload_n 0) 1 := by decide +kernel
theorem dX7_isTransfer_12 : vdec mX7_isTransfer 12 (.getfield 49) 3 := by decide +kernel
theorem dX7_isTransfer_15 : vdec mX7_isTransfer 15 (.iload_n 2) 1 := by decide +kernel
theorem dX7_isTransfer_16 : vdec mX7_isTransfer 16 (.invokevirtual 105) 3 := by decide +kernel
theorem dX7_isTransfer_19 : vdec mX7_isTransfer 19 (.ifCond .eq 24) 3 := by decide +kernel
theorem dX7_isTransfer_22 : vdec mX7_isTransfer 22 (.iload_n 1) 1 := by decide +kernel
theorem dX7_isTransfer_23 : vdec mX7_isTransfer 23 (.iload_n 2) 1 := by decide +kernel
theorem dX7_isTransfer_24 : vdec mX7_isTransfer 24 (.if_icmp .eq 19) 3 := by decide +kernel
theorem dX7_isTransfer_27 : vdec mX7_isTransfer 27 (.iload_n 3) 1 := by decide +kernel
theorem dX7_isTransfer_28 : vdec mX7_isTransfer 28 (.iconst 1) 1 := by decide +kernel
theorem dX7_isTransfer_29 : vdec mX7_isTransfer 29 (.if_icmp .lt 14) 3 := by decide +kernel
theorem dX7_isTransfer_32 : vdec mX7_isTransfer 32 (.iload_n 3) 1 := by decide +kernel
theorem dX7_isTransfer_33 : vdec mX7_isTransfer 33 (.ldc_w 256) 3 := by decide +kernel
theorem dX7_isTransfer_36 : vdec mX7_isTransfer 36 (.if_icmp .gt 7) 3 := by decide +kernel
theorem dX7_isTransfer_39 : vdec mX7_isTransfer 39 (.iconst 1) 1 := by decide +kernel
theorem dX7_isTransfer_40 : vdec mX7_isTransfer 40 (.goto 4) 3 := by decide +kernel
theorem dX7_isTransfer_43 : vdec mX7_isTransfer 43 (.iconst 0) 1 := by decide +kernel
theorem dX7_isTransfer_44 : vdec mX7_isTransfer 44 (.ireturn) 1 := by decide +kernel
theorem dX7_addTransfer_0 : vdec mX7_addTransfer 0 (.aload_n 1) 1 := by decide +kernel
theorem dX7_addTransfer_1 : vdec mX7_addTransfer 1 (.iload_n 2) 1 := by decide +kernel
theorem dX7_addTransfer_2 : vdec mX7_addTransfer 2 (.iload 4) 2 := by decide +kernel
theorem dX7_addTransfer_4 : vdec mX7_addTransfer 4 (.invokevirtual 257) 3 := by decide +kernel
theorem dX7_addTransfer_7 : vdec mX7_addTransfer 7 (.aload_n 1) 1 := by decide +kernel
theorem dX7_addTransfer_8 : vdec mX7_addTransfer 8 (.iload_n 3) 1 := by decide +kernel
theorem dX7_addTransfer_9 : vdec mX7_addTransfer 9 (.iload 4) 2 := by decide +kernel
theorem dX7_addTransfer_11 : vdec mX7_addTransfer 11 (.ineg) 1 := by decide +kernel
theorem dX7_addTransfer_12 : vdec mX7_addTransfer 12 (.invokevirtual 257) 3 := by decide +kernel
theorem dX7_addTransfer_15 : vdec mX7_addTransfer 15 (.aload_n 0) 1 := by decide +kernel
theorem dX7_addTransfer_16 : vdec mX7_addTransfer 16 (.aload_n 1) 1 := by decide +kernel
theorem dX7_addTransfer_17 : vdec mX7_addTransfer 17 (.invokevirtual 85) 3 := by decide +kernel
theorem dX7_addTransfer_20 : vdec mX7_addTransfer 20 (.return_) 1 := by decide +kernel
theorem dX7_settle_0 : vdec mX7_settle 0 (.aload_n 1) 1 := by decide +kernel
theorem dX7_settle_1 : vdec mX7_settle 1 (.ifnull 19) 3 := by decide +kernel
theorem dX7_settle_4 : vdec mX7_settle 4 (.aload_n 0) 1 := by decide +kernel
theorem dX7_settle_5 : vdec mX7_settle 5 (.getfield 28) 3 := by decide +kernel
theorem dX7_settle_8 : vdec mX7_settle 8 (.aload_n 1) 1 := by decide +kernel
theorem dX7_settle_9 : vdec mX7_settle 9 (.invokevirtual 260) 3 := by decide +kernel
theorem dX7_settle_12 : vdec mX7_settle 12 (.aload_n 0) 1 := by decide +kernel
theorem dX7_settle_13 : vdec mX7_settle 13 (.getfield 28) 3 := by decide +kernel
theorem dX7_settle_16 : vdec mX7_settle 16 (.aload_n 1) 1 := by decide +kernel
theorem dX7_settle_17 : vdec mX7_settle 17 (.invokevirtual 263) 3 := by decide +kernel
theorem dX7_settle_20 : vdec mX7_settle 20 (.return_) 1 := by decide +kernel
theorem dX7_takeBack_0 : vdec mX7_takeBack 0 (.aload_n 0) 1 := by decide +kernel
theorem dX7_takeBack_1 : vdec mX7_takeBack 1 (.getfield 49) 3 := by decide +kernel
theorem dX7_takeBack_4 : vdec mX7_takeBack 4 (.iload_n 2) 1 := by decide +kernel
theorem dX7_takeBack_5 : vdec mX7_takeBack 5 (.invokevirtual 81) 3 := by decide +kernel
theorem dX7_takeBack_8 : vdec mX7_takeBack 8 (.astore 4) 2 := by decide +kernel
theorem dX7_takeBack_10 : vdec mX7_takeBack 10 (.iload_n 1) 1 := by decide +kernel
theorem dX7_takeBack_11 : vdec mX7_takeBack 11 (.tableswitch 99 0 4 #[33, 43, 62, 75, 87]) 33 := by decide +kernel
theorem dX7_takeBack_44 : vdec mX7_takeBack 44 (.aload_n 0) 1 := by decide +kernel
theorem dX7_takeBack_45 : vdec mX7_takeBack 45 (.getfield 49) 3 := by decide +kernel
theorem dX7_takeBack_48 : vdec mX7_takeBack 48 (.invokevirtual 265) 3 := by decide +kernel
theorem dX7_takeBack_51 : vdec mX7_takeBack 51 (.goto 59) 3 := by decide +kernel
theorem dX7_takeBack_54 : vdec mX7_takeBack 54 (.aload 4) 2 := by decide +kernel
theorem dX7_takeBack_56 : vdec mX7_takeBack 56 (.ifnull 54) 3 := by decide +kernel
theorem dX7_takeBack_59 : vdec mX7_takeBack 59 (.aload 4) 2 := by decide +kernel
theorem dX7_takeBack_61 : vdec mX7_takeBack 61 (.invokevirtual 266) 3 := by decide +kernel
theorem dX7_takeBack_64 : vdec mX7_takeBack 64 (.aload_n 0) 1 := by decide +kernel
theorem dX7_takeBack_65 : vdec mX7_takeBack 65 (.aload 4) 2 := by decide +kernel
theorem dX7_takeBack_67 : vdec mX7_takeBack 67 (.invokevirtual 85) 3 := by decide +kernel
theorem dX7_takeBack_70 : vdec mX7_takeBack 70 (.goto 40) 3 := by decide +kernel
theorem dX7_takeBack_73 : vdec mX7_takeBack 73 (.aload 4) 2 := by decide +kernel
theorem dX7_takeBack_75 : vdec mX7_takeBack 75 (.ifnull 35) 3 := by decide +kernel
theorem dX7_takeBack_78 : vdec mX7_takeBack 78 (.aload 4) 2 := by decide +kernel
theorem dX7_takeBack_80 : vdec mX7_takeBack 80 (.invokevirtual 229) 3 := by decide +kernel
theorem dX7_takeBack_83 : vdec mX7_takeBack 83 (.goto 27) 3 := by decide +kernel
theorem dX7_takeBack_86 : vdec mX7_takeBack 86 (.aload_n 0) 1 := by decide +kernel
theorem dX7_takeBack_87 : vdec mX7_takeBack 87 (.getfield 49) 3 := by decide +kernel
theorem dX7_takeBack_90 : vdec mX7_takeBack 90 (.iload_n 2) 1 := by decide +kernel
theorem dX7_takeBack_91 : vdec mX7_takeBack 91 (.iload_n 3) 1 := by decide +kernel
theorem dX7_takeBack_92 : vdec mX7_takeBack 92 (.invokevirtual 234) 3 := by decide +kernel
theorem dX7_takeBack_95 : vdec mX7_takeBack 95 (.goto 15) 3 := by decide +kernel
theorem dX7_takeBack_98 : vdec mX7_takeBack 98 (.aload_n 0) 1 := by decide +kernel
theorem dX7_takeBack_99 : vdec mX7_takeBack 99 (.getfield 49) 3 := by decide +kernel
theorem dX7_takeBack_102 : vdec mX7_takeBack 102 (.iload_n 2) 1 := by decide +kernel
theorem dX7_takeBack_103 : vdec mX7_takeBack 103 (.iload_n 3) 1 := by decide +kernel
theorem dX7_takeBack_104 : vdec mX7_takeBack 104 (.invokevirtual 238) 3 := by decide +kernel
theorem dX7_takeBack_107 : vdec mX7_takeBack 107 (.goto 3) 3 := by decide +kernel
theorem dX7_takeBack_110 : vdec mX7_takeBack 110 (.return_) 1 := by decide +kernel
end
section
theorem dX8_thrown_0 : vdec mX8_thrown 0 (.aload_n 0) 1 := by decide +kernel
theorem dX8_thrown_1 : vdec mX8_thrown 1 (.getfield 1) 3 := by decide +kernel
theorem dX8_thrown_4 : vdec mX8_thrown 4 (.ireturn) 1 := by decide +kernel
theorem dX8_refuse_0 : vdec mX8_refuse 0 (.aload_n 0) 1 := by decide +kernel
theorem dX8_refuse_1 : vdec mX8_refuse 1 (.iconst 1) 1 := by decide +kernel
theorem dX8_refuse_2 : vdec mX8_refuse 2 (.putfield 1) 3 := by decide +kernel
theorem dX8_refuse_5 : vdec mX8_refuse 5 (.iconst 0) 1 := by decide +kernel
theorem dX8_refuse_6 : vdec mX8_refuse 6 (.ireturn) 1 := by decide +kernel
theorem dX8_isIn_0 : vdec mX8_isIn 0 (.iload_n 0) 1 := by decide +kernel
theorem dX8_isIn_1 : vdec mX8_isIn 1 (.iload_n 1) 1 := by decide +kernel
theorem dX8_isIn_2 : vdec mX8_isIn 2 (.if_icmp .lt 12) 3 := by decide +kernel
theorem dX8_isIn_5 : vdec mX8_isIn 5 (.iload_n 0) 1 := by decide +kernel
theorem dX8_isIn_6 : vdec mX8_isIn 6 (.iload_n 2) 1 := by decide +kernel
theorem dX8_isIn_7 : vdec mX8_isIn 7 (.if_icmp .gt 7) 3 := by decide +kernel
theorem dX8_isIn_10 : vdec mX8_isIn 10 (.iconst 1) 1 := by decide +kernel
theorem dX8_isIn_11 : vdec mX8_isIn 11 (.goto 4) 3 := by decide +kernel
theorem dX8_isIn_14 : vdec mX8_isIn 14 (.iconst 0) 1 := by decide +kernel
theorem dX8_isIn_15 : vdec mX8_isIn 15 (.ireturn) 1 := by decide +kernel
theorem dX8_lays_0 : vdec mX8_lays 0 (.bipush 24) 2 := by decide +kernel
theorem dX8_lays_2 : vdec mX8_lays 2 (.istore_n 2) 1 := by decide +kernel
theorem dX8_lays_3 : vdec mX8_lays 3 (.iload_n 2) 1 := by decide +kernel
theorem dX8_lays_4 : vdec mX8_lays 4 (.ifCond .lt 35) 3 := by decide +kernel
theorem dX8_lays_7 : vdec mX8_lays 7 (.aload_n 0) 1 := by decide +kernel
theorem dX8_lays_8 : vdec mX8_lays 8 (.getfield 7) 3 := by decide +kernel
theorem dX8_lays_11 : vdec mX8_lays 11 (.aload_n 0) 1 := by decide +kernel
theorem dX8_lays_12 : vdec mX8_lays 12 (.getfield 11) 3 := by decide +kernel
theorem dX8_lays_15 : vdec mX8_lays 15 (.iload_n 1) 1 := by decide +kernel
theorem dX8_lays_16 : vdec mX8_lays 16 (.iload_n 2) 1 := by decide +kernel
theorem dX8_lays_17 : vdec mX8_lays 17 (.iushr) 1 := by decide +kernel
theorem dX8_lays_18 : vdec mX8_lays 18 (.sipush 255) 3 := by decide +kernel
theorem dX8_lays_21 : vdec mX8_lays 21 (.iand) 1 := by decide +kernel
theorem dX8_lays_22 : vdec mX8_lays 22 (.iastore) 1 := by decide +kernel
theorem dX8_lays_23 : vdec mX8_lays 23 (.aload_n 0) 1 := by decide +kernel
theorem dX8_lays_24 : vdec mX8_lays 24 (.dup) 1 := by decide +kernel
theorem dX8_lays_25 : vdec mX8_lays 25 (.getfield 11) 3 := by decide +kernel
theorem dX8_lays_28 : vdec mX8_lays 28 (.iconst 1) 1 := by decide +kernel
theorem dX8_lays_29 : vdec mX8_lays 29 (.iadd) 1 := by decide +kernel
theorem dX8_lays_30 : vdec mX8_lays 30 (.putfield 11) 3 := by decide +kernel
theorem dX8_lays_33 : vdec mX8_lays 33 (.iinc 2 (-8)) 3 := by decide +kernel
theorem dX8_lays_36 : vdec mX8_lays 36 (.goto (-33)) 3 := by decide +kernel
theorem dX8_lays_39 : vdec mX8_lays 39 (.return_) 1 := by decide +kernel
theorem dX8_feed_0 : vdec mX8_feed 0 (.aload_n 0) 1 := by decide +kernel
theorem dX8_feed_1 : vdec mX8_feed 1 (.iconst 0) 1 := by decide +kernel
theorem dX8_feed_2 : vdec mX8_feed 2 (.putfield 1) 3 := by decide +kernel
theorem dX8_feed_5 : vdec mX8_feed 5 (.aload_n 0) 1 := by decide +kernel
theorem dX8_feed_6 : vdec mX8_feed 6 (.getfield 11) 3 := by decide +kernel
theorem dX8_feed_9 : vdec mX8_feed 9 (.bipush 20) 2 := by decide +kernel
theorem dX8_feed_11 : vdec mX8_feed 11 (.iadd) 1 := by decide +kernel
theorem dX8_feed_12 : vdec mX8_feed 12 (.sipush 640) 3 := by decide +kernel
theorem dX8_feed_15 : vdec mX8_feed 15 (.if_icmp .le 5) 3 := by decide +kernel
theorem dX8_feed_18 : vdec mX8_feed 18 (.iconst (-1)) 1 := by decide +kernel
theorem dX8_feed_19 : vdec mX8_feed 19 (.ireturn) 1 := by decide +kernel
theorem dX8_feed_20 : vdec mX8_feed 20 (.aload_n 0) 1 := by decide +kernel
theorem dX8_feed_21 : vdec mX8_feed 21 (.iload_n 1) 1 := by decide +kernel
theorem dX8_feed_22 : vdec mX8_feed 22 (.invokevirtual 14) 3 := by decide +kernel
theorem dX8_feed_25 : vdec mX8_feed 25 (.aload_n 0) 1 := by decide +kernel
theorem dX8_feed_26 : vdec mX8_feed 26 (.iload_n 2) 1 := by decide +kernel
theorem dX8_feed_27 : vdec mX8_feed 27 (.invokevirtual 14) 3 := by decide +kernel
theorem dX8_feed_30 : vdec mX8_feed 30 (.aload_n 0) 1 := by decide +kernel
theorem dX8_feed_31 : vdec mX8_feed 31 (.iload_n 3) 1 := by decide +kernel
theorem dX8_feed_32 : vdec mX8_feed 32 (.invokevirtual 14) 3 := by decide +kernel
theorem dX8_feed_35 : vdec mX8_feed 35 (.aload_n 0) 1 := by decide +kernel
theorem dX8_feed_36 : vdec mX8_feed 36 (.iload 4) 2 := by decide +kernel
theorem dX8_feed_38 : vdec mX8_feed 38 (.invokevirtual 14) 3 := by decide +kernel
theorem dX8_feed_41 : vdec mX8_feed 41 (.aload_n 0) 1 := by decide +kernel
theorem dX8_feed_42 : vdec mX8_feed 42 (.iload 5) 2 := by decide +kernel
theorem dX8_feed_44 : vdec mX8_feed 44 (.invokevirtual 14) 3 := by decide +kernel
theorem dX8_feed_47 : vdec mX8_feed 47 (.aload_n 0) 1 := by decide +kernel
theorem dX8_feed_48 : vdec mX8_feed 48 (.getfield 11) 3 := by decide +kernel
theorem dX8_feed_51 : vdec mX8_feed 51 (.ireturn) 1 := by decide +kernel
theorem dX8_end_0 : vdec mX8_end 0 (.aload_n 0) 1 := by decide +kernel
theorem dX8_end_1 : vdec mX8_end 1 (.iconst 0) 1 := by decide +kernel
theorem dX8_end_2 : vdec mX8_end 2 (.putfield 1) 3 := by decide +kernel
theorem dX8_end_5 : vdec mX8_end 5 (.iload_n 1) 1 := by decide +kernel
theorem dX8_end_6 : vdec mX8_end 6 (.ifCond .lt 11) 3 := by decide +kernel
theorem dX8_end_9 : vdec mX8_end 9 (.iload_n 1) 1 := by decide +kernel
theorem dX8_end_10 : vdec mX8_end 10 (.aload_n 0) 1 := by decide +kernel
theorem dX8_end_11 : vdec mX8_end 11 (.getfield 11) 3 := by decide +kernel
theorem dX8_end_14 : vdec mX8_end 14 (.if_icmp .le 5) 3 := by decide +kernel
theorem dX8_end_17 : vdec mX8_end 17 (.iconst 0) 1 := by decide +kernel
theorem dX8_end_18 : vdec mX8_end 18 (.ireturn) 1 := by decide +kernel
theorem dX8_end_19 : vdec mX8_end 19 (.aload_n 0) 1 := by decide +kernel
theorem dX8_end_20 : vdec mX8_end 20 (.iload_n 1) 1 := by decide +kernel
theorem dX8_end_21 : vdec mX8_end 21 (.putfield 11) 3 := by decide +kernel
theorem dX8_end_24 : vdec mX8_end 24 (.iconst 1) 1 := by decide +kernel
theorem dX8_end_25 : vdec mX8_end 25 (.ireturn) 1 := by decide +kernel
theorem dX8_tapeAt_0 : vdec mX8_tapeAt 0 (.iload_n 1) 1 := by decide +kernel
theorem dX8_tapeAt_1 : vdec mX8_tapeAt 1 (.aload_n 0) 1 := by decide +kernel
theorem dX8_tapeAt_2 : vdec mX8_tapeAt 2 (.getfield 18) 3 := by decide +kernel
theorem dX8_tapeAt_5 : vdec mX8_tapeAt 5 (.if_icmp .ge 12) 3 := by decide +kernel
theorem dX8_tapeAt_8 : vdec mX8_tapeAt 8 (.aload_n 0) 1 := by decide +kernel
theorem dX8_tapeAt_9 : vdec mX8_tapeAt 9 (.getfield 7) 3 := by decide +kernel
theorem dX8_tapeAt_12 : vdec mX8_tapeAt 12 (.iload_n 1) 1 := by decide +kernel
theorem dX8_tapeAt_13 : vdec mX8_tapeAt 13 (.iaload) 1 := by decide +kernel
theorem dX8_tapeAt_14 : vdec mX8_tapeAt 14 (.goto 4) 3 := by decide +kernel
theorem dX8_tapeAt_17 : vdec mX8_tapeAt 17 (.iconst 0) 1 := by decide +kernel
theorem dX8_tapeAt_18 : vdec mX8_tapeAt 18 (.ireturn) 1 := by decide +kernel
theorem dX8_isDigit_0 : vdec mX8_isDigit 0 (.iload_n 0) 1 := by decide +kernel
theorem dX8_isDigit_1 : vdec mX8_isDigit 1 (.bipush 48) 2 := by decide +kernel
theorem dX8_isDigit_3 : vdec mX8_isDigit 3 (.if_icmp .lt 13) 3 := by decide +kernel
theorem dX8_isDigit_6 : vdec mX8_isDigit 6 (.iload_n 0) 1 := by decide +kernel
theorem dX8_isDigit_7 : vdec mX8_isDigit 7 (.bipush 57) 2 := by decide +kernel
theorem dX8_isDigit_9 : vdec mX8_isDigit 9 (.if_icmp .gt 7) 3 := by decide +kernel
theorem dX8_isDigit_12 : vdec mX8_isDigit 12 (.iconst 1) 1 := by decide +kernel
theorem dX8_isDigit_13 : vdec mX8_isDigit 13 (.goto 4) 3 := by decide +kernel
theorem dX8_isDigit_16 : vdec mX8_isDigit 16 (.iconst 0) 1 := by decide +kernel
theorem dX8_isDigit_17 : vdec mX8_isDigit 17 (.ireturn) 1 := by decide +kernel
theorem dX8_isLetter_0 : vdec mX8_isLetter 0 (.iload_n 0) 1 := by decide +kernel
theorem dX8_isLetter_1 : vdec mX8_isLetter 1 (.bipush 97) 2 := by decide +kernel
theorem dX8_isLetter_3 : vdec mX8_isLetter 3 (.if_icmp .lt 13) 3 := by decide +kernel
theorem dX8_isLetter_6 : vdec mX8_isLetter 6 (.iload_n 0) 1 := by decide +kernel
theorem dX8_isLetter_7 : vdec mX8_isLetter 7 (.bipush 122) 2 := by decide +kernel
theorem dX8_isLetter_9 : vdec mX8_isLetter 9 (.if_icmp .gt 7) 3 := by decide +kernel
theorem dX8_isLetter_12 : vdec mX8_isLetter 12 (.iconst 1) 1 := by decide +kernel
theorem dX8_isLetter_13 : vdec mX8_isLetter 13 (.goto 4) 3 := by decide +kernel
theorem dX8_isLetter_16 : vdec mX8_isLetter 16 (.iconst 0) 1 := by decide +kernel
theorem dX8_isLetter_17 : vdec mX8_isLetter 17 (.ireturn) 1 := by decide +kernel
theorem dX8_go_0 : vdec mX8_go 0 (.aload_n 0) 1 := by decide +kernel
theorem dX8_go_1 : vdec mX8_go 1 (.getfield 21) 3 := by decide +kernel
theorem dX8_go_4 : vdec mX8_go 4 (.aload_n 0) 1 := by decide +kernel
theorem dX8_go_5 : vdec mX8_go 5 (.getfield 18) 3 := by decide +kernel
theorem dX8_go_8 : vdec mX8_go 8 (.if_icmp .ge 44) 3 := by decide +kernel
theorem dX8_go_11 : vdec mX8_go 11 (.aload_n 0) 1 := by decide +kernel
theorem dX8_go_12 : vdec mX8_go 12 (.getfield 7) 3 := by decide +kernel
theorem dX8_go_15 : vdec mX8_go 15 (.aload_n 0) 1 := by decide +kernel
theorem dX8_go_16 : vdec mX8_go 16 (.getfield 21) 3 := by decide +kernel
theorem dX8_go_19 : vdec mX8_go 19 (.iaload) 1 := by decide +kernel
theorem dX8_go_20 : vdec mX8_go 20 (.bipush 32) 2 := by decide +kernel
theorem dX8_go_22 : vdec mX8_go 22 (.if_icmp .eq 17) 3 := by decide +kernel
theorem dX8_go_25 : vdec mX8_go 25 (.aload_n 0) 1 := by decide +kernel
theorem dX8_go_26 : vdec mX8_go 26 (.getfield 7) 3 := by decide +kernel
theorem dX8_go_29 : vdec mX8_go 29 (.aload_n 0) 1 := by decide +kernel
theorem dX8_go_30 : vdec mX8_go 30 (.getfield 21) 3 := by decide +kernel
theorem dX8_go_33 : vdec mX8_go 33 (.iaload) 1 := by decide +kernel
theorem dX8_go_34 : vdec mX8_go 34 (.bipush 10) 2 := by decide +kernel
theorem dX8_go_36 : vdec mX8_go 36 (.if_icmp .ne 16) 3 := by decide +kernel
theorem dX8_go_39 : vdec mX8_go 39 (.aload_n 0) 1 := by decide +kernel
theorem dX8_go_40 : vdec mX8_go 40 (.dup) 1 := by decide +kernel
theorem dX8_go_41 : vdec mX8_go 41 (.getfield 21) 3 := by decide +kernel
theorem dX8_go_44 : vdec mX8_go 44 (.iconst 1) 1 := by decide +kernel
theorem dX8_go_45 : vdec mX8_go 45 (.iadd) 1 := by decide +kernel
theorem dX8_go_46 : vdec mX8_go 46 (.putfield 21) 3 := by decide +kernel
theorem dX8_go_49 : vdec mX8_go 49 (.goto (-49)) 3 := by decide +kernel
theorem dX8_go_52 : vdec mX8_go 52 (.aload_n 0) 1 := by decide +kernel
theorem dX8_go_53 : vdec mX8_go 53 (.aload_n 0) 1 := by decide +kernel
theorem dX8_go_54 : vdec mX8_go 54 (.getfield 21) 3 := by decide +kernel
theorem dX8_go_57 : vdec mX8_go 57 (.putfield 24) 3 := by decide +kernel
theorem dX8_go_60 : vdec mX8_go 60 (.aload_n 0) 1 := by decide +kernel
theorem dX8_go_61 : vdec mX8_go 61 (.getfield 18) 3 := by decide +kernel
theorem dX8_go_64 : vdec mX8_go 64 (.sipush 600) 3 := by decide +kernel
theorem dX8_go_67 : vdec mX8_go 67 (.if_icmp .le 26) 3 := by decide +kernel
theorem dX8_go_70 : vdec mX8_go 70 (.aload_n 0) 1 := by decide +kernel
theorem dX8_go_71 : vdec mX8_go 71 (.getfield 24) 3 := by decide +kernel
theorem dX8_go_74 : vdec mX8_go 74 (.sipush 600) 3 := by decide +kernel
theorem dX8_go_77 : vdec mX8_go 77 (.if_icmp .lt 16) 3 := by decide +kernel
theorem dX8_go_80 : vdec mX8_go 80 (.aload_n 0) 1 := by decide +kernel
theorem dX8_go_81 : vdec mX8_go 81 (.sipush 600) 3 := by decide +kernel
theorem dX8_go_84 : vdec mX8_go 84 (.putfield 24) 3 := by decide +kernel
theorem dX8_go_87 : vdec mX8_go 87 (.aload_n 0) 1 := by decide +kernel
theorem dX8_go_88 : vdec mX8_go 88 (.iconst 1) 1 := by decide +kernel
theorem dX8_go_89 : vdec mX8_go 89 (.putfield 27) 3 := by decide +kernel
theorem dX8_go_92 : vdec mX8_go 92 (.return_) 1 := by decide +kernel
theorem dX8_go_93 : vdec mX8_go 93 (.aload_n 0) 1 := by decide +kernel
theorem dX8_go_94 : vdec mX8_go 94 (.getfield 21) 3 := by decide +kernel
theorem dX8_go_97 : vdec mX8_go 97 (.aload_n 0) 1 := by decide +kernel
theorem dX8_go_98 : vdec mX8_go 98 (.getfield 18) 3 := by decide +kernel
theorem dX8_go_101 : vdec mX8_go 101 (.if_icmp .lt 9) 3 := by decide +kernel
theorem dX8_go_104 : vdec mX8_go 104 (.aload_n 0) 1 := by decide +kernel
theorem dX8_go_105 : vdec mX8_go 105 (.iconst 0) 1 := by decide +kernel
theorem dX8_go_106 : vdec mX8_go 106 (.putfield 27) 3 := by decide +kernel
theorem dX8_go_109 : vdec mX8_go 109 (.return_) 1 := by decide +kernel
theorem dX8_go_110 : vdec mX8_go 110 (.aload_n 0) 1 := by decide +kernel
theorem dX8_go_111 : vdec mX8_go 111 (.getfield 7) 3 := by decide +kernel
theorem dX8_go_114 : vdec mX8_go 114 (.aload_n 0) 1 := by decide +kernel
theorem dX8_go_115 : vdec mX8_go 115 (.getfield 21) 3 := by decide +kernel
theorem dX8_go_118 : vdec mX8_go 118 (.iaload) 1 := by decide +kernel
theorem dX8_go_119 : vdec mX8_go 119 (.istore_n 1) 1 := by decide +kernel
theorem dX8_go_120 : vdec mX8_go 120 (.iload_n 1) 1 := by decide +kernel
theorem dX8_go_121 : vdec mX8_go 121 (.invokestatic 30) 3 := by decide +kernel
theorem dX8_go_124 : vdec mX8_go 124 (.ifCond .ne 48) 3 := by decide +kernel
theorem dX8_go_127 : vdec mX8_go 127 (.iload_n 1) 1 := by decide +kernel
theorem dX8_go_128 : vdec mX8_go 128 (.invokestatic 34) 3 := by decide +kernel
theorem dX8_go_131 : vdec mX8_go 131 (.ifCond .ne 41) 3 := by decide +kernel
theorem dX8_go_134 : vdec mX8_go 134 (.aload_n 0) 1 := by decide +kernel
theorem dX8_go_135 : vdec mX8_go 135 (.iload_n 1) 1 := by decide +kernel
theorem dX8_go_136 : vdec mX8_go 136 (.bipush 59) 2 := by decide +kernel
theorem dX8_go_138 : vdec mX8_go 138 (.if_icmp .eq 9) 3 := by decide +kernel
theorem dX8_go_141 : vdec mX8_go 141 (.iload_n 1) 1 := by decide +kernel
theorem dX8_go_142 : vdec mX8_go 142 (.bipush 45) 2 := by decide +kernel
theorem dX8_go_144 : vdec mX8_go 144 (.if_icmp .ne 7) 3 := by decide +kernel
theorem dX8_go_147 : vdec mX8_go 147 (.iconst 4) 1 := by decide +kernel
theorem dX8_go_148 : vdec mX8_go 148 (.goto 4) 3 := by decide +kernel
theorem dX8_go_151 : vdec mX8_go 151 (.iconst 1) 1 := by decide +kernel
theorem dX8_go_152 : vdec mX8_go 152 (.putfield 27) 3 := by decide +kernel
theorem dX8_go_155 : vdec mX8_go 155 (.aload_n 0) 1 := by decide +kernel
theorem dX8_go_156 : vdec mX8_go 156 (.iload_n 1) 1 := by decide +kernel
theorem dX8_go_157 : vdec mX8_go 157 (.i2l) 1 := by decide +kernel
theorem dX8_go_158 : vdec mX8_go 158 (.putfield 37) 3 := by decide +kernel
theorem dX8_go_161 : vdec mX8_go 161 (.aload_n 0) 1 := by decide +kernel
theorem dX8_go_162 : vdec mX8_go 162 (.dup) 1 := by decide +kernel
theorem dX8_go_163 : vdec mX8_go 163 (.getfield 21) 3 := by decide +kernel
theorem dX8_go_166 : vdec mX8_go 166 (.iconst 1) 1 := by decide +kernel
theorem dX8_go_167 : vdec mX8_go 167 (.iadd) 1 := by decide +kernel
theorem dX8_go_168 : vdec mX8_go 168 (.putfield 21) 3 := by decide +kernel
theorem dX8_go_171 : vdec mX8_go 171 (.return_) 1 := by decide +kernel
theorem dX8_go_172 : vdec mX8_go 172 (.iload_n 1) 1 := by decide +kernel
theorem dX8_go_173 : vdec mX8_go 173 (.invokestatic 30) 3 := by decide +kernel
theorem dX8_go_176 : vdec mX8_go 176 (.istore_n 2) 1 := by decide +kernel
theorem dX8_go_177 : vdec mX8_go 177 (.iconst 1) 1 := by decide +kernel
theorem dX8_go_178 : vdec mX8_go 178 (.istore_n 3) 1 := by decide +kernel
theorem dX8_go_179 : vdec mX8_go 179 (.aload_n 0) 1 := by decide +kernel
theorem dX8_go_180 : vdec mX8_go 180 (.lconst 0) 1 := by decide +kernel
theorem dX8_go_181 : vdec mX8_go 181 (.putfield 37) 3 := by decide +kernel
theorem dX8_go_184 : vdec mX8_go 184 (.aload_n 0) 1 := by decide +kernel
theorem dX8_go_185 : vdec mX8_go 185 (.iconst 0) 1 := by decide +kernel
theorem dX8_go_186 : vdec mX8_go 186 (.putfield 41) 3 := by decide +kernel
theorem dX8_go_189 : vdec mX8_go 189 (.aload_n 0) 1 := by decide +kernel
theorem dX8_go_190 : vdec mX8_go 190 (.aload_n 0) 1 := by decide +kernel
theorem dX8_go_191 : vdec mX8_go 191 (.getfield 21) 3 := by decide +kernel
theorem dX8_go_194 : vdec mX8_go 194 (.invokevirtual 44) 3 := by decide +kernel
theorem dX8_go_197 : vdec mX8_go 197 (.invokestatic 30) 3 := by decide +kernel
theorem dX8_go_200 : vdec mX8_go 200 (.ifCond .ne 17) 3 := by decide +kernel
theorem dX8_go_203 : vdec mX8_go 203 (.aload_n 0) 1 := by decide +kernel
theorem dX8_go_204 : vdec mX8_go 204 (.aload_n 0) 1 := by decide +kernel
theorem dX8_go_205 : vdec mX8_go 205 (.getfield 21) 3 := by decide +kernel
theorem dX8_go_208 : vdec mX8_go 208 (.invokevirtual 44) 3 := by decide +kernel
theorem dX8_go_211 : vdec mX8_go 211 (.invokestatic 34) 3 := by decide +kernel
theorem dX8_go_214 : vdec mX8_go 214 (.ifCond .eq 110) 3 := by decide +kernel
theorem dX8_go_217 : vdec mX8_go 217 (.aload_n 0) 1 := by decide +kernel
theorem dX8_go_218 : vdec mX8_go 218 (.getfield 7) 3 := by decide +kernel
theorem dX8_go_221 : vdec mX8_go 221 (.aload_n 0) 1 := by decide +kernel
theorem dX8_go_222 : vdec mX8_go 222 (.getfield 21) 3 := by decide +kernel
theorem dX8_go_225 : vdec mX8_go 225 (.iaload) 1 := by decide +kernel
theorem dX8_go_226 : vdec mX8_go 226 (.istore 4) 2 := by decide +kernel
theorem dX8_go_228 : vdec mX8_go 228 (.iload_n 3) 1 := by decide +kernel
theorem dX8_go_229 : vdec mX8_go 229 (.ifCond .eq 16) 3 := by decide +kernel
theorem dX8_go_232 : vdec mX8_go 232 (.iload 4) 2 := by decide +kernel
theorem dX8_go_234 : vdec mX8_go 234 (.invokestatic 30) 3 := by decide +kernel
theorem dX8_go_237 : vdec mX8_go 237 (.iload_n 2) 1 := by decide +kernel
theorem dX8_go_238 : vdec mX8_go 238 (.if_icmp .ne 7) 3 := by decide +kernel
theorem dX8_go_241 : vdec mX8_go 241 (.iconst 1) 1 := by decide +kernel
theorem dX8_go_242 : vdec mX8_go 242 (.goto 4) 3 := by decide +kernel
theorem dX8_go_245 : vdec mX8_go 245 (.iconst 0) 1 := by decide +kernel
theorem dX8_go_246 : vdec mX8_go 246 (.istore_n 3) 1 := by decide +kernel
theorem dX8_go_247 : vdec mX8_go 247 (.aload_n 0) 1 := by decide +kernel
theorem dX8_go_248 : vdec mX8_go 248 (.getfield 21) 3 := by decide +kernel
theorem dX8_go_251 : vdec mX8_go 251 (.aload_n 0) 1 := by decide +kernel
theorem dX8_go_252 : vdec mX8_go 252 (.getfield 24) 3 := by decide +kernel
theorem dX8_go_255 : vdec mX8_go 255 (.isub) 1 := by decide +kernel
theorem dX8_go_256 : vdec mX8_go 256 (.bipush 9) 2 := by decide +kernel
theorem dX8_go_258 : vdec mX8_go 258 (.if_icmp .ge 23) 3 := by decide +kernel
theorem dX8_go_261 : vdec mX8_go 261 (.aload_n 0) 1 := by decide +kernel
theorem dX8_go_262 : vdec mX8_go 262 (.ldc2_w 48) 3 := by decide +kernel
theorem dX8_go_265 : vdec mX8_go 265 (.aload_n 0) 1 := by decide +kernel
theorem dX8_go_266 : vdec mX8_go 266 (.getfield 37) 3 := by decide +kernel
theorem dX8_go_269 : vdec mX8_go 269 (.lmul) 1 := by decide +kernel
theorem dX8_go_270 : vdec mX8_go 270 (.iload 4) 2 := by decide +kernel
theorem dX8_go_272 : vdec mX8_go 272 (.i2l) 1 := by decide +kernel
theorem dX8_go_273 : vdec mX8_go 273 (.ladd) 1 := by decide +kernel
theorem dX8_go_274 : vdec mX8_go 274 (.ldc2_w 50) 3 := by decide +kernel
theorem dX8_go_277 : vdec mX8_go 277 (.lsub) 1 := by decide +kernel
theorem dX8_go_278 : vdec mX8_go 278 (.putfield 37) 3 := by decide +kernel
theorem dX8_go_281 : vdec mX8_go 281 (.aload_n 0) 1 := by decide +kernel
theorem dX8_go_282 : vdec mX8_go 282 (.getfield 21) 3 := by decide +kernel
theorem dX8_go_285 : vdec mX8_go 285 (.aload_n 0) 1 := by decide +kernel
theorem dX8_go_286 : vdec mX8_go 286 (.getfield 24) 3 := by decide +kernel
theorem dX8_go_289 : vdec mX8_go 289 (.isub) 1 := by decide +kernel
theorem dX8_go_290 : vdec mX8_go 290 (.iconst 5) 1 := by decide +kernel
theorem dX8_go_291 : vdec mX8_go 291 (.if_icmp .ge 20) 3 := by decide +kernel
theorem dX8_go_294 : vdec mX8_go 294 (.aload_n 0) 1 := by decide +kernel
theorem dX8_go_295 : vdec mX8_go 295 (.bipush 10) 2 := by decide +kernel
theorem dX8_go_297 : vdec mX8_go 297 (.aload_n 0) 1 := by decide +kernel
theorem dX8_go_298 : vdec mX8_go 298 (.getfield 41) 3 := by decide +kernel
theorem dX8_go_301 : vdec mX8_go 301 (.imul) 1 := by decide +kernel
theorem dX8_go_302 : vdec mX8_go 302 (.iload 4) 2 := by decide +kernel
theorem dX8_go_304 : vdec mX8_go 304 (.iadd) 1 := by decide +kernel
theorem dX8_go_305 : vdec mX8_go 305 (.bipush 48) 2 := by decide +kernel
theorem dX8_go_307 : vdec mX8_go 307 (.isub) 1 := by decide +kernel
theorem dX8_go_308 : vdec mX8_go 308 (.putfield 41) 3 := by decide +kernel
theorem dX8_go_311 : vdec mX8_go 311 (.aload_n 0) 1 := by decide +kernel
theorem dX8_go_312 : vdec mX8_go 312 (.dup) 1 := by decide +kernel
theorem dX8_go_313 : vdec mX8_go 313 (.getfield 21) 3 := by decide +kernel
theorem dX8_go_316 : vdec mX8_go 316 (.iconst 1) 1 := by decide +kernel
theorem dX8_go_317 : vdec mX8_go 317 (.iadd) 1 := by decide +kernel
theorem dX8_go_318 : vdec mX8_go 318 (.putfield 21) 3 := by decide +kernel
theorem dX8_go_321 : vdec mX8_go 321 (.goto (-132)) 3 := by decide +kernel
theorem dX8_go_324 : vdec mX8_go 324 (.aload_n 0) 1 := by decide +kernel
theorem dX8_go_325 : vdec mX8_go 325 (.iload_n 3) 1 := by decide +kernel
theorem dX8_go_326 : vdec mX8_go 326 (.ifCond .eq 20) 3 := by decide +kernel
theorem dX8_go_329 : vdec mX8_go 329 (.iload_n 2) 1 := by decide +kernel
theorem dX8_go_330 : vdec mX8_go 330 (.ifCond .ne 20) 3 := by decide +kernel
theorem dX8_go_333 : vdec mX8_go 333 (.aload_n 0) 1 := by decide +kernel
theorem dX8_go_334 : vdec mX8_go 334 (.getfield 21) 3 := by decide +kernel
theorem dX8_go_337 : vdec mX8_go 337 (.aload_n 0) 1 := by decide +kernel
theorem dX8_go_338 : vdec mX8_go 338 (.getfield 24) 3 := by decide +kernel
theorem dX8_go_341 : vdec mX8_go 341 (.isub) 1 := by decide +kernel
theorem dX8_go_342 : vdec mX8_go 342 (.iconst 5) 1 := by decide +kernel
theorem dX8_go_343 : vdec mX8_go 343 (.if_icmp .le 7) 3 := by decide +kernel
theorem dX8_go_346 : vdec mX8_go 346 (.iconst 1) 1 := by decide +kernel
theorem dX8_go_347 : vdec mX8_go 347 (.goto 12) 3 := by decide +kernel
theorem dX8_go_350 : vdec mX8_go 350 (.iload_n 2) 1 := by decide +kernel
theorem dX8_go_351 : vdec mX8_go 351 (.ifCond .eq 7) 3 := by decide +kernel
theorem dX8_go_354 : vdec mX8_go 354 (.iconst 2) 1 := by decide +kernel
theorem dX8_go_355 : vdec mX8_go 355 (.goto 4) 3 := by decide +kernel
theorem dX8_go_358 : vdec mX8_go 358 (.iconst 3) 1 := by decide +kernel
theorem dX8_go_359 : vdec mX8_go 359 (.putfield 27) 3 := by decide +kernel
theorem dX8_go_362 : vdec mX8_go 362 (.return_) 1 := by decide +kernel
theorem dX8_two_0 : vdec mX8_two 0 (.ldc2_w 48) 3 := by decide +kernel
theorem dX8_two_3 : vdec mX8_two 3 (.iload_n 0) 1 := by decide +kernel
theorem dX8_two_4 : vdec mX8_two 4 (.i2l) 1 := by decide +kernel
theorem dX8_two_5 : vdec mX8_two 5 (.ldc2_w 50) 3 := by decide +kernel
theorem dX8_two_8 : vdec mX8_two 8 (.lsub) 1 := by decide +kernel
theorem dX8_two_9 : vdec mX8_two 9 (.lmul) 1 := by decide +kernel
theorem dX8_two_10 : vdec mX8_two 10 (.iload_n 1) 1 := by decide +kernel
theorem dX8_two_11 : vdec mX8_two 11 (.i2l) 1 := by decide +kernel
theorem dX8_two_12 : vdec mX8_two 12 (.ladd) 1 := by decide +kernel
theorem dX8_two_13 : vdec mX8_two 13 (.ldc2_w 50) 3 := by decide +kernel
theorem dX8_two_16 : vdec mX8_two 16 (.lsub) 1 := by decide +kernel
theorem dX8_two_17 : vdec mX8_two 17 (.lreturn) 1 := by decide +kernel
theorem dX8_four_0 : vdec mX8_four 0 (.ldc2_w 52) 3 := by decide +kernel
theorem dX8_four_3 : vdec mX8_four 3 (.iload_n 0) 1 := by decide +kernel
theorem dX8_four_4 : vdec mX8_four 4 (.iload_n 1) 1 := by decide +kernel
theorem dX8_four_5 : vdec mX8_four 5 (.invokestatic 54) 3 := by decide +kernel
theorem dX8_four_8 : vdec mX8_four 8 (.lmul) 1 := by decide +kernel
theorem dX8_four_9 : vdec mX8_four 9 (.iload_n 2) 1 := by decide +kernel
theorem dX8_four_10 : vdec mX8_four 10 (.iload_n 3) 1 := by decide +kernel
theorem dX8_four_11 : vdec mX8_four 11 (.invokestatic 54) 3 := by decide +kernel
theorem dX8_four_14 : vdec mX8_four 14 (.ladd) 1 := by decide +kernel
theorem dX8_four_15 : vdec mX8_four 15 (.lreturn) 1 := by decide +kernel
theorem dX8_seven_0 : vdec mX8_seven 0 (.ldc2_w 58) 3 := by decide +kernel
theorem dX8_seven_3 : vdec mX8_seven 3 (.iload_n 0) 1 := by decide +kernel
theorem dX8_seven_4 : vdec mX8_seven 4 (.iload_n 1) 1 := by decide +kernel
theorem dX8_seven_5 : vdec mX8_seven 5 (.iload_n 2) 1 := by decide +kernel
theorem dX8_seven_6 : vdec mX8_seven 6 (.iload_n 3) 1 := by decide +kernel
theorem dX8_seven_7 : vdec mX8_seven 7 (.invokestatic 60) 3 := by decide +kernel
theorem dX8_seven_10 : vdec mX8_seven 10 (.lmul) 1 := by decide +kernel
theorem dX8_seven_11 : vdec mX8_seven 11 (.ldc2_w 48) 3 := by decide +kernel
theorem dX8_seven_14 : vdec mX8_seven 14 (.iload 4) 2 := by decide +kernel
theorem dX8_seven_16 : vdec mX8_seven 16 (.iload 5) 2 := by decide +kernel
theorem dX8_seven_18 : vdec mX8_seven 18 (.invokestatic 54) 3 := by decide +kernel
theorem dX8_seven_21 : vdec mX8_seven 21 (.lmul) 1 := by decide +kernel
theorem dX8_seven_22 : vdec mX8_seven 22 (.ladd) 1 := by decide +kernel
theorem dX8_seven_23 : vdec mX8_seven 23 (.iload 6) 2 := by decide +kernel
theorem dX8_seven_25 : vdec mX8_seven 25 (.i2l) 1 := by decide +kernel
theorem dX8_seven_26 : vdec mX8_seven 26 (.ladd) 1 := by decide +kernel
theorem dX8_seven_27 : vdec mX8_seven 27 (.ldc2_w 50) 3 := by decide +kernel
theorem dX8_seven_30 : vdec mX8_seven 30 (.lsub) 1 := by decide +kernel
theorem dX8_seven_31 : vdec mX8_seven 31 (.lreturn) 1 := by decide +kernel
theorem dX8_isWord_0 : vdec mX8_isWord 0 (.aload_n 0) 1 := by decide +kernel
theorem dX8_isWord_1 : vdec mX8_isWord 1 (.getfield 27) 3 := by decide +kernel
theorem dX8_isWord_4 : vdec mX8_isWord 4 (.iconst 2) 1 := by decide +kernel
theorem dX8_isWord_5 : vdec mX8_isWord 5 (.if_icmp .ne 16) 3 := by decide +kernel
theorem dX8_isWord_8 : vdec mX8_isWord 8 (.aload_n 0) 1 := by decide +kernel
theorem dX8_isWord_9 : vdec mX8_isWord 9 (.getfield 37) 3 := by decide +kernel
theorem dX8_isWord_12 : vdec mX8_isWord 12 (.lload_n 1) 1 := by decide +kernel
theorem dX8_isWord_13 : vdec mX8_isWord 13 (.lcmp) 1 := by decide +kernel
theorem dX8_isWord_14 : vdec mX8_isWord 14 (.ifCond .ne 7) 3 := by decide +kernel
theorem dX8_isWord_17 : vdec mX8_isWord 17 (.iconst 1) 1 := by decide +kernel
theorem dX8_isWord_18 : vdec mX8_isWord 18 (.goto 4) 3 := by decide +kernel
theorem dX8_isWord_21 : vdec mX8_isWord 21 (.iconst 0) 1 := by decide +kernel
theorem dX8_isWord_22 : vdec mX8_isWord 22 (.ireturn) 1 := by decide +kernel
theorem dX8_isSign_0 : vdec mX8_isSign 0 (.aload_n 0) 1 := by decide +kernel
theorem dX8_isSign_1 : vdec mX8_isSign 1 (.getfield 27) 3 := by decide +kernel
theorem dX8_isSign_4 : vdec mX8_isSign 4 (.iconst 4) 1 := by decide +kernel
theorem dX8_isSign_5 : vdec mX8_isSign 5 (.if_icmp .ne 17) 3 := by decide +kernel
theorem dX8_isSign_8 : vdec mX8_isSign 8 (.aload_n 0) 1 := by decide +kernel
theorem dX8_isSign_9 : vdec mX8_isSign 9 (.getfield 37) 3 := by decide +kernel
theorem dX8_isSign_12 : vdec mX8_isSign 12 (.iload_n 1) 1 := by decide +kernel
theorem dX8_isSign_13 : vdec mX8_isSign 13 (.i2l) 1 := by decide +kernel
theorem dX8_isSign_14 : vdec mX8_isSign 14 (.lcmp) 1 := by decide +kernel
theorem dX8_isSign_15 : vdec mX8_isSign 15 (.ifCond .ne 7) 3 := by decide +kernel
theorem dX8_isSign_18 : vdec mX8_isSign 18 (.iconst 1) 1 := by decide +kernel
theorem dX8_isSign_19 : vdec mX8_isSign 19 (.goto 4) 3 := by decide +kernel
theorem dX8_isSign_22 : vdec mX8_isSign 22 (.iconst 0) 1 := by decide +kernel
theorem dX8_isSign_23 : vdec mX8_isSign 23 (.ireturn) 1 := by decide +kernel
theorem dX8_bad_0 : vdec mX8_bad 0 (.aload_n 0) 1 := by decide +kernel
theorem dX8_bad_1 : vdec mX8_bad 1 (.aload_n 0) 1 := by decide +kernel
theorem dX8_bad_2 : vdec mX8_bad 2 (.getfield 27) 3 := by decide +kernel
theorem dX8_bad_5 : vdec mX8_bad 5 (.iconst 1) 1 := by decide +kernel
theorem dX8_bad_6 : vdec mX8_bad 6 (.if_icmp .ne 7) 3 := by decide +kernel
theorem dX8_bad_9 : vdec mX8_bad 9 (.iconst 1) 1 := by decide +kernel
theorem dX8_bad_10 : vdec mX8_bad 10 (.goto 4) 3 := by decide +kernel
theorem dX8_bad_13 : vdec mX8_bad 13 (.iload_n 1) 1 := by decide +kernel
theorem dX8_bad_14 : vdec mX8_bad 14 (.putfield 64) 3 := by decide +kernel
theorem dX8_bad_17 : vdec mX8_bad 17 (.aload_n 0) 1 := by decide +kernel
theorem dX8_bad_18 : vdec mX8_bad 18 (.aload_n 0) 1 := by decide +kernel
theorem dX8_bad_19 : vdec mX8_bad 19 (.getfield 24) 3 := by decide +kernel
theorem dX8_bad_22 : vdec mX8_bad 22 (.putfield 67) 3 := by decide +kernel
theorem dX8_bad_25 : vdec mX8_bad 25 (.iconst 0) 1 := by decide +kernel
theorem dX8_bad_26 : vdec mX8_bad 26 (.ireturn) 1 := by decide +kernel
theorem dX8_init_0 : vdec mX8_init 0 (.aload_n 0) 1 := by decide +kernel
theorem dX8_init_1 : vdec mX8_init 1 (.invokespecial 70) 3 := by decide +kernel
theorem dX8_init_4 : vdec mX8_init 4 (.aload_n 0) 1 := by decide +kernel
theorem dX8_init_5 : vdec mX8_init 5 (.sipush 640) 3 := by decide +kernel
theorem dX8_init_8 : vdec mX8_init 8 (.newarray .int) 2 := by decide +kernel
theorem dX8_init_10 : vdec mX8_init 10 (.putfield 7) 3 := by decide +kernel
theorem dX8_init_13 : vdec mX8_init 13 (.aload_n 0) 1 := by decide +kernel
theorem dX8_init_14 : vdec mX8_init 14 (.sipush 500) 3 := by decide +kernel
theorem dX8_init_17 : vdec mX8_init 17 (.newarray .int) 2 := by decide +kernel
theorem dX8_init_19 : vdec mX8_init 19 (.putfield 76) 3 := by decide +kernel
theorem dX8_init_22 : vdec mX8_init 22 (.aload_n 0) 1 := by decide +kernel
theorem dX8_init_23 : vdec mX8_init 23 (.sipush 500) 3 := by decide +kernel
theorem dX8_init_26 : vdec mX8_init 26 (.newarray .int) 2 := by decide +kernel
theorem dX8_init_28 : vdec mX8_init 28 (.putfield 79) 3 := by decide +kernel
theorem dX8_init_31 : vdec mX8_init 31 (.aload_n 0) 1 := by decide +kernel
theorem dX8_init_32 : vdec mX8_init 32 (.sipush 5000) 3 := by decide +kernel
theorem dX8_init_35 : vdec mX8_init 35 (.newarray .int) 2 := by decide +kernel
theorem dX8_init_37 : vdec mX8_init 37 (.putfield 82) 3 := by decide +kernel
theorem dX8_init_40 : vdec mX8_init 40 (.aload_n 0) 1 := by decide +kernel
theorem dX8_init_41 : vdec mX8_init 41 (.bipush 6) 2 := by decide +kernel
theorem dX8_init_43 : vdec mX8_init 43 (.newarray .int) 2 := by decide +kernel
theorem dX8_init_45 : vdec mX8_init 45 (.putfield 85) 3 := by decide +kernel
theorem dX8_init_48 : vdec mX8_init 48 (.aload_n 0) 1 := by decide +kernel
theorem dX8_init_49 : vdec mX8_init 49 (.bipush 6) 2 := by decide +kernel
theorem dX8_init_51 : vdec mX8_init 51 (.newarray .int) 2 := by decide +kernel
theorem dX8_init_53 : vdec mX8_init 53 (.putfield 88) 3 := by decide +kernel
theorem dX8_init_56 : vdec mX8_init 56 (.aload_n 0) 1 := by decide +kernel
theorem dX8_init_57 : vdec mX8_init 57 (.bipush 6) 2 := by decide +kernel
theorem dX8_init_59 : vdec mX8_init 59 (.newarray .int) 2 := by decide +kernel
theorem dX8_init_61 : vdec mX8_init 61 (.putfield 91) 3 := by decide +kernel
theorem dX8_init_64 : vdec mX8_init 64 (.aload_n 0) 1 := by decide +kernel
theorem dX8_init_65 : vdec mX8_init 65 (.bipush 6) 2 := by decide +kernel
theorem dX8_init_67 : vdec mX8_init 67 (.newarray .int) 2 := by decide +kernel
theorem dX8_init_69 : vdec mX8_init 69 (.putfield 94) 3 := by decide +kernel
theorem dX8_init_72 : vdec mX8_init 72 (.aload_n 0) 1 := by decide +kernel
theorem dX8_init_73 : vdec mX8_init 73 (.bipush 6) 2 := by decide +kernel
theorem dX8_init_75 : vdec mX8_init 75 (.newarray .int) 2 := by decide +kernel
theorem dX8_init_77 : vdec mX8_init 77 (.putfield 97) 3 := by decide +kernel
theorem dX8_init_80 : vdec mX8_init 80 (.aload_n 0) 1 := by decide +kernel
theorem dX8_init_81 : vdec mX8_init 81 (.bipush 6) 2 := by decide +kernel
theorem dX8_init_83 : vdec mX8_init 83 (.newarray .int) 2 := by decide +kernel
theorem dX8_init_85 : vdec mX8_init 85 (.putfield 100) 3 := by decide +kernel
theorem dX8_init_88 : vdec mX8_init 88 (.aload_n 0) 1 := by decide +kernel
theorem dX8_init_89 : vdec mX8_init 89 (.bipush 6) 2 := by decide +kernel
theorem dX8_init_91 : vdec mX8_init 91 (.newarray .int) 2 := by decide +kernel
theorem dX8_init_93 : vdec mX8_init 93 (.putfield 103) 3 := by decide +kernel
theorem dX8_init_96 : vdec mX8_init 96 (.aload_n 0) 1 := by decide +kernel
theorem dX8_init_97 : vdec mX8_init 97 (.bipush 12) 2 := by decide +kernel
theorem dX8_init_99 : vdec mX8_init 99 (.newarray .int) 2 := by decide +kernel
theorem dX8_init_101 : vdec mX8_init 101 (.putfield 106) 3 := by decide +kernel
theorem dX8_init_104 : vdec mX8_init 104 (.return_) 1 := by decide +kernel
theorem dX8_takes_0 : vdec mX8_takes 0 (.aload_n 0) 1 := by decide +kernel
theorem dX8_takes_1 : vdec mX8_takes 1 (.getfield 27) 3 := by decide +kernel
theorem dX8_takes_4 : vdec mX8_takes 4 (.iconst 3) 1 := by decide +kernel
theorem dX8_takes_5 : vdec mX8_takes 5 (.if_icmp .eq 9) 3 := by decide +kernel
theorem dX8_takes_8 : vdec mX8_takes 8 (.aload_n 0) 1 := by decide +kernel
theorem dX8_takes_9 : vdec mX8_takes 9 (.iconst 1) 1 := by decide +kernel
theorem dX8_takes_10 : vdec mX8_takes 10 (.invokevirtual 109) 3 := by decide +kernel
theorem dX8_takes_13 : vdec mX8_takes 13 (.ireturn) 1 := by decide +kernel
theorem dX8_takes_14 : vdec mX8_takes 14 (.aload_n 0) 1 := by decide +kernel
theorem dX8_takes_15 : vdec mX8_takes 15 (.getfield 41) 3 := by decide +kernel
theorem dX8_takes_18 : vdec mX8_takes 18 (.iload_n 1) 1 := by decide +kernel
theorem dX8_takes_19 : vdec mX8_takes 19 (.iload_n 2) 1 := by decide +kernel
theorem dX8_takes_20 : vdec mX8_takes 20 (.invokestatic 112) 3 := by decide +kernel
theorem dX8_takes_23 : vdec mX8_takes 23 (.ifCond .ne 9) 3 := by decide +kernel
theorem dX8_takes_26 : vdec mX8_takes 26 (.aload_n 0) 1 := by decide +kernel
theorem dX8_takes_27 : vdec mX8_takes 27 (.iconst 2) 1 := by decide +kernel
theorem dX8_takes_28 : vdec mX8_takes 28 (.invokevirtual 109) 3 := by decide +kernel
theorem dX8_takes_31 : vdec mX8_takes 31 (.ireturn) 1 := by decide +kernel
theorem dX8_takes_32 : vdec mX8_takes 32 (.aload_n 0) 1 := by decide +kernel
theorem dX8_takes_33 : vdec mX8_takes 33 (.aload_n 0) 1 := by decide +kernel
theorem dX8_takes_34 : vdec mX8_takes 34 (.getfield 41) 3 := by decide +kernel
theorem dX8_takes_37 : vdec mX8_takes 37 (.putfield 116) 3 := by decide +kernel
theorem dX8_takes_40 : vdec mX8_takes 40 (.aload_n 0) 1 := by decide +kernel
theorem dX8_takes_41 : vdec mX8_takes 41 (.invokevirtual 119) 3 := by decide +kernel
theorem dX8_takes_44 : vdec mX8_takes 44 (.iconst 1) 1 := by decide +kernel
theorem dX8_takes_45 : vdec mX8_takes 45 (.ireturn) 1 := by decide +kernel
theorem dX8_takesAmount_0 : vdec mX8_takesAmount 0 (.aload_n 0) 1 := by decide +kernel
theorem dX8_takesAmount_1 : vdec mX8_takesAmount 1 (.bipush 45) 2 := by decide +kernel
theorem dX8_takesAmount_3 : vdec mX8_takesAmount 3 (.invokevirtual 122) 3 := by decide +kernel
theorem dX8_takesAmount_6 : vdec mX8_takesAmount 6 (.istore_n 2) 1 := by decide +kernel
theorem dX8_takesAmount_7 : vdec mX8_takesAmount 7 (.iload_n 2) 1 := by decide +kernel
theorem dX8_takesAmount_8 : vdec mX8_takesAmount 8 (.ifCond .eq 7) 3 := by decide +kernel
theorem dX8_takesAmount_11 : vdec mX8_takesAmount 11 (.aload_n 0) 1 := by decide +kernel
theorem dX8_takesAmount_12 : vdec mX8_takesAmount 12 (.invokevirtual 119) 3 := by decide +kernel
theorem dX8_takesAmount_15 : vdec mX8_takesAmount 15 (.aload_n 0) 1 := by decide +kernel
theorem dX8_takesAmount_16 : vdec mX8_takesAmount 16 (.iload_n 1) 1 := by decide +kernel
theorem dX8_takesAmount_17 : vdec mX8_takesAmount 17 (.ldc 125) 2 := by decide +kernel
theorem dX8_takesAmount_19 : vdec mX8_takesAmount 19 (.invokevirtual 126) 3 := by decide +kernel
theorem dX8_takesAmount_22 : vdec mX8_takesAmount 22 (.ifCond .ne 5) 3 := by decide +kernel
theorem dX8_takesAmount_25 : vdec mX8_takesAmount 25 (.iconst 0) 1 := by decide +kernel
theorem dX8_takesAmount_26 : vdec mX8_takesAmount 26 (.ireturn) 1 := by decide +kernel
theorem dX8_takesAmount_27 : vdec mX8_takesAmount 27 (.iload_n 2) 1 := by decide +kernel
theorem dX8_takesAmount_28 : vdec mX8_takesAmount 28 (.ifCond .eq 12) 3 := by decide +kernel
theorem dX8_takesAmount_31 : vdec mX8_takesAmount 31 (.aload_n 0) 1 := by decide +kernel
theorem dX8_takesAmount_32 : vdec mX8_takesAmount 32 (.aload_n 0) 1 := by decide +kernel
theorem dX8_takesAmount_33 : vdec mX8_takesAmount 33 (.getfield 116) 3 := by decide +kernel
theorem dX8_takesAmount_36 : vdec mX8_takesAmount 36 (.ineg) 1 := by decide +kernel
theorem dX8_takesAmount_37 : vdec mX8_takesAmount 37 (.putfield 116) 3 := by decide +kernel
theorem dX8_takesAmount_40 : vdec mX8_takesAmount 40 (.iconst 1) 1 := by decide +kernel
theorem dX8_takesAmount_41 : vdec mX8_takesAmount 41 (.ireturn) 1 := by decide +kernel
theorem dX8_kindHere_0 : vdec mX8_kindHere 0 (.aload_n 0) 1 := by decide +kernel
theorem dX8_kindHere_1 : vdec mX8_kindHere 1 (.bipush 99) 2 := by decide +kernel
theorem dX8_kindHere_3 : vdec mX8_kindHere 3 (.bipush 97) 2 := by decide +kernel
theorem dX8_kindHere_5 : vdec mX8_kindHere 5 (.bipush 115) 2 := by decide +kernel
theorem dX8_kindHere_7 : vdec mX8_kindHere 7 (.bipush 104) 2 := by decide +kernel
theorem dX8_kindHere_9 : vdec mX8_kindHere 9 (.invokestatic 60) 3 := by decide +kernel
theorem dX8_kindHere_12 : vdec mX8_kindHere 12 (.invokevirtual 130) 3 := by decide +kernel
theorem dX8_kindHere_15 : vdec mX8_kindHere 15 (.ifCond .eq 5) 3 := by decide +kernel
theorem dX8_kindHere_18 : vdec mX8_kindHere 18 (.iconst 0) 1 := by decide +kernel
theorem dX8_kindHere_19 : vdec mX8_kindHere 19 (.ireturn) 1 := by decide +kernel
theorem dX8_kindHere_20 : vdec mX8_kindHere 20 (.aload_n 0) 1 := by decide +kernel
theorem dX8_kindHere_21 : vdec mX8_kindHere 21 (.bipush 119) 2 := by decide +kernel
theorem dX8_kindHere_23 : vdec mX8_kindHere 23 (.bipush 111) 2 := by decide +kernel
theorem dX8_kindHere_25 : vdec mX8_kindHere 25 (.bipush 114) 2 := by decide +kernel
theorem dX8_kindHere_27 : vdec mX8_kindHere 27 (.bipush 107) 2 := by decide +kernel
theorem dX8_kindHere_29 : vdec mX8_kindHere 29 (.invokestatic 60) 3 := by decide +kernel
theorem dX8_kindHere_32 : vdec mX8_kindHere 32 (.invokevirtual 130) 3 := by decide +kernel
theorem dX8_kindHere_35 : vdec mX8_kindHere 35 (.ifCond .eq 5) 3 := by decide +kernel
theorem dX8_kindHere_38 : vdec mX8_kindHere 38 (.iconst 1) 1 := by decide +kernel
theorem dX8_kindHere_39 : vdec mX8_kindHere 39 (.ireturn) 1 := by decide +kernel
theorem dX8_kindHere_40 : vdec mX8_kindHere 40 (.aload_n 0) 1 := by decide +kernel
theorem dX8_kindHere_41 : vdec mX8_kindHere 41 (.ldc2_w 52) 3 := by decide +kernel
theorem dX8_kindHere_44 : vdec mX8_kindHere 44 (.bipush 105) 2 := by decide +kernel
theorem dX8_kindHere_46 : vdec mX8_kindHere 46 (.bipush 110) 2 := by decide +kernel
theorem dX8_kindHere_48 : vdec mX8_kindHere 48 (.bipush 99) 2 := by decide +kernel
theorem dX8_kindHere_50 : vdec mX8_kindHere 50 (.bipush 111) 2 := by decide +kernel
theorem dX8_kindHere_52 : vdec mX8_kindHere 52 (.invokestatic 60) 3 := by decide +kernel
theorem dX8_kindHere_55 : vdec mX8_kindHere 55 (.lmul) 1 := by decide +kernel
theorem dX8_kindHere_56 : vdec mX8_kindHere 56 (.bipush 109) 2 := by decide +kernel
theorem dX8_kindHere_58 : vdec mX8_kindHere 58 (.bipush 101) 2 := by decide +kernel
theorem dX8_kindHere_60 : vdec mX8_kindHere 60 (.invokestatic 54) 3 := by decide +kernel
theorem dX8_kindHere_63 : vdec mX8_kindHere 63 (.ladd) 1 := by decide +kernel
theorem dX8_kindHere_64 : vdec mX8_kindHere 64 (.invokevirtual 130) 3 := by decide +kernel
theorem dX8_kindHere_67 : vdec mX8_kindHere 67 (.ifCond .eq 5) 3 := by decide +kernel
theorem dX8_kindHere_70 : vdec mX8_kindHere 70 (.iconst 2) 1 := by decide +kernel
theorem dX8_kindHere_71 : vdec mX8_kindHere 71 (.ireturn) 1 := by decide +kernel
theorem dX8_kindHere_72 : vdec mX8_kindHere 72 (.aload_n 0) 1 := by decide +kernel
theorem dX8_kindHere_73 : vdec mX8_kindHere 73 (.ldc2_w 52) 3 := by decide +kernel
theorem dX8_kindHere_76 : vdec mX8_kindHere 76 (.bipush 105) 2 := by decide +kernel
theorem dX8_kindHere_78 : vdec mX8_kindHere 78 (.bipush 110) 2 := by decide +kernel
theorem dX8_kindHere_80 : vdec mX8_kindHere 80 (.bipush 118) 2 := by decide +kernel
theorem dX8_kindHere_82 : vdec mX8_kindHere 82 (.bipush 101) 2 := by decide +kernel
theorem dX8_kindHere_84 : vdec mX8_kindHere 84 (.invokestatic 60) 3 := by decide +kernel
theorem dX8_kindHere_87 : vdec mX8_kindHere 87 (.lmul) 1 := by decide +kernel
theorem dX8_kindHere_88 : vdec mX8_kindHere 88 (.bipush 115) 2 := by decide +kernel
theorem dX8_kindHere_90 : vdec mX8_kindHere 90 (.bipush 116) 2 := by decide +kernel
theorem dX8_kindHere_92 : vdec mX8_kindHere 92 (.invokestatic 54) 3 := by decide +kernel
theorem dX8_kindHere_95 : vdec mX8_kindHere 95 (.ladd) 1 := by decide +kernel
theorem dX8_kindHere_96 : vdec mX8_kindHere 96 (.invokevirtual 130) 3 := by decide +kernel
theorem dX8_kindHere_99 : vdec mX8_kindHere 99 (.ifCond .eq 5) 3 := by decide +kernel
theorem dX8_kindHere_102 : vdec mX8_kindHere 102 (.iconst 3) 1 := by decide +kernel
theorem dX8_kindHere_103 : vdec mX8_kindHere 103 (.ireturn) 1 := by decide +kernel
theorem dX8_kindHere_104 : vdec mX8_kindHere 104 (.aload_n 0) 1 := by decide +kernel
theorem dX8_kindHere_105 : vdec mX8_kindHere 105 (.bipush 102) 2 := by decide +kernel
theorem dX8_kindHere_107 : vdec mX8_kindHere 107 (.bipush 105) 2 := by decide +kernel
theorem dX8_kindHere_109 : vdec mX8_kindHere 109 (.bipush 110) 2 := by decide +kernel
theorem dX8_kindHere_111 : vdec mX8_kindHere 111 (.bipush 97) 2 := by decide +kernel
theorem dX8_kindHere_113 : vdec mX8_kindHere 113 (.bipush 110) 2 := by decide +kernel
theorem dX8_kindHere_115 : vdec mX8_kindHere 115 (.bipush 99) 2 := by decide +kernel
theorem dX8_kindHere_117 : vdec mX8_kindHere 117 (.bipush 101) 2 := by decide +kernel
theorem dX8_kindHere_119 : vdec mX8_kindHere 119 (.invokestatic 134) 3 := by decide +kernel
theorem dX8_kindHere_122 : vdec mX8_kindHere 122 (.invokevirtual 130) 3 := by decide +kernel
theorem dX8_kindHere_125 : vdec mX8_kindHere 125 (.ifCond .eq 5) 3 := by decide +kernel
theorem dX8_kindHere_128 : vdec mX8_kindHere 128 (.iconst 4) 1 := by decide +kernel
theorem dX8_kindHere_129 : vdec mX8_kindHere 129 (.ireturn) 1 := by decide +kernel
theorem dX8_kindHere_130 : vdec mX8_kindHere 130 (.aload_n 0) 1 := by decide +kernel
theorem dX8_kindHere_131 : vdec mX8_kindHere 131 (.ldc2_w 48) 3 := by decide +kernel
theorem dX8_kindHere_134 : vdec mX8_kindHere 134 (.bipush 99) 2 := by decide +kernel
theorem dX8_kindHere_136 : vdec mX8_kindHere 136 (.bipush 117) 2 := by decide +kernel
theorem dX8_kindHere_138 : vdec mX8_kindHere 138 (.bipush 114) 2 := by decide +kernel
theorem dX8_kindHere_140 : vdec mX8_kindHere 140 (.bipush 114) 2 := by decide +kernel
theorem dX8_kindHere_142 : vdec mX8_kindHere 142 (.bipush 101) 2 := by decide +kernel
theorem dX8_kindHere_144 : vdec mX8_kindHere 144 (.bipush 110) 2 := by decide +kernel
theorem dX8_kindHere_146 : vdec mX8_kindHere 146 (.bipush 99) 2 := by decide +kernel
theorem dX8_kindHere_148 : vdec mX8_kindHere 148 (.invokestatic 134) 3 := by decide +kernel
theorem dX8_kindHere_151 : vdec mX8_kindHere 151 (.lmul) 1 := by decide +kernel
theorem dX8_kindHere_152 : vdec mX8_kindHere 152 (.ldc2_w 138) 3 := by decide +kernel
theorem dX8_kindHere_155 : vdec mX8_kindHere 155 (.ladd) 1 := by decide +kernel
theorem dX8_kindHere_156 : vdec mX8_kindHere 156 (.invokevirtual 130) 3 := by decide +kernel
theorem dX8_kindHere_159 : vdec mX8_kindHere 159 (.ifCond .eq 7) 3 := by decide +kernel
theorem dX8_kindHere_162 : vdec mX8_kindHere 162 (.iconst 5) 1 := by decide +kernel
theorem dX8_kindHere_163 : vdec mX8_kindHere 163 (.goto 4) 3 := by decide +kernel
theorem dX8_kindHere_166 : vdec mX8_kindHere 166 (.iconst (-1)) 1 := by decide +kernel
theorem dX8_kindHere_167 : vdec mX8_kindHere 167 (.ireturn) 1 := by decide +kernel
theorem dX8_readAccount_0 : vdec mX8_readAccount 0 (.aload_n 0) 1 := by decide +kernel
theorem dX8_readAccount_1 : vdec mX8_readAccount 1 (.getfield 79) 3 := by decide +kernel
theorem dX8_readAccount_4 : vdec mX8_readAccount 4 (.iconst 0) 1 := by decide +kernel
theorem dX8_readAccount_5 : vdec mX8_readAccount 5 (.iaload) 1 := by decide +kernel
theorem dX8_readAccount_6 : vdec mX8_readAccount 6 (.bipush 12) 2 := by decide +kernel
theorem dX8_readAccount_8 : vdec mX8_readAccount 8 (.if_icmp .ne 9) 3 := by decide +kernel
theorem dX8_readAccount_11 : vdec mX8_readAccount 11 (.aload_n 0) 1 := by decide +kernel
theorem dX8_readAccount_12 : vdec mX8_readAccount 12 (.iconst 3) 1 := by decide +kernel
theorem dX8_readAccount_13 : vdec mX8_readAccount 13 (.invokevirtual 109) 3 := by decide +kernel
theorem dX8_readAccount_16 : vdec mX8_readAccount 16 (.ireturn) 1 := by decide +kernel
theorem dX8_readAccount_17 : vdec mX8_readAccount 17 (.aload_n 0) 1 := by decide +kernel
theorem dX8_readAccount_18 : vdec mX8_readAccount 18 (.invokevirtual 119) 3 := by decide +kernel
theorem dX8_readAccount_21 : vdec mX8_readAccount 21 (.iconst 2) 1 := by decide +kernel
theorem dX8_readAccount_22 : vdec mX8_readAccount 22 (.iconst 4) 1 := by decide +kernel
theorem dX8_readAccount_23 : vdec mX8_readAccount 23 (.aload_n 0) 1 := by decide +kernel
theorem dX8_readAccount_24 : vdec mX8_readAccount 24 (.getfield 79) 3 := by decide +kernel
theorem dX8_readAccount_27 : vdec mX8_readAccount 27 (.iconst 0) 1 := by decide +kernel
theorem dX8_readAccount_28 : vdec mX8_readAccount 28 (.iaload) 1 := by decide +kernel
theorem dX8_readAccount_29 : vdec mX8_readAccount 29 (.imul) 1 := by decide +kernel
theorem dX8_readAccount_30 : vdec mX8_readAccount 30 (.iadd) 1 := by decide +kernel
theorem dX8_readAccount_31 : vdec mX8_readAccount 31 (.istore_n 1) 1 := by decide +kernel
theorem dX8_readAccount_32 : vdec mX8_readAccount 32 (.aload_n 0) 1 := by decide +kernel
theorem dX8_readAccount_33 : vdec mX8_readAccount 33 (.getfield 79) 3 := by decide +kernel
theorem dX8_readAccount_36 : vdec mX8_readAccount 36 (.iload_n 1) 1 := by decide +kernel
theorem dX8_readAccount_37 : vdec mX8_readAccount 37 (.iconst 0) 1 := by decide +kernel
theorem dX8_readAccount_38 : vdec mX8_readAccount 38 (.iadd) 1 := by decide +kernel
theorem dX8_readAccount_39 : vdec mX8_readAccount 39 (.aload_n 0) 1 := by decide +kernel
theorem dX8_readAccount_40 : vdec mX8_readAccount 40 (.invokevirtual 140) 3 := by decide +kernel
theorem dX8_readAccount_43 : vdec mX8_readAccount 43 (.iastore) 1 := by decide +kernel
theorem dX8_readAccount_44 : vdec mX8_readAccount 44 (.aload_n 0) 1 := by decide +kernel
theorem dX8_readAccount_45 : vdec mX8_readAccount 45 (.getfield 79) 3 := by decide +kernel
theorem dX8_readAccount_48 : vdec mX8_readAccount 48 (.iload_n 1) 1 := by decide +kernel
theorem dX8_readAccount_49 : vdec mX8_readAccount 49 (.iconst 0) 1 := by decide +kernel
theorem dX8_readAccount_50 : vdec mX8_readAccount 50 (.iadd) 1 := by decide +kernel
theorem dX8_readAccount_51 : vdec mX8_readAccount 51 (.iaload) 1 := by decide +kernel
theorem dX8_readAccount_52 : vdec mX8_readAccount 52 (.iconst (-1)) 1 := by decide +kernel
theorem dX8_readAccount_53 : vdec mX8_readAccount 53 (.if_icmp .ne 9) 3 := by decide +kernel
theorem dX8_readAccount_56 : vdec mX8_readAccount 56 (.aload_n 0) 1 := by decide +kernel
theorem dX8_readAccount_57 : vdec mX8_readAccount 57 (.iconst 1) 1 := by decide +kernel
theorem dX8_readAccount_58 : vdec mX8_readAccount 58 (.invokevirtual 109) 3 := by decide +kernel
theorem dX8_readAccount_61 : vdec mX8_readAccount 61 (.ireturn) 1 := by decide +kernel
theorem dX8_readAccount_62 : vdec mX8_readAccount 62 (.aload_n 0) 1 := by decide +kernel
theorem dX8_readAccount_63 : vdec mX8_readAccount 63 (.invokevirtual 119) 3 := by decide +kernel
theorem dX8_readAccount_66 : vdec mX8_readAccount 66 (.aload_n 0) 1 := by decide +kernel
theorem dX8_readAccount_67 : vdec mX8_readAccount 67 (.iconst 0) 1 := by decide +kernel
theorem dX8_readAccount_68 : vdec mX8_readAccount 68 (.invokevirtual 144) 3 := by decide +kernel
theorem dX8_readAccount_71 : vdec mX8_readAccount 71 (.ifCond .ne 5) 3 := by decide +kernel
theorem dX8_readAccount_74 : vdec mX8_readAccount 74 (.iconst 0) 1 := by decide +kernel
theorem dX8_readAccount_75 : vdec mX8_readAccount 75 (.ireturn) 1 := by decide +kernel
theorem dX8_readAccount_76 : vdec mX8_readAccount 76 (.aload_n 0) 1 := by decide +kernel
theorem dX8_readAccount_77 : vdec mX8_readAccount 77 (.getfield 79) 3 := by decide +kernel
theorem dX8_readAccount_80 : vdec mX8_readAccount 80 (.iload_n 1) 1 := by decide +kernel
theorem dX8_readAccount_81 : vdec mX8_readAccount 81 (.iconst 1) 1 := by decide +kernel
theorem dX8_readAccount_82 : vdec mX8_readAccount 82 (.iadd) 1 := by decide +kernel
theorem dX8_readAccount_83 : vdec mX8_readAccount 83 (.aload_n 0) 1 := by decide +kernel
theorem dX8_readAccount_84 : vdec mX8_readAccount 84 (.getfield 116) 3 := by decide +kernel
theorem dX8_readAccount_87 : vdec mX8_readAccount 87 (.iastore) 1 := by decide +kernel
theorem dX8_readAccount_88 : vdec mX8_readAccount 88 (.aload_n 0) 1 := by decide +kernel
theorem dX8_readAccount_89 : vdec mX8_readAccount 89 (.getfield 79) 3 := by decide +kernel
theorem dX8_readAccount_92 : vdec mX8_readAccount 92 (.iconst 0) 1 := by decide +kernel
theorem dX8_readAccount_93 : vdec mX8_readAccount 93 (.dup2) 1 := by decide +kernel
theorem dX8_readAccount_94 : vdec mX8_readAccount 94 (.iaload) 1 := by decide +kernel
theorem dX8_readAccount_95 : vdec mX8_readAccount 95 (.iconst 1) 1 := by decide +kernel
theorem dX8_readAccount_96 : vdec mX8_readAccount 96 (.iadd) 1 := by decide +kernel
theorem dX8_readAccount_97 : vdec mX8_readAccount 97 (.iastore) 1 := by decide +kernel
theorem dX8_readAccount_98 : vdec mX8_readAccount 98 (.aload_n 0) 1 := by decide +kernel
theorem dX8_readAccount_99 : vdec mX8_readAccount 99 (.bipush 59) 2 := by decide +kernel
theorem dX8_readAccount_101 : vdec mX8_readAccount 101 (.invokevirtual 122) 3 := by decide +kernel
theorem dX8_readAccount_104 : vdec mX8_readAccount 104 (.ifCond .ne 9) 3 := by decide +kernel
theorem dX8_readAccount_107 : vdec mX8_readAccount 107 (.aload_n 0) 1 := by decide +kernel
theorem dX8_readAccount_108 : vdec mX8_readAccount 108 (.iconst 1) 1 := by decide +kernel
theorem dX8_readAccount_109 : vdec mX8_readAccount 109 (.invokevirtual 109) 3 := by decide +kernel
theorem dX8_readAccount_112 : vdec mX8_readAccount 112 (.ireturn) 1 := by decide +kernel
theorem dX8_readAccount_113 : vdec mX8_readAccount 113 (.aload_n 0) 1 := by decide +kernel
theorem dX8_readAccount_114 : vdec mX8_readAccount 114 (.invokevirtual 119) 3 := by decide +kernel
theorem dX8_readAccount_117 : vdec mX8_readAccount 117 (.iconst 1) 1 := by decide +kernel
theorem dX8_readAccount_118 : vdec mX8_readAccount 118 (.ireturn) 1 := by decide +kernel
theorem dX8_readLine_0 : vdec mX8_readLine 0 (.aload_n 0) 1 := by decide +kernel
theorem dX8_readLine_1 : vdec mX8_readLine 1 (.getfield 27) 3 := by decide +kernel
theorem dX8_readLine_4 : vdec mX8_readLine 4 (.iconst 3) 1 := by decide +kernel
theorem dX8_readLine_5 : vdec mX8_readLine 5 (.if_icmp .eq 9) 3 := by decide +kernel
theorem dX8_readLine_8 : vdec mX8_readLine 8 (.aload_n 0) 1 := by decide +kernel
theorem dX8_readLine_9 : vdec mX8_readLine 9 (.iconst 1) 1 := by decide +kernel
theorem dX8_readLine_10 : vdec mX8_readLine 10 (.invokevirtual 109) 3 := by decide +kernel
theorem dX8_readLine_13 : vdec mX8_readLine 13 (.ireturn) 1 := by decide +kernel
theorem dX8_readLine_14 : vdec mX8_readLine 14 (.aload_n 0) 1 := by decide +kernel
theorem dX8_readLine_15 : vdec mX8_readLine 15 (.getfield 41) 3 := by decide +kernel
theorem dX8_readLine_18 : vdec mX8_readLine 18 (.aload_n 0) 1 := by decide +kernel
theorem dX8_readLine_19 : vdec mX8_readLine 19 (.getfield 79) 3 := by decide +kernel
theorem dX8_readLine_22 : vdec mX8_readLine 22 (.iconst 0) 1 := by decide +kernel
theorem dX8_readLine_23 : vdec mX8_readLine 23 (.iaload) 1 := by decide +kernel
theorem dX8_readLine_24 : vdec mX8_readLine 24 (.if_icmp .lt 9) 3 := by decide +kernel
theorem dX8_readLine_27 : vdec mX8_readLine 27 (.aload_n 0) 1 := by decide +kernel
theorem dX8_readLine_28 : vdec mX8_readLine 28 (.iconst 2) 1 := by decide +kernel
theorem dX8_readLine_29 : vdec mX8_readLine 29 (.invokevirtual 109) 3 := by decide +kernel
theorem dX8_readLine_32 : vdec mX8_readLine 32 (.ireturn) 1 := by decide +kernel
theorem dX8_readLine_33 : vdec mX8_readLine 33 (.aload_n 0) 1 := by decide +kernel
theorem dX8_readLine_34 : vdec mX8_readLine 34 (.getfield 79) 3 := by decide +kernel
theorem dX8_readLine_37 : vdec mX8_readLine 37 (.iload_n 1) 1 := by decide +kernel
theorem dX8_readLine_38 : vdec mX8_readLine 38 (.iconst 2) 1 := by decide +kernel
theorem dX8_readLine_39 : vdec mX8_readLine 39 (.iadd) 1 := by decide +kernel
theorem dX8_readLine_40 : vdec mX8_readLine 40 (.iaload) 1 := by decide +kernel
theorem dX8_readLine_41 : vdec mX8_readLine 41 (.bipush 6) 2 := by decide +kernel
theorem dX8_readLine_43 : vdec mX8_readLine 43 (.if_icmp .ne 9) 3 := by decide +kernel
theorem dX8_readLine_46 : vdec mX8_readLine 46 (.aload_n 0) 1 := by decide +kernel
theorem dX8_readLine_47 : vdec mX8_readLine 47 (.iconst 3) 1 := by decide +kernel
theorem dX8_readLine_48 : vdec mX8_readLine 48 (.invokevirtual 109) 3 := by decide +kernel
theorem dX8_readLine_51 : vdec mX8_readLine 51 (.ireturn) 1 := by decide +kernel
theorem dX8_readLine_52 : vdec mX8_readLine 52 (.iload_n 1) 1 := by decide +kernel
theorem dX8_readLine_53 : vdec mX8_readLine 53 (.iconst 3) 1 := by decide +kernel
theorem dX8_readLine_54 : vdec mX8_readLine 54 (.iadd) 1 := by decide +kernel
theorem dX8_readLine_55 : vdec mX8_readLine 55 (.iconst 2) 1 := by decide +kernel
theorem dX8_readLine_56 : vdec mX8_readLine 56 (.aload_n 0) 1 := by decide +kernel
theorem dX8_readLine_57 : vdec mX8_readLine 57 (.getfield 79) 3 := by decide +kernel
theorem dX8_readLine_60 : vdec mX8_readLine 60 (.iload_n 1) 1 := by decide +kernel
theorem dX8_readLine_61 : vdec mX8_readLine 61 (.iconst 2) 1 := by decide +kernel
theorem dX8_readLine_62 : vdec mX8_readLine 62 (.iadd) 1 := by decide +kernel
theorem dX8_readLine_63 : vdec mX8_readLine 63 (.iaload) 1 := by decide +kernel
theorem dX8_readLine_64 : vdec mX8_readLine 64 (.imul) 1 := by decide +kernel
theorem dX8_readLine_65 : vdec mX8_readLine 65 (.iadd) 1 := by decide +kernel
theorem dX8_readLine_66 : vdec mX8_readLine 66 (.istore_n 2) 1 := by decide +kernel
theorem dX8_readLine_67 : vdec mX8_readLine 67 (.aload_n 0) 1 := by decide +kernel
theorem dX8_readLine_68 : vdec mX8_readLine 68 (.getfield 79) 3 := by decide +kernel
theorem dX8_readLine_71 : vdec mX8_readLine 71 (.iload_n 2) 1 := by decide +kernel
theorem dX8_readLine_72 : vdec mX8_readLine 72 (.aload_n 0) 1 := by decide +kernel
theorem dX8_readLine_73 : vdec mX8_readLine 73 (.getfield 41) 3 := by decide +kernel
theorem dX8_readLine_76 : vdec mX8_readLine 76 (.iastore) 1 := by decide +kernel
theorem dX8_readLine_77 : vdec mX8_readLine 77 (.aload_n 0) 1 := by decide +kernel
theorem dX8_readLine_78 : vdec mX8_readLine 78 (.invokevirtual 119) 3 := by decide +kernel
theorem dX8_readLine_81 : vdec mX8_readLine 81 (.aload_n 0) 1 := by decide +kernel
theorem dX8_readLine_82 : vdec mX8_readLine 82 (.iconst 1) 1 := by decide +kernel
theorem dX8_readLine_83 : vdec mX8_readLine 83 (.invokevirtual 144) 3 := by decide +kernel
theorem dX8_readLine_86 : vdec mX8_readLine 86 (.ifCond .ne 5) 3 := by decide +kernel
theorem dX8_readLine_89 : vdec mX8_readLine 89 (.iconst 0) 1 := by decide +kernel
theorem dX8_readLine_90 : vdec mX8_readLine 90 (.ireturn) 1 := by decide +kernel
theorem dX8_readLine_91 : vdec mX8_readLine 91 (.aload_n 0) 1 := by decide +kernel
theorem dX8_readLine_92 : vdec mX8_readLine 92 (.getfield 79) 3 := by decide +kernel
theorem dX8_readLine_95 : vdec mX8_readLine 95 (.iload_n 2) 1 := by decide +kernel
theorem dX8_readLine_96 : vdec mX8_readLine 96 (.iconst 1) 1 := by decide +kernel
theorem dX8_readLine_97 : vdec mX8_readLine 97 (.iadd) 1 := by decide +kernel
theorem dX8_readLine_98 : vdec mX8_readLine 98 (.aload_n 0) 1 := by decide +kernel
theorem dX8_readLine_99 : vdec mX8_readLine 99 (.getfield 116) 3 := by decide +kernel
theorem dX8_readLine_102 : vdec mX8_readLine 102 (.iastore) 1 := by decide +kernel
theorem dX8_readLine_103 : vdec mX8_readLine 103 (.aload_n 0) 1 := by decide +kernel
theorem dX8_readLine_104 : vdec mX8_readLine 104 (.getfield 79) 3 := by decide +kernel
theorem dX8_readLine_107 : vdec mX8_readLine 107 (.iload_n 1) 1 := by decide +kernel
theorem dX8_readLine_108 : vdec mX8_readLine 108 (.iconst 2) 1 := by decide +kernel
theorem dX8_readLine_109 : vdec mX8_readLine 109 (.iadd) 1 := by decide +kernel
theorem dX8_readLine_110 : vdec mX8_readLine 110 (.dup2) 1 := by decide +kernel
theorem dX8_readLine_111 : vdec mX8_readLine 111 (.iaload) 1 := by decide +kernel
theorem dX8_readLine_112 : vdec mX8_readLine 112 (.iconst 1) 1 := by decide +kernel
theorem dX8_readLine_113 : vdec mX8_readLine 113 (.iadd) 1 := by decide +kernel
theorem dX8_readLine_114 : vdec mX8_readLine 114 (.iastore) 1 := by decide +kernel
theorem dX8_readLine_115 : vdec mX8_readLine 115 (.iconst 1) 1 := by decide +kernel
theorem dX8_readLine_116 : vdec mX8_readLine 116 (.ireturn) 1 := by decide +kernel
theorem dX8_readJournal_0 : vdec mX8_readJournal 0 (.aload_n 0) 1 := by decide +kernel
theorem dX8_readJournal_1 : vdec mX8_readJournal 1 (.getfield 79) 3 := by decide +kernel
theorem dX8_readJournal_4 : vdec mX8_readJournal 4 (.iconst 1) 1 := by decide +kernel
theorem dX8_readJournal_5 : vdec mX8_readJournal 5 (.iaload) 1 := by decide +kernel
theorem dX8_readJournal_6 : vdec mX8_readJournal 6 (.bipush 12) 2 := by decide +kernel
theorem dX8_readJournal_8 : vdec mX8_readJournal 8 (.if_icmp .ne 9) 3 := by decide +kernel
theorem dX8_readJournal_11 : vdec mX8_readJournal 11 (.aload_n 0) 1 := by decide +kernel
theorem dX8_readJournal_12 : vdec mX8_readJournal 12 (.iconst 3) 1 := by decide +kernel
theorem dX8_readJournal_13 : vdec mX8_readJournal 13 (.invokevirtual 109) 3 := by decide +kernel
theorem dX8_readJournal_16 : vdec mX8_readJournal 16 (.ireturn) 1 := by decide +kernel
theorem dX8_readJournal_17 : vdec mX8_readJournal 17 (.aload_n 0) 1 := by decide +kernel
theorem dX8_readJournal_18 : vdec mX8_readJournal 18 (.invokevirtual 119) 3 := by decide +kernel
theorem dX8_readJournal_21 : vdec mX8_readJournal 21 (.bipush 50) 2 := by decide +kernel
theorem dX8_readJournal_23 : vdec mX8_readJournal 23 (.bipush 15) 2 := by decide +kernel
theorem dX8_readJournal_25 : vdec mX8_readJournal 25 (.aload_n 0) 1 := by decide +kernel
theorem dX8_readJournal_26 : vdec mX8_readJournal 26 (.getfield 79) 3 := by decide +kernel
theorem dX8_readJournal_29 : vdec mX8_readJournal 29 (.iconst 1) 1 := by decide +kernel
theorem dX8_readJournal_30 : vdec mX8_readJournal 30 (.iaload) 1 := by decide +kernel
theorem dX8_readJournal_31 : vdec mX8_readJournal 31 (.imul) 1 := by decide +kernel
theorem dX8_readJournal_32 : vdec mX8_readJournal 32 (.iadd) 1 := by decide +kernel
theorem dX8_readJournal_33 : vdec mX8_readJournal 33 (.istore_n 1) 1 := by decide +kernel
theorem dX8_readJournal_34 : vdec mX8_readJournal 34 (.aload_n 0) 1 := by decide +kernel
theorem dX8_readJournal_35 : vdec mX8_readJournal 35 (.iconst 0) 1 := by decide +kernel
theorem dX8_readJournal_36 : vdec mX8_readJournal 36 (.bipush 19) 2 := by decide +kernel
theorem dX8_readJournal_38 : vdec mX8_readJournal 38 (.invokevirtual 126) 3 := by decide +kernel
theorem dX8_readJournal_41 : vdec mX8_readJournal 41 (.ifCond .ne 5) 3 := by decide +kernel
theorem dX8_readJournal_44 : vdec mX8_readJournal 44 (.iconst 0) 1 := by decide +kernel
theorem dX8_readJournal_45 : vdec mX8_readJournal 45 (.ireturn) 1 := by decide +kernel
theorem dX8_readJournal_46 : vdec mX8_readJournal 46 (.aload_n 0) 1 := by decide +kernel
theorem dX8_readJournal_47 : vdec mX8_readJournal 47 (.getfield 79) 3 := by decide +kernel
theorem dX8_readJournal_50 : vdec mX8_readJournal 50 (.iload_n 1) 1 := by decide +kernel
theorem dX8_readJournal_51 : vdec mX8_readJournal 51 (.iconst 0) 1 := by decide +kernel
theorem dX8_readJournal_52 : vdec mX8_readJournal 52 (.iadd) 1 := by decide +kernel
theorem dX8_readJournal_53 : vdec mX8_readJournal 53 (.aload_n 0) 1 := by decide +kernel
theorem dX8_readJournal_54 : vdec mX8_readJournal 54 (.getfield 116) 3 := by decide +kernel
theorem dX8_readJournal_57 : vdec mX8_readJournal 57 (.iastore) 1 := by decide +kernel
theorem dX8_readJournal_58 : vdec mX8_readJournal 58 (.iconst 0) 1 := by decide +kernel
theorem dX8_readJournal_59 : vdec mX8_readJournal 59 (.istore_n 2) 1 := by decide +kernel
theorem dX8_readJournal_60 : vdec mX8_readJournal 60 (.aload_n 0) 1 := by decide +kernel
theorem dX8_readJournal_61 : vdec mX8_readJournal 61 (.getfield 79) 3 := by decide +kernel
theorem dX8_readJournal_64 : vdec mX8_readJournal 64 (.iload_n 1) 1 := by decide +kernel
theorem dX8_readJournal_65 : vdec mX8_readJournal 65 (.iconst 2) 1 := by decide +kernel
theorem dX8_readJournal_66 : vdec mX8_readJournal 66 (.iadd) 1 := by decide +kernel
theorem dX8_readJournal_67 : vdec mX8_readJournal 67 (.iaload) 1 := by decide +kernel
theorem dX8_readJournal_68 : vdec mX8_readJournal 68 (.iconst 2) 1 := by decide +kernel
theorem dX8_readJournal_69 : vdec mX8_readJournal 69 (.if_icmp .lt 12) 3 := by decide +kernel
theorem dX8_readJournal_72 : vdec mX8_readJournal 72 (.aload_n 0) 1 := by decide +kernel
theorem dX8_readJournal_73 : vdec mX8_readJournal 73 (.bipush 59) 2 := by decide +kernel
theorem dX8_readJournal_75 : vdec mX8_readJournal 75 (.invokevirtual 122) 3 := by decide +kernel
theorem dX8_readJournal_78 : vdec mX8_readJournal 78 (.ifCond .ne 23) 3 := by decide +kernel
theorem dX8_readJournal_81 : vdec mX8_readJournal 81 (.aload_n 0) 1 := by decide +kernel
theorem dX8_readJournal_82 : vdec mX8_readJournal 82 (.iload_n 1) 1 := by decide +kernel
theorem dX8_readJournal_83 : vdec mX8_readJournal 83 (.invokevirtual 147) 3 := by decide +kernel
theorem dX8_readJournal_86 : vdec mX8_readJournal 86 (.ifCond .ne 5) 3 := by decide +kernel
theorem dX8_readJournal_89 : vdec mX8_readJournal 89 (.iconst 0) 1 := by decide +kernel
theorem dX8_readJournal_90 : vdec mX8_readJournal 90 (.ireturn) 1 := by decide +kernel
theorem dX8_readJournal_91 : vdec mX8_readJournal 91 (.iload_n 2) 1 := by decide +kernel
theorem dX8_readJournal_92 : vdec mX8_readJournal 92 (.aload_n 0) 1 := by decide +kernel
theorem dX8_readJournal_93 : vdec mX8_readJournal 93 (.getfield 116) 3 := by decide +kernel
theorem dX8_readJournal_96 : vdec mX8_readJournal 96 (.iadd) 1 := by decide +kernel
theorem dX8_readJournal_97 : vdec mX8_readJournal 97 (.istore_n 2) 1 := by decide +kernel
theorem dX8_readJournal_98 : vdec mX8_readJournal 98 (.goto (-38)) 3 := by decide +kernel
theorem dX8_readJournal_101 : vdec mX8_readJournal 101 (.iload_n 2) 1 := by decide +kernel
theorem dX8_readJournal_102 : vdec mX8_readJournal 102 (.ifCond .eq 9) 3 := by decide +kernel
theorem dX8_readJournal_105 : vdec mX8_readJournal 105 (.aload_n 0) 1 := by decide +kernel
theorem dX8_readJournal_106 : vdec mX8_readJournal 106 (.iconst 4) 1 := by decide +kernel
theorem dX8_readJournal_107 : vdec mX8_readJournal 107 (.invokevirtual 109) 3 := by decide +kernel
theorem dX8_readJournal_110 : vdec mX8_readJournal 110 (.ireturn) 1 := by decide +kernel
theorem dX8_readJournal_111 : vdec mX8_readJournal 111 (.aload_n 0) 1 := by decide +kernel
theorem dX8_readJournal_112 : vdec mX8_readJournal 112 (.getfield 79) 3 := by decide +kernel
theorem dX8_readJournal_115 : vdec mX8_readJournal 115 (.iconst 1) 1 := by decide +kernel
theorem dX8_readJournal_116 : vdec mX8_readJournal 116 (.dup2) 1 := by decide +kernel
theorem dX8_readJournal_117 : vdec mX8_readJournal 117 (.iaload) 1 := by decide +kernel
theorem dX8_readJournal_118 : vdec mX8_readJournal 118 (.iconst 1) 1 := by decide +kernel
theorem dX8_readJournal_119 : vdec mX8_readJournal 119 (.iadd) 1 := by decide +kernel
theorem dX8_readJournal_120 : vdec mX8_readJournal 120 (.iastore) 1 := by decide +kernel
theorem dX8_readJournal_121 : vdec mX8_readJournal 121 (.aload_n 0) 1 := by decide +kernel
theorem dX8_readJournal_122 : vdec mX8_readJournal 122 (.invokevirtual 119) 3 := by decide +kernel
theorem dX8_readJournal_125 : vdec mX8_readJournal 125 (.iconst 1) 1 := by decide +kernel
theorem dX8_readJournal_126 : vdec mX8_readJournal 126 (.ireturn) 1 := by decide +kernel
theorem dX8_readWhole_0 : vdec mX8_readWhole 0 (.aload_n 0) 1 := by decide +kernel
theorem dX8_readWhole_1 : vdec mX8_readWhole 1 (.bipush 97) 2 := by decide +kernel
theorem dX8_readWhole_3 : vdec mX8_readWhole 3 (.bipush 99) 2 := by decide +kernel
theorem dX8_readWhole_5 : vdec mX8_readWhole 5 (.bipush 99) 2 := by decide +kernel
theorem dX8_readWhole_7 : vdec mX8_readWhole 7 (.bipush 111) 2 := by decide +kernel
theorem dX8_readWhole_9 : vdec mX8_readWhole 9 (.bipush 117) 2 := by decide +kernel
theorem dX8_readWhole_11 : vdec mX8_readWhole 11 (.bipush 110) 2 := by decide +kernel
theorem dX8_readWhole_13 : vdec mX8_readWhole 13 (.bipush 116) 2 := by decide +kernel
theorem dX8_readWhole_15 : vdec mX8_readWhole 15 (.invokestatic 134) 3 := by decide +kernel
theorem dX8_readWhole_18 : vdec mX8_readWhole 18 (.invokevirtual 130) 3 := by decide +kernel
theorem dX8_readWhole_21 : vdec mX8_readWhole 21 (.ifCond .eq 12) 3 := by decide +kernel
theorem dX8_readWhole_24 : vdec mX8_readWhole 24 (.aload_n 0) 1 := by decide +kernel
theorem dX8_readWhole_25 : vdec mX8_readWhole 25 (.invokevirtual 150) 3 := by decide +kernel
theorem dX8_readWhole_28 : vdec mX8_readWhole 28 (.ifCond .ne (-28)) 3 := by decide +kernel
theorem dX8_readWhole_31 : vdec mX8_readWhole 31 (.iconst 0) 1 := by decide +kernel
theorem dX8_readWhole_32 : vdec mX8_readWhole 32 (.ireturn) 1 := by decide +kernel
theorem dX8_readWhole_33 : vdec mX8_readWhole 33 (.aload_n 0) 1 := by decide +kernel
theorem dX8_readWhole_34 : vdec mX8_readWhole 34 (.bipush 106) 2 := by decide +kernel
theorem dX8_readWhole_36 : vdec mX8_readWhole 36 (.bipush 111) 2 := by decide +kernel
theorem dX8_readWhole_38 : vdec mX8_readWhole 38 (.bipush 117) 2 := by decide +kernel
theorem dX8_readWhole_40 : vdec mX8_readWhole 40 (.bipush 114) 2 := by decide +kernel
theorem dX8_readWhole_42 : vdec mX8_readWhole 42 (.bipush 110) 2 := by decide +kernel
theorem dX8_readWhole_44 : vdec mX8_readWhole 44 (.bipush 97) 2 := by decide +kernel
theorem dX8_readWhole_46 : vdec mX8_readWhole 46 (.bipush 108) 2 := by decide +kernel
theorem dX8_readWhole_48 : vdec mX8_readWhole 48 (.invokestatic 134) 3 := by decide +kernel
theorem dX8_readWhole_51 : vdec mX8_readWhole 51 (.invokevirtual 130) 3 := by decide +kernel
theorem dX8_readWhole_54 : vdec mX8_readWhole 54 (.ifCond .eq 12) 3 := by decide +kernel
theorem dX8_readWhole_57 : vdec mX8_readWhole 57 (.aload_n 0) 1 := by decide +kernel
theorem dX8_readWhole_58 : vdec mX8_readWhole 58 (.invokevirtual 154) 3 := by decide +kernel
theorem dX8_readWhole_61 : vdec mX8_readWhole 61 (.ifCond .ne (-28)) 3 := by decide +kernel
theorem dX8_readWhole_64 : vdec mX8_readWhole 64 (.iconst 0) 1 := by decide +kernel
theorem dX8_readWhole_65 : vdec mX8_readWhole 65 (.ireturn) 1 := by decide +kernel
theorem dX8_readWhole_66 : vdec mX8_readWhole 66 (.aload_n 0) 1 := by decide +kernel
theorem dX8_readWhole_67 : vdec mX8_readWhole 67 (.getfield 27) 3 := by decide +kernel
theorem dX8_readWhole_70 : vdec mX8_readWhole 70 (.ifCond .eq 11) 3 := by decide +kernel
theorem dX8_readWhole_73 : vdec mX8_readWhole 73 (.aload_n 0) 1 := by decide +kernel
theorem dX8_readWhole_74 : vdec mX8_readWhole 74 (.iconst 1) 1 := by decide +kernel
theorem dX8_readWhole_75 : vdec mX8_readWhole 75 (.invokevirtual 109) 3 := by decide +kernel
theorem dX8_readWhole_78 : vdec mX8_readWhole 78 (.ifCond .eq 7) 3 := by decide +kernel
theorem dX8_readWhole_81 : vdec mX8_readWhole 81 (.iconst 1) 1 := by decide +kernel
theorem dX8_readWhole_82 : vdec mX8_readWhole 82 (.goto 4) 3 := by decide +kernel
theorem dX8_readWhole_85 : vdec mX8_readWhole 85 (.iconst 0) 1 := by decide +kernel
theorem dX8_readWhole_86 : vdec mX8_readWhole 86 (.ireturn) 1 := by decide +kernel
theorem dX8_text_0 : vdec mX8_text 0 (.aload_n 0) 1 := by decide +kernel
theorem dX8_text_1 : vdec mX8_text 1 (.iconst 0) 1 := by decide +kernel
theorem dX8_text_2 : vdec mX8_text 2 (.putfield 1) 3 := by decide +kernel
theorem dX8_text_5 : vdec mX8_text 5 (.aload_n 0) 1 := by decide +kernel
theorem dX8_text_6 : vdec mX8_text 6 (.aload_n 0) 1 := by decide +kernel
theorem dX8_text_7 : vdec mX8_text 7 (.getfield 11) 3 := by decide +kernel
theorem dX8_text_10 : vdec mX8_text 10 (.putfield 18) 3 := by decide +kernel
theorem dX8_text_13 : vdec mX8_text 13 (.aload_n 0) 1 := by decide +kernel
theorem dX8_text_14 : vdec mX8_text 14 (.iconst 0) 1 := by decide +kernel
theorem dX8_text_15 : vdec mX8_text 15 (.putfield 11) 3 := by decide +kernel
theorem dX8_text_18 : vdec mX8_text 18 (.aload_n 0) 1 := by decide +kernel
theorem dX8_text_19 : vdec mX8_text 19 (.iconst 0) 1 := by decide +kernel
theorem dX8_text_20 : vdec mX8_text 20 (.putfield 64) 3 := by decide +kernel
theorem dX8_text_23 : vdec mX8_text 23 (.aload_n 0) 1 := by decide +kernel
theorem dX8_text_24 : vdec mX8_text 24 (.iconst 0) 1 := by decide +kernel
theorem dX8_text_25 : vdec mX8_text 25 (.putfield 21) 3 := by decide +kernel
theorem dX8_text_28 : vdec mX8_text 28 (.iconst 0) 1 := by decide +kernel
theorem dX8_text_29 : vdec mX8_text 29 (.istore_n 1) 1 := by decide +kernel
theorem dX8_text_30 : vdec mX8_text 30 (.iload_n 1) 1 := by decide +kernel
theorem dX8_text_31 : vdec mX8_text 31 (.sipush 500) 3 := by decide +kernel
theorem dX8_text_34 : vdec mX8_text 34 (.if_icmp .ge 16) 3 := by decide +kernel
theorem dX8_text_37 : vdec mX8_text 37 (.aload_n 0) 1 := by decide +kernel
theorem dX8_text_38 : vdec mX8_text 38 (.getfield 79) 3 := by decide +kernel
theorem dX8_text_41 : vdec mX8_text 41 (.iload_n 1) 1 := by decide +kernel
theorem dX8_text_42 : vdec mX8_text 42 (.iconst 0) 1 := by decide +kernel
theorem dX8_text_43 : vdec mX8_text 43 (.iastore) 1 := by decide +kernel
theorem dX8_text_44 : vdec mX8_text 44 (.iinc 1 1) 3 := by decide +kernel
theorem dX8_text_47 : vdec mX8_text 47 (.goto (-17)) 3 := by decide +kernel
theorem dX8_text_50 : vdec mX8_text 50 (.aload_n 0) 1 := by decide +kernel
theorem dX8_text_51 : vdec mX8_text 51 (.invokevirtual 119) 3 := by decide +kernel
theorem dX8_text_54 : vdec mX8_text 54 (.aload_n 0) 1 := by decide +kernel
theorem dX8_text_55 : vdec mX8_text 55 (.invokevirtual 157) 3 := by decide +kernel
theorem dX8_text_58 : vdec mX8_text 58 (.ifCond .ne 10) 3 := by decide +kernel
theorem dX8_text_61 : vdec mX8_text 61 (.iconst (-1)) 1 := by decide +kernel
theorem dX8_text_62 : vdec mX8_text 62 (.aload_n 0) 1 := by decide +kernel
theorem dX8_text_63 : vdec mX8_text 63 (.getfield 67) 3 := by decide +kernel
theorem dX8_text_66 : vdec mX8_text 66 (.isub) 1 := by decide +kernel
theorem dX8_text_67 : vdec mX8_text 67 (.ireturn) 1 := by decide +kernel
theorem dX8_text_68 : vdec mX8_text 68 (.iconst 0) 1 := by decide +kernel
theorem dX8_text_69 : vdec mX8_text 69 (.istore_n 1) 1 := by decide +kernel
theorem dX8_text_70 : vdec mX8_text 70 (.iload_n 1) 1 := by decide +kernel
theorem dX8_text_71 : vdec mX8_text 71 (.sipush 500) 3 := by decide +kernel
theorem dX8_text_74 : vdec mX8_text 74 (.if_icmp .ge 21) 3 := by decide +kernel
theorem dX8_text_77 : vdec mX8_text 77 (.aload_n 0) 1 := by decide +kernel
theorem dX8_text_78 : vdec mX8_text 78 (.getfield 76) 3 := by decide +kernel
theorem dX8_text_81 : vdec mX8_text 81 (.iload_n 1) 1 := by decide +kernel
theorem dX8_text_82 : vdec mX8_text 82 (.aload_n 0) 1 := by decide +kernel
end
section
theorem dX8_text_83 : vdec mX8_text 83 (.getfield 79) 3 := by decide +kernel
theorem dX8_text_86 : vdec mX8_text 86 (.iload_n 1) 1 := by decide +kernel
theorem dX8_text_87 : vdec mX8_text 87 (.iaload) 1 := by decide +kernel
theorem dX8_text_88 : vdec mX8_text 88 (.iastore) 1 := by decide +kernel
theorem dX8_text_89 : vdec mX8_text 89 (.iinc 1 1) 3 := by decide +kernel
theorem dX8_text_92 : vdec mX8_text 92 (.goto (-22)) 3 := by decide +kernel
theorem dX8_text_95 : vdec mX8_text 95 (.aload_n 0) 1 := by decide +kernel
theorem dX8_text_96 : vdec mX8_text 96 (.iconst 0) 1 := by decide +kernel
theorem dX8_text_97 : vdec mX8_text 97 (.putfield 160) 3 := by decide +kernel
theorem dX8_text_100 : vdec mX8_text 100 (.aload_n 0) 1 := by decide +kernel
theorem dX8_text_101 : vdec mX8_text 101 (.getfield 76) 3 := by decide +kernel
theorem dX8_text_104 : vdec mX8_text 104 (.iconst 0) 1 := by decide +kernel
theorem dX8_text_105 : vdec mX8_text 105 (.iaload) 1 := by decide +kernel
theorem dX8_text_106 : vdec mX8_text 106 (.aload_n 0) 1 := by decide +kernel
theorem dX8_text_107 : vdec mX8_text 107 (.getfield 76) 3 := by decide +kernel
theorem dX8_text_110 : vdec mX8_text 110 (.iconst 1) 1 := by decide +kernel
theorem dX8_text_111 : vdec mX8_text 111 (.iaload) 1 := by decide +kernel
theorem dX8_text_112 : vdec mX8_text 112 (.iadd) 1 := by decide +kernel
theorem dX8_text_113 : vdec mX8_text 113 (.ireturn) 1 := by decide +kernel
theorem dX8_fault_0 : vdec mX8_fault 0 (.aload_n 0) 1 := by decide +kernel
theorem dX8_fault_1 : vdec mX8_fault 1 (.iconst 0) 1 := by decide +kernel
theorem dX8_fault_2 : vdec mX8_fault 2 (.putfield 1) 3 := by decide +kernel
theorem dX8_fault_5 : vdec mX8_fault 5 (.aload_n 0) 1 := by decide +kernel
theorem dX8_fault_6 : vdec mX8_fault 6 (.getfield 64) 3 := by decide +kernel
theorem dX8_fault_9 : vdec mX8_fault 9 (.ireturn) 1 := by decide +kernel
theorem dX8_isAccount_0 : vdec mX8_isAccount 0 (.iload_n 1) 1 := by decide +kernel
theorem dX8_isAccount_1 : vdec mX8_isAccount 1 (.iconst 0) 1 := by decide +kernel
theorem dX8_isAccount_2 : vdec mX8_isAccount 2 (.aload_n 0) 1 := by decide +kernel
theorem dX8_isAccount_3 : vdec mX8_isAccount 3 (.getfield 76) 3 := by decide +kernel
theorem dX8_isAccount_6 : vdec mX8_isAccount 6 (.iconst 0) 1 := by decide +kernel
theorem dX8_isAccount_7 : vdec mX8_isAccount 7 (.iaload) 1 := by decide +kernel
theorem dX8_isAccount_8 : vdec mX8_isAccount 8 (.iconst 1) 1 := by decide +kernel
theorem dX8_isAccount_9 : vdec mX8_isAccount 9 (.isub) 1 := by decide +kernel
theorem dX8_isAccount_10 : vdec mX8_isAccount 10 (.invokestatic 112) 3 := by decide +kernel
theorem dX8_isAccount_13 : vdec mX8_isAccount 13 (.ireturn) 1 := by decide +kernel
theorem dX8_isJournal_0 : vdec mX8_isJournal 0 (.iload_n 1) 1 := by decide +kernel
theorem dX8_isJournal_1 : vdec mX8_isJournal 1 (.iconst 0) 1 := by decide +kernel
theorem dX8_isJournal_2 : vdec mX8_isJournal 2 (.aload_n 0) 1 := by decide +kernel
theorem dX8_isJournal_3 : vdec mX8_isJournal 3 (.getfield 76) 3 := by decide +kernel
theorem dX8_isJournal_6 : vdec mX8_isJournal 6 (.iconst 1) 1 := by decide +kernel
theorem dX8_isJournal_7 : vdec mX8_isJournal 7 (.iaload) 1 := by decide +kernel
theorem dX8_isJournal_8 : vdec mX8_isJournal 8 (.iconst 1) 1 := by decide +kernel
theorem dX8_isJournal_9 : vdec mX8_isJournal 9 (.isub) 1 := by decide +kernel
theorem dX8_isJournal_10 : vdec mX8_isJournal 10 (.invokestatic 112) 3 := by decide +kernel
theorem dX8_isJournal_13 : vdec mX8_isJournal 13 (.ireturn) 1 := by decide +kernel
theorem dX8_its_0 : vdec mX8_its 0 (.aload_n 0) 1 := by decide +kernel
theorem dX8_its_1 : vdec mX8_its 1 (.getfield 76) 3 := by decide +kernel
theorem dX8_its_4 : vdec mX8_its 4 (.iconst 2) 1 := by decide +kernel
theorem dX8_its_5 : vdec mX8_its 5 (.iconst 4) 1 := by decide +kernel
theorem dX8_its_6 : vdec mX8_its 6 (.iload_n 1) 1 := by decide +kernel
theorem dX8_its_7 : vdec mX8_its 7 (.imul) 1 := by decide +kernel
theorem dX8_its_8 : vdec mX8_its 8 (.iadd) 1 := by decide +kernel
theorem dX8_its_9 : vdec mX8_its 9 (.iload_n 2) 1 := by decide +kernel
theorem dX8_its_10 : vdec mX8_its 10 (.iadd) 1 := by decide +kernel
theorem dX8_its_11 : vdec mX8_its 11 (.iaload) 1 := by decide +kernel
theorem dX8_its_12 : vdec mX8_its 12 (.ireturn) 1 := by decide +kernel
theorem dX8_kindOf_0 : vdec mX8_kindOf 0 (.aload_n 0) 1 := by decide +kernel
theorem dX8_kindOf_1 : vdec mX8_kindOf 1 (.iload_n 1) 1 := by decide +kernel
theorem dX8_kindOf_2 : vdec mX8_kindOf 2 (.iconst 0) 1 := by decide +kernel
theorem dX8_kindOf_3 : vdec mX8_kindOf 3 (.invokevirtual 163) 3 := by decide +kernel
theorem dX8_kindOf_6 : vdec mX8_kindOf 6 (.ireturn) 1 := by decide +kernel
theorem dX8_told_0 : vdec mX8_told 0 (.aload_n 0) 1 := by decide +kernel
theorem dX8_told_1 : vdec mX8_told 1 (.getfield 76) 3 := by decide +kernel
theorem dX8_told_4 : vdec mX8_told 4 (.bipush 50) 2 := by decide +kernel
theorem dX8_told_6 : vdec mX8_told 6 (.bipush 15) 2 := by decide +kernel
theorem dX8_told_8 : vdec mX8_told 8 (.iload_n 1) 1 := by decide +kernel
theorem dX8_told_9 : vdec mX8_told 9 (.imul) 1 := by decide +kernel
theorem dX8_told_10 : vdec mX8_told 10 (.iadd) 1 := by decide +kernel
theorem dX8_told_11 : vdec mX8_told 11 (.iload_n 2) 1 := by decide +kernel
theorem dX8_told_12 : vdec mX8_told 12 (.iadd) 1 := by decide +kernel
theorem dX8_told_13 : vdec mX8_told 13 (.iaload) 1 := by decide +kernel
theorem dX8_told_14 : vdec mX8_told 14 (.ireturn) 1 := by decide +kernel
theorem dX8_lineOf_0 : vdec mX8_lineOf 0 (.aload_n 0) 1 := by decide +kernel
theorem dX8_lineOf_1 : vdec mX8_lineOf 1 (.iload_n 1) 1 := by decide +kernel
theorem dX8_lineOf_2 : vdec mX8_lineOf 2 (.iconst 3) 1 := by decide +kernel
theorem dX8_lineOf_3 : vdec mX8_lineOf 3 (.iconst 2) 1 := by decide +kernel
theorem dX8_lineOf_4 : vdec mX8_lineOf 4 (.iload_n 2) 1 := by decide +kernel
theorem dX8_lineOf_5 : vdec mX8_lineOf 5 (.imul) 1 := by decide +kernel
theorem dX8_lineOf_6 : vdec mX8_lineOf 6 (.iadd) 1 := by decide +kernel
theorem dX8_lineOf_7 : vdec mX8_lineOf 7 (.invokevirtual 167) 3 := by decide +kernel
theorem dX8_lineOf_10 : vdec mX8_lineOf 10 (.ireturn) 1 := by decide +kernel
theorem dX8_amountOf_0 : vdec mX8_amountOf 0 (.aload_n 0) 1 := by decide +kernel
theorem dX8_amountOf_1 : vdec mX8_amountOf 1 (.iload_n 1) 1 := by decide +kernel
theorem dX8_amountOf_2 : vdec mX8_amountOf 2 (.iconst 3) 1 := by decide +kernel
theorem dX8_amountOf_3 : vdec mX8_amountOf 3 (.iconst 2) 1 := by decide +kernel
theorem dX8_amountOf_4 : vdec mX8_amountOf 4 (.iload_n 2) 1 := by decide +kernel
theorem dX8_amountOf_5 : vdec mX8_amountOf 5 (.imul) 1 := by decide +kernel
theorem dX8_amountOf_6 : vdec mX8_amountOf 6 (.iadd) 1 := by decide +kernel
theorem dX8_amountOf_7 : vdec mX8_amountOf 7 (.iconst 1) 1 := by decide +kernel
theorem dX8_amountOf_8 : vdec mX8_amountOf 8 (.iadd) 1 := by decide +kernel
theorem dX8_amountOf_9 : vdec mX8_amountOf 9 (.invokevirtual 167) 3 := by decide +kernel
theorem dX8_amountOf_12 : vdec mX8_amountOf 12 (.ireturn) 1 := by decide +kernel
theorem dX8_counts_0 : vdec mX8_counts 0 (.aload_n 0) 1 := by decide +kernel
theorem dX8_counts_1 : vdec mX8_counts 1 (.iload_n 1) 1 := by decide +kernel
theorem dX8_counts_2 : vdec mX8_counts 2 (.iconst 1) 1 := by decide +kernel
theorem dX8_counts_3 : vdec mX8_counts 3 (.invokevirtual 167) 3 := by decide +kernel
theorem dX8_counts_6 : vdec mX8_counts 6 (.ifCond .ne 21) 3 := by decide +kernel
theorem dX8_counts_9 : vdec mX8_counts 9 (.aload_n 0) 1 := by decide +kernel
theorem dX8_counts_10 : vdec mX8_counts 10 (.iload_n 1) 1 := by decide +kernel
theorem dX8_counts_11 : vdec mX8_counts 11 (.iconst 0) 1 := by decide +kernel
theorem dX8_counts_12 : vdec mX8_counts 12 (.invokevirtual 167) 3 := by decide +kernel
theorem dX8_counts_15 : vdec mX8_counts 15 (.iload_n 2) 1 := by decide +kernel
theorem dX8_counts_16 : vdec mX8_counts 16 (.iload_n 3) 1 := by decide +kernel
theorem dX8_counts_17 : vdec mX8_counts 17 (.invokestatic 112) 3 := by decide +kernel
theorem dX8_counts_20 : vdec mX8_counts 20 (.ifCond .eq 7) 3 := by decide +kernel
theorem dX8_counts_23 : vdec mX8_counts 23 (.iconst 1) 1 := by decide +kernel
theorem dX8_counts_24 : vdec mX8_counts 24 (.goto 4) 3 := by decide +kernel
theorem dX8_counts_27 : vdec mX8_counts 27 (.iconst 0) 1 := by decide +kernel
theorem dX8_counts_28 : vdec mX8_counts 28 (.ireturn) 1 := by decide +kernel
theorem dX8_moved_0 : vdec mX8_moved 0 (.iconst 0) 1 := by decide +kernel
theorem dX8_moved_1 : vdec mX8_moved 1 (.istore_n 3) 1 := by decide +kernel
theorem dX8_moved_2 : vdec mX8_moved 2 (.iconst 0) 1 := by decide +kernel
theorem dX8_moved_3 : vdec mX8_moved 3 (.istore 4) 2 := by decide +kernel
theorem dX8_moved_5 : vdec mX8_moved 5 (.iload 4) 2 := by decide +kernel
theorem dX8_moved_7 : vdec mX8_moved 7 (.aload_n 0) 1 := by decide +kernel
theorem dX8_moved_8 : vdec mX8_moved 8 (.iload_n 1) 1 := by decide +kernel
theorem dX8_moved_9 : vdec mX8_moved 9 (.iconst 2) 1 := by decide +kernel
theorem dX8_moved_10 : vdec mX8_moved 10 (.invokevirtual 167) 3 := by decide +kernel
theorem dX8_moved_13 : vdec mX8_moved 13 (.if_icmp .ge 30) 3 := by decide +kernel
theorem dX8_moved_16 : vdec mX8_moved 16 (.aload_n 0) 1 := by decide +kernel
theorem dX8_moved_17 : vdec mX8_moved 17 (.iload_n 1) 1 := by decide +kernel
theorem dX8_moved_18 : vdec mX8_moved 18 (.iload 4) 2 := by decide +kernel
theorem dX8_moved_20 : vdec mX8_moved 20 (.invokevirtual 170) 3 := by decide +kernel
theorem dX8_moved_23 : vdec mX8_moved 23 (.iload_n 2) 1 := by decide +kernel
theorem dX8_moved_24 : vdec mX8_moved 24 (.if_icmp .ne 13) 3 := by decide +kernel
theorem dX8_moved_27 : vdec mX8_moved 27 (.iload_n 3) 1 := by decide +kernel
theorem dX8_moved_28 : vdec mX8_moved 28 (.aload_n 0) 1 := by decide +kernel
theorem dX8_moved_29 : vdec mX8_moved 29 (.iload_n 1) 1 := by decide +kernel
theorem dX8_moved_30 : vdec mX8_moved 30 (.iload 4) 2 := by decide +kernel
theorem dX8_moved_32 : vdec mX8_moved 32 (.invokevirtual 173) 3 := by decide +kernel
theorem dX8_moved_35 : vdec mX8_moved 35 (.iadd) 1 := by decide +kernel
theorem dX8_moved_36 : vdec mX8_moved 36 (.istore_n 3) 1 := by decide +kernel
theorem dX8_moved_37 : vdec mX8_moved 37 (.iinc 4 1) 3 := by decide +kernel
theorem dX8_moved_40 : vdec mX8_moved 40 (.goto (-35)) 3 := by decide +kernel
theorem dX8_moved_43 : vdec mX8_moved 43 (.iload_n 3) 1 := by decide +kernel
theorem dX8_moved_44 : vdec mX8_moved 44 (.ireturn) 1 := by decide +kernel
theorem dX8_movedIn_0 : vdec mX8_movedIn 0 (.iconst 0) 1 := by decide +kernel
theorem dX8_movedIn_1 : vdec mX8_movedIn 1 (.istore 4) 2 := by decide +kernel
theorem dX8_movedIn_3 : vdec mX8_movedIn 3 (.iconst 0) 1 := by decide +kernel
theorem dX8_movedIn_4 : vdec mX8_movedIn 4 (.istore 5) 2 := by decide +kernel
theorem dX8_movedIn_6 : vdec mX8_movedIn 6 (.iload 5) 2 := by decide +kernel
theorem dX8_movedIn_8 : vdec mX8_movedIn 8 (.aload_n 0) 1 := by decide +kernel
theorem dX8_movedIn_9 : vdec mX8_movedIn 9 (.getfield 76) 3 := by decide +kernel
theorem dX8_movedIn_12 : vdec mX8_movedIn 12 (.iconst 1) 1 := by decide +kernel
theorem dX8_movedIn_13 : vdec mX8_movedIn 13 (.iaload) 1 := by decide +kernel
theorem dX8_movedIn_14 : vdec mX8_movedIn 14 (.if_icmp .ge 32) 3 := by decide +kernel
theorem dX8_movedIn_17 : vdec mX8_movedIn 17 (.aload_n 0) 1 := by decide +kernel
theorem dX8_movedIn_18 : vdec mX8_movedIn 18 (.iload 5) 2 := by decide +kernel
theorem dX8_movedIn_20 : vdec mX8_movedIn 20 (.iload_n 2) 1 := by decide +kernel
theorem dX8_movedIn_21 : vdec mX8_movedIn 21 (.iload_n 3) 1 := by decide +kernel
theorem dX8_movedIn_22 : vdec mX8_movedIn 22 (.invokevirtual 176) 3 := by decide +kernel
theorem dX8_movedIn_25 : vdec mX8_movedIn 25 (.ifCond .eq 15) 3 := by decide +kernel
theorem dX8_movedIn_28 : vdec mX8_movedIn 28 (.iload 4) 2 := by decide +kernel
theorem dX8_movedIn_30 : vdec mX8_movedIn 30 (.aload_n 0) 1 := by decide +kernel
theorem dX8_movedIn_31 : vdec mX8_movedIn 31 (.iload 5) 2 := by decide +kernel
theorem dX8_movedIn_33 : vdec mX8_movedIn 33 (.iload_n 1) 1 := by decide +kernel
theorem dX8_movedIn_34 : vdec mX8_movedIn 34 (.invokevirtual 179) 3 := by decide +kernel
theorem dX8_movedIn_37 : vdec mX8_movedIn 37 (.iadd) 1 := by decide +kernel
theorem dX8_movedIn_38 : vdec mX8_movedIn 38 (.istore 4) 2 := by decide +kernel
theorem dX8_movedIn_40 : vdec mX8_movedIn 40 (.iinc 5 1) 3 := by decide +kernel
theorem dX8_movedIn_43 : vdec mX8_movedIn 43 (.goto (-37)) 3 := by decide +kernel
theorem dX8_movedIn_46 : vdec mX8_movedIn 46 (.iload 4) 2 := by decide +kernel
theorem dX8_movedIn_48 : vdec mX8_movedIn 48 (.ireturn) 1 := by decide +kernel
theorem dX8_balanceOf_0 : vdec mX8_balanceOf 0 (.aload_n 0) 1 := by decide +kernel
theorem dX8_balanceOf_1 : vdec mX8_balanceOf 1 (.iload_n 1) 1 := by decide +kernel
theorem dX8_balanceOf_2 : vdec mX8_balanceOf 2 (.iconst 1) 1 := by decide +kernel
theorem dX8_balanceOf_3 : vdec mX8_balanceOf 3 (.invokevirtual 163) 3 := by decide +kernel
theorem dX8_balanceOf_6 : vdec mX8_balanceOf 6 (.aload_n 0) 1 := by decide +kernel
theorem dX8_balanceOf_7 : vdec mX8_balanceOf 7 (.iload_n 1) 1 := by decide +kernel
theorem dX8_balanceOf_8 : vdec mX8_balanceOf 8 (.iconst 0) 1 := by decide +kernel
theorem dX8_balanceOf_9 : vdec mX8_balanceOf 9 (.iload_n 2) 1 := by decide +kernel
theorem dX8_balanceOf_10 : vdec mX8_balanceOf 10 (.invokevirtual 182) 3 := by decide +kernel
theorem dX8_balanceOf_13 : vdec mX8_balanceOf 13 (.iadd) 1 := by decide +kernel
theorem dX8_balanceOf_14 : vdec mX8_balanceOf 14 (.ireturn) 1 := by decide +kernel
theorem dX8_residual_0 : vdec mX8_residual 0 (.aload_n 0) 1 := by decide +kernel
theorem dX8_residual_1 : vdec mX8_residual 1 (.iload_n 1) 1 := by decide +kernel
theorem dX8_residual_2 : vdec mX8_residual 2 (.iconst 2) 1 := by decide +kernel
theorem dX8_residual_3 : vdec mX8_residual 3 (.invokevirtual 163) 3 := by decide +kernel
theorem dX8_residual_6 : vdec mX8_residual 6 (.ifCond .ne 7) 3 := by decide +kernel
theorem dX8_residual_9 : vdec mX8_residual 9 (.iconst 0) 1 := by decide +kernel
theorem dX8_residual_10 : vdec mX8_residual 10 (.goto 17) 3 := by decide +kernel
theorem dX8_residual_13 : vdec mX8_residual 13 (.aload_n 0) 1 := by decide +kernel
theorem dX8_residual_14 : vdec mX8_residual 14 (.iload_n 1) 1 := by decide +kernel
theorem dX8_residual_15 : vdec mX8_residual 15 (.iconst 3) 1 := by decide +kernel
theorem dX8_residual_16 : vdec mX8_residual 16 (.invokevirtual 163) 3 := by decide +kernel
theorem dX8_residual_19 : vdec mX8_residual 19 (.aload_n 0) 1 := by decide +kernel
theorem dX8_residual_20 : vdec mX8_residual 20 (.iload_n 1) 1 := by decide +kernel
theorem dX8_residual_21 : vdec mX8_residual 21 (.bipush 20) 2 := by decide +kernel
theorem dX8_residual_23 : vdec mX8_residual 23 (.invokevirtual 186) 3 := by decide +kernel
theorem dX8_residual_26 : vdec mX8_residual 26 (.isub) 1 := by decide +kernel
theorem dX8_residual_27 : vdec mX8_residual 27 (.ireturn) 1 := by decide +kernel
theorem dX8_tries_0 : vdec mX8_tries 0 (.iload_n 2) 1 := by decide +kernel
theorem dX8_tries_1 : vdec mX8_tries 1 (.aload_n 0) 1 := by decide +kernel
theorem dX8_tries_2 : vdec mX8_tries 2 (.iload_n 1) 1 := by decide +kernel
theorem dX8_tries_3 : vdec mX8_tries 3 (.iconst 2) 1 := by decide +kernel
theorem dX8_tries_4 : vdec mX8_tries 4 (.invokevirtual 167) 3 := by decide +kernel
theorem dX8_tries_7 : vdec mX8_tries 7 (.if_icmp .ne 73) 3 := by decide +kernel
theorem dX8_tries_10 : vdec mX8_tries 10 (.iconst 0) 1 := by decide +kernel
theorem dX8_tries_11 : vdec mX8_tries 11 (.istore 4) 2 := by decide +kernel
theorem dX8_tries_13 : vdec mX8_tries 13 (.iload 4) 2 := by decide +kernel
theorem dX8_tries_15 : vdec mX8_tries 15 (.iload_n 3) 1 := by decide +kernel
theorem dX8_tries_16 : vdec mX8_tries 16 (.if_icmp .ge 20) 3 := by decide +kernel
theorem dX8_tries_19 : vdec mX8_tries 19 (.aload_n 0) 1 := by decide +kernel
theorem dX8_tries_20 : vdec mX8_tries 20 (.getfield 91) 3 := by decide +kernel
theorem dX8_tries_23 : vdec mX8_tries 23 (.iload 4) 2 := by decide +kernel
theorem dX8_tries_25 : vdec mX8_tries 25 (.iaload) 1 := by decide +kernel
theorem dX8_tries_26 : vdec mX8_tries 26 (.ifCond .eq 4) 3 := by decide +kernel
theorem dX8_tries_29 : vdec mX8_tries 29 (.return_) 1 := by decide +kernel
theorem dX8_tries_30 : vdec mX8_tries 30 (.iinc 4 1) 3 := by decide +kernel
theorem dX8_tries_33 : vdec mX8_tries 33 (.goto (-20)) 3 := by decide +kernel
theorem dX8_tries_36 : vdec mX8_tries 36 (.iload_n 3) 1 := by decide +kernel
theorem dX8_tries_37 : vdec mX8_tries 37 (.aload_n 0) 1 := by decide +kernel
theorem dX8_tries_38 : vdec mX8_tries 38 (.getfield 189) 3 := by decide +kernel
theorem dX8_tries_41 : vdec mX8_tries 41 (.if_icmp .gt 4) 3 := by decide +kernel
theorem dX8_tries_44 : vdec mX8_tries 44 (.return_) 1 := by decide +kernel
theorem dX8_tries_45 : vdec mX8_tries 45 (.aload_n 0) 1 := by decide +kernel
theorem dX8_tries_46 : vdec mX8_tries 46 (.iload_n 3) 1 := by decide +kernel
theorem dX8_tries_47 : vdec mX8_tries 47 (.putfield 189) 3 := by decide +kernel
theorem dX8_tries_50 : vdec mX8_tries 50 (.iconst 0) 1 := by decide +kernel
theorem dX8_tries_51 : vdec mX8_tries 51 (.istore 4) 2 := by decide +kernel
theorem dX8_tries_53 : vdec mX8_tries 53 (.iload 4) 2 := by decide +kernel
theorem dX8_tries_55 : vdec mX8_tries 55 (.iload_n 2) 1 := by decide +kernel
theorem dX8_tries_56 : vdec mX8_tries 56 (.if_icmp .ge 23) 3 := by decide +kernel
theorem dX8_tries_59 : vdec mX8_tries 59 (.aload_n 0) 1 := by decide +kernel
theorem dX8_tries_60 : vdec mX8_tries 60 (.getfield 88) 3 := by decide +kernel
theorem dX8_tries_63 : vdec mX8_tries 63 (.iload 4) 2 := by decide +kernel
theorem dX8_tries_65 : vdec mX8_tries 65 (.aload_n 0) 1 := by decide +kernel
theorem dX8_tries_66 : vdec mX8_tries 66 (.getfield 85) 3 := by decide +kernel
theorem dX8_tries_69 : vdec mX8_tries 69 (.iload 4) 2 := by decide +kernel
theorem dX8_tries_71 : vdec mX8_tries 71 (.iaload) 1 := by decide +kernel
theorem dX8_tries_72 : vdec mX8_tries 72 (.iastore) 1 := by decide +kernel
theorem dX8_tries_73 : vdec mX8_tries 73 (.iinc 4 1) 3 := by decide +kernel
theorem dX8_tries_76 : vdec mX8_tries 76 (.goto (-23)) 3 := by decide +kernel
theorem dX8_tries_79 : vdec mX8_tries 79 (.return_) 1 := by decide +kernel
theorem dX8_tries_80 : vdec mX8_tries 80 (.iconst 0) 1 := by decide +kernel
theorem dX8_tries_81 : vdec mX8_tries 81 (.istore 4) 2 := by decide +kernel
theorem dX8_tries_83 : vdec mX8_tries 83 (.iload 4) 2 := by decide +kernel
theorem dX8_tries_85 : vdec mX8_tries 85 (.iload_n 3) 1 := by decide +kernel
theorem dX8_tries_86 : vdec mX8_tries 86 (.if_icmp .gt 70) 3 := by decide +kernel
theorem dX8_tries_89 : vdec mX8_tries 89 (.aload_n 0) 1 := by decide +kernel
theorem dX8_tries_90 : vdec mX8_tries 90 (.getfield 85) 3 := by decide +kernel
theorem dX8_tries_93 : vdec mX8_tries 93 (.iload_n 2) 1 := by decide +kernel
theorem dX8_tries_94 : vdec mX8_tries 94 (.iload 4) 2 := by decide +kernel
theorem dX8_tries_96 : vdec mX8_tries 96 (.iastore) 1 := by decide +kernel
theorem dX8_tries_97 : vdec mX8_tries 97 (.aload_n 0) 1 := by decide +kernel
theorem dX8_tries_98 : vdec mX8_tries 98 (.getfield 91) 3 := by decide +kernel
theorem dX8_tries_101 : vdec mX8_tries 101 (.iload 4) 2 := by decide +kernel
theorem dX8_tries_103 : vdec mX8_tries 103 (.dup2) 1 := by decide +kernel
theorem dX8_tries_104 : vdec mX8_tries 104 (.iaload) 1 := by decide +kernel
theorem dX8_tries_105 : vdec mX8_tries 105 (.aload_n 0) 1 := by decide +kernel
theorem dX8_tries_106 : vdec mX8_tries 106 (.iload_n 1) 1 := by decide +kernel
theorem dX8_tries_107 : vdec mX8_tries 107 (.iload_n 2) 1 := by decide +kernel
theorem dX8_tries_108 : vdec mX8_tries 108 (.invokevirtual 173) 3 := by decide +kernel
theorem dX8_tries_111 : vdec mX8_tries 111 (.iadd) 1 := by decide +kernel
theorem dX8_tries_112 : vdec mX8_tries 112 (.iastore) 1 := by decide +kernel
theorem dX8_tries_113 : vdec mX8_tries 113 (.aload_n 0) 1 := by decide +kernel
theorem dX8_tries_114 : vdec mX8_tries 114 (.iload_n 1) 1 := by decide +kernel
theorem dX8_tries_115 : vdec mX8_tries 115 (.iload_n 2) 1 := by decide +kernel
theorem dX8_tries_116 : vdec mX8_tries 116 (.iconst 1) 1 := by decide +kernel
theorem dX8_tries_117 : vdec mX8_tries 117 (.iadd) 1 := by decide +kernel
theorem dX8_tries_118 : vdec mX8_tries 118 (.iload 4) 2 := by decide +kernel
theorem dX8_tries_120 : vdec mX8_tries 120 (.iload_n 3) 1 := by decide +kernel
theorem dX8_tries_121 : vdec mX8_tries 121 (.if_icmp .ne 9) 3 := by decide +kernel
theorem dX8_tries_124 : vdec mX8_tries 124 (.iload_n 3) 1 := by decide +kernel
theorem dX8_tries_125 : vdec mX8_tries 125 (.iconst 1) 1 := by decide +kernel
theorem dX8_tries_126 : vdec mX8_tries 126 (.iadd) 1 := by decide +kernel
theorem dX8_tries_127 : vdec mX8_tries 127 (.goto 4) 3 := by decide +kernel
theorem dX8_tries_130 : vdec mX8_tries 130 (.iload_n 3) 1 := by decide +kernel
theorem dX8_tries_131 : vdec mX8_tries 131 (.invokevirtual 192) 3 := by decide +kernel
theorem dX8_tries_134 : vdec mX8_tries 134 (.aload_n 0) 1 := by decide +kernel
theorem dX8_tries_135 : vdec mX8_tries 135 (.getfield 91) 3 := by decide +kernel
theorem dX8_tries_138 : vdec mX8_tries 138 (.iload 4) 2 := by decide +kernel
theorem dX8_tries_140 : vdec mX8_tries 140 (.dup2) 1 := by decide +kernel
theorem dX8_tries_141 : vdec mX8_tries 141 (.iaload) 1 := by decide +kernel
theorem dX8_tries_142 : vdec mX8_tries 142 (.aload_n 0) 1 := by decide +kernel
theorem dX8_tries_143 : vdec mX8_tries 143 (.iload_n 1) 1 := by decide +kernel
theorem dX8_tries_144 : vdec mX8_tries 144 (.iload_n 2) 1 := by decide +kernel
theorem dX8_tries_145 : vdec mX8_tries 145 (.invokevirtual 173) 3 := by decide +kernel
theorem dX8_tries_148 : vdec mX8_tries 148 (.isub) 1 := by decide +kernel
theorem dX8_tries_149 : vdec mX8_tries 149 (.iastore) 1 := by decide +kernel
theorem dX8_tries_150 : vdec mX8_tries 150 (.iinc 4 1) 3 := by decide +kernel
theorem dX8_tries_153 : vdec mX8_tries 153 (.goto (-70)) 3 := by decide +kernel
theorem dX8_tries_156 : vdec mX8_tries 156 (.return_) 1 := by decide +kernel
theorem dX8_nextLine_0 : vdec mX8_nextLine 0 (.iconst 0) 1 := by decide +kernel
theorem dX8_nextLine_1 : vdec mX8_nextLine 1 (.istore 4) 2 := by decide +kernel
theorem dX8_nextLine_3 : vdec mX8_nextLine 3 (.iload 4) 2 := by decide +kernel
theorem dX8_nextLine_5 : vdec mX8_nextLine 5 (.aload_n 0) 1 := by decide +kernel
theorem dX8_nextLine_6 : vdec mX8_nextLine 6 (.iload_n 1) 1 := by decide +kernel
theorem dX8_nextLine_7 : vdec mX8_nextLine 7 (.iconst 2) 1 := by decide +kernel
theorem dX8_nextLine_8 : vdec mX8_nextLine 8 (.invokevirtual 167) 3 := by decide +kernel
theorem dX8_nextLine_11 : vdec mX8_nextLine 11 (.if_icmp .ge 52) 3 := by decide +kernel
theorem dX8_nextLine_14 : vdec mX8_nextLine 14 (.aload_n 0) 1 := by decide +kernel
theorem dX8_nextLine_15 : vdec mX8_nextLine 15 (.getfield 88) 3 := by decide +kernel
theorem dX8_nextLine_18 : vdec mX8_nextLine 18 (.iload 4) 2 := by decide +kernel
theorem dX8_nextLine_20 : vdec mX8_nextLine 20 (.iaload) 1 := by decide +kernel
theorem dX8_nextLine_21 : vdec mX8_nextLine 21 (.iload_n 2) 1 := by decide +kernel
theorem dX8_nextLine_22 : vdec mX8_nextLine 22 (.if_icmp .ne 35) 3 := by decide +kernel
theorem dX8_nextLine_25 : vdec mX8_nextLine 25 (.aload_n 0) 1 := by decide +kernel
theorem dX8_nextLine_26 : vdec mX8_nextLine 26 (.getfield 103) 3 := by decide +kernel
theorem dX8_nextLine_29 : vdec mX8_nextLine 29 (.iload 4) 2 := by decide +kernel
theorem dX8_nextLine_31 : vdec mX8_nextLine 31 (.iaload) 1 := by decide +kernel
theorem dX8_nextLine_32 : vdec mX8_nextLine 32 (.ifCond .le 25) 3 := by decide +kernel
theorem dX8_nextLine_35 : vdec mX8_nextLine 35 (.aload_n 0) 1 := by decide +kernel
theorem dX8_nextLine_36 : vdec mX8_nextLine 36 (.iload_n 1) 1 := by decide +kernel
theorem dX8_nextLine_37 : vdec mX8_nextLine 37 (.iload 4) 2 := by decide +kernel
theorem dX8_nextLine_39 : vdec mX8_nextLine 39 (.invokevirtual 173) 3 := by decide +kernel
theorem dX8_nextLine_42 : vdec mX8_nextLine 42 (.ifCond .le 7) 3 := by decide +kernel
theorem dX8_nextLine_45 : vdec mX8_nextLine 45 (.iconst 1) 1 := by decide +kernel
theorem dX8_nextLine_46 : vdec mX8_nextLine 46 (.goto 4) 3 := by decide +kernel
theorem dX8_nextLine_49 : vdec mX8_nextLine 49 (.iconst 0) 1 := by decide +kernel
theorem dX8_nextLine_50 : vdec mX8_nextLine 50 (.iload_n 3) 1 := by decide +kernel
theorem dX8_nextLine_51 : vdec mX8_nextLine 51 (.if_icmp .ne 6) 3 := by decide +kernel
theorem dX8_nextLine_54 : vdec mX8_nextLine 54 (.iload 4) 2 := by decide +kernel
theorem dX8_nextLine_56 : vdec mX8_nextLine 56 (.ireturn) 1 := by decide +kernel
theorem dX8_nextLine_57 : vdec mX8_nextLine 57 (.iinc 4 1) 3 := by decide +kernel
theorem dX8_nextLine_60 : vdec mX8_nextLine 60 (.goto (-57)) 3 := by decide +kernel
theorem dX8_nextLine_63 : vdec mX8_nextLine 63 (.iconst (-1)) 1 := by decide +kernel
theorem dX8_nextLine_64 : vdec mX8_nextLine 64 (.ireturn) 1 := by decide +kernel
theorem dX8_laysPieces_0 : vdec mX8_laysPieces 0 (.iconst 0) 1 := by decide +kernel
theorem dX8_laysPieces_1 : vdec mX8_laysPieces 1 (.istore_n 2) 1 := by decide +kernel
theorem dX8_laysPieces_2 : vdec mX8_laysPieces 2 (.iload_n 2) 1 := by decide +kernel
theorem dX8_laysPieces_3 : vdec mX8_laysPieces 3 (.bipush 6) 2 := by decide +kernel
theorem dX8_laysPieces_5 : vdec mX8_laysPieces 5 (.if_icmp .ge 61) 3 := by decide +kernel
theorem dX8_laysPieces_8 : vdec mX8_laysPieces 8 (.aload_n 0) 1 := by decide +kernel
theorem dX8_laysPieces_9 : vdec mX8_laysPieces 9 (.getfield 91) 3 := by decide +kernel
theorem dX8_laysPieces_12 : vdec mX8_laysPieces 12 (.iload_n 2) 1 := by decide +kernel
theorem dX8_laysPieces_13 : vdec mX8_laysPieces 13 (.iconst 0) 1 := by decide +kernel
theorem dX8_laysPieces_14 : vdec mX8_laysPieces 14 (.iastore) 1 := by decide +kernel
theorem dX8_laysPieces_15 : vdec mX8_laysPieces 15 (.aload_n 0) 1 := by decide +kernel
theorem dX8_laysPieces_16 : vdec mX8_laysPieces 16 (.getfield 103) 3 := by decide +kernel
theorem dX8_laysPieces_19 : vdec mX8_laysPieces 19 (.iload_n 2) 1 := by decide +kernel
theorem dX8_laysPieces_20 : vdec mX8_laysPieces 20 (.iload_n 2) 1 := by decide +kernel
theorem dX8_laysPieces_21 : vdec mX8_laysPieces 21 (.aload_n 0) 1 := by decide +kernel
theorem dX8_laysPieces_22 : vdec mX8_laysPieces 22 (.iload_n 1) 1 := by decide +kernel
theorem dX8_laysPieces_23 : vdec mX8_laysPieces 23 (.iconst 2) 1 := by decide +kernel
theorem dX8_laysPieces_24 : vdec mX8_laysPieces 24 (.invokevirtual 167) 3 := by decide +kernel
theorem dX8_laysPieces_27 : vdec mX8_laysPieces 27 (.if_icmp .lt 7) 3 := by decide +kernel
theorem dX8_laysPieces_30 : vdec mX8_laysPieces 30 (.iconst 0) 1 := by decide +kernel
theorem dX8_laysPieces_31 : vdec mX8_laysPieces 31 (.goto 28) 3 := by decide +kernel
theorem dX8_laysPieces_34 : vdec mX8_laysPieces 34 (.aload_n 0) 1 := by decide +kernel
theorem dX8_laysPieces_35 : vdec mX8_laysPieces 35 (.iload_n 1) 1 := by decide +kernel
theorem dX8_laysPieces_36 : vdec mX8_laysPieces 36 (.iload_n 2) 1 := by decide +kernel
theorem dX8_laysPieces_37 : vdec mX8_laysPieces 37 (.invokevirtual 173) 3 := by decide +kernel
theorem dX8_laysPieces_40 : vdec mX8_laysPieces 40 (.ifCond .ge 13) 3 := by decide +kernel
theorem dX8_laysPieces_43 : vdec mX8_laysPieces 43 (.aload_n 0) 1 := by decide +kernel
theorem dX8_laysPieces_44 : vdec mX8_laysPieces 44 (.iload_n 1) 1 := by decide +kernel
theorem dX8_laysPieces_45 : vdec mX8_laysPieces 45 (.iload_n 2) 1 := by decide +kernel
theorem dX8_laysPieces_46 : vdec mX8_laysPieces 46 (.invokevirtual 173) 3 := by decide +kernel
theorem dX8_laysPieces_49 : vdec mX8_laysPieces 49 (.ineg) 1 := by decide +kernel
theorem dX8_laysPieces_50 : vdec mX8_laysPieces 50 (.goto 9) 3 := by decide +kernel
theorem dX8_laysPieces_53 : vdec mX8_laysPieces 53 (.aload_n 0) 1 := by decide +kernel
theorem dX8_laysPieces_54 : vdec mX8_laysPieces 54 (.iload_n 1) 1 := by decide +kernel
theorem dX8_laysPieces_55 : vdec mX8_laysPieces 55 (.iload_n 2) 1 := by decide +kernel
theorem dX8_laysPieces_56 : vdec mX8_laysPieces 56 (.invokevirtual 173) 3 := by decide +kernel
theorem dX8_laysPieces_59 : vdec mX8_laysPieces 59 (.iastore) 1 := by decide +kernel
theorem dX8_laysPieces_60 : vdec mX8_laysPieces 60 (.iinc 2 1) 3 := by decide +kernel
theorem dX8_laysPieces_63 : vdec mX8_laysPieces 63 (.goto (-61)) 3 := by decide +kernel
theorem dX8_laysPieces_66 : vdec mX8_laysPieces 66 (.aload_n 0) 1 := by decide +kernel
theorem dX8_laysPieces_67 : vdec mX8_laysPieces 67 (.iconst 0) 1 := by decide +kernel
theorem dX8_laysPieces_68 : vdec mX8_laysPieces 68 (.putfield 189) 3 := by decide +kernel
theorem dX8_laysPieces_71 : vdec mX8_laysPieces 71 (.aload_n 0) 1 := by decide +kernel
theorem dX8_laysPieces_72 : vdec mX8_laysPieces 72 (.iload_n 1) 1 := by decide +kernel
theorem dX8_laysPieces_73 : vdec mX8_laysPieces 73 (.iconst 0) 1 := by decide +kernel
theorem dX8_laysPieces_74 : vdec mX8_laysPieces 74 (.iconst 0) 1 := by decide +kernel
theorem dX8_laysPieces_75 : vdec mX8_laysPieces 75 (.invokevirtual 192) 3 := by decide +kernel
theorem dX8_laysPieces_78 : vdec mX8_laysPieces 78 (.aload_n 0) 1 := by decide +kernel
theorem dX8_laysPieces_79 : vdec mX8_laysPieces 79 (.iconst 0) 1 := by decide +kernel
theorem dX8_laysPieces_80 : vdec mX8_laysPieces 80 (.putfield 196) 3 := by decide +kernel
theorem dX8_laysPieces_83 : vdec mX8_laysPieces 83 (.iconst 0) 1 := by decide +kernel
theorem dX8_laysPieces_84 : vdec mX8_laysPieces 84 (.istore_n 2) 1 := by decide +kernel
theorem dX8_laysPieces_85 : vdec mX8_laysPieces 85 (.iload_n 2) 1 := by decide +kernel
theorem dX8_laysPieces_86 : vdec mX8_laysPieces 86 (.aload_n 0) 1 := by decide +kernel
theorem dX8_laysPieces_87 : vdec mX8_laysPieces 87 (.getfield 189) 3 := by decide +kernel
theorem dX8_laysPieces_90 : vdec mX8_laysPieces 90 (.if_icmp .ge 166) 3 := by decide +kernel
theorem dX8_laysPieces_93 : vdec mX8_laysPieces 93 (.aload_n 0) 1 := by decide +kernel
theorem dX8_laysPieces_94 : vdec mX8_laysPieces 94 (.iload_n 1) 1 := by decide +kernel
theorem dX8_laysPieces_95 : vdec mX8_laysPieces 95 (.iload_n 2) 1 := by decide +kernel
theorem dX8_laysPieces_96 : vdec mX8_laysPieces 96 (.iconst 0) 1 := by decide +kernel
theorem dX8_laysPieces_97 : vdec mX8_laysPieces 97 (.invokevirtual 199) 3 := by decide +kernel
theorem dX8_laysPieces_100 : vdec mX8_laysPieces 100 (.istore_n 3) 1 := by decide +kernel
theorem dX8_laysPieces_101 : vdec mX8_laysPieces 101 (.aload_n 0) 1 := by decide +kernel
theorem dX8_laysPieces_102 : vdec mX8_laysPieces 102 (.iload_n 1) 1 := by decide +kernel
theorem dX8_laysPieces_103 : vdec mX8_laysPieces 103 (.iload_n 2) 1 := by decide +kernel
theorem dX8_laysPieces_104 : vdec mX8_laysPieces 104 (.iconst 1) 1 := by decide +kernel
theorem dX8_laysPieces_105 : vdec mX8_laysPieces 105 (.invokevirtual 199) 3 := by decide +kernel
theorem dX8_laysPieces_108 : vdec mX8_laysPieces 108 (.istore 4) 2 := by decide +kernel
theorem dX8_laysPieces_110 : vdec mX8_laysPieces 110 (.iload_n 3) 1 := by decide +kernel
theorem dX8_laysPieces_111 : vdec mX8_laysPieces 111 (.iconst (-1)) 1 := by decide +kernel
theorem dX8_laysPieces_112 : vdec mX8_laysPieces 112 (.if_icmp .eq 138) 3 := by decide +kernel
theorem dX8_laysPieces_115 : vdec mX8_laysPieces 115 (.iload 4) 2 := by decide +kernel
theorem dX8_laysPieces_117 : vdec mX8_laysPieces 117 (.iconst (-1)) 1 := by decide +kernel
theorem dX8_laysPieces_118 : vdec mX8_laysPieces 118 (.if_icmp .eq 132) 3 := by decide +kernel
theorem dX8_laysPieces_121 : vdec mX8_laysPieces 121 (.aload_n 0) 1 := by decide +kernel
theorem dX8_laysPieces_122 : vdec mX8_laysPieces 122 (.getfield 103) 3 := by decide +kernel
theorem dX8_laysPieces_125 : vdec mX8_laysPieces 125 (.iload_n 3) 1 := by decide +kernel
theorem dX8_laysPieces_126 : vdec mX8_laysPieces 126 (.iaload) 1 := by decide +kernel
theorem dX8_laysPieces_127 : vdec mX8_laysPieces 127 (.aload_n 0) 1 := by decide +kernel
theorem dX8_laysPieces_128 : vdec mX8_laysPieces 128 (.getfield 103) 3 := by decide +kernel
theorem dX8_laysPieces_131 : vdec mX8_laysPieces 131 (.iload 4) 2 := by decide +kernel
theorem dX8_laysPieces_133 : vdec mX8_laysPieces 133 (.iaload) 1 := by decide +kernel
theorem dX8_laysPieces_134 : vdec mX8_laysPieces 134 (.if_icmp .ge 12) 3 := by decide +kernel
theorem dX8_laysPieces_137 : vdec mX8_laysPieces 137 (.aload_n 0) 1 := by decide +kernel
theorem dX8_laysPieces_138 : vdec mX8_laysPieces 138 (.getfield 103) 3 := by decide +kernel
theorem dX8_laysPieces_141 : vdec mX8_laysPieces 141 (.iload_n 3) 1 := by decide +kernel
theorem dX8_laysPieces_142 : vdec mX8_laysPieces 142 (.iaload) 1 := by decide +kernel
theorem dX8_laysPieces_143 : vdec mX8_laysPieces 143 (.goto 10) 3 := by decide +kernel
theorem dX8_laysPieces_146 : vdec mX8_laysPieces 146 (.aload_n 0) 1 := by decide +kernel
theorem dX8_laysPieces_147 : vdec mX8_laysPieces 147 (.getfield 103) 3 := by decide +kernel
theorem dX8_laysPieces_150 : vdec mX8_laysPieces 150 (.iload 4) 2 := by decide +kernel
theorem dX8_laysPieces_152 : vdec mX8_laysPieces 152 (.iaload) 1 := by decide +kernel
theorem dX8_laysPieces_153 : vdec mX8_laysPieces 153 (.istore 5) 2 := by decide +kernel
theorem dX8_laysPieces_155 : vdec mX8_laysPieces 155 (.aload_n 0) 1 := by decide +kernel
theorem dX8_laysPieces_156 : vdec mX8_laysPieces 156 (.getfield 94) 3 := by decide +kernel
theorem dX8_laysPieces_159 : vdec mX8_laysPieces 159 (.aload_n 0) 1 := by decide +kernel
theorem dX8_laysPieces_160 : vdec mX8_laysPieces 160 (.getfield 196) 3 := by decide +kernel
theorem dX8_laysPieces_163 : vdec mX8_laysPieces 163 (.aload_n 0) 1 := by decide +kernel
theorem dX8_laysPieces_164 : vdec mX8_laysPieces 164 (.iload_n 1) 1 := by decide +kernel
theorem dX8_laysPieces_165 : vdec mX8_laysPieces 165 (.iload_n 3) 1 := by decide +kernel
theorem dX8_laysPieces_166 : vdec mX8_laysPieces 166 (.invokevirtual 170) 3 := by decide +kernel
theorem dX8_laysPieces_169 : vdec mX8_laysPieces 169 (.iastore) 1 := by decide +kernel
theorem dX8_laysPieces_170 : vdec mX8_laysPieces 170 (.aload_n 0) 1 := by decide +kernel
theorem dX8_laysPieces_171 : vdec mX8_laysPieces 171 (.getfield 97) 3 := by decide +kernel
theorem dX8_laysPieces_174 : vdec mX8_laysPieces 174 (.aload_n 0) 1 := by decide +kernel
theorem dX8_laysPieces_175 : vdec mX8_laysPieces 175 (.getfield 196) 3 := by decide +kernel
theorem dX8_laysPieces_178 : vdec mX8_laysPieces 178 (.aload_n 0) 1 := by decide +kernel
theorem dX8_laysPieces_179 : vdec mX8_laysPieces 179 (.iload_n 1) 1 := by decide +kernel
theorem dX8_laysPieces_180 : vdec mX8_laysPieces 180 (.iload 4) 2 := by decide +kernel
theorem dX8_laysPieces_182 : vdec mX8_laysPieces 182 (.invokevirtual 170) 3 := by decide +kernel
theorem dX8_laysPieces_185 : vdec mX8_laysPieces 185 (.iastore) 1 := by decide +kernel
theorem dX8_laysPieces_186 : vdec mX8_laysPieces 186 (.aload_n 0) 1 := by decide +kernel
theorem dX8_laysPieces_187 : vdec mX8_laysPieces 187 (.getfield 100) 3 := by decide +kernel
theorem dX8_laysPieces_190 : vdec mX8_laysPieces 190 (.aload_n 0) 1 := by decide +kernel
theorem dX8_laysPieces_191 : vdec mX8_laysPieces 191 (.getfield 196) 3 := by decide +kernel
theorem dX8_laysPieces_194 : vdec mX8_laysPieces 194 (.iload 5) 2 := by decide +kernel
theorem dX8_laysPieces_196 : vdec mX8_laysPieces 196 (.iastore) 1 := by decide +kernel
theorem dX8_laysPieces_197 : vdec mX8_laysPieces 197 (.aload_n 0) 1 := by decide +kernel
theorem dX8_laysPieces_198 : vdec mX8_laysPieces 198 (.dup) 1 := by decide +kernel
theorem dX8_laysPieces_199 : vdec mX8_laysPieces 199 (.getfield 196) 3 := by decide +kernel
theorem dX8_laysPieces_202 : vdec mX8_laysPieces 202 (.iconst 1) 1 := by decide +kernel
theorem dX8_laysPieces_203 : vdec mX8_laysPieces 203 (.iadd) 1 := by decide +kernel
theorem dX8_laysPieces_204 : vdec mX8_laysPieces 204 (.putfield 196) 3 := by decide +kernel
theorem dX8_laysPieces_207 : vdec mX8_laysPieces 207 (.aload_n 0) 1 := by decide +kernel
theorem dX8_laysPieces_208 : vdec mX8_laysPieces 208 (.getfield 103) 3 := by decide +kernel
theorem dX8_laysPieces_211 : vdec mX8_laysPieces 211 (.iload_n 3) 1 := by decide +kernel
theorem dX8_laysPieces_212 : vdec mX8_laysPieces 212 (.dup2) 1 := by decide +kernel
theorem dX8_laysPieces_213 : vdec mX8_laysPieces 213 (.iaload) 1 := by decide +kernel
theorem dX8_laysPieces_214 : vdec mX8_laysPieces 214 (.iload 5) 2 := by decide +kernel
theorem dX8_laysPieces_216 : vdec mX8_laysPieces 216 (.isub) 1 := by decide +kernel
theorem dX8_laysPieces_217 : vdec mX8_laysPieces 217 (.iastore) 1 := by decide +kernel
theorem dX8_laysPieces_218 : vdec mX8_laysPieces 218 (.aload_n 0) 1 := by decide +kernel
theorem dX8_laysPieces_219 : vdec mX8_laysPieces 219 (.getfield 103) 3 := by decide +kernel
theorem dX8_laysPieces_222 : vdec mX8_laysPieces 222 (.iload 4) 2 := by decide +kernel
theorem dX8_laysPieces_224 : vdec mX8_laysPieces 224 (.dup2) 1 := by decide +kernel
theorem dX8_laysPieces_225 : vdec mX8_laysPieces 225 (.iaload) 1 := by decide +kernel
theorem dX8_laysPieces_226 : vdec mX8_laysPieces 226 (.iload 5) 2 := by decide +kernel
theorem dX8_laysPieces_228 : vdec mX8_laysPieces 228 (.isub) 1 := by decide +kernel
theorem dX8_laysPieces_229 : vdec mX8_laysPieces 229 (.iastore) 1 := by decide +kernel
theorem dX8_laysPieces_230 : vdec mX8_laysPieces 230 (.aload_n 0) 1 := by decide +kernel
theorem dX8_laysPieces_231 : vdec mX8_laysPieces 231 (.iload_n 1) 1 := by decide +kernel
theorem dX8_laysPieces_232 : vdec mX8_laysPieces 232 (.iload_n 2) 1 := by decide +kernel
theorem dX8_laysPieces_233 : vdec mX8_laysPieces 233 (.iconst 0) 1 := by decide +kernel
theorem dX8_laysPieces_234 : vdec mX8_laysPieces 234 (.invokevirtual 199) 3 := by decide +kernel
theorem dX8_laysPieces_237 : vdec mX8_laysPieces 237 (.istore_n 3) 1 := by decide +kernel
theorem dX8_laysPieces_238 : vdec mX8_laysPieces 238 (.aload_n 0) 1 := by decide +kernel
theorem dX8_laysPieces_239 : vdec mX8_laysPieces 239 (.iload_n 1) 1 := by decide +kernel
theorem dX8_laysPieces_240 : vdec mX8_laysPieces 240 (.iload_n 2) 1 := by decide +kernel
theorem dX8_laysPieces_241 : vdec mX8_laysPieces 241 (.iconst 1) 1 := by decide +kernel
theorem dX8_laysPieces_242 : vdec mX8_laysPieces 242 (.invokevirtual 199) 3 := by decide +kernel
theorem dX8_laysPieces_245 : vdec mX8_laysPieces 245 (.istore 4) 2 := by decide +kernel
theorem dX8_laysPieces_247 : vdec mX8_laysPieces 247 (.goto (-137)) 3 := by decide +kernel
theorem dX8_laysPieces_250 : vdec mX8_laysPieces 250 (.iinc 2 1) 3 := by decide +kernel
theorem dX8_laysPieces_253 : vdec mX8_laysPieces 253 (.goto (-168)) 3 := by decide +kernel
theorem dX8_laysPieces_256 : vdec mX8_laysPieces 256 (.return_) 1 := by decide +kernel
theorem dX8_classOf_0 : vdec mX8_classOf 0 (.aload_n 0) 1 := by decide +kernel
theorem dX8_classOf_1 : vdec mX8_classOf 1 (.aload_n 0) 1 := by decide +kernel
theorem dX8_classOf_2 : vdec mX8_classOf 2 (.getfield 94) 3 := by decide +kernel
theorem dX8_classOf_5 : vdec mX8_classOf 5 (.iload_n 1) 1 := by decide +kernel
theorem dX8_classOf_6 : vdec mX8_classOf 6 (.iaload) 1 := by decide +kernel
theorem dX8_classOf_7 : vdec mX8_classOf 7 (.invokevirtual 203) 3 := by decide +kernel
theorem dX8_classOf_10 : vdec mX8_classOf 10 (.istore_n 2) 1 := by decide +kernel
theorem dX8_classOf_11 : vdec mX8_classOf 11 (.aload_n 0) 1 := by decide +kernel
theorem dX8_classOf_12 : vdec mX8_classOf 12 (.aload_n 0) 1 := by decide +kernel
theorem dX8_classOf_13 : vdec mX8_classOf 13 (.getfield 97) 3 := by decide +kernel
theorem dX8_classOf_16 : vdec mX8_classOf 16 (.iload_n 1) 1 := by decide +kernel
theorem dX8_classOf_17 : vdec mX8_classOf 17 (.iaload) 1 := by decide +kernel
theorem dX8_classOf_18 : vdec mX8_classOf 18 (.invokevirtual 203) 3 := by decide +kernel
theorem dX8_classOf_21 : vdec mX8_classOf 21 (.istore_n 3) 1 := by decide +kernel
theorem dX8_classOf_22 : vdec mX8_classOf 22 (.iload_n 2) 1 := by decide +kernel
theorem dX8_classOf_23 : vdec mX8_classOf 23 (.ifCond .ne 9) 3 := by decide +kernel
theorem dX8_classOf_26 : vdec mX8_classOf 26 (.iload_n 3) 1 := by decide +kernel
theorem dX8_classOf_27 : vdec mX8_classOf 27 (.ifCond .ne 5) 3 := by decide +kernel
theorem dX8_classOf_30 : vdec mX8_classOf 30 (.iconst 5) 1 := by decide +kernel
theorem dX8_classOf_31 : vdec mX8_classOf 31 (.ireturn) 1 := by decide +kernel
theorem dX8_classOf_32 : vdec mX8_classOf 32 (.iload_n 2) 1 := by decide +kernel
theorem dX8_classOf_33 : vdec mX8_classOf 33 (.ifCond .eq 9) 3 := by decide +kernel
theorem dX8_classOf_36 : vdec mX8_classOf 36 (.iload_n 3) 1 := by decide +kernel
theorem dX8_classOf_37 : vdec mX8_classOf 37 (.ifCond .eq 5) 3 := by decide +kernel
theorem dX8_classOf_40 : vdec mX8_classOf 40 (.iconst 4) 1 := by decide +kernel
theorem dX8_classOf_41 : vdec mX8_classOf 41 (.ireturn) 1 := by decide +kernel
theorem dX8_classOf_42 : vdec mX8_classOf 42 (.iload_n 2) 1 := by decide +kernel
theorem dX8_classOf_43 : vdec mX8_classOf 43 (.ifCond .ne 7) 3 := by decide +kernel
theorem dX8_classOf_46 : vdec mX8_classOf 46 (.iload_n 3) 1 := by decide +kernel
theorem dX8_classOf_47 : vdec mX8_classOf 47 (.goto 4) 3 := by decide +kernel
theorem dX8_classOf_50 : vdec mX8_classOf 50 (.iload_n 2) 1 := by decide +kernel
theorem dX8_classOf_51 : vdec mX8_classOf 51 (.istore 4) 2 := by decide +kernel
theorem dX8_classOf_53 : vdec mX8_classOf 53 (.iload 4) 2 := by decide +kernel
theorem dX8_classOf_55 : vdec mX8_classOf 55 (.iconst 2) 1 := by decide +kernel
theorem dX8_classOf_56 : vdec mX8_classOf 56 (.if_icmp .gt 7) 3 := by decide +kernel
theorem dX8_classOf_59 : vdec mX8_classOf 59 (.iconst 0) 1 := by decide +kernel
theorem dX8_classOf_60 : vdec mX8_classOf 60 (.goto 7) 3 := by decide +kernel
theorem dX8_classOf_63 : vdec mX8_classOf 63 (.iload 4) 2 := by decide +kernel
theorem dX8_classOf_65 : vdec mX8_classOf 65 (.iconst 2) 1 := by decide +kernel
theorem dX8_classOf_66 : vdec mX8_classOf 66 (.isub) 1 := by decide +kernel
theorem dX8_classOf_67 : vdec mX8_classOf 67 (.ireturn) 1 := by decide +kernel
theorem dX8_now_0 : vdec mX8_now 0 (.aload_n 0) 1 := by decide +kernel
theorem dX8_now_1 : vdec mX8_now 1 (.iconst 0) 1 := by decide +kernel
theorem dX8_now_2 : vdec mX8_now 2 (.putfield 1) 3 := by decide +kernel
theorem dX8_now_5 : vdec mX8_now 5 (.iconst 0) 1 := by decide +kernel
theorem dX8_now_6 : vdec mX8_now 6 (.istore_n 2) 1 := by decide +kernel
theorem dX8_now_7 : vdec mX8_now 7 (.iload_n 1) 1 := by decide +kernel
theorem dX8_now_8 : vdec mX8_now 8 (.tableswitch 115 0 5 #[40, 40, 47, 76, 105, 110]) 40 := by decide +kernel
theorem dX8_now_48 : vdec mX8_now 48 (.aload_n 0) 1 := by decide +kernel
theorem dX8_now_49 : vdec mX8_now 49 (.getfield 76) 3 := by decide +kernel
theorem dX8_now_52 : vdec mX8_now 52 (.iload_n 1) 1 := by decide +kernel
theorem dX8_now_53 : vdec mX8_now 53 (.iaload) 1 := by decide +kernel
theorem dX8_now_54 : vdec mX8_now 54 (.ireturn) 1 := by decide +kernel
theorem dX8_now_55 : vdec mX8_now 55 (.iconst 0) 1 := by decide +kernel
theorem dX8_now_56 : vdec mX8_now 56 (.istore_n 3) 1 := by decide +kernel
theorem dX8_now_57 : vdec mX8_now 57 (.iload_n 3) 1 := by decide +kernel
theorem dX8_now_58 : vdec mX8_now 58 (.aload_n 0) 1 := by decide +kernel
theorem dX8_now_59 : vdec mX8_now 59 (.getfield 76) 3 := by decide +kernel
theorem dX8_now_62 : vdec mX8_now 62 (.iconst 1) 1 := by decide +kernel
theorem dX8_now_63 : vdec mX8_now 63 (.iaload) 1 := by decide +kernel
theorem dX8_now_64 : vdec mX8_now 64 (.if_icmp .ge 18) 3 := by decide +kernel
theorem dX8_now_67 : vdec mX8_now 67 (.iload_n 2) 1 := by decide +kernel
theorem dX8_now_68 : vdec mX8_now 68 (.aload_n 0) 1 := by decide +kernel
theorem dX8_now_69 : vdec mX8_now 69 (.iload_n 3) 1 := by decide +kernel
theorem dX8_now_70 : vdec mX8_now 70 (.iconst 1) 1 := by decide +kernel
theorem dX8_now_71 : vdec mX8_now 71 (.invokevirtual 167) 3 := by decide +kernel
theorem dX8_now_74 : vdec mX8_now 74 (.iadd) 1 := by decide +kernel
theorem dX8_now_75 : vdec mX8_now 75 (.istore_n 2) 1 := by decide +kernel
theorem dX8_now_76 : vdec mX8_now 76 (.iinc 3 1) 3 := by decide +kernel
theorem dX8_now_79 : vdec mX8_now 79 (.goto (-22)) 3 := by decide +kernel
theorem dX8_now_82 : vdec mX8_now 82 (.iload_n 2) 1 := by decide +kernel
theorem dX8_now_83 : vdec mX8_now 83 (.ireturn) 1 := by decide +kernel
theorem dX8_now_84 : vdec mX8_now 84 (.iconst 0) 1 := by decide +kernel
theorem dX8_now_85 : vdec mX8_now 85 (.istore_n 3) 1 := by decide +kernel
theorem dX8_now_86 : vdec mX8_now 86 (.iload_n 3) 1 := by decide +kernel
theorem dX8_now_87 : vdec mX8_now 87 (.aload_n 0) 1 := by decide +kernel
theorem dX8_now_88 : vdec mX8_now 88 (.getfield 76) 3 := by decide +kernel
theorem dX8_now_91 : vdec mX8_now 91 (.iconst 0) 1 := by decide +kernel
theorem dX8_now_92 : vdec mX8_now 92 (.iaload) 1 := by decide +kernel
theorem dX8_now_93 : vdec mX8_now 93 (.if_icmp .ge 18) 3 := by decide +kernel
theorem dX8_now_96 : vdec mX8_now 96 (.iload_n 2) 1 := by decide +kernel
theorem dX8_now_97 : vdec mX8_now 97 (.aload_n 0) 1 := by decide +kernel
theorem dX8_now_98 : vdec mX8_now 98 (.iload_n 3) 1 := by decide +kernel
theorem dX8_now_99 : vdec mX8_now 99 (.iconst 2) 1 := by decide +kernel
theorem dX8_now_100 : vdec mX8_now 100 (.invokevirtual 163) 3 := by decide +kernel
theorem dX8_now_103 : vdec mX8_now 103 (.iadd) 1 := by decide +kernel
theorem dX8_now_104 : vdec mX8_now 104 (.istore_n 2) 1 := by decide +kernel
theorem dX8_now_105 : vdec mX8_now 105 (.iinc 3 1) 3 := by decide +kernel
theorem dX8_now_108 : vdec mX8_now 108 (.goto (-22)) 3 := by decide +kernel
theorem dX8_now_111 : vdec mX8_now 111 (.iload_n 2) 1 := by decide +kernel
theorem dX8_now_112 : vdec mX8_now 112 (.ireturn) 1 := by decide +kernel
theorem dX8_now_113 : vdec mX8_now 113 (.aload_n 0) 1 := by decide +kernel
theorem dX8_now_114 : vdec mX8_now 114 (.getfield 160) 3 := by decide +kernel
theorem dX8_now_117 : vdec mX8_now 117 (.ireturn) 1 := by decide +kernel
theorem dX8_now_118 : vdec mX8_now 118 (.aload_n 0) 1 := by decide +kernel
theorem dX8_now_119 : vdec mX8_now 119 (.getfield 11) 3 := by decide +kernel
theorem dX8_now_122 : vdec mX8_now 122 (.ireturn) 1 := by decide +kernel
theorem dX8_now_123 : vdec mX8_now 123 (.iconst (-1)) 1 := by decide +kernel
theorem dX8_now_124 : vdec mX8_now 124 (.ireturn) 1 := by decide +kernel
theorem dX8_account_0 : vdec mX8_account 0 (.aload_n 0) 1 := by decide +kernel
theorem dX8_account_1 : vdec mX8_account 1 (.iconst 0) 1 := by decide +kernel
theorem dX8_account_2 : vdec mX8_account 2 (.putfield 1) 3 := by decide +kernel
theorem dX8_account_5 : vdec mX8_account 5 (.aload_n 0) 1 := by decide +kernel
theorem dX8_account_6 : vdec mX8_account 6 (.iload_n 1) 1 := by decide +kernel
theorem dX8_account_7 : vdec mX8_account 7 (.invokevirtual 206) 3 := by decide +kernel
theorem dX8_account_10 : vdec mX8_account 10 (.ifCond .ne 8) 3 := by decide +kernel
theorem dX8_account_13 : vdec mX8_account 13 (.aload_n 0) 1 := by decide +kernel
theorem dX8_account_14 : vdec mX8_account 14 (.invokevirtual 209) 3 := by decide +kernel
theorem dX8_account_17 : vdec mX8_account 17 (.ireturn) 1 := by decide +kernel
theorem dX8_account_18 : vdec mX8_account 18 (.iload_n 2) 1 := by decide +kernel
theorem dX8_account_19 : vdec mX8_account 19 (.tableswitch 67 0 4 #[33, 39, 46, 54, 61]) 33 := by decide +kernel
theorem dX8_account_52 : vdec mX8_account 52 (.aload_n 0) 1 := by decide +kernel
theorem dX8_account_53 : vdec mX8_account 53 (.iload_n 1) 1 := by decide +kernel
theorem dX8_account_54 : vdec mX8_account 54 (.invokevirtual 203) 3 := by decide +kernel
theorem dX8_account_57 : vdec mX8_account 57 (.ireturn) 1 := by decide +kernel
theorem dX8_account_58 : vdec mX8_account 58 (.aload_n 0) 1 := by decide +kernel
theorem dX8_account_59 : vdec mX8_account 59 (.iload_n 1) 1 := by decide +kernel
theorem dX8_account_60 : vdec mX8_account 60 (.iconst 1) 1 := by decide +kernel
theorem dX8_account_61 : vdec mX8_account 61 (.invokevirtual 163) 3 := by decide +kernel
theorem dX8_account_64 : vdec mX8_account 64 (.ireturn) 1 := by decide +kernel
theorem dX8_account_65 : vdec mX8_account 65 (.aload_n 0) 1 := by decide +kernel
theorem dX8_account_66 : vdec mX8_account 66 (.iload_n 1) 1 := by decide +kernel
theorem dX8_account_67 : vdec mX8_account 67 (.bipush 20) 2 := by decide +kernel
theorem dX8_account_69 : vdec mX8_account 69 (.invokevirtual 186) 3 := by decide +kernel
theorem dX8_account_72 : vdec mX8_account 72 (.ireturn) 1 := by decide +kernel
theorem dX8_account_73 : vdec mX8_account 73 (.aload_n 0) 1 := by decide +kernel
theorem dX8_account_74 : vdec mX8_account 74 (.iload_n 1) 1 := by decide +kernel
theorem dX8_account_75 : vdec mX8_account 75 (.iconst 3) 1 := by decide +kernel
theorem dX8_account_76 : vdec mX8_account 76 (.invokevirtual 163) 3 := by decide +kernel
theorem dX8_account_79 : vdec mX8_account 79 (.ireturn) 1 := by decide +kernel
theorem dX8_account_80 : vdec mX8_account 80 (.aload_n 0) 1 := by decide +kernel
theorem dX8_account_81 : vdec mX8_account 81 (.iload_n 1) 1 := by decide +kernel
theorem dX8_account_82 : vdec mX8_account 82 (.invokevirtual 212) 3 := by decide +kernel
theorem dX8_account_85 : vdec mX8_account 85 (.ireturn) 1 := by decide +kernel
theorem dX8_account_86 : vdec mX8_account 86 (.aload_n 0) 1 := by decide +kernel
theorem dX8_account_87 : vdec mX8_account 87 (.invokevirtual 209) 3 := by decide +kernel
theorem dX8_account_90 : vdec mX8_account 90 (.ireturn) 1 := by decide +kernel
theorem dX8_journal_0 : vdec mX8_journal 0 (.aload_n 0) 1 := by decide +kernel
theorem dX8_journal_1 : vdec mX8_journal 1 (.iconst 0) 1 := by decide +kernel
theorem dX8_journal_2 : vdec mX8_journal 2 (.putfield 1) 3 := by decide +kernel
theorem dX8_journal_5 : vdec mX8_journal 5 (.aload_n 0) 1 := by decide +kernel
theorem dX8_journal_6 : vdec mX8_journal 6 (.iload_n 1) 1 := by decide +kernel
theorem dX8_journal_7 : vdec mX8_journal 7 (.invokevirtual 215) 3 := by decide +kernel
theorem dX8_journal_10 : vdec mX8_journal 10 (.ifCond .ne 8) 3 := by decide +kernel
theorem dX8_journal_13 : vdec mX8_journal 13 (.aload_n 0) 1 := by decide +kernel
theorem dX8_journal_14 : vdec mX8_journal 14 (.invokevirtual 209) 3 := by decide +kernel
theorem dX8_journal_17 : vdec mX8_journal 17 (.ireturn) 1 := by decide +kernel
theorem dX8_journal_18 : vdec mX8_journal 18 (.aload_n 0) 1 := by decide +kernel
theorem dX8_journal_19 : vdec mX8_journal 19 (.iload_n 1) 1 := by decide +kernel
theorem dX8_journal_20 : vdec mX8_journal 20 (.iconst 2) 1 := by decide +kernel
theorem dX8_journal_21 : vdec mX8_journal 21 (.invokevirtual 167) 3 := by decide +kernel
theorem dX8_journal_24 : vdec mX8_journal 24 (.istore_n 3) 1 := by decide +kernel
theorem dX8_journal_25 : vdec mX8_journal 25 (.iload_n 2) 1 := by decide +kernel
theorem dX8_journal_26 : vdec mX8_journal 26 (.bipush 10) 2 := by decide +kernel
theorem dX8_journal_28 : vdec mX8_journal 28 (.bipush 9) 2 := by decide +kernel
theorem dX8_journal_30 : vdec mX8_journal 30 (.iload_n 3) 1 := by decide +kernel
theorem dX8_journal_31 : vdec mX8_journal 31 (.iadd) 1 := by decide +kernel
theorem dX8_journal_32 : vdec mX8_journal 32 (.invokestatic 112) 3 := by decide +kernel
theorem dX8_journal_35 : vdec mX8_journal 35 (.ifCond .eq 13) 3 := by decide +kernel
theorem dX8_journal_38 : vdec mX8_journal 38 (.aload_n 0) 1 := by decide +kernel
theorem dX8_journal_39 : vdec mX8_journal 39 (.iload_n 1) 1 := by decide +kernel
theorem dX8_journal_40 : vdec mX8_journal 40 (.iload_n 2) 1 := by decide +kernel
theorem dX8_journal_41 : vdec mX8_journal 41 (.bipush 10) 2 := by decide +kernel
theorem dX8_journal_43 : vdec mX8_journal 43 (.isub) 1 := by decide +kernel
theorem dX8_journal_44 : vdec mX8_journal 44 (.invokevirtual 170) 3 := by decide +kernel
theorem dX8_journal_47 : vdec mX8_journal 47 (.ireturn) 1 := by decide +kernel
theorem dX8_journal_48 : vdec mX8_journal 48 (.iload_n 2) 1 := by decide +kernel
theorem dX8_journal_49 : vdec mX8_journal 49 (.bipush 20) 2 := by decide +kernel
theorem dX8_journal_51 : vdec mX8_journal 51 (.bipush 19) 2 := by decide +kernel
theorem dX8_journal_53 : vdec mX8_journal 53 (.iload_n 3) 1 := by decide +kernel
theorem dX8_journal_54 : vdec mX8_journal 54 (.iadd) 1 := by decide +kernel
theorem dX8_journal_55 : vdec mX8_journal 55 (.invokestatic 112) 3 := by decide +kernel
theorem dX8_journal_58 : vdec mX8_journal 58 (.ifCond .eq 13) 3 := by decide +kernel
theorem dX8_journal_61 : vdec mX8_journal 61 (.aload_n 0) 1 := by decide +kernel
theorem dX8_journal_62 : vdec mX8_journal 62 (.iload_n 1) 1 := by decide +kernel
theorem dX8_journal_63 : vdec mX8_journal 63 (.iload_n 2) 1 := by decide +kernel
theorem dX8_journal_64 : vdec mX8_journal 64 (.bipush 20) 2 := by decide +kernel
theorem dX8_journal_66 : vdec mX8_journal 66 (.isub) 1 := by decide +kernel
theorem dX8_journal_67 : vdec mX8_journal 67 (.invokevirtual 173) 3 := by decide +kernel
theorem dX8_journal_70 : vdec mX8_journal 70 (.ireturn) 1 := by decide +kernel
theorem dX8_journal_71 : vdec mX8_journal 71 (.aload_n 0) 1 := by decide +kernel
theorem dX8_journal_72 : vdec mX8_journal 72 (.iload_n 1) 1 := by decide +kernel
theorem dX8_journal_73 : vdec mX8_journal 73 (.invokevirtual 218) 3 := by decide +kernel
theorem dX8_journal_76 : vdec mX8_journal 76 (.iload_n 2) 1 := by decide +kernel
theorem dX8_journal_77 : vdec mX8_journal 77 (.bipush 30) 2 := by decide +kernel
theorem dX8_journal_79 : vdec mX8_journal 79 (.bipush 29) 2 := by decide +kernel
theorem dX8_journal_81 : vdec mX8_journal 81 (.iload_n 3) 1 := by decide +kernel
theorem dX8_journal_82 : vdec mX8_journal 82 (.iadd) 1 := by decide +kernel
theorem dX8_journal_83 : vdec mX8_journal 83 (.invokestatic 112) 3 := by decide +kernel
theorem dX8_journal_86 : vdec mX8_journal 86 (.ifCond .eq 13) 3 := by decide +kernel
theorem dX8_journal_89 : vdec mX8_journal 89 (.aload_n 0) 1 := by decide +kernel
theorem dX8_journal_90 : vdec mX8_journal 90 (.getfield 88) 3 := by decide +kernel
theorem dX8_journal_93 : vdec mX8_journal 93 (.iload_n 2) 1 := by decide +kernel
theorem dX8_journal_94 : vdec mX8_journal 94 (.bipush 30) 2 := by decide +kernel
theorem dX8_journal_96 : vdec mX8_journal 96 (.isub) 1 := by decide +kernel
theorem dX8_journal_97 : vdec mX8_journal 97 (.iaload) 1 := by decide +kernel
theorem dX8_journal_98 : vdec mX8_journal 98 (.ireturn) 1 := by decide +kernel
theorem dX8_journal_99 : vdec mX8_journal 99 (.iload_n 2) 1 := by decide +kernel
theorem dX8_journal_100 : vdec mX8_journal 100 (.tableswitch 62 0 4 #[36, 43, 45, 50, 55]) 36 := by decide +kernel
theorem dX8_journal_136 : vdec mX8_journal 136 (.aload_n 0) 1 := by decide +kernel
theorem dX8_journal_137 : vdec mX8_journal 137 (.iload_n 1) 1 := by decide +kernel
theorem dX8_journal_138 : vdec mX8_journal 138 (.iconst 0) 1 := by decide +kernel
theorem dX8_journal_139 : vdec mX8_journal 139 (.invokevirtual 167) 3 := by decide +kernel
theorem dX8_journal_142 : vdec mX8_journal 142 (.ireturn) 1 := by decide +kernel
theorem dX8_journal_143 : vdec mX8_journal 143 (.iload_n 3) 1 := by decide +kernel
theorem dX8_journal_144 : vdec mX8_journal 144 (.ireturn) 1 := by decide +kernel
theorem dX8_journal_145 : vdec mX8_journal 145 (.aload_n 0) 1 := by decide +kernel
theorem dX8_journal_146 : vdec mX8_journal 146 (.getfield 189) 3 := by decide +kernel
theorem dX8_journal_149 : vdec mX8_journal 149 (.ireturn) 1 := by decide +kernel
theorem dX8_journal_150 : vdec mX8_journal 150 (.aload_n 0) 1 := by decide +kernel
theorem dX8_journal_151 : vdec mX8_journal 151 (.getfield 196) 3 := by decide +kernel
theorem dX8_journal_154 : vdec mX8_journal 154 (.ireturn) 1 := by decide +kernel
theorem dX8_journal_155 : vdec mX8_journal 155 (.aload_n 0) 1 := by decide +kernel
theorem dX8_journal_156 : vdec mX8_journal 156 (.iload_n 1) 1 := by decide +kernel
theorem dX8_journal_157 : vdec mX8_journal 157 (.iconst 1) 1 := by decide +kernel
theorem dX8_journal_158 : vdec mX8_journal 158 (.invokevirtual 167) 3 := by decide +kernel
theorem dX8_journal_161 : vdec mX8_journal 161 (.ireturn) 1 := by decide +kernel
theorem dX8_journal_162 : vdec mX8_journal 162 (.aload_n 0) 1 := by decide +kernel
theorem dX8_journal_163 : vdec mX8_journal 163 (.invokevirtual 209) 3 := by decide +kernel
theorem dX8_journal_166 : vdec mX8_journal 166 (.ireturn) 1 := by decide +kernel
theorem dX8_piece_0 : vdec mX8_piece 0 (.aload_n 0) 1 := by decide +kernel
theorem dX8_piece_1 : vdec mX8_piece 1 (.iconst 0) 1 := by decide +kernel
theorem dX8_piece_2 : vdec mX8_piece 2 (.putfield 1) 3 := by decide +kernel
theorem dX8_piece_5 : vdec mX8_piece 5 (.aload_n 0) 1 := by decide +kernel
theorem dX8_piece_6 : vdec mX8_piece 6 (.iload_n 1) 1 := by decide +kernel
theorem dX8_piece_7 : vdec mX8_piece 7 (.invokevirtual 215) 3 := by decide +kernel
theorem dX8_piece_10 : vdec mX8_piece 10 (.ifCond .eq 12) 3 := by decide +kernel
theorem dX8_piece_13 : vdec mX8_piece 13 (.iload_n 3) 1 := by decide +kernel
theorem dX8_piece_14 : vdec mX8_piece 14 (.iconst 0) 1 := by decide +kernel
theorem dX8_piece_15 : vdec mX8_piece 15 (.iconst 3) 1 := by decide +kernel
theorem dX8_piece_16 : vdec mX8_piece 16 (.invokestatic 112) 3 := by decide +kernel
theorem dX8_piece_19 : vdec mX8_piece 19 (.ifCond .ne 5) 3 := by decide +kernel
theorem dX8_piece_22 : vdec mX8_piece 22 (.iconst (-1)) 1 := by decide +kernel
theorem dX8_piece_23 : vdec mX8_piece 23 (.ireturn) 1 := by decide +kernel
theorem dX8_piece_24 : vdec mX8_piece 24 (.aload_n 0) 1 := by decide +kernel
theorem dX8_piece_25 : vdec mX8_piece 25 (.iload_n 1) 1 := by decide +kernel
theorem dX8_piece_26 : vdec mX8_piece 26 (.invokevirtual 218) 3 := by decide +kernel
theorem dX8_piece_29 : vdec mX8_piece 29 (.iload_n 2) 1 := by decide +kernel
theorem dX8_piece_30 : vdec mX8_piece 30 (.iconst 0) 1 := by decide +kernel
theorem dX8_piece_31 : vdec mX8_piece 31 (.aload_n 0) 1 := by decide +kernel
theorem dX8_piece_32 : vdec mX8_piece 32 (.getfield 196) 3 := by decide +kernel
theorem dX8_piece_35 : vdec mX8_piece 35 (.iconst 1) 1 := by decide +kernel
theorem dX8_piece_36 : vdec mX8_piece 36 (.isub) 1 := by decide +kernel
theorem dX8_piece_37 : vdec mX8_piece 37 (.invokestatic 112) 3 := by decide +kernel
theorem dX8_piece_40 : vdec mX8_piece 40 (.ifCond .ne 5) 3 := by decide +kernel
theorem dX8_piece_43 : vdec mX8_piece 43 (.iconst (-1)) 1 := by decide +kernel
theorem dX8_piece_44 : vdec mX8_piece 44 (.ireturn) 1 := by decide +kernel
theorem dX8_piece_45 : vdec mX8_piece 45 (.iload_n 3) 1 := by decide +kernel
theorem dX8_piece_46 : vdec mX8_piece 46 (.ifCond .ne 12) 3 := by decide +kernel
theorem dX8_piece_49 : vdec mX8_piece 49 (.aload_n 0) 1 := by decide +kernel
theorem dX8_piece_50 : vdec mX8_piece 50 (.getfield 94) 3 := by decide +kernel
theorem dX8_piece_53 : vdec mX8_piece 53 (.iload_n 2) 1 := by decide +kernel
theorem dX8_piece_54 : vdec mX8_piece 54 (.iaload) 1 := by decide +kernel
theorem dX8_piece_55 : vdec mX8_piece 55 (.goto 36) 3 := by decide +kernel
theorem dX8_piece_58 : vdec mX8_piece 58 (.iload_n 3) 1 := by decide +kernel
theorem dX8_piece_59 : vdec mX8_piece 59 (.iconst 1) 1 := by decide +kernel
theorem dX8_piece_60 : vdec mX8_piece 60 (.if_icmp .ne 12) 3 := by decide +kernel
theorem dX8_piece_63 : vdec mX8_piece 63 (.aload_n 0) 1 := by decide +kernel
theorem dX8_piece_64 : vdec mX8_piece 64 (.getfield 97) 3 := by decide +kernel
theorem dX8_piece_67 : vdec mX8_piece 67 (.iload_n 2) 1 := by decide +kernel
theorem dX8_piece_68 : vdec mX8_piece 68 (.iaload) 1 := by decide +kernel
theorem dX8_piece_69 : vdec mX8_piece 69 (.goto 22) 3 := by decide +kernel
theorem dX8_piece_72 : vdec mX8_piece 72 (.iload_n 3) 1 := by decide +kernel
theorem dX8_piece_73 : vdec mX8_piece 73 (.iconst 2) 1 := by decide +kernel
theorem dX8_piece_74 : vdec mX8_piece 74 (.if_icmp .ne 12) 3 := by decide +kernel
theorem dX8_piece_77 : vdec mX8_piece 77 (.aload_n 0) 1 := by decide +kernel
theorem dX8_piece_78 : vdec mX8_piece 78 (.getfield 100) 3 := by decide +kernel
theorem dX8_piece_81 : vdec mX8_piece 81 (.iload_n 2) 1 := by decide +kernel
theorem dX8_piece_82 : vdec mX8_piece 82 (.iaload) 1 := by decide +kernel
theorem dX8_piece_83 : vdec mX8_piece 83 (.goto 8) 3 := by decide +kernel
theorem dX8_piece_86 : vdec mX8_piece 86 (.aload_n 0) 1 := by decide +kernel
theorem dX8_piece_87 : vdec mX8_piece 87 (.iload_n 2) 1 := by decide +kernel
theorem dX8_piece_88 : vdec mX8_piece 88 (.invokevirtual 221) 3 := by decide +kernel
theorem dX8_piece_91 : vdec mX8_piece 91 (.ireturn) 1 := by decide +kernel
theorem dX8_arePeriods_0 : vdec mX8_arePeriods 0 (.iload_n 0) 1 := by decide +kernel
theorem dX8_arePeriods_1 : vdec mX8_arePeriods 1 (.iconst 0) 1 := by decide +kernel
theorem dX8_arePeriods_2 : vdec mX8_arePeriods 2 (.bipush 19) 2 := by decide +kernel
theorem dX8_arePeriods_4 : vdec mX8_arePeriods 4 (.invokestatic 112) 3 := by decide +kernel
theorem dX8_arePeriods_7 : vdec mX8_arePeriods 7 (.ifCond .eq 17) 3 := by decide +kernel
theorem dX8_arePeriods_10 : vdec mX8_arePeriods 10 (.iload_n 1) 1 := by decide +kernel
theorem dX8_arePeriods_11 : vdec mX8_arePeriods 11 (.iload_n 0) 1 := by decide +kernel
theorem dX8_arePeriods_12 : vdec mX8_arePeriods 12 (.bipush 19) 2 := by decide +kernel
theorem dX8_arePeriods_14 : vdec mX8_arePeriods 14 (.invokestatic 112) 3 := by decide +kernel
theorem dX8_arePeriods_17 : vdec mX8_arePeriods 17 (.ifCond .eq 7) 3 := by decide +kernel
theorem dX8_arePeriods_20 : vdec mX8_arePeriods 20 (.iconst 1) 1 := by decide +kernel
theorem dX8_arePeriods_21 : vdec mX8_arePeriods 21 (.goto 4) 3 := by decide +kernel
theorem dX8_arePeriods_24 : vdec mX8_arePeriods 24 (.iconst 0) 1 := by decide +kernel
theorem dX8_arePeriods_25 : vdec mX8_arePeriods 25 (.ireturn) 1 := by decide +kernel
theorem dX8_isClass_0 : vdec mX8_isClass 0 (.iload_n 0) 1 := by decide +kernel
theorem dX8_isClass_1 : vdec mX8_isClass 1 (.iconst 0) 1 := by decide +kernel
theorem dX8_isClass_2 : vdec mX8_isClass 2 (.iconst 3) 1 := by decide +kernel
theorem dX8_isClass_3 : vdec mX8_isClass 3 (.invokestatic 112) 3 := by decide +kernel
theorem dX8_isClass_6 : vdec mX8_isClass 6 (.ireturn) 1 := by decide +kernel
theorem dX8_direct_0 : vdec mX8_direct 0 (.aload_n 0) 1 := by decide +kernel
theorem dX8_direct_1 : vdec mX8_direct 1 (.iconst 0) 1 := by decide +kernel
theorem dX8_direct_2 : vdec mX8_direct 2 (.putfield 1) 3 := by decide +kernel
theorem dX8_direct_5 : vdec mX8_direct 5 (.iload_n 1) 1 := by decide +kernel
theorem dX8_direct_6 : vdec mX8_direct 6 (.invokestatic 224) 3 := by decide +kernel
theorem dX8_direct_9 : vdec mX8_direct 9 (.ifCond .eq 21) 3 := by decide +kernel
theorem dX8_direct_12 : vdec mX8_direct 12 (.iload_n 2) 1 := by decide +kernel
theorem dX8_direct_13 : vdec mX8_direct 13 (.iload_n 3) 1 := by decide +kernel
theorem dX8_direct_14 : vdec mX8_direct 14 (.invokestatic 227) 3 := by decide +kernel
theorem dX8_direct_17 : vdec mX8_direct 17 (.ifCond .eq 13) 3 := by decide +kernel
theorem dX8_direct_20 : vdec mX8_direct 20 (.iload 4) 2 := by decide +kernel
theorem dX8_direct_22 : vdec mX8_direct 22 (.iconst 0) 1 := by decide +kernel
theorem dX8_direct_23 : vdec mX8_direct 23 (.iconst 2) 1 := by decide +kernel
theorem dX8_direct_24 : vdec mX8_direct 24 (.invokestatic 112) 3 := by decide +kernel
theorem dX8_direct_27 : vdec mX8_direct 27 (.ifCond .ne 6) 3 := by decide +kernel
theorem dX8_direct_30 : vdec mX8_direct 30 (.ldc 230) 2 := by decide +kernel
theorem dX8_direct_32 : vdec mX8_direct 32 (.ireturn) 1 := by decide +kernel
theorem dX8_direct_33 : vdec mX8_direct 33 (.iconst 0) 1 := by decide +kernel
theorem dX8_direct_34 : vdec mX8_direct 34 (.istore 5) 2 := by decide +kernel
theorem dX8_direct_36 : vdec mX8_direct 36 (.iconst 0) 1 := by decide +kernel
theorem dX8_direct_37 : vdec mX8_direct 37 (.istore 6) 2 := by decide +kernel
theorem dX8_direct_39 : vdec mX8_direct 39 (.iconst 0) 1 := by decide +kernel
theorem dX8_direct_40 : vdec mX8_direct 40 (.istore 7) 2 := by decide +kernel
theorem dX8_direct_42 : vdec mX8_direct 42 (.iload 7) 2 := by decide +kernel
theorem dX8_direct_44 : vdec mX8_direct 44 (.aload_n 0) 1 := by decide +kernel
theorem dX8_direct_45 : vdec mX8_direct 45 (.getfield 76) 3 := by decide +kernel
theorem dX8_direct_48 : vdec mX8_direct 48 (.iconst 1) 1 := by decide +kernel
theorem dX8_direct_49 : vdec mX8_direct 49 (.iaload) 1 := by decide +kernel
theorem dX8_direct_50 : vdec mX8_direct 50 (.if_icmp .ge 101) 3 := by decide +kernel
theorem dX8_direct_53 : vdec mX8_direct 53 (.aload_n 0) 1 := by decide +kernel
theorem dX8_direct_54 : vdec mX8_direct 54 (.iload 7) 2 := by decide +kernel
theorem dX8_direct_56 : vdec mX8_direct 56 (.iload_n 2) 1 := by decide +kernel
theorem dX8_direct_57 : vdec mX8_direct 57 (.iload_n 3) 1 := by decide +kernel
theorem dX8_direct_58 : vdec mX8_direct 58 (.invokevirtual 176) 3 := by decide +kernel
theorem dX8_direct_61 : vdec mX8_direct 61 (.ifCond .ne 6) 3 := by decide +kernel
theorem dX8_direct_64 : vdec mX8_direct 64 (.goto 81) 3 := by decide +kernel
theorem dX8_direct_67 : vdec mX8_direct 67 (.aload_n 0) 1 := by decide +kernel
theorem dX8_direct_68 : vdec mX8_direct 68 (.iload 7) 2 := by decide +kernel
theorem dX8_direct_70 : vdec mX8_direct 70 (.invokevirtual 218) 3 := by decide +kernel
theorem dX8_direct_73 : vdec mX8_direct 73 (.iconst 0) 1 := by decide +kernel
theorem dX8_direct_74 : vdec mX8_direct 74 (.istore 8) 2 := by decide +kernel
theorem dX8_direct_76 : vdec mX8_direct 76 (.iload 8) 2 := by decide +kernel
theorem dX8_direct_78 : vdec mX8_direct 78 (.aload_n 0) 1 := by decide +kernel
theorem dX8_direct_79 : vdec mX8_direct 79 (.getfield 196) 3 := by decide +kernel
theorem dX8_direct_82 : vdec mX8_direct 82 (.if_icmp .ge 63) 3 := by decide +kernel
theorem dX8_direct_85 : vdec mX8_direct 85 (.aload_n 0) 1 := by decide +kernel
theorem dX8_direct_86 : vdec mX8_direct 86 (.iload 8) 2 := by decide +kernel
theorem dX8_direct_88 : vdec mX8_direct 88 (.invokevirtual 221) 3 := by decide +kernel
theorem dX8_direct_91 : vdec mX8_direct 91 (.iload_n 1) 1 := by decide +kernel
theorem dX8_direct_92 : vdec mX8_direct 92 (.if_icmp .eq 6) 3 := by decide +kernel
theorem dX8_direct_95 : vdec mX8_direct 95 (.goto 44) 3 := by decide +kernel
theorem dX8_direct_98 : vdec mX8_direct 98 (.aload_n 0) 1 := by decide +kernel
theorem dX8_direct_99 : vdec mX8_direct 99 (.aload_n 0) 1 := by decide +kernel
theorem dX8_direct_100 : vdec mX8_direct 100 (.getfield 97) 3 := by decide +kernel
theorem dX8_direct_103 : vdec mX8_direct 103 (.iload 8) 2 := by decide +kernel
theorem dX8_direct_105 : vdec mX8_direct 105 (.iaload) 1 := by decide +kernel
theorem dX8_direct_106 : vdec mX8_direct 106 (.invokevirtual 203) 3 := by decide +kernel
theorem dX8_direct_109 : vdec mX8_direct 109 (.ifCond .ne 18) 3 := by decide +kernel
theorem dX8_direct_112 : vdec mX8_direct 112 (.iload 5) 2 := by decide +kernel
theorem dX8_direct_114 : vdec mX8_direct 114 (.aload_n 0) 1 := by decide +kernel
theorem dX8_direct_115 : vdec mX8_direct 115 (.getfield 100) 3 := by decide +kernel
theorem dX8_direct_118 : vdec mX8_direct 118 (.iload 8) 2 := by decide +kernel
theorem dX8_direct_120 : vdec mX8_direct 120 (.iaload) 1 := by decide +kernel
theorem dX8_direct_121 : vdec mX8_direct 121 (.iadd) 1 := by decide +kernel
theorem dX8_direct_122 : vdec mX8_direct 122 (.istore 5) 2 := by decide +kernel
theorem dX8_direct_124 : vdec mX8_direct 124 (.goto 15) 3 := by decide +kernel
theorem dX8_direct_127 : vdec mX8_direct 127 (.iload 6) 2 := by decide +kernel
theorem dX8_direct_129 : vdec mX8_direct 129 (.aload_n 0) 1 := by decide +kernel
theorem dX8_direct_130 : vdec mX8_direct 130 (.getfield 100) 3 := by decide +kernel
theorem dX8_direct_133 : vdec mX8_direct 133 (.iload 8) 2 := by decide +kernel
theorem dX8_direct_135 : vdec mX8_direct 135 (.iaload) 1 := by decide +kernel
theorem dX8_direct_136 : vdec mX8_direct 136 (.iadd) 1 := by decide +kernel
theorem dX8_direct_137 : vdec mX8_direct 137 (.istore 6) 2 := by decide +kernel
theorem dX8_direct_139 : vdec mX8_direct 139 (.iinc 8 1) 3 := by decide +kernel
theorem dX8_direct_142 : vdec mX8_direct 142 (.goto (-66)) 3 := by decide +kernel
theorem dX8_direct_145 : vdec mX8_direct 145 (.iinc 7 1) 3 := by decide +kernel
theorem dX8_direct_148 : vdec mX8_direct 148 (.goto (-106)) 3 := by decide +kernel
theorem dX8_direct_151 : vdec mX8_direct 151 (.iload 4) 2 := by decide +kernel
theorem dX8_direct_153 : vdec mX8_direct 153 (.ifCond .ne 8) 3 := by decide +kernel
theorem dX8_direct_156 : vdec mX8_direct 156 (.iload 5) 2 := by decide +kernel
theorem dX8_direct_158 : vdec mX8_direct 158 (.goto 19) 3 := by decide +kernel
theorem dX8_direct_161 : vdec mX8_direct 161 (.iload 4) 2 := by decide +kernel
theorem dX8_direct_163 : vdec mX8_direct 163 (.iconst 1) 1 := by decide +kernel
theorem dX8_direct_164 : vdec mX8_direct 164 (.if_icmp .ne 8) 3 := by decide +kernel
theorem dX8_direct_167 : vdec mX8_direct 167 (.iload 6) 2 := by decide +kernel
theorem dX8_direct_169 : vdec mX8_direct 169 (.goto 8) 3 := by decide +kernel
theorem dX8_direct_172 : vdec mX8_direct 172 (.iload 5) 2 := by decide +kernel
theorem dX8_direct_174 : vdec mX8_direct 174 (.iload 6) 2 := by decide +kernel
theorem dX8_direct_176 : vdec mX8_direct 176 (.isub) 1 := by decide +kernel
theorem dX8_direct_177 : vdec mX8_direct 177 (.ireturn) 1 := by decide +kernel
theorem dX8_credited_0 : vdec mX8_credited 0 (.iconst 0) 1 := by decide +kernel
theorem dX8_credited_1 : vdec mX8_credited 1 (.istore 4) 2 := by decide +kernel
theorem dX8_credited_3 : vdec mX8_credited 3 (.iconst 0) 1 := by decide +kernel
theorem dX8_credited_4 : vdec mX8_credited 4 (.istore 5) 2 := by decide +kernel
theorem dX8_credited_6 : vdec mX8_credited 6 (.iload 5) 2 := by decide +kernel
theorem dX8_credited_8 : vdec mX8_credited 8 (.aload_n 0) 1 := by decide +kernel
theorem dX8_credited_9 : vdec mX8_credited 9 (.getfield 76) 3 := by decide +kernel
theorem dX8_credited_12 : vdec mX8_credited 12 (.iconst 0) 1 := by decide +kernel
theorem dX8_credited_13 : vdec mX8_credited 13 (.iaload) 1 := by decide +kernel
theorem dX8_credited_14 : vdec mX8_credited 14 (.if_icmp .ge 32) 3 := by decide +kernel
theorem dX8_credited_17 : vdec mX8_credited 17 (.aload_n 0) 1 := by decide +kernel
theorem dX8_credited_18 : vdec mX8_credited 18 (.iload 5) 2 := by decide +kernel
theorem dX8_credited_20 : vdec mX8_credited 20 (.invokevirtual 203) 3 := by decide +kernel
theorem dX8_credited_23 : vdec mX8_credited 23 (.iload_n 1) 1 := by decide +kernel
theorem dX8_credited_24 : vdec mX8_credited 24 (.if_icmp .ne 16) 3 := by decide +kernel
theorem dX8_credited_27 : vdec mX8_credited 27 (.iload 4) 2 := by decide +kernel
theorem dX8_credited_29 : vdec mX8_credited 29 (.aload_n 0) 1 := by decide +kernel
theorem dX8_credited_30 : vdec mX8_credited 30 (.iload 5) 2 := by decide +kernel
theorem dX8_credited_32 : vdec mX8_credited 32 (.iload_n 2) 1 := by decide +kernel
theorem dX8_credited_33 : vdec mX8_credited 33 (.iload_n 3) 1 := by decide +kernel
theorem dX8_credited_34 : vdec mX8_credited 34 (.invokevirtual 182) 3 := by decide +kernel
theorem dX8_credited_37 : vdec mX8_credited 37 (.isub) 1 := by decide +kernel
theorem dX8_credited_38 : vdec mX8_credited 38 (.istore 4) 2 := by decide +kernel
theorem dX8_credited_40 : vdec mX8_credited 40 (.iinc 5 1) 3 := by decide +kernel
theorem dX8_credited_43 : vdec mX8_credited 43 (.goto (-37)) 3 := by decide +kernel
theorem dX8_credited_46 : vdec mX8_credited 46 (.iload 4) 2 := by decide +kernel
theorem dX8_credited_48 : vdec mX8_credited 48 (.ireturn) 1 := by decide +kernel
theorem dX8_isOfProfit_0 : vdec mX8_isOfProfit 0 (.iload_n 0) 1 := by decide +kernel
theorem dX8_isOfProfit_1 : vdec mX8_isOfProfit 1 (.iconst 1) 1 := by decide +kernel
theorem dX8_isOfProfit_2 : vdec mX8_isOfProfit 2 (.if_icmp .eq 8) 3 := by decide +kernel
theorem dX8_isOfProfit_5 : vdec mX8_isOfProfit 5 (.iload_n 0) 1 := by decide +kernel
theorem dX8_isOfProfit_6 : vdec mX8_isOfProfit 6 (.iconst 2) 1 := by decide +kernel
theorem dX8_isOfProfit_7 : vdec mX8_isOfProfit 7 (.if_icmp .ne 7) 3 := by decide +kernel
theorem dX8_isOfProfit_10 : vdec mX8_isOfProfit 10 (.iconst 1) 1 := by decide +kernel
theorem dX8_isOfProfit_11 : vdec mX8_isOfProfit 11 (.goto 4) 3 := by decide +kernel
theorem dX8_isOfProfit_14 : vdec mX8_isOfProfit 14 (.iconst 0) 1 := by decide +kernel
theorem dX8_isOfProfit_15 : vdec mX8_isOfProfit 15 (.ireturn) 1 := by decide +kernel
theorem dX8_apart_0 : vdec mX8_apart 0 (.iconst 0) 1 := by decide +kernel
theorem dX8_apart_1 : vdec mX8_apart 1 (.istore_n 3) 1 := by decide +kernel
theorem dX8_apart_2 : vdec mX8_apart 2 (.iconst 0) 1 := by decide +kernel
theorem dX8_apart_3 : vdec mX8_apart 3 (.istore 4) 2 := by decide +kernel
theorem dX8_apart_5 : vdec mX8_apart 5 (.iload 4) 2 := by decide +kernel
theorem dX8_apart_7 : vdec mX8_apart 7 (.aload_n 0) 1 := by decide +kernel
theorem dX8_apart_8 : vdec mX8_apart 8 (.getfield 76) 3 := by decide +kernel
end
section
theorem dX8_apart_11 : vdec mX8_apart 11 (.iconst 1) 1 := by decide +kernel
theorem dX8_apart_12 : vdec mX8_apart 12 (.iaload) 1 := by decide +kernel
theorem dX8_apart_13 : vdec mX8_apart 13 (.if_icmp .ge 121) 3 := by decide +kernel
theorem dX8_apart_16 : vdec mX8_apart 16 (.aload_n 0) 1 := by decide +kernel
theorem dX8_apart_17 : vdec mX8_apart 17 (.iload 4) 2 := by decide +kernel
theorem dX8_apart_19 : vdec mX8_apart 19 (.iload_n 1) 1 := by decide +kernel
theorem dX8_apart_20 : vdec mX8_apart 20 (.iload_n 2) 1 := by decide +kernel
theorem dX8_apart_21 : vdec mX8_apart 21 (.invokevirtual 176) 3 := by decide +kernel
theorem dX8_apart_24 : vdec mX8_apart 24 (.ifCond .ne 6) 3 := by decide +kernel
theorem dX8_apart_27 : vdec mX8_apart 27 (.goto 101) 3 := by decide +kernel
theorem dX8_apart_30 : vdec mX8_apart 30 (.aload_n 0) 1 := by decide +kernel
theorem dX8_apart_31 : vdec mX8_apart 31 (.iload 4) 2 := by decide +kernel
theorem dX8_apart_33 : vdec mX8_apart 33 (.invokevirtual 218) 3 := by decide +kernel
theorem dX8_apart_36 : vdec mX8_apart 36 (.iconst 0) 1 := by decide +kernel
theorem dX8_apart_37 : vdec mX8_apart 37 (.istore 5) 2 := by decide +kernel
theorem dX8_apart_39 : vdec mX8_apart 39 (.iload 5) 2 := by decide +kernel
theorem dX8_apart_41 : vdec mX8_apart 41 (.aload_n 0) 1 := by decide +kernel
theorem dX8_apart_42 : vdec mX8_apart 42 (.getfield 196) 3 := by decide +kernel
theorem dX8_apart_45 : vdec mX8_apart 45 (.if_icmp .ge 83) 3 := by decide +kernel
theorem dX8_apart_48 : vdec mX8_apart 48 (.aload_n 0) 1 := by decide +kernel
theorem dX8_apart_49 : vdec mX8_apart 49 (.aload_n 0) 1 := by decide +kernel
theorem dX8_apart_50 : vdec mX8_apart 50 (.getfield 94) 3 := by decide +kernel
theorem dX8_apart_53 : vdec mX8_apart 53 (.iload 5) 2 := by decide +kernel
theorem dX8_apart_55 : vdec mX8_apart 55 (.iaload) 1 := by decide +kernel
theorem dX8_apart_56 : vdec mX8_apart 56 (.invokevirtual 203) 3 := by decide +kernel
theorem dX8_apart_59 : vdec mX8_apart 59 (.invokestatic 231) 3 := by decide +kernel
theorem dX8_apart_62 : vdec mX8_apart 62 (.istore 6) 2 := by decide +kernel
theorem dX8_apart_64 : vdec mX8_apart 64 (.aload_n 0) 1 := by decide +kernel
theorem dX8_apart_65 : vdec mX8_apart 65 (.iload 5) 2 := by decide +kernel
theorem dX8_apart_67 : vdec mX8_apart 67 (.invokevirtual 221) 3 := by decide +kernel
theorem dX8_apart_70 : vdec mX8_apart 70 (.iconst 4) 1 := by decide +kernel
theorem dX8_apart_71 : vdec mX8_apart 71 (.if_icmp .ne 51) 3 := by decide +kernel
theorem dX8_apart_74 : vdec mX8_apart 74 (.iload 6) 2 := by decide +kernel
theorem dX8_apart_76 : vdec mX8_apart 76 (.aload_n 0) 1 := by decide +kernel
theorem dX8_apart_77 : vdec mX8_apart 77 (.aload_n 0) 1 := by decide +kernel
theorem dX8_apart_78 : vdec mX8_apart 78 (.getfield 97) 3 := by decide +kernel
theorem dX8_apart_81 : vdec mX8_apart 81 (.iload 5) 2 := by decide +kernel
theorem dX8_apart_83 : vdec mX8_apart 83 (.iaload) 1 := by decide +kernel
theorem dX8_apart_84 : vdec mX8_apart 84 (.invokevirtual 203) 3 := by decide +kernel
theorem dX8_apart_87 : vdec mX8_apart 87 (.invokestatic 231) 3 := by decide +kernel
theorem dX8_apart_90 : vdec mX8_apart 90 (.if_icmp .ne 6) 3 := by decide +kernel
theorem dX8_apart_93 : vdec mX8_apart 93 (.goto 29) 3 := by decide +kernel
theorem dX8_apart_96 : vdec mX8_apart 96 (.iload_n 3) 1 := by decide +kernel
theorem dX8_apart_97 : vdec mX8_apart 97 (.iload 6) 2 := by decide +kernel
theorem dX8_apart_99 : vdec mX8_apart 99 (.ifCond .eq 14) 3 := by decide +kernel
theorem dX8_apart_102 : vdec mX8_apart 102 (.aload_n 0) 1 := by decide +kernel
theorem dX8_apart_103 : vdec mX8_apart 103 (.getfield 100) 3 := by decide +kernel
theorem dX8_apart_106 : vdec mX8_apart 106 (.iload 5) 2 := by decide +kernel
theorem dX8_apart_108 : vdec mX8_apart 108 (.iaload) 1 := by decide +kernel
theorem dX8_apart_109 : vdec mX8_apart 109 (.ineg) 1 := by decide +kernel
theorem dX8_apart_110 : vdec mX8_apart 110 (.goto 10) 3 := by decide +kernel
theorem dX8_apart_113 : vdec mX8_apart 113 (.aload_n 0) 1 := by decide +kernel
theorem dX8_apart_114 : vdec mX8_apart 114 (.getfield 100) 3 := by decide +kernel
theorem dX8_apart_117 : vdec mX8_apart 117 (.iload 5) 2 := by decide +kernel
theorem dX8_apart_119 : vdec mX8_apart 119 (.iaload) 1 := by decide +kernel
theorem dX8_apart_120 : vdec mX8_apart 120 (.iadd) 1 := by decide +kernel
theorem dX8_apart_121 : vdec mX8_apart 121 (.istore_n 3) 1 := by decide +kernel
theorem dX8_apart_122 : vdec mX8_apart 122 (.iinc 5 1) 3 := by decide +kernel
theorem dX8_apart_125 : vdec mX8_apart 125 (.goto (-86)) 3 := by decide +kernel
theorem dX8_apart_128 : vdec mX8_apart 128 (.iinc 4 1) 3 := by decide +kernel
theorem dX8_apart_131 : vdec mX8_apart 131 (.goto (-126)) 3 := by decide +kernel
theorem dX8_apart_134 : vdec mX8_apart 134 (.iload_n 3) 1 := by decide +kernel
theorem dX8_apart_135 : vdec mX8_apart 135 (.ireturn) 1 := by decide +kernel
theorem dX8_indirect_0 : vdec mX8_indirect 0 (.aload_n 0) 1 := by decide +kernel
theorem dX8_indirect_1 : vdec mX8_indirect 1 (.iconst 0) 1 := by decide +kernel
theorem dX8_indirect_2 : vdec mX8_indirect 2 (.putfield 1) 3 := by decide +kernel
theorem dX8_indirect_5 : vdec mX8_indirect 5 (.iload_n 1) 1 := by decide +kernel
theorem dX8_indirect_6 : vdec mX8_indirect 6 (.iload_n 2) 1 := by decide +kernel
theorem dX8_indirect_7 : vdec mX8_indirect 7 (.invokestatic 227) 3 := by decide +kernel
theorem dX8_indirect_10 : vdec mX8_indirect 10 (.ifCond .eq 12) 3 := by decide +kernel
theorem dX8_indirect_13 : vdec mX8_indirect 13 (.iload_n 3) 1 := by decide +kernel
theorem dX8_indirect_14 : vdec mX8_indirect 14 (.iconst 0) 1 := by decide +kernel
theorem dX8_indirect_15 : vdec mX8_indirect 15 (.iconst 3) 1 := by decide +kernel
theorem dX8_indirect_16 : vdec mX8_indirect 16 (.invokestatic 112) 3 := by decide +kernel
theorem dX8_indirect_19 : vdec mX8_indirect 19 (.ifCond .ne 6) 3 := by decide +kernel
theorem dX8_indirect_22 : vdec mX8_indirect 22 (.ldc 230) 2 := by decide +kernel
theorem dX8_indirect_24 : vdec mX8_indirect 24 (.ireturn) 1 := by decide +kernel
theorem dX8_indirect_25 : vdec mX8_indirect 25 (.iload_n 3) 1 := by decide +kernel
theorem dX8_indirect_26 : vdec mX8_indirect 26 (.iconst 1) 1 := by decide +kernel
theorem dX8_indirect_27 : vdec mX8_indirect 27 (.if_icmp .ne 11) 3 := by decide +kernel
theorem dX8_indirect_30 : vdec mX8_indirect 30 (.aload_n 0) 1 := by decide +kernel
theorem dX8_indirect_31 : vdec mX8_indirect 31 (.iconst 2) 1 := by decide +kernel
theorem dX8_indirect_32 : vdec mX8_indirect 32 (.iload_n 1) 1 := by decide +kernel
theorem dX8_indirect_33 : vdec mX8_indirect 33 (.iload_n 2) 1 := by decide +kernel
theorem dX8_indirect_34 : vdec mX8_indirect 34 (.invokevirtual 234) 3 := by decide +kernel
theorem dX8_indirect_37 : vdec mX8_indirect 37 (.ireturn) 1 := by decide +kernel
theorem dX8_indirect_38 : vdec mX8_indirect 38 (.iload_n 3) 1 := by decide +kernel
theorem dX8_indirect_39 : vdec mX8_indirect 39 (.iconst 2) 1 := by decide +kernel
theorem dX8_indirect_40 : vdec mX8_indirect 40 (.if_icmp .ne 11) 3 := by decide +kernel
theorem dX8_indirect_43 : vdec mX8_indirect 43 (.aload_n 0) 1 := by decide +kernel
theorem dX8_indirect_44 : vdec mX8_indirect 44 (.iconst 1) 1 := by decide +kernel
theorem dX8_indirect_45 : vdec mX8_indirect 45 (.iload_n 1) 1 := by decide +kernel
theorem dX8_indirect_46 : vdec mX8_indirect 46 (.iload_n 2) 1 := by decide +kernel
theorem dX8_indirect_47 : vdec mX8_indirect 47 (.invokevirtual 234) 3 := by decide +kernel
theorem dX8_indirect_50 : vdec mX8_indirect 50 (.ireturn) 1 := by decide +kernel
theorem dX8_indirect_51 : vdec mX8_indirect 51 (.iload_n 3) 1 := by decide +kernel
theorem dX8_indirect_52 : vdec mX8_indirect 52 (.iconst 3) 1 := by decide +kernel
theorem dX8_indirect_53 : vdec mX8_indirect 53 (.if_icmp .ne 12) 3 := by decide +kernel
theorem dX8_indirect_56 : vdec mX8_indirect 56 (.aload_n 0) 1 := by decide +kernel
theorem dX8_indirect_57 : vdec mX8_indirect 57 (.iload_n 1) 1 := by decide +kernel
theorem dX8_indirect_58 : vdec mX8_indirect 58 (.iload_n 2) 1 := by decide +kernel
theorem dX8_indirect_59 : vdec mX8_indirect 59 (.invokevirtual 237) 3 := by decide +kernel
theorem dX8_indirect_62 : vdec mX8_indirect 62 (.goto 25) 3 := by decide +kernel
theorem dX8_indirect_65 : vdec mX8_indirect 65 (.aload_n 0) 1 := by decide +kernel
theorem dX8_indirect_66 : vdec mX8_indirect 66 (.iconst 2) 1 := by decide +kernel
theorem dX8_indirect_67 : vdec mX8_indirect 67 (.iload_n 1) 1 := by decide +kernel
theorem dX8_indirect_68 : vdec mX8_indirect 68 (.iload_n 2) 1 := by decide +kernel
theorem dX8_indirect_69 : vdec mX8_indirect 69 (.invokevirtual 234) 3 := by decide +kernel
theorem dX8_indirect_72 : vdec mX8_indirect 72 (.aload_n 0) 1 := by decide +kernel
theorem dX8_indirect_73 : vdec mX8_indirect 73 (.iconst 1) 1 := by decide +kernel
theorem dX8_indirect_74 : vdec mX8_indirect 74 (.iload_n 1) 1 := by decide +kernel
theorem dX8_indirect_75 : vdec mX8_indirect 75 (.iload_n 2) 1 := by decide +kernel
theorem dX8_indirect_76 : vdec mX8_indirect 76 (.invokevirtual 234) 3 := by decide +kernel
theorem dX8_indirect_79 : vdec mX8_indirect 79 (.iadd) 1 := by decide +kernel
theorem dX8_indirect_80 : vdec mX8_indirect 80 (.aload_n 0) 1 := by decide +kernel
theorem dX8_indirect_81 : vdec mX8_indirect 81 (.iload_n 1) 1 := by decide +kernel
theorem dX8_indirect_82 : vdec mX8_indirect 82 (.iload_n 2) 1 := by decide +kernel
theorem dX8_indirect_83 : vdec mX8_indirect 83 (.invokevirtual 237) 3 := by decide +kernel
theorem dX8_indirect_86 : vdec mX8_indirect 86 (.iadd) 1 := by decide +kernel
theorem dX8_indirect_87 : vdec mX8_indirect 87 (.ireturn) 1 := by decide +kernel
theorem dX8_change_0 : vdec mX8_change 0 (.aload_n 0) 1 := by decide +kernel
theorem dX8_change_1 : vdec mX8_change 1 (.iconst 0) 1 := by decide +kernel
theorem dX8_change_2 : vdec mX8_change 2 (.putfield 1) 3 := by decide +kernel
theorem dX8_change_5 : vdec mX8_change 5 (.iload_n 1) 1 := by decide +kernel
theorem dX8_change_6 : vdec mX8_change 6 (.iload_n 2) 1 := by decide +kernel
theorem dX8_change_7 : vdec mX8_change 7 (.invokestatic 227) 3 := by decide +kernel
theorem dX8_change_10 : vdec mX8_change 10 (.ifCond .eq 14) 3 := by decide +kernel
theorem dX8_change_13 : vdec mX8_change 13 (.aload_n 0) 1 := by decide +kernel
theorem dX8_change_14 : vdec mX8_change 14 (.iconst 0) 1 := by decide +kernel
theorem dX8_change_15 : vdec mX8_change 15 (.iload_n 1) 1 := by decide +kernel
theorem dX8_change_16 : vdec mX8_change 16 (.iload_n 2) 1 := by decide +kernel
theorem dX8_change_17 : vdec mX8_change 17 (.invokevirtual 234) 3 := by decide +kernel
theorem dX8_change_20 : vdec mX8_change 20 (.ineg) 1 := by decide +kernel
theorem dX8_change_21 : vdec mX8_change 21 (.goto 5) 3 := by decide +kernel
theorem dX8_change_24 : vdec mX8_change 24 (.ldc 230) 2 := by decide +kernel
theorem dX8_change_26 : vdec mX8_change 26 (.ireturn) 1 := by decide +kernel
theorem dX8_makes_0 : vdec mX8_makes 0 (.aload_n 0) 1 := by decide +kernel
theorem dX8_makes_1 : vdec mX8_makes 1 (.iconst 0) 1 := by decide +kernel
theorem dX8_makes_2 : vdec mX8_makes 2 (.putfield 1) 3 := by decide +kernel
theorem dX8_makes_5 : vdec mX8_makes 5 (.iload_n 1) 1 := by decide +kernel
theorem dX8_makes_6 : vdec mX8_makes 6 (.invokestatic 224) 3 := by decide +kernel
theorem dX8_makes_9 : vdec mX8_makes 9 (.ifCond .eq 11) 3 := by decide +kernel
theorem dX8_makes_12 : vdec mX8_makes 12 (.iload_n 2) 1 := by decide +kernel
theorem dX8_makes_13 : vdec mX8_makes 13 (.iload_n 3) 1 := by decide +kernel
theorem dX8_makes_14 : vdec mX8_makes 14 (.invokestatic 227) 3 := by decide +kernel
theorem dX8_makes_17 : vdec mX8_makes 17 (.ifCond .ne 5) 3 := by decide +kernel
theorem dX8_makes_20 : vdec mX8_makes 20 (.iconst (-1)) 1 := by decide +kernel
theorem dX8_makes_21 : vdec mX8_makes 21 (.ireturn) 1 := by decide +kernel
theorem dX8_makes_22 : vdec mX8_makes 22 (.iconst 0) 1 := by decide +kernel
theorem dX8_makes_23 : vdec mX8_makes 23 (.istore 4) 2 := by decide +kernel
theorem dX8_makes_25 : vdec mX8_makes 25 (.iconst 0) 1 := by decide +kernel
theorem dX8_makes_26 : vdec mX8_makes 26 (.istore 5) 2 := by decide +kernel
theorem dX8_makes_28 : vdec mX8_makes 28 (.iload 5) 2 := by decide +kernel
theorem dX8_makes_30 : vdec mX8_makes 30 (.aload_n 0) 1 := by decide +kernel
theorem dX8_makes_31 : vdec mX8_makes 31 (.getfield 76) 3 := by decide +kernel
theorem dX8_makes_34 : vdec mX8_makes 34 (.iconst 1) 1 := by decide +kernel
theorem dX8_makes_35 : vdec mX8_makes 35 (.iaload) 1 := by decide +kernel
theorem dX8_makes_36 : vdec mX8_makes 36 (.if_icmp .ge 66) 3 := by decide +kernel
theorem dX8_makes_39 : vdec mX8_makes 39 (.aload_n 0) 1 := by decide +kernel
theorem dX8_makes_40 : vdec mX8_makes 40 (.iload 5) 2 := by decide +kernel
theorem dX8_makes_42 : vdec mX8_makes 42 (.iload_n 2) 1 := by decide +kernel
theorem dX8_makes_43 : vdec mX8_makes 43 (.iload_n 3) 1 := by decide +kernel
theorem dX8_makes_44 : vdec mX8_makes 44 (.invokevirtual 176) 3 := by decide +kernel
theorem dX8_makes_47 : vdec mX8_makes 47 (.ifCond .ne 6) 3 := by decide +kernel
theorem dX8_makes_50 : vdec mX8_makes 50 (.goto 46) 3 := by decide +kernel
theorem dX8_makes_53 : vdec mX8_makes 53 (.aload_n 0) 1 := by decide +kernel
theorem dX8_makes_54 : vdec mX8_makes 54 (.iload 5) 2 := by decide +kernel
theorem dX8_makes_56 : vdec mX8_makes 56 (.invokevirtual 218) 3 := by decide +kernel
theorem dX8_makes_59 : vdec mX8_makes 59 (.iconst 0) 1 := by decide +kernel
theorem dX8_makes_60 : vdec mX8_makes 60 (.istore 6) 2 := by decide +kernel
theorem dX8_makes_62 : vdec mX8_makes 62 (.iload 6) 2 := by decide +kernel
theorem dX8_makes_64 : vdec mX8_makes 64 (.aload_n 0) 1 := by decide +kernel
theorem dX8_makes_65 : vdec mX8_makes 65 (.getfield 196) 3 := by decide +kernel
theorem dX8_makes_68 : vdec mX8_makes 68 (.if_icmp .ge 28) 3 := by decide +kernel
theorem dX8_makes_71 : vdec mX8_makes 71 (.aload_n 0) 1 := by decide +kernel
theorem dX8_makes_72 : vdec mX8_makes 72 (.iload 6) 2 := by decide +kernel
theorem dX8_makes_74 : vdec mX8_makes 74 (.invokevirtual 221) 3 := by decide +kernel
theorem dX8_makes_77 : vdec mX8_makes 77 (.iload_n 1) 1 := by decide +kernel
theorem dX8_makes_78 : vdec mX8_makes 78 (.if_icmp .ne 12) 3 := by decide +kernel
theorem dX8_makes_81 : vdec mX8_makes 81 (.iload 4) 2 := by decide +kernel
theorem dX8_makes_83 : vdec mX8_makes 83 (.iconst 1) 1 := by decide +kernel
theorem dX8_makes_84 : vdec mX8_makes 84 (.iload 5) 2 := by decide +kernel
theorem dX8_makes_86 : vdec mX8_makes 86 (.ishl) 1 := by decide +kernel
theorem dX8_makes_87 : vdec mX8_makes 87 (.ior) 1 := by decide +kernel
theorem dX8_makes_88 : vdec mX8_makes 88 (.istore 4) 2 := by decide +kernel
theorem dX8_makes_90 : vdec mX8_makes 90 (.iinc 6 1) 3 := by decide +kernel
theorem dX8_makes_93 : vdec mX8_makes 93 (.goto (-31)) 3 := by decide +kernel
theorem dX8_makes_96 : vdec mX8_makes 96 (.iinc 5 1) 3 := by decide +kernel
theorem dX8_makes_99 : vdec mX8_makes 99 (.goto (-71)) 3 := by decide +kernel
theorem dX8_makes_102 : vdec mX8_makes 102 (.iload 4) 2 := by decide +kernel
theorem dX8_makes_104 : vdec mX8_makes 104 (.ireturn) 1 := by decide +kernel
theorem dX8_deals_0 : vdec mX8_deals 0 (.aload_n 0) 1 := by decide +kernel
theorem dX8_deals_1 : vdec mX8_deals 1 (.iconst 0) 1 := by decide +kernel
theorem dX8_deals_2 : vdec mX8_deals 2 (.putfield 1) 3 := by decide +kernel
theorem dX8_deals_5 : vdec mX8_deals 5 (.iload_n 1) 1 := by decide +kernel
theorem dX8_deals_6 : vdec mX8_deals 6 (.iconst 1) 1 := by decide +kernel
theorem dX8_deals_7 : vdec mX8_deals 7 (.iconst 5) 1 := by decide +kernel
theorem dX8_deals_8 : vdec mX8_deals 8 (.invokestatic 112) 3 := by decide +kernel
theorem dX8_deals_11 : vdec mX8_deals 11 (.ifCond .eq 21) 3 := by decide +kernel
theorem dX8_deals_14 : vdec mX8_deals 14 (.iload_n 2) 1 := by decide +kernel
theorem dX8_deals_15 : vdec mX8_deals 15 (.iload_n 1) 1 := by decide +kernel
theorem dX8_deals_16 : vdec mX8_deals 16 (.iconst 5) 1 := by decide +kernel
theorem dX8_deals_17 : vdec mX8_deals 17 (.invokestatic 112) 3 := by decide +kernel
theorem dX8_deals_20 : vdec mX8_deals 20 (.ifCond .eq 12) 3 := by decide +kernel
theorem dX8_deals_23 : vdec mX8_deals 23 (.iload_n 3) 1 := by decide +kernel
theorem dX8_deals_24 : vdec mX8_deals 24 (.iload 4) 2 := by decide +kernel
theorem dX8_deals_26 : vdec mX8_deals 26 (.invokestatic 227) 3 := by decide +kernel
theorem dX8_deals_29 : vdec mX8_deals 29 (.ifCond .ne 5) 3 := by decide +kernel
theorem dX8_deals_32 : vdec mX8_deals 32 (.iconst (-1)) 1 := by decide +kernel
theorem dX8_deals_33 : vdec mX8_deals 33 (.ireturn) 1 := by decide +kernel
theorem dX8_deals_34 : vdec mX8_deals 34 (.iconst 0) 1 := by decide +kernel
theorem dX8_deals_35 : vdec mX8_deals 35 (.istore 5) 2 := by decide +kernel
theorem dX8_deals_37 : vdec mX8_deals 37 (.iconst 0) 1 := by decide +kernel
theorem dX8_deals_38 : vdec mX8_deals 38 (.istore 6) 2 := by decide +kernel
theorem dX8_deals_40 : vdec mX8_deals 40 (.iload 6) 2 := by decide +kernel
theorem dX8_deals_42 : vdec mX8_deals 42 (.aload_n 0) 1 := by decide +kernel
theorem dX8_deals_43 : vdec mX8_deals 43 (.getfield 76) 3 := by decide +kernel
theorem dX8_deals_46 : vdec mX8_deals 46 (.iconst 1) 1 := by decide +kernel
theorem dX8_deals_47 : vdec mX8_deals 47 (.iaload) 1 := by decide +kernel
theorem dX8_deals_48 : vdec mX8_deals 48 (.if_icmp .ge 110) 3 := by decide +kernel
theorem dX8_deals_51 : vdec mX8_deals 51 (.aload_n 0) 1 := by decide +kernel
theorem dX8_deals_52 : vdec mX8_deals 52 (.iload 6) 2 := by decide +kernel
theorem dX8_deals_54 : vdec mX8_deals 54 (.iload_n 3) 1 := by decide +kernel
theorem dX8_deals_55 : vdec mX8_deals 55 (.iload 4) 2 := by decide +kernel
theorem dX8_deals_57 : vdec mX8_deals 57 (.invokevirtual 176) 3 := by decide +kernel
theorem dX8_deals_60 : vdec mX8_deals 60 (.ifCond .ne 6) 3 := by decide +kernel
theorem dX8_deals_63 : vdec mX8_deals 63 (.goto 89) 3 := by decide +kernel
theorem dX8_deals_66 : vdec mX8_deals 66 (.aload_n 0) 1 := by decide +kernel
theorem dX8_deals_67 : vdec mX8_deals 67 (.iload 6) 2 := by decide +kernel
theorem dX8_deals_69 : vdec mX8_deals 69 (.invokevirtual 218) 3 := by decide +kernel
theorem dX8_deals_72 : vdec mX8_deals 72 (.iconst 0) 1 := by decide +kernel
theorem dX8_deals_73 : vdec mX8_deals 73 (.istore 7) 2 := by decide +kernel
theorem dX8_deals_75 : vdec mX8_deals 75 (.iload 7) 2 := by decide +kernel
theorem dX8_deals_77 : vdec mX8_deals 77 (.aload_n 0) 1 := by decide +kernel
theorem dX8_deals_78 : vdec mX8_deals 78 (.getfield 196) 3 := by decide +kernel
theorem dX8_deals_81 : vdec mX8_deals 81 (.if_icmp .ge 71) 3 := by decide +kernel
theorem dX8_deals_84 : vdec mX8_deals 84 (.aload_n 0) 1 := by decide +kernel
theorem dX8_deals_85 : vdec mX8_deals 85 (.aload_n 0) 1 := by decide +kernel
theorem dX8_deals_86 : vdec mX8_deals 86 (.getfield 94) 3 := by decide +kernel
theorem dX8_deals_89 : vdec mX8_deals 89 (.iload 7) 2 := by decide +kernel
theorem dX8_deals_91 : vdec mX8_deals 91 (.iaload) 1 := by decide +kernel
theorem dX8_deals_92 : vdec mX8_deals 92 (.invokevirtual 203) 3 := by decide +kernel
theorem dX8_deals_95 : vdec mX8_deals 95 (.istore 8) 2 := by decide +kernel
theorem dX8_deals_97 : vdec mX8_deals 97 (.aload_n 0) 1 := by decide +kernel
theorem dX8_deals_98 : vdec mX8_deals 98 (.aload_n 0) 1 := by decide +kernel
theorem dX8_deals_99 : vdec mX8_deals 99 (.getfield 97) 3 := by decide +kernel
theorem dX8_deals_102 : vdec mX8_deals 102 (.iload 7) 2 := by decide +kernel
theorem dX8_deals_104 : vdec mX8_deals 104 (.iaload) 1 := by decide +kernel
theorem dX8_deals_105 : vdec mX8_deals 105 (.invokevirtual 203) 3 := by decide +kernel
theorem dX8_deals_108 : vdec mX8_deals 108 (.istore 9) 2 := by decide +kernel
theorem dX8_deals_110 : vdec mX8_deals 110 (.iload 8) 2 := by decide +kernel
theorem dX8_deals_112 : vdec mX8_deals 112 (.iload_n 1) 1 := by decide +kernel
theorem dX8_deals_113 : vdec mX8_deals 113 (.if_icmp .ne 9) 3 := by decide +kernel
theorem dX8_deals_116 : vdec mX8_deals 116 (.iload 9) 2 := by decide +kernel
theorem dX8_deals_118 : vdec mX8_deals 118 (.iload_n 2) 1 := by decide +kernel
theorem dX8_deals_119 : vdec mX8_deals 119 (.if_icmp .eq 15) 3 := by decide +kernel
theorem dX8_deals_122 : vdec mX8_deals 122 (.iload 8) 2 := by decide +kernel
theorem dX8_deals_124 : vdec mX8_deals 124 (.iload_n 2) 1 := by decide +kernel
theorem dX8_deals_125 : vdec mX8_deals 125 (.if_icmp .ne 21) 3 := by decide +kernel
theorem dX8_deals_128 : vdec mX8_deals 128 (.iload 9) 2 := by decide +kernel
theorem dX8_deals_130 : vdec mX8_deals 130 (.iload_n 1) 1 := by decide +kernel
theorem dX8_deals_131 : vdec mX8_deals 131 (.if_icmp .ne 15) 3 := by decide +kernel
theorem dX8_deals_134 : vdec mX8_deals 134 (.iload 5) 2 := by decide +kernel
theorem dX8_deals_136 : vdec mX8_deals 136 (.aload_n 0) 1 := by decide +kernel
theorem dX8_deals_137 : vdec mX8_deals 137 (.getfield 100) 3 := by decide +kernel
theorem dX8_deals_140 : vdec mX8_deals 140 (.iload 7) 2 := by decide +kernel
theorem dX8_deals_142 : vdec mX8_deals 142 (.iaload) 1 := by decide +kernel
theorem dX8_deals_143 : vdec mX8_deals 143 (.iadd) 1 := by decide +kernel
theorem dX8_deals_144 : vdec mX8_deals 144 (.istore 5) 2 := by decide +kernel
theorem dX8_deals_146 : vdec mX8_deals 146 (.iinc 7 1) 3 := by decide +kernel
theorem dX8_deals_149 : vdec mX8_deals 149 (.goto (-74)) 3 := by decide +kernel
theorem dX8_deals_152 : vdec mX8_deals 152 (.iinc 6 1) 3 := by decide +kernel
theorem dX8_deals_155 : vdec mX8_deals 155 (.goto (-115)) 3 := by decide +kernel
theorem dX8_deals_158 : vdec mX8_deals 158 (.iload 5) 2 := by decide +kernel
theorem dX8_deals_160 : vdec mX8_deals 160 (.ireturn) 1 := by decide +kernel
theorem dX8_balance_0 : vdec mX8_balance 0 (.aload_n 0) 1 := by decide +kernel
theorem dX8_balance_1 : vdec mX8_balance 1 (.iconst 0) 1 := by decide +kernel
theorem dX8_balance_2 : vdec mX8_balance 2 (.putfield 1) 3 := by decide +kernel
theorem dX8_balance_5 : vdec mX8_balance 5 (.aload_n 0) 1 := by decide +kernel
theorem dX8_balance_6 : vdec mX8_balance 6 (.iload_n 1) 1 := by decide +kernel
theorem dX8_balance_7 : vdec mX8_balance 7 (.invokevirtual 206) 3 := by decide +kernel
theorem dX8_balance_10 : vdec mX8_balance 10 (.ifCond .eq 22) 3 := by decide +kernel
theorem dX8_balance_13 : vdec mX8_balance 13 (.iload_n 2) 1 := by decide +kernel
theorem dX8_balance_14 : vdec mX8_balance 14 (.iconst 0) 1 := by decide +kernel
theorem dX8_balance_15 : vdec mX8_balance 15 (.bipush 19) 2 := by decide +kernel
theorem dX8_balance_17 : vdec mX8_balance 17 (.invokestatic 112) 3 := by decide +kernel
theorem dX8_balance_20 : vdec mX8_balance 20 (.ifCond .eq 12) 3 := by decide +kernel
theorem dX8_balance_23 : vdec mX8_balance 23 (.aload_n 0) 1 := by decide +kernel
theorem dX8_balance_24 : vdec mX8_balance 24 (.iload_n 1) 1 := by decide +kernel
theorem dX8_balance_25 : vdec mX8_balance 25 (.iload_n 2) 1 := by decide +kernel
theorem dX8_balance_26 : vdec mX8_balance 26 (.invokevirtual 186) 3 := by decide +kernel
theorem dX8_balance_29 : vdec mX8_balance 29 (.goto 5) 3 := by decide +kernel
theorem dX8_balance_32 : vdec mX8_balance 32 (.ldc 230) 2 := by decide +kernel
theorem dX8_balance_34 : vdec mX8_balance 34 (.ireturn) 1 := by decide +kernel
theorem dX8_explains_0 : vdec mX8_explains 0 (.iconst 0) 1 := by decide +kernel
theorem dX8_explains_1 : vdec mX8_explains 1 (.istore 4) 2 := by decide +kernel
theorem dX8_explains_3 : vdec mX8_explains 3 (.iload 4) 2 := by decide +kernel
theorem dX8_explains_5 : vdec mX8_explains 5 (.aload_n 0) 1 := by decide +kernel
theorem dX8_explains_6 : vdec mX8_explains 6 (.getfield 76) 3 := by decide +kernel
theorem dX8_explains_9 : vdec mX8_explains 9 (.iconst 0) 1 := by decide +kernel
theorem dX8_explains_10 : vdec mX8_explains 10 (.iaload) 1 := by decide +kernel
theorem dX8_explains_11 : vdec mX8_explains 11 (.if_icmp .ge 89) 3 := by decide +kernel
theorem dX8_explains_14 : vdec mX8_explains 14 (.aload_n 0) 1 := by decide +kernel
theorem dX8_explains_15 : vdec mX8_explains 15 (.iload 4) 2 := by decide +kernel
theorem dX8_explains_17 : vdec mX8_explains 17 (.iconst 2) 1 := by decide +kernel
theorem dX8_explains_18 : vdec mX8_explains 18 (.invokevirtual 163) 3 := by decide +kernel
theorem dX8_explains_21 : vdec mX8_explains 21 (.ifCond .ne 6) 3 := by decide +kernel
theorem dX8_explains_24 : vdec mX8_explains 24 (.goto 70) 3 := by decide +kernel
theorem dX8_explains_27 : vdec mX8_explains 27 (.aload_n 0) 1 := by decide +kernel
theorem dX8_explains_28 : vdec mX8_explains 28 (.getfield 106) 3 := by decide +kernel
theorem dX8_explains_31 : vdec mX8_explains 31 (.iload 4) 2 := by decide +kernel
theorem dX8_explains_33 : vdec mX8_explains 33 (.iaload) 1 := by decide +kernel
theorem dX8_explains_34 : vdec mX8_explains 34 (.iload_n 1) 1 := by decide +kernel
theorem dX8_explains_35 : vdec mX8_explains 35 (.iconst (-1)) 1 := by decide +kernel
theorem dX8_explains_36 : vdec mX8_explains 36 (.if_icmp .ne 7) 3 := by decide +kernel
theorem dX8_explains_39 : vdec mX8_explains 39 (.iconst 0) 1 := by decide +kernel
theorem dX8_explains_40 : vdec mX8_explains 40 (.goto 10) 3 := by decide +kernel
theorem dX8_explains_43 : vdec mX8_explains 43 (.aload_n 0) 1 := by decide +kernel
theorem dX8_explains_44 : vdec mX8_explains 44 (.iload_n 1) 1 := by decide +kernel
theorem dX8_explains_45 : vdec mX8_explains 45 (.iload 4) 2 := by decide +kernel
theorem dX8_explains_47 : vdec mX8_explains 47 (.invokevirtual 179) 3 := by decide +kernel
theorem dX8_explains_50 : vdec mX8_explains 50 (.iadd) 1 := by decide +kernel
theorem dX8_explains_51 : vdec mX8_explains 51 (.iload_n 2) 1 := by decide +kernel
theorem dX8_explains_52 : vdec mX8_explains 52 (.iconst (-1)) 1 := by decide +kernel
theorem dX8_explains_53 : vdec mX8_explains 53 (.if_icmp .ne 7) 3 := by decide +kernel
theorem dX8_explains_56 : vdec mX8_explains 56 (.iconst 0) 1 := by decide +kernel
theorem dX8_explains_57 : vdec mX8_explains 57 (.goto 10) 3 := by decide +kernel
theorem dX8_explains_60 : vdec mX8_explains 60 (.aload_n 0) 1 := by decide +kernel
theorem dX8_explains_61 : vdec mX8_explains 61 (.iload_n 2) 1 := by decide +kernel
theorem dX8_explains_62 : vdec mX8_explains 62 (.iload 4) 2 := by decide +kernel
theorem dX8_explains_64 : vdec mX8_explains 64 (.invokevirtual 179) 3 := by decide +kernel
theorem dX8_explains_67 : vdec mX8_explains 67 (.iadd) 1 := by decide +kernel
theorem dX8_explains_68 : vdec mX8_explains 68 (.iload_n 3) 1 := by decide +kernel
theorem dX8_explains_69 : vdec mX8_explains 69 (.iconst (-1)) 1 := by decide +kernel
theorem dX8_explains_70 : vdec mX8_explains 70 (.if_icmp .ne 7) 3 := by decide +kernel
theorem dX8_explains_73 : vdec mX8_explains 73 (.iconst 0) 1 := by decide +kernel
theorem dX8_explains_74 : vdec mX8_explains 74 (.goto 10) 3 := by decide +kernel
theorem dX8_explains_77 : vdec mX8_explains 77 (.aload_n 0) 1 := by decide +kernel
theorem dX8_explains_78 : vdec mX8_explains 78 (.iload_n 3) 1 := by decide +kernel
theorem dX8_explains_79 : vdec mX8_explains 79 (.iload 4) 2 := by decide +kernel
theorem dX8_explains_81 : vdec mX8_explains 81 (.invokevirtual 179) 3 := by decide +kernel
theorem dX8_explains_84 : vdec mX8_explains 84 (.iadd) 1 := by decide +kernel
theorem dX8_explains_85 : vdec mX8_explains 85 (.istore 5) 2 := by decide +kernel
theorem dX8_explains_87 : vdec mX8_explains 87 (.iload 5) 2 := by decide +kernel
theorem dX8_explains_89 : vdec mX8_explains 89 (.ifCond .eq 5) 3 := by decide +kernel
theorem dX8_explains_92 : vdec mX8_explains 92 (.iconst 0) 1 := by decide +kernel
theorem dX8_explains_93 : vdec mX8_explains 93 (.ireturn) 1 := by decide +kernel
theorem dX8_explains_94 : vdec mX8_explains 94 (.iinc 4 1) 3 := by decide +kernel
theorem dX8_explains_97 : vdec mX8_explains 97 (.goto (-94)) 3 := by decide +kernel
theorem dX8_explains_100 : vdec mX8_explains 100 (.iconst 1) 1 := by decide +kernel
theorem dX8_explains_101 : vdec mX8_explains 101 (.ireturn) 1 := by decide +kernel
theorem dX8_isCounted_0 : vdec mX8_isCounted 0 (.iload_n 1) 1 := by decide +kernel
theorem dX8_isCounted_1 : vdec mX8_isCounted 1 (.iconst (-1)) 1 := by decide +kernel
theorem dX8_isCounted_2 : vdec mX8_isCounted 2 (.if_icmp .eq 12) 3 := by decide +kernel
theorem dX8_isCounted_5 : vdec mX8_isCounted 5 (.aload_n 0) 1 := by decide +kernel
theorem dX8_isCounted_6 : vdec mX8_isCounted 6 (.iload_n 1) 1 := by decide +kernel
theorem dX8_isCounted_7 : vdec mX8_isCounted 7 (.iconst 1) 1 := by decide +kernel
theorem dX8_isCounted_8 : vdec mX8_isCounted 8 (.invokevirtual 167) 3 := by decide +kernel
theorem dX8_isCounted_11 : vdec mX8_isCounted 11 (.ifCond .ne 7) 3 := by decide +kernel
theorem dX8_isCounted_14 : vdec mX8_isCounted 14 (.iconst 1) 1 := by decide +kernel
theorem dX8_isCounted_15 : vdec mX8_isCounted 15 (.goto 4) 3 := by decide +kernel
theorem dX8_isCounted_18 : vdec mX8_isCounted 18 (.iconst 0) 1 := by decide +kernel
theorem dX8_isCounted_19 : vdec mX8_isCounted 19 (.ireturn) 1 := by decide +kernel
theorem dX8_bit_0 : vdec mX8_bit 0 (.iload_n 0) 1 := by decide +kernel
theorem dX8_bit_1 : vdec mX8_bit 1 (.iconst (-1)) 1 := by decide +kernel
theorem dX8_bit_2 : vdec mX8_bit 2 (.if_icmp .ne 7) 3 := by decide +kernel
theorem dX8_bit_5 : vdec mX8_bit 5 (.iconst 0) 1 := by decide +kernel
theorem dX8_bit_6 : vdec mX8_bit 6 (.goto 6) 3 := by decide +kernel
theorem dX8_bit_9 : vdec mX8_bit 9 (.iconst 1) 1 := by decide +kernel
theorem dX8_bit_10 : vdec mX8_bit 10 (.iload_n 0) 1 := by decide +kernel
theorem dX8_bit_11 : vdec mX8_bit 11 (.ishl) 1 := by decide +kernel
theorem dX8_bit_12 : vdec mX8_bit 12 (.ireturn) 1 := by decide +kernel
theorem dX8_traced_0 : vdec mX8_traced 0 (.aload_n 0) 1 := by decide +kernel
theorem dX8_traced_1 : vdec mX8_traced 1 (.iconst 0) 1 := by decide +kernel
theorem dX8_traced_2 : vdec mX8_traced 2 (.putfield 1) 3 := by decide +kernel
theorem dX8_traced_5 : vdec mX8_traced 5 (.iconst 0) 1 := by decide +kernel
theorem dX8_traced_6 : vdec mX8_traced 6 (.istore_n 1) 1 := by decide +kernel
theorem dX8_traced_7 : vdec mX8_traced 7 (.iload_n 1) 1 := by decide +kernel
theorem dX8_traced_8 : vdec mX8_traced 8 (.aload_n 0) 1 := by decide +kernel
theorem dX8_traced_9 : vdec mX8_traced 9 (.getfield 76) 3 := by decide +kernel
theorem dX8_traced_12 : vdec mX8_traced 12 (.iconst 0) 1 := by decide +kernel
theorem dX8_traced_13 : vdec mX8_traced 13 (.iaload) 1 := by decide +kernel
theorem dX8_traced_14 : vdec mX8_traced 14 (.if_icmp .ge 20) 3 := by decide +kernel
theorem dX8_traced_17 : vdec mX8_traced 17 (.aload_n 0) 1 := by decide +kernel
theorem dX8_traced_18 : vdec mX8_traced 18 (.getfield 106) 3 := by decide +kernel
theorem dX8_traced_21 : vdec mX8_traced 21 (.iload_n 1) 1 := by decide +kernel
theorem dX8_traced_22 : vdec mX8_traced 22 (.aload_n 0) 1 := by decide +kernel
theorem dX8_traced_23 : vdec mX8_traced 23 (.iload_n 1) 1 := by decide +kernel
theorem dX8_traced_24 : vdec mX8_traced 24 (.invokevirtual 212) 3 := by decide +kernel
theorem dX8_traced_27 : vdec mX8_traced 27 (.iastore) 1 := by decide +kernel
theorem dX8_traced_28 : vdec mX8_traced 28 (.iinc 1 1) 3 := by decide +kernel
theorem dX8_traced_31 : vdec mX8_traced 31 (.goto (-24)) 3 := by decide +kernel
theorem dX8_traced_34 : vdec mX8_traced 34 (.iconst 0) 1 := by decide +kernel
theorem dX8_traced_35 : vdec mX8_traced 35 (.istore_n 1) 1 := by decide +kernel
theorem dX8_traced_36 : vdec mX8_traced 36 (.iload_n 1) 1 := by decide +kernel
theorem dX8_traced_37 : vdec mX8_traced 37 (.iconst 4) 1 := by decide +kernel
theorem dX8_traced_38 : vdec mX8_traced 38 (.if_icmp .ge 163) 3 := by decide +kernel
theorem dX8_traced_41 : vdec mX8_traced 41 (.iload_n 1) 1 := by decide +kernel
theorem dX8_traced_42 : vdec mX8_traced 42 (.ifCond .le 9) 3 := by decide +kernel
theorem dX8_traced_45 : vdec mX8_traced 45 (.iload_n 1) 1 := by decide +kernel
theorem dX8_traced_46 : vdec mX8_traced 46 (.iconst 1) 1 := by decide +kernel
theorem dX8_traced_47 : vdec mX8_traced 47 (.isub) 1 := by decide +kernel
theorem dX8_traced_48 : vdec mX8_traced 48 (.goto 4) 3 := by decide +kernel
theorem dX8_traced_51 : vdec mX8_traced 51 (.iconst (-1)) 1 := by decide +kernel
theorem dX8_traced_52 : vdec mX8_traced 52 (.istore_n 2) 1 := by decide +kernel
theorem dX8_traced_53 : vdec mX8_traced 53 (.iload_n 2) 1 := by decide +kernel
theorem dX8_traced_54 : vdec mX8_traced 54 (.iload_n 1) 1 := by decide +kernel
theorem dX8_traced_55 : vdec mX8_traced 55 (.ifCond .le 12) 3 := by decide +kernel
theorem dX8_traced_58 : vdec mX8_traced 58 (.aload_n 0) 1 := by decide +kernel
theorem dX8_traced_59 : vdec mX8_traced 59 (.getfield 76) 3 := by decide +kernel
theorem dX8_traced_62 : vdec mX8_traced 62 (.iconst 1) 1 := by decide +kernel
theorem dX8_traced_63 : vdec mX8_traced 63 (.iaload) 1 := by decide +kernel
theorem dX8_traced_64 : vdec mX8_traced 64 (.goto 4) 3 := by decide +kernel
theorem dX8_traced_67 : vdec mX8_traced 67 (.iconst 0) 1 := by decide +kernel
theorem dX8_traced_68 : vdec mX8_traced 68 (.if_icmp .ge 127) 3 := by decide +kernel
theorem dX8_traced_71 : vdec mX8_traced 71 (.iload_n 1) 1 := by decide +kernel
theorem dX8_traced_72 : vdec mX8_traced 72 (.iconst 1) 1 := by decide +kernel
theorem dX8_traced_73 : vdec mX8_traced 73 (.if_icmp .le 9) 3 := by decide +kernel
theorem dX8_traced_76 : vdec mX8_traced 76 (.iload_n 1) 1 := by decide +kernel
theorem dX8_traced_77 : vdec mX8_traced 77 (.iconst 2) 1 := by decide +kernel
theorem dX8_traced_78 : vdec mX8_traced 78 (.isub) 1 := by decide +kernel
theorem dX8_traced_79 : vdec mX8_traced 79 (.goto 4) 3 := by decide +kernel
theorem dX8_traced_82 : vdec mX8_traced 82 (.iconst (-1)) 1 := by decide +kernel
theorem dX8_traced_83 : vdec mX8_traced 83 (.istore_n 3) 1 := by decide +kernel
theorem dX8_traced_84 : vdec mX8_traced 84 (.iload_n 3) 1 := by decide +kernel
theorem dX8_traced_85 : vdec mX8_traced 85 (.iload_n 1) 1 := by decide +kernel
theorem dX8_traced_86 : vdec mX8_traced 86 (.iconst 1) 1 := by decide +kernel
theorem dX8_traced_87 : vdec mX8_traced 87 (.if_icmp .le 7) 3 := by decide +kernel
theorem dX8_traced_90 : vdec mX8_traced 90 (.iload_n 2) 1 := by decide +kernel
theorem dX8_traced_91 : vdec mX8_traced 91 (.goto 4) 3 := by decide +kernel
theorem dX8_traced_94 : vdec mX8_traced 94 (.iconst 0) 1 := by decide +kernel
theorem dX8_traced_95 : vdec mX8_traced 95 (.if_icmp .ge 94) 3 := by decide +kernel
theorem dX8_traced_98 : vdec mX8_traced 98 (.iload_n 1) 1 := by decide +kernel
theorem dX8_traced_99 : vdec mX8_traced 99 (.iconst 2) 1 := by decide +kernel
theorem dX8_traced_100 : vdec mX8_traced 100 (.if_icmp .le 7) 3 := by decide +kernel
theorem dX8_traced_103 : vdec mX8_traced 103 (.iconst 0) 1 := by decide +kernel
theorem dX8_traced_104 : vdec mX8_traced 104 (.goto 4) 3 := by decide +kernel
theorem dX8_traced_107 : vdec mX8_traced 107 (.iconst (-1)) 1 := by decide +kernel
theorem dX8_traced_108 : vdec mX8_traced 108 (.istore 4) 2 := by decide +kernel
theorem dX8_traced_110 : vdec mX8_traced 110 (.iload 4) 2 := by decide +kernel
theorem dX8_traced_112 : vdec mX8_traced 112 (.iload_n 1) 1 := by decide +kernel
theorem dX8_traced_113 : vdec mX8_traced 113 (.iconst 2) 1 := by decide +kernel
theorem dX8_traced_114 : vdec mX8_traced 114 (.if_icmp .le 7) 3 := by decide +kernel
theorem dX8_traced_117 : vdec mX8_traced 117 (.iload_n 3) 1 := by decide +kernel
theorem dX8_traced_118 : vdec mX8_traced 118 (.goto 4) 3 := by decide +kernel
theorem dX8_traced_121 : vdec mX8_traced 121 (.iconst 0) 1 := by decide +kernel
theorem dX8_traced_122 : vdec mX8_traced 122 (.if_icmp .ge 61) 3 := by decide +kernel
theorem dX8_traced_125 : vdec mX8_traced 125 (.aload_n 0) 1 := by decide +kernel
theorem dX8_traced_126 : vdec mX8_traced 126 (.iload_n 2) 1 := by decide +kernel
theorem dX8_traced_127 : vdec mX8_traced 127 (.invokevirtual 240) 3 := by decide +kernel
theorem dX8_traced_130 : vdec mX8_traced 130 (.ifCond .eq 47) 3 := by decide +kernel
theorem dX8_traced_133 : vdec mX8_traced 133 (.aload_n 0) 1 := by decide +kernel
theorem dX8_traced_134 : vdec mX8_traced 134 (.iload_n 3) 1 := by decide +kernel
theorem dX8_traced_135 : vdec mX8_traced 135 (.invokevirtual 240) 3 := by decide +kernel
theorem dX8_traced_138 : vdec mX8_traced 138 (.ifCond .eq 39) 3 := by decide +kernel
theorem dX8_traced_141 : vdec mX8_traced 141 (.aload_n 0) 1 := by decide +kernel
theorem dX8_traced_142 : vdec mX8_traced 142 (.iload 4) 2 := by decide +kernel
theorem dX8_traced_144 : vdec mX8_traced 144 (.invokevirtual 240) 3 := by decide +kernel
theorem dX8_traced_147 : vdec mX8_traced 147 (.ifCond .eq 30) 3 := by decide +kernel
theorem dX8_traced_150 : vdec mX8_traced 150 (.aload_n 0) 1 := by decide +kernel
theorem dX8_traced_151 : vdec mX8_traced 151 (.iload_n 2) 1 := by decide +kernel
theorem dX8_traced_152 : vdec mX8_traced 152 (.iload_n 3) 1 := by decide +kernel
theorem dX8_traced_153 : vdec mX8_traced 153 (.iload 4) 2 := by decide +kernel
theorem dX8_traced_155 : vdec mX8_traced 155 (.invokevirtual 243) 3 := by decide +kernel
theorem dX8_traced_158 : vdec mX8_traced 158 (.ifCond .eq 19) 3 := by decide +kernel
theorem dX8_traced_161 : vdec mX8_traced 161 (.iload_n 2) 1 := by decide +kernel
theorem dX8_traced_162 : vdec mX8_traced 162 (.invokestatic 246) 3 := by decide +kernel
theorem dX8_traced_165 : vdec mX8_traced 165 (.iload_n 3) 1 := by decide +kernel
theorem dX8_traced_166 : vdec mX8_traced 166 (.invokestatic 246) 3 := by decide +kernel
theorem dX8_traced_169 : vdec mX8_traced 169 (.ior) 1 := by decide +kernel
theorem dX8_traced_170 : vdec mX8_traced 170 (.iload 4) 2 := by decide +kernel
theorem dX8_traced_172 : vdec mX8_traced 172 (.invokestatic 246) 3 := by decide +kernel
theorem dX8_traced_175 : vdec mX8_traced 175 (.ior) 1 := by decide +kernel
theorem dX8_traced_176 : vdec mX8_traced 176 (.ireturn) 1 := by decide +kernel
theorem dX8_traced_177 : vdec mX8_traced 177 (.iinc 4 1) 3 := by decide +kernel
theorem dX8_traced_180 : vdec mX8_traced 180 (.goto (-70)) 3 := by decide +kernel
theorem dX8_traced_183 : vdec mX8_traced 183 (.iinc 3 1) 3 := by decide +kernel
theorem dX8_traced_186 : vdec mX8_traced 186 (.goto (-102)) 3 := by decide +kernel
theorem dX8_traced_189 : vdec mX8_traced 189 (.iinc 2 1) 3 := by decide +kernel
theorem dX8_traced_192 : vdec mX8_traced 192 (.goto (-139)) 3 := by decide +kernel
theorem dX8_traced_195 : vdec mX8_traced 195 (.iinc 1 1) 3 := by decide +kernel
theorem dX8_traced_198 : vdec mX8_traced 198 (.goto (-162)) 3 := by decide +kernel
theorem dX8_traced_201 : vdec mX8_traced 201 (.iconst (-1)) 1 := by decide +kernel
theorem dX8_traced_202 : vdec mX8_traced 202 (.ireturn) 1 := by decide +kernel
theorem dX8_snap_0 : vdec mX8_snap 0 (.aload_n 0) 1 := by decide +kernel
theorem dX8_snap_1 : vdec mX8_snap 1 (.getfield 160) 3 := by decide +kernel
theorem dX8_snap_4 : vdec mX8_snap 4 (.bipush 10) 2 := by decide +kernel
theorem dX8_snap_6 : vdec mX8_snap 6 (.if_icmp .ne 44) 3 := by decide +kernel
theorem dX8_snap_9 : vdec mX8_snap 9 (.iconst 0) 1 := by decide +kernel
theorem dX8_snap_10 : vdec mX8_snap 10 (.istore_n 1) 1 := by decide +kernel
theorem dX8_snap_11 : vdec mX8_snap 11 (.iload_n 1) 1 := by decide +kernel
theorem dX8_snap_12 : vdec mX8_snap 12 (.sipush 4500) 3 := by decide +kernel
theorem dX8_snap_15 : vdec mX8_snap 15 (.if_icmp .ge 25) 3 := by decide +kernel
theorem dX8_snap_18 : vdec mX8_snap 18 (.aload_n 0) 1 := by decide +kernel
theorem dX8_snap_19 : vdec mX8_snap 19 (.getfield 82) 3 := by decide +kernel
theorem dX8_snap_22 : vdec mX8_snap 22 (.iload_n 1) 1 := by decide +kernel
theorem dX8_snap_23 : vdec mX8_snap 23 (.aload_n 0) 1 := by decide +kernel
theorem dX8_snap_24 : vdec mX8_snap 24 (.getfield 82) 3 := by decide +kernel
theorem dX8_snap_27 : vdec mX8_snap 27 (.iload_n 1) 1 := by decide +kernel
theorem dX8_snap_28 : vdec mX8_snap 28 (.sipush 500) 3 := by decide +kernel
theorem dX8_snap_31 : vdec mX8_snap 31 (.iadd) 1 := by decide +kernel
theorem dX8_snap_32 : vdec mX8_snap 32 (.iaload) 1 := by decide +kernel
theorem dX8_snap_33 : vdec mX8_snap 33 (.iastore) 1 := by decide +kernel
theorem dX8_snap_34 : vdec mX8_snap 34 (.iinc 1 1) 3 := by decide +kernel
theorem dX8_snap_37 : vdec mX8_snap 37 (.goto (-26)) 3 := by decide +kernel
theorem dX8_snap_40 : vdec mX8_snap 40 (.aload_n 0) 1 := by decide +kernel
theorem dX8_snap_41 : vdec mX8_snap 41 (.dup) 1 := by decide +kernel
theorem dX8_snap_42 : vdec mX8_snap 42 (.getfield 160) 3 := by decide +kernel
theorem dX8_snap_45 : vdec mX8_snap 45 (.iconst 1) 1 := by decide +kernel
theorem dX8_snap_46 : vdec mX8_snap 46 (.isub) 1 := by decide +kernel
theorem dX8_snap_47 : vdec mX8_snap 47 (.putfield 160) 3 := by decide +kernel
theorem dX8_snap_50 : vdec mX8_snap 50 (.iconst 0) 1 := by decide +kernel
theorem dX8_snap_51 : vdec mX8_snap 51 (.istore_n 1) 1 := by decide +kernel
theorem dX8_snap_52 : vdec mX8_snap 52 (.iload_n 1) 1 := by decide +kernel
theorem dX8_snap_53 : vdec mX8_snap 53 (.sipush 500) 3 := by decide +kernel
theorem dX8_snap_56 : vdec mX8_snap 56 (.if_icmp .ge 30) 3 := by decide +kernel
theorem dX8_snap_59 : vdec mX8_snap 59 (.aload_n 0) 1 := by decide +kernel
theorem dX8_snap_60 : vdec mX8_snap 60 (.getfield 82) 3 := by decide +kernel
theorem dX8_snap_63 : vdec mX8_snap 63 (.sipush 500) 3 := by decide +kernel
theorem dX8_snap_66 : vdec mX8_snap 66 (.aload_n 0) 1 := by decide +kernel
theorem dX8_snap_67 : vdec mX8_snap 67 (.getfield 160) 3 := by decide +kernel
theorem dX8_snap_70 : vdec mX8_snap 70 (.imul) 1 := by decide +kernel
theorem dX8_snap_71 : vdec mX8_snap 71 (.iload_n 1) 1 := by decide +kernel
theorem dX8_snap_72 : vdec mX8_snap 72 (.iadd) 1 := by decide +kernel
theorem dX8_snap_73 : vdec mX8_snap 73 (.aload_n 0) 1 := by decide +kernel
theorem dX8_snap_74 : vdec mX8_snap 74 (.getfield 76) 3 := by decide +kernel
theorem dX8_snap_77 : vdec mX8_snap 77 (.iload_n 1) 1 := by decide +kernel
theorem dX8_snap_78 : vdec mX8_snap 78 (.iaload) 1 := by decide +kernel
theorem dX8_snap_79 : vdec mX8_snap 79 (.iastore) 1 := by decide +kernel
theorem dX8_snap_80 : vdec mX8_snap 80 (.iinc 1 1) 3 := by decide +kernel
theorem dX8_snap_83 : vdec mX8_snap 83 (.goto (-31)) 3 := by decide +kernel
theorem dX8_snap_86 : vdec mX8_snap 86 (.aload_n 0) 1 := by decide +kernel
theorem dX8_snap_87 : vdec mX8_snap 87 (.dup) 1 := by decide +kernel
theorem dX8_snap_88 : vdec mX8_snap 88 (.getfield 160) 3 := by decide +kernel
theorem dX8_snap_91 : vdec mX8_snap 91 (.iconst 1) 1 := by decide +kernel
theorem dX8_snap_92 : vdec mX8_snap 92 (.iadd) 1 := by decide +kernel
theorem dX8_snap_93 : vdec mX8_snap 93 (.putfield 160) 3 := by decide +kernel
theorem dX8_snap_96 : vdec mX8_snap 96 (.return_) 1 := by decide +kernel
theorem dX8_canPost_0 : vdec mX8_canPost 0 (.aload_n 0) 1 := by decide +kernel
theorem dX8_canPost_1 : vdec mX8_canPost 1 (.iload_n 1) 1 := by decide +kernel
theorem dX8_canPost_2 : vdec mX8_canPost 2 (.invokevirtual 206) 3 := by decide +kernel
theorem dX8_canPost_5 : vdec mX8_canPost 5 (.ifCond .eq 30) 3 := by decide +kernel
theorem dX8_canPost_8 : vdec mX8_canPost 8 (.aload_n 0) 1 := by decide +kernel
theorem dX8_canPost_9 : vdec mX8_canPost 9 (.iload_n 2) 1 := by decide +kernel
theorem dX8_canPost_10 : vdec mX8_canPost 10 (.invokevirtual 206) 3 := by decide +kernel
theorem dX8_canPost_13 : vdec mX8_canPost 13 (.ifCond .eq 22) 3 := by decide +kernel
theorem dX8_canPost_16 : vdec mX8_canPost 16 (.iload_n 1) 1 := by decide +kernel
theorem dX8_canPost_17 : vdec mX8_canPost 17 (.iload_n 2) 1 := by decide +kernel
theorem dX8_canPost_18 : vdec mX8_canPost 18 (.if_icmp .eq 17) 3 := by decide +kernel
theorem dX8_canPost_21 : vdec mX8_canPost 21 (.iload_n 3) 1 := by decide +kernel
theorem dX8_canPost_22 : vdec mX8_canPost 22 (.iconst 1) 1 := by decide +kernel
theorem dX8_canPost_23 : vdec mX8_canPost 23 (.ldc 125) 2 := by decide +kernel
theorem dX8_canPost_25 : vdec mX8_canPost 25 (.invokestatic 112) 3 := by decide +kernel
theorem dX8_canPost_28 : vdec mX8_canPost 28 (.ifCond .eq 7) 3 := by decide +kernel
theorem dX8_canPost_31 : vdec mX8_canPost 31 (.iconst 1) 1 := by decide +kernel
theorem dX8_canPost_32 : vdec mX8_canPost 32 (.goto 4) 3 := by decide +kernel
theorem dX8_canPost_35 : vdec mX8_canPost 35 (.iconst 0) 1 := by decide +kernel
theorem dX8_canPost_36 : vdec mX8_canPost 36 (.ireturn) 1 := by decide +kernel
theorem dX8_adds_0 : vdec mX8_adds 0 (.bipush 50) 2 := by decide +kernel
theorem dX8_adds_2 : vdec mX8_adds 2 (.bipush 15) 2 := by decide +kernel
theorem dX8_adds_4 : vdec mX8_adds 4 (.iload_n 1) 1 := by decide +kernel
theorem dX8_adds_5 : vdec mX8_adds 5 (.imul) 1 := by decide +kernel
theorem dX8_adds_6 : vdec mX8_adds 6 (.iadd) 1 := by decide +kernel
theorem dX8_adds_7 : vdec mX8_adds 7 (.istore 5) 2 := by decide +kernel
theorem dX8_adds_9 : vdec mX8_adds 9 (.iload 5) 2 := by decide +kernel
theorem dX8_adds_11 : vdec mX8_adds 11 (.iconst 3) 1 := by decide +kernel
theorem dX8_adds_12 : vdec mX8_adds 12 (.iadd) 1 := by decide +kernel
theorem dX8_adds_13 : vdec mX8_adds 13 (.iconst 2) 1 := by decide +kernel
theorem dX8_adds_14 : vdec mX8_adds 14 (.aload_n 0) 1 := by decide +kernel
theorem dX8_adds_15 : vdec mX8_adds 15 (.getfield 76) 3 := by decide +kernel
theorem dX8_adds_18 : vdec mX8_adds 18 (.iload 5) 2 := by decide +kernel
theorem dX8_adds_20 : vdec mX8_adds 20 (.iconst 2) 1 := by decide +kernel
theorem dX8_adds_21 : vdec mX8_adds 21 (.iadd) 1 := by decide +kernel
theorem dX8_adds_22 : vdec mX8_adds 22 (.iaload) 1 := by decide +kernel
theorem dX8_adds_23 : vdec mX8_adds 23 (.imul) 1 := by decide +kernel
theorem dX8_adds_24 : vdec mX8_adds 24 (.iadd) 1 := by decide +kernel
theorem dX8_adds_25 : vdec mX8_adds 25 (.istore 6) 2 := by decide +kernel
theorem dX8_adds_27 : vdec mX8_adds 27 (.aload_n 0) 1 := by decide +kernel
theorem dX8_adds_28 : vdec mX8_adds 28 (.getfield 76) 3 := by decide +kernel
theorem dX8_adds_31 : vdec mX8_adds 31 (.iload 6) 2 := by decide +kernel
theorem dX8_adds_33 : vdec mX8_adds 33 (.iload_n 2) 1 := by decide +kernel
theorem dX8_adds_34 : vdec mX8_adds 34 (.iastore) 1 := by decide +kernel
theorem dX8_adds_35 : vdec mX8_adds 35 (.aload_n 0) 1 := by decide +kernel
theorem dX8_adds_36 : vdec mX8_adds 36 (.getfield 76) 3 := by decide +kernel
theorem dX8_adds_39 : vdec mX8_adds 39 (.iload 6) 2 := by decide +kernel
theorem dX8_adds_41 : vdec mX8_adds 41 (.iconst 1) 1 := by decide +kernel
theorem dX8_adds_42 : vdec mX8_adds 42 (.iadd) 1 := by decide +kernel
theorem dX8_adds_43 : vdec mX8_adds 43 (.iload 4) 2 := by decide +kernel
theorem dX8_adds_45 : vdec mX8_adds 45 (.iastore) 1 := by decide +kernel
theorem dX8_adds_46 : vdec mX8_adds 46 (.aload_n 0) 1 := by decide +kernel
theorem dX8_adds_47 : vdec mX8_adds 47 (.getfield 76) 3 := by decide +kernel
theorem dX8_adds_50 : vdec mX8_adds 50 (.iload 6) 2 := by decide +kernel
theorem dX8_adds_52 : vdec mX8_adds 52 (.iconst 2) 1 := by decide +kernel
theorem dX8_adds_53 : vdec mX8_adds 53 (.iadd) 1 := by decide +kernel
theorem dX8_adds_54 : vdec mX8_adds 54 (.iload_n 3) 1 := by decide +kernel
theorem dX8_adds_55 : vdec mX8_adds 55 (.iastore) 1 := by decide +kernel
theorem dX8_adds_56 : vdec mX8_adds 56 (.aload_n 0) 1 := by decide +kernel
theorem dX8_adds_57 : vdec mX8_adds 57 (.getfield 76) 3 := by decide +kernel
theorem dX8_adds_60 : vdec mX8_adds 60 (.iload 6) 2 := by decide +kernel
theorem dX8_adds_62 : vdec mX8_adds 62 (.iconst 3) 1 := by decide +kernel
theorem dX8_adds_63 : vdec mX8_adds 63 (.iadd) 1 := by decide +kernel
theorem dX8_adds_64 : vdec mX8_adds 64 (.iload 4) 2 := by decide +kernel
theorem dX8_adds_66 : vdec mX8_adds 66 (.ineg) 1 := by decide +kernel
theorem dX8_adds_67 : vdec mX8_adds 67 (.iastore) 1 := by decide +kernel
theorem dX8_adds_68 : vdec mX8_adds 68 (.aload_n 0) 1 := by decide +kernel
theorem dX8_adds_69 : vdec mX8_adds 69 (.getfield 76) 3 := by decide +kernel
theorem dX8_adds_72 : vdec mX8_adds 72 (.iload 5) 2 := by decide +kernel
theorem dX8_adds_74 : vdec mX8_adds 74 (.iconst 2) 1 := by decide +kernel
theorem dX8_adds_75 : vdec mX8_adds 75 (.iadd) 1 := by decide +kernel
theorem dX8_adds_76 : vdec mX8_adds 76 (.dup2) 1 := by decide +kernel
theorem dX8_adds_77 : vdec mX8_adds 77 (.iaload) 1 := by decide +kernel
theorem dX8_adds_78 : vdec mX8_adds 78 (.iconst 2) 1 := by decide +kernel
theorem dX8_adds_79 : vdec mX8_adds 79 (.iadd) 1 := by decide +kernel
theorem dX8_adds_80 : vdec mX8_adds 80 (.iastore) 1 := by decide +kernel
theorem dX8_adds_81 : vdec mX8_adds 81 (.aload_n 0) 1 := by decide +kernel
theorem dX8_adds_82 : vdec mX8_adds 82 (.getfield 76) 3 := by decide +kernel
theorem dX8_adds_85 : vdec mX8_adds 85 (.iload 5) 2 := by decide +kernel
theorem dX8_adds_87 : vdec mX8_adds 87 (.iconst 2) 1 := by decide +kernel
theorem dX8_adds_88 : vdec mX8_adds 88 (.iadd) 1 := by decide +kernel
theorem dX8_adds_89 : vdec mX8_adds 89 (.iaload) 1 := by decide +kernel
theorem dX8_adds_90 : vdec mX8_adds 90 (.ireturn) 1 := by decide +kernel
theorem dX8_post_0 : vdec mX8_post 0 (.aload_n 0) 1 := by decide +kernel
theorem dX8_post_1 : vdec mX8_post 1 (.iconst 0) 1 := by decide +kernel
theorem dX8_post_2 : vdec mX8_post 2 (.putfield 1) 3 := by decide +kernel
theorem dX8_post_5 : vdec mX8_post 5 (.iload_n 1) 1 := by decide +kernel
theorem dX8_post_6 : vdec mX8_post 6 (.iconst 0) 1 := by decide +kernel
theorem dX8_post_7 : vdec mX8_post 7 (.bipush 19) 2 := by decide +kernel
theorem dX8_post_9 : vdec mX8_post 9 (.invokestatic 112) 3 := by decide +kernel
theorem dX8_post_12 : vdec mX8_post 12 (.ifCond .eq 14) 3 := by decide +kernel
theorem dX8_post_15 : vdec mX8_post 15 (.aload_n 0) 1 := by decide +kernel
theorem dX8_post_16 : vdec mX8_post 16 (.iload_n 2) 1 := by decide +kernel
theorem dX8_post_17 : vdec mX8_post 17 (.iload_n 3) 1 := by decide +kernel
theorem dX8_post_18 : vdec mX8_post 18 (.iload 4) 2 := by decide +kernel
theorem dX8_post_20 : vdec mX8_post 20 (.invokevirtual 249) 3 := by decide +kernel
theorem dX8_post_23 : vdec mX8_post 23 (.ifCond .ne 5) 3 := by decide +kernel
theorem dX8_post_26 : vdec mX8_post 26 (.iconst (-1)) 1 := by decide +kernel
theorem dX8_post_27 : vdec mX8_post 27 (.ireturn) 1 := by decide +kernel
theorem dX8_post_28 : vdec mX8_post 28 (.aload_n 0) 1 := by decide +kernel
theorem dX8_post_29 : vdec mX8_post 29 (.getfield 76) 3 := by decide +kernel
theorem dX8_post_32 : vdec mX8_post 32 (.iconst 1) 1 := by decide +kernel
theorem dX8_post_33 : vdec mX8_post 33 (.iaload) 1 := by decide +kernel
theorem dX8_post_34 : vdec mX8_post 34 (.bipush 30) 2 := by decide +kernel
theorem dX8_post_36 : vdec mX8_post 36 (.if_icmp .ne 6) 3 := by decide +kernel
theorem dX8_post_39 : vdec mX8_post 39 (.bipush (-2)) 2 := by decide +kernel
theorem dX8_post_41 : vdec mX8_post 41 (.ireturn) 1 := by decide +kernel
theorem dX8_post_42 : vdec mX8_post 42 (.aload_n 0) 1 := by decide +kernel
theorem dX8_post_43 : vdec mX8_post 43 (.invokevirtual 252) 3 := by decide +kernel
theorem dX8_post_46 : vdec mX8_post 46 (.bipush 50) 2 := by decide +kernel
theorem dX8_post_48 : vdec mX8_post 48 (.bipush 15) 2 := by decide +kernel
theorem dX8_post_50 : vdec mX8_post 50 (.aload_n 0) 1 := by decide +kernel
theorem dX8_post_51 : vdec mX8_post 51 (.getfield 76) 3 := by decide +kernel
theorem dX8_post_54 : vdec mX8_post 54 (.iconst 1) 1 := by decide +kernel
theorem dX8_post_55 : vdec mX8_post 55 (.iaload) 1 := by decide +kernel
theorem dX8_post_56 : vdec mX8_post 56 (.imul) 1 := by decide +kernel
theorem dX8_post_57 : vdec mX8_post 57 (.iadd) 1 := by decide +kernel
theorem dX8_post_58 : vdec mX8_post 58 (.istore 5) 2 := by decide +kernel
theorem dX8_post_60 : vdec mX8_post 60 (.iconst 0) 1 := by decide +kernel
theorem dX8_post_61 : vdec mX8_post 61 (.istore 6) 2 := by decide +kernel
theorem dX8_post_63 : vdec mX8_post 63 (.iload 6) 2 := by decide +kernel
theorem dX8_post_65 : vdec mX8_post 65 (.bipush 15) 2 := by decide +kernel
theorem dX8_post_67 : vdec mX8_post 67 (.if_icmp .ge 20) 3 := by decide +kernel
theorem dX8_post_70 : vdec mX8_post 70 (.aload_n 0) 1 := by decide +kernel
theorem dX8_post_71 : vdec mX8_post 71 (.getfield 76) 3 := by decide +kernel
theorem dX8_post_74 : vdec mX8_post 74 (.iload 5) 2 := by decide +kernel
theorem dX8_post_76 : vdec mX8_post 76 (.iload 6) 2 := by decide +kernel
theorem dX8_post_78 : vdec mX8_post 78 (.iadd) 1 := by decide +kernel
theorem dX8_post_79 : vdec mX8_post 79 (.iconst 0) 1 := by decide +kernel
theorem dX8_post_80 : vdec mX8_post 80 (.iastore) 1 := by decide +kernel
theorem dX8_post_81 : vdec mX8_post 81 (.iinc 6 1) 3 := by decide +kernel
theorem dX8_post_84 : vdec mX8_post 84 (.goto (-21)) 3 := by decide +kernel
theorem dX8_post_87 : vdec mX8_post 87 (.aload_n 0) 1 := by decide +kernel
theorem dX8_post_88 : vdec mX8_post 88 (.getfield 76) 3 := by decide +kernel
theorem dX8_post_91 : vdec mX8_post 91 (.iload 5) 2 := by decide +kernel
theorem dX8_post_93 : vdec mX8_post 93 (.iconst 0) 1 := by decide +kernel
theorem dX8_post_94 : vdec mX8_post 94 (.iadd) 1 := by decide +kernel
theorem dX8_post_95 : vdec mX8_post 95 (.iload_n 1) 1 := by decide +kernel
theorem dX8_post_96 : vdec mX8_post 96 (.iastore) 1 := by decide +kernel
theorem dX8_post_97 : vdec mX8_post 97 (.aload_n 0) 1 := by decide +kernel
theorem dX8_post_98 : vdec mX8_post 98 (.aload_n 0) 1 := by decide +kernel
theorem dX8_post_99 : vdec mX8_post 99 (.getfield 76) 3 := by decide +kernel
theorem dX8_post_102 : vdec mX8_post 102 (.iconst 1) 1 := by decide +kernel
theorem dX8_post_103 : vdec mX8_post 103 (.iaload) 1 := by decide +kernel
theorem dX8_post_104 : vdec mX8_post 104 (.iload_n 2) 1 := by decide +kernel
theorem dX8_post_105 : vdec mX8_post 105 (.iload_n 3) 1 := by decide +kernel
theorem dX8_post_106 : vdec mX8_post 106 (.iload 4) 2 := by decide +kernel
theorem dX8_post_108 : vdec mX8_post 108 (.invokevirtual 255) 3 := by decide +kernel
theorem dX8_post_111 : vdec mX8_post 111 (.pop) 1 := by decide +kernel
theorem dX8_post_112 : vdec mX8_post 112 (.aload_n 0) 1 := by decide +kernel
theorem dX8_post_113 : vdec mX8_post 113 (.getfield 76) 3 := by decide +kernel
theorem dX8_post_116 : vdec mX8_post 116 (.iconst 1) 1 := by decide +kernel
theorem dX8_post_117 : vdec mX8_post 117 (.dup2) 1 := by decide +kernel
theorem dX8_post_118 : vdec mX8_post 118 (.iaload) 1 := by decide +kernel
theorem dX8_post_119 : vdec mX8_post 119 (.iconst 1) 1 := by decide +kernel
theorem dX8_post_120 : vdec mX8_post 120 (.iadd) 1 := by decide +kernel
theorem dX8_post_121 : vdec mX8_post 121 (.iastore) 1 := by decide +kernel
theorem dX8_post_122 : vdec mX8_post 122 (.aload_n 0) 1 := by decide +kernel
theorem dX8_post_123 : vdec mX8_post 123 (.getfield 76) 3 := by decide +kernel
theorem dX8_post_126 : vdec mX8_post 126 (.iconst 1) 1 := by decide +kernel
theorem dX8_post_127 : vdec mX8_post 127 (.iaload) 1 := by decide +kernel
theorem dX8_post_128 : vdec mX8_post 128 (.iconst 1) 1 := by decide +kernel
theorem dX8_post_129 : vdec mX8_post 129 (.isub) 1 := by decide +kernel
theorem dX8_post_130 : vdec mX8_post 130 (.ireturn) 1 := by decide +kernel
theorem dX8_more_0 : vdec mX8_more 0 (.aload_n 0) 1 := by decide +kernel
theorem dX8_more_1 : vdec mX8_more 1 (.iconst 0) 1 := by decide +kernel
theorem dX8_more_2 : vdec mX8_more 2 (.putfield 1) 3 := by decide +kernel
theorem dX8_more_5 : vdec mX8_more 5 (.aload_n 0) 1 := by decide +kernel
theorem dX8_more_6 : vdec mX8_more 6 (.iload_n 1) 1 := by decide +kernel
theorem dX8_more_7 : vdec mX8_more 7 (.invokevirtual 215) 3 := by decide +kernel
theorem dX8_more_10 : vdec mX8_more 10 (.ifCond .eq 14) 3 := by decide +kernel
theorem dX8_more_13 : vdec mX8_more 13 (.aload_n 0) 1 := by decide +kernel
theorem dX8_more_14 : vdec mX8_more 14 (.iload_n 2) 1 := by decide +kernel
theorem dX8_more_15 : vdec mX8_more 15 (.iload_n 3) 1 := by decide +kernel
theorem dX8_more_16 : vdec mX8_more 16 (.iload 4) 2 := by decide +kernel
theorem dX8_more_18 : vdec mX8_more 18 (.invokevirtual 249) 3 := by decide +kernel
theorem dX8_more_21 : vdec mX8_more 21 (.ifCond .ne 5) 3 := by decide +kernel
theorem dX8_more_24 : vdec mX8_more 24 (.iconst (-1)) 1 := by decide +kernel
theorem dX8_more_25 : vdec mX8_more 25 (.ireturn) 1 := by decide +kernel
theorem dX8_more_26 : vdec mX8_more 26 (.aload_n 0) 1 := by decide +kernel
theorem dX8_more_27 : vdec mX8_more 27 (.iload_n 1) 1 := by decide +kernel
theorem dX8_more_28 : vdec mX8_more 28 (.iconst 2) 1 := by decide +kernel
theorem dX8_more_29 : vdec mX8_more 29 (.invokevirtual 167) 3 := by decide +kernel
theorem dX8_more_32 : vdec mX8_more 32 (.iconst 4) 1 := by decide +kernel
theorem dX8_more_33 : vdec mX8_more 33 (.if_icmp .le 6) 3 := by decide +kernel
theorem dX8_more_36 : vdec mX8_more 36 (.bipush (-2)) 2 := by decide +kernel
theorem dX8_more_38 : vdec mX8_more 38 (.ireturn) 1 := by decide +kernel
theorem dX8_more_39 : vdec mX8_more 39 (.aload_n 0) 1 := by decide +kernel
theorem dX8_more_40 : vdec mX8_more 40 (.invokevirtual 252) 3 := by decide +kernel
theorem dX8_more_43 : vdec mX8_more 43 (.aload_n 0) 1 := by decide +kernel
theorem dX8_more_44 : vdec mX8_more 44 (.iload_n 1) 1 := by decide +kernel
theorem dX8_more_45 : vdec mX8_more 45 (.iload_n 2) 1 := by decide +kernel
theorem dX8_more_46 : vdec mX8_more 46 (.iload_n 3) 1 := by decide +kernel
theorem dX8_more_47 : vdec mX8_more 47 (.iload 4) 2 := by decide +kernel
theorem dX8_more_49 : vdec mX8_more 49 (.invokevirtual 255) 3 := by decide +kernel
theorem dX8_more_52 : vdec mX8_more 52 (.ireturn) 1 := by decide +kernel
theorem dX8_strike_0 : vdec mX8_strike 0 (.aload_n 0) 1 := by decide +kernel
theorem dX8_strike_1 : vdec mX8_strike 1 (.iconst 0) 1 := by decide +kernel
theorem dX8_strike_2 : vdec mX8_strike 2 (.putfield 1) 3 := by decide +kernel
theorem dX8_strike_5 : vdec mX8_strike 5 (.aload_n 0) 1 := by decide +kernel
theorem dX8_strike_6 : vdec mX8_strike 6 (.iload_n 1) 1 := by decide +kernel
theorem dX8_strike_7 : vdec mX8_strike 7 (.invokevirtual 215) 3 := by decide +kernel
theorem dX8_strike_10 : vdec mX8_strike 10 (.ifCond .ne 5) 3 := by decide +kernel
theorem dX8_strike_13 : vdec mX8_strike 13 (.iconst (-1)) 1 := by decide +kernel
theorem dX8_strike_14 : vdec mX8_strike 14 (.ireturn) 1 := by decide +kernel
theorem dX8_strike_15 : vdec mX8_strike 15 (.aload_n 0) 1 := by decide +kernel
theorem dX8_strike_16 : vdec mX8_strike 16 (.invokevirtual 252) 3 := by decide +kernel
theorem dX8_strike_19 : vdec mX8_strike 19 (.aload_n 0) 1 := by decide +kernel
theorem dX8_strike_20 : vdec mX8_strike 20 (.getfield 76) 3 := by decide +kernel
theorem dX8_strike_23 : vdec mX8_strike 23 (.bipush 50) 2 := by decide +kernel
theorem dX8_strike_25 : vdec mX8_strike 25 (.bipush 15) 2 := by decide +kernel
theorem dX8_strike_27 : vdec mX8_strike 27 (.iload_n 1) 1 := by decide +kernel
theorem dX8_strike_28 : vdec mX8_strike 28 (.imul) 1 := by decide +kernel
theorem dX8_strike_29 : vdec mX8_strike 29 (.iadd) 1 := by decide +kernel
theorem dX8_strike_30 : vdec mX8_strike 30 (.iconst 1) 1 := by decide +kernel
theorem dX8_strike_31 : vdec mX8_strike 31 (.iadd) 1 := by decide +kernel
theorem dX8_strike_32 : vdec mX8_strike 32 (.dup2) 1 := by decide +kernel
theorem dX8_strike_33 : vdec mX8_strike 33 (.iaload) 1 := by decide +kernel
theorem dX8_strike_34 : vdec mX8_strike 34 (.iconst 1) 1 := by decide +kernel
theorem dX8_strike_35 : vdec mX8_strike 35 (.ixor) 1 := by decide +kernel
theorem dX8_strike_36 : vdec mX8_strike 36 (.iastore) 1 := by decide +kernel
theorem dX8_strike_37 : vdec mX8_strike 37 (.aload_n 0) 1 := by decide +kernel
theorem dX8_strike_38 : vdec mX8_strike 38 (.iload_n 1) 1 := by decide +kernel
theorem dX8_strike_39 : vdec mX8_strike 39 (.iconst 1) 1 := by decide +kernel
theorem dX8_strike_40 : vdec mX8_strike 40 (.invokevirtual 167) 3 := by decide +kernel
theorem dX8_strike_43 : vdec mX8_strike 43 (.ireturn) 1 := by decide +kernel
theorem dX8_tell_0 : vdec mX8_tell 0 (.aload_n 0) 1 := by decide +kernel
theorem dX8_tell_1 : vdec mX8_tell 1 (.iconst 0) 1 := by decide +kernel
theorem dX8_tell_2 : vdec mX8_tell 2 (.putfield 1) 3 := by decide +kernel
theorem dX8_tell_5 : vdec mX8_tell 5 (.aload_n 0) 1 := by decide +kernel
theorem dX8_tell_6 : vdec mX8_tell 6 (.iload_n 1) 1 := by decide +kernel
theorem dX8_tell_7 : vdec mX8_tell 7 (.invokevirtual 206) 3 := by decide +kernel
theorem dX8_tell_10 : vdec mX8_tell 10 (.ifCond .eq 16) 3 := by decide +kernel
theorem dX8_tell_13 : vdec mX8_tell 13 (.iload_n 2) 1 := by decide +kernel
theorem dX8_tell_14 : vdec mX8_tell 14 (.ldc_w 259) 3 := by decide +kernel
theorem dX8_tell_17 : vdec mX8_tell 17 (.ldc_w 260) 3 := by decide +kernel
theorem dX8_tell_20 : vdec mX8_tell 20 (.invokestatic 112) 3 := by decide +kernel
theorem dX8_tell_23 : vdec mX8_tell 23 (.ifCond .ne 5) 3 := by decide +kernel
theorem dX8_tell_26 : vdec mX8_tell 26 (.iconst 0) 1 := by decide +kernel
theorem dX8_tell_27 : vdec mX8_tell 27 (.ireturn) 1 := by decide +kernel
theorem dX8_tell_28 : vdec mX8_tell 28 (.aload_n 0) 1 := by decide +kernel
theorem dX8_tell_29 : vdec mX8_tell 29 (.invokevirtual 252) 3 := by decide +kernel
theorem dX8_tell_32 : vdec mX8_tell 32 (.aload_n 0) 1 := by decide +kernel
theorem dX8_tell_33 : vdec mX8_tell 33 (.getfield 76) 3 := by decide +kernel
theorem dX8_tell_36 : vdec mX8_tell 36 (.iconst 2) 1 := by decide +kernel
theorem dX8_tell_37 : vdec mX8_tell 37 (.iconst 4) 1 := by decide +kernel
theorem dX8_tell_38 : vdec mX8_tell 38 (.iload_n 1) 1 := by decide +kernel
theorem dX8_tell_39 : vdec mX8_tell 39 (.imul) 1 := by decide +kernel
theorem dX8_tell_40 : vdec mX8_tell 40 (.iadd) 1 := by decide +kernel
theorem dX8_tell_41 : vdec mX8_tell 41 (.iconst 2) 1 := by decide +kernel
theorem dX8_tell_42 : vdec mX8_tell 42 (.iadd) 1 := by decide +kernel
theorem dX8_tell_43 : vdec mX8_tell 43 (.iconst 1) 1 := by decide +kernel
theorem dX8_tell_44 : vdec mX8_tell 44 (.iastore) 1 := by decide +kernel
theorem dX8_tell_45 : vdec mX8_tell 45 (.aload_n 0) 1 := by decide +kernel
theorem dX8_tell_46 : vdec mX8_tell 46 (.getfield 76) 3 := by decide +kernel
theorem dX8_tell_49 : vdec mX8_tell 49 (.iconst 2) 1 := by decide +kernel
theorem dX8_tell_50 : vdec mX8_tell 50 (.iconst 4) 1 := by decide +kernel
theorem dX8_tell_51 : vdec mX8_tell 51 (.iload_n 1) 1 := by decide +kernel
theorem dX8_tell_52 : vdec mX8_tell 52 (.imul) 1 := by decide +kernel
theorem dX8_tell_53 : vdec mX8_tell 53 (.iadd) 1 := by decide +kernel
theorem dX8_tell_54 : vdec mX8_tell 54 (.iconst 3) 1 := by decide +kernel
theorem dX8_tell_55 : vdec mX8_tell 55 (.iadd) 1 := by decide +kernel
theorem dX8_tell_56 : vdec mX8_tell 56 (.iload_n 2) 1 := by decide +kernel
theorem dX8_tell_57 : vdec mX8_tell 57 (.iastore) 1 := by decide +kernel
theorem dX8_tell_58 : vdec mX8_tell 58 (.iconst 1) 1 := by decide +kernel
theorem dX8_tell_59 : vdec mX8_tell 59 (.ireturn) 1 := by decide +kernel
theorem dX8_turn_0 : vdec mX8_turn 0 (.aload_n 0) 1 := by decide +kernel
theorem dX8_turn_1 : vdec mX8_turn 1 (.iconst 0) 1 := by decide +kernel
theorem dX8_turn_2 : vdec mX8_turn 2 (.putfield 1) 3 := by decide +kernel
theorem dX8_turn_5 : vdec mX8_turn 5 (.aload_n 0) 1 := by decide +kernel
theorem dX8_turn_6 : vdec mX8_turn 6 (.iload_n 1) 1 := by decide +kernel
theorem dX8_turn_7 : vdec mX8_turn 7 (.invokevirtual 206) 3 := by decide +kernel
theorem dX8_turn_10 : vdec mX8_turn 10 (.ifCond .eq 12) 3 := by decide +kernel
theorem dX8_turn_13 : vdec mX8_turn 13 (.iload_n 2) 1 := by decide +kernel
theorem dX8_turn_14 : vdec mX8_turn 14 (.iconst 0) 1 := by decide +kernel
theorem dX8_turn_15 : vdec mX8_turn 15 (.iconst 5) 1 := by decide +kernel
theorem dX8_turn_16 : vdec mX8_turn 16 (.invokestatic 112) 3 := by decide +kernel
theorem dX8_turn_19 : vdec mX8_turn 19 (.ifCond .ne 5) 3 := by decide +kernel
theorem dX8_turn_22 : vdec mX8_turn 22 (.iconst (-1)) 1 := by decide +kernel
theorem dX8_turn_23 : vdec mX8_turn 23 (.ireturn) 1 := by decide +kernel
theorem dX8_turn_24 : vdec mX8_turn 24 (.aload_n 0) 1 := by decide +kernel
theorem dX8_turn_25 : vdec mX8_turn 25 (.invokevirtual 252) 3 := by decide +kernel
theorem dX8_turn_28 : vdec mX8_turn 28 (.aload_n 0) 1 := by decide +kernel
theorem dX8_turn_29 : vdec mX8_turn 29 (.iload_n 1) 1 := by decide +kernel
theorem dX8_turn_30 : vdec mX8_turn 30 (.invokevirtual 203) 3 := by decide +kernel
theorem dX8_turn_33 : vdec mX8_turn 33 (.istore_n 3) 1 := by decide +kernel
theorem dX8_turn_34 : vdec mX8_turn 34 (.aload_n 0) 1 := by decide +kernel
theorem dX8_turn_35 : vdec mX8_turn 35 (.getfield 76) 3 := by decide +kernel
theorem dX8_turn_38 : vdec mX8_turn 38 (.iconst 2) 1 := by decide +kernel
theorem dX8_turn_39 : vdec mX8_turn 39 (.iconst 4) 1 := by decide +kernel
theorem dX8_turn_40 : vdec mX8_turn 40 (.iload_n 1) 1 := by decide +kernel
theorem dX8_turn_41 : vdec mX8_turn 41 (.imul) 1 := by decide +kernel
theorem dX8_turn_42 : vdec mX8_turn 42 (.iadd) 1 := by decide +kernel
theorem dX8_turn_43 : vdec mX8_turn 43 (.iconst 0) 1 := by decide +kernel
theorem dX8_turn_44 : vdec mX8_turn 44 (.iadd) 1 := by decide +kernel
theorem dX8_turn_45 : vdec mX8_turn 45 (.iload_n 2) 1 := by decide +kernel
theorem dX8_turn_46 : vdec mX8_turn 46 (.iastore) 1 := by decide +kernel
theorem dX8_turn_47 : vdec mX8_turn 47 (.iload_n 3) 1 := by decide +kernel
theorem dX8_turn_48 : vdec mX8_turn 48 (.ireturn) 1 := by decide +kernel
theorem dX8_undo_0 : vdec mX8_undo 0 (.aload_n 0) 1 := by decide +kernel
theorem dX8_undo_1 : vdec mX8_undo 1 (.iconst 0) 1 := by decide +kernel
theorem dX8_undo_2 : vdec mX8_undo 2 (.putfield 1) 3 := by decide +kernel
theorem dX8_undo_5 : vdec mX8_undo 5 (.aload_n 0) 1 := by decide +kernel
theorem dX8_undo_6 : vdec mX8_undo 6 (.getfield 160) 3 := by decide +kernel
theorem dX8_undo_9 : vdec mX8_undo 9 (.ifCond .ne 5) 3 := by decide +kernel
theorem dX8_undo_12 : vdec mX8_undo 12 (.iconst (-1)) 1 := by decide +kernel
theorem dX8_undo_13 : vdec mX8_undo 13 (.ireturn) 1 := by decide +kernel
theorem dX8_undo_14 : vdec mX8_undo 14 (.aload_n 0) 1 := by decide +kernel
theorem dX8_undo_15 : vdec mX8_undo 15 (.dup) 1 := by decide +kernel
theorem dX8_undo_16 : vdec mX8_undo 16 (.getfield 160) 3 := by decide +kernel
theorem dX8_undo_19 : vdec mX8_undo 19 (.iconst 1) 1 := by decide +kernel
theorem dX8_undo_20 : vdec mX8_undo 20 (.isub) 1 := by decide +kernel
theorem dX8_undo_21 : vdec mX8_undo 21 (.putfield 160) 3 := by decide +kernel
theorem dX8_undo_24 : vdec mX8_undo 24 (.iconst 0) 1 := by decide +kernel
theorem dX8_undo_25 : vdec mX8_undo 25 (.istore_n 1) 1 := by decide +kernel
theorem dX8_undo_26 : vdec mX8_undo 26 (.iload_n 1) 1 := by decide +kernel
theorem dX8_undo_27 : vdec mX8_undo 27 (.sipush 500) 3 := by decide +kernel
theorem dX8_undo_30 : vdec mX8_undo 30 (.if_icmp .ge 30) 3 := by decide +kernel
theorem dX8_undo_33 : vdec mX8_undo 33 (.aload_n 0) 1 := by decide +kernel
theorem dX8_undo_34 : vdec mX8_undo 34 (.getfield 76) 3 := by decide +kernel
theorem dX8_undo_37 : vdec mX8_undo 37 (.iload_n 1) 1 := by decide +kernel
theorem dX8_undo_38 : vdec mX8_undo 38 (.aload_n 0) 1 := by decide +kernel
theorem dX8_undo_39 : vdec mX8_undo 39 (.getfield 82) 3 := by decide +kernel
theorem dX8_undo_42 : vdec mX8_undo 42 (.sipush 500) 3 := by decide +kernel
theorem dX8_undo_45 : vdec mX8_undo 45 (.aload_n 0) 1 := by decide +kernel
theorem dX8_undo_46 : vdec mX8_undo 46 (.getfield 160) 3 := by decide +kernel
theorem dX8_undo_49 : vdec mX8_undo 49 (.imul) 1 := by decide +kernel
theorem dX8_undo_50 : vdec mX8_undo 50 (.iload_n 1) 1 := by decide +kernel
theorem dX8_undo_51 : vdec mX8_undo 51 (.iadd) 1 := by decide +kernel
theorem dX8_undo_52 : vdec mX8_undo 52 (.iaload) 1 := by decide +kernel
theorem dX8_undo_53 : vdec mX8_undo 53 (.iastore) 1 := by decide +kernel
theorem dX8_undo_54 : vdec mX8_undo 54 (.iinc 1 1) 3 := by decide +kernel
theorem dX8_undo_57 : vdec mX8_undo 57 (.goto (-31)) 3 := by decide +kernel
theorem dX8_undo_60 : vdec mX8_undo 60 (.aload_n 0) 1 := by decide +kernel
theorem dX8_undo_61 : vdec mX8_undo 61 (.getfield 160) 3 := by decide +kernel
theorem dX8_undo_64 : vdec mX8_undo 64 (.ireturn) 1 := by decide +kernel
end
section
/-! ===== BEGIN words of one list among another's, by their places ===== -/
theorem goodIn_r {big : List Cond} (ws : List Cond) (ps : List Nat) (hp : ws = ps.filterMap (fun i => big[i]?)) (h : ws.all goodWord = true) : GoodIn big ws := by
  intro w hw
  have h1 := List.all_eq_true.mp h w hw
  rw [hp] at hw
  obtain ⟨i, -, hi⟩ := List.mem_filterMap.mp hw
  have hm : w ∈ big := by first | exact List.mem_of_getElem? hi | exact List.getElem?_mem hi
  exact ⟨hm, good_of_word h1⟩
theorem goodIn_app {big a b : List Cond} (ha : GoodIn big a) (hb : GoodIn big b) : GoodIn big (a ++ b) := fun w h => (List.mem_append.mp h).elim (ha w) (hb w)
theorem goodIn_ca {big a b : List Cond} {c : Cond} (ha : GoodIn big (c :: a)) (hb : GoodIn big b) : GoodIn big (c :: (a ++ b)) := fun w h => (List.mem_cons.mp h).elim (fun e => ha w (List.mem_cons.mpr (Or.inl e))) (fun h => (List.mem_append.mp h).elim (fun h => ha w (List.mem_cons.mpr (Or.inr h))) (hb w))
theorem goodIn_sub {big ws : List Cond} (hm : ∀ w ∈ ws, w ∈ big) (h : ws.all goodWord = true) : GoodIn big ws := fun w hw => ⟨hm w hw, good_of_word (List.all_eq_true.mp h w hw)⟩
/-! ===== END ===== -/
/-! ===== BEGIN exceptions that leave a method, and their catching by the caller (launches without stack traces) ===== -/
section VXA
/-! The laws vx_back, vx_callV, vx_callS, vx_callSW, vx_throw0, vx_throwS follow proofs of the library, with one case more: JvmDerived/Free/Laws.lean (Back.of_free), Shelf42/LK1.lean (callV, callS), Shelf/KitTraced.lean (throwNew0V, throwNewS). -/
/-- where a method has thrown q: the class by its name, the cell, what was written, the world -/
def vx_T (XC : String → State → State → Prop) (st : State) (q : Addr) (t : State) (mc ms : Nat) (free : Addr → Prop) : Prop :=
  ∃ (E : String) (ce : Cell) (L : List Loc), XC E st t ∧ t.heap[q]? = some ce ∧ ce.vm = .none ∧ st.vm.findClass E = some ce.cls ∧ st.WarmedH t.vm ∧ st.sameButNew ({ t with vm := st.vm } : State) L mc ms ∧ ∀ z ∈ L, free z.base
def vx_Q (Qc : Array Value → State → Outcome → State → Prop) (XC : String → State → State → Prop) (mc ms : Nat) (free : Addr → Prop) : Array Value → State → Outcome → State → Prop := fun a st o t =>
  (Qc a st o t ∧ ∃ L, FrameEnd st o t L mc ms ∧ ∀ q ∈ L, free q.base) ∨ ∃ q, o = .threw q ∧ vx_T XC st q t mc ms free
/-- a callee that returns or throws -/
def vx_Met (l : Launch) (y : MethodName) (ws : List Cond) (rm : Room) (Pc : Array Value → State → Prop) (Qc : Array Value → State → Outcome → State → Prop) (XC : String → State → State → Prop) (mc ms : Nat) (free : Addr → Prop) : Prop :=
  MetFree l y (headSpec ws rm) Pc (fun _ _ _ _ _ => True) (vx_Q Qc XC mc ms free)
def vx_Post (XC : String → State → State → Prop) (mc ms : Nat) (free : Addr → Prop) : Pt → Array Value → Addr → Pt → Prop := fun A a q B =>
  ∃ (g : JFrame) (mk : MethodId) (t : State) (L : List Loc) (E : String) (ce : Cell), B.U.heap = t.heap ∧ B.U.vm = t.vm ∧ XC E (A.U.calling g mk a) t ∧ t.heap[q]? = some ce ∧ ce.vm = .none ∧ A.U.vm.findClass E = some ce.cls ∧ B.locs = A.locs ++ L ∧ (∀ z ∈ L, free z.base) ∧ B.cells = A.cells + mc ∧ B.slots = A.slots + ms
def vx_Back (l : Launch) (R : Room) (p : Program) (e : Env) (below : List Frame) (s : State) (sargs : Array Value) (y : MethodName) (len W9 : Nat)
    (Pre : Pt → Array Value → Prop) (Post : Pt → Array Value → Option Value → Pt → Prop) (PostX : Pt → Array Value → Addr → Pt → Prop) : Prop :=
  ∀ (m : MethodId) (meth : Method) (c : Code) (A : Pt) (g : JFrame) (ig : Instr) (mk : MethodId) (a : Array Value),
    Stand p l e R s m sargs below meth c A.U A.locs A.cells A.slots → g.method = m → g.locals.size = c.maxLocals → decode c.code g.pc = .ok (ig, len) →
    2 * g.monitorRoom + (g.stack.map fun v => v.category).sum ≤ W9 → A.U.methodNamed? y = some mk → Pre A a →
    (∃ (v : Option Value) (B : Pt), Stand p l e R s m sargs below meth c B.U B.locs B.cells B.slots ∧ Post A a v B ∧
      Steps p.tables e below (doInvoke e (A.U.setTop g) [] mk a).1 (B.U.setTop { g with pc := g.pc + len, stack := v.toList ++ g.stack })) ∨
    (∃ (q : Addr) (B : Pt), Stand p l e R s m sargs below meth c B.U B.locs B.cells B.slots ∧ PostX A a q B ∧
      Steps p.tables e below (doInvoke e (A.U.setTop g) [] mk a).1 ((B.U.setTop g).pushFrame (.throwing q)))
section Payer
variable {l : Launch} {R : Room} {p : Program} {e : Env} {below : List Frame} {s : State} {sargs : Array Value} {y : MethodName} {len W9 : Nat}
theorem vx_back {ws : List Cond} {rm : Room} {Pc : Array Value → State → Prop} {Qc : Array Value → State → Outcome → State → Prop} {XC : String → State → State → Prop} {mc ms : Nat} {free : Addr → Prop} {bytes : ByteArray} {maxL : Nat} {ret : Option FieldType}
    (hM : vx_Met l y ws rm Pc Qc XC mc ms free) (hblind : FrameBlind Pc) (hrc : rm.cells = mc) (hrs : rm.slots = ms)
    (hframes : rm.frames + 1 ≤ R.frames) (hlocals : W9 + (maxL + 11) + rm.locals ≤ R.locals)
    (hws : ∀ w ∈ ws, ∀ a' U, s.WarmedH U.vm → w.before a' U = true) (hcode : Cond.code y bytes maxL ret ∈ ws) (hinit : ∀ a' U, s.WarmedH U.vm → (Cond.initialized y.cls).before a' U = true) :
    vx_Back l R p e below s sargs y len W9 (PreOf R mc ms Pc) (PostOf Qc mc ms free) (vx_Post XC mc ms free) := by
  intro m meth c A g ig mk a X hg hsize hdg hW hn hp
  have h1 : (headSpec ws rm).pre.before a A.U = true := atoms_intro fun w hw => hws w hw _ _ X.warmed
  have h2 : (Cond.code y bytes maxL ret).before a A.U = true := hws _ hcode _ _ X.warmed
  have h3 : (Cond.initialized y.cls).before a A.U = true := hinit _ _ X.warmed
  have h4 : A.cells + (headSpec ws rm).room.cells ≤ R.cells := by rw [show (headSpec ws rm).room.cells = mc from hrc]; exact hp.1
  have h5 : A.slots + (headSpec ws rm).room.slots ≤ R.slots := by rw [show (headSpec ws rm).room.slots = ms from hrs]; exact hp.2.1
  have hPc : Pc a (A.U.calling g mk a) := hblind _ _ _ _ hp.2.2
  obtain ⟨U, Ls, c0, s0⟩ := A
  dsimp only [Pt.U, Pt.locs, Pt.cells, Pt.slots] at h1 h2 h3 h4 h5 X hn hPc ⊢
  obtain ⟨methY, cY, hmY, hcY, -, hlY, -, -, -, -⟩ := Cond.code_spec hn h2
  obtain ⟨kY, hkY, -⟩ := className_of_methodNamed hn
  have hinitY : kY.init = .initialized := Cond.initialized_spec (findClass_of_methodNamed hn) hkY h3
  have h : At U g.method c below := by rw [hg]; exact X.here
  have hlocals9 : W9 + (maxL + 11) + (headSpec ws rm).room.locals ≤ R.locals := hlocals
  have happ : (headSpec ws rm).appliesLoose y e.platform (U.calling g mk a) = true :=
    Spec.appliesLoose_calling (g := g) h hdg hn hkY hinitY
      (X.room_calling (g := g) (R' := (headSpec ws rm).room) hsize hmY hcY hframes (by rw [hlY]; omega) h4 h5) h1
  obtain ⟨mid, hmid⟩ := h.above
  have hfr : (U.setTop g).frames = (.java g :: mid) ++ below := by rw [State.frames_setTop' g h.top, hmid]; rfl
  obtain ⟨o, s₂, hsteps, -, hend, hq⟩ := Steps.callFree hM p X.admits X.cas X.clock (acts := []) hfr happ hPc trivial
  have hq' : vx_Q Qc XC mc ms free a (U.calling g mk a) o s₂ := hq
  rw [State.frames_setTop' g h.top] at hend
  obtain ⟨g₀, hg0⟩ := Option.isSome_iff_exists.mp h.top
  obtain ⟨r, hr⟩ := State.topJava?_eq_some.mp hg0
  have hr' : (({ U with heap := s₂.heap, slotsUsed := s₂.slotsUsed } : State).setVm s₂.vm).frames = .java g₀ :: r := hr
  rcases hq' with ⟨hqc, L, hfe, hL⟩ | ⟨q, rfl, E, ce, L, hx, hce, hcv, hcl, hW₂, hsm, hL⟩
  · obtain ⟨⟨v, rfl⟩, hW₂, e2, q2, q3, q4, q5, q6⟩ := id hfe
    have e3 : s₂ = ({ (U.calling g mk a).setFrames s₂.frames with heap := s₂.heap, slotsUsed := s₂.slotsUsed } : State).setVm s₂.vm := by
      have : s₂ = ({ s₂ with vm := (U.calling g mk a).vm } : State).setVm s₂.vm := rfl
      rw [e2] at this
      exact this
    obtain ⟨c₂, i₂, len₂, hc₂, hd₂, hf₂⟩ := hend
    have hW' : U.WarmedH s₂.vm := hW₂
    have hcc : c₂ = c := by
      have h1 : s₂.code? g.method = U.code? g.method := by
        rw [State.code?_eq, State.code?_eq, hW'.alike.method?]
      exact Option.some.inj (hc₂.symm.trans (h1.trans h.code))
    subst hcc
    have hlen : len₂ = len := by rw [hdg] at hd₂; cases hd₂; rfl
    subst hlen
    have hs₂ : s₂ = (({ U with heap := s₂.heap, slotsUsed := s₂.slotsUsed } : State).setVm s₂.vm).setTop { g with pc := g.pc + len₂, stack := v.toList ++ g.stack } := by
      refine e3.trans ?_
      rw [hf₂, State.calling_eq h.top, State.setFrames_setFrames, State.setTop_of_frames _ hr', hr]
      rfl
    have hsame : U.sameButNew ({ U with heap := s₂.heap, slotsUsed := s₂.slotsUsed } : State) L mc ms := by
      refine ⟨?_, q2, q3, q4, q5, q6⟩
      obtain ⟨t, ht, -⟩ := State.frames_cons hr
      show ({ U with heap := s₂.heap, slotsUsed := s₂.slotsUsed } : State) = { U.setFrames U.frames with heap := s₂.heap, slotsUsed := s₂.slotsUsed }
      rw [State.setFrames_self ht]
    subst hg
    refine Or.inl ⟨v, ⟨(({ U with heap := s₂.heap, slotsUsed := s₂.slotsUsed } : State).setVm s₂.vm), Ls ++ L, c0 + mc, s0 + ms⟩,
      ⟨X.admits, X.cas, X.clock, X.frames, X.room, X.hears, X.method, X.code, (X.here.setHeapUsed s₂.heap s₂.slotsUsed).setVm hW'.alike, X.tail, State.WarmedH.trans X.warmed hW', X.limits, X.bytes, X.same.trans (hsame.setVm s.vm)⟩,
      ⟨g, mk, s₂, L, rfl, rfl, hqc, rfl, hL, rfl, rfl⟩, ?_⟩
    show Steps p.tables e below _ ((({ U with heap := s₂.heap, slotsUsed := s₂.slotsUsed } : State).setVm s₂.vm).setTop { g with pc := g.pc + len₂, stack := v.toList ++ g.stack })
    rw [← hs₂]
    exact hsteps
  · obtain ⟨e2, q2, q3, q4, q5, q6⟩ := id hsm
    have e3 : s₂ = ({ (U.calling g mk a).setFrames s₂.frames with heap := s₂.heap, slotsUsed := s₂.slotsUsed } : State).setVm s₂.vm := by
      have : s₂ = ({ s₂ with vm := (U.calling g mk a).vm } : State).setVm s₂.vm := rfl
      rw [e2] at this
      exact this
    have hf₂ : s₂.frames = .throwing q :: .java g :: U.frames.tail := hend
    have hW' : U.WarmedH s₂.vm := hW₂
    have hs₂ : s₂ = ((({ U with heap := s₂.heap, slotsUsed := s₂.slotsUsed } : State).setVm s₂.vm).setTop g).pushFrame (.throwing q) := by
      refine e3.trans ?_
      rw [hf₂, State.calling_eq h.top, State.setFrames_setFrames, State.pushFrame, State.frames_setTop _ hr', State.setTop_of_frames _ hr', State.setFrames_setFrames, hr]
      rfl
    have hsame : U.sameButNew ({ U with heap := s₂.heap, slotsUsed := s₂.slotsUsed } : State) L mc ms := by
      refine ⟨?_, q2, q3, q4, q5, q6⟩
      obtain ⟨t, ht, -⟩ := State.frames_cons hr
      show ({ U with heap := s₂.heap, slotsUsed := s₂.slotsUsed } : State) = { U.setFrames U.frames with heap := s₂.heap, slotsUsed := s₂.slotsUsed }
      rw [State.setFrames_self ht]
    subst hg
    refine Or.inr ⟨q, ⟨(({ U with heap := s₂.heap, slotsUsed := s₂.slotsUsed } : State).setVm s₂.vm), Ls ++ L, c0 + mc, s0 + ms⟩,
      ⟨X.admits, X.cas, X.clock, X.frames, X.room, X.hears, X.method, X.code, (X.here.setHeapUsed s₂.heap s₂.slotsUsed).setVm hW'.alike, X.tail, State.WarmedH.trans X.warmed hW', X.limits, X.bytes, X.same.trans (hsame.setVm s.vm)⟩,
      ⟨g, mk, s₂, L, E, ce, rfl, rfl, hx, hce, hcv, hcl, rfl, hL, rfl, rfl⟩, ?_⟩
    show Steps p.tables e below _ (((({ U with heap := s₂.heap, slotsUsed := s₂.slotsUsed } : State).setVm s₂.vm).setTop g).pushFrame (.throwing q))
    rw [← hs₂]
    exact hsteps
end Payer
section Calls
variable {p : Program} {l : Launch} {e : Env} {R : Room} {s : State} {m : MethodId} {args : Array Value} {below : List Frame} {meth : Method} {c : Code} {T : State} {locs : List Loc} {cells slots : Nat}
theorem vx_callV (X : Stand p l e R s m args below meth c T locs cells slots) (hexec : p.tables.exec = Jvm.exec) {own C : String} {index : Nat} {y : MethodName} {bytes : ByteArray} {maxL : Nat} {ret : Option FieldType}
    (hown : s.vm.findClass own = some m.cls) (hlink : (Cond.methodLink own index y).before args s = true) (hinst : (Cond.instanceMethod y).before args s = true) (hsel : (Cond.selects C y y).before args s = true)
    (hcode : (Cond.code y bytes maxL ret).before args s = true) (hy : y.cls ≠ "java/lang/invoke/MethodHandle" ∧ y.cls ≠ "java/lang/invoke/VarHandle")
    {W9 : Nat} {Pre : Pt → Array Value → Prop} {Post : Pt → Array Value → Option Value → Pt → Prop} {PostX : Pt → Array Value → Addr → Pt → Prop} (hK : vx_Back l R p e below s args y 3 W9 Pre Post PostX)
    {b : Addr} {cellB : Cell} (hcell : T.heap[b]? = some cellB) (hobj : cellB.vm.isStatics = false) (hcls : s.vm.findClass C = some cellB.cls)
    {g : JFrame} (hg : g.method = m) (hsize : g.locals.size = c.maxLocals) {argsL rest : List Value} (hlen : ∀ sig, parseMethodDescriptor y.desc = some sig → argsL.length = sig.parameters.length)
    (hstack : g.stack = argsL.reverse ++ .ref b :: rest) (hW : 2 * g.monitorRoom + (rest.map fun v => v.category).sum ≤ W9) (hdg : decode c.code g.pc = .ok (.invokevirtual index, 3))
    (hpre : ∀ vm₁, s.WarmedH vm₁ → Pre ⟨T.setVm vm₁, locs, cells, slots⟩ (Value.ref b :: argsL).toArray) :
    (∃ (v : Option Value) (vm₁ : Vm) (B : Pt), s.WarmedH vm₁ ∧ Stand p l e R s m args below meth c B.U B.locs B.cells B.slots ∧ Post ⟨T.setVm vm₁, locs, cells, slots⟩ (Value.ref b :: argsL).toArray v B ∧
      ∀ target, Steps p.tables e below (B.U.setTop { g with pc := g.pc + 3, stack := v.toList ++ rest }) target → Steps p.tables e below (T.setTop g) target) ∨
    (∃ (q : Addr) (vm₁ : Vm) (B : Pt), s.WarmedH vm₁ ∧ Stand p l e R s m args below meth c B.U B.locs B.cells B.slots ∧ PostX ⟨T.setVm vm₁, locs, cells, slots⟩ (Value.ref b :: argsL).toArray q B ∧
      Steps p.tables e below (T.setTop g) ((B.U.setTop { g with stack := rest }).pushFrame (.throwing q))) := by
  obtain ⟨mk, methM, hnamed, hmethM, hstM, habM⟩ := Cond.instanceMethod_spec hinst
  obtain ⟨methM', cM, hmethM', -, -, -, -, -, -, hsigM⟩ := Cond.code_spec hnamed hcode
  cases hmethM.symm.trans hmethM'
  obtain ⟨c2, r2, m2, q1, q2, q3, q4, kP, hkP, hkPi⟩ := Cond.selects_spec hsel
  cases hcls.symm.trans q1
  cases (State.methodFound?_of_named hnamed hy).symm.trans q2
  cases hnamed.symm.trans q3
  have hselP : selectMethod e.platform s.vm cellB.cls mk = .method mk := by rw [Launch.admits_selectMethod X.admits]; exact q4
  obtain ⟨vm₁, X₁, hstep₁⟩ := X.invokevirtual hexec hown hlink hnamed hmethM hstM hkP hkPi hy (a := b) (cell := cellB) hcell
    (fun z h => by rw [h] at hobj; cases hobj) hselP hmethM habM hkP hkPi (g := g) hg (argsL := argsL) (rest := rest) (hlen _ hsigM) hstack hdg
  rcases hK m meth c ⟨T.setVm vm₁, locs, cells, slots⟩ { g with stack := rest } (.invokevirtual index) mk (Value.ref b :: argsL).toArray X₁ hg hsize hdg hW (X₁.named hnamed) (hpre vm₁ X₁.warmed) with ⟨v, B, X', hpost, hsteps⟩ | ⟨q, B, X', hpost, hsteps⟩
  · exact Or.inl ⟨v, vm₁, B, X₁.warmed, X', hpost, fun target h => hstep₁ _ fun acts => by rw [doInvoke_state]; exact hsteps.trans h⟩
  · exact Or.inr ⟨q, vm₁, B, X₁.warmed, X', hpost, hstep₁ _ fun acts => by rw [doInvoke_state]; exact hsteps⟩
theorem vx_callS (X : Stand p l e R s m args below meth c T locs cells slots) (hexec : p.tables.exec = Jvm.exec) {own : String} {index : Nat} {y : MethodName} {bytes : ByteArray} {maxL : Nat} {ret : Option FieldType}
    (hown : s.vm.findClass own = some m.cls) (hlink : (Cond.methodLink own index y).before args s = true) (hstat : (Cond.static y).before args s = true) (hinit : (Cond.initialized y.cls).before args s = true)
    (hcode : (Cond.code y bytes maxL ret).before args s = true) (hy : y.cls ≠ "java/lang/invoke/MethodHandle" ∧ y.cls ≠ "java/lang/invoke/VarHandle")
    {W9 : Nat} {Pre : Pt → Array Value → Prop} {Post : Pt → Array Value → Option Value → Pt → Prop} {PostX : Pt → Array Value → Addr → Pt → Prop} (hK : vx_Back l R p e below s args y 3 W9 Pre Post PostX)
    {g : JFrame} (hg : g.method = m) (hsize : g.locals.size = c.maxLocals) {argsL rest : List Value} (hlen : ∀ sig, parseMethodDescriptor y.desc = some sig → argsL.length = sig.parameters.length)
    (hstack : g.stack = argsL.reverse ++ rest) (hW : 2 * g.monitorRoom + (rest.map fun v => v.category).sum ≤ W9) (hdg : decode c.code g.pc = .ok (.invokestatic index, 3))
    (hpre : ∀ vm₁, s.WarmedH vm₁ → Pre ⟨T.setVm vm₁, locs, cells, slots⟩ argsL.toArray) :
    (∃ (v : Option Value) (vm₁ : Vm) (B : Pt), s.WarmedH vm₁ ∧ Stand p l e R s m args below meth c B.U B.locs B.cells B.slots ∧ Post ⟨T.setVm vm₁, locs, cells, slots⟩ argsL.toArray v B ∧
      ∀ target, Steps p.tables e below (B.U.setTop { g with pc := g.pc + 3, stack := v.toList ++ rest }) target → Steps p.tables e below (T.setTop g) target) ∨
    (∃ (q : Addr) (vm₁ : Vm) (B : Pt), s.WarmedH vm₁ ∧ Stand p l e R s m args below meth c B.U B.locs B.cells B.slots ∧ PostX ⟨T.setVm vm₁, locs, cells, slots⟩ argsL.toArray q B ∧
      Steps p.tables e below (T.setTop g) ((B.U.setTop { g with stack := rest }).pushFrame (.throwing q))) := by
  obtain ⟨mk, hnamed⟩ := Cond.code_named hcode
  obtain ⟨methM, cM, hmethM, -, -, -, -, -, -, hsigM⟩ := Cond.code_spec hnamed hcode
  have hstatic : methM.isStatic = true := Cond.static_spec hnamed hmethM hstat
  obtain ⟨kP, hkP, -⟩ := className_of_methodNamed hnamed
  have hinitP : kP.init = .initialized := Cond.initialized_spec (findClass_of_methodNamed hnamed) hkP hinit
  obtain ⟨vm₁, X₁, hstep₁⟩ := X.invokestatic hexec hown hlink hnamed hmethM hstatic hkP hinitP hy (g := g) hg (argsL := argsL) (rest := rest) (hlen _ hsigM) hstack hdg
  rcases hK m meth c ⟨T.setVm vm₁, locs, cells, slots⟩ { g with stack := rest } (.invokestatic index) mk argsL.toArray X₁ hg hsize hdg hW (X₁.named hnamed) (hpre vm₁ X₁.warmed) with ⟨v, B, X', hpost, hsteps⟩ | ⟨q, B, X', hpost, hsteps⟩
  · exact Or.inl ⟨v, vm₁, B, X₁.warmed, X', hpost, fun target h => hstep₁ _ fun acts => by rw [doInvoke_state]; exact hsteps.trans h⟩
  · exact Or.inr ⟨q, vm₁, B, X₁.warmed, X', hpost, hstep₁ _ fun acts => by rw [doInvoke_state]; exact hsteps⟩
end Calls
theorem vx_cls {s : State} {T : State} {vm₁ : Vm} {E : String} {k : ClassId} (hW : s.WarmedH vm₁) (h : (T.setVm vm₁).vm.findClass E = some k) : s.vm.findClass E = some k := by
  have h1 : vm₁.findClass E = some k := h
  rw [hW.alike.findClass] at h1
  exact h1
/-- the method's frame g, with q thrown over it -/
def vx_W (p : Program) (l : Launch) (e : Env) (R : Room) (s : State) (m : MethodId) (args : Array Value) (below : List Frame) (meth : Method) (c : Code) (H : Heap) (locs : List Loc) (cells slots : Nat) (Q : State → Prop) (g : JFrame) (q : Addr) : Prop :=
  ∀ T : State, T.heap = H → Stand p l e R s m args below meth c T locs cells slots → ∃ t, Steps p.tables e below ((T.setTop g).pushFrame (.throwing q)) t ∧ Q t
def vx_Run (p : Program) (l : Launch) (e : Env) (R : Room) (s : State) (m : MethodId) (args : Array Value) (below : List Frame) (meth : Method) (c : Code) (H : Heap) (locs : List Loc) (cells slots mc ms : Nat) (g : JFrame) (rest : List Value) (Qa : State → Outcome → State → Prop) (XC : String → State → State → Prop) (free : Addr → Prop) : Prop :=
  ∀ T : State, T.heap = H → Stand p l e R s m args below meth c T locs cells slots →
    (∃ (v : Option Value) (st₀ t T' : State) (L : List Loc), st₀.heap = H ∧ Stand p l e R s m args below meth c T' (locs ++ L) (cells + mc) (slots + ms) ∧ (∀ q ∈ L, free q.base) ∧ T'.heap = t.heap ∧ T'.vm = t.vm ∧ Qa st₀ (.returned v) t ∧
      Goes p e below T g T' { g with pc := g.pc + 3, stack := v.toList ++ rest }) ∨
    (∃ (q : Addr) (st₀ t T' : State) (L : List Loc) (E : String) (ce : Cell), st₀.heap = H ∧ Stand p l e R s m args below meth c T' (locs ++ L) (cells + mc) (slots + ms) ∧ (∀ z ∈ L, free z.base) ∧ T'.heap = t.heap ∧ T'.vm = t.vm ∧ XC E st₀ t ∧ t.heap[q]? = some ce ∧ ce.vm = .none ∧ s.vm.findClass E = some ce.cls ∧
      Steps p.tables e below (T.setTop g) ((T'.setTop { g with stack := rest }).pushFrame (.throwing q)))
def vx_X {S : Type} (px : S → Prop) (B : String → S → State → Prop) (A : Nat → Prop) : String → State → State → Prop := fun E st t => ∃ u : S, px u ∧ B E u t ∧ va_F A st t
section Runs
variable {p : Program} {l : Launch} {e : Env} {R : Room} {s : State} {m : MethodId} {args : Array Value} {below : List Frame} {meth : Method} {c : Code} {H : Heap} {locs : List Loc} {cells slots : Nat}
variable {y : MethodName} {bytes cc : ByteArray} {maxL nL mc ms n index : Nat} {ret : Option FieldType} {ws : List Cond} {rm : Room} {Pc : Array Value → State → Prop} {Qc : Array Value → State → Outcome → State → Prop} {XC : String → State → State → Prop} {free : Addr → Prop} {Ts : List Cond} {own C : String} {b : Addr} {As rest : List Value} {g : JFrame}
theorem vx_callBack (cb : CallB R s args own index y bytes maxL ret ws rm mc ms n) (hM : vx_Met l y ws rm Pc Qc XC mc ms free) (hbl : FrameBlind Pc) : vx_Back l R p e below s args y 3 8 (PreOf R mc ms Pc) (PostOf Qc mc ms free) (vx_Post XC mc ms free) := by
  obtain ⟨hrc, hrs, hfr, hlo, hws, hcw, -, hini, -⟩ := cb
  exact vx_back (bytes := bytes) (maxL := maxL) (ret := ret) hM hbl hrc hrs hfr hlo hws hcw (fun a' U hW => word_at hW (Or.inl (by first | rfl | simp [Cond.onTables, Cond.keeps, Cond.steady])) hini)
theorem vx_runV (S : CallFix p m c cc nL s args Ts own) (hM : vx_Met l y ws rm Pc Qc XC mc ms free) (cw : CallW R s args own C index y bytes maxL ret ws rm mc ms n) (hp : PreV s H C b Pc As)
    (hg : g.method = m) (hn : As.length = n) (hsize : g.locals.size = nL) (hstack : g.stack = As.reverse ++ .ref b :: rest) (hW : 2 * g.monitorRoom + (rest.map fun v => v.category).sum ≤ 8) (hdg : decode cc g.pc = .ok (.invokevirtual index, 3)) (hf : cells + mc ≤ R.cells ∧ slots + ms ≤ R.slots) :
    vx_Run p l e R s m args below meth c H locs cells slots mc ms g rest (Qc (Value.ref b :: As).toArray) XC free := by
  have hK : vx_Back l R p e below s args y 3 8 (PreOf R mc ms Pc) (PostOf Qc mc ms free) (vx_Post XC mc ms free) := vx_callBack cw.1 hM hp.1
  obtain ⟨⟨-, -, -, -, -, -, hcode, -, hy, hlen, hl⟩, hin, hse⟩ := cw
  obtain ⟨hx, hb, hml, ho, -⟩ := S
  obtain ⟨-, ⟨cellB, hcB, hoB, hclB⟩, hPc⟩ := hp
  intro T hT X
  rcases vx_callV X hx (C := C) (bytes := bytes) (maxL := maxL) (ret := ret) ho hl hin hse hcode hy hK (by rw [hT]; exact hcB) hoB hclB hg (hsize.trans hml.symm) (argsL := As) (rest := rest) (fun sig h => hn.trans (hlen sig h)) hstack hW (by rw [hb]; exact hdg)
    (fun vm₁ hW₁ => ⟨hf.1, hf.2, hPc (T.setVm vm₁) hT hW₁⟩) with ⟨v, vm₁, ⟨U', l2, c2, s2⟩, hW₁, X', ⟨g', mk, t, L, e1, e2, hq, h1, hL, h2, h3⟩, st⟩ | ⟨q, vm₁, ⟨U', l2, c2, s2⟩, hW₁, X', ⟨g', mk, t, L, E, ce, e1, e2, hq, hce, hcv, hcl, h1, hL, h2, h3⟩, st⟩
  · dsimp only [Pt.U, Pt.locs, Pt.cells, Pt.slots] at X' e1 e2 h1 h2 h3 st
    subst h1; subst h2; subst h3
    exact Or.inl ⟨v, (T.setVm vm₁).calling g' mk (Value.ref b :: As).toArray, t, U', L, hT, X', hL, e1, e2, hq, st⟩
  · dsimp only [Pt.U, Pt.locs, Pt.cells, Pt.slots] at X' e1 e2 h1 h2 h3 st hcl
    subst h1; subst h2; subst h3
    exact Or.inr ⟨q, (T.setVm vm₁).calling g' mk (Value.ref b :: As).toArray, t, U', L, E, ce, hT, X', hL, e1, e2, hq, hce, hcv, vx_cls hW₁ hcl, st⟩
theorem vx_runS (S : CallFix p m c cc nL s args Ts own) (hM : vx_Met l y ws rm Pc Qc XC mc ms free) (cw : CallB R s args own index y bytes maxL ret ws rm mc ms n ∧ (Cond.static y).before args s = true) (hp : PreS s H Pc As)
    (hg : g.method = m) (hn : As.length = n) (hsize : g.locals.size = nL) (hstack : g.stack = As.reverse ++ rest) (hW : 2 * g.monitorRoom + (rest.map fun v => v.category).sum ≤ 8) (hdg : decode cc g.pc = .ok (.invokestatic index, 3)) (hf : cells + mc ≤ R.cells ∧ slots + ms ≤ R.slots) :
    vx_Run p l e R s m args below meth c H locs cells slots mc ms g rest (Qc As.toArray) XC free := by
  have hK : vx_Back l R p e below s args y 3 8 (PreOf R mc ms Pc) (PostOf Qc mc ms free) (vx_Post XC mc ms free) := vx_callBack cw.1 hM hp.1
  obtain ⟨⟨-, -, -, -, -, -, hcode, hini, hy, hlen, hl⟩, hstt⟩ := cw
  obtain ⟨hx, hb, hml, ho, -⟩ := S
  intro T hT X
  rcases vx_callS X hx (bytes := bytes) (maxL := maxL) (ret := ret) ho hl hstt hini hcode hy hK hg (hsize.trans hml.symm) (argsL := As) (rest := rest) (fun sig h => hn.trans (hlen sig h)) hstack hW (by rw [hb]; exact hdg)
    (fun vm₁ hW₁ => ⟨hf.1, hf.2, hp.2 (T.setVm vm₁) hT hW₁⟩) with ⟨v, vm₁, ⟨U', l2, c2, s2⟩, hW₁, X', ⟨g', mk, t, L, e1, e2, hq, h1, hL, h2, h3⟩, st⟩ | ⟨q, vm₁, ⟨U', l2, c2, s2⟩, hW₁, X', ⟨g', mk, t, L, E, ce, e1, e2, hq, hce, hcv, hcl, h1, hL, h2, h3⟩, st⟩
  · dsimp only [Pt.U, Pt.locs, Pt.cells, Pt.slots] at X' e1 e2 h1 h2 h3 st
    subst h1; subst h2; subst h3
    exact Or.inl ⟨v, (T.setVm vm₁).calling g' mk As.toArray, t, U', L, hT, X', hL, e1, e2, hq, st⟩
  · dsimp only [Pt.U, Pt.locs, Pt.cells, Pt.slots] at X' e1 e2 h1 h2 h3 st hcl
    subst h1; subst h2; subst h3
    exact Or.inr ⟨q, (T.setVm vm₁).calling g' mk As.toArray, t, U', L, E, ce, hT, X', hL, e1, e2, hq, hce, hcv, vx_cls hW₁ hcl, st⟩
end Runs
section Rows
variable {p : Program} {l : Launch} {e : Env} {R : Room} {s : State} {m : MethodId} {args : Array Value} {below : List Frame} {meth : Method} {c : Code} {H : Heap} {locs : List Loc} {cells slots : Nat} {Q : State → Prop}
variable {mc ms : Nat} {free : Addr → Prop} {A0 A1 : Nat → Prop} {H0 : Heap} {a : Array Value} {pc : Nat} {ls : Array Slot} {st0 rest : List Value}
theorem vx_keep {st₀ t T' : State} {L : List Loc} (h0 : st₀.heap = H) (e1 : T'.heap = t.heap) (hS : va_S A0 H0 H locs) (hA : ∀ q, q < H.size → A1 q → A0 q) (hf : ∀ q, free q → A0 q) (hL : ∀ q ∈ L, free q.base) (hF : va_F A1 st₀ t) :
    H.size ≤ T'.heap.size ∧ (∀ q : Nat, q < H.size → ¬ A1 q → T'.heap[q]? = H[q]?) ∧ va_S A0 H0 T'.heap (locs ++ L) := by
  obtain ⟨hz, hk⟩ := hF
  rw [h0] at hz hk
  exact ⟨by rw [e1]; exact hz, fun q h1 h2 => by rw [e1]; exact hk q h1 h2,
    ⟨Nat.le_trans hS.1 (by rw [e1]; exact hz), fun q h1 h2 => by rw [e1, hk q (Nat.lt_of_lt_of_le h1 hS.1) (fun z => h2 (hA q (Nat.lt_of_lt_of_le h1 hS.1) z))]; exact hS.2.1 q h1 h2, fun q hq => by
      rcases List.mem_append.mp hq with h | h
      · exact hS.2.2 q h
      · exact hf _ (hL q h)⟩⟩
theorem vx_calli {S SX : Type} {post : Int32 → S → Prop} {px : SX → Prop} {B : S → State → Prop} {BX : String → SX → State → Prop} {AX : Nat → Prop} (hr : vx_Run p l e R s m args below meth c H locs cells slots mc ms (F0 m pc ls st0) rest (va_Qi post B A1 a) (vx_X px BX AX) free) (hS : va_S A0 H0 H locs) (hA : ∀ q, q < H.size → A1 q → A0 q) (hf : ∀ q, free q → A0 q) (hAX : ∀ q, q < H.size → AX q → A0 q)
    (kx : ∀ (E : String) (ce : Cell) (q9 : Addr) (u : SX) (t : State) (H1 : Heap) (locs1 : List Loc), t.heap = H1 → s.vm.Alike t.vm → px u → BX E u t → H.size ≤ H1.size → (∀ q : Nat, q < H.size → ¬ AX q → H1[q]? = H[q]?) → va_S A0 H0 H1 locs1 → H1[q9]? = some ce → ce.vm = .none → s.vm.findClass E = some ce.cls → vx_W p l e R s m args below meth c H1 locs1 (cells + mc) (slots + ms) Q (F0 m pc ls rest) q9)
    (kk : ∀ (r : Int32) (u : S) (t : State) (H1 : Heap) (locs1 : List Loc), t.heap = H1 → s.vm.Alike t.vm → post r u → B u t → H.size ≤ H1.size → (∀ q : Nat, q < H.size → ¬ A1 q → H1[q]? = H[q]?) → va_S A0 H0 H1 locs1 → W p l e R s m args below meth c H1 locs1 (cells + mc) (slots + ms) Q (F0 m (pc + 3) ls (.int r :: rest))) : W p l e R s m args below meth c H locs cells slots Q (F0 m pc ls st0) := by
  intro T hT X
  rcases hr T hT X with ⟨v, st₀, t, T', L, h0, X', hL, e1, e2, ⟨⟨r, u, hv, hp, hb⟩, hF⟩, st⟩ | ⟨q, st₀, t, T', L, E, ce, h0, X', hL, e1, e2, ⟨u, hp, hb, hF⟩, hce, hcv, hcl, st⟩
  · cases hv
    obtain ⟨k1, k2, k3⟩ := vx_keep h0 e1 hS hA hf hL hF
    obtain ⟨t2, a1, b1⟩ := kk r u t T'.heap (locs ++ L) e1.symm (by rw [← e2]; exact X'.warmed.alike) hp hb k1 k2 k3 T' rfl X'
    exact ⟨t2, st t2 a1, b1⟩
  · obtain ⟨k1, k2, k3⟩ := vx_keep h0 e1 hS hAX hf hL hF
    obtain ⟨t2, a1, b1⟩ := kx E ce q u t T'.heap (locs ++ L) e1.symm (by rw [← e2]; exact X'.warmed.alike) hp hb k1 k2 k3 (by rw [e1]; exact hce) hcv hcl T' rfl X'
    exact ⟨t2, st.trans a1, b1⟩
theorem vx_calll {S SX : Type} {post : Int64 → S → Prop} {px : SX → Prop} {B : S → State → Prop} {BX : String → SX → State → Prop} {AX : Nat → Prop} (hr : vx_Run p l e R s m args below meth c H locs cells slots mc ms (F0 m pc ls st0) rest (va_Ql post B A1 a) (vx_X px BX AX) free) (hS : va_S A0 H0 H locs) (hA : ∀ q, q < H.size → A1 q → A0 q) (hf : ∀ q, free q → A0 q) (hAX : ∀ q, q < H.size → AX q → A0 q)
    (kx : ∀ (E : String) (ce : Cell) (q9 : Addr) (u : SX) (t : State) (H1 : Heap) (locs1 : List Loc), t.heap = H1 → s.vm.Alike t.vm → px u → BX E u t → H.size ≤ H1.size → (∀ q : Nat, q < H.size → ¬ AX q → H1[q]? = H[q]?) → va_S A0 H0 H1 locs1 → H1[q9]? = some ce → ce.vm = .none → s.vm.findClass E = some ce.cls → vx_W p l e R s m args below meth c H1 locs1 (cells + mc) (slots + ms) Q (F0 m pc ls rest) q9)
    (kk : ∀ (r : Int64) (u : S) (t : State) (H1 : Heap) (locs1 : List Loc), t.heap = H1 → s.vm.Alike t.vm → post r u → B u t → H.size ≤ H1.size → (∀ q : Nat, q < H.size → ¬ A1 q → H1[q]? = H[q]?) → va_S A0 H0 H1 locs1 → W p l e R s m args below meth c H1 locs1 (cells + mc) (slots + ms) Q (F0 m (pc + 3) ls (.long r :: rest))) : W p l e R s m args below meth c H locs cells slots Q (F0 m pc ls st0) := by
  intro T hT X
  rcases hr T hT X with ⟨v, st₀, t, T', L, h0, X', hL, e1, e2, ⟨⟨r, u, hv, hp, hb⟩, hF⟩, st⟩ | ⟨q, st₀, t, T', L, E, ce, h0, X', hL, e1, e2, ⟨u, hp, hb, hF⟩, hce, hcv, hcl, st⟩
  · cases hv
    obtain ⟨k1, k2, k3⟩ := vx_keep h0 e1 hS hA hf hL hF
    obtain ⟨t2, a1, b1⟩ := kk r u t T'.heap (locs ++ L) e1.symm (by rw [← e2]; exact X'.warmed.alike) hp hb k1 k2 k3 T' rfl X'
    exact ⟨t2, st t2 a1, b1⟩
  · obtain ⟨k1, k2, k3⟩ := vx_keep h0 e1 hS hAX hf hL hF
    obtain ⟨t2, a1, b1⟩ := kx E ce q u t T'.heap (locs ++ L) e1.symm (by rw [← e2]; exact X'.warmed.alike) hp hb k1 k2 k3 (by rw [e1]; exact hce) hcv hcl T' rfl X'
    exact ⟨t2, st.trans a1, b1⟩
theorem vx_callf {S SX : Type} {post : UInt32 → S → Prop} {px : SX → Prop} {B : S → State → Prop} {BX : String → SX → State → Prop} {AX : Nat → Prop} (hr : vx_Run p l e R s m args below meth c H locs cells slots mc ms (F0 m pc ls st0) rest (va_Qf post B A1 a) (vx_X px BX AX) free) (hS : va_S A0 H0 H locs) (hA : ∀ q, q < H.size → A1 q → A0 q) (hf : ∀ q, free q → A0 q) (hAX : ∀ q, q < H.size → AX q → A0 q)
    (kx : ∀ (E : String) (ce : Cell) (q9 : Addr) (u : SX) (t : State) (H1 : Heap) (locs1 : List Loc), t.heap = H1 → s.vm.Alike t.vm → px u → BX E u t → H.size ≤ H1.size → (∀ q : Nat, q < H.size → ¬ AX q → H1[q]? = H[q]?) → va_S A0 H0 H1 locs1 → H1[q9]? = some ce → ce.vm = .none → s.vm.findClass E = some ce.cls → vx_W p l e R s m args below meth c H1 locs1 (cells + mc) (slots + ms) Q (F0 m pc ls rest) q9)
    (kk : ∀ (r : UInt32) (u : S) (t : State) (H1 : Heap) (locs1 : List Loc), t.heap = H1 → s.vm.Alike t.vm → post r u → B u t → H.size ≤ H1.size → (∀ q : Nat, q < H.size → ¬ A1 q → H1[q]? = H[q]?) → va_S A0 H0 H1 locs1 → W p l e R s m args below meth c H1 locs1 (cells + mc) (slots + ms) Q (F0 m (pc + 3) ls (.float r :: rest))) : W p l e R s m args below meth c H locs cells slots Q (F0 m pc ls st0) := by
  intro T hT X
  rcases hr T hT X with ⟨v, st₀, t, T', L, h0, X', hL, e1, e2, ⟨⟨r, u, hv, hp, hb⟩, hF⟩, st⟩ | ⟨q, st₀, t, T', L, E, ce, h0, X', hL, e1, e2, ⟨u, hp, hb, hF⟩, hce, hcv, hcl, st⟩
  · cases hv
    obtain ⟨k1, k2, k3⟩ := vx_keep h0 e1 hS hA hf hL hF
    obtain ⟨t2, a1, b1⟩ := kk r u t T'.heap (locs ++ L) e1.symm (by rw [← e2]; exact X'.warmed.alike) hp hb k1 k2 k3 T' rfl X'
    exact ⟨t2, st t2 a1, b1⟩
  · obtain ⟨k1, k2, k3⟩ := vx_keep h0 e1 hS hAX hf hL hF
    obtain ⟨t2, a1, b1⟩ := kx E ce q u t T'.heap (locs ++ L) e1.symm (by rw [← e2]; exact X'.warmed.alike) hp hb k1 k2 k3 (by rw [e1]; exact hce) hcv hcl T' rfl X'
    exact ⟨t2, st.trans a1, b1⟩
theorem vx_calld {S SX : Type} {post : UInt64 → S → Prop} {px : SX → Prop} {B : S → State → Prop} {BX : String → SX → State → Prop} {AX : Nat → Prop} (hr : vx_Run p l e R s m args below meth c H locs cells slots mc ms (F0 m pc ls st0) rest (va_Qd post B A1 a) (vx_X px BX AX) free) (hS : va_S A0 H0 H locs) (hA : ∀ q, q < H.size → A1 q → A0 q) (hf : ∀ q, free q → A0 q) (hAX : ∀ q, q < H.size → AX q → A0 q)
    (kx : ∀ (E : String) (ce : Cell) (q9 : Addr) (u : SX) (t : State) (H1 : Heap) (locs1 : List Loc), t.heap = H1 → s.vm.Alike t.vm → px u → BX E u t → H.size ≤ H1.size → (∀ q : Nat, q < H.size → ¬ AX q → H1[q]? = H[q]?) → va_S A0 H0 H1 locs1 → H1[q9]? = some ce → ce.vm = .none → s.vm.findClass E = some ce.cls → vx_W p l e R s m args below meth c H1 locs1 (cells + mc) (slots + ms) Q (F0 m pc ls rest) q9)
    (kk : ∀ (r : UInt64) (u : S) (t : State) (H1 : Heap) (locs1 : List Loc), t.heap = H1 → s.vm.Alike t.vm → post r u → B u t → H.size ≤ H1.size → (∀ q : Nat, q < H.size → ¬ A1 q → H1[q]? = H[q]?) → va_S A0 H0 H1 locs1 → W p l e R s m args below meth c H1 locs1 (cells + mc) (slots + ms) Q (F0 m (pc + 3) ls (.double r :: rest))) : W p l e R s m args below meth c H locs cells slots Q (F0 m pc ls st0) := by
  intro T hT X
  rcases hr T hT X with ⟨v, st₀, t, T', L, h0, X', hL, e1, e2, ⟨⟨r, u, hv, hp, hb⟩, hF⟩, st⟩ | ⟨q, st₀, t, T', L, E, ce, h0, X', hL, e1, e2, ⟨u, hp, hb, hF⟩, hce, hcv, hcl, st⟩
  · cases hv
    obtain ⟨k1, k2, k3⟩ := vx_keep h0 e1 hS hA hf hL hF
    obtain ⟨t2, a1, b1⟩ := kk r u t T'.heap (locs ++ L) e1.symm (by rw [← e2]; exact X'.warmed.alike) hp hb k1 k2 k3 T' rfl X'
    exact ⟨t2, st t2 a1, b1⟩
  · obtain ⟨k1, k2, k3⟩ := vx_keep h0 e1 hS hAX hf hL hF
    obtain ⟨t2, a1, b1⟩ := kx E ce q u t T'.heap (locs ++ L) e1.symm (by rw [← e2]; exact X'.warmed.alike) hp hb k1 k2 k3 (by rw [e1]; exact hce) hcv hcl T' rfl X'
    exact ⟨t2, st.trans a1, b1⟩
theorem vx_callv {S SX : Type} {post : S → Prop} {px : SX → Prop} {B : S → State → Prop} {BX : String → SX → State → Prop} {AX : Nat → Prop} (hr : vx_Run p l e R s m args below meth c H locs cells slots mc ms (F0 m pc ls st0) rest (va_Qv post B A1 a) (vx_X px BX AX) free) (hS : va_S A0 H0 H locs) (hA : ∀ q, q < H.size → A1 q → A0 q) (hf : ∀ q, free q → A0 q) (hAX : ∀ q, q < H.size → AX q → A0 q)
    (kx : ∀ (E : String) (ce : Cell) (q9 : Addr) (u : SX) (t : State) (H1 : Heap) (locs1 : List Loc), t.heap = H1 → s.vm.Alike t.vm → px u → BX E u t → H.size ≤ H1.size → (∀ q : Nat, q < H.size → ¬ AX q → H1[q]? = H[q]?) → va_S A0 H0 H1 locs1 → H1[q9]? = some ce → ce.vm = .none → s.vm.findClass E = some ce.cls → vx_W p l e R s m args below meth c H1 locs1 (cells + mc) (slots + ms) Q (F0 m pc ls rest) q9)
    (kk : ∀ (u : S) (t : State) (H1 : Heap) (locs1 : List Loc), t.heap = H1 → s.vm.Alike t.vm → post u → B u t → H.size ≤ H1.size → (∀ q : Nat, q < H.size → ¬ A1 q → H1[q]? = H[q]?) → va_S A0 H0 H1 locs1 → W p l e R s m args below meth c H1 locs1 (cells + mc) (slots + ms) Q (F0 m (pc + 3) ls (rest))) : W p l e R s m args below meth c H locs cells slots Q (F0 m pc ls st0) := by
  intro T hT X
  rcases hr T hT X with ⟨v, st₀, t, T', L, h0, X', hL, e1, e2, ⟨⟨u, hv, hp, hb⟩, hF⟩, st⟩ | ⟨q, st₀, t, T', L, E, ce, h0, X', hL, e1, e2, ⟨u, hp, hb, hF⟩, hce, hcv, hcl, st⟩
  · cases hv
    obtain ⟨k1, k2, k3⟩ := vx_keep h0 e1 hS hA hf hL hF
    obtain ⟨t2, a1, b1⟩ := kk u t T'.heap (locs ++ L) e1.symm (by rw [← e2]; exact X'.warmed.alike) hp hb k1 k2 k3 T' rfl X'
    exact ⟨t2, st t2 a1, b1⟩
  · obtain ⟨k1, k2, k3⟩ := vx_keep h0 e1 hS hAX hf hL hF
    obtain ⟨t2, a1, b1⟩ := kx E ce q u t T'.heap (locs ++ L) e1.symm (by rw [← e2]; exact X'.warmed.alike) hp hb k1 k2 k3 (by rw [e1]; exact hce) hcv hcl T' rfl X'
    exact ⟨t2, st.trans a1, b1⟩
/-- caught by the row x of this method's table; the rows ahead don't take it -/
theorem vx_catch {own name : String} {E : String} {ce : Cell} {q : Addr} (hown : s.vm.findClass own = some m.cls) (pre : List ExceptionTableEntry) (x : ExceptionTableEntry) (suf : List ExceptionTableEntry) (hsplit : c.exceptionTable.toList = pre ++ x :: suf)
    (hpass : ∀ z ∈ pre, covers z pc = false ∨ (z.catchType ≠ 0 ∧ ∃ nm : String, (Cond.classLink own z.catchType nm).before args s = true ∧ va_Nc E nm s)) (hx : covers x pc = true) (h0 : x.catchType ≠ 0)
    (hlink : (Cond.classLink own x.catchType name).before args s = true) (hcast : (Cond.castable E name).before args s = true) (hcell : H[q]? = some ce) (hv : ce.vm = .none) (hcl : s.vm.findClass E = some ce.cls)
    (kk : W p l e R s m args below meth c H locs cells slots Q (F0 m x.handlerPc ls [.ref q])) : vx_W p l e R s m args below meth c H locs cells slots Q (F0 m pc ls rest) q := by
  intro T hT X
  have hpl : e.platform.magicAccessors = ({} : Platform).magicAccessors := by rw [X.admits.platform]
  obtain ⟨c3, c4, hc3, hc4, hasg⟩ := Cond.castable_spec hcast
  cases Option.some.inj (hc3.symm.trans hcl)
  obtain ⟨c5, hc5, hcl5⟩ := Cond.classLink_spec hown hlink e.platform hpl
  cases Option.some.inj (hc4.symm.trans hc5)
  obtain ⟨vm', X', st⟩ := X.thenCaughtThrough q (g := F0 m pc ls rest) rfl (Steps.refl _) (by rw [hT]; exact hcell) (by rw [hv]; rfl) (by obtain ⟨k9, h9, -⟩ := Vm.findClass_spec hcl; exact ⟨k9, h9⟩) pre x suf hsplit
    (fun z hz => by
      rcases hpass z hz with h | ⟨hz0, nm, hl1, hn1⟩
      · exact Or.inl h
      · obtain ⟨c6, hc6, hcl6⟩ := Cond.classLink_spec hown hl1 e.platform hpl
        obtain ⟨a8, b8, h1, h2, h3⟩ := hn1
        cases Option.some.inj (h1.symm.trans hcl)
        cases Option.some.inj (h2.symm.trans hc6)
        exact Or.inr ⟨hz0, _, hcl6, h3⟩) hx (Or.inr ⟨h0, c4, hcl5, hasg⟩)
  obtain ⟨t, a1, b1⟩ := kk (T.setVm vm') hT X'
  exact ⟨t, st.trans a1, b1⟩
end Rows
section Ends
variable {p : Program} {l : Launch} {e : Env} {R : Room} {s : State} {m : MethodId} {args : Array Value} {below : List Frame} {meth : Method} {c : Code} {H : Heap} {locs : List Loc} {cells slots : Nat} {Q : State → Prop}
variable {mc ms : Nat} {free : Addr → Prop} {A0 A1 : Nat → Prop} {H0 : Heap} {a : Array Value} {ls : Array Slot} {st0 rest : List Value}
variable {Qc : Array Value → State → Outcome → State → Prop} {XC : String → State → State → Prop}
/-- what a body that may throw owes at its end -/
def vx_MQ (below : List Frame) (Qc : Array Value → State → Outcome → State → Prop) (XC : String → State → State → Prop) (a : Array Value) (s : State) (mc ms : Nat) (free : Addr → Prop) : State → Prop := fun t =>
  ∃ o, t.status = .running ∧ Ended t below o ∧ vx_Q Qc XC mc ms free a s o t
theorem vx_ret {g : JFrame} {mc ms : Nat} (k : W p l e R s m args below meth c H locs cells slots (MQ below Qc args s mc ms free) g) : W p l e R s m args below meth c H locs cells slots (vx_MQ below Qc XC args s mc ms free) g := by
  intro T hT X
  obtain ⟨t, a1, o, b1, b2, b3, b4⟩ := k T hT X
  exact ⟨t, a1, o, b1, b2, Or.inl ⟨b3, b4⟩⟩
/-- not caught here: it goes on to the caller -/
theorem vx_widen {g : JFrame} {q : Addr} {k n : Nat} (h1 : cells ≤ k) (h2 : slots ≤ n) (kk : vx_W p l e R s m args below meth c H locs k n Q g q) : vx_W p l e R s m args below meth c H locs cells slots Q g q := fun T hT X => kk T hT (stand_widen X h1 h2)
theorem vx_out {pc : Nat} {E : String} {ce : Cell} {q : Addr} {mc ms : Nat} (hout : ∀ x ∈ c.exceptionTable.toList, covers x pc = false) (hlocks : meth.locks = false) (hcell : H[q]? = some ce) (hv : ce.vm = .none) (hcl : s.vm.findClass E = some ce.cls)
    (hx : ∀ t : State, t.heap = H → s.vm.Alike t.vm → XC E s t) (hf : ∀ z ∈ locs, free z.base) (hc : cells ≤ mc) (hs : slots ≤ ms) :
    vx_W p l e R s m args below meth c H locs cells slots (vx_MQ below Qc XC args s mc ms free) (F0 m pc ls rest) q := by
  intro T hT X
  obtain ⟨st1, hrun, hend, hW, hsm⟩ := X.leaveThrown q (g := F0 m pc ls rest) rfl rfl rfl hout hlocks
  have hcell9 : (T.setFrames (.throwing q :: below)).heap[q]? = some ce := by
    show T.heap[q]? = some ce
    rw [hT]; exact hcell
  exact ⟨_, st1, .threw q, hrun, hend, Or.inr ⟨q, rfl, E, ce, locs, hx _ hT hW.alike, hcell9, hv, hcl, hW, hsm.mono hc hs, hf⟩⟩
theorem vx_frame {U : State} {k n : Nat} (h : s.sameButNew ({ U with vm := s.vm } : State) locs k n) : s.heap.size ≤ U.heap.size ∧ ∀ q : Nat, q < s.heap.size → (∀ z ∈ locs, z.base ≠ q) → U.heap[q]? = s.heap[q]? := by
  obtain ⟨-, h2, -, -, -, h6⟩ := h
  refine ⟨h2, fun q hq hz => ?_⟩
  obtain ⟨c9, e1, e2, e3, e4⟩ := h6 q _ (Array.getElem?_eq_getElem hq)
  have hs : c9.slots = (s.heap[q]).slots := Array.ext_getElem? fun i => e4 i fun hm => hz _ hm rfl
  have h9 : c9 = s.heap[q] := by
    rw [hs] at e2
    exact e2
  have e5 : U.heap[q]? = some c9 := e1
  rw [e5, h9, Array.getElem?_eq_getElem hq]
/-- the words of a throw but the four that speak of the heap -/
def vx_no (w : Cond) : Bool := decide (w ≠ .isRef (.static Bundle.tN "UNASSIGNED_STACK" Bundle.steD)) && decide (w ≠ .isRef (.static Bundle.tN "SUPPRESSED_SENTINEL" Bundle.listD)) && decide (w ≠ .laysStatic Bundle.tN "UNASSIGNED_STACK" Bundle.steD) && decide (w ≠ .laysStatic Bundle.tN "SUPPRESSED_SENTINEL" Bundle.listD)
def vx_at0 (own : String) (ic : Nat) (X : String) (names : List String) : List Cond := (Bundle.ownAtoms0 own ic X names).filter vx_no
def vx_atS (own : String) (ic : Nat) (X : String) (names : List String) : List Cond := (Bundle.ownAtoms own ic X names).filter vx_no
/-- a word that the tables alone decide, or a good one -/
def vx_ot (w : Cond) : Bool := w.onTables || goodWord w
theorem vx_ot_at {args a' : Array Value} {s U : State} {w : Cond} (hW : s.WarmedH U.vm) (hvm : s.vm = U.vm) (hg : vx_ot w = true) (h : w.before args s = true) : w.before a' U = true := by
  simp only [vx_ot, Bool.or_eq_true] at hg
  rcases hg with hg | hg
  · exact va_tabs hg hvm h
  · exact word_at hW (good_of_word hg) h
/-- a list's words: the good ones out of the method's own list, the others by premises of their own -/
theorem vx_hat {args : Array Value} {s : State} {L B : List Cond} (h1 : ∀ w ∈ L.filter goodWord, w.before args s = true) (h2 : ∀ w ∈ L.filter (fun w => !goodWord w), w ∈ B) (h3 : ∀ w ∈ B, w.before args s = true) : ∀ w ∈ L, w.before args s = true := by
  intro w hw
  by_cases g : goodWord w = true
  · exact h1 w (List.mem_filter.mpr ⟨hw, g⟩)
  · refine h3 w (h2 w (List.mem_filter.mpr ⟨hw, ?_⟩))
    show (!goodWord w) = true
    cases hgw : goodWord w
    · rfl
    · exact absurd hgw g
theorem vx_c {args : Array Value} {s : State} {w : Cond} {B : List Cond} (h : w.before args s = true) (t : ∀ w ∈ B, w.before args s = true) : ∀ w' ∈ w :: B, w'.before args s = true := fun w' h' => (List.mem_cons.mp h').elim (fun e => by rw [e]; exact h) (t w')
theorem vx_n {args : Array Value} {s : State} : ∀ w ∈ ([] : List Cond), w.before args s = true := fun _ h => nomatch h
theorem vx_own {args : Array Value} {s : State} {L : List Cond} (h1 : ∀ w ∈ L.filter vx_no, w.before args s = true)
    (hU : (Cond.isRef (.static Bundle.tN "UNASSIGNED_STACK" Bundle.steD)).before args s = true) (hN : (Cond.isRef (.static Bundle.tN "SUPPRESSED_SENTINEL" Bundle.listD)).before args s = true)
    (lU : (Cond.laysStatic Bundle.tN "UNASSIGNED_STACK" Bundle.steD).before args s = true) (lN : (Cond.laysStatic Bundle.tN "SUPPRESSED_SENTINEL" Bundle.listD).before args s = true) : ∀ w ∈ L, w.before args s = true := by
  intro w hw
  by_cases e1 : w = .isRef (.static Bundle.tN "UNASSIGNED_STACK" Bundle.steD)
  · rw [e1]; exact hU
  · by_cases e2 : w = .isRef (.static Bundle.tN "SUPPRESSED_SENTINEL" Bundle.listD)
    · rw [e2]; exact hN
    · by_cases e3 : w = .laysStatic Bundle.tN "UNASSIGNED_STACK" Bundle.steD
      · rw [e3]; exact lU
      · by_cases e4 : w = .laysStatic Bundle.tN "SUPPRESSED_SENTINEL" Bundle.listD
        · rw [e4]; exact lN
        · exact h1 w (List.mem_filter.mpr ⟨hw, by unfold vx_no; rw [decide_eq_true e1, decide_eq_true e2, decide_eq_true e3, decide_eq_true e4]; rfl⟩)
/-- where a static field lies, its class's statics cell in H -/
def vx_L (C n d : String) (A : Nat → Prop) (U : State) (H : Heap) : Prop := ∃ (c : ClassId) (k : Class) (i : Nat) (f : Field) (a : Nat) (cell : Cell), U.vm.findClass C = some c ∧ U.fieldFound? C n d = some (c, k, i, f) ∧ f.isStatic = true ∧ k.statics = some a ∧ H[a]? = some cell ∧ cell.vm.isStatics = true ∧ cell.cls = c ∧ f.slot < cell.slots.size ∧ k.staticTypes[f.slot]? = some f.type ∧ ¬ A a
theorem vx_L.moved {C n d : String} {A : Nat → Prop} {u U : State} {H : Heap} (hvm : u.vm.Alike U.vm) (h : vx_L C n d A u H) : vx_L C n d A U H := by
  obtain ⟨c, k, i, f, a, cell, h1, h2, h3, h4, h5, h6, h7, h8, h9, h10⟩ := h
  obtain ⟨k', hi', he⟩ := State.fieldFound?_setVm hvm h2
  exact ⟨c, k', i, f, a, cell, by rw [hvm.findClass]; exact h1, hi', h3, by rw [he]; exact h4, h5, h6, h7, h8, by rw [he]; exact h9, h10⟩
theorem vx_L.kept {C n d : String} {A : Nat → Prop} {U : State} {H H1 : Heap} (h : vx_L C n d A U H) (hq : ∀ a : Nat, a < H.size → ¬ A a → H1[a]? = H[a]?) : vx_L C n d A U H1 := by
  obtain ⟨c, k, i, f, a, cell, h1, h2, h3, h4, h5, h6, h7, h8, h9, h10⟩ := h
  exact ⟨c, k, i, f, a, cell, h1, h2, h3, h4, by rw [hq a (Array.getElem?_eq_some_iff.mp h5).1 h10]; exact h5, h6, h7, h8, h9, h10⟩
theorem vx_L.narrow {C n d : String} {A B : Nat → Prop} {U : State} {H : Heap} (h : vx_L C n d A U H) (hAB : ∀ q, B q → A q) : vx_L C n d B U H := by
  obtain ⟨c, k, i, f, a, cell, h1, h2, h3, h4, h5, h6, h7, h8, h9, h10⟩ := h
  exact ⟨c, k, i, f, a, cell, h1, h2, h3, h4, h5, h6, h7, h8, h9, fun z => h10 (hAB _ z)⟩
theorem vx_L.word {C n d : String} {A : Nat → Prop} {s : State} {args : Array Value} (h : vx_L C n d A s s.heap) : (Cond.laysStatic C n d).before args s = true := by
  obtain ⟨c, k, i, f, a, cell, h1, h2, h3, h4, h5, h6, h7, h8, h9, -⟩ := h
  show (Cond.laysStatic C n d).holds args s none s [] = true
  exact Cond.laysStatic_of h1 h2 h3 h4 h5 h6 h7 h8 h9
/-- .. and what it holds: null or some reference -/
def vx_Zq (C n d : String) (A : Nat → Prop) (U : State) (H : Heap) : Prop := va_Zq C n d A U H ∧ vx_L C n d A U H
theorem vx_Zq.moved {C n d : String} {A : Nat → Prop} {u U : State} {H : Heap} (hvm : u.vm.Alike U.vm) (h : vx_Zq C n d A u H) : vx_Zq C n d A U H := ⟨va_Zq.moved hvm h.1, vx_L.moved hvm h.2⟩
theorem vx_Zq.kept {C n d : String} {A : Nat → Prop} {U : State} {H H1 : Heap} (h : vx_Zq C n d A U H) (hq : ∀ a : Nat, a < H.size → ¬ A a → H1[a]? = H[a]?) : vx_Zq C n d A U H1 := ⟨va_Zq.kept h.1 hq, vx_L.kept h.2 hq⟩
theorem vx_Zq.narrow {C n d : String} {A B : Nat → Prop} {U : State} {H : Heap} (h : vx_Zq C n d A U H) (hAB : ∀ q, B q → A q) : vx_Zq C n d B U H := ⟨va_Zq.narrow h.1 hAB, vx_L.narrow h.2 hAB⟩
theorem vx_Zqof {args : Array Value} {s : State} {C n d : String} {A : Nat → Prop} (hl : (Cond.laysStatic C n d).before args s = true) (hini : (Cond.initialized C).before args s = true) (h : (Cond.isRef (.static C n d)).before args s = true) (hA : ∀ a : Nat, a < s.heap.size → ¬ A a) : vx_Zq C n d A s s.heap := by
  refine ⟨va_Zqof hl hini h hA, ?_⟩
  obtain ⟨c, k, i, f, a, cell, h1, h2, h3, h4, h5, h6, h7, h8, h9⟩ := Cond.laysStatic_spec hl
  exact ⟨c, k, i, f, a, cell, h1, h2, h3, h4, h5, h6, h7, h8, h9, hA a (Array.getElem?_eq_some_iff.mp h5).1⟩
theorem vx_isRef {C n d : String} {v : Value} {A : Nat → Prop} {s : State} {args : Array Value} (h : va_Z C n d v A s s.heap) (hv : v.isRef = true) : (Cond.isRef (.static C n d)).before args s = true := by
  obtain ⟨cf, kf, fi, f, a, cell, h1, h2, h3, h4, h5, h6, h7, -⟩ := h
  have he : (Term.static C n d).eval args s none [] s = some v := by
    simp [Term.eval, State.fieldNamed?, h1, h2, h4, h5, h6, h7]
  simp only [Cond.before, Cond.holds, Cond.value, he]
  cases v <;> simp_all [Value.isRef]
theorem vx_isRefq {C n d : String} {A : Nat → Prop} {s : State} {args : Array Value} (h : va_Zq C n d A s s.heap) : (Cond.isRef (.static C n d)).before args s = true := by
  rcases h with h | ⟨t, h⟩
  · exact vx_isRef h rfl
  · exact vx_isRef h rfl
/-- the same frame, seen from here: as if the method were called anew in this heap -/
theorem vx_rebase {T : State} (X : Stand p l e R s m args below meth c T locs cells slots) {R' : Room} (hf : R'.frames ≤ R.frames) (hl : R'.locals ≤ R.locals) (hc : cells + R'.cells ≤ R.cells) (hs : slots + R'.slots ≤ R.slots) :
    Stand p l e R' ((T.setVm s.vm).setFrames (.invoking m args :: below)) m args below meth c T [] 0 0 := by
  have htop : (T.setVm s.vm).topJava?.isSome := X.here.top
  have hF : ((T.setVm s.vm).setFrames (.invoking m args :: below)).frames = .invoking m args :: below := State.frames_setFrames _ (State.cur_lt_of_top htop)
  obtain ⟨g₀, hg0⟩ := Option.isSome_iff_exists.mp htop
  obtain ⟨r, hr⟩ := State.topJava?_eq_some.mp hg0
  have hl9 : e.platform.stackLimits (T.setVm s.vm).me = e.platform.stackLimits s.me := X.limits
  have hb9 : (T.setVm s.vm).me.stackBytes = s.me.stackBytes := X.bytes
  refine ⟨X.admits, X.cas, X.clock, hF, ?_, X.hears, X.method, X.code, X.here, X.tail, X.warmed, ?_, ?_, ?_⟩
  · have h := X.room
    have hU : ((T.setVm s.vm).setFrames (.invoking m args :: below)).localsInUse = s.localsInUse := by
      rw [State.localsInUse_invoking hF (meth := meth) (c := c) X.method X.code, State.localsInUse_invoking X.frames X.method X.code]
    simp only [State.hasRoom, Bool.and_eq_true, decide_eq_true_eq] at h ⊢
    obtain ⟨⟨⟨⟨h1, h2, h3, h4, h5, h6⟩, h7⟩, h8⟩, h9⟩ := h
    rw [X.frames, List.length_cons] at h2 h3
    have q1 := X.heapSize
    have q2 := X.used
    simp only [hF, hU, List.length_cons, State.stackLimits_setFrames, State.stackBytes_setFrames, hl9, hb9]
    refine ⟨⟨⟨⟨by omega, by omega, by omega, by omega, by omega, h6⟩, ?_⟩, ?_⟩, X.book⟩
    · show T.heap.size + R'.cells ≤ e.platform.maxCells
      omega
    · show T.slotsUsed + R'.slots ≤ e.platform.maxSlots
      omega
  · rw [State.stackLimits_setFrames]; rfl
  · rw [State.stackBytes_setFrames]; rfl
  · refine ⟨?_, Nat.le_refl _, Nat.le_refl _, ?_, ?_, fun a c9 h9 => ⟨c9, h9, rfl, rfl, fun _ _ => rfl⟩⟩
    · obtain ⟨t, ht, -⟩ := State.frames_cons hr
      show T.setVm s.vm = { ((T.setVm s.vm).setFrames (.invoking m args :: below)).setFrames (T.setVm s.vm).frames with heap := T.heap, slotsUsed := T.slotsUsed }
      rw [State.setFrames_setFrames, State.setFrames_self ht]
      rfl
    · show T.slotsUsed = T.slotsUsed + ((T.heap.toList.drop T.heap.size).map (·.slots.size)).sum
      rw [List.drop_eq_nil_of_le (Nat.le_of_eq Array.length_toList)]
      rfl
    · show ((T.heap.toList.drop T.heap.size).map (·.slots.size)).sum ≤ 0
      rw [List.drop_eq_nil_of_le (Nat.le_of_eq Array.length_toList)]
      exact Nat.le_refl _
/-- 'throw new E()': new; dup; invokespecial; athrow -/
theorem vx_throw0 {cc : ByteArray} {pc : Nat} (hexec : p.tables.exec = Jvm.exec) (hb : c.code = cc) (hl : l.stackTraces = false) {own cls : String} {names : List String} {ik ic mc ms : Nat} {A : Nat → Prop}
    (hown : s.vm.findClass own = some m.cls) (hcls : Bundle.fit cls = true) (hnames : ∀ n ∈ names, Bundle.fit n = true)
    (hk : (Cond.classLink own ik cls).before args s = true) (hini : (Cond.initialized cls).before args s = true) (hat : ∀ w ∈ vx_at0 own ic cls names, w.before args s = true)
    (hgood : ∀ w ∈ Cond.classLink own ik cls :: Cond.initialized cls :: vx_at0 own ic cls names, vx_ot w = true)
    (hU : vx_Zq Bundle.tN "UNASSIGNED_STACK" Bundle.steD A s s.heap) (hN : vx_Zq Bundle.tN "SUPPRESSED_SENTINEL" Bundle.listD A s s.heap) (hS : va_S A s.heap H locs) (hsize : ls.size = c.maxLocals)
    (d0 : decode cc pc = .ok (.new ik, 3)) (d3 : decode cc (pc + 3) = .ok (.dup, 1)) (d4 : decode cc (pc + 4) = .ok (.invokespecial ic, 3)) (d7 : decode cc (pc + 7) = .ok (.athrow, 1))
    (hout : ∀ x ∈ c.exceptionTable.toList, covers x (pc + 7) = false)
    (hRframes : names.length + 3 < R.frames) (hRlocals : (rest.map fun v => v.category).sum + (13 * (names.length + 1) + 42) ≤ R.locals) (hRcells : cells + 1 ≤ R.cells) (hRslots : slots + 6 ≤ R.slots) (hlocks : meth.locks = false)
    (hx : ∀ t : State, s.vm.Alike t.vm → H.size ≤ t.heap.size → (∀ q : Nat, q < H.size → t.heap[q]? = H[q]?) → XC cls s t)
    (hf : ∀ z ∈ locs, free z.base) (hc : cells + 1 ≤ mc) (hs : slots + 6 ≤ ms) :
    W p l e R s m args below meth c H locs cells slots (vx_MQ below Qc XC args s mc ms free) (F0 m pc ls rest) := by
  intro T hT X
  have htr : e.platform.stackTraces = false := (show e.platform.stackTraces = l.stackTraces by rw [X.admits.platform]).trans hl
  have Y := vx_rebase X (R' := { frames := R.frames, locals := R.locals, cells := 1, slots := 6 }) (Nat.le_refl _) (Nat.le_refl _) hRcells hRslots
  obtain ⟨s', hA⟩ : ∃ z, z = (T.setVm s.vm).setFrames (.invoking m args :: below) := ⟨_, rfl⟩
  rw [← hA] at Y
  have hvm : s'.vm = s.vm := by rw [hA]; rfl
  have hhp : s'.heap = H := by rw [hA]; exact hT
  have hW0 : s.WarmedH s'.vm := by rw [hvm]; exact State.WarmedH.refl s
  have hat' : ∀ w ∈ vx_at0 own ic cls names, w.before args s' = true := fun w hw => vx_ot_at hW0 hvm.symm (hgood w (List.mem_cons_of_mem _ (List.mem_cons_of_mem _ hw))) (hat w hw)
  have hk' : (Cond.classLink own ik cls).before args s' = true := vx_ot_at hW0 hvm.symm (hgood _ List.mem_cons_self) hk
  have hini' : (Cond.initialized cls).before args s' = true := vx_ot_at hW0 hvm.symm (hgood _ (List.mem_cons_of_mem _ List.mem_cons_self)) hini
  have hU' : vx_Zq Bundle.tN "UNASSIGNED_STACK" Bundle.steD A s' s'.heap := by rw [hhp]; exact vx_Zq.moved hW0.alike (hU.kept hS.2.1)
  have hN' : vx_Zq Bundle.tN "SUPPRESSED_SENTINEL" Bundle.listD A s' s'.heap := by rw [hhp]; exact vx_Zq.moved hW0.alike (hN.kept hS.2.1)
  have h : ∀ w ∈ Bundle.ownAtoms0 own ic cls names, w.before args s' = true := vx_own hat' (vx_isRefq hU'.1) (vx_isRefq hN'.1) hU'.2.word hN'.2.word
  have hown' : s'.vm.findClass own = some m.cls := by rw [hvm]; exact hown
  have hins : (Cond.instantiable cls 6).before args s' = true := h _ (by simp [Bundle.ownAtoms0])
  obtain ⟨vm₁, cX, kX, hfX, hkX, -, -, X₁, st1⟩ := Y.newCold hexec (own := own) (C := cls) (index := ik) (n := 6) hown' hk' hins hini'
    (g := F0 m pc ls rest) rfl (by rw [hb]; exact d0) (Nat.le_refl _) (Nat.le_refl _)
  generalize hT1 : (T.setVm vm₁).pushCell { cls := cX, slots := kX.instanceTypes.map defaultValue, vm := .none } = T1 at X₁ st1
  have hcat : (Value.ref T.heap.size).category = 1 := rfl
  have hcellA : T1.heap[T.heap.size]? = some (freshCell cX kX) := by rw [← hT1]; exact State.heap_pushCell_size _ _
  have d3' : decode c.code (pc + 3) = .ok (.dup, 1) := by rw [hb]; exact d3
  obtain ⟨U, hsteps, hrun, hend, hW, hsame, ce, hce, hO⟩ := X₁.ctorThrow0 hexec htr (own := own) (cls := cls) (names := names) (ic := ic) hown' hcls hnames h (fun x hx => nomatch hx) hfX hkX hcellA (by rw [hhp, hT]; exact Nat.le_refl _)
    (g := { method := m, pc := pc + 4, locals := ls, stack := .ref T.heap.size :: .ref T.heap.size :: rest, locked := none }) rfl hsize rfl rfl (rest := rest) rfl
    (by rw [hb]; exact d4) (by rw [hb]; exact d7) hout hRframes (by simp only [List.map_cons, List.sum_cons, hcat]; omega) hlocks
  obtain ⟨f1, f2⟩ := vx_frame hsame
  rw [hhp] at f1 f2
  have hWs : s.WarmedH U.vm := State.WarmedH.trans hW0 hW
  have hcl : s.vm.findClass cls = some ce.cls := by
    have h9 := hO.cls
    rw [hvm] at h9
    exact h9
  have hall : s.sameButNew ({ U with vm := s.vm } : State) locs mc ms := by
    subst hA
    obtain ⟨e1, e2⟩ := hsame
    rw [State.setFrames_setFrames] at e1
    have h2 : (T.setVm s.vm).sameButNew ({ U with vm := s.vm } : State) [] (0 + 1) (0 + 6) := ⟨e1, e2⟩
    have h3 := X.same.trans h2
    rw [List.append_nil] at h3
    exact h3.mono hc hs
  refine ⟨U, ?_, .threw T.heap.size, hrun, hend, Or.inr ⟨T.heap.size, rfl, cls, ce, locs, hx U hWs.alike f1 (fun q hq => f2 q hq (fun z hz => nomatch hz)), hce, hO.vm, hcl, hWs, hall, hf⟩⟩
  refine st1 _ ?_
  show Steps p.tables e below (T1.setTop { method := m, pc := pc + 3, locals := ls, stack := .ref T.heap.size :: rest, locked := none }) _
  jvm_step X₁.here [X₁.here.top, hexec, d3', Value.category]
  exact hsteps
/-- 'throw new E("text")': new; dup; ldc; invokespecial; athrow -/
theorem vx_throwS {cc : ByteArray} {pc : Nat} (hexec : p.tables.exec = Jvm.exec) (hb : c.code = cc) (hl : l.stackTraces = false) {own cls text : String} {names : List String} {ik is ic mc ms sa : Nat} {A : Nat → Prop}
    (hown : s.vm.findClass own = some m.cls) (hcls : Bundle.fit cls = true) (hnames : ∀ n ∈ names, Bundle.fit n = true)
    (hk : (Cond.classLink own ik cls).before args s = true) (hini : (Cond.initialized cls).before args s = true) (hstr : vk_R own is text sa s) (hat : ∀ w ∈ vx_atS own ic cls names, w.before args s = true)
    (hgood : ∀ w ∈ Cond.classLink own ik cls :: Cond.initialized cls :: vx_atS own ic cls names, vx_ot w = true)
    (hU : vx_Zq Bundle.tN "UNASSIGNED_STACK" Bundle.steD A s s.heap) (hN : vx_Zq Bundle.tN "SUPPRESSED_SENTINEL" Bundle.listD A s s.heap) (hS : va_S A s.heap H locs) (hsize : ls.size = c.maxLocals)
    (d0 : decode cc pc = .ok (.new ik, 3)) (d3 : decode cc (pc + 3) = .ok (.dup, 1)) (d4 : decode cc (pc + 4) = .ok (.ldc is, 2)) (d6 : decode cc (pc + 6) = .ok (.invokespecial ic, 3)) (d9 : decode cc (pc + 9) = .ok (.athrow, 1))
    (hout : ∀ x ∈ c.exceptionTable.toList, covers x (pc + 9) = false)
    (hRframes : names.length + 3 < R.frames) (hRlocals : (rest.map fun v => v.category).sum + (13 * (names.length + 1) + 43) ≤ R.locals) (hRcells : cells + 1 ≤ R.cells) (hRslots : slots + 6 ≤ R.slots) (hlocks : meth.locks = false)
    (hx : ∀ t : State, s.vm.Alike t.vm → H.size ≤ t.heap.size → (∀ q : Nat, q < H.size → t.heap[q]? = H[q]?) → XC cls s t)
    (hf : ∀ z ∈ locs, free z.base) (hc : cells + 1 ≤ mc) (hs : slots + 6 ≤ ms) :
    W p l e R s m args below meth c H locs cells slots (vx_MQ below Qc XC args s mc ms free) (F0 m pc ls rest) := by
  intro T hT X
  have htr : e.platform.stackTraces = false := (show e.platform.stackTraces = l.stackTraces by rw [X.admits.platform]).trans hl
  have Y := vx_rebase X (R' := { frames := R.frames, locals := R.locals, cells := 1, slots := 6 }) (Nat.le_refl _) (Nat.le_refl _) hRcells hRslots
  obtain ⟨s', hA⟩ : ∃ z, z = (T.setVm s.vm).setFrames (.invoking m args :: below) := ⟨_, rfl⟩
  rw [← hA] at Y
  have hvm : s'.vm = s.vm := by rw [hA]; rfl
  have hhp : s'.heap = H := by rw [hA]; exact hT
  have hW0 : s.WarmedH s'.vm := by rw [hvm]; exact State.WarmedH.refl s
  have hat' : ∀ w ∈ vx_atS own ic cls names, w.before args s' = true := fun w hw => vx_ot_at hW0 hvm.symm (hgood w (List.mem_cons_of_mem _ (List.mem_cons_of_mem _ hw))) (hat w hw)
  have hk' : (Cond.classLink own ik cls).before args s' = true := vx_ot_at hW0 hvm.symm (hgood _ List.mem_cons_self) hk
  have hini' : (Cond.initialized cls).before args s' = true := vx_ot_at hW0 hvm.symm (hgood _ (List.mem_cons_of_mem _ List.mem_cons_self)) hini
  have hU' : vx_Zq Bundle.tN "UNASSIGNED_STACK" Bundle.steD A s' s'.heap := by rw [hhp]; exact vx_Zq.moved hW0.alike (hU.kept hS.2.1)
  have hN' : vx_Zq Bundle.tN "SUPPRESSED_SENTINEL" Bundle.listD A s' s'.heap := by rw [hhp]; exact vx_Zq.moved hW0.alike (hN.kept hS.2.1)
  have h : ∀ w ∈ Bundle.ownAtoms own ic cls names, w.before args s' = true := vx_own hat' (vx_isRefq hU'.1) (vx_isRefq hN'.1) hU'.2.word hN'.2.word
  have hown' : s'.vm.findClass own = some m.cls := by rw [hvm]; exact hown
  have hins : (Cond.instantiable cls 6).before args s' = true := h _ (by simp [Bundle.ownAtoms])
  obtain ⟨vm₁, cX, kX, hfX, hkX, -, -, X₁, st1⟩ := Y.newCold hexec (own := own) (C := cls) (index := ik) (n := 6) hown' hk' hins hini'
    (g := F0 m pc ls rest) rfl (by rw [hb]; exact d0) (Nat.le_refl _) (Nat.le_refl _)
  generalize hT1 : (T.setVm vm₁).pushCell { cls := cX, slots := kX.instanceTypes.map defaultValue, vm := .none } = T1 at X₁ st1
  have hcat : (Value.ref T.heap.size).category = 1 := rfl
  have hcellA : T1.heap[T.heap.size]? = some (freshCell cX kX) := by rw [← hT1]; exact State.heap_pushCell_size _ _
  have d3' : decode c.code (pc + 3) = .ok (.dup, 1) := by rw [hb]; exact d3
  have d4' : decode c.code (pc + 4) = .ok (.ldc is, 2) := by rw [hb]; exact d4
  have hstr' : vk_R own is text sa s' := vk_R.warm hW0 hstr
  obtain ⟨U, hsteps, hrun, hend, hW, hsame, ce, hce, hO⟩ := X₁.ctorThrowS hexec htr (own := own) (cls := cls) (names := names) (ic := ic) hown' hcls hnames h (fun x hx => nomatch hx) hfX hkX hcellA (by rw [hhp, hT]; exact Nat.le_refl _) (msg := .ref sa) rfl
    (g := { method := m, pc := pc + 6, locals := ls, stack := .ref sa :: .ref T.heap.size :: .ref T.heap.size :: rest, locked := none }) rfl hsize rfl rfl (rest := rest) rfl
    (by rw [hb]; exact d6) (by rw [hb]; exact d9) hout hRframes (by simp only [List.map_cons, List.sum_cons, hcat]; omega) hlocks
  obtain ⟨f1, f2⟩ := vx_frame hsame
  rw [hhp] at f1 f2
  have hWs : s.WarmedH U.vm := State.WarmedH.trans hW0 hW
  have hcl : s.vm.findClass cls = some ce.cls := by
    have h9 := hO.cls
    rw [hvm] at h9
    exact h9
  have hall : s.sameButNew ({ U with vm := s.vm } : State) locs mc ms := by
    subst hA
    obtain ⟨e1, e2⟩ := hsame
    rw [State.setFrames_setFrames] at e1
    have h2 : (T.setVm s.vm).sameButNew ({ U with vm := s.vm } : State) [] (0 + 1) (0 + 6) := ⟨e1, e2⟩
    have h3 := X.same.trans h2
    rw [List.append_nil] at h3
    exact h3.mono hc hs
  refine ⟨U, ?_, .threw T.heap.size, hrun, hend, Or.inr ⟨T.heap.size, rfl, cls, ce, locs, hx U hWs.alike f1 (fun q hq => f2 q hq (fun z hz => nomatch hz)), hce, hO.vm, hcl, hWs, hall, hf⟩⟩
  refine st1 _ ?_
  show Steps p.tables e below (T1.setTop { method := m, pc := pc + 3, locals := ls, stack := .ref T.heap.size :: rest, locked := none }) _
  jvm_step X₁.here [X₁.here.top, hexec, d3', Value.category]
  exact X₁.ldcString hexec (own := own) (text := text) (index := is) (a := sa) hown' hstr'.1 hstr'.2
    (g := { method := m, pc := pc + 4, locals := ls, stack := .ref T.heap.size :: .ref T.heap.size :: rest, locked := none }) rfl d4' _ hsteps
/-- 'throw new E("text")', the text by a wide index -/
theorem vx_throwSW {cc : ByteArray} {pc : Nat} (hexec : p.tables.exec = Jvm.exec) (hb : c.code = cc) (hl : l.stackTraces = false) {own cls text : String} {names : List String} {ik is ic mc ms sa : Nat} {A : Nat → Prop}
    (hown : s.vm.findClass own = some m.cls) (hcls : Bundle.fit cls = true) (hnames : ∀ n ∈ names, Bundle.fit n = true)
    (hk : (Cond.classLink own ik cls).before args s = true) (hini : (Cond.initialized cls).before args s = true) (hstr : vk_R own is text sa s) (hat : ∀ w ∈ vx_atS own ic cls names, w.before args s = true)
    (hgood : ∀ w ∈ Cond.classLink own ik cls :: Cond.initialized cls :: vx_atS own ic cls names, vx_ot w = true)
    (hU : vx_Zq Bundle.tN "UNASSIGNED_STACK" Bundle.steD A s s.heap) (hN : vx_Zq Bundle.tN "SUPPRESSED_SENTINEL" Bundle.listD A s s.heap) (hS : va_S A s.heap H locs) (hsize : ls.size = c.maxLocals)
    (d0 : decode cc pc = .ok (.new ik, 3)) (d3 : decode cc (pc + 3) = .ok (.dup, 1)) (d4 : decode cc (pc + 4) = .ok (.ldc_w is, 3)) (d7 : decode cc (pc + 7) = .ok (.invokespecial ic, 3)) (d10 : decode cc (pc + 10) = .ok (.athrow, 1))
    (hout : ∀ x ∈ c.exceptionTable.toList, covers x (pc + 10) = false)
    (hRframes : names.length + 3 < R.frames) (hRlocals : (rest.map fun v => v.category).sum + (13 * (names.length + 1) + 43) ≤ R.locals) (hRcells : cells + 1 ≤ R.cells) (hRslots : slots + 6 ≤ R.slots) (hlocks : meth.locks = false)
    (hx : ∀ t : State, s.vm.Alike t.vm → H.size ≤ t.heap.size → (∀ q : Nat, q < H.size → t.heap[q]? = H[q]?) → XC cls s t)
    (hf : ∀ z ∈ locs, free z.base) (hc : cells + 1 ≤ mc) (hs : slots + 6 ≤ ms) :
    W p l e R s m args below meth c H locs cells slots (vx_MQ below Qc XC args s mc ms free) (F0 m pc ls rest) := by
  intro T hT X
  have htr : e.platform.stackTraces = false := (show e.platform.stackTraces = l.stackTraces by rw [X.admits.platform]).trans hl
  have Y := vx_rebase X (R' := { frames := R.frames, locals := R.locals, cells := 1, slots := 6 }) (Nat.le_refl _) (Nat.le_refl _) hRcells hRslots
  obtain ⟨s', hA⟩ : ∃ z, z = (T.setVm s.vm).setFrames (.invoking m args :: below) := ⟨_, rfl⟩
  rw [← hA] at Y
  have hvm : s'.vm = s.vm := by rw [hA]; rfl
  have hhp : s'.heap = H := by rw [hA]; exact hT
  have hW0 : s.WarmedH s'.vm := by rw [hvm]; exact State.WarmedH.refl s
  have hat' : ∀ w ∈ vx_atS own ic cls names, w.before args s' = true := fun w hw => vx_ot_at hW0 hvm.symm (hgood w (List.mem_cons_of_mem _ (List.mem_cons_of_mem _ hw))) (hat w hw)
  have hk' : (Cond.classLink own ik cls).before args s' = true := vx_ot_at hW0 hvm.symm (hgood _ List.mem_cons_self) hk
  have hini' : (Cond.initialized cls).before args s' = true := vx_ot_at hW0 hvm.symm (hgood _ (List.mem_cons_of_mem _ List.mem_cons_self)) hini
  have hU' : vx_Zq Bundle.tN "UNASSIGNED_STACK" Bundle.steD A s' s'.heap := by rw [hhp]; exact vx_Zq.moved hW0.alike (hU.kept hS.2.1)
  have hN' : vx_Zq Bundle.tN "SUPPRESSED_SENTINEL" Bundle.listD A s' s'.heap := by rw [hhp]; exact vx_Zq.moved hW0.alike (hN.kept hS.2.1)
  have h : ∀ w ∈ Bundle.ownAtoms own ic cls names, w.before args s' = true := vx_own hat' (vx_isRefq hU'.1) (vx_isRefq hN'.1) hU'.2.word hN'.2.word
  have hown' : s'.vm.findClass own = some m.cls := by rw [hvm]; exact hown
  have hins : (Cond.instantiable cls 6).before args s' = true := h _ (by simp [Bundle.ownAtoms])
  obtain ⟨vm₁, cX, kX, hfX, hkX, -, -, X₁, st1⟩ := Y.newCold hexec (own := own) (C := cls) (index := ik) (n := 6) hown' hk' hins hini'
    (g := F0 m pc ls rest) rfl (by rw [hb]; exact d0) (Nat.le_refl _) (Nat.le_refl _)
  generalize hT1 : (T.setVm vm₁).pushCell { cls := cX, slots := kX.instanceTypes.map defaultValue, vm := .none } = T1 at X₁ st1
  have hcat : (Value.ref T.heap.size).category = 1 := rfl
  have hcellA : T1.heap[T.heap.size]? = some (freshCell cX kX) := by rw [← hT1]; exact State.heap_pushCell_size _ _
  have d3' : decode c.code (pc + 3) = .ok (.dup, 1) := by rw [hb]; exact d3
  have d4' : decode c.code (pc + 4) = .ok (.ldc_w is, 3) := by rw [hb]; exact d4
  have hstr' : vk_R own is text sa s' := vk_R.warm hW0 hstr
  obtain ⟨U, hsteps, hrun, hend, hW, hsame, ce, hce, hO⟩ := X₁.ctorThrowS hexec htr (own := own) (cls := cls) (names := names) (ic := ic) hown' hcls hnames h (fun x hx => nomatch hx) hfX hkX hcellA (by rw [hhp, hT]; exact Nat.le_refl _) (msg := .ref sa) rfl
    (g := { method := m, pc := pc + 7, locals := ls, stack := .ref sa :: .ref T.heap.size :: .ref T.heap.size :: rest, locked := none }) rfl hsize rfl rfl (rest := rest) rfl
    (by rw [hb]; exact d7) (by rw [hb]; exact d10) hout hRframes (by simp only [List.map_cons, List.sum_cons, hcat]; omega) hlocks
  obtain ⟨f1, f2⟩ := vx_frame hsame
  rw [hhp] at f1 f2
  have hWs : s.WarmedH U.vm := State.WarmedH.trans hW0 hW
  have hcl : s.vm.findClass cls = some ce.cls := by
    have h9 := hO.cls
    rw [hvm] at h9
    exact h9
  have hall : s.sameButNew ({ U with vm := s.vm } : State) locs mc ms := by
    subst hA
    obtain ⟨e1, e2⟩ := hsame
    rw [State.setFrames_setFrames] at e1
    have h2 : (T.setVm s.vm).sameButNew ({ U with vm := s.vm } : State) [] (0 + 1) (0 + 6) := ⟨e1, e2⟩
    have h3 := X.same.trans h2
    rw [List.append_nil] at h3
    exact h3.mono hc hs
  refine ⟨U, ?_, .threw T.heap.size, hrun, hend, Or.inr ⟨T.heap.size, rfl, cls, ce, locs, hx U hWs.alike f1 (fun q hq => f2 q hq (fun z hz => nomatch hz)), hce, hO.vm, hcl, hWs, hall, hf⟩⟩
  refine st1 _ ?_
  show Steps p.tables e below (T1.setTop { method := m, pc := pc + 3, locals := ls, stack := .ref T.heap.size :: rest, locked := none }) _
  jvm_step X₁.here [X₁.here.top, hexec, d3', Value.category]
  exact X₁.ldcStringW hexec (own := own) (text := text) (index := is) (a := sa) hown' hstr'.1 hstr'.2
    (g := { method := m, pc := pc + 4, locals := ls, stack := .ref T.heap.size :: .ref T.heap.size :: rest, locked := none }) rfl d4' _ hsteps
end Ends
section Bodies
variable {l : Launch}
theorem vx_ofW {y : MethodName} {ws ws' : List Cond} {rm : Room} {Pc : Array Value → State → Prop} {Qc : Array Value → State → Outcome → State → Prop} {XC : String → State → State → Prop} {mc ms : Nat} {free : Addr → Prop} {cc : ByteArray} {maxL : Nat} {ret : Option FieldType}
    (hy : plainName y.cls = true) (hw : ws = Cond.code y cc maxL ret :: ws')
    (body : ∀ p e s m args below meth c s₁, BodyLoose p l y (headSpec ws rm) cc maxL ret e s m args below meth c s₁ → c.maxLocals = maxL → (∀ x ∈ c.exceptionTable.toList, False) → Pc args s →
      W p l e (headSpec ws rm).room s m args below meth c s.heap [] 0 0 (vx_MQ below Qc XC args s mc ms free) (entryFrame m args maxL)) : vx_Met l y ws rm Pc Qc XC mc ms free := by
  refine MetFree.of_bodyS (code := cc) (maxLocals := maxL) (ret := ret) hy ?_ ?_
  · intro args s m h hn
    obtain ⟨meth, c, h1, h2, h3, h4, h5, h6, -, -⟩ := Cond.code_spec hn (atoms_spec (ws := ws) h _ (by rw [hw]; exact List.mem_cons_self))
    exact ⟨meth, c, h1, h2, h3, h4, h5, h6⟩
  · intro p e s m args below meth c s₁ B hml hP _
    have hh0 : s₁.heap = s.heap := by rw [B.state]; rfl
    have ht : ∀ x ∈ c.exceptionTable.toList, False := by
      obtain ⟨meth9, c9, h1, h2, -, -, -, -, h7, -⟩ := Cond.code_spec B.named (atoms_spec (ws := ws) B.pre _ (by rw [hw]; exact List.mem_cons_self))
      cases Option.some.inj (h1.symm.trans B.method)
      cases Option.some.inj (h2.symm.trans (Stand.of_body B).code)
      intro x hx
      rw [Array.isEmpty_iff.mp h7] at hx
      cases hx
    obtain ⟨t, a1, o, b1, b2, b3⟩ := body p e s m args below meth c s₁ B hml ht hP s₁ hh0 (Stand.of_body B)
    exact ⟨t, o, a1, b1, b2, b3⟩
/-- the table of a body with handlers -/
theorem vx_table {p : Program} {x y : MethodName} {S : Spec} {cc bytes : ByteArray} {maxL maxL' : Nat} {ret ret' : Option FieldType} {e : Env} {s s₁ : State} {m : MethodId} {args : Array Value} {below : List Frame} {meth : Method} {c : Code} {hh : List (Nat × Nat × Nat × Nat)}
    (B : BodyLoose p l y S cc maxL ret e s m args below meth c s₁) (h : (Cond.codeWith y bytes maxL' ret' hh).before args s = true) : c.exceptionTable.toList = tableOf hh := by
  obtain ⟨m9, meth9, c9, hn9, h1, h2, -, -, h6, -⟩ := Cond.codeWith_spec h
  cases Option.some.inj (hn9.symm.trans B.named)
  cases Option.some.inj (h1.symm.trans B.method)
  cases Option.some.inj (h2.symm.trans (Stand.of_body B).code)
  rw [← h6, table_eq]
end Bodies
end VXA
/-! ===== END ===== -/
/-! ===== BEGIN a static call of a method with an exception table ===== -/
section VXS
variable {p : Program} {l : Launch} {e : Env} {R : Room} {s : State} {m : MethodId} {args : Array Value} {below : List Frame} {meth : Method} {c : Code} {T : State} {H : Heap} {locs : List Loc} {cells slots : Nat}
abbrev vx_CSW (R : Room) (s : State) (args : Array Value) (own : String) (index : Nat) (y : MethodName) (bytes : ByteArray) (maxL : Nat) (ret : Option FieldType) (hh : List (Nat × Nat × Nat × Nat)) (ws : List Cond) (rm : Room) (mc ms n : Nat) : Prop :=
  (rm.cells = mc ∧ rm.slots = ms ∧ rm.frames + 1 ≤ R.frames ∧ 8 + (maxL + 11) + rm.locals ≤ R.locals ∧ (∀ w ∈ ws, ∀ (a' : Array Value) (U : State), s.WarmedH U.vm → w.before a' U = true) ∧ Cond.codeWith y bytes maxL ret hh ∈ ws) ∧
  (Cond.codeWith y bytes maxL ret hh).before args s = true ∧ (Cond.initialized y.cls).before args s = true ∧ (y.cls ≠ "java/lang/invoke/MethodHandle" ∧ y.cls ≠ "java/lang/invoke/VarHandle") ∧
  (∀ sig, parseMethodDescriptor y.desc = some sig → n = sig.parameters.length) ∧ (Cond.methodLink own index y).before args s = true ∧ (Cond.static y).before args s = true
theorem vx_cwSW {own : String} {index maxL mc ms : Nat} {y : MethodName} {bytes : ByteArray} {ret : Option FieldType} {hh : List (Nat × Nat × Nat × Nat)} {Ts ws ws' : List Cond} {rm : Room} (n : Nat) (ht : ∀ w ∈ Ts, w.before args s = true) (hT : GoodIn Ts (va_wsS own index y ws)) (hw : ws = Cond.codeWith y bytes maxL ret hh :: ws') (hrc : rm.cells = mc) (hrs : rm.slots = ms)
    (hd : y.cls ≠ "java/lang/invoke/MethodHandle" ∧ y.cls ≠ "java/lang/invoke/VarHandle" ∧ (parseMethodDescriptor y.desc).map (fun d => d.parameters.length) = some n) (hR : rm.frames + 1 ≤ R.frames ∧ 8 + (maxL + 11) + rm.locals ≤ R.locals) :
    vx_CSW R s args own index y bytes maxL ret hh ws rm mc ms n := by
  have ok : ∀ w ∈ va_wsS own index y ws, w.before args s = true := fun w h => ht w (hT w h).1
  have hG : GoodIn Ts ws := fun w h => hT w (by unfold va_wsS; exact List.mem_append_right _ h)
  have hc : Cond.codeWith y bytes maxL ret hh ∈ ws := by rw [hw]; exact List.mem_cons_self
  refine ⟨⟨hrc, hrs, hR.1, hR.2, pay_in ht hG, hc⟩, ht _ (hG _ hc).1, ok _ (by simp [va_wsS]), ⟨hd.1, hd.2.1⟩, fun sig h => ?_, ok _ (by simp [va_wsS]), ok _ (by simp [va_wsS])⟩
  have h2 := hd.2.2
  rw [h] at h2
  exact (Option.some.inj h2).symm
theorem vx_callSW (X : Stand p l e R s m args below meth c T locs cells slots) (hexec : p.tables.exec = Jvm.exec) {own : String} {index : Nat} {y : MethodName} {bytes : ByteArray} {maxL : Nat} {ret : Option FieldType} {hh : List (Nat × Nat × Nat × Nat)}
    (hown : s.vm.findClass own = some m.cls) (hlink : (Cond.methodLink own index y).before args s = true) (hstat : (Cond.static y).before args s = true) (hinit : (Cond.initialized y.cls).before args s = true)
    (hcode : (Cond.codeWith y bytes maxL ret hh).before args s = true) (hy : y.cls ≠ "java/lang/invoke/MethodHandle" ∧ y.cls ≠ "java/lang/invoke/VarHandle")
    {W9 : Nat} {Pre : Pt → Array Value → Prop} {Post : Pt → Array Value → Option Value → Pt → Prop} (hK : Back l R p e below s args y 3 W9 Pre Post)
    {g : JFrame} (hg : g.method = m) (hsize : g.locals.size = c.maxLocals) {argsL rest : List Value} (hlen : ∀ sig, parseMethodDescriptor y.desc = some sig → argsL.length = sig.parameters.length)
    (hstack : g.stack = argsL.reverse ++ rest) (hW : 2 * g.monitorRoom + (rest.map fun v => v.category).sum ≤ W9) (hdg : decode c.code g.pc = .ok (.invokestatic index, 3))
    (hpre : ∀ vm₁, s.WarmedH vm₁ → Pre ⟨T.setVm vm₁, locs, cells, slots⟩ argsL.toArray) :
    ∃ (v : Option Value) (vm₁ : Vm) (B : Pt), s.WarmedH vm₁ ∧ Stand p l e R s m args below meth c B.U B.locs B.cells B.slots ∧ Post ⟨T.setVm vm₁, locs, cells, slots⟩ argsL.toArray v B ∧
      ∀ target, Steps p.tables e below (B.U.setTop { g with pc := g.pc + 3, stack := v.toList ++ rest }) target → Steps p.tables e below (T.setTop g) target := by
  obtain ⟨mk, methM, cM, hnamed, hmethM, -, -, -, -, -, -, hsigM⟩ := Cond.codeWith_spec hcode
  have hstatic : methM.isStatic = true := Cond.static_spec hnamed hmethM hstat
  obtain ⟨kP, hkP, -⟩ := className_of_methodNamed hnamed
  have hinitP : kP.init = .initialized := Cond.initialized_spec (findClass_of_methodNamed hnamed) hkP hinit
  obtain ⟨vm₁, X₁, hstep₁⟩ := X.invokestatic hexec hown hlink hnamed hmethM hstatic hkP hinitP hy (g := g) hg (argsL := argsL) (rest := rest) (hlen _ hsigM) hstack hdg
  obtain ⟨v, B, X', hpost, hsteps⟩ := hK m meth c ⟨T.setVm vm₁, locs, cells, slots⟩ { g with stack := rest } (.invokestatic index) mk argsL.toArray X₁ hg hsize hdg hW (X₁.named hnamed) (hpre vm₁ X₁.warmed)
  exact ⟨v, vm₁, B, X₁.warmed, X', hpost, fun target h => hstep₁ _ fun acts => by rw [doInvoke_state]; exact hsteps.trans h⟩
theorem vx_runSW {y : MethodName} {bytes cc : ByteArray} {maxL nL mc ms n index : Nat} {ret : Option FieldType} {hh : List (Nat × Nat × Nat × Nat)} {ws : List Cond} {rm : Room} {Pc : Array Value → State → Prop} {Qc : Array Value → State → Outcome → State → Prop} {free : Addr → Prop} {Ts : List Cond} {own : String} {As rest : List Value} {g : JFrame}
    (S : CallFix p m c cc nL s args Ts own) (hM : Met l y ws rm Pc Qc mc ms free) (cw : vx_CSW R s args own index y bytes maxL ret hh ws rm mc ms n) (hp : PreS s H Pc As)
    (hg : g.method = m) (hn : As.length = n) (hsize : g.locals.size = nL) (hstack : g.stack = As.reverse ++ rest) (hW : 2 * g.monitorRoom + (rest.map fun v => v.category).sum ≤ 8) (hdg : decode cc g.pc = .ok (.invokestatic index, 3)) (hf : cells + mc ≤ R.cells ∧ slots + ms ≤ R.slots) :
    va_Run p l e R s m args below meth c H locs cells slots mc ms g rest (Qc As.toArray) (free) := by
  obtain ⟨⟨hrc, hrs, hfr, hlo, hws, hcw⟩, hcode, hini, hy, hlen, hl, hstt⟩ := cw
  have hK : Back l R p e below s args y 3 8 (PreOf R mc ms Pc) (PostOf Qc mc ms free) := va_backW (hh := hh) (bytes := bytes) (maxL := maxL) (ret := ret) hM hp.1 hrc hrs hfr hlo hws hcw (fun a' U hW => word_at hW (Or.inl (by first | rfl | simp [Cond.onTables, Cond.keeps, Cond.steady])) hini)
  obtain ⟨hx, hb, hml, ho, -⟩ := S
  intro T hT X
  obtain ⟨v, vm₁, ⟨U', l2, c2, s2⟩, hW₁, X', ⟨g', mk, t, L, e1, e2, hq, h1, hL, h2, h3⟩, st⟩ := vx_callSW X hx (hh := hh) (bytes := bytes) (maxL := maxL) (ret := ret) ho hl hstt hini hcode hy hK hg (hsize.trans hml.symm) (argsL := As) (rest := rest) (fun sig h => hn.trans (hlen sig h)) hstack hW (by rw [hb]; exact hdg)
    (fun vm₁ hW₁ => ⟨hf.1, hf.2, hp.2 (T.setVm vm₁) hT hW₁⟩)
  dsimp only [Pt.U, Pt.locs, Pt.cells, Pt.slots] at X' e1 e2 h1 h2 h3 st
  subst h1; subst h2; subst h3
  exact ⟨v, (T.setVm vm₁).calling g' mk As.toArray, t, U', L, hT, X', hL, e1, e2, hq, st⟩
/-- not caught here, past rows that name other classes: it goes on to the caller -/
theorem vx_outP {p : Program} {l : Launch} {e : Env} {R : Room} {s : State} {m : MethodId} {args : Array Value} {below : List Frame} {meth : Method} {c : Code} {H : Heap} {locs : List Loc} {cells slots : Nat} {free : Addr → Prop} {ls : Array Slot} {rest : List Value} {Qc : Array Value → State → Outcome → State → Prop} {XC : String → State → State → Prop}
    {pc : Nat} {own E : String} {ce : Cell} {q : Addr} {mc ms : Nat} (hown : s.vm.findClass own = some m.cls) (hlocks : meth.locks = false)
    (hpass : ∀ z ∈ c.exceptionTable.toList, covers z pc = false ∨ (z.catchType ≠ 0 ∧ ∃ nm : String, (Cond.classLink own z.catchType nm).before args s = true ∧ va_Nc E nm s)) (hcell : H[q]? = some ce) (hv : ce.vm = .none) (hcl : s.vm.findClass E = some ce.cls)
    (hx : ∀ t : State, t.heap = H → s.vm.Alike t.vm → XC E s t) (hf : ∀ z ∈ locs, free z.base) (hc : cells ≤ mc) (hs : slots ≤ ms) :
    vx_W p l e R s m args below meth c H locs cells slots (vx_MQ below Qc XC args s mc ms free) (F0 m pc ls rest) q := by
  intro T hT X
  have hpl : e.platform.magicAccessors = ({} : Platform).magicAccessors := by rw [X.admits.platform]
  obtain ⟨vm', hW', X', st⟩ := X.outThrough hlocks q (g := F0 m pc ls rest) rfl rfl rfl (cell := ce) (by rw [hT]; exact hcell) (by rw [hv]; rfl)
    (by obtain ⟨k9, h9, -⟩ := Vm.findClass_spec hcl; exact ⟨k9, h9⟩) (fun z hz => by
      rcases hpass z hz with h | ⟨hz0, nm, hl1, hn1⟩
      · exact Or.inl h
      · obtain ⟨c6, hc6, hcl6⟩ := Cond.classLink_spec hown hl1 e.platform hpl
        obtain ⟨a8, b8, h1, h2, h3⟩ := hn1
        cases Option.some.inj (h1.symm.trans hcl)
        cases Option.some.inj (h2.symm.trans hc6)
        exact Or.inr ⟨hz0, _, hcl6, h3⟩)
  obtain ⟨g₀, hfr⟩ := X'.frames_eq
  have hcell9 : ((T.setVm vm').setFrames (.throwing q :: below)).heap[q]? = some ce := by
    show T.heap[q]? = some ce
    rw [hT]; exact hcell
  have hend : Ended ((T.setVm vm').setFrames (.throwing q :: below)) below (.threw q) := State.frames_setFrames _ (State.cur_lt_of_frames hfr)
  refine ⟨(T.setVm vm').setFrames (.throwing q :: below), ?_, .threw q, X'.here.running, hend, Or.inr ⟨q, rfl, E, ce, locs, hx _ hT (X'.ends _).1.alike, hcell9, hv, hcl, (X'.ends _).1, (X'.ends _).2.mono hc hs, hf⟩⟩
  rw [X.pushThrowing_eq]
  exact st
/-- a thing of a world lies in the heap -/
theorem vx_lt {D : va_G} {cl : List vw_C} {ws : va_W} {H1 : Heap} (h : va_P D cl ws H1) {k : Nat} {q : Nat × va_E} (hk : ws[k]? = some q) : q.1 < H1.size := (h k q hk).lt
end VXS
/-! ===== END ===== -/
/-! ===== BEGIN methods with a table of their own: called by a name, returning or throwing ===== -/
section VXH
/-! vx_backW, vx_callVX, vx_callSX, vx_callVW, vx_runVW, vx_runVX, vx_runSX, vx_ofWH follow the same proofs as their sisters above (Free/Laws.lean, Shelf42/LK1.lean); vx_outP calls Shelf42/NT130.lean (outThrough). -/
section
variable {l : Launch} {R : Room} {p : Program} {e : Env} {below : List Frame} {s : State} {sargs : Array Value} {y : MethodName} {len W9 : Nat}
theorem vx_backW {ws : List Cond} {rm : Room} {Pc : Array Value → State → Prop} {Qc : Array Value → State → Outcome → State → Prop} {XC : String → State → State → Prop} {mc ms : Nat} {free : Addr → Prop} {bytes : ByteArray} {maxL : Nat} {ret : Option FieldType} {hh : List (Nat × Nat × Nat × Nat)}
    (hM : vx_Met l y ws rm Pc Qc XC mc ms free) (hblind : FrameBlind Pc) (hrc : rm.cells = mc) (hrs : rm.slots = ms)
    (hframes : rm.frames + 1 ≤ R.frames) (hlocals : W9 + (maxL + 11) + rm.locals ≤ R.locals)
    (hws : ∀ w ∈ ws, ∀ a' U, s.WarmedH U.vm → w.before a' U = true) (hcode : Cond.codeWith y bytes maxL ret hh ∈ ws) (hinit : ∀ a' U, s.WarmedH U.vm → (Cond.initialized y.cls).before a' U = true) :
    vx_Back l R p e below s sargs y len W9 (PreOf R mc ms Pc) (PostOf Qc mc ms free) (vx_Post XC mc ms free) := by
  intro m meth c A g ig mk a X hg hsize hdg hW hn hp
  have h1 : (headSpec ws rm).pre.before a A.U = true := atoms_intro fun w hw => hws w hw _ _ X.warmed
  have h2 : (Cond.codeWith y bytes maxL ret hh).before a A.U = true := hws _ hcode _ _ X.warmed
  have h3 : (Cond.initialized y.cls).before a A.U = true := hinit _ _ X.warmed
  have h4 : A.cells + (headSpec ws rm).room.cells ≤ R.cells := by rw [show (headSpec ws rm).room.cells = mc from hrc]; exact hp.1
  have h5 : A.slots + (headSpec ws rm).room.slots ≤ R.slots := by rw [show (headSpec ws rm).room.slots = ms from hrs]; exact hp.2.1
  have hPc : Pc a (A.U.calling g mk a) := hblind _ _ _ _ hp.2.2
  obtain ⟨U, Ls, c0, s0⟩ := A
  dsimp only [Pt.U, Pt.locs, Pt.cells, Pt.slots] at h1 h2 h3 h4 h5 X hn hPc ⊢
  obtain ⟨m9, methY, cY, hn9, hmY, hcY, -, hlY, -⟩ := Cond.codeWith_spec h2
  cases Option.some.inj (hn9.symm.trans hn)
  obtain ⟨kY, hkY, -⟩ := className_of_methodNamed hn
  have hinitY : kY.init = .initialized := Cond.initialized_spec (findClass_of_methodNamed hn) hkY h3
  have h : At U g.method c below := by rw [hg]; exact X.here
  have hlocals9 : W9 + (maxL + 11) + (headSpec ws rm).room.locals ≤ R.locals := hlocals
  have happ : (headSpec ws rm).appliesLoose y e.platform (U.calling g mk a) = true :=
    Spec.appliesLoose_calling (g := g) h hdg hn hkY hinitY
      (X.room_calling (g := g) (R' := (headSpec ws rm).room) hsize hmY hcY hframes (by rw [hlY]; omega) h4 h5) h1
  obtain ⟨mid, hmid⟩ := h.above
  have hfr : (U.setTop g).frames = (.java g :: mid) ++ below := by rw [State.frames_setTop' g h.top, hmid]; rfl
  obtain ⟨o, s₂, hsteps, -, hend, hq⟩ := Steps.callFree hM p X.admits X.cas X.clock (acts := []) hfr happ hPc trivial
  have hq' : vx_Q Qc XC mc ms free a (U.calling g mk a) o s₂ := hq
  rw [State.frames_setTop' g h.top] at hend
  obtain ⟨g₀, hg0⟩ := Option.isSome_iff_exists.mp h.top
  obtain ⟨r, hr⟩ := State.topJava?_eq_some.mp hg0
  have hr' : (({ U with heap := s₂.heap, slotsUsed := s₂.slotsUsed } : State).setVm s₂.vm).frames = .java g₀ :: r := hr
  rcases hq' with ⟨hqc, L, hfe, hL⟩ | ⟨q, rfl, E, ce, L, hx, hce, hcv, hcl, hW₂, hsm, hL⟩
  · obtain ⟨⟨v, rfl⟩, hW₂, e2, q2, q3, q4, q5, q6⟩ := id hfe
    have e3 : s₂ = ({ (U.calling g mk a).setFrames s₂.frames with heap := s₂.heap, slotsUsed := s₂.slotsUsed } : State).setVm s₂.vm := by
      have : s₂ = ({ s₂ with vm := (U.calling g mk a).vm } : State).setVm s₂.vm := rfl
      rw [e2] at this
      exact this
    obtain ⟨c₂, i₂, len₂, hc₂, hd₂, hf₂⟩ := hend
    have hW' : U.WarmedH s₂.vm := hW₂
    have hcc : c₂ = c := by
      have h1 : s₂.code? g.method = U.code? g.method := by
        rw [State.code?_eq, State.code?_eq, hW'.alike.method?]
      exact Option.some.inj (hc₂.symm.trans (h1.trans h.code))
    subst hcc
    have hlen : len₂ = len := by rw [hdg] at hd₂; cases hd₂; rfl
    subst hlen
    have hs₂ : s₂ = (({ U with heap := s₂.heap, slotsUsed := s₂.slotsUsed } : State).setVm s₂.vm).setTop { g with pc := g.pc + len₂, stack := v.toList ++ g.stack } := by
      refine e3.trans ?_
      rw [hf₂, State.calling_eq h.top, State.setFrames_setFrames, State.setTop_of_frames _ hr', hr]
      rfl
    have hsame : U.sameButNew ({ U with heap := s₂.heap, slotsUsed := s₂.slotsUsed } : State) L mc ms := by
      refine ⟨?_, q2, q3, q4, q5, q6⟩
      obtain ⟨t, ht, -⟩ := State.frames_cons hr
      show ({ U with heap := s₂.heap, slotsUsed := s₂.slotsUsed } : State) = { U.setFrames U.frames with heap := s₂.heap, slotsUsed := s₂.slotsUsed }
      rw [State.setFrames_self ht]
    subst hg
    refine Or.inl ⟨v, ⟨(({ U with heap := s₂.heap, slotsUsed := s₂.slotsUsed } : State).setVm s₂.vm), Ls ++ L, c0 + mc, s0 + ms⟩,
      ⟨X.admits, X.cas, X.clock, X.frames, X.room, X.hears, X.method, X.code, (X.here.setHeapUsed s₂.heap s₂.slotsUsed).setVm hW'.alike, X.tail, State.WarmedH.trans X.warmed hW', X.limits, X.bytes, X.same.trans (hsame.setVm s.vm)⟩,
      ⟨g, mk, s₂, L, rfl, rfl, hqc, rfl, hL, rfl, rfl⟩, ?_⟩
    show Steps p.tables e below _ ((({ U with heap := s₂.heap, slotsUsed := s₂.slotsUsed } : State).setVm s₂.vm).setTop { g with pc := g.pc + len₂, stack := v.toList ++ g.stack })
    rw [← hs₂]
    exact hsteps
  · obtain ⟨e2, q2, q3, q4, q5, q6⟩ := id hsm
    have e3 : s₂ = ({ (U.calling g mk a).setFrames s₂.frames with heap := s₂.heap, slotsUsed := s₂.slotsUsed } : State).setVm s₂.vm := by
      have : s₂ = ({ s₂ with vm := (U.calling g mk a).vm } : State).setVm s₂.vm := rfl
      rw [e2] at this
      exact this
    have hf₂ : s₂.frames = .throwing q :: .java g :: U.frames.tail := hend
    have hW' : U.WarmedH s₂.vm := hW₂
    have hs₂ : s₂ = ((({ U with heap := s₂.heap, slotsUsed := s₂.slotsUsed } : State).setVm s₂.vm).setTop g).pushFrame (.throwing q) := by
      refine e3.trans ?_
      rw [hf₂, State.calling_eq h.top, State.setFrames_setFrames, State.pushFrame, State.frames_setTop _ hr', State.setTop_of_frames _ hr', State.setFrames_setFrames, hr]
      rfl
    have hsame : U.sameButNew ({ U with heap := s₂.heap, slotsUsed := s₂.slotsUsed } : State) L mc ms := by
      refine ⟨?_, q2, q3, q4, q5, q6⟩
      obtain ⟨t, ht, -⟩ := State.frames_cons hr
      show ({ U with heap := s₂.heap, slotsUsed := s₂.slotsUsed } : State) = { U.setFrames U.frames with heap := s₂.heap, slotsUsed := s₂.slotsUsed }
      rw [State.setFrames_self ht]
    subst hg
    refine Or.inr ⟨q, ⟨(({ U with heap := s₂.heap, slotsUsed := s₂.slotsUsed } : State).setVm s₂.vm), Ls ++ L, c0 + mc, s0 + ms⟩,
      ⟨X.admits, X.cas, X.clock, X.frames, X.room, X.hears, X.method, X.code, (X.here.setHeapUsed s₂.heap s₂.slotsUsed).setVm hW'.alike, X.tail, State.WarmedH.trans X.warmed hW', X.limits, X.bytes, X.same.trans (hsame.setVm s.vm)⟩,
      ⟨g, mk, s₂, L, E, ce, rfl, rfl, hx, hce, hcv, hcl, rfl, hL, rfl, rfl⟩, ?_⟩
    show Steps p.tables e below _ (((({ U with heap := s₂.heap, slotsUsed := s₂.slotsUsed } : State).setVm s₂.vm).setTop g).pushFrame (.throwing q))
    rw [← hs₂]
    exact hsteps
end
variable {p : Program} {l : Launch} {e : Env} {R : Room} {s : State} {m : MethodId} {args : Array Value} {below : List Frame} {meth : Method} {c : Code} {T : State} {H : Heap} {locs : List Loc} {cells slots : Nat}
theorem vx_callVX (X : Stand p l e R s m args below meth c T locs cells slots) (hexec : p.tables.exec = Jvm.exec) {own C : String} {index : Nat} {y : MethodName} {bytes : ByteArray} {maxL : Nat} {ret : Option FieldType} {hh : List (Nat × Nat × Nat × Nat)}
    (hown : s.vm.findClass own = some m.cls) (hlink : (Cond.methodLink own index y).before args s = true) (hinst : (Cond.instanceMethod y).before args s = true) (hsel : (Cond.selects C y y).before args s = true)
    (hcode : (Cond.codeWith y bytes maxL ret hh).before args s = true) (hy : y.cls ≠ "java/lang/invoke/MethodHandle" ∧ y.cls ≠ "java/lang/invoke/VarHandle")
    {W9 : Nat} {Pre : Pt → Array Value → Prop} {Post : Pt → Array Value → Option Value → Pt → Prop} {PostX : Pt → Array Value → Addr → Pt → Prop} (hK : vx_Back l R p e below s args y 3 W9 Pre Post PostX)
    {b : Addr} {cellB : Cell} (hcell : T.heap[b]? = some cellB) (hobj : cellB.vm.isStatics = false) (hcls : s.vm.findClass C = some cellB.cls)
    {g : JFrame} (hg : g.method = m) (hsize : g.locals.size = c.maxLocals) {argsL rest : List Value} (hlen : ∀ sig, parseMethodDescriptor y.desc = some sig → argsL.length = sig.parameters.length)
    (hstack : g.stack = argsL.reverse ++ .ref b :: rest) (hW : 2 * g.monitorRoom + (rest.map fun v => v.category).sum ≤ W9) (hdg : decode c.code g.pc = .ok (.invokevirtual index, 3))
    (hpre : ∀ vm₁, s.WarmedH vm₁ → Pre ⟨T.setVm vm₁, locs, cells, slots⟩ (Value.ref b :: argsL).toArray) :
    (∃ (v : Option Value) (vm₁ : Vm) (B : Pt), s.WarmedH vm₁ ∧ Stand p l e R s m args below meth c B.U B.locs B.cells B.slots ∧ Post ⟨T.setVm vm₁, locs, cells, slots⟩ (Value.ref b :: argsL).toArray v B ∧
      ∀ target, Steps p.tables e below (B.U.setTop { g with pc := g.pc + 3, stack := v.toList ++ rest }) target → Steps p.tables e below (T.setTop g) target) ∨
    (∃ (q : Addr) (vm₁ : Vm) (B : Pt), s.WarmedH vm₁ ∧ Stand p l e R s m args below meth c B.U B.locs B.cells B.slots ∧ PostX ⟨T.setVm vm₁, locs, cells, slots⟩ (Value.ref b :: argsL).toArray q B ∧
      Steps p.tables e below (T.setTop g) ((B.U.setTop { g with stack := rest }).pushFrame (.throwing q))) := by
  obtain ⟨mk, methM, hnamed, hmethM, hstM, habM⟩ := Cond.instanceMethod_spec hinst
  obtain ⟨m8, methM', cM, hn8, hmethM', -, -, -, -, -, -, hsigM⟩ := Cond.codeWith_spec hcode
  cases Option.some.inj (hn8.symm.trans hnamed)
  cases hmethM.symm.trans hmethM'
  obtain ⟨c2, r2, m2, q1, q2, q3, q4, kP, hkP, hkPi⟩ := Cond.selects_spec hsel
  cases hcls.symm.trans q1
  cases (State.methodFound?_of_named hnamed hy).symm.trans q2
  cases hnamed.symm.trans q3
  have hselP : selectMethod e.platform s.vm cellB.cls mk = .method mk := by rw [Launch.admits_selectMethod X.admits]; exact q4
  obtain ⟨vm₁, X₁, hstep₁⟩ := X.invokevirtual hexec hown hlink hnamed hmethM hstM hkP hkPi hy (a := b) (cell := cellB) hcell
    (fun z h => by rw [h] at hobj; cases hobj) hselP hmethM habM hkP hkPi (g := g) hg (argsL := argsL) (rest := rest) (hlen _ hsigM) hstack hdg
  rcases hK m meth c ⟨T.setVm vm₁, locs, cells, slots⟩ { g with stack := rest } (.invokevirtual index) mk (Value.ref b :: argsL).toArray X₁ hg hsize hdg hW (X₁.named hnamed) (hpre vm₁ X₁.warmed) with ⟨v, B, X', hpost, hsteps⟩ | ⟨q, B, X', hpost, hsteps⟩
  · exact Or.inl ⟨v, vm₁, B, X₁.warmed, X', hpost, fun target h => hstep₁ _ fun acts => by rw [doInvoke_state]; exact hsteps.trans h⟩
  · exact Or.inr ⟨q, vm₁, B, X₁.warmed, X', hpost, hstep₁ _ fun acts => by rw [doInvoke_state]; exact hsteps⟩
theorem vx_callSX (X : Stand p l e R s m args below meth c T locs cells slots) (hexec : p.tables.exec = Jvm.exec) {own : String} {index : Nat} {y : MethodName} {bytes : ByteArray} {maxL : Nat} {ret : Option FieldType} {hh : List (Nat × Nat × Nat × Nat)}
    (hown : s.vm.findClass own = some m.cls) (hlink : (Cond.methodLink own index y).before args s = true) (hstat : (Cond.static y).before args s = true) (hinit : (Cond.initialized y.cls).before args s = true)
    (hcode : (Cond.codeWith y bytes maxL ret hh).before args s = true) (hy : y.cls ≠ "java/lang/invoke/MethodHandle" ∧ y.cls ≠ "java/lang/invoke/VarHandle")
    {W9 : Nat} {Pre : Pt → Array Value → Prop} {Post : Pt → Array Value → Option Value → Pt → Prop} {PostX : Pt → Array Value → Addr → Pt → Prop} (hK : vx_Back l R p e below s args y 3 W9 Pre Post PostX)
    {g : JFrame} (hg : g.method = m) (hsize : g.locals.size = c.maxLocals) {argsL rest : List Value} (hlen : ∀ sig, parseMethodDescriptor y.desc = some sig → argsL.length = sig.parameters.length)
    (hstack : g.stack = argsL.reverse ++ rest) (hW : 2 * g.monitorRoom + (rest.map fun v => v.category).sum ≤ W9) (hdg : decode c.code g.pc = .ok (.invokestatic index, 3))
    (hpre : ∀ vm₁, s.WarmedH vm₁ → Pre ⟨T.setVm vm₁, locs, cells, slots⟩ argsL.toArray) :
    (∃ (v : Option Value) (vm₁ : Vm) (B : Pt), s.WarmedH vm₁ ∧ Stand p l e R s m args below meth c B.U B.locs B.cells B.slots ∧ Post ⟨T.setVm vm₁, locs, cells, slots⟩ argsL.toArray v B ∧
      ∀ target, Steps p.tables e below (B.U.setTop { g with pc := g.pc + 3, stack := v.toList ++ rest }) target → Steps p.tables e below (T.setTop g) target) ∨
    (∃ (q : Addr) (vm₁ : Vm) (B : Pt), s.WarmedH vm₁ ∧ Stand p l e R s m args below meth c B.U B.locs B.cells B.slots ∧ PostX ⟨T.setVm vm₁, locs, cells, slots⟩ argsL.toArray q B ∧
      Steps p.tables e below (T.setTop g) ((B.U.setTop { g with stack := rest }).pushFrame (.throwing q))) := by
  obtain ⟨mk, methM, cM, hnamed, hmethM, -, -, -, -, -, -, hsigM⟩ := Cond.codeWith_spec hcode
  have hstatic : methM.isStatic = true := Cond.static_spec hnamed hmethM hstat
  obtain ⟨kP, hkP, -⟩ := className_of_methodNamed hnamed
  have hinitP : kP.init = .initialized := Cond.initialized_spec (findClass_of_methodNamed hnamed) hkP hinit
  obtain ⟨vm₁, X₁, hstep₁⟩ := X.invokestatic hexec hown hlink hnamed hmethM hstatic hkP hinitP hy (g := g) hg (argsL := argsL) (rest := rest) (hlen _ hsigM) hstack hdg
  rcases hK m meth c ⟨T.setVm vm₁, locs, cells, slots⟩ { g with stack := rest } (.invokestatic index) mk argsL.toArray X₁ hg hsize hdg hW (X₁.named hnamed) (hpre vm₁ X₁.warmed) with ⟨v, B, X', hpost, hsteps⟩ | ⟨q, B, X', hpost, hsteps⟩
  · exact Or.inl ⟨v, vm₁, B, X₁.warmed, X', hpost, fun target h => hstep₁ _ fun acts => by rw [doInvoke_state]; exact hsteps.trans h⟩
  · exact Or.inr ⟨q, vm₁, B, X₁.warmed, X', hpost, hstep₁ _ fun acts => by rw [doInvoke_state]; exact hsteps⟩
theorem vx_callVW (X : Stand p l e R s m args below meth c T locs cells slots) (hexec : p.tables.exec = Jvm.exec) {own C : String} {index : Nat} {y : MethodName} {bytes : ByteArray} {maxL : Nat} {ret : Option FieldType} {hh : List (Nat × Nat × Nat × Nat)}
    (hown : s.vm.findClass own = some m.cls) (hlink : (Cond.methodLink own index y).before args s = true) (hinst : (Cond.instanceMethod y).before args s = true) (hsel : (Cond.selects C y y).before args s = true)
    (hcode : (Cond.codeWith y bytes maxL ret hh).before args s = true) (hy : y.cls ≠ "java/lang/invoke/MethodHandle" ∧ y.cls ≠ "java/lang/invoke/VarHandle")
    {W9 : Nat} {Pre : Pt → Array Value → Prop} {Post : Pt → Array Value → Option Value → Pt → Prop} (hK : Back l R p e below s args y 3 W9 Pre Post)
    {b : Addr} {cellB : Cell} (hcell : T.heap[b]? = some cellB) (hobj : cellB.vm.isStatics = false) (hcls : s.vm.findClass C = some cellB.cls)
    {g : JFrame} (hg : g.method = m) (hsize : g.locals.size = c.maxLocals) {argsL rest : List Value} (hlen : ∀ sig, parseMethodDescriptor y.desc = some sig → argsL.length = sig.parameters.length)
    (hstack : g.stack = argsL.reverse ++ .ref b :: rest) (hW : 2 * g.monitorRoom + (rest.map fun v => v.category).sum ≤ W9) (hdg : decode c.code g.pc = .ok (.invokevirtual index, 3))
    (hpre : ∀ vm₁, s.WarmedH vm₁ → Pre ⟨T.setVm vm₁, locs, cells, slots⟩ (Value.ref b :: argsL).toArray) :
    ∃ (v : Option Value) (vm₁ : Vm) (B : Pt), s.WarmedH vm₁ ∧ Stand p l e R s m args below meth c B.U B.locs B.cells B.slots ∧ Post ⟨T.setVm vm₁, locs, cells, slots⟩ (Value.ref b :: argsL).toArray v B ∧
      ∀ target, Steps p.tables e below (B.U.setTop { g with pc := g.pc + 3, stack := v.toList ++ rest }) target → Steps p.tables e below (T.setTop g) target := by
  obtain ⟨mk, methM, hnamed, hmethM, hstM, habM⟩ := Cond.instanceMethod_spec hinst
  obtain ⟨m8, methM', cM, hn8, hmethM', -, -, -, -, -, -, hsigM⟩ := Cond.codeWith_spec hcode
  cases Option.some.inj (hn8.symm.trans hnamed)
  cases hmethM.symm.trans hmethM'
  obtain ⟨c2, r2, m2, q1, q2, q3, q4, kP, hkP, hkPi⟩ := Cond.selects_spec hsel
  cases hcls.symm.trans q1
  cases (State.methodFound?_of_named hnamed hy).symm.trans q2
  cases hnamed.symm.trans q3
  have hselP : selectMethod e.platform s.vm cellB.cls mk = .method mk := by rw [Launch.admits_selectMethod X.admits]; exact q4
  obtain ⟨vm₁, X₁, hstep₁⟩ := X.invokevirtual hexec hown hlink hnamed hmethM hstM hkP hkPi hy (a := b) (cell := cellB) hcell
    (fun z h => by rw [h] at hobj; cases hobj) hselP hmethM habM hkP hkPi (g := g) hg (argsL := argsL) (rest := rest) (hlen _ hsigM) hstack hdg
  obtain ⟨v, B, X', hpost, hsteps⟩ := hK m meth c ⟨T.setVm vm₁, locs, cells, slots⟩ { g with stack := rest } (.invokevirtual index) mk (Value.ref b :: argsL).toArray X₁ hg hsize hdg hW (X₁.named hnamed) (hpre vm₁ X₁.warmed)
  exact ⟨v, vm₁, B, X₁.warmed, X', hpost, fun target h => hstep₁ _ fun acts => by rw [doInvoke_state]; exact hsteps.trans h⟩
abbrev vx_CVW (R : Room) (s : State) (args : Array Value) (own C : String) (index : Nat) (y : MethodName) (bytes : ByteArray) (maxL : Nat) (ret : Option FieldType) (hh : List (Nat × Nat × Nat × Nat)) (ws : List Cond) (rm : Room) (mc ms n : Nat) : Prop :=
  (rm.cells = mc ∧ rm.slots = ms ∧ rm.frames + 1 ≤ R.frames ∧ 8 + (maxL + 11) + rm.locals ≤ R.locals ∧ (∀ w ∈ ws, ∀ (a' : Array Value) (U : State), s.WarmedH U.vm → w.before a' U = true) ∧ Cond.codeWith y bytes maxL ret hh ∈ ws) ∧
  (Cond.codeWith y bytes maxL ret hh).before args s = true ∧ (Cond.initialized y.cls).before args s = true ∧ (y.cls ≠ "java/lang/invoke/MethodHandle" ∧ y.cls ≠ "java/lang/invoke/VarHandle") ∧
  (∀ sig, parseMethodDescriptor y.desc = some sig → n = sig.parameters.length) ∧ (Cond.methodLink own index y).before args s = true ∧ (Cond.instanceMethod y).before args s = true ∧ (Cond.selects C y y).before args s = true
theorem vx_cwVW {own C : String} {index maxL mc ms : Nat} {y : MethodName} {bytes : ByteArray} {ret : Option FieldType} {hh : List (Nat × Nat × Nat × Nat)} {Ts ws ws' : List Cond} {rm : Room} (n : Nat) (ht : ∀ w ∈ Ts, w.before args s = true) (hT : GoodIn Ts (wsV own index C y ws)) (hw : ws = Cond.codeWith y bytes maxL ret hh :: ws') (hrc : rm.cells = mc) (hrs : rm.slots = ms)
    (hd : y.cls = C ∧ y.cls ≠ "java/lang/invoke/MethodHandle" ∧ y.cls ≠ "java/lang/invoke/VarHandle" ∧ (parseMethodDescriptor y.desc).map (fun d => d.parameters.length) = some n) (hR : rm.frames + 1 ≤ R.frames ∧ 8 + (maxL + 11) + rm.locals ≤ R.locals) :
    vx_CVW R s args own C index y bytes maxL ret hh ws rm mc ms n := by
  obtain ⟨hC, hd⟩ := hd
  subst hC
  have ok : ∀ w ∈ wsV own index y.cls y ws, w.before args s = true := fun w h => ht w (hT w h).1
  have hG : GoodIn Ts ws := fun w h => hT w (by unfold wsV; exact List.mem_append_right _ h)
  have hc : Cond.codeWith y bytes maxL ret hh ∈ ws := by rw [hw]; exact List.mem_cons_self
  refine ⟨⟨hrc, hrs, hR.1, hR.2, pay_in ht hG, hc⟩, ht _ (hG _ hc).1, ok _ (by simp [wsV]), ⟨hd.1, hd.2.1⟩, fun sig h => ?_, ok _ (by simp [wsV]), ok _ (by simp [wsV]), ok _ (by simp [wsV])⟩
  have h2 := hd.2.2
  rw [h] at h2
  exact (Option.some.inj h2).symm
theorem vx_runVW {y : MethodName} {bytes cc : ByteArray} {maxL nL mc ms n index : Nat} {ret : Option FieldType} {hh : List (Nat × Nat × Nat × Nat)} {ws : List Cond} {rm : Room} {Pc : Array Value → State → Prop} {Qc : Array Value → State → Outcome → State → Prop} {free : Addr → Prop} {Ts : List Cond} {own C : String} {b : Addr} {As rest : List Value} {g : JFrame}
    (S : CallFix p m c cc nL s args Ts own) (hM : Met l y ws rm Pc Qc mc ms free) (cw : vx_CVW R s args own C index y bytes maxL ret hh ws rm mc ms n) (hp : PreV s H C b Pc As)
    (hg : g.method = m) (hn : As.length = n) (hsize : g.locals.size = nL) (hstack : g.stack = As.reverse ++ .ref b :: rest) (hW : 2 * g.monitorRoom + (rest.map fun v => v.category).sum ≤ 8) (hdg : decode cc g.pc = .ok (.invokevirtual index, 3)) (hf : cells + mc ≤ R.cells ∧ slots + ms ≤ R.slots) :
    va_Run p l e R s m args below meth c H locs cells slots mc ms g rest (Qc (Value.ref b :: As).toArray) free := by
  obtain ⟨⟨hrc, hrs, hfr, hlo, hws, hcw⟩, hcode, hini, hy, hlen, hl, hin, hse⟩ := cw
  have hK : Back l R p e below s args y 3 8 (PreOf R mc ms Pc) (PostOf Qc mc ms free) := va_backW (hh := hh) (bytes := bytes) (maxL := maxL) (ret := ret) hM hp.1 hrc hrs hfr hlo hws hcw (fun a' U hW => word_at hW (Or.inl (by first | rfl | simp [Cond.onTables, Cond.keeps, Cond.steady])) hini)
  obtain ⟨hx, hb, hml, ho, -⟩ := S
  obtain ⟨-, ⟨cellB, hcB, hoB, hclB⟩, hPc⟩ := hp
  intro T hT X
  obtain ⟨v, vm₁, ⟨U', l2, c2, s2⟩, hW₁, X', ⟨g', mk, t, L, e1, e2, hq, h1, hL, h2, h3⟩, st⟩ := vx_callVW X hx (C := C) (hh := hh) (bytes := bytes) (maxL := maxL) (ret := ret) ho hl hin hse hcode hy hK (by rw [hT]; exact hcB) hoB hclB hg (hsize.trans hml.symm) (argsL := As) (rest := rest) (fun sig h => hn.trans (hlen sig h)) hstack hW (by rw [hb]; exact hdg)
    (fun vm₁ hW₁ => ⟨hf.1, hf.2, hPc (T.setVm vm₁) hT hW₁⟩)
  dsimp only [Pt.U, Pt.locs, Pt.cells, Pt.slots] at X' e1 e2 h1 h2 h3 st
  subst h1; subst h2; subst h3
  exact ⟨v, (T.setVm vm₁).calling g' mk (Value.ref b :: As).toArray, t, U', L, hT, X', hL, e1, e2, hq, st⟩
section
variable {y : MethodName} {bytes cc : ByteArray} {maxL nL mc ms n index : Nat} {ret : Option FieldType} {ws : List Cond} {rm : Room} {Pc : Array Value → State → Prop} {Qc : Array Value → State → Outcome → State → Prop} {XC : String → State → State → Prop} {free : Addr → Prop} {Ts : List Cond} {own C : String} {b : Addr} {As rest : List Value} {g : JFrame}
theorem vx_runVX {hh : List (Nat × Nat × Nat × Nat)} (S : CallFix p m c cc nL s args Ts own) (hM : vx_Met l y ws rm Pc Qc XC mc ms free) (cw : vx_CVW R s args own C index y bytes maxL ret hh ws rm mc ms n) (hp : PreV s H C b Pc As)
    (hg : g.method = m) (hn : As.length = n) (hsize : g.locals.size = nL) (hstack : g.stack = As.reverse ++ .ref b :: rest) (hW : 2 * g.monitorRoom + (rest.map fun v => v.category).sum ≤ 8) (hdg : decode cc g.pc = .ok (.invokevirtual index, 3)) (hf : cells + mc ≤ R.cells ∧ slots + ms ≤ R.slots) :
    vx_Run p l e R s m args below meth c H locs cells slots mc ms g rest (Qc (Value.ref b :: As).toArray) XC free := by
  obtain ⟨⟨hrc, hrs, hfr, hlo, hws, hcw⟩, hcode, hini, hy, hlen, hl, hin, hse⟩ := cw
  have hK : vx_Back l R p e below s args y 3 8 (PreOf R mc ms Pc) (PostOf Qc mc ms free) (vx_Post XC mc ms free) := vx_backW (hh := hh) (bytes := bytes) (maxL := maxL) (ret := ret) hM hp.1 hrc hrs hfr hlo hws hcw (fun a' U hW => word_at hW (Or.inl (by first | rfl | simp [Cond.onTables, Cond.keeps, Cond.steady])) hini)
  obtain ⟨hx, hb, hml, ho, -⟩ := S
  obtain ⟨-, ⟨cellB, hcB, hoB, hclB⟩, hPc⟩ := hp
  intro T hT X
  rcases vx_callVX X hx (C := C) (hh := hh) (bytes := bytes) (maxL := maxL) (ret := ret) ho hl hin hse hcode hy hK (by rw [hT]; exact hcB) hoB hclB hg (hsize.trans hml.symm) (argsL := As) (rest := rest) (fun sig h => hn.trans (hlen sig h)) hstack hW (by rw [hb]; exact hdg)
    (fun vm₁ hW₁ => ⟨hf.1, hf.2, hPc (T.setVm vm₁) hT hW₁⟩) with ⟨v, vm₁, ⟨U', l2, c2, s2⟩, hW₁, X', ⟨g', mk, t, L, e1, e2, hq, h1, hL, h2, h3⟩, st⟩ | ⟨q, vm₁, ⟨U', l2, c2, s2⟩, hW₁, X', ⟨g', mk, t, L, E, ce, e1, e2, hq, hce, hcv, hcl, h1, hL, h2, h3⟩, st⟩
  · dsimp only [Pt.U, Pt.locs, Pt.cells, Pt.slots] at X' e1 e2 h1 h2 h3 st
    subst h1; subst h2; subst h3
    exact Or.inl ⟨v, (T.setVm vm₁).calling g' mk (Value.ref b :: As).toArray, t, U', L, hT, X', hL, e1, e2, hq, st⟩
  · dsimp only [Pt.U, Pt.locs, Pt.cells, Pt.slots] at X' e1 e2 h1 h2 h3 st hcl
    subst h1; subst h2; subst h3
    exact Or.inr ⟨q, (T.setVm vm₁).calling g' mk (Value.ref b :: As).toArray, t, U', L, E, ce, hT, X', hL, e1, e2, hq, hce, hcv, vx_cls hW₁ hcl, st⟩
theorem vx_runSX {hh : List (Nat × Nat × Nat × Nat)} (S : CallFix p m c cc nL s args Ts own) (hM : vx_Met l y ws rm Pc Qc XC mc ms free) (cw : vx_CSW R s args own index y bytes maxL ret hh ws rm mc ms n) (hp : PreS s H Pc As)
    (hg : g.method = m) (hn : As.length = n) (hsize : g.locals.size = nL) (hstack : g.stack = As.reverse ++ rest) (hW : 2 * g.monitorRoom + (rest.map fun v => v.category).sum ≤ 8) (hdg : decode cc g.pc = .ok (.invokestatic index, 3)) (hf : cells + mc ≤ R.cells ∧ slots + ms ≤ R.slots) :
    vx_Run p l e R s m args below meth c H locs cells slots mc ms g rest (Qc As.toArray) XC free := by
  obtain ⟨⟨hrc, hrs, hfr, hlo, hws, hcw⟩, hcode, hini, hy, hlen, hl, hstt⟩ := cw
  have hK : vx_Back l R p e below s args y 3 8 (PreOf R mc ms Pc) (PostOf Qc mc ms free) (vx_Post XC mc ms free) := vx_backW (hh := hh) (bytes := bytes) (maxL := maxL) (ret := ret) hM hp.1 hrc hrs hfr hlo hws hcw (fun a' U hW => word_at hW (Or.inl (by first | rfl | simp [Cond.onTables, Cond.keeps, Cond.steady])) hini)
  obtain ⟨hx, hb, hml, ho, -⟩ := S
  intro T hT X
  rcases vx_callSX X hx (hh := hh) (bytes := bytes) (maxL := maxL) (ret := ret) ho hl hstt hini hcode hy hK hg (hsize.trans hml.symm) (argsL := As) (rest := rest) (fun sig h => hn.trans (hlen sig h)) hstack hW (by rw [hb]; exact hdg)
    (fun vm₁ hW₁ => ⟨hf.1, hf.2, hp.2 (T.setVm vm₁) hT hW₁⟩) with ⟨v, vm₁, ⟨U', l2, c2, s2⟩, hW₁, X', ⟨g', mk, t, L, e1, e2, hq, h1, hL, h2, h3⟩, st⟩ | ⟨q, vm₁, ⟨U', l2, c2, s2⟩, hW₁, X', ⟨g', mk, t, L, E, ce, e1, e2, hq, hce, hcv, hcl, h1, hL, h2, h3⟩, st⟩
  · dsimp only [Pt.U, Pt.locs, Pt.cells, Pt.slots] at X' e1 e2 h1 h2 h3 st
    subst h1; subst h2; subst h3
    exact Or.inl ⟨v, (T.setVm vm₁).calling g' mk As.toArray, t, U', L, hT, X', hL, e1, e2, hq, st⟩
  · dsimp only [Pt.U, Pt.locs, Pt.cells, Pt.slots] at X' e1 e2 h1 h2 h3 st hcl
    subst h1; subst h2; subst h3
    exact Or.inr ⟨q, (T.setVm vm₁).calling g' mk As.toArray, t, U', L, E, ce, hT, X', hL, e1, e2, hq, hce, hcv, vx_cls hW₁ hcl, st⟩
end
end VXH
theorem vx_ofWH {l : Launch} {y : MethodName} {ws ws' : List Cond} {rm : Room} {Pc : Array Value → State → Prop} {Qc : Array Value → State → Outcome → State → Prop} {XC : String → State → State → Prop} {mc ms : Nat} {free : Addr → Prop} {cc : ByteArray} {maxL : Nat} {ret : Option FieldType} {hh : List (Nat × Nat × Nat × Nat)}
    (hy : plainName y.cls = true) (hw : ws = Cond.codeWith y cc maxL ret hh :: ws')
    (body : ∀ p e s m args below meth c s₁, BodyLoose p l y (headSpec ws rm) cc maxL ret e s m args below meth c s₁ → c.maxLocals = maxL → Pc args s →
      W p l e (headSpec ws rm).room s m args below meth c s.heap [] 0 0 (vx_MQ below Qc XC args s mc ms free) (entryFrame m args maxL)) : vx_Met l y ws rm Pc Qc XC mc ms free := by
  refine MetFree.of_bodyS (code := cc) (maxLocals := maxL) (ret := ret) hy ?_ ?_
  · intro args s m h hn
    obtain ⟨m9, meth, c, hn9, h1, h2, h3, h4, -, h5, h6, -⟩ := Cond.codeWith_spec (atoms_spec (ws := ws) h _ (by rw [hw]; exact List.mem_cons_self))
    cases hn.symm.trans hn9
    exact ⟨meth, c, h1, h2, h3, h4, h5, h6⟩
  · intro p e s m args below meth c s₁ B hml hP _
    have hh0 : s₁.heap = s.heap := by rw [B.state]; rfl
    obtain ⟨t, a1, o, b1, b2, b3⟩ := body p e s m args below meth c s₁ B hml hP s₁ hh0 (Stand.of_body B)
    exact ⟨t, o, a1, b1, b2, b3⟩
/-! ===== END ===== -/
/-! ===== BEGIN what the machine throws by itself, no traces kept ===== -/
section VXM
set_option maxHeartbeats 1000000 in
/-- the machine throws cls with the message text, no traces kept: from its note over the frame g to 'throwing' over the same frame (follows the proofs of Stand.vmThrowsMessage, Shelf/KitTracedVmS.lean, and Stand.throwsMessageColdBareV, StandMessageColdV.lean, without the step out of the frame) -/
theorem vx_vmAt {p : Program} {l : Launch} {e : Env} {R : Room} {s : State} {m₀ : MethodId} {args : Array Value} {below : List Frame} {meth : Method} {c : Code} {W : State} {locs : List Loc} {cells slots : Nat}
    (X : Stand p l e R s m₀ args below meth c W locs cells slots) (hexec : p.tables.exec = Jvm.exec) (htr : e.platform.stackTraces = false) {cls : String} {names : List String} {text : String}
    (hcls : Bundle.fit cls = true) (hnames : ∀ n ∈ names, Bundle.fit n = true) (hsoe : (cls == "java/lang/StackOverflowError") = false) (hoom : (cls == "java/lang/OutOfMemoryError") = false)
    (h : ∀ a ∈ Bundle.messageArmAtoms cls names, a.before args s = true)
    (hlocs : ∀ x ∈ locs, ∀ cell, s.heap[x.base]? = some cell → cell.vm.isStatics = false)
    (htext : (text == notModelled) = false) (hlimit : ¬ (stringBytes (stringToUtf16 text)).size > e.platform.arrayLengthLimit) (hheap : ¬ (stringBytes (stringToUtf16 text)).size * componentBytes .byte > e.platform.maxHeapBytes)
    {g : JFrame} (hg : g.method = m₀) (hsize : g.locals.size = c.maxLocals)
    (hRframes : names.length + 4 < R.frames) (hRlocals : 2 * g.monitorRoom + (g.stack.map fun v => v.category).sum + 10240 ≤ R.locals) (hshort : 13 * names.length + 55 ≤ 10240)
    (hRcells : cells + 3 ≤ R.cells) (hRslots : slots + ((stringBytes (stringToUtf16 text)).size + 4 + 6) ≤ R.slots) (hlocks : meth.locks = false) :
    ∃ (S : State) (q : Addr) (ce : Cell), (∀ target, Steps p.tables e below ((S.setTop g).pushFrame (.throwing q)) target → Steps p.tables e below ((W.setTop g).pushFrame (.throwNew cls (some text) none)) target) ∧
      Stand p l e R s m₀ args below meth c S locs (cells + 3) (slots + ((stringBytes (stringToUtf16 text)).size + 4 + 6)) ∧ S.heap[q]? = some ce ∧ s.vm.findClass cls = some ce.cls ∧ ce.vm = .none := by
  have howns : e.platform.frameOwnsMonitors = true := by rw [X.admits.platform]
  have hfin : e.platform.finalization = false := by rw [X.admits.platform]
  have hpl : e.platform.magicAccessors = ({} : Platform).magicAccessors := by rw [X.admits.platform]
  have a : ∀ x, x ∈ Bundle.messageArmAtoms cls names → x.holds args s none s [] = true := fun x hx => h x hx
  obtain ⟨T, Z0, L, -, Y⟩ := ThrowableC.of_atoms (args := args) howns hfin hpl (fun x hx => h x (by simp [Bundle.messageArmAtoms, hx]))
  obtain ⟨Z, M, LZ, LM, hnZ⟩ := Init0T.ofS_atoms (args := args) hpl L Y (fun x hx => h x (by simp [Bundle.messageArmAtoms, hx]))
  obtain ⟨P1, Ps, hlen, L1, hL, hP1m, hlink1, hlink⟩ := Bundle.chainS (args := args) hpl hnZ names cls hcls hnames (fun x hx => h x (by simp [Bundle.messageArmAtoms, hx]))
  obtain ⟨Zs, LZs, hn4, hfitv, hfitc⟩ := StringT.of_atoms (args := args) (fun x hx => h x (by simp [Bundle.messageArmAtoms, hx]))
  have hfound : s.vm.findClass cls = some P1.m.cls := findClass_of_methodNamed hP1m
  obtain ⟨c1, kX, hc1, hk, hord, -, -, hn6⟩ := Cond.instantiable_spec (a (.instantiable cls 6) (by simp [Bundle.messageArmAtoms]))
  cases Option.some.inj (hc1.symm.trans hfound)
  have hinit := Cond.initialized_spec hfound hk (a (.initialized cls) (by simp [Bundle.messageArmAtoms]))
  have hctor : kX.findMethod "<init>" "(Ljava/lang/String;)V" = some P1.m.idx := findMethod_of_methodNamed hP1m hk
  have hsel0 : selectMethod e.platform s.vm P1.m.cls T.fill0 = .method T.fill0 := by
    obtain ⟨c2, r2, m2, q1, q2, q3, q4, -⟩ := Cond.selects_spec (a (.selects cls Bundle.tFill0 Bundle.tFill0) (by simp [Bundle.messageArmAtoms]))
    cases Option.some.inj (q1.symm.trans hfound)
    cases Option.some.inj (q2.symm.trans (State.methodFound?_of_named Y.fill0 (by decide)))
    cases Option.some.inj (q3.symm.trans Y.fill0)
    rw [Launch.admits_selectMethod X.admits]; exact q4
  have hselF : selectMethod e.platform s.vm P1.m.cls T.fill = .method T.fill := by
    obtain ⟨c2, r2, m2, q1, q2, q3, q4, -⟩ := Cond.selects_spec (a (.selects cls Bundle.tFill Bundle.tFill) (by simp [Bundle.messageArmAtoms]))
    cases Option.some.inj (q1.symm.trans hfound)
    cases Option.some.inj (q2.symm.trans (State.methodFound?_of_named Y.fill (by decide)))
    cases Option.some.inj (q3.symm.trans Y.fill)
    rw [Launch.admits_selectMethod X.admits]; exact q4
  obtain ⟨cellS0, hcS0, hiss⟩ := Y.statics
  obtain ⟨u0, hu0⟩ := Cond.staticRefV Y.unassigned L.unassignedStatic L.statics hcS0 hiss (a (.isRef (.static Bundle.tN "UNASSIGNED_STACK" Bundle.steD)) (by simp [Bundle.messageArmAtoms]))
  obtain ⟨sen, hsen⟩ := Cond.staticRefV Y.sentinel L.sentinelStatic L.statics hcS0 hiss (a (.isRef (.static Bundle.tN "SUPPRESSED_SENTINEL" Bundle.listD)) (by simp [Bundle.messageArmAtoms]))
  obtain ⟨ci198, i198, fB, hk198, hg198, ha198, hsB, -, hnB, htB, hffB⟩ := Cond.ownField (t := .object "java/lang/Object") Y.found L.cls (by decide +kernel) (a (.fieldLink Bundle.tN 198 Bundle.tN "backtrace" "Ljava/lang/Object;") (by simp [Bundle.messageArmAtoms])) (a (.lays Bundle.tN Bundle.tN "backtrace" "Ljava/lang/Object;") (by simp [Bundle.messageArmAtoms])) e.platform hpl
  obtain ⟨cellS, hcS', heS, -, hkeep⟩ := X.same.2.2.2.2.2 T.aS cellS0 hcS0
  have hcellS : W.heap[T.aS]? = some cellS := hcS'
  have hout' : ∀ i, (⟨T.aS, i⟩ : Loc) ∉ locs := fun i hmem => by
    have := hlocs _ hmem cellS0 hcS0
    rw [hiss] at this; cases this
  have hknownS : cellS.vm ≠ .unknown := by
    rw [heS]; intro hu
    rw [show cellS0.vm = .unknown from hu] at hiss
    cases hiss
  have hvU : cellS.slots[T.fUnassigned.slot]? = some u0.v := by rw [hkeep _ (hout' _)]; exact hu0
  have hvSen : cellS.slots[T.fSentinel.slot]? = some sen.v := by rw [hkeep _ (hout' _)]; exact hsen
  obtain ⟨iM, hffM⟩ := Y.msg
  obtain ⟨tyC, dC, hdC, hdnC⟩ := Cond.laysAt hfound hk Y.cause (a (.lays cls Bundle.tN "cause" "Ljava/lang/Throwable;") (by simp [Bundle.messageArmAtoms]))
  obtain ⟨tyS, dS, hdS, hdnS⟩ := Cond.laysAt hfound hk Y.stack (a (.lays cls Bundle.tN "stackTrace" Bundle.steD) (by simp [Bundle.messageArmAtoms]))
  obtain ⟨tyP, dP, hdP, hdnP⟩ := Cond.laysAt hfound hk Y.supp (a (.lays cls Bundle.tN "suppressedExceptions" Bundle.listD) (by simp [Bundle.messageArmAtoms]))
  obtain ⟨tyM, dM, hdM, hdnM⟩ := Cond.laysAt hfound hk hffM (a (.lays cls Bundle.tN "detailMessage" "Ljava/lang/String;") (by simp [Bundle.messageArmAtoms]))
  obtain ⟨tyB, dB, hdB, hdnB⟩ := Cond.laysAt hfound hk hffB (a (.lays cls Bundle.tN "backtrace" "Ljava/lang/Object;") (by simp [Bundle.messageArmAtoms]))
  have bC := Cond.laysApart hdB hdC hdnB hdnC (by rw [hnB, Y.causeName]; decide)
  have bS := Cond.laysApart hdB hdS hdnB hdnS (by rw [hnB, Y.stackName]; decide)
  have bP := Cond.laysApart hdB hdP hdnB hdnP (by rw [hnB, Y.suppName]; decide)
  have hbk : ((preparedCellV T.toThrowableT (freshCell P1.m.cls kX) (W.heap.size + 2) u0 sen).withEntry W.cur).slots[fB.slot]? = some .null := by
    have := fresh_default (c := P1.m.cls) tyB
    rw [htB] at this
    simpa [preparedCellV, Cell.setSlot, Cell.withEntry, Array.getElem?_setIfInBounds, bC, bS, bP, bC.symm, bS.symm, bP.symm, defaultValue] using this
  have tkC := Takes.of_laid (v := .ref (W.heap.size + 2)) hk hord tyC (by rw [Y.causeType]; rfl)
  have tkS := Takes.of_laid (v := u0.v) hk hord tyS (by rw [Y.stackType]; exact fits_refV_array _ u0)
  have tkP := Takes.of_laid (v := sen.v) hk hord tyP (by rw [Y.suppType]; exact fits_refV_object _ sen)
  have tkM := Takes.of_laid (v := .ref (W.heap.size + 1)) hk hord tyM (by rw [Y.msgType]; rfl)
  have hskip : SkipFacts T e.platform s (fun u => u) u0 ((preparedCellV T.toThrowableT (freshCell P1.m.cls kX) (W.heap.size + 2) u0 sen).withEntry W.cur) := ⟨{ ci198 := ci198, i198 := i198, fBack := fB }, ⟨hk198, hg198, ha198, hsB⟩, hbk, fun _ _ => rfl⟩
  have h0 : At W g.method c below := by rw [hg]; exact X.here
  obtain ⟨hbeyond, hfreeW⟩ := X.vmMayThrow hsize (.throwNew cls (some text) none) (fun f hf => by cases hf) rfl hRlocals
  have hfr' : W.frames.length + Ps.length + 4 < (e.platform.stackLimits W.me).1 := by have := X.framesAbove hRframes; omega
  have hwd' : (stackUse (.java g :: W.frames.tail)).2 + 13 * Ps.length + 55 ≤ (e.platform.stackLimits W.me).2 := by have := X.stackAbove hsize (K := 13 * Ps.length + 55) (by omega); omega
  have hslots : W.slotsUsed + (stringBytes (stringToUtf16 text)).size + Zs.kS.instanceTypes.size + kX.instanceTypes.size ≤ e.platform.maxSlots := by
    have := X.slotsAbove hRslots
    rw [hn4, hn6]
    omega
  obtain ⟨vm', hW', st⟩ := Steps.vmThrowsMessageColdByV p (s₀ := s) (S := W) (g := g) h0 hexec T L Z LZ M LM X.warmed (t := W.cur) rfl Zs LZs P1 L1 Ps hL hlink1 hlink hsoe hoom hfound hk hinit hord hctor
    (Launch.admits_hotImplicitExceptions X.admits) hbeyond hfreeW htext hlimit hheap (X.cellsAbove hRcells) hslots (hfitv _) (hfitc _)
    (Nn := fun u => u) heapOnly_id (fun _ _ => rfl) (fun _ => rfl) (fun u x y => setCell_twice _ _ _ _) (fun _ => Nat.le_refl _) (cN := ((preparedCellV T.toThrowableT (freshCell P1.m.cls kX) (W.heap.size + 2) u0 sen).withEntry W.cur))
    hsel0 hcellS hknownS hvU tkS (fun _ hu => hu) (fun _ hu => hu) rfl rfl rfl (by simp [preparedCellV, Cell.setSlot, Cell.withEntry]) hskip (fun _ _ hA hW _ hroom _ hrest => L.nativeOff p htr hA hW hroom hrest) hselF hvSen tkC tkP tkM Y.objLocals rfl hfr' hwd'
  rw [plainBareV_eq T.toThrowableT (W.heap.size + 2) u0 sen (.ref (W.heap.size + 1)) W.cur rfl rfl] at st
  obtain ⟨-, -, w3, w4, -, -, -⟩ := withThrown_facts e.platform W Zs text P1.m.cls kX
  have X3 := ((X.pushed (bytesOf Zs.cB (stringToUtf16 text))).pushed (stringAt Zs.cS Zs.kS Zs.fv Zs.fc (stringToUtf16 text) W.heap.size)).pushed (freshCell P1.m.cls kX)
  rw [← withString_eq] at X3
  have X4 := X3.noted hW'
  have ha : (W.heap.size + 2) < ((withThrown W Zs text P1.m.cls kX).setVm vm').heap.size := by show _ < (withThrown W Zs text P1.m.cls kX).heap.size; rw [w3]; omega
  have hcell : ((withThrown W Zs text P1.m.cls kX).setVm vm').heap[(W.heap.size + 2)]? = some (freshCell P1.m.cls kX) := w4
  have X5 := ((((X4.stored hcell T.fCause.slot (.ref (W.heap.size + 2))).storedAgain ha T.fStack.slot u0.v).storedAgain ha T.fSupp.slot sen.v).storedAgain ha T.fStack.slot u0.v).storedAgain ha T.fMsg.slot (.ref (W.heap.size + 1))
  obtain ⟨g₁, hfrM⟩ := X5.frames_eq
  have hU : ((((withThrown W Zs text P1.m.cls kX).setVm vm').setCell (W.heap.size + 2) (plainBareV T.toThrowableT (freshCell P1.m.cls kX) (W.heap.size + 2) u0 sen (.ref (W.heap.size + 1)))).setTop g).pushFrame (.throwing (W.heap.size + 2)) = (((withThrown W Zs text P1.m.cls kX).setVm vm').setCell (W.heap.size + 2) (plainBareV T.toThrowableT (freshCell P1.m.cls kX) (W.heap.size + 2) u0 sen (.ref (W.heap.size + 1)))).setFrames (.throwing (W.heap.size + 2) :: .java g :: below) := by
    rw [State.pushFrame, State.frames_setTop _ hfrM, State.setTop_of_frames _ hfrM, State.setFrames_setFrames]
  have b1 : (bytesOf Zs.cB (stringToUtf16 text)).slots.size = (stringBytes (stringToUtf16 text)).size := by
    rw [(Cell.writeAll_facts _ _).2.2]; simp [bytes0]
  have b2 : (stringAt Zs.cS Zs.kS Zs.fv Zs.fc (stringToUtf16 text) W.heap.size).slots.size = 4 := by simp [string0, Cell.setSlot, hn4]
  have b3 : (freshCell P1.m.cls kX).slots.size = 6 := by simp [hn6]
  rw [b1, b2, b3] at X5
  have e9 : slots + (stringBytes (stringToUtf16 text)).size + 4 + 6 = slots + ((stringBytes (stringToUtf16 text)).size + 4 + 6) := by omega
  rw [e9] at X5
  simp only [List.append_assoc, List.cons_append, List.nil_append] at X5
  refine ⟨((withThrown W Zs text P1.m.cls kX).setVm vm').setCell (W.heap.size + 2) (plainBareV T.toThrowableT (freshCell P1.m.cls kX) (W.heap.size + 2) u0 sen (.ref (W.heap.size + 1))), W.heap.size + 2, _, fun target ht => st _ (by rw [X.tail, ← hU]; exact ht),
    X5.forget (fun y hy => ?_), heapAt_setCell_self _ ha, hfound, rfl⟩
  simp only [List.mem_cons, List.not_mem_nil, or_false] at hy
  have hge : s.heap.size ≤ W.heap.size := X.same.2.1
  rcases hy with rfl | rfl | rfl | rfl | rfl <;> exact Nat.le_trans hge (Nat.le_add_right _ 2)
set_option maxHeartbeats 1000000 in
/-- the machine throws NullPointerException, no traces kept: from its note over the frame g to 'throwing' over the same frame (follows the proof of Stand.vmThrowsNpe, Shelf42/KT2.lean; throwsNpeColdBareVAt, Shelf42/NT91.lean, called) -/
theorem vx_npeAt {p : Program} {l : Launch} {e : Env} {R : Room} {s : State} {m₀ : MethodId} {args : Array Value} {below : List Frame} {meth : Method} {c : Code} {W : State} {locs : List Loc} {cells slots : Nat}
    (X : Stand p l e R s m₀ args below meth c W locs cells slots) (hexec : p.tables.exec = Jvm.exec) (htr : e.platform.stackTraces = false) {n : Nat}
    (h : ∀ a ∈ Bundle.npeArmAtoms n, a.before args s = true)
    (hlocs : ∀ x ∈ locs, ∀ cell, s.heap[x.base]? = some cell → cell.vm.isStatics = false)
    {g : JFrame} (hg : g.method = m₀) (hsize : g.locals.size = c.maxLocals)
    (hRframes : 7 < R.frames) (hRlocals : 2 * g.monitorRoom + (g.stack.map fun v => v.category).sum + 10240 ≤ R.locals)
    (hRcells : cells + 1 ≤ R.cells) (hRslots : slots + n ≤ R.slots) (hlocks : meth.locks = false) :
    ∃ (S : State) (q : Addr) (ce : Cell), (∀ target, Steps p.tables e below ((S.setTop g).pushFrame (.throwing q)) target → Steps p.tables e below ((W.setTop g).pushFrame (.throwNew "java/lang/NullPointerException" none none)) target) ∧
      Stand p l e R s m₀ args below meth c S locs (cells + 1) (slots + n) ∧ S.heap[q]? = some ce ∧ s.vm.findClass "java/lang/NullPointerException" = some ce.cls ∧ ce.vm = .none := by
  have howns : e.platform.frameOwnsMonitors = true := by rw [X.admits.platform]
  have hfin : e.platform.finalization = false := by rw [X.admits.platform]
  have hpl : e.platform.magicAccessors = ({} : Platform).magicAccessors := by rw [X.admits.platform]
  have hpl2 : e.platform.arrayCloneIsPublic = true := by rw [X.admits.platform]
  have a' : ∀ x, x ∈ Bundle.npeArmAtoms n → x.holds args s none s [] = true := fun x hx => h x hx
  obtain ⟨T, Z, L, LZ, Y⟩ := ThrowableC.of_atoms (args := args) howns hfin hpl (fun x hx => h x (by simp [Bundle.npeArmAtoms, hx]))
  obtain ⟨N, LN, hcN, hnNF, hordN, hffS⟩ := NpeC.of_atoms (args := args) hpl hpl2 L Y (fun x hx => h x (by simp [Bundle.npeArmAtoms, hx]))
  obtain ⟨P1, L1, hP1m, hP1s⟩ := PassC.of_atoms (args := args) (s := s) hpl (X := Bundle.nN) (Y := Bundle.rN) (by decide) (by decide) LibCode.NullPointerException.Init0.at_0 LibCode.NullPointerException.Init0.at_1 LibCode.NullPointerException.Init0.at_4 (fun x hx => h x (by simp [Bundle.npeArmAtoms, hx]))
  obtain ⟨PR, LR, hPRm, hPRs⟩ := PassC.of_atoms (args := args) (s := s) hpl (X := Bundle.rN) (Y := Bundle.eN) (by decide) (by decide) LibCode.RuntimeException.Init0.at_0 LibCode.RuntimeException.Init0.at_1 LibCode.RuntimeException.Init0.at_4 (fun x hx => h x (by simp [Bundle.npeArmAtoms, hx]))
  obtain ⟨PE, LEx, hPEm, hPEs⟩ := PassC.of_atoms (args := args) (s := s) hpl (X := Bundle.eN) (Y := Bundle.tN) (by decide) (by decide) LibCode.Exception.Init0.at_0 LibCode.Exception.Init0.at_1 LibCode.Exception.Init0.at_4 (fun x hx => h x (by simp [Bundle.npeArmAtoms, hx]))
  have hfound : s.vm.findClass Bundle.nN = some P1.m.cls := findClass_of_methodNamed hP1m
  have ecls : N.cN = P1.m.cls := Option.some.inj (hcN.symm.trans hfound)
  have hk : s.vm.classes[P1.m.cls]? = some N.kN := by rw [← ecls]; exact LN.cls
  have hinit := Cond.initialized_spec hfound hk (a' (.initialized Bundle.nN) (by simp [Bundle.npeArmAtoms]))
  have hctor : N.kN.findMethod "<init>" "()V" = some P1.m.idx := findMethod_of_methodNamed hP1m hk
  obtain ⟨c1, k1, hc1, hk1, -, -, -, hn⟩ := Cond.instantiable_spec (a' (.instantiable Bundle.nN n) (by simp [Bundle.npeArmAtoms]))
  cases Option.some.inj (hc1.symm.trans hfound)
  cases Option.some.inj (hk1.symm.trans hk)
  have hfsz : (freshCell P1.m.cls N.kN).slots.size = n := by simp [hn]
  have hlink1 : P1.sup = PR.m := Option.some.inj (hP1s.symm.trans hPRm)
  have hlinkR : PR.sup = PE.m := Option.some.inj (hPRs.symm.trans hPEm)
  have hlinkE : PE.sup = Z.m T.toThrowableT := Option.some.inj (hPEs.symm.trans Y.init0)
  have hLs : ∀ P, P ∈ [PR, PE] → P.Links0 e.platform s := fun P hP => by
    simp only [List.mem_cons, List.not_mem_nil, or_false] at hP
    rcases hP with rfl | rfl
    · exact LR
    · exact LEx
  have hsel0 : selectMethod e.platform s.vm P1.m.cls T.fill0 = .method T.fill0 := by
    obtain ⟨c2, r2, m2, q1, q2, q3, q4, -⟩ := Cond.selects_spec (a' (.selects Bundle.nN Bundle.tFill0 Bundle.tFill0) (by simp [Bundle.npeArmAtoms]))
    cases Option.some.inj (q1.symm.trans hfound)
    cases Option.some.inj (q2.symm.trans (State.methodFound?_of_named Y.fill0 (by decide)))
    cases Option.some.inj (q3.symm.trans Y.fill0)
    rw [Launch.admits_selectMethod X.admits]; exact q4
  have hselF : selectMethod e.platform s.vm P1.m.cls T.fill = .method N.fill := by
    obtain ⟨c2, r2, m2, q1, q2, q3, q4, -⟩ := Cond.selects_spec (a' (.selects Bundle.nN Bundle.tFill Bundle.nFill) (by simp [Bundle.npeArmAtoms]))
    cases Option.some.inj (q1.symm.trans hfound)
    cases Option.some.inj (q2.symm.trans (State.methodFound?_of_named Y.fill (by decide)))
    cases Option.some.inj (q3.symm.trans hnNF)
    rw [Launch.admits_selectMethod X.admits]; exact q4
  obtain ⟨cellS0, hcS0, hiss⟩ := Y.statics
  obtain ⟨u0, hu0⟩ := Cond.staticRefV Y.unassigned L.unassignedStatic L.statics hcS0 hiss (a' (.isRef (.static Bundle.tN "UNASSIGNED_STACK" Bundle.steD)) (by simp [Bundle.npeArmAtoms]))
  obtain ⟨sen, hsen⟩ := Cond.staticRefV Y.sentinel L.sentinelStatic L.statics hcS0 hiss (a' (.isRef (.static Bundle.tN "SUPPRESSED_SENTINEL" Bundle.listD)) (by simp [Bundle.npeArmAtoms]))
  obtain ⟨ci198, i198, fB, hk198, hg198, ha198, hsB, -, hnB, htB, hffB⟩ := Cond.ownField (t := .object "java/lang/Object") Y.found L.cls (by decide +kernel) (a' (.fieldLink Bundle.tN 198 Bundle.tN "backtrace" Bundle.objD) (by simp [Bundle.npeArmAtoms])) (a' (.lays Bundle.tN Bundle.tN "backtrace" Bundle.objD) (by simp [Bundle.npeArmAtoms])) e.platform hpl
  obtain ⟨cellS, hcS', heS, -, hkeep⟩ := X.same.2.2.2.2.2 T.aS cellS0 hcS0
  have hcellS : W.heap[T.aS]? = some cellS := hcS'
  have hout' : ∀ i, (⟨T.aS, i⟩ : Loc) ∉ locs := fun i hmem => by
    have := hlocs _ hmem cellS0 hcS0
    rw [hiss] at this; cases this
  have hknownS : cellS.vm ≠ .unknown := by
    rw [heS]; intro hu
    rw [show cellS0.vm = .unknown from hu] at hiss
    cases hiss
  have hvU : cellS.slots[T.fUnassigned.slot]? = some u0.v := by rw [hkeep _ (hout' _)]; exact hu0
  have hvSen : cellS.slots[T.fSentinel.slot]? = some sen.v := by rw [hkeep _ (hout' _)]; exact hsen
  obtain ⟨tyC, dC, hdC, hdnC⟩ := Cond.laysAt hfound hk Y.cause (a' (.lays Bundle.nN Bundle.tN "cause" "Ljava/lang/Throwable;") (by simp [Bundle.npeArmAtoms]))
  obtain ⟨tyS, dS, hdS, hdnS⟩ := Cond.laysAt hfound hk Y.stack (a' (.lays Bundle.nN Bundle.tN "stackTrace" Bundle.steD) (by simp [Bundle.npeArmAtoms]))
  obtain ⟨tyP, dP, hdP, hdnP⟩ := Cond.laysAt hfound hk Y.supp (a' (.lays Bundle.nN Bundle.tN "suppressedExceptions" Bundle.listD) (by simp [Bundle.npeArmAtoms]))
  obtain ⟨tyX, dX, hdX, hdnX⟩ := Cond.laysAt hfound hk hffS (a' (.lays Bundle.nN Bundle.nN "extendedMessageState" "I") (by simp [Bundle.npeArmAtoms, Bundle.npeAtoms]))
  obtain ⟨hnX, htX⟩ := State.fieldFound?_type hffS (t := .int) (by decide +kernel)
  have xC := Cond.laysApart hdC hdX hdnC hdnX (by rw [hnX, Y.causeName]; decide)
  have xS := Cond.laysApart hdS hdX hdnS hdnX (by rw [hnX, Y.stackName]; decide)
  have xP := Cond.laysApart hdP hdX hdnP hdnX (by rw [hnX, Y.suppName]; decide)
  have hv0 : (freshCell P1.m.cls N.kN).slots[N.fState.slot]? = some (.int 0) := by
    have := fresh_default (c := P1.m.cls) tyX
    rw [htX] at this; exact this
  obtain ⟨tyB, dB, hdB, hdnB⟩ := Cond.laysAt hfound hk hffB (a' (.lays Bundle.nN Bundle.tN "backtrace" Bundle.objD) (by simp [Bundle.npeArmAtoms]))
  have bC := Cond.laysApart hdB hdC hdnB hdnC (by rw [hnB, Y.causeName]; decide)
  have bS := Cond.laysApart hdB hdS hdnB hdnS (by rw [hnB, Y.stackName]; decide)
  have bP := Cond.laysApart hdB hdP hdnB hdnP (by rw [hnB, Y.suppName]; decide)
  have bX := Cond.laysApart hdB hdX hdnB hdnX (by rw [hnB, hnX]; decide)
  have hbk : ((npeCell N.toNpeT (preparedCellV T.toThrowableT (freshCell P1.m.cls N.kN) W.heap.size u0 sen) W.cur).withEntry W.cur).slots[fB.slot]? = some .null := by
    have := fresh_default (c := P1.m.cls) tyB
    rw [htB] at this
    simpa [npeCell, preparedCellV, Cell.setSlot, Cell.withEntry, Array.getElem?_setIfInBounds, bC, bS, bP, bX, bC.symm, bS.symm, bP.symm, bX.symm, defaultValue] using this
  have tkC := Takes.of_laid (v := .ref W.heap.size) hk hordN tyC (by rw [Y.causeType]; rfl)
  have tkS := Takes.of_laid (v := u0.v) hk hordN tyS (by rw [Y.stackType]; exact fits_refV_array _ u0)
  have tkP := Takes.of_laid (v := sen.v) hk hordN tyP (by rw [Y.suppType]; exact fits_refV_object _ sen)
  have tkX := Takes.of_laid (v := .int 1) hk hordN tyX (by rw [htX]; rfl)
  have hskip : SkipFacts T e.platform s (fun u => u) u0 ((npeCell N.toNpeT (preparedCellV T.toThrowableT (freshCell P1.m.cls N.kN) W.heap.size u0 sen) W.cur).withEntry W.cur) := ⟨{ ci198 := ci198, i198 := i198, fBack := fB }, ⟨hk198, hg198, ha198, hsB⟩, hbk, fun _ _ => rfl⟩
  obtain ⟨vm', X3, st, -⟩ := X.throwsNpeColdBareVAt hexec hg hsize T L Z LZ N LN P1 L1 [PR, PE] hLs hlink1 ⟨hlinkR, hlinkE, trivial⟩ hfound hk hinit hordN hctor hsel0 hselF hcellS hknownS hvU hvSen
    hv0 xC xS xP tkC tkS tkP tkX Y.objLocals hskip (fun _ _ hA hW _ hroom _ hrest => L.nativeOff p htr hA hW hroom hrest) (by simpa using hRframes) hRlocals (by simp) hRcells (by rw [hn]; exact hRslots)
  have hlt : W.heap.size < ((W.pushCell (freshCell P1.m.cls N.kN)).setVm vm').heap.size := by
    show W.heap.size < (W.pushCell (freshCell P1.m.cls N.kN)).heap.size
    rw [State.heap_size_pushCell]; omega
  rw [hfsz] at X3
  obtain ⟨g₁, hfrM⟩ := X3.frames_eq
  have hU : ((((W.pushCell (freshCell P1.m.cls N.kN)).setVm vm').setCell W.heap.size (npeBareV T.toThrowableT N.toNpeT (freshCell P1.m.cls N.kN) W.heap.size u0 sen)).setTop g).pushFrame (.throwing W.heap.size) = (((W.pushCell (freshCell P1.m.cls N.kN)).setVm vm').setCell W.heap.size (npeBareV T.toThrowableT N.toNpeT (freshCell P1.m.cls N.kN) W.heap.size u0 sen)).setFrames (.throwing W.heap.size :: .java g :: below) := by
    rw [State.pushFrame, State.frames_setTop _ hfrM, State.setTop_of_frames _ hfrM, State.setFrames_setFrames]
  refine ⟨_, W.heap.size, _, fun target ht => st.trans (by rw [← hU]; exact ht), X3.forget (fun y hy => ?_), heapAt_setCell_self _ hlt, hfound, rfl⟩
  simp only [List.mem_cons, List.not_mem_nil, or_false] at hy
  have hge : s.heap.size ≤ W.heap.size := X.same.2.1
  rcases hy with rfl | rfl | rfl | rfl | rfl <;> exact hge
/-- the words of a machine's NullPointerException, but the four that speak of the heap -/
def vx_atN (n : Nat) : List Cond := (Bundle.npeArmAtoms n).filter vx_no
/-- the words of a machine's throw with a message, but the four that speak of the heap -/
def vx_atM (X : String) (names : List String) : List Cond := (Bundle.messageArmAtoms X names).filter vx_no
section
variable {p : Program} {l : Launch} {e : Env} {R : Room} {s : State} {m : MethodId} {args : Array Value} {below : List Frame} {meth : Method} {c : Code} {H : Heap} {locs : List Loc} {cells slots : Nat}
/-- a frame seen from a rebased start, seen from the first start again -/
theorem vx_back9 {T S : State} {R' : Room} {k n : Nat} (X : Stand p l e R s m args below meth c T locs cells slots) (Y : Stand p l e R' ((T.setVm s.vm).setFrames (.invoking m args :: below)) m args below meth c T [] 0 0) (Z : Stand p l e R' ((T.setVm s.vm).setFrames (.invoking m args :: below)) m args below meth c S [] k n) :
    Stand p l e R s m args below meth c S locs (cells + k) (slots + n) := by
  have hW0 : s.WarmedH ((T.setVm s.vm).setFrames (.invoking m args :: below)).vm := State.WarmedH.refl s
  refine { admits := X.admits, cas := X.cas, clock := X.clock, frames := X.frames, room := X.room, hears := X.hears, method := X.method, code := X.code, here := Z.here, tail := Z.tail, warmed := State.WarmedH.trans hW0 Z.warmed, limits := Z.limits.trans (Y.limits.symm.trans X.limits), bytes := Z.bytes.trans (Y.bytes.symm.trans X.bytes), same := ?_ }
  obtain ⟨e1, e2⟩ := Z.same
  rw [State.setFrames_setFrames] at e1
  have h2 : (T.setVm s.vm).sameButNew (S.setVm s.vm) [] k n := ⟨e1, e2⟩
  have h3 := X.same.trans h2
  rw [List.append_nil] at h3
  exact h3
/-- from the machine's note that E is thrown here with this text -/
def vx_Note (p : Program) (l : Launch) (e : Env) (R : Room) (s : State) (m : MethodId) (args : Array Value) (below : List Frame) (meth : Method) (c : Code) (H : Heap) (locs : List Loc) (cells slots : Nat) (Q : State → Prop) (g : JFrame) (E text : String) : Prop :=
  ∀ T : State, T.heap = H → Stand p l e R s m args below meth c T locs cells slots → ∃ t, Steps p.tables e below ((T.setTop g).pushFrame (.throwNew E (some text) none)) t ∧ Q t
theorem vx_vm {pc : Nat} {ls : Array Slot} {rest : List Value} {Q : State → Prop} (hexec : p.tables.exec = Jvm.exec) (hl : l.stackTraces = false) {cls text : String} {names : List String} {nb : Nat} {A : Nat → Prop}
    (hcls : Bundle.fit cls = true) (hnames : ∀ n ∈ names, Bundle.fit n = true) (hsoe : (cls == "java/lang/StackOverflowError") = false) (hoom : (cls == "java/lang/OutOfMemoryError") = false)
    (hat : ∀ w ∈ vx_atM cls names, w.before args s = true) (hgood : ∀ w ∈ vx_atM cls names, vx_ot w = true)
    (hU : vx_Zq Bundle.tN "UNASSIGNED_STACK" Bundle.steD A s s.heap) (hN : vx_Zq Bundle.tN "SUPPRESSED_SENTINEL" Bundle.listD A s s.heap) (hS : va_S A s.heap H locs) (hsize : ls.size = c.maxLocals)
    (htext : (text == notModelled) = false) (hnb : (stringBytes (stringToUtf16 text)).size ≤ nb) (hnb1 : nb ≤ 1000)
    (hRframes : names.length + 4 < R.frames) (hRlocals : (rest.map fun v => v.category).sum + 10240 ≤ R.locals) (hshort : 13 * names.length + 55 ≤ 10240) (hRcells : cells + 3 ≤ R.cells) (hRslots : slots + (nb + 10) ≤ R.slots) (hlocks : meth.locks = false)
    (k : ∀ (H1 : Heap) (q9 : Addr) (ce : Cell), H.size ≤ H1.size → (∀ q : Nat, q < H.size → H1[q]? = H[q]?) → va_S A s.heap H1 locs → H1[q9]? = some ce → ce.vm = .none → s.vm.findClass cls = some ce.cls → vx_W p l e R s m args below meth c H1 locs (cells + 3) (slots + (nb + 10)) Q (F0 m pc ls rest) q9) :
    vx_Note p l e R s m args below meth c H locs cells slots Q (F0 m pc ls rest) cls text := by
  intro T hT X
  have htr : e.platform.stackTraces = false := (show e.platform.stackTraces = l.stackTraces by rw [X.admits.platform]).trans hl
  have Y := vx_rebase X (R' := { frames := R.frames, locals := R.locals, cells := 3, slots := nb + 10 }) (Nat.le_refl _) (Nat.le_refl _) hRcells hRslots
  have hhp : ((T.setVm s.vm).setFrames (.invoking m args :: below)).heap = H := hT
  have hW0 : s.WarmedH ((T.setVm s.vm).setFrames (.invoking m args :: below)).vm := State.WarmedH.refl s
  have hat' : ∀ w ∈ vx_atM cls names, w.before args ((T.setVm s.vm).setFrames (.invoking m args :: below)) = true := fun w hw => vx_ot_at hW0 rfl (hgood w hw) (hat w hw)
  have hU' : vx_Zq Bundle.tN "UNASSIGNED_STACK" Bundle.steD A ((T.setVm s.vm).setFrames (.invoking m args :: below)) ((T.setVm s.vm).setFrames (.invoking m args :: below)).heap := by rw [hhp]; exact vx_Zq.moved hW0.alike (hU.kept hS.2.1)
  have hN' : vx_Zq Bundle.tN "SUPPRESSED_SENTINEL" Bundle.listD A ((T.setVm s.vm).setFrames (.invoking m args :: below)) ((T.setVm s.vm).setFrames (.invoking m args :: below)).heap := by rw [hhp]; exact vx_Zq.moved hW0.alike (hN.kept hS.2.1)
  obtain ⟨S, q, ce, st, Z, hce, hcl', hv⟩ := vx_vmAt Y hexec htr (cls := cls) (names := names) (text := text) hcls hnames hsoe hoom (vx_own hat' (vx_isRefq hU'.1) (vx_isRefq hN'.1) hU'.2.word hN'.2.word) (fun x hx => nomatch hx) htext
    (by rw [Launch.admits_arrayLengthLimit X.admits]; omega) (by rw [Launch.admits_maxHeapBytes X.admits]; simp only [componentBytes]; omega)
    (g := F0 m pc ls rest) rfl hsize hRframes (by show 2 * 0 + (rest.map fun v => v.category).sum + 10240 ≤ R.locals; omega) hshort (by show 0 + 3 ≤ 3; omega) (by show 0 + (_ + 4 + 6) ≤ nb + 10; omega) hlocks
  obtain ⟨f1, f2⟩ := vx_frame Z.same
  have f1' : H.size ≤ S.heap.size := by rw [← hT]; exact f1
  have f2' : ∀ q : Nat, q < H.size → S.heap[q]? = H[q]? := fun q hq => by
    rw [← hT]
    exact f2 q (by rw [← hT] at hq; exact hq) (fun z hz => nomatch hz)
  have X5 := vx_back9 X Y Z
  have X6 : Stand p l e R s m args below meth c S locs (cells + 3) (slots + (nb + 10)) := { X5 with same := X5.same.mono (by omega) (by omega) }
  obtain ⟨t, a1, b1⟩ := k S.heap q ce f1' f2' ⟨Nat.le_trans hS.1 f1', fun q h1 h2 => (f2' q (Nat.lt_of_lt_of_le h1 hS.1)).trans (hS.2.1 q h1 h2), hS.2.2⟩ hce hv hcl' S rfl X6
  exact ⟨t, st t a1, b1⟩
/-- from the machine's note that NullPointerException is thrown here -/
def vx_NoteN (p : Program) (l : Launch) (e : Env) (R : Room) (s : State) (m : MethodId) (args : Array Value) (below : List Frame) (meth : Method) (c : Code) (H : Heap) (locs : List Loc) (cells slots : Nat) (Q : State → Prop) (g : JFrame) : Prop :=
  ∀ T : State, T.heap = H → Stand p l e R s m args below meth c T locs cells slots → ∃ t, Steps p.tables e below ((T.setTop g).pushFrame (.throwNew "java/lang/NullPointerException" none none)) t ∧ Q t
theorem vx_npe {pc : Nat} {ls : Array Slot} {rest : List Value} {Q : State → Prop} (hexec : p.tables.exec = Jvm.exec) (hl : l.stackTraces = false) {nb : Nat} {A : Nat → Prop}
    (hat : ∀ w ∈ vx_atN nb, w.before args s = true) (hgood : ∀ w ∈ vx_atN nb, vx_ot w = true)
    (hU : vx_Zq Bundle.tN "UNASSIGNED_STACK" Bundle.steD A s s.heap) (hN : vx_Zq Bundle.tN "SUPPRESSED_SENTINEL" Bundle.listD A s s.heap) (hS : va_S A s.heap H locs) (hsize : ls.size = c.maxLocals)
    (hRframes : 7 < R.frames) (hRlocals : (rest.map fun v => v.category).sum + 10240 ≤ R.locals) (hRcells : cells + 1 ≤ R.cells) (hRslots : slots + nb ≤ R.slots) (hlocks : meth.locks = false)
    (k : ∀ (H1 : Heap) (q9 : Addr) (ce : Cell), H.size ≤ H1.size → (∀ q : Nat, q < H.size → H1[q]? = H[q]?) → va_S A s.heap H1 locs → H1[q9]? = some ce → ce.vm = .none → s.vm.findClass "java/lang/NullPointerException" = some ce.cls → vx_W p l e R s m args below meth c H1 locs (cells + 1) (slots + nb) Q (F0 m pc ls rest) q9) :
    vx_NoteN p l e R s m args below meth c H locs cells slots Q (F0 m pc ls rest) := by
  intro T hT X
  have htr : e.platform.stackTraces = false := (show e.platform.stackTraces = l.stackTraces by rw [X.admits.platform]).trans hl
  have Y := vx_rebase X (R' := { frames := R.frames, locals := R.locals, cells := 1, slots := nb }) (Nat.le_refl _) (Nat.le_refl _) hRcells hRslots
  have hhp : ((T.setVm s.vm).setFrames (.invoking m args :: below)).heap = H := hT
  have hW0 : s.WarmedH ((T.setVm s.vm).setFrames (.invoking m args :: below)).vm := State.WarmedH.refl s
  have hat' : ∀ w ∈ vx_atN nb, w.before args ((T.setVm s.vm).setFrames (.invoking m args :: below)) = true := fun w hw => vx_ot_at hW0 rfl (hgood w hw) (hat w hw)
  have hU' : vx_Zq Bundle.tN "UNASSIGNED_STACK" Bundle.steD A ((T.setVm s.vm).setFrames (.invoking m args :: below)) ((T.setVm s.vm).setFrames (.invoking m args :: below)).heap := by rw [hhp]; exact vx_Zq.moved hW0.alike (hU.kept hS.2.1)
  have hN' : vx_Zq Bundle.tN "SUPPRESSED_SENTINEL" Bundle.listD A ((T.setVm s.vm).setFrames (.invoking m args :: below)) ((T.setVm s.vm).setFrames (.invoking m args :: below)).heap := by rw [hhp]; exact vx_Zq.moved hW0.alike (hN.kept hS.2.1)
  obtain ⟨S, q, ce, st, Z, hce, hcl', hv⟩ := vx_npeAt Y hexec htr (n := nb) (vx_own hat' (vx_isRefq hU'.1) (vx_isRefq hN'.1) hU'.2.word hN'.2.word) (fun x hx => nomatch hx)
    (g := F0 m pc ls rest) rfl hsize hRframes (by show 2 * 0 + (rest.map fun v => v.category).sum + 10240 ≤ R.locals; omega) (by show 0 + 1 ≤ 1; omega) (by show 0 + nb ≤ nb; omega) hlocks
  obtain ⟨f1, f2⟩ := vx_frame Z.same
  have f1' : H.size ≤ S.heap.size := by rw [← hT]; exact f1
  have f2' : ∀ q : Nat, q < H.size → S.heap[q]? = H[q]? := fun q hq => by
    rw [← hT]
    exact f2 q (by rw [← hT] at hq; exact hq) (fun z hz => nomatch hz)
  have X5 := vx_back9 X Y Z
  have X6 : Stand p l e R s m args below meth c S locs (cells + 1) (slots + nb) := { X5 with same := X5.same.mono (by omega) (by omega) }
  obtain ⟨t, a1, b1⟩ := k S.heap q ce f1' f2' ⟨Nat.le_trans hS.1 f1', fun q h1 h2 => (f2' q (Nat.lt_of_lt_of_le h1 hS.1)).trans (hS.2.1 q h1 h2), hS.2.2⟩ hce hv hcl' S rfl X6
  exact ⟨t, st t a1, b1⟩
variable {Q : State → Prop} {cc : ByteArray} {pc : Nat} {ls : Array Slot} {rest : List Value}
theorem vx_idivZ (hexec : p.tables.exec = Jvm.exec) (hb : c.code = cc) {a b : Int32} (h0 : b = 0) (d : decode cc pc = .ok (.idiv, 1)) (k : vx_Note p l e R s m args below meth c H locs cells slots Q (F0 m pc ls rest) "java/lang/ArithmeticException" "/ by zero") :
    W p l e R s m args below meth c H locs cells slots Q (F0 m pc ls (.int b :: .int a :: rest)) := by
  intro T hT X
  obtain ⟨t, st, q⟩ := k T hT X
  exact ⟨t, X.idivZero hexec (g := F0 m pc ls (.int b :: .int a :: rest)) rfl (a := a) (rest := rest) (by rw [h0]) (by rw [hb]; exact d) t st, q⟩
theorem vx_iremZ (hexec : p.tables.exec = Jvm.exec) (hb : c.code = cc) {a b : Int32} (h0 : b = 0) (d : decode cc pc = .ok (.irem, 1)) (k : vx_Note p l e R s m args below meth c H locs cells slots Q (F0 m pc ls rest) "java/lang/ArithmeticException" "/ by zero") :
    W p l e R s m args below meth c H locs cells slots Q (F0 m pc ls (.int b :: .int a :: rest)) := by
  intro T hT X
  obtain ⟨t, st, q⟩ := k T hT X
  exact ⟨t, X.iremZero hexec (g := F0 m pc ls (.int b :: .int a :: rest)) rfl (a := a) (rest := rest) (by rw [h0]) (by rw [hb]; exact d) t st, q⟩
theorem vx_ldivZ (hexec : p.tables.exec = Jvm.exec) (hb : c.code = cc) {a b : Int64} (h0 : b = 0) (d : decode cc pc = .ok (.ldiv, 1)) (k : vx_Note p l e R s m args below meth c H locs cells slots Q (F0 m pc ls rest) "java/lang/ArithmeticException" "/ by zero") :
    W p l e R s m args below meth c H locs cells slots Q (F0 m pc ls (.long b :: .long a :: rest)) := by
  intro T hT X
  obtain ⟨t, st, q⟩ := k T hT X
  exact ⟨t, X.ldivZero hexec (g := F0 m pc ls (.long b :: .long a :: rest)) rfl (a := a) (rest := rest) (by rw [h0]) (by rw [hb]; exact d) t st, q⟩
theorem vx_lremZ (hexec : p.tables.exec = Jvm.exec) (hb : c.code = cc) {a b : Int64} (h0 : b = 0) (d : decode cc pc = .ok (.lrem, 1)) (k : vx_Note p l e R s m args below meth c H locs cells slots Q (F0 m pc ls rest) "java/lang/ArithmeticException" "/ by zero") :
    W p l e R s m args below meth c H locs cells slots Q (F0 m pc ls (.long b :: .long a :: rest)) := by
  intro T hT X
  obtain ⟨t, st, q⟩ := k T hT X
  exact ⟨t, X.lremZero hexec (g := F0 m pc ls (.long b :: .long a :: rest)) rfl (a := a) (rest := rest) (by rw [h0]) (by rw [hb]; exact d) t st, q⟩
theorem vx_ialdZ {D : va_G} {cl : List vw_C} {ws : va_W} {tys : List (ClassId × FieldType)} {a : Nat} (hexec : p.tables.exec = Jvm.exec) (hb : c.code = cc) (hK : va_K D cl tys s) (hP : va_P D cl ws H) (q0 t0 : Nat) {cA : ClassId} {n : Nat} {f : Nat → Int32} (ha : ws[q0]? = some (a, .inl (cA, n, .inl f))) (ht : tys[t0]? = some (cA, .int)) {i : Int32} (hout : ¬ vp_in i n) (hdg : decode cc pc = .ok (.iaload, 1))
    (k : ∀ tx : String, tx = (toString "Index " ++ toString i ++ toString " out of bounds for length " ++ toString n : String) → vx_Note p l e R s m args below meth c H locs cells slots Q (F0 m pc ls rest) "java/lang/ArrayIndexOutOfBoundsException" tx) : W p l e R s m args below meth c H locs cells slots Q (F0 m pc ls (.int i :: .ref a :: rest)) := by
  intro T hT X
  obtain ⟨t, st, q⟩ := k _ rfl T hT X
  refine ⟨t, ?_, q⟩
  have h1 := X.ialoadOut hexec (by rw [hT]; exact hP q0 _ ha) ((hK.2 t0 _ ht).1 n (fun j => .int (f j))) (j := i) (by show (i < 0 ∨ (arrV _ _ _).slots.size ≤ _); rw [arrV_size]; exact Classical.byContradiction hout) (g := F0 m pc ls (.int i :: .ref a :: rest)) rfl (rest := rest) rfl (by rw [hb]; exact hdg) t
  simp only [arrV_size] at h1
  exact h1 st
theorem vx_iastZ {D : va_G} {cl : List vw_C} {ws : va_W} {tys : List (ClassId × FieldType)} {a : Nat} (hexec : p.tables.exec = Jvm.exec) (hb : c.code = cc) (hK : va_K D cl tys s) (hP : va_P D cl ws H) (q0 t0 : Nat) {cA : ClassId} {n : Nat} {f : Nat → Int32} (ha : ws[q0]? = some (a, .inl (cA, n, .inl f))) (ht : tys[t0]? = some (cA, .int)) {i : Int32} {x : Int32} (hout : ¬ vp_in i n) (hdg : decode cc pc = .ok (.iastore, 1))
    (k : ∀ tx : String, tx = (toString "Index " ++ toString i ++ toString " out of bounds for length " ++ toString n : String) → vx_Note p l e R s m args below meth c H locs cells slots Q (F0 m pc ls rest) "java/lang/ArrayIndexOutOfBoundsException" tx) : W p l e R s m args below meth c H locs cells slots Q (F0 m pc ls (.int x :: .int i :: .ref a :: rest)) := by
  intro T hT X
  obtain ⟨t, st, q⟩ := k _ rfl T hT X
  refine ⟨t, ?_, q⟩
  have h1 := X.iastoreOut hexec (by rw [hT]; exact hP q0 _ ha) ((hK.2 t0 _ ht).1 n (fun j => .int (f j))) (j := i) (by show (i < 0 ∨ (arrV _ _ _).slots.size ≤ _); rw [arrV_size]; exact Classical.byContradiction hout) (g := F0 m pc ls (.int x :: .int i :: .ref a :: rest)) rfl (rest := rest) rfl (by rw [hb]; exact hdg) t
  simp only [arrV_size] at h1
  exact h1 st
theorem vx_baldZ {D : va_G} {cl : List vw_C} {ws : va_W} {tys : List (ClassId × FieldType)} {a : Nat} (hexec : p.tables.exec = Jvm.exec) (hb : c.code = cc) (hK : va_K D cl tys s) (hP : va_P D cl ws H) (q0 t0 : Nat) {cA : ClassId} {n : Nat} {f : Nat → Int32} (ha : ws[q0]? = some (a, .inl (cA, n, .inl f))) (ht : tys[t0]? = some (cA, .byte)) {i : Int32} (hout : ¬ vp_in i n) (hdg : decode cc pc = .ok (.baload, 1))
    (k : ∀ tx : String, tx = (toString "Index " ++ toString i ++ toString " out of bounds for length " ++ toString n : String) → vx_Note p l e R s m args below meth c H locs cells slots Q (F0 m pc ls rest) "java/lang/ArrayIndexOutOfBoundsException" tx) : W p l e R s m args below meth c H locs cells slots Q (F0 m pc ls (.int i :: .ref a :: rest)) := by
  intro T hT X
  obtain ⟨t, st, q⟩ := k _ rfl T hT X
  refine ⟨t, ?_, q⟩
  have h1 := X.baloadOut hexec (by rw [hT]; exact hP q0 _ ha) ((hK.2 t0 _ ht).1 n (fun j => .int (f j))) (j := i) (by show (i < 0 ∨ (arrV _ _ _).slots.size ≤ _); rw [arrV_size]; exact Classical.byContradiction hout) (g := F0 m pc ls (.int i :: .ref a :: rest)) rfl (rest := rest) rfl (by rw [hb]; exact hdg) t
  simp only [arrV_size] at h1
  exact h1 st
theorem vx_bastZ {D : va_G} {cl : List vw_C} {ws : va_W} {tys : List (ClassId × FieldType)} {a : Nat} (hexec : p.tables.exec = Jvm.exec) (hb : c.code = cc) (hK : va_K D cl tys s) (hP : va_P D cl ws H) (q0 t0 : Nat) {cA : ClassId} {n : Nat} {f : Nat → Int32} (ha : ws[q0]? = some (a, .inl (cA, n, .inl f))) (ht : tys[t0]? = some (cA, .byte)) {i : Int32} {x : Int32} (hout : ¬ vp_in i n) (hdg : decode cc pc = .ok (.bastore, 1))
    (k : ∀ tx : String, tx = (toString "Index " ++ toString i ++ toString " out of bounds for length " ++ toString n : String) → vx_Note p l e R s m args below meth c H locs cells slots Q (F0 m pc ls rest) "java/lang/ArrayIndexOutOfBoundsException" tx) : W p l e R s m args below meth c H locs cells slots Q (F0 m pc ls (.int x :: .int i :: .ref a :: rest)) := by
  intro T hT X
  obtain ⟨t, st, q⟩ := k _ rfl T hT X
  refine ⟨t, ?_, q⟩
  have h1 := X.bastoreOut hexec (by rw [hT]; exact hP q0 _ ha) ((hK.2 t0 _ ht).1 n (fun j => .int (f j))) (j := i) (by show (i < 0 ∨ (arrV _ _ _).slots.size ≤ _); rw [arrV_size]; exact Classical.byContradiction hout) (g := F0 m pc ls (.int x :: .int i :: .ref a :: rest)) rfl (rest := rest) rfl (by rw [hb]; exact hdg) t
  simp only [arrV_size] at h1
  exact h1 st
theorem vx_zaldZ {D : va_G} {cl : List vw_C} {ws : va_W} {tys : List (ClassId × FieldType)} {a : Nat} (hexec : p.tables.exec = Jvm.exec) (hb : c.code = cc) (hK : va_K D cl tys s) (hP : va_P D cl ws H) (q0 t0 : Nat) {cA : ClassId} {n : Nat} {f : Nat → Int32} (ha : ws[q0]? = some (a, .inl (cA, n, .inl f))) (ht : tys[t0]? = some (cA, .boolean)) {i : Int32} (hout : ¬ vp_in i n) (hdg : decode cc pc = .ok (.baload, 1))
    (k : ∀ tx : String, tx = (toString "Index " ++ toString i ++ toString " out of bounds for length " ++ toString n : String) → vx_Note p l e R s m args below meth c H locs cells slots Q (F0 m pc ls rest) "java/lang/ArrayIndexOutOfBoundsException" tx) : W p l e R s m args below meth c H locs cells slots Q (F0 m pc ls (.int i :: .ref a :: rest)) := by
  intro T hT X
  obtain ⟨t, st, q⟩ := k _ rfl T hT X
  refine ⟨t, ?_, q⟩
  have h1 := X.baloadOut hexec (by rw [hT]; exact hP q0 _ ha) ((hK.2 t0 _ ht).1 n (fun j => .int (f j))) (j := i) (by show (i < 0 ∨ (arrV _ _ _).slots.size ≤ _); rw [arrV_size]; exact Classical.byContradiction hout) (g := F0 m pc ls (.int i :: .ref a :: rest)) rfl (rest := rest) rfl (by rw [hb]; exact hdg) t
  simp only [arrV_size] at h1
  exact h1 st
theorem vx_zastZ {D : va_G} {cl : List vw_C} {ws : va_W} {tys : List (ClassId × FieldType)} {a : Nat} (hexec : p.tables.exec = Jvm.exec) (hb : c.code = cc) (hK : va_K D cl tys s) (hP : va_P D cl ws H) (q0 t0 : Nat) {cA : ClassId} {n : Nat} {f : Nat → Int32} (ha : ws[q0]? = some (a, .inl (cA, n, .inl f))) (ht : tys[t0]? = some (cA, .boolean)) {i : Int32} {x : Int32} (hout : ¬ vp_in i n) (hdg : decode cc pc = .ok (.bastore, 1))
    (k : ∀ tx : String, tx = (toString "Index " ++ toString i ++ toString " out of bounds for length " ++ toString n : String) → vx_Note p l e R s m args below meth c H locs cells slots Q (F0 m pc ls rest) "java/lang/ArrayIndexOutOfBoundsException" tx) : W p l e R s m args below meth c H locs cells slots Q (F0 m pc ls (.int x :: .int i :: .ref a :: rest)) := by
  intro T hT X
  obtain ⟨t, st, q⟩ := k _ rfl T hT X
  refine ⟨t, ?_, q⟩
  have h1 := X.bastoreOut hexec (by rw [hT]; exact hP q0 _ ha) ((hK.2 t0 _ ht).1 n (fun j => .int (f j))) (j := i) (by show (i < 0 ∨ (arrV _ _ _).slots.size ≤ _); rw [arrV_size]; exact Classical.byContradiction hout) (g := F0 m pc ls (.int x :: .int i :: .ref a :: rest)) rfl (rest := rest) rfl (by rw [hb]; exact hdg) t
  simp only [arrV_size] at h1
  exact h1 st
theorem vx_caldZ {D : va_G} {cl : List vw_C} {ws : va_W} {tys : List (ClassId × FieldType)} {a : Nat} (hexec : p.tables.exec = Jvm.exec) (hb : c.code = cc) (hK : va_K D cl tys s) (hP : va_P D cl ws H) (q0 t0 : Nat) {cA : ClassId} {n : Nat} {f : Nat → Int32} (ha : ws[q0]? = some (a, .inl (cA, n, .inl f))) (ht : tys[t0]? = some (cA, .char)) {i : Int32} (hout : ¬ vp_in i n) (hdg : decode cc pc = .ok (.caload, 1))
    (k : ∀ tx : String, tx = (toString "Index " ++ toString i ++ toString " out of bounds for length " ++ toString n : String) → vx_Note p l e R s m args below meth c H locs cells slots Q (F0 m pc ls rest) "java/lang/ArrayIndexOutOfBoundsException" tx) : W p l e R s m args below meth c H locs cells slots Q (F0 m pc ls (.int i :: .ref a :: rest)) := by
  intro T hT X
  obtain ⟨t, st, q⟩ := k _ rfl T hT X
  refine ⟨t, ?_, q⟩
  have h1 := X.caloadOut hexec (by rw [hT]; exact hP q0 _ ha) ((hK.2 t0 _ ht).1 n (fun j => .int (f j))) (j := i) (by show (i < 0 ∨ (arrV _ _ _).slots.size ≤ _); rw [arrV_size]; exact Classical.byContradiction hout) (g := F0 m pc ls (.int i :: .ref a :: rest)) rfl (rest := rest) rfl (by rw [hb]; exact hdg) t
  simp only [arrV_size] at h1
  exact h1 st
theorem vx_castZ {D : va_G} {cl : List vw_C} {ws : va_W} {tys : List (ClassId × FieldType)} {a : Nat} (hexec : p.tables.exec = Jvm.exec) (hb : c.code = cc) (hK : va_K D cl tys s) (hP : va_P D cl ws H) (q0 t0 : Nat) {cA : ClassId} {n : Nat} {f : Nat → Int32} (ha : ws[q0]? = some (a, .inl (cA, n, .inl f))) (ht : tys[t0]? = some (cA, .char)) {i : Int32} {x : Int32} (hout : ¬ vp_in i n) (hdg : decode cc pc = .ok (.castore, 1))
    (k : ∀ tx : String, tx = (toString "Index " ++ toString i ++ toString " out of bounds for length " ++ toString n : String) → vx_Note p l e R s m args below meth c H locs cells slots Q (F0 m pc ls rest) "java/lang/ArrayIndexOutOfBoundsException" tx) : W p l e R s m args below meth c H locs cells slots Q (F0 m pc ls (.int x :: .int i :: .ref a :: rest)) := by
  intro T hT X
  obtain ⟨t, st, q⟩ := k _ rfl T hT X
  refine ⟨t, ?_, q⟩
  have h1 := X.castoreOut hexec (by rw [hT]; exact hP q0 _ ha) ((hK.2 t0 _ ht).1 n (fun j => .int (f j))) (j := i) (by show (i < 0 ∨ (arrV _ _ _).slots.size ≤ _); rw [arrV_size]; exact Classical.byContradiction hout) (g := F0 m pc ls (.int x :: .int i :: .ref a :: rest)) rfl (rest := rest) rfl (by rw [hb]; exact hdg) t
  simp only [arrV_size] at h1
  exact h1 st
theorem vx_saldZ {D : va_G} {cl : List vw_C} {ws : va_W} {tys : List (ClassId × FieldType)} {a : Nat} (hexec : p.tables.exec = Jvm.exec) (hb : c.code = cc) (hK : va_K D cl tys s) (hP : va_P D cl ws H) (q0 t0 : Nat) {cA : ClassId} {n : Nat} {f : Nat → Int32} (ha : ws[q0]? = some (a, .inl (cA, n, .inl f))) (ht : tys[t0]? = some (cA, .short)) {i : Int32} (hout : ¬ vp_in i n) (hdg : decode cc pc = .ok (.saload, 1))
    (k : ∀ tx : String, tx = (toString "Index " ++ toString i ++ toString " out of bounds for length " ++ toString n : String) → vx_Note p l e R s m args below meth c H locs cells slots Q (F0 m pc ls rest) "java/lang/ArrayIndexOutOfBoundsException" tx) : W p l e R s m args below meth c H locs cells slots Q (F0 m pc ls (.int i :: .ref a :: rest)) := by
  intro T hT X
  obtain ⟨t, st, q⟩ := k _ rfl T hT X
  refine ⟨t, ?_, q⟩
  have h1 := X.saloadOut hexec (by rw [hT]; exact hP q0 _ ha) ((hK.2 t0 _ ht).1 n (fun j => .int (f j))) (j := i) (by show (i < 0 ∨ (arrV _ _ _).slots.size ≤ _); rw [arrV_size]; exact Classical.byContradiction hout) (g := F0 m pc ls (.int i :: .ref a :: rest)) rfl (rest := rest) rfl (by rw [hb]; exact hdg) t
  simp only [arrV_size] at h1
  exact h1 st
theorem vx_sastZ {D : va_G} {cl : List vw_C} {ws : va_W} {tys : List (ClassId × FieldType)} {a : Nat} (hexec : p.tables.exec = Jvm.exec) (hb : c.code = cc) (hK : va_K D cl tys s) (hP : va_P D cl ws H) (q0 t0 : Nat) {cA : ClassId} {n : Nat} {f : Nat → Int32} (ha : ws[q0]? = some (a, .inl (cA, n, .inl f))) (ht : tys[t0]? = some (cA, .short)) {i : Int32} {x : Int32} (hout : ¬ vp_in i n) (hdg : decode cc pc = .ok (.sastore, 1))
    (k : ∀ tx : String, tx = (toString "Index " ++ toString i ++ toString " out of bounds for length " ++ toString n : String) → vx_Note p l e R s m args below meth c H locs cells slots Q (F0 m pc ls rest) "java/lang/ArrayIndexOutOfBoundsException" tx) : W p l e R s m args below meth c H locs cells slots Q (F0 m pc ls (.int x :: .int i :: .ref a :: rest)) := by
  intro T hT X
  obtain ⟨t, st, q⟩ := k _ rfl T hT X
  refine ⟨t, ?_, q⟩
  have h1 := X.sastoreOut hexec (by rw [hT]; exact hP q0 _ ha) ((hK.2 t0 _ ht).1 n (fun j => .int (f j))) (j := i) (by show (i < 0 ∨ (arrV _ _ _).slots.size ≤ _); rw [arrV_size]; exact Classical.byContradiction hout) (g := F0 m pc ls (.int x :: .int i :: .ref a :: rest)) rfl (rest := rest) rfl (by rw [hb]; exact hdg) t
  simp only [arrV_size] at h1
  exact h1 st
theorem vx_laldZ {D : va_G} {cl : List vw_C} {ws : va_W} {tys : List (ClassId × FieldType)} {a : Nat} (hexec : p.tables.exec = Jvm.exec) (hb : c.code = cc) (hK : va_K D cl tys s) (hP : va_P D cl ws H) (q0 t0 : Nat) {cA : ClassId} {n : Nat} {f : Nat → Int64} (ha : ws[q0]? = some (a, .inl (cA, n, .inr (.inl f)))) (ht : tys[t0]? = some (cA, .long)) {i : Int32} (hout : ¬ vp_in i n) (hdg : decode cc pc = .ok (.laload, 1))
    (k : ∀ tx : String, tx = (toString "Index " ++ toString i ++ toString " out of bounds for length " ++ toString n : String) → vx_Note p l e R s m args below meth c H locs cells slots Q (F0 m pc ls rest) "java/lang/ArrayIndexOutOfBoundsException" tx) : W p l e R s m args below meth c H locs cells slots Q (F0 m pc ls (.int i :: .ref a :: rest)) := by
  intro T hT X
  obtain ⟨t, st, q⟩ := k _ rfl T hT X
  refine ⟨t, ?_, q⟩
  have h1 := X.laloadOut hexec (by rw [hT]; exact hP q0 _ ha) ((hK.2 t0 _ ht).1 n (fun j => .long (f j))) (j := i) (by show (i < 0 ∨ (arrV _ _ _).slots.size ≤ _); rw [arrV_size]; exact Classical.byContradiction hout) (g := F0 m pc ls (.int i :: .ref a :: rest)) rfl (rest := rest) rfl (by rw [hb]; exact hdg) t
  simp only [arrV_size] at h1
  exact h1 st
theorem vx_lastZ {D : va_G} {cl : List vw_C} {ws : va_W} {tys : List (ClassId × FieldType)} {a : Nat} (hexec : p.tables.exec = Jvm.exec) (hb : c.code = cc) (hK : va_K D cl tys s) (hP : va_P D cl ws H) (q0 t0 : Nat) {cA : ClassId} {n : Nat} {f : Nat → Int64} (ha : ws[q0]? = some (a, .inl (cA, n, .inr (.inl f)))) (ht : tys[t0]? = some (cA, .long)) {i : Int32} {x : Int64} (hout : ¬ vp_in i n) (hdg : decode cc pc = .ok (.lastore, 1))
    (k : ∀ tx : String, tx = (toString "Index " ++ toString i ++ toString " out of bounds for length " ++ toString n : String) → vx_Note p l e R s m args below meth c H locs cells slots Q (F0 m pc ls rest) "java/lang/ArrayIndexOutOfBoundsException" tx) : W p l e R s m args below meth c H locs cells slots Q (F0 m pc ls (.long x :: .int i :: .ref a :: rest)) := by
  intro T hT X
  obtain ⟨t, st, q⟩ := k _ rfl T hT X
  refine ⟨t, ?_, q⟩
  have h1 := X.lastoreOut hexec (by rw [hT]; exact hP q0 _ ha) ((hK.2 t0 _ ht).1 n (fun j => .long (f j))) (j := i) (by show (i < 0 ∨ (arrV _ _ _).slots.size ≤ _); rw [arrV_size]; exact Classical.byContradiction hout) (g := F0 m pc ls (.long x :: .int i :: .ref a :: rest)) rfl (rest := rest) rfl (by rw [hb]; exact hdg) t
  simp only [arrV_size] at h1
  exact h1 st
theorem vx_faldZ {D : va_G} {cl : List vw_C} {ws : va_W} {tys : List (ClassId × FieldType)} {a : Nat} (hexec : p.tables.exec = Jvm.exec) (hb : c.code = cc) (hK : va_K D cl tys s) (hP : va_P D cl ws H) (q0 t0 : Nat) {cA : ClassId} {n : Nat} {f : Nat → UInt32} (ha : ws[q0]? = some (a, .inl (cA, n, .inr (.inr (.inl f))))) (ht : tys[t0]? = some (cA, .float)) {i : Int32} (hout : ¬ vp_in i n) (hdg : decode cc pc = .ok (.faload, 1))
    (k : ∀ tx : String, tx = (toString "Index " ++ toString i ++ toString " out of bounds for length " ++ toString n : String) → vx_Note p l e R s m args below meth c H locs cells slots Q (F0 m pc ls rest) "java/lang/ArrayIndexOutOfBoundsException" tx) : W p l e R s m args below meth c H locs cells slots Q (F0 m pc ls (.int i :: .ref a :: rest)) := by
  intro T hT X
  obtain ⟨t, st, q⟩ := k _ rfl T hT X
  refine ⟨t, ?_, q⟩
  have h1 := X.faloadOut hexec (by rw [hT]; exact hP q0 _ ha) ((hK.2 t0 _ ht).1 n (fun j => .float (f j))) (j := i) (by show (i < 0 ∨ (arrV _ _ _).slots.size ≤ _); rw [arrV_size]; exact Classical.byContradiction hout) (g := F0 m pc ls (.int i :: .ref a :: rest)) rfl (rest := rest) rfl (by rw [hb]; exact hdg) t
  simp only [arrV_size] at h1
  exact h1 st
theorem vx_fastZ {D : va_G} {cl : List vw_C} {ws : va_W} {tys : List (ClassId × FieldType)} {a : Nat} (hexec : p.tables.exec = Jvm.exec) (hb : c.code = cc) (hK : va_K D cl tys s) (hP : va_P D cl ws H) (q0 t0 : Nat) {cA : ClassId} {n : Nat} {f : Nat → UInt32} (ha : ws[q0]? = some (a, .inl (cA, n, .inr (.inr (.inl f))))) (ht : tys[t0]? = some (cA, .float)) {i : Int32} {x : UInt32} (hout : ¬ vp_in i n) (hdg : decode cc pc = .ok (.fastore, 1))
    (k : ∀ tx : String, tx = (toString "Index " ++ toString i ++ toString " out of bounds for length " ++ toString n : String) → vx_Note p l e R s m args below meth c H locs cells slots Q (F0 m pc ls rest) "java/lang/ArrayIndexOutOfBoundsException" tx) : W p l e R s m args below meth c H locs cells slots Q (F0 m pc ls (.float x :: .int i :: .ref a :: rest)) := by
  intro T hT X
  obtain ⟨t, st, q⟩ := k _ rfl T hT X
  refine ⟨t, ?_, q⟩
  have h1 := X.fastoreOut hexec (by rw [hT]; exact hP q0 _ ha) ((hK.2 t0 _ ht).1 n (fun j => .float (f j))) (j := i) (by show (i < 0 ∨ (arrV _ _ _).slots.size ≤ _); rw [arrV_size]; exact Classical.byContradiction hout) (g := F0 m pc ls (.float x :: .int i :: .ref a :: rest)) rfl (rest := rest) rfl (by rw [hb]; exact hdg) t
  simp only [arrV_size] at h1
  exact h1 st
theorem vx_daldZ {D : va_G} {cl : List vw_C} {ws : va_W} {tys : List (ClassId × FieldType)} {a : Nat} (hexec : p.tables.exec = Jvm.exec) (hb : c.code = cc) (hK : va_K D cl tys s) (hP : va_P D cl ws H) (q0 t0 : Nat) {cA : ClassId} {n : Nat} {f : Nat → UInt64} (ha : ws[q0]? = some (a, .inl (cA, n, .inr (.inr (.inr (.inl f)))))) (ht : tys[t0]? = some (cA, .double)) {i : Int32} (hout : ¬ vp_in i n) (hdg : decode cc pc = .ok (.daload, 1))
    (k : ∀ tx : String, tx = (toString "Index " ++ toString i ++ toString " out of bounds for length " ++ toString n : String) → vx_Note p l e R s m args below meth c H locs cells slots Q (F0 m pc ls rest) "java/lang/ArrayIndexOutOfBoundsException" tx) : W p l e R s m args below meth c H locs cells slots Q (F0 m pc ls (.int i :: .ref a :: rest)) := by
  intro T hT X
  obtain ⟨t, st, q⟩ := k _ rfl T hT X
  refine ⟨t, ?_, q⟩
  have h1 := X.daloadOut hexec (by rw [hT]; exact hP q0 _ ha) ((hK.2 t0 _ ht).1 n (fun j => .double (f j))) (j := i) (by show (i < 0 ∨ (arrV _ _ _).slots.size ≤ _); rw [arrV_size]; exact Classical.byContradiction hout) (g := F0 m pc ls (.int i :: .ref a :: rest)) rfl (rest := rest) rfl (by rw [hb]; exact hdg) t
  simp only [arrV_size] at h1
  exact h1 st
theorem vx_dastZ {D : va_G} {cl : List vw_C} {ws : va_W} {tys : List (ClassId × FieldType)} {a : Nat} (hexec : p.tables.exec = Jvm.exec) (hb : c.code = cc) (hK : va_K D cl tys s) (hP : va_P D cl ws H) (q0 t0 : Nat) {cA : ClassId} {n : Nat} {f : Nat → UInt64} (ha : ws[q0]? = some (a, .inl (cA, n, .inr (.inr (.inr (.inl f)))))) (ht : tys[t0]? = some (cA, .double)) {i : Int32} {x : UInt64} (hout : ¬ vp_in i n) (hdg : decode cc pc = .ok (.dastore, 1))
    (k : ∀ tx : String, tx = (toString "Index " ++ toString i ++ toString " out of bounds for length " ++ toString n : String) → vx_Note p l e R s m args below meth c H locs cells slots Q (F0 m pc ls rest) "java/lang/ArrayIndexOutOfBoundsException" tx) : W p l e R s m args below meth c H locs cells slots Q (F0 m pc ls (.double x :: .int i :: .ref a :: rest)) := by
  intro T hT X
  obtain ⟨t, st, q⟩ := k _ rfl T hT X
  refine ⟨t, ?_, q⟩
  have h1 := X.dastoreOut hexec (by rw [hT]; exact hP q0 _ ha) ((hK.2 t0 _ ht).1 n (fun j => .double (f j))) (j := i) (by show (i < 0 ∨ (arrV _ _ _).slots.size ≤ _); rw [arrV_size]; exact Classical.byContradiction hout) (g := F0 m pc ls (.double x :: .int i :: .ref a :: rest)) rfl (rest := rest) rfl (by rw [hb]; exact hdg) t
  simp only [arrV_size] at h1
  exact h1 st
theorem vx_arraylengthN (hexec : p.tables.exec = Jvm.exec) (hb : c.code = cc) (hdg : decode cc pc = .ok (.arraylength, 1)) (k : vx_NoteN p l e R s m args below meth c H locs cells slots Q (F0 m pc ls rest)) : W p l e R s m args below meth c H locs cells slots Q (F0 m pc ls (.null :: rest)) := by
  intro T hT X
  obtain ⟨t, st, q⟩ := k T hT X
  exact ⟨t, X.arraylengthNull hexec (g := F0 m pc ls (.null :: rest)) rfl (rest := rest) rfl (by rw [hb]; exact hdg) t st, q⟩
theorem vx_ialoadN (hexec : p.tables.exec = Jvm.exec) (hb : c.code = cc) {i : Int32} (hdg : decode cc pc = .ok (.iaload, 1)) (k : vx_NoteN p l e R s m args below meth c H locs cells slots Q (F0 m pc ls rest)) : W p l e R s m args below meth c H locs cells slots Q (F0 m pc ls (.int i :: .null :: rest)) := by
  intro T hT X
  obtain ⟨t, st, q⟩ := k T hT X
  exact ⟨t, X.ialoadNull hexec (g := F0 m pc ls (.int i :: .null :: rest)) rfl (rest := rest) rfl (by rw [hb]; exact hdg) t st, q⟩
theorem vx_laloadN (hexec : p.tables.exec = Jvm.exec) (hb : c.code = cc) {i : Int32} (hdg : decode cc pc = .ok (.laload, 1)) (k : vx_NoteN p l e R s m args below meth c H locs cells slots Q (F0 m pc ls rest)) : W p l e R s m args below meth c H locs cells slots Q (F0 m pc ls (.int i :: .null :: rest)) := by
  intro T hT X
  obtain ⟨t, st, q⟩ := k T hT X
  exact ⟨t, X.laloadNull hexec (g := F0 m pc ls (.int i :: .null :: rest)) rfl (rest := rest) rfl (by rw [hb]; exact hdg) t st, q⟩
theorem vx_faloadN (hexec : p.tables.exec = Jvm.exec) (hb : c.code = cc) {i : Int32} (hdg : decode cc pc = .ok (.faload, 1)) (k : vx_NoteN p l e R s m args below meth c H locs cells slots Q (F0 m pc ls rest)) : W p l e R s m args below meth c H locs cells slots Q (F0 m pc ls (.int i :: .null :: rest)) := by
  intro T hT X
  obtain ⟨t, st, q⟩ := k T hT X
  exact ⟨t, X.faloadNull hexec (g := F0 m pc ls (.int i :: .null :: rest)) rfl (rest := rest) rfl (by rw [hb]; exact hdg) t st, q⟩
theorem vx_daloadN (hexec : p.tables.exec = Jvm.exec) (hb : c.code = cc) {i : Int32} (hdg : decode cc pc = .ok (.daload, 1)) (k : vx_NoteN p l e R s m args below meth c H locs cells slots Q (F0 m pc ls rest)) : W p l e R s m args below meth c H locs cells slots Q (F0 m pc ls (.int i :: .null :: rest)) := by
  intro T hT X
  obtain ⟨t, st, q⟩ := k T hT X
  exact ⟨t, X.daloadNull hexec (g := F0 m pc ls (.int i :: .null :: rest)) rfl (rest := rest) rfl (by rw [hb]; exact hdg) t st, q⟩
theorem vx_aaloadN (hexec : p.tables.exec = Jvm.exec) (hb : c.code = cc) {i : Int32} (hdg : decode cc pc = .ok (.aaload, 1)) (k : vx_NoteN p l e R s m args below meth c H locs cells slots Q (F0 m pc ls rest)) : W p l e R s m args below meth c H locs cells slots Q (F0 m pc ls (.int i :: .null :: rest)) := by
  intro T hT X
  obtain ⟨t, st, q⟩ := k T hT X
  exact ⟨t, X.aaloadNull hexec (g := F0 m pc ls (.int i :: .null :: rest)) rfl (rest := rest) rfl (by rw [hb]; exact hdg) t st, q⟩
theorem vx_baloadN (hexec : p.tables.exec = Jvm.exec) (hb : c.code = cc) {i : Int32} (hdg : decode cc pc = .ok (.baload, 1)) (k : vx_NoteN p l e R s m args below meth c H locs cells slots Q (F0 m pc ls rest)) : W p l e R s m args below meth c H locs cells slots Q (F0 m pc ls (.int i :: .null :: rest)) := by
  intro T hT X
  obtain ⟨t, st, q⟩ := k T hT X
  exact ⟨t, X.baloadNull hexec (g := F0 m pc ls (.int i :: .null :: rest)) rfl (rest := rest) rfl (by rw [hb]; exact hdg) t st, q⟩
theorem vx_caloadN (hexec : p.tables.exec = Jvm.exec) (hb : c.code = cc) {i : Int32} (hdg : decode cc pc = .ok (.caload, 1)) (k : vx_NoteN p l e R s m args below meth c H locs cells slots Q (F0 m pc ls rest)) : W p l e R s m args below meth c H locs cells slots Q (F0 m pc ls (.int i :: .null :: rest)) := by
  intro T hT X
  obtain ⟨t, st, q⟩ := k T hT X
  exact ⟨t, X.caloadNull hexec (g := F0 m pc ls (.int i :: .null :: rest)) rfl (rest := rest) rfl (by rw [hb]; exact hdg) t st, q⟩
theorem vx_saloadN (hexec : p.tables.exec = Jvm.exec) (hb : c.code = cc) {i : Int32} (hdg : decode cc pc = .ok (.saload, 1)) (k : vx_NoteN p l e R s m args below meth c H locs cells slots Q (F0 m pc ls rest)) : W p l e R s m args below meth c H locs cells slots Q (F0 m pc ls (.int i :: .null :: rest)) := by
  intro T hT X
  obtain ⟨t, st, q⟩ := k T hT X
  exact ⟨t, X.saloadNull hexec (g := F0 m pc ls (.int i :: .null :: rest)) rfl (rest := rest) rfl (by rw [hb]; exact hdg) t st, q⟩
theorem vx_iastoreN (hexec : p.tables.exec = Jvm.exec) (hb : c.code = cc) {x : Int32} {i : Int32} (hdg : decode cc pc = .ok (.iastore, 1)) (k : vx_NoteN p l e R s m args below meth c H locs cells slots Q (F0 m pc ls rest)) : W p l e R s m args below meth c H locs cells slots Q (F0 m pc ls (.int x :: .int i :: .null :: rest)) := by
  intro T hT X
  obtain ⟨t, st, q⟩ := k T hT X
  exact ⟨t, X.iastoreNull hexec (g := F0 m pc ls (.int x :: .int i :: .null :: rest)) rfl (rest := rest) rfl (by rw [hb]; exact hdg) t st, q⟩
theorem vx_lastoreN (hexec : p.tables.exec = Jvm.exec) (hb : c.code = cc) {x : Int64} {i : Int32} (hdg : decode cc pc = .ok (.lastore, 1)) (k : vx_NoteN p l e R s m args below meth c H locs cells slots Q (F0 m pc ls rest)) : W p l e R s m args below meth c H locs cells slots Q (F0 m pc ls (.long x :: .int i :: .null :: rest)) := by
  intro T hT X
  obtain ⟨t, st, q⟩ := k T hT X
  exact ⟨t, X.lastoreNull hexec (g := F0 m pc ls (.long x :: .int i :: .null :: rest)) rfl (rest := rest) rfl (by rw [hb]; exact hdg) t st, q⟩
theorem vx_fastoreN (hexec : p.tables.exec = Jvm.exec) (hb : c.code = cc) {x : UInt32} {i : Int32} (hdg : decode cc pc = .ok (.fastore, 1)) (k : vx_NoteN p l e R s m args below meth c H locs cells slots Q (F0 m pc ls rest)) : W p l e R s m args below meth c H locs cells slots Q (F0 m pc ls (.float x :: .int i :: .null :: rest)) := by
  intro T hT X
  obtain ⟨t, st, q⟩ := k T hT X
  exact ⟨t, X.fastoreNull hexec (g := F0 m pc ls (.float x :: .int i :: .null :: rest)) rfl (rest := rest) rfl (by rw [hb]; exact hdg) t st, q⟩
theorem vx_dastoreN (hexec : p.tables.exec = Jvm.exec) (hb : c.code = cc) {x : UInt64} {i : Int32} (hdg : decode cc pc = .ok (.dastore, 1)) (k : vx_NoteN p l e R s m args below meth c H locs cells slots Q (F0 m pc ls rest)) : W p l e R s m args below meth c H locs cells slots Q (F0 m pc ls (.double x :: .int i :: .null :: rest)) := by
  intro T hT X
  obtain ⟨t, st, q⟩ := k T hT X
  exact ⟨t, X.dastoreNull hexec (g := F0 m pc ls (.double x :: .int i :: .null :: rest)) rfl (rest := rest) rfl (by rw [hb]; exact hdg) t st, q⟩
theorem vx_bastoreN (hexec : p.tables.exec = Jvm.exec) (hb : c.code = cc) {x : Int32} {i : Int32} (hdg : decode cc pc = .ok (.bastore, 1)) (k : vx_NoteN p l e R s m args below meth c H locs cells slots Q (F0 m pc ls rest)) : W p l e R s m args below meth c H locs cells slots Q (F0 m pc ls (.int x :: .int i :: .null :: rest)) := by
  intro T hT X
  obtain ⟨t, st, q⟩ := k T hT X
  exact ⟨t, X.bastoreNull hexec (g := F0 m pc ls (.int x :: .int i :: .null :: rest)) rfl (rest := rest) rfl (by rw [hb]; exact hdg) t st, q⟩
theorem vx_castoreN (hexec : p.tables.exec = Jvm.exec) (hb : c.code = cc) {x : Int32} {i : Int32} (hdg : decode cc pc = .ok (.castore, 1)) (k : vx_NoteN p l e R s m args below meth c H locs cells slots Q (F0 m pc ls rest)) : W p l e R s m args below meth c H locs cells slots Q (F0 m pc ls (.int x :: .int i :: .null :: rest)) := by
  intro T hT X
  obtain ⟨t, st, q⟩ := k T hT X
  exact ⟨t, X.castoreNull hexec (g := F0 m pc ls (.int x :: .int i :: .null :: rest)) rfl (rest := rest) rfl (by rw [hb]; exact hdg) t st, q⟩
theorem vx_sastoreN (hexec : p.tables.exec = Jvm.exec) (hb : c.code = cc) {x : Int32} {i : Int32} (hdg : decode cc pc = .ok (.sastore, 1)) (k : vx_NoteN p l e R s m args below meth c H locs cells slots Q (F0 m pc ls rest)) : W p l e R s m args below meth c H locs cells slots Q (F0 m pc ls (.int x :: .int i :: .null :: rest)) := by
  intro T hT X
  obtain ⟨t, st, q⟩ := k T hT X
  exact ⟨t, X.sastoreNull hexec (g := F0 m pc ls (.int x :: .int i :: .null :: rest)) rfl (rest := rest) rfl (by rw [hb]; exact hdg) t st, q⟩
theorem vx_invokeN {own C : String} {index maxL : Nat} {y : MethodName} {bytes : ByteArray} {ret : Option FieldType} (hexec : p.tables.exec = Jvm.exec) (hb : c.code = cc) (hown : s.vm.findClass own = some m.cls) (hlink : (Cond.methodLink own index y).before args s = true) (hinst : (Cond.instanceMethod y).before args s = true) (hcode : (Cond.code y bytes maxL ret).before args s = true) (hsel : (Cond.selects C y y).before args s = true)
    (hx : y.cls ≠ "java/lang/invoke/MethodHandle" ∧ y.cls ≠ "java/lang/invoke/VarHandle") {As : List Value} (hlen : (parseMethodDescriptor y.desc).map (fun d => d.parameters.length) = some As.length) (hdg : decode cc pc = .ok (.invokevirtual index, 3))
    (k : vx_NoteN p l e R s m args below meth c H locs cells slots Q (F0 m pc ls rest)) {st0 : List Value} (hst : st0 = As.reverse ++ .null :: rest) : W p l e R s m args below meth c H locs cells slots Q (F0 m pc ls st0) := by
  intro T hT X
  obtain ⟨r0, r, hn, hrm, hstR, hsigR⟩ := va_Decl.of hinst hcode
  obtain ⟨c2, r2, m2, q1, q2, q3, q4, kP, hkP, hkPi⟩ := Cond.selects_spec hsel
  cases hn.symm.trans q3
  have hl9 : As.length = r.sig.parameters.length := by
    rw [hsigR] at hlen
    exact (Option.some.inj hlen).symm
  obtain ⟨vm', X1, st1⟩ := X.invokevirtualNull hexec hown hlink hn hrm hstR hkP hkPi hx (g := F0 m pc ls st0) rfl (argsL := As) (rest := rest) hl9 hst (by rw [hb]; exact hdg)
  obtain ⟨t, st, q⟩ := k (T.setVm vm') hT X1
  exact ⟨t, st1 t st, q⟩
theorem vx_newarrayZ {atype : ArrayType} (hexec : p.tables.exec = Jvm.exec) (hb : c.code = cc) {n : Int32} (h0 : n < 0) (hdg : decode cc pc = .ok (.newarray atype, 2)) (k : ∀ tx : String, tx = toString n → vx_Note p l e R s m args below meth c H locs cells slots Q (F0 m pc ls rest) "java/lang/NegativeArraySizeException" tx) : W p l e R s m args below meth c H locs cells slots Q (F0 m pc ls (.int n :: rest)) := by
  intro T hT X
  obtain ⟨t, st, q⟩ := k _ rfl T hT X
  exact ⟨t, X.newarrayNegative hexec (g := F0 m pc ls (.int n :: rest)) rfl h0 (rest := rest) rfl (by rw [hb]; exact hdg) t st, q⟩
end
end VXM
/-! ===== END ===== -/
/-! ===== BEGIN an exception as an object: made, kept, thrown later (no traces kept) ===== -/
section VXK
variable {p : Program} {l : Launch} {e : Env} {R : Room} {s : State} {m₀ : MethodId} {args : Array Value} {below : List Frame} {meth : Method} {c : Code} {W : State} {locs : List Loc} {cells slots : Nat}
set_option maxHeartbeats 1000000 in
theorem vx_ctorMadeS (X : Stand p l e R s m₀ args below meth c W locs cells slots) (hexec : p.tables.exec = Jvm.exec) (htr : e.platform.stackTraces = false) {own cls : String} {names : List String} {ic : Nat}
    (hown : s.vm.findClass own = some m₀.cls) (hcls : Bundle.fit cls = true) (hnames : ∀ n ∈ names, Bundle.fit n = true)
    (h : ∀ a ∈ Bundle.ownAtoms own ic cls names, a.before args s = true)
    (hlocs : ∀ x ∈ locs, ∀ cell, s.heap[x.base]? = some cell → cell.vm.isStatics = false)
    {a : Addr} {cX : ClassId} {kX : Class} (hfoundX : s.vm.findClass cls = some cX) (hkX : s.vm.classes[cX]? = some kX) (hcell : W.heap[a]? = some (freshCell cX kX)) (hnew : s.heap.size ≤ a)
    {msg : Value} (hmsg : msg.isRef = true)
    {g : JFrame} (hg : g.method = m₀) (hsize : g.locals.size = c.maxLocals) {rest : List Value} (hstack : g.stack = msg :: .ref a :: .ref a :: rest)
    (hd6 : decode c.code g.pc = .ok (.invokespecial ic, 3))
    (hRframes : names.length + 3 < R.frames) (hRlocals : 2 * g.monitorRoom + ((Value.ref a :: rest).map fun v => v.category).sum + (13 * (names.length + 1) + 42) ≤ R.locals) :
    ∃ (V : State) (ce : Cell) (L : List Loc), Stand p l e R s m₀ args below meth c (V.setCell a ce) (locs ++ L) cells slots ∧ (∀ y ∈ L, y.base = a) ∧ a < V.heap.size ∧ ce.cls = cX ∧ ce.vm = .none ∧
      ∀ target, Steps p.tables e below ((V.setCell a ce).setTop { g with stack := .ref a :: rest, pc := g.pc + 3 }) target → Steps p.tables e below (W.setTop g) target := by
  have howns : e.platform.frameOwnsMonitors = true := by rw [X.admits.platform]
  have hfin : e.platform.finalization = false := by rw [X.admits.platform]
  have hpl : e.platform.magicAccessors = ({} : Platform).magicAccessors := by rw [X.admits.platform]
  have a' : ∀ x, x ∈ Bundle.ownAtoms own ic cls names → x.holds args s none s [] = true := fun x hx => h x hx
  obtain ⟨T, Z0, L, -, Y⟩ := ThrowableC.of_atoms (args := args) howns hfin hpl (fun x hx => h x (by simp [Bundle.ownAtoms, hx]))
  obtain ⟨Z, M, LZ, LM, hnZ⟩ := Init0T.ofS_atoms (args := args) hpl L Y (fun x hx => h x (by simp [Bundle.ownAtoms, hx]))
  obtain ⟨P1, Ps, hlen, L1, hL, hP1m, hlink1, hlink⟩ := Bundle.chainS (args := args) hpl hnZ names cls hcls hnames (fun x hx => h x (by simp [Bundle.ownAtoms, hx]))
  have hfound : s.vm.findClass cls = some P1.m.cls := findClass_of_methodNamed hP1m
  cases Option.some.inj (hfoundX.symm.trans hfound)
  obtain ⟨c1, kX', hc1, hk, hord, -, -, hn6⟩ := Cond.instantiable_spec (a' (.instantiable cls 6) (by simp [Bundle.ownAtoms]))
  cases Option.some.inj (hc1.symm.trans hfound)
  cases Option.some.inj (hkX.symm.trans hk)
  have hsel0 : selectMethod e.platform s.vm P1.m.cls T.fill0 = .method T.fill0 := by
    obtain ⟨c2, r2, m2, q1, q2, q3, q4, -⟩ := Cond.selects_spec (a' (.selects cls Bundle.tFill0 Bundle.tFill0) (by simp [Bundle.ownAtoms]))
    cases Option.some.inj (q1.symm.trans hfound)
    cases Option.some.inj (q2.symm.trans (State.methodFound?_of_named Y.fill0 (by decide)))
    cases Option.some.inj (q3.symm.trans Y.fill0)
    rw [Launch.admits_selectMethod X.admits]; exact q4
  have hselF : selectMethod e.platform s.vm P1.m.cls T.fill = .method T.fill := by
    obtain ⟨c2, r2, m2, q1, q2, q3, q4, -⟩ := Cond.selects_spec (a' (.selects cls Bundle.tFill Bundle.tFill) (by simp [Bundle.ownAtoms]))
    cases Option.some.inj (q1.symm.trans hfound)
    cases Option.some.inj (q2.symm.trans (State.methodFound?_of_named Y.fill (by decide)))
    cases Option.some.inj (q3.symm.trans Y.fill)
    rw [Launch.admits_selectMethod X.admits]; exact q4
  obtain ⟨cellS0, hcS0, hiss⟩ := Y.statics
  obtain ⟨u0, hu0⟩ := Cond.staticRefV Y.unassigned L.unassignedStatic L.statics hcS0 hiss (a' (.isRef (.static Bundle.tN "UNASSIGNED_STACK" Bundle.steD)) (by simp [Bundle.ownAtoms]))
  obtain ⟨sen, hsen⟩ := Cond.staticRefV Y.sentinel L.sentinelStatic L.statics hcS0 hiss (a' (.isRef (.static Bundle.tN "SUPPRESSED_SENTINEL" Bundle.listD)) (by simp [Bundle.ownAtoms]))
  obtain ⟨ci198, i198, fB, hk198, hg198, ha198, hsB, -, hnB, htB, hffB⟩ := Cond.ownField (t := .object "java/lang/Object") Y.found L.cls (by decide +kernel) (a' (.fieldLink Bundle.tN 198 Bundle.tN "backtrace" "Ljava/lang/Object;") (by simp [Bundle.ownAtoms])) (a' (.lays Bundle.tN Bundle.tN "backtrace" "Ljava/lang/Object;") (by simp [Bundle.ownAtoms])) e.platform hpl
  obtain ⟨cellS, hcS', heS, -, hkeep⟩ := X.same.2.2.2.2.2 T.aS cellS0 hcS0
  have hcellS : W.heap[T.aS]? = some cellS := hcS'
  have hout' : ∀ i, (⟨T.aS, i⟩ : Loc) ∉ locs := fun i hmem => by
    have := hlocs _ hmem cellS0 hcS0
    rw [hiss] at this; cases this
  have hknownS : cellS.vm ≠ .unknown := by
    rw [heS]; intro hu
    rw [show cellS0.vm = .unknown from hu] at hiss
    cases hiss
  have hneS : T.aS ≠ a := Nat.ne_of_lt (Nat.lt_of_lt_of_le (Array.getElem?_eq_some_iff.mp hcS0).1 hnew)
  obtain ⟨iM, hffM⟩ := Y.msg
  obtain ⟨tyC, dC, hdC, hdnC⟩ := Cond.laysAt hfound hk Y.cause (a' (.lays cls Bundle.tN "cause" "Ljava/lang/Throwable;") (by simp [Bundle.ownAtoms]))
  obtain ⟨tyS, dS, hdS, hdnS⟩ := Cond.laysAt hfound hk Y.stack (a' (.lays cls Bundle.tN "stackTrace" Bundle.steD) (by simp [Bundle.ownAtoms]))
  obtain ⟨tyP, dP, hdP, hdnP⟩ := Cond.laysAt hfound hk Y.supp (a' (.lays cls Bundle.tN "suppressedExceptions" Bundle.listD) (by simp [Bundle.ownAtoms]))
  obtain ⟨tyM, dM, hdM, hdnM⟩ := Cond.laysAt hfound hk hffM (a' (.lays cls Bundle.tN "detailMessage" "Ljava/lang/String;") (by simp [Bundle.ownAtoms]))
  obtain ⟨tyB, dB, hdB, hdnB⟩ := Cond.laysAt hfound hk hffB (a' (.lays cls Bundle.tN "backtrace" "Ljava/lang/Object;") (by simp [Bundle.ownAtoms]))
  have bC := Cond.laysApart hdB hdC hdnB hdnC (by rw [hnB, Y.causeName]; decide)
  have bS := Cond.laysApart hdB hdS hdnB hdnS (by rw [hnB, Y.stackName]; decide)
  have bP := Cond.laysApart hdB hdP hdnB hdnP (by rw [hnB, Y.suppName]; decide)
  have hskip : SkipFacts T e.platform s (fun u => u) u0 ((preparedCellV T.toThrowableT (freshCell P1.m.cls kX) a u0 sen).withEntry W.cur) :=
    ⟨{ ci198 := ci198, i198 := i198, fBack := fB }, ⟨hk198, hg198, ha198, hsB⟩, by
      have := fresh_default (c := P1.m.cls) tyB
      rw [htB] at this
      simpa [preparedCellV, Cell.setSlot, Cell.withEntry, Array.getElem?_setIfInBounds, bC, bS, bP, bC.symm, bS.symm, bP.symm, defaultValue] using this, fun _ _ => rfl⟩
  obtain ⟨tm, methC, cdC, kC, vm₁, hnC, -, -, -, -, -, -, -, hW₁, st1⟩ := Steps.initColdS (tb := p.tables) (e := e) (below := below) (s := s) (U := W) X.here hexec X.warmed hpl hown (t := Bundle.initS cls) rfl rfl (Bundle.fit_spec hcls).2
    (a' (.methodLink own ic (Bundle.initS cls)) (by simp [Bundle.ownAtoms])) (h (.instanceMethod (Bundle.initS cls)) (by cases names <;> simp [Bundle.ownAtoms, Bundle.chainSAtoms, Bundle.passSAtoms])) (bytes := Bundle.six) (maxL := 2) (h (.code (Bundle.initS cls) Bundle.six 2 none) (by cases names <;> simp [Bundle.ownAtoms, Bundle.chainSAtoms, Bundle.passSAtoms]))
    (f := g) hg (a := a) (msg := msg) (rest := .ref a :: rest) hstack hd6
  cases Option.some.inj (hnC.symm.trans hP1m)
  have X₁ := X.noted hW₁
  obtain ⟨vm₂, X₂, st2⟩ := X₁.ctorMessageOffV hexec (g := { g with stack := .ref a :: rest }) hg hsize T L Z LZ M LM (P1 :: Ps)
    (fun P hP => by rcases List.mem_cons.mp hP with rfl | hP; exact L1; exact hL P hP) ⟨hlink1, hlink⟩ (u0 := u0) (sen := sen) (self := a) hmsg (cell := freshCell P1.m.cls kX) (cellS := cellS)
    hcell (fun _ => by simp) (by simp) rfl rfl hsel0 hselF hcellS hneS hknownS (by rw [hkeep _ (hout' _)]; exact hu0) (by rw [hkeep _ (hout' _)]; exact hsen)
    (Takes.of_laid hk hord tyC (by rw [Y.causeType]; rfl)) (Takes.of_laid hk hord tyS (by rw [Y.stackType]; exact fits_refV_array _ u0)) (Takes.of_laid hk hord tyP (by rw [Y.suppType]; exact fits_refV_object _ sen))
    (Takes.of_laid hk hord tyM (by rw [Y.msgType]; exact fits_refV_object _ ⟨msg, hmsg⟩)) Y.objLocals hskip htr [] hd6
    (by simp only [List.length_cons, hlen]; omega) (by simp only [List.length_cons, hlen]; exact hRlocals)
  have hlt : a < ((W.setVm vm₁).setVm vm₂).heap.size := (Array.getElem?_eq_some_iff.mp hcell).1
  refine ⟨(W.setVm vm₁).setVm vm₂, _, _, X₂, fun y hy => ?_, hlt, rfl, rfl, fun target hwalk => st1 _ (fun acts => ?_)⟩
  · simp only [List.mem_cons, List.not_mem_nil, or_false] at hy
    rcases hy with rfl | rfl | rfl | rfl | rfl <;> rfl
  · rw [doInvoke_state]
    exact st2 _ hwalk
set_option maxHeartbeats 1000000 in
theorem vx_ctorMade0 (X : Stand p l e R s m₀ args below meth c W locs cells slots) (hexec : p.tables.exec = Jvm.exec) (htr : e.platform.stackTraces = false) {own cls : String} {names : List String} {ic : Nat}
    (hown : s.vm.findClass own = some m₀.cls) (hcls : Bundle.fit cls = true) (hnames : ∀ n ∈ names, Bundle.fit n = true)
    (h : ∀ a ∈ Bundle.ownAtoms0 own ic cls names, a.before args s = true)
    (hlocs : ∀ x ∈ locs, ∀ cell, s.heap[x.base]? = some cell → cell.vm.isStatics = false)
    {a : Addr} {cX : ClassId} {kX : Class} (hfoundX : s.vm.findClass cls = some cX) (hkX : s.vm.classes[cX]? = some kX) (hcell : W.heap[a]? = some (freshCell cX kX)) (hnew : s.heap.size ≤ a)
    {g : JFrame} (hg : g.method = m₀) (hsize : g.locals.size = c.maxLocals) {rest : List Value} (hstack : g.stack = .ref a :: .ref a :: rest)
    (hd6 : decode c.code g.pc = .ok (.invokespecial ic, 3))
    (hRframes : names.length + 3 < R.frames) (hRlocals : 2 * g.monitorRoom + ((Value.ref a :: rest).map fun v => v.category).sum + (13 * (names.length + 1) + 41) ≤ R.locals) :
    ∃ (V : State) (ce : Cell) (L : List Loc), Stand p l e R s m₀ args below meth c (V.setCell a ce) (locs ++ L) cells slots ∧ (∀ y ∈ L, y.base = a) ∧ a < V.heap.size ∧ ce.cls = cX ∧ ce.vm = .none ∧
      ∀ target, Steps p.tables e below ((V.setCell a ce).setTop { g with stack := .ref a :: rest, pc := g.pc + 3 }) target → Steps p.tables e below (W.setTop g) target := by
  have howns : e.platform.frameOwnsMonitors = true := by rw [X.admits.platform]
  have hfin : e.platform.finalization = false := by rw [X.admits.platform]
  have hpl : e.platform.magicAccessors = ({} : Platform).magicAccessors := by rw [X.admits.platform]
  have a' : ∀ x, x ∈ Bundle.ownAtoms0 own ic cls names → x.holds args s none s [] = true := fun x hx => h x hx
  obtain ⟨T, Z, L, LZ, Y⟩ := ThrowableC.of_atoms (args := args) howns hfin hpl (fun x hx => h x (by simp [Bundle.ownAtoms0, hx]))
  obtain ⟨P1, Ps, hlen, L1, hL, hP1m, hlink1, hlink⟩ := Bundle.chain0 (args := args) hpl Y.init0 names cls hcls hnames (fun x hx => h x (by simp [Bundle.ownAtoms0, hx]))
  have hfound : s.vm.findClass cls = some P1.m.cls := findClass_of_methodNamed hP1m
  cases Option.some.inj (hfoundX.symm.trans hfound)
  obtain ⟨c1, kX', hc1, hk, hord, -, -, hn6⟩ := Cond.instantiable_spec (a' (.instantiable cls 6) (by simp [Bundle.ownAtoms0]))
  cases Option.some.inj (hc1.symm.trans hfound)
  cases Option.some.inj (hkX.symm.trans hk)
  have hsel0 : selectMethod e.platform s.vm P1.m.cls T.fill0 = .method T.fill0 := by
    obtain ⟨c2, r2, m2, q1, q2, q3, q4, -⟩ := Cond.selects_spec (a' (.selects cls Bundle.tFill0 Bundle.tFill0) (by simp [Bundle.ownAtoms0]))
    cases Option.some.inj (q1.symm.trans hfound)
    cases Option.some.inj (q2.symm.trans (State.methodFound?_of_named Y.fill0 (by decide)))
    cases Option.some.inj (q3.symm.trans Y.fill0)
    rw [Launch.admits_selectMethod X.admits]; exact q4
  have hselF : selectMethod e.platform s.vm P1.m.cls T.fill = .method T.fill := by
    obtain ⟨c2, r2, m2, q1, q2, q3, q4, -⟩ := Cond.selects_spec (a' (.selects cls Bundle.tFill Bundle.tFill) (by simp [Bundle.ownAtoms0]))
    cases Option.some.inj (q1.symm.trans hfound)
    cases Option.some.inj (q2.symm.trans (State.methodFound?_of_named Y.fill (by decide)))
    cases Option.some.inj (q3.symm.trans Y.fill)
    rw [Launch.admits_selectMethod X.admits]; exact q4
  obtain ⟨cellS0, hcS0, hiss⟩ := Y.statics
  obtain ⟨u0, hu0⟩ := Cond.staticRefV Y.unassigned L.unassignedStatic L.statics hcS0 hiss (a' (.isRef (.static Bundle.tN "UNASSIGNED_STACK" Bundle.steD)) (by simp [Bundle.ownAtoms0]))
  obtain ⟨sen, hsen⟩ := Cond.staticRefV Y.sentinel L.sentinelStatic L.statics hcS0 hiss (a' (.isRef (.static Bundle.tN "SUPPRESSED_SENTINEL" Bundle.listD)) (by simp [Bundle.ownAtoms0]))
  obtain ⟨ci198, i198, fB, hk198, hg198, ha198, hsB, -, hnB, htB, hffB⟩ := Cond.ownField (t := .object "java/lang/Object") Y.found L.cls (by decide +kernel) (a' (.fieldLink Bundle.tN 198 Bundle.tN "backtrace" "Ljava/lang/Object;") (by simp [Bundle.ownAtoms0])) (a' (.lays Bundle.tN Bundle.tN "backtrace" "Ljava/lang/Object;") (by simp [Bundle.ownAtoms0])) e.platform hpl
  obtain ⟨cellS, hcS', heS, -, hkeep⟩ := X.same.2.2.2.2.2 T.aS cellS0 hcS0
  have hcellS : W.heap[T.aS]? = some cellS := hcS'
  have hout' : ∀ i, (⟨T.aS, i⟩ : Loc) ∉ locs := fun i hmem => by
    have := hlocs _ hmem cellS0 hcS0
    rw [hiss] at this; cases this
  have hknownS : cellS.vm ≠ .unknown := by
    rw [heS]; intro hu
    rw [show cellS0.vm = .unknown from hu] at hiss
    cases hiss
  have hneS : T.aS ≠ a := Nat.ne_of_lt (Nat.lt_of_lt_of_le (Array.getElem?_eq_some_iff.mp hcS0).1 hnew)
  obtain ⟨iM, hffM⟩ := Y.msg
  obtain ⟨tyC, dC, hdC, hdnC⟩ := Cond.laysAt hfound hk Y.cause (a' (.lays cls Bundle.tN "cause" "Ljava/lang/Throwable;") (by simp [Bundle.ownAtoms0]))
  obtain ⟨tyS, dS, hdS, hdnS⟩ := Cond.laysAt hfound hk Y.stack (a' (.lays cls Bundle.tN "stackTrace" Bundle.steD) (by simp [Bundle.ownAtoms0]))
  obtain ⟨tyP, dP, hdP, hdnP⟩ := Cond.laysAt hfound hk Y.supp (a' (.lays cls Bundle.tN "suppressedExceptions" Bundle.listD) (by simp [Bundle.ownAtoms0]))
  obtain ⟨tyM, dM, hdM, hdnM⟩ := Cond.laysAt hfound hk hffM (a' (.lays cls Bundle.tN "detailMessage" "Ljava/lang/String;") (by simp [Bundle.ownAtoms0]))
  obtain ⟨tyB, dB, hdB, hdnB⟩ := Cond.laysAt hfound hk hffB (a' (.lays cls Bundle.tN "backtrace" "Ljava/lang/Object;") (by simp [Bundle.ownAtoms0]))
  have bC := Cond.laysApart hdB hdC hdnB hdnC (by rw [hnB, Y.causeName]; decide)
  have bS := Cond.laysApart hdB hdS hdnB hdnS (by rw [hnB, Y.stackName]; decide)
  have bP := Cond.laysApart hdB hdP hdnB hdnP (by rw [hnB, Y.suppName]; decide)
  have hskip : SkipFacts T e.platform s (fun u => u) u0 ((preparedCellV T.toThrowableT (freshCell P1.m.cls kX) a u0 sen).withEntry W.cur) :=
    ⟨{ ci198 := ci198, i198 := i198, fBack := fB }, ⟨hk198, hg198, ha198, hsB⟩, by
      have := fresh_default (c := P1.m.cls) tyB
      rw [htB] at this
      simpa [preparedCellV, Cell.setSlot, Cell.withEntry, Array.getElem?_setIfInBounds, bC, bS, bP, bC.symm, bS.symm, bP.symm, defaultValue] using this, fun _ _ => rfl⟩
  obtain ⟨tm, methC, cdC, kC, vm₁, hnC, -, -, -, -, -, -, -, hW₁, st1⟩ := Steps.initCold (tb := p.tables) (e := e) (below := below) (s := s) (U := W) X.here hexec X.warmed hpl hown (t := Bundle.init0 cls) rfl rfl (Bundle.fit_spec hcls).2
    (a' (.methodLink own ic (Bundle.init0 cls)) (by simp [Bundle.ownAtoms0])) (h (.instanceMethod (Bundle.init0 cls)) (by cases names <;> simp [Bundle.ownAtoms0, Bundle.chain0Atoms, Bundle.passAtoms])) (bytes := Bundle.five) (maxL := 1) (h (.code (Bundle.init0 cls) Bundle.five 1 none) (by cases names <;> simp [Bundle.ownAtoms0, Bundle.chain0Atoms, Bundle.passAtoms]))
    (f := g) hg (a := a) (rest := .ref a :: rest) hstack hd6
  cases Option.some.inj (hnC.symm.trans hP1m)
  have X₁ := X.noted hW₁
  obtain ⟨vm₂, X₂, st2⟩ := X₁.ctorPlainOffV hexec (g := { g with stack := .ref a :: rest }) hg hsize T L Z LZ (P1 :: Ps)
    (fun P hP => by rcases List.mem_cons.mp hP with rfl | hP; exact L1; exact hL P hP) ⟨hlink1, hlink⟩ (u0 := u0) (sen := sen) (self := a) (cell := freshCell P1.m.cls kX) (cellS := cellS)
    hcell (fun _ => by simp) (by simp) rfl rfl hsel0 hselF hcellS hneS hknownS (by rw [hkeep _ (hout' _)]; exact hu0) (by rw [hkeep _ (hout' _)]; exact hsen)
    (Takes.of_laid hk hord tyC (by rw [Y.causeType]; rfl)) (Takes.of_laid hk hord tyS (by rw [Y.stackType]; exact fits_refV_array _ u0)) (Takes.of_laid hk hord tyP (by rw [Y.suppType]; exact fits_refV_object _ sen)) Y.objLocals hskip htr [] hd6
    (by simp only [List.length_cons, hlen]; omega) (by simp only [List.length_cons, hlen]; exact hRlocals)
  have hlt : a < ((W.setVm vm₁).setVm vm₂).heap.size := (Array.getElem?_eq_some_iff.mp hcell).1
  refine ⟨(W.setVm vm₁).setVm vm₂, _, _, X₂, fun y hy => ?_, hlt, rfl, rfl, fun target hwalk => st1 _ (fun acts => ?_)⟩
  · simp only [List.mem_cons, List.not_mem_nil, or_false] at hy
    rcases hy with rfl | rfl | rfl | rfl <;> rfl
  · rw [doInvoke_state]
    exact st2 _ hwalk
end VXK
section VXK2
variable {p : Program} {l : Launch} {e : Env} {R : Room} {s : State} {m : MethodId} {args : Array Value} {below : List Frame} {meth : Method} {c : Code} {H : Heap} {locs : List Loc} {cells slots : Nat} {Q : State → Prop}
variable {ls : Array Slot} {rest : List Value} {D : va_G} {cl : List vw_C} {tys : List (ClassId × FieldType)} {ws : va_W}
/-- 'new E("text")' that isn't thrown at once: the object goes on the stack -/
theorem vx_makeS {cc : ByteArray} {pc : Nat} (hexec : p.tables.exec = Jvm.exec) (hb : c.code = cc) (hl : l.stackTraces = false) {own cls text : String} {names : List String} {ik is ic sa ci : Nat} {A : Nat → Prop} {T0 : u_T}
    (hown : s.vm.findClass own = some m.cls) (hcls : Bundle.fit cls = true) (hnames : ∀ n ∈ names, Bundle.fit n = true)
    (hk : (Cond.classLink own ik cls).before args s = true) (hini : (Cond.initialized cls).before args s = true) (hstr : vk_R own is text sa s) (hat : ∀ w ∈ vx_atS own ic cls names, w.before args s = true)
    (hgood : ∀ w ∈ Cond.classLink own ik cls :: Cond.initialized cls :: vx_atS own ic cls names, vx_ot w = true)
    (hU : vx_Zq Bundle.tN "UNASSIGNED_STACK" Bundle.steD A s s.heap) (hN : vx_Zq Bundle.tN "SUPPRESSED_SENTINEL" Bundle.listD A s s.heap) (hS : va_S A s.heap H locs) (hsize : ls.size = c.maxLocals)
    (d0 : decode cc pc = .ok (.new ik, 3)) (d3 : decode cc (pc + 3) = .ok (.dup, 1)) (d4 : decode cc (pc + 4) = .ok (.ldc is, 2)) (d6 : decode cc (pc + 6) = .ok (.invokespecial ic, 3))
    (hK : va_K D cl tys s) (hP : va_P D cl ws H) (hD : va_D A ws) (hA : ∀ q, s.heap.size ≤ q → A q) (hc : cl[ci]? = some (cls, T0, 0))
    (hRframes : names.length + 3 < R.frames) (hRlocals : (rest.map fun v => v.category).sum + (13 * (names.length + 1) + 43) ≤ R.locals) (hRcells : cells + 1 ≤ R.cells) (hRslots : slots + 6 ≤ R.slots)
    (kk : ∀ (q : Nat) (H1 : Heap), va_P D cl (ws ++ [(q, .inr (ci, []))]) H1 → va_D A (ws ++ [(q, .inr (ci, []))]) → va_S A s.heap H1 locs → W p l e R s m args below meth c H1 locs (cells + 1) (slots + 6) Q (F0 m (pc + 9) ls (.ref q :: rest))) :
    W p l e R s m args below meth c H locs cells slots Q (F0 m pc ls rest) := by
  intro T hT X
  subst hT
  have htr : e.platform.stackTraces = false := (show e.platform.stackTraces = l.stackTraces by rw [X.admits.platform]).trans hl
  have Y := vx_rebase X (R' := { frames := R.frames, locals := R.locals, cells := 1, slots := 6 }) (Nat.le_refl _) (Nat.le_refl _) hRcells hRslots
  obtain ⟨s', hA'⟩ : ∃ z, z = (T.setVm s.vm).setFrames (.invoking m args :: below) := ⟨_, rfl⟩
  rw [← hA'] at Y
  have hvm : s'.vm = s.vm := by rw [hA']; rfl
  have hhp : s'.heap = T.heap := by rw [hA']; rfl
  have hW0 : s.WarmedH s'.vm := by rw [hvm]; exact State.WarmedH.refl s
  have hat' : ∀ w ∈ vx_atS own ic cls names, w.before args s' = true := fun w hw => vx_ot_at hW0 hvm.symm (hgood w (List.mem_cons_of_mem _ (List.mem_cons_of_mem _ hw))) (hat w hw)
  have hk' : (Cond.classLink own ik cls).before args s' = true := vx_ot_at hW0 hvm.symm (hgood _ List.mem_cons_self) hk
  have hini' : (Cond.initialized cls).before args s' = true := vx_ot_at hW0 hvm.symm (hgood _ (List.mem_cons_of_mem _ List.mem_cons_self)) hini
  have hU' : vx_Zq Bundle.tN "UNASSIGNED_STACK" Bundle.steD A s' s'.heap := by rw [hhp]; exact vx_Zq.moved hW0.alike (hU.kept hS.2.1)
  have hN' : vx_Zq Bundle.tN "SUPPRESSED_SENTINEL" Bundle.listD A s' s'.heap := by rw [hhp]; exact vx_Zq.moved hW0.alike (hN.kept hS.2.1)
  have h : ∀ w ∈ Bundle.ownAtoms own ic cls names, w.before args s' = true := vx_own hat' (vx_isRefq hU'.1) (vx_isRefq hN'.1) hU'.2.word hN'.2.word
  have hown' : s'.vm.findClass own = some m.cls := by rw [hvm]; exact hown
  have hins : (Cond.instantiable cls 6).before args s' = true := h _ (by simp [Bundle.ownAtoms])
  obtain ⟨vm₁, cX, kX, hfX, hkX, -, -, X₁, st1⟩ := Y.newCold hexec (own := own) (C := cls) (index := ik) (n := 6) hown' hk' hins hini'
    (g := F0 m pc ls rest) rfl (by rw [hb]; exact d0) (Nat.le_refl _) (Nat.le_refl _)
  generalize hT1 : (T.setVm vm₁).pushCell { cls := cX, slots := kX.instanceTypes.map defaultValue, vm := .none } = T1 at X₁ st1
  have hcat : (Value.ref T.heap.size).category = 1 := rfl
  have hcellA : T1.heap[T.heap.size]? = some (freshCell cX kX) := by rw [← hT1]; exact State.heap_pushCell_size _ _
  have d3' : decode c.code (pc + 3) = .ok (.dup, 1) := by rw [hb]; exact d3
  have d4' : decode c.code (pc + 4) = .ok (.ldc is, 2) := by rw [hb]; exact d4
  have hstr' : vk_R own is text sa s' := vk_R.warm hW0 hstr
  obtain ⟨V, ce, L, Z, hL, hlt, hcl9, hvm9, st⟩ := vx_ctorMadeS X₁ hexec htr (own := own) (cls := cls) (names := names) (ic := ic) hown' hcls hnames h (fun x hx => nomatch hx) hfX hkX hcellA (by rw [hhp]; exact Nat.le_refl _) (msg := .ref sa) rfl
    (g := { method := m, pc := pc + 6, locals := ls, stack := .ref sa :: .ref T.heap.size :: .ref T.heap.size :: rest, locked := none }) rfl hsize (rest := rest) rfl
    (by rw [hb]; exact d6) hRframes (by simp only [List.map_cons, List.sum_cons, hcat]; omega)
  have Z0 := Stand.forget (locs := []) Z (fun y hy => by rw [hL y hy, hhp]; exact Nat.le_refl _)
  obtain ⟨f1, f2⟩ := vx_frame Z0.same
  rw [hhp] at f1 f2
  have hcid : ce.cls = D.1 ci := by
    rw [hcl9]
    have h1 := (hK.1 ci _ hc).2.1
    rw [hvm] at hfX
    exact Option.some.inj (hfX.symm.trans h1)
  have hh : (V.setCell T.heap.size ce).heap[T.heap.size]? = some ce := heapAt_setCell_self (s := V) ce hlt
  subst hA'
  have X5 := vx_back9 X Y Z0
  have X6 : Stand p l e R s m args below meth c (V.setCell T.heap.size ce) locs (cells + 1) (slots + 6) := { X5 with same := X5.same.mono (by omega) (by omega) }
  have hk9 : ∀ (k : Nat) (x : Nat × va_E), ws[k]? = some x → (V.setCell T.heap.size ce).heap[x.1]? = T.heap[x.1]? := fun k x hx => f2 x.1 ((hP k x hx).lt) (fun z hz => nomatch hz)
  obtain ⟨t, a1, b1⟩ := kk T.heap.size (V.setCell T.heap.size ce).heap ((hP.kept hk9).app (fun k x hx => by
      have hz : k < 1 := (List.getElem?_eq_some_iff.mp hx).1
      rw [show k = 0 by omega] at hx
      cases hx
      exact ⟨_, hc, ce, hh, hcid, hvm9, fun k hk => absurd hk (Nat.not_lt_zero k)⟩)) (hD.push hP rfl (hA _ hS.1)) ⟨Nat.le_trans hS.1 f1, fun q h1 h2 => (f2 q (Nat.lt_of_lt_of_le h1 hS.1) (fun z hz => nomatch hz)).trans (hS.2.1 q h1 h2), hS.2.2⟩ _ rfl X6
  refine ⟨t, st1 _ ?_, b1⟩
  show Steps p.tables e below (T1.setTop { method := m, pc := pc + 3, locals := ls, stack := .ref T.heap.size :: rest, locked := none }) _
  jvm_step X₁.here [X₁.here.top, hexec, d3', Value.category]
  exact X₁.ldcString hexec (own := own) (text := text) (index := is) (a := sa) hown' hstr'.1 hstr'.2
    (g := { method := m, pc := pc + 4, locals := ls, stack := .ref T.heap.size :: .ref T.heap.size :: rest, locked := none }) rfl d4' _ (st _ a1)
/-- 'new E()' that isn't thrown at once: the object goes on the stack -/
theorem vx_make0 {cc : ByteArray} {pc : Nat} (hexec : p.tables.exec = Jvm.exec) (hb : c.code = cc) (hl : l.stackTraces = false) {own cls : String} {names : List String} {ik ic ci : Nat} {A : Nat → Prop} {T0 : u_T}
    (hown : s.vm.findClass own = some m.cls) (hcls : Bundle.fit cls = true) (hnames : ∀ n ∈ names, Bundle.fit n = true)
    (hk : (Cond.classLink own ik cls).before args s = true) (hini : (Cond.initialized cls).before args s = true) (hat : ∀ w ∈ vx_at0 own ic cls names, w.before args s = true)
    (hgood : ∀ w ∈ Cond.classLink own ik cls :: Cond.initialized cls :: vx_at0 own ic cls names, vx_ot w = true)
    (hU : vx_Zq Bundle.tN "UNASSIGNED_STACK" Bundle.steD A s s.heap) (hN : vx_Zq Bundle.tN "SUPPRESSED_SENTINEL" Bundle.listD A s s.heap) (hS : va_S A s.heap H locs) (hsize : ls.size = c.maxLocals)
    (d0 : decode cc pc = .ok (.new ik, 3)) (d3 : decode cc (pc + 3) = .ok (.dup, 1)) (d4 : decode cc (pc + 4) = .ok (.invokespecial ic, 3))
    (hK : va_K D cl tys s) (hP : va_P D cl ws H) (hD : va_D A ws) (hA : ∀ q, s.heap.size ≤ q → A q) (hc : cl[ci]? = some (cls, T0, 0))
    (hRframes : names.length + 3 < R.frames) (hRlocals : (rest.map fun v => v.category).sum + (13 * (names.length + 1) + 42) ≤ R.locals) (hRcells : cells + 1 ≤ R.cells) (hRslots : slots + 6 ≤ R.slots)
    (kk : ∀ (q : Nat) (H1 : Heap), va_P D cl (ws ++ [(q, .inr (ci, []))]) H1 → va_D A (ws ++ [(q, .inr (ci, []))]) → va_S A s.heap H1 locs → W p l e R s m args below meth c H1 locs (cells + 1) (slots + 6) Q (F0 m (pc + 7) ls (.ref q :: rest))) :
    W p l e R s m args below meth c H locs cells slots Q (F0 m pc ls rest) := by
  intro T hT X
  subst hT
  have htr : e.platform.stackTraces = false := (show e.platform.stackTraces = l.stackTraces by rw [X.admits.platform]).trans hl
  have Y := vx_rebase X (R' := { frames := R.frames, locals := R.locals, cells := 1, slots := 6 }) (Nat.le_refl _) (Nat.le_refl _) hRcells hRslots
  obtain ⟨s', hA'⟩ : ∃ z, z = (T.setVm s.vm).setFrames (.invoking m args :: below) := ⟨_, rfl⟩
  rw [← hA'] at Y
  have hvm : s'.vm = s.vm := by rw [hA']; rfl
  have hhp : s'.heap = T.heap := by rw [hA']; rfl
  have hW0 : s.WarmedH s'.vm := by rw [hvm]; exact State.WarmedH.refl s
  have hat' : ∀ w ∈ vx_at0 own ic cls names, w.before args s' = true := fun w hw => vx_ot_at hW0 hvm.symm (hgood w (List.mem_cons_of_mem _ (List.mem_cons_of_mem _ hw))) (hat w hw)
  have hk' : (Cond.classLink own ik cls).before args s' = true := vx_ot_at hW0 hvm.symm (hgood _ List.mem_cons_self) hk
  have hini' : (Cond.initialized cls).before args s' = true := vx_ot_at hW0 hvm.symm (hgood _ (List.mem_cons_of_mem _ List.mem_cons_self)) hini
  have hU' : vx_Zq Bundle.tN "UNASSIGNED_STACK" Bundle.steD A s' s'.heap := by rw [hhp]; exact vx_Zq.moved hW0.alike (hU.kept hS.2.1)
  have hN' : vx_Zq Bundle.tN "SUPPRESSED_SENTINEL" Bundle.listD A s' s'.heap := by rw [hhp]; exact vx_Zq.moved hW0.alike (hN.kept hS.2.1)
  have h : ∀ w ∈ Bundle.ownAtoms0 own ic cls names, w.before args s' = true := vx_own hat' (vx_isRefq hU'.1) (vx_isRefq hN'.1) hU'.2.word hN'.2.word
  have hown' : s'.vm.findClass own = some m.cls := by rw [hvm]; exact hown
  have hins : (Cond.instantiable cls 6).before args s' = true := h _ (by simp [Bundle.ownAtoms0])
  obtain ⟨vm₁, cX, kX, hfX, hkX, -, -, X₁, st1⟩ := Y.newCold hexec (own := own) (C := cls) (index := ik) (n := 6) hown' hk' hins hini'
    (g := F0 m pc ls rest) rfl (by rw [hb]; exact d0) (Nat.le_refl _) (Nat.le_refl _)
  generalize hT1 : (T.setVm vm₁).pushCell { cls := cX, slots := kX.instanceTypes.map defaultValue, vm := .none } = T1 at X₁ st1
  have hcat : (Value.ref T.heap.size).category = 1 := rfl
  have hcellA : T1.heap[T.heap.size]? = some (freshCell cX kX) := by rw [← hT1]; exact State.heap_pushCell_size _ _
  have d3' : decode c.code (pc + 3) = .ok (.dup, 1) := by rw [hb]; exact d3
  obtain ⟨V, ce, L, Z, hL, hlt, hcl9, hvm9, st⟩ := vx_ctorMade0 X₁ hexec htr (own := own) (cls := cls) (names := names) (ic := ic) hown' hcls hnames h (fun x hx => nomatch hx) hfX hkX hcellA (by rw [hhp]; exact Nat.le_refl _)
    (g := { method := m, pc := pc + 4, locals := ls, stack := .ref T.heap.size :: .ref T.heap.size :: rest, locked := none }) rfl hsize (rest := rest) rfl
    (by rw [hb]; exact d4) hRframes (by simp only [List.map_cons, List.sum_cons, hcat]; omega)
  have Z0 := Stand.forget (locs := []) Z (fun y hy => by rw [hL y hy, hhp]; exact Nat.le_refl _)
  obtain ⟨f1, f2⟩ := vx_frame Z0.same
  rw [hhp] at f1 f2
  have hcid : ce.cls = D.1 ci := by
    rw [hcl9]
    have h1 := (hK.1 ci _ hc).2.1
    rw [hvm] at hfX
    exact Option.some.inj (hfX.symm.trans h1)
  have hh : (V.setCell T.heap.size ce).heap[T.heap.size]? = some ce := heapAt_setCell_self (s := V) ce hlt
  subst hA'
  have X5 := vx_back9 X Y Z0
  have X6 : Stand p l e R s m args below meth c (V.setCell T.heap.size ce) locs (cells + 1) (slots + 6) := { X5 with same := X5.same.mono (by omega) (by omega) }
  have hk9 : ∀ (k : Nat) (x : Nat × va_E), ws[k]? = some x → (V.setCell T.heap.size ce).heap[x.1]? = T.heap[x.1]? := fun k x hx => f2 x.1 ((hP k x hx).lt) (fun z hz => nomatch hz)
  obtain ⟨t, a1, b1⟩ := kk T.heap.size (V.setCell T.heap.size ce).heap ((hP.kept hk9).app (fun k x hx => by
      have hz : k < 1 := (List.getElem?_eq_some_iff.mp hx).1
      rw [show k = 0 by omega] at hx
      cases hx
      exact ⟨_, hc, ce, hh, hcid, hvm9, fun k hk => absurd hk (Nat.not_lt_zero k)⟩)) (hD.push hP rfl (hA _ hS.1)) ⟨Nat.le_trans hS.1 f1, fun q h1 h2 => (f2 q (Nat.lt_of_lt_of_le h1 hS.1) (fun z hz => nomatch hz)).trans (hS.2.1 q h1 h2), hS.2.2⟩ _ rfl X6
  refine ⟨t, st1 _ ?_, b1⟩
  show Steps p.tables e below (T1.setTop { method := m, pc := pc + 3, locals := ls, stack := .ref T.heap.size :: rest, locked := none }) _
  jvm_step X₁.here [X₁.here.top, hexec, d3', Value.category]
  exact st _ a1
/-- 'throw x' of an object that was made before -/
theorem vx_athrow {cc : ByteArray} {pc : Nat} (hexec : p.tables.exec = Jvm.exec) (hb : c.code = cc) {q : Addr} (hdg : decode cc pc = .ok (.athrow, 1)) (k : vx_W p l e R s m args below meth c H locs cells slots Q (F0 m pc ls rest) q) : W p l e R s m args below meth c H locs cells slots Q (F0 m pc ls (.ref q :: rest)) := by
  intro T hT X
  obtain ⟨t, st, hq⟩ := k T hT X
  refine ⟨t, ?_, hq⟩
  have hdg' : decode c.code pc = .ok (.athrow, 1) := by rw [hb]; exact hdg
  jvm_step X.here [X.here.top, hexec, hdg', athrow.wp_sem]
  exact st
end VXK2
/-! ===== END ===== -/
/-! ===== BEGIN a constructor that throws (launches without stack traces) ===== -/
section VXIA
variable {p : Program} {l : Launch} {e : Env} {R : Room} {s : State} {m : MethodId} {args : Array Value} {below : List Frame} {meth : Method} {c : Code} {T : State} {locs : List Loc} {cells slots : Nat}
theorem vx_callI (X : Stand p l e R s m args below meth c T locs cells slots) (hexec : p.tables.exec = Jvm.exec) {own : String} {index : Nat} {y : MethodName} {bytes : ByteArray} {maxL : Nat}
    (hown : s.vm.findClass own = some m.cls) (hy1 : y.name = "<init>") (hlink : (Cond.methodLink own index y).before args s = true) (hinst : (Cond.instanceMethod y).before args s = true)
    (hcode : (Cond.code y bytes maxL none).before args s = true) (hy : y.cls ≠ "java/lang/invoke/MethodHandle" ∧ y.cls ≠ "java/lang/invoke/VarHandle")
    {W9 : Nat} {Pre : Pt → Array Value → Prop} {Post : Pt → Array Value → Option Value → Pt → Prop} {PostX : Pt → Array Value → Addr → Pt → Prop} (hK : vx_Back l R p e below s args y 3 W9 Pre Post PostX)
    {g : JFrame} (hg : g.method = m) (hsize : g.locals.size = c.maxLocals) {a : Addr} {argsL rest : List Value} (hlen : ∀ sig, parseMethodDescriptor y.desc = some sig → argsL.length = sig.parameters.length)
    (hstack : g.stack = argsL.reverse ++ .ref a :: rest) (hW : 2 * g.monitorRoom + (rest.map fun v => v.category).sum ≤ W9) (hdg : decode c.code g.pc = .ok (.invokespecial index, 3))
    (hpre : ∀ vm₁, s.WarmedH vm₁ → Pre ⟨T.setVm vm₁, locs, cells, slots⟩ (Value.ref a :: argsL).toArray) :
    (∃ (v : Option Value) (vm₁ : Vm) (B : Pt), s.WarmedH vm₁ ∧ Stand p l e R s m args below meth c B.U B.locs B.cells B.slots ∧ Post ⟨T.setVm vm₁, locs, cells, slots⟩ (Value.ref a :: argsL).toArray v B ∧
      ∀ target, Steps p.tables e below (B.U.setTop { g with pc := g.pc + 3, stack := v.toList ++ rest }) target → Steps p.tables e below (T.setTop g) target) ∨
    (∃ (q : Addr) (vm₁ : Vm) (B : Pt), s.WarmedH vm₁ ∧ Stand p l e R s m args below meth c B.U B.locs B.cells B.slots ∧ PostX ⟨T.setVm vm₁, locs, cells, slots⟩ (Value.ref a :: argsL).toArray q B ∧
      Steps p.tables e below (T.setTop g) ((B.U.setTop { g with stack := rest }).pushFrame (.throwing q))) := by
  subst hg
  have hpl : e.platform.magicAccessors = ({} : Platform).magicAccessors := by rw [X.admits.platform]
  obtain ⟨mk, methM, cM, kP, vm₁, hnamed, hmethM, hcodeM, -, hlocalsM, -, hkP, -, hW₁, hstep₁⟩ := Steps.initColdArgs (e := e) X.here hexec X.warmed hpl hown hy1 hy hlink hinst hcode (f := g) rfl hlen hstack hdg
  have X₁ := X.noted hW₁
  rcases hK g.method meth c ⟨T.setVm vm₁, locs, cells, slots⟩ { g with stack := rest } (.invokespecial index) mk (Value.ref a :: argsL).toArray X₁ rfl hsize hdg hW (X₁.named hnamed) (hpre vm₁ X₁.warmed) with ⟨v, B, X', hpost, hsteps⟩ | ⟨q, B, X', hpost, hsteps⟩
  · exact Or.inl ⟨v, vm₁, B, X₁.warmed, X', hpost, fun target h => hstep₁ _ fun acts => by rw [doInvoke_state]; exact hsteps.trans h⟩
  · exact Or.inr ⟨q, vm₁, B, X₁.warmed, X', hpost, hstep₁ _ fun acts => by rw [doInvoke_state]; exact hsteps⟩
end VXIA
section VXIB
variable {p : Program} {l : Launch} {e : Env} {R : Room} {s : State} {m : MethodId} {args : Array Value} {below : List Frame} {meth : Method} {c : Code} {H : Heap} {locs : List Loc} {cells slots : Nat}
variable {y : MethodName} {bytes cc : ByteArray} {maxL nL mc ms n index : Nat} {ret : Option FieldType} {ws : List Cond} {rm : Room} {Pc : Array Value → State → Prop} {Qc : Array Value → State → Outcome → State → Prop} {XC : String → State → State → Prop} {free : Addr → Prop} {Ts : List Cond} {own C : String} {b : Addr} {As rest : List Value} {g : JFrame}
theorem vx_runI (S : CallFix p m c cc nL s args Ts own) (hM : vx_Met l y ws rm Pc Qc XC mc ms free) (cw : CallB R s args own index y bytes maxL none ws rm mc ms n ∧ y.name = "<init>" ∧ (Cond.instanceMethod y).before args s = true) (hp : PreS s H Pc (.ref b :: As))
    (hg : g.method = m) (hn : As.length = n) (hsize : g.locals.size = nL) (hstack : g.stack = As.reverse ++ .ref b :: rest) (hW : 2 * g.monitorRoom + (rest.map fun v => v.category).sum ≤ 8) (hdg : decode cc g.pc = .ok (.invokespecial index, 3)) (hf : cells + mc ≤ R.cells ∧ slots + ms ≤ R.slots) :
    vx_Run p l e R s m args below meth c H locs cells slots mc ms g rest (Qc (Value.ref b :: As).toArray) XC free := by
  have hK : vx_Back l R p e below s args y 3 8 (PreOf R mc ms Pc) (PostOf Qc mc ms free) (vx_Post XC mc ms free) := vx_callBack cw.1 hM hp.1
  obtain ⟨⟨-, -, -, -, -, -, hcode, -, hy, hlen, hl⟩, hy1, hin⟩ := cw
  obtain ⟨hx, hb, hml, ho, -⟩ := S
  have hPc := hp.2
  intro T hT X
  rcases vx_callI X hx (bytes := bytes) (maxL := maxL) ho hy1 hl hin hcode hy hK hg (hsize.trans hml.symm) (a := b) (argsL := As) (rest := rest) (fun sig h => hn.trans (hlen sig h)) hstack hW (by rw [hb]; exact hdg)
    (fun vm₁ hW₁ => ⟨hf.1, hf.2, hPc (T.setVm vm₁) hT hW₁⟩) with ⟨v, vm₁, ⟨U', l2, c2, s2⟩, hW₁, X', ⟨g', mk, t, L, e1, e2, hq, h1, hL, h2, h3⟩, st⟩ | ⟨q, vm₁, ⟨U', l2, c2, s2⟩, hW₁, X', ⟨g', mk, t, L, E, ce, e1, e2, hq, hce, hcv, hcl, h1, hL, h2, h3⟩, st⟩
  · dsimp only [Pt.U, Pt.locs, Pt.cells, Pt.slots] at X' e1 e2 h1 h2 h3 st
    subst h1; subst h2; subst h3
    exact Or.inl ⟨v, (T.setVm vm₁).calling g' mk (Value.ref b :: As).toArray, t, U', L, hT, X', hL, e1, e2, hq, st⟩
  · dsimp only [Pt.U, Pt.locs, Pt.cells, Pt.slots] at X' e1 e2 h1 h2 h3 st hcl
    subst h1; subst h2; subst h3
    exact Or.inr ⟨q, (T.setVm vm₁).calling g' mk (Value.ref b :: As).toArray, t, U', L, E, ce, hT, X', hL, e1, e2, hq, hce, hcv, vx_cls hW₁ hcl, st⟩
end VXIB
/-! ===== END ===== -/
/-! ===== BEGIN a private constructor of a nest mate that throws ===== -/
section VXIC
variable {p : Program} {l : Launch} {e : Env} {R : Room} {s : State} {m : MethodId} {args : Array Value} {below : List Frame} {meth : Method} {c : Code} {T : State} {locs : List Loc} {cells slots : Nat}
theorem vx_callIN (X : Stand p l e R s m args below meth c T locs cells slots) (hexec : p.tables.exec = Jvm.exec) {own : String} {index : Nat} {host : String} {y : MethodName} {bytes : ByteArray} {maxL : Nat}
    (hown : s.vm.findClass own = some m.cls) (hy1 : y.name = "<init>") (hlink : (Cond.methodLinkNest own index y host).before args s = true) (hinst : (Cond.instanceMethod y).before args s = true)
    (hcode : (Cond.code y bytes maxL none).before args s = true) (hy : y.cls ≠ "java/lang/invoke/MethodHandle" ∧ y.cls ≠ "java/lang/invoke/VarHandle")
    {W9 : Nat} {Pre : Pt → Array Value → Prop} {Post : Pt → Array Value → Option Value → Pt → Prop} {PostX : Pt → Array Value → Addr → Pt → Prop} (hK : vx_Back l R p e below s args y 3 W9 Pre Post PostX)
    {g : JFrame} (hg : g.method = m) (hsize : g.locals.size = c.maxLocals) {a : Addr} {argsL rest : List Value} (hlen : ∀ sig, parseMethodDescriptor y.desc = some sig → argsL.length = sig.parameters.length)
    (hstack : g.stack = argsL.reverse ++ .ref a :: rest) (hW : 2 * g.monitorRoom + (rest.map fun v => v.category).sum ≤ W9) (hdg : decode c.code g.pc = .ok (.invokespecial index, 3))
    (hpre : ∀ vm₁, s.WarmedH vm₁ → Pre ⟨T.setVm vm₁, locs, cells, slots⟩ (Value.ref a :: argsL).toArray) :
    (∃ (v : Option Value) (vm₁ : Vm) (B : Pt), s.WarmedH vm₁ ∧ Stand p l e R s m args below meth c B.U B.locs B.cells B.slots ∧ Post ⟨T.setVm vm₁, locs, cells, slots⟩ (Value.ref a :: argsL).toArray v B ∧
      ∀ target, Steps p.tables e below (B.U.setTop { g with pc := g.pc + 3, stack := v.toList ++ rest }) target → Steps p.tables e below (T.setTop g) target) ∨
    (∃ (q : Addr) (vm₁ : Vm) (B : Pt), s.WarmedH vm₁ ∧ Stand p l e R s m args below meth c B.U B.locs B.cells B.slots ∧ PostX ⟨T.setVm vm₁, locs, cells, slots⟩ (Value.ref a :: argsL).toArray q B ∧
      Steps p.tables e below (T.setTop g) ((B.U.setTop { g with stack := rest }).pushFrame (.throwing q))) := by
  subst hg
  have hpl : e.platform.magicAccessors = ({} : Platform).magicAccessors := by rw [X.admits.platform]
  obtain ⟨mk, methM, cM, kP, vm₁, hnamed, hmethM, hcodeM, -, hlocalsM, -, hkP, -, hW₁, hstep₁⟩ := Steps.initColdArgsNest (e := e) X.here hexec X.warmed hpl hown hy1 hy hlink hinst hcode (f := g) rfl hlen hstack hdg
  have X₁ := X.noted hW₁
  rcases hK g.method meth c ⟨T.setVm vm₁, locs, cells, slots⟩ { g with stack := rest } (.invokespecial index) mk (Value.ref a :: argsL).toArray X₁ rfl hsize hdg hW (X₁.named hnamed) (hpre vm₁ X₁.warmed) with ⟨v, B, X', hpost, hsteps⟩ | ⟨q, B, X', hpost, hsteps⟩
  · exact Or.inl ⟨v, vm₁, B, X₁.warmed, X', hpost, fun target h => hstep₁ _ fun acts => by rw [doInvoke_state]; exact hsteps.trans h⟩
  · exact Or.inr ⟨q, vm₁, B, X₁.warmed, X', hpost, hstep₁ _ fun acts => by rw [doInvoke_state]; exact hsteps⟩
end VXIC
section VXID
variable {p : Program} {l : Launch} {e : Env} {R : Room} {s : State} {m : MethodId} {args : Array Value} {below : List Frame} {meth : Method} {c : Code} {H : Heap} {locs : List Loc} {cells slots : Nat}
theorem vx_runIN {y : MethodName} {bytes cc : ByteArray} {maxL nL mc ms n index : Nat} {ws : List Cond} {rm : Room} {Pc : Array Value → State → Prop} {Qc : Array Value → State → Outcome → State → Prop} {XC : String → State → State → Prop} {free : Addr → Prop} {Ts : List Cond} {own host : String} {b : Addr} {As rest : List Value} {g : JFrame}
    (S : CallFix p m c cc nL s args Ts own) (hM : vx_Met l y ws rm Pc Qc XC mc ms free) (cw : va_CN R s args own index y host bytes maxL none ws rm mc ms n ∧ y.name = "<init>" ∧ (Cond.instanceMethod y).before args s = true) (hp : PreS s H Pc (.ref b :: As))
    (hg : g.method = m) (hn : As.length = n) (hsize : g.locals.size = nL) (hstack : g.stack = As.reverse ++ .ref b :: rest) (hW : 2 * g.monitorRoom + (rest.map fun v => v.category).sum ≤ 8) (hdg : decode cc g.pc = .ok (.invokespecial index, 3)) (hf : cells + mc ≤ R.cells ∧ slots + ms ≤ R.slots) :
    vx_Run p l e R s m args below meth c H locs cells slots mc ms g rest (Qc (Value.ref b :: As).toArray) XC free := by
  obtain ⟨⟨⟨hrc, hrs, hfr, hlo, hws, hcw⟩, hcode, hini, hy, hlen, hl⟩, hx1, hx2⟩ := cw
  have hK : vx_Back l R p e below s args y 3 8 (PreOf R mc ms Pc) (PostOf Qc mc ms free) (vx_Post XC mc ms free) := vx_back (bytes := bytes) (maxL := maxL) (ret := none) hM hp.1 hrc hrs hfr hlo hws hcw (fun a' U hW => word_at hW (Or.inl (by first | rfl | simp [Cond.onTables, Cond.keeps, Cond.steady])) hini)
  obtain ⟨hx, hb, hml, ho, -⟩ := S
  have hPc := hp.2
  intro T hT X
  rcases vx_callIN X hx (bytes := bytes) (maxL := maxL) ho hx1 hl hx2 hcode hy hK hg (hsize.trans hml.symm) (a := b) (argsL := As) (rest := rest) (fun sig h => hn.trans (hlen sig h)) hstack hW (by rw [hb]; exact hdg)
    (fun vm₁ hW₁ => ⟨hf.1, hf.2, hPc (T.setVm vm₁) hT hW₁⟩) with ⟨v, vm₁, ⟨U', l2, c2, s2⟩, hW₁, X', ⟨g', mk, t, L, e1, e2, hq, h1, hL, h2, h3⟩, st⟩ | ⟨q, vm₁, ⟨U', l2, c2, s2⟩, hW₁, X', ⟨g', mk, t, L, E, ce, e1, e2, hq, hce, hcv, hcl, h1, hL, h2, h3⟩, st⟩
  · dsimp only [Pt.U, Pt.locs, Pt.cells, Pt.slots] at X' e1 e2 h1 h2 h3 st
    subst h1; subst h2; subst h3
    exact Or.inl ⟨v, (T.setVm vm₁).calling g' mk (Value.ref b :: As).toArray, t, U', L, hT, X', hL, e1, e2, hq, st⟩
  · dsimp only [Pt.U, Pt.locs, Pt.cells, Pt.slots] at X' e1 e2 h1 h2 h3 st hcl
    subst h1; subst h2; subst h3
    exact Or.inr ⟨q, (T.setVm vm₁).calling g' mk (Value.ref b :: As).toArray, t, U', L, E, ce, hT, X', hL, e1, e2, hq, hce, hcv, vx_cls hW₁ hcl, st⟩
end VXID
/-! ===== END ===== -/
/-! ===== BEGIN a method of a class above, found by the receiver, that may throw (follows va_callVU, va_runU of this kit) ===== -/
section
variable {p : Program} {l : Launch} {e : Env} {R : Room} {s : State} {m : MethodId} {args : Array Value} {below : List Frame} {meth : Method} {c : Code} {H : Heap} {locs : List Loc} {cells slots : Nat}
theorem vx_callVU {T : State} {locs : List Loc} {cells slots : Nat} (X : Stand p l e R s m args below meth c T locs cells slots) (hexec : p.tables.exec = Jvm.exec) {own C owner : String} {index : Nat} {x y : MethodName} {bytes : ByteArray} {maxL : Nat} {ret : Option FieldType}
    (hown : s.vm.findClass own = some m.cls) (hlink : (Cond.methodLink own index x).before args s = true) (hsame : (Cond.sameMethod x.cls owner x.name x.desc).before args s = true)
    (hd0 : va_Decl s ⟨owner, x.name, x.desc⟩) (howner : owner ≠ "java/lang/invoke/MethodHandle" ∧ owner ≠ "java/lang/invoke/VarHandle")
    (hsel : (Cond.selects C x y).before args s = true) (hinst : (Cond.instanceMethod y).before args s = true) (hcode : (Cond.code y bytes maxL ret).before args s = true)
    {W : Nat} {Pre : Pt → Array Value → Prop} {Post : Pt → Array Value → Option Value → Pt → Prop} {PostX : Pt → Array Value → Addr → Pt → Prop} (hK : vx_Back l R p e below s args y 3 W Pre Post PostX)
    {b : Addr} {cellB : Cell} (hcell : T.heap[b]? = some cellB) (hobj : cellB.vm.isStatics = false) (hcls : s.vm.findClass C = some cellB.cls)
    {g : JFrame} (hg : g.method = m) (hsize : g.locals.size = c.maxLocals) {argsL rest : List Value} (hlen : ∀ sig, parseMethodDescriptor x.desc = some sig → argsL.length = sig.parameters.length)
    (hstack : g.stack = argsL.reverse ++ .ref b :: rest) (hW : 2 * g.monitorRoom + (rest.map fun v => v.category).sum ≤ W) (hdg : decode c.code g.pc = .ok (.invokevirtual index, 3))
    (hpre : ∀ vm₁, s.WarmedH vm₁ → Pre ⟨T.setVm vm₁, locs, cells, slots⟩ (Value.ref b :: argsL).toArray) :
    (∃ (v : Option Value) (vm₁ : Vm) (B : Pt), s.WarmedH vm₁ ∧ Stand p l e R s m args below meth c B.U B.locs B.cells B.slots ∧ Post ⟨T.setVm vm₁, locs, cells, slots⟩ (Value.ref b :: argsL).toArray v B ∧
      ∀ target, Steps p.tables e below (B.U.setTop { g with pc := g.pc + 3, stack := v.toList ++ rest }) target → Steps p.tables e below (T.setTop g) target) ∨
    (∃ (q : Addr) (vm₁ : Vm) (B : Pt), s.WarmedH vm₁ ∧ Stand p l e R s m args below meth c B.U B.locs B.cells B.slots ∧ PostX ⟨T.setVm vm₁, locs, cells, slots⟩ (Value.ref b :: argsL).toArray q B ∧
      Steps p.tables e below (T.setTop g) ((B.U.setTop { g with stack := rest }).pushFrame (.throwing q))) := by
  obtain ⟨r0, r, hn, hrm, hstR, hsigR⟩ := hd0
  obtain ⟨cn, ck, r1, hcn, hck, hni, hf, hn1⟩ := Cond.sameMethod_found hsame
  cases hn.symm.trans hn1
  obtain ⟨mk, methM, hnamed, hmethM, -, habM⟩ := Cond.instanceMethod_spec hinst
  obtain ⟨c2, r2, m2, q1, q2, q3, q4, kP, hkP, hkPi⟩ := Cond.selects_spec hsel
  cases hcls.symm.trans q1
  cases hf.symm.trans q2
  cases hnamed.symm.trans q3
  have hselP : selectMethod e.platform s.vm cellB.cls r0 = .method mk := by rw [Launch.admits_selectMethod X.admits]; exact q4
  obtain ⟨vm₁, X₁, hstep₁⟩ := X.invokevirtualUp hexec hown hlink hsame howner hn hrm hstR (a := b) (cell := cellB) hcell
    (fun z h => by rw [h] at hobj; cases hobj) hselP hmethM habM hkP hkPi (g := g) hg (argsL := argsL) (rest := rest) (hlen _ hsigR) hstack hdg
  rcases hK m meth c ⟨T.setVm vm₁, locs, cells, slots⟩ { g with stack := rest } (.invokevirtual index) mk (Value.ref b :: argsL).toArray X₁ hg hsize hdg hW (X₁.named hnamed) (hpre vm₁ X₁.warmed) with ⟨v, B, X', hpost, hsteps⟩ | ⟨q, B, X', hpost, hsteps⟩
  · exact Or.inl ⟨v, vm₁, B, X₁.warmed, X', hpost, fun target h => hstep₁ _ fun acts => by rw [doInvoke_state]; exact hsteps.trans h⟩
  · exact Or.inr ⟨q, vm₁, B, X₁.warmed, X', hpost, hstep₁ _ fun acts => by rw [doInvoke_state]; exact hsteps⟩
theorem vx_runU {x y : MethodName} {bytes cc : ByteArray} {maxL nL mc ms n index : Nat} {ret : Option FieldType} {ws : List Cond} {rm : Room} {Pc : Array Value → State → Prop} {Qc : Array Value → State → Outcome → State → Prop} {XC : String → State → State → Prop} {free : Addr → Prop} {Ts : List Cond} {own C owner : String} {b : Addr} {As rest : List Value} {g : JFrame}
    (S : CallFix p m c cc nL s args Ts own) (hM : vx_Met l y ws rm Pc Qc XC mc ms free) (cw : va_CU R s args own C owner index x y bytes maxL ret ws rm mc ms n) (hp : PreV s H C b Pc As)
    (hg : g.method = m) (hn : As.length = n) (hsize : g.locals.size = nL) (hstack : g.stack = As.reverse ++ .ref b :: rest) (hW : 2 * g.monitorRoom + (rest.map fun v => v.category).sum ≤ 8) (hdg : decode cc g.pc = .ok (.invokevirtual index, 3)) (hf : cells + mc ≤ R.cells ∧ slots + ms ≤ R.slots) :
    vx_Run p l e R s m args below meth c H locs cells slots mc ms g rest (Qc (Value.ref b :: As).toArray) XC free := by
  obtain ⟨hrc, hrs, hfr, hlo, hws, hcw⟩ := cw.back
  have hini := cw.init
  have hK : vx_Back l R p e below s args y 3 8 (PreOf R mc ms Pc) (PostOf Qc mc ms free) (vx_Post XC mc ms free) := vx_back (bytes := bytes) (maxL := maxL) (ret := ret) hM hp.1 hrc hrs hfr hlo hws hcw (fun a' U hW => word_at hW (Or.inl (by first | rfl | simp [Cond.onTables, Cond.keeps, Cond.steady])) hini)
  obtain ⟨hx, hb, hml, ho, -⟩ := S
  obtain ⟨-, ⟨cellB, hcB, hoB, hclB⟩, hPc⟩ := hp
  intro T hT X
  rcases vx_callVU X hx (C := C) (owner := owner) (bytes := bytes) (maxL := maxL) (ret := ret) ho cw.link cw.same cw.decl cw.notMH cw.sel cw.inst cw.code hK (by rw [hT]; exact hcB) hoB hclB hg (hsize.trans hml.symm) (argsL := As) (rest := rest) (fun sig h => hn.trans (cw.len sig h)) hstack hW (by rw [hb]; exact hdg)
    (fun vm₁ hW₁ => ⟨hf.1, hf.2, hPc (T.setVm vm₁) hT hW₁⟩) with ⟨v, vm₁, ⟨U', l2, c2, s2⟩, hW₁, X', ⟨g', mk, t, L, e1, e2, hq, h1, hL, h2, h3⟩, st⟩ | ⟨q, vm₁, ⟨U', l2, c2, s2⟩, hW₁, X', ⟨g', mk, t, L, E, ce, e1, e2, hq, hce, hcv, hcl, h1, hL, h2, h3⟩, st⟩
  · dsimp only [Pt.U, Pt.locs, Pt.cells, Pt.slots] at X' e1 e2 h1 h2 h3 st
    subst h1; subst h2; subst h3
    exact Or.inl ⟨v, (T.setVm vm₁).calling g' mk (Value.ref b :: As).toArray, t, U', L, hT, X', hL, e1, e2, hq, st⟩
  · dsimp only [Pt.U, Pt.locs, Pt.cells, Pt.slots] at X' e1 e2 h1 h2 h3 st hcl
    subst h1; subst h2; subst h3
    exact Or.inr ⟨q, (T.setVm vm₁).calling g' mk (Value.ref b :: As).toArray, t, U', L, E, ce, hT, X', hL, e1, e2, hq, hce, hcv, vx_cls hW₁ hcl, st⟩
end
/-! ===== END ===== -/
/-! ===== BEGIN super.m(..) that may throw (follows va_callSU, va_runSU) ===== -/
section
variable {p : Program} {l : Launch} {e : Env} {R : Room} {s : State} {m : MethodId} {args : Array Value} {below : List Frame} {meth : Method} {c : Code} {H : Heap} {locs : List Loc} {cells slots : Nat}
theorem vx_callSU {T : State} {locs : List Loc} {cells slots : Nat} (X : Stand p l e R s m args below meth c T locs cells slots) (hexec : p.tables.exec = Jvm.exec) {own : String} {index : Nat} {y : MethodName} {bytes : ByteArray} {maxL : Nat} {ret : Option FieldType}
    (hown : s.vm.findClass own = some m.cls) (hlink : (Cond.methodLink own index y).before args s = true) (hsame : (Cond.sameMethod y.cls y.cls y.name y.desc).before args s = true) (hsup : (Cond.superclass own y.cls).before args s = true)
    (hinst : (Cond.instanceMethod y).before args s = true) (hcode : (Cond.code y bytes maxL ret).before args s = true) (hno : y.name ≠ "<init>")
    {W : Nat} {Pre : Pt → Array Value → Prop} {Post : Pt → Array Value → Option Value → Pt → Prop} {PostX : Pt → Array Value → Addr → Pt → Prop} (hK : vx_Back l R p e below s args y 3 W Pre Post PostX)
    {b : Addr} {cellB : Cell} {kB : Class} (hcell : T.heap[b]? = some cellB) (hobj : cellB.vm.isStatics = false) (hkB : s.vm.classes[cellB.cls]? = some kB)
    {g : JFrame} (hg : g.method = m) (hsize : g.locals.size = c.maxLocals) {argsL rest : List Value} (hlen : ∀ sig, parseMethodDescriptor y.desc = some sig → argsL.length = sig.parameters.length)
    (hstack : g.stack = argsL.reverse ++ .ref b :: rest) (hW : 2 * g.monitorRoom + (rest.map fun v => v.category).sum ≤ W) (hdg : decode c.code g.pc = .ok (.invokespecial index, 3))
    (hpre : ∀ vm₁, s.WarmedH vm₁ → Pre ⟨T.setVm vm₁, locs, cells, slots⟩ (Value.ref b :: argsL).toArray) :
    (∃ (v : Option Value) (vm₁ : Vm) (B : Pt), s.WarmedH vm₁ ∧ Stand p l e R s m args below meth c B.U B.locs B.cells B.slots ∧ Post ⟨T.setVm vm₁, locs, cells, slots⟩ (Value.ref b :: argsL).toArray v B ∧
      ∀ target, Steps p.tables e below (B.U.setTop { g with pc := g.pc + 3, stack := v.toList ++ rest }) target → Steps p.tables e below (T.setTop g) target) ∨
    (∃ (q : Addr) (vm₁ : Vm) (B : Pt), s.WarmedH vm₁ ∧ Stand p l e R s m args below meth c B.U B.locs B.cells B.slots ∧ PostX ⟨T.setVm vm₁, locs, cells, slots⟩ (Value.ref b :: argsL).toArray q B ∧
      Steps p.tables e below (T.setTop g) ((B.U.setTop { g with stack := rest }).pushFrame (.throwing q))) := by
  obtain ⟨mk, methM, hnamed, hmethM, hstM, habM⟩ := Cond.instanceMethod_spec hinst
  obtain ⟨methM', cM, hmethM', -, -, -, -, -, -, hsigM⟩ := Cond.code_spec hnamed hcode
  cases hmethM.symm.trans hmethM'
  obtain ⟨ps, dk, kp, hps, hdk, hkp, hsuper, -, -, hnid⟩ := Cond.superclass_spec hown hsup
  have hn : s.methodNamed? ⟨y.cls, y.name, y.desc⟩ = some mk := hnamed
  have hpm : ps = mk.cls := Option.some.inj (hps.symm.trans (findClass_of_methodNamed hnamed))
  have hsub : s.vm.isSubclass ps mk.cls = true := by rw [hpm]; simp [Vm.isSubclass, Vm.isSubclassAux]
  obtain ⟨vm₁, X₁, hstep₁⟩ := X.invokespecialUp hexec hown hlink hsame hn hmethM hstM habM hno hdk hnid hps hsuper hsub (a := b) (cell := cellB) hcell
    (fun z h => by rw [h] at hobj; cases hobj) hkB (g := g) hg (argsL := argsL) (rest := rest) (hlen _ hsigM) hstack hdg
  rcases hK m meth c ⟨T.setVm vm₁, locs, cells, slots⟩ { g with stack := rest } (.invokespecial index) mk (Value.ref b :: argsL).toArray X₁ hg hsize hdg hW (X₁.named hnamed) (hpre vm₁ X₁.warmed) with ⟨v, B, X', hpost, hsteps⟩ | ⟨q, B, X', hpost, hsteps⟩
  · exact Or.inl ⟨v, vm₁, B, X₁.warmed, X', hpost, fun target h => hstep₁ _ (by rw [doInvoke_state]; exact hsteps.trans h)⟩
  · exact Or.inr ⟨q, vm₁, B, X₁.warmed, X', hpost, hstep₁ _ (by rw [doInvoke_state]; exact hsteps)⟩
theorem vx_runSU {y : MethodName} {bytes cc : ByteArray} {maxL nL mc ms n index : Nat} {ret : Option FieldType} {ws : List Cond} {rm : Room} {Pc : Array Value → State → Prop} {Qc : Array Value → State → Outcome → State → Prop} {XC : String → State → State → Prop} {free : Addr → Prop} {Ts : List Cond} {own C : String} {cC : ClassId} {b : Addr} {As rest : List Value} {g : JFrame}
    (hat : ClassAt s C cC) (S : CallFix p m c cc nL s args Ts own) (hM : vx_Met l y ws rm Pc Qc XC mc ms free) (cw : va_CS R s args own index y bytes maxL ret ws rm mc ms n) (hp : PreV s H C b Pc As)
    (hg : g.method = m) (hn : As.length = n) (hsize : g.locals.size = nL) (hstack : g.stack = As.reverse ++ .ref b :: rest) (hW : 2 * g.monitorRoom + (rest.map fun v => v.category).sum ≤ 8) (hdg : decode cc g.pc = .ok (.invokespecial index, 3)) (hf : cells + mc ≤ R.cells ∧ slots + ms ≤ R.slots) :
    vx_Run p l e R s m args below meth c H locs cells slots mc ms g rest (Qc (Value.ref b :: As).toArray) XC free := by
  obtain ⟨⟨hrc, hrs, hfr, hlo, hws, hcw⟩, hl1, hl2, hl3, hl4, hini, hcode, hno, hlen⟩ := cw
  have hK : vx_Back l R p e below s args y 3 8 (PreOf R mc ms Pc) (PostOf Qc mc ms free) (vx_Post XC mc ms free) := vx_back (bytes := bytes) (maxL := maxL) (ret := ret) hM hp.1 hrc hrs hfr hlo hws hcw (fun a' U hW => word_at hW (Or.inl (by first | rfl | simp [Cond.onTables, Cond.keeps, Cond.steady])) hini)
  obtain ⟨hx, hb, hml, ho, -⟩ := S
  obtain ⟨-, ⟨cellB, hcB, hoB, hclB⟩, hPc⟩ := hp
  obtain ⟨hfc, kB, hkB, -⟩ := hat
  cases hfc.symm.trans hclB
  intro T hT X
  rcases vx_callSU X hx (bytes := bytes) (maxL := maxL) (ret := ret) ho hl1 hl2 hl3 hl4 hcode hno hK (by rw [hT]; exact hcB) hoB hkB hg (hsize.trans hml.symm) (argsL := As) (rest := rest) (fun sig h => hn.trans (hlen sig h)) hstack hW (by rw [hb]; exact hdg)
    (fun vm₁ hW₁ => ⟨hf.1, hf.2, hPc (T.setVm vm₁) hT hW₁⟩) with ⟨v, vm₁, ⟨U', l2, c2, s2⟩, hW₁, X', ⟨g', mk, t, L, e1, e2, hq, h1, hL, h2, h3⟩, st⟩ | ⟨q, vm₁, ⟨U', l2, c2, s2⟩, hW₁, X', ⟨g', mk, t, L, E, ce, e1, e2, hq, hce, hcv, hcl, h1, hL, h2, h3⟩, st⟩
  · dsimp only [Pt.U, Pt.locs, Pt.cells, Pt.slots] at X' e1 e2 h1 h2 h3 st
    subst h1; subst h2; subst h3
    exact Or.inl ⟨v, (T.setVm vm₁).calling g' mk (Value.ref b :: As).toArray, t, U', L, hT, X', hL, e1, e2, hq, st⟩
  · dsimp only [Pt.U, Pt.locs, Pt.cells, Pt.slots] at X' e1 e2 h1 h2 h3 st hcl
    subst h1; subst h2; subst h3
    exact Or.inr ⟨q, (T.setVm vm₁).calling g' mk (Value.ref b :: As).toArray, t, U', L, E, ce, hT, X', hL, e1, e2, hq, hce, hcv, vx_cls hW₁ hcl, st⟩
end
/-! ===== END ===== -/
/-! ===== BEGIN a private method of a nest mate that may throw (follows va_callVN, va_callSN, va_runVN, va_runSN) ===== -/
section
variable {p : Program} {l : Launch} {e : Env} {R : Room} {s : State} {m : MethodId} {args : Array Value} {below : List Frame} {meth : Method} {c : Code} {H : Heap} {locs : List Loc} {cells slots : Nat}
variable {T : State}
theorem vx_callVN (X : Stand p l e R s m args below meth c T locs cells slots) (hexec : p.tables.exec = Jvm.exec) {own C : String} {index : Nat} {host : String} {y : MethodName} {bytes : ByteArray} {maxL : Nat} {ret : Option FieldType}
    (hown : s.vm.findClass own = some m.cls) (hlink : (Cond.methodLinkNest own index y host).before args s = true) (hinst : (Cond.instanceMethod y).before args s = true) (hsel : (Cond.selects C y y).before args s = true)
    (hcode : (Cond.code y bytes maxL ret).before args s = true) (hy : y.cls ≠ "java/lang/invoke/MethodHandle" ∧ y.cls ≠ "java/lang/invoke/VarHandle")
    {W : Nat} {Pre : Pt → Array Value → Prop} {Post : Pt → Array Value → Option Value → Pt → Prop} {PostX : Pt → Array Value → Addr → Pt → Prop} (hK : vx_Back l R p e below s args y 3 W Pre Post PostX)
    {b : Addr} {cellB : Cell} (hcell : T.heap[b]? = some cellB) (hobj : cellB.vm.isStatics = false) (hcls : s.vm.findClass C = some cellB.cls)
    {g : JFrame} (hg : g.method = m) (hsize : g.locals.size = c.maxLocals) {argsL rest : List Value} (hlen : ∀ sig, parseMethodDescriptor y.desc = some sig → argsL.length = sig.parameters.length)
    (hstack : g.stack = argsL.reverse ++ .ref b :: rest) (hW : 2 * g.monitorRoom + (rest.map fun v => v.category).sum ≤ W) (hdg : decode c.code g.pc = .ok (.invokevirtual index, 3))
    (hpre : ∀ vm₁, s.WarmedH vm₁ → Pre ⟨T.setVm vm₁, locs, cells, slots⟩ (Value.ref b :: argsL).toArray) :
    (∃ (v : Option Value) (vm₁ : Vm) (B : Pt), s.WarmedH vm₁ ∧ Stand p l e R s m args below meth c B.U B.locs B.cells B.slots ∧ Post ⟨T.setVm vm₁, locs, cells, slots⟩ (Value.ref b :: argsL).toArray v B ∧
      ∀ target, Steps p.tables e below (B.U.setTop { g with pc := g.pc + 3, stack := v.toList ++ rest }) target → Steps p.tables e below (T.setTop g) target) ∨
    (∃ (q : Addr) (vm₁ : Vm) (B : Pt), s.WarmedH vm₁ ∧ Stand p l e R s m args below meth c B.U B.locs B.cells B.slots ∧ PostX ⟨T.setVm vm₁, locs, cells, slots⟩ (Value.ref b :: argsL).toArray q B ∧
      Steps p.tables e below (T.setTop g) ((B.U.setTop { g with stack := rest }).pushFrame (.throwing q))) := by
  obtain ⟨mk, methM, hnamed, hmethM, hstM, habM⟩ := Cond.instanceMethod_spec hinst
  obtain ⟨methM', cM, hmethM', -, -, -, -, -, -, hsigM⟩ := Cond.code_spec hnamed hcode
  cases hmethM.symm.trans hmethM'
  obtain ⟨c2, r2, m2, q1, q2, q3, q4, kP, hkP, hkPi⟩ := Cond.selects_spec hsel
  cases hcls.symm.trans q1
  cases (State.methodFound?_of_named hnamed hy).symm.trans q2
  cases hnamed.symm.trans q3
  have hselP : selectMethod e.platform s.vm cellB.cls mk = .method mk := by rw [Launch.admits_selectMethod X.admits]; exact q4
  obtain ⟨vm₁, X₁, hstep₁⟩ := X.invokevirtualNest hexec hown hlink hnamed hmethM hstM hkP hkPi hy (a := b) (cell := cellB) hcell
    (fun z h => by rw [h] at hobj; cases hobj) hselP hmethM habM hkP hkPi (g := g) hg (argsL := argsL) (rest := rest) (hlen _ hsigM) hstack hdg
  rcases hK m meth c ⟨T.setVm vm₁, locs, cells, slots⟩ { g with stack := rest } (.invokevirtual index) mk (Value.ref b :: argsL).toArray X₁ hg hsize hdg hW (X₁.named hnamed) (hpre vm₁ X₁.warmed) with ⟨v, B, X', hpost, hsteps⟩ | ⟨q, B, X', hpost, hsteps⟩
  · exact Or.inl ⟨v, vm₁, B, X₁.warmed, X', hpost, fun target h => hstep₁ _ fun acts => by rw [doInvoke_state]; exact hsteps.trans h⟩
  · exact Or.inr ⟨q, vm₁, B, X₁.warmed, X', hpost, hstep₁ _ fun acts => by rw [doInvoke_state]; exact hsteps⟩
theorem vx_callSN (X : Stand p l e R s m args below meth c T locs cells slots) (hexec : p.tables.exec = Jvm.exec) {own : String} {index : Nat} {host : String} {y : MethodName} {bytes : ByteArray} {maxL : Nat} {ret : Option FieldType}
    (hown : s.vm.findClass own = some m.cls) (hlink : (Cond.methodLinkNest own index y host).before args s = true) (hstat : (Cond.static y).before args s = true) (hinit : (Cond.initialized y.cls).before args s = true)
    (hcode : (Cond.code y bytes maxL ret).before args s = true) (hy : y.cls ≠ "java/lang/invoke/MethodHandle" ∧ y.cls ≠ "java/lang/invoke/VarHandle")
    {W : Nat} {Pre : Pt → Array Value → Prop} {Post : Pt → Array Value → Option Value → Pt → Prop} {PostX : Pt → Array Value → Addr → Pt → Prop} (hK : vx_Back l R p e below s args y 3 W Pre Post PostX)
    {g : JFrame} (hg : g.method = m) (hsize : g.locals.size = c.maxLocals) {argsL rest : List Value} (hlen : ∀ sig, parseMethodDescriptor y.desc = some sig → argsL.length = sig.parameters.length)
    (hstack : g.stack = argsL.reverse ++ rest) (hW : 2 * g.monitorRoom + (rest.map fun v => v.category).sum ≤ W) (hdg : decode c.code g.pc = .ok (.invokestatic index, 3))
    (hpre : ∀ vm₁, s.WarmedH vm₁ → Pre ⟨T.setVm vm₁, locs, cells, slots⟩ argsL.toArray) :
    (∃ (v : Option Value) (vm₁ : Vm) (B : Pt), s.WarmedH vm₁ ∧ Stand p l e R s m args below meth c B.U B.locs B.cells B.slots ∧ Post ⟨T.setVm vm₁, locs, cells, slots⟩ argsL.toArray v B ∧
      ∀ target, Steps p.tables e below (B.U.setTop { g with pc := g.pc + 3, stack := v.toList ++ rest }) target → Steps p.tables e below (T.setTop g) target) ∨
    (∃ (q : Addr) (vm₁ : Vm) (B : Pt), s.WarmedH vm₁ ∧ Stand p l e R s m args below meth c B.U B.locs B.cells B.slots ∧ PostX ⟨T.setVm vm₁, locs, cells, slots⟩ argsL.toArray q B ∧
      Steps p.tables e below (T.setTop g) ((B.U.setTop { g with stack := rest }).pushFrame (.throwing q))) := by
  obtain ⟨mk, hnamed⟩ := Cond.code_named hcode
  obtain ⟨methM, cM, hmethM, -, -, -, -, -, -, hsigM⟩ := Cond.code_spec hnamed hcode
  have hstatic : methM.isStatic = true := Cond.static_spec hnamed hmethM hstat
  obtain ⟨kP, hkP, -⟩ := className_of_methodNamed hnamed
  have hinitP : kP.init = .initialized := Cond.initialized_spec (findClass_of_methodNamed hnamed) hkP hinit
  obtain ⟨vm₁, X₁, hstep₁⟩ := X.invokestaticNest hexec hown hlink hnamed hmethM hstatic hkP hinitP hy (g := g) hg (argsL := argsL) (rest := rest) (hlen _ hsigM) hstack hdg
  rcases hK m meth c ⟨T.setVm vm₁, locs, cells, slots⟩ { g with stack := rest } (.invokestatic index) mk argsL.toArray X₁ hg hsize hdg hW (X₁.named hnamed) (hpre vm₁ X₁.warmed) with ⟨v, B, X', hpost, hsteps⟩ | ⟨q, B, X', hpost, hsteps⟩
  · exact Or.inl ⟨v, vm₁, B, X₁.warmed, X', hpost, fun target h => hstep₁ _ fun acts => by rw [doInvoke_state]; exact hsteps.trans h⟩
  · exact Or.inr ⟨q, vm₁, B, X₁.warmed, X', hpost, hstep₁ _ fun acts => by rw [doInvoke_state]; exact hsteps⟩
theorem vx_runVN {y : MethodName} {bytes cc : ByteArray} {maxL nL mc ms n index : Nat} {ret : Option FieldType} {ws : List Cond} {rm : Room} {Pc : Array Value → State → Prop} {Qc : Array Value → State → Outcome → State → Prop} {XC : String → State → State → Prop} {free : Addr → Prop} {Ts : List Cond} {own C host : String} {b : Addr} {As rest : List Value} {g : JFrame}
    (S : CallFix p m c cc nL s args Ts own) (hM : vx_Met l y ws rm Pc Qc XC mc ms free) (cw : va_CN R s args own index y host bytes maxL ret ws rm mc ms n ∧ (Cond.instanceMethod y).before args s = true ∧ (Cond.selects C y y).before args s = true) (hp : PreV s H C b Pc As)
    (hg : g.method = m) (hn : As.length = n) (hsize : g.locals.size = nL) (hstack : g.stack = As.reverse ++ .ref b :: rest) (hW : 2 * g.monitorRoom + (rest.map fun v => v.category).sum ≤ 8) (hdg : decode cc g.pc = .ok (.invokevirtual index, 3)) (hf : cells + mc ≤ R.cells ∧ slots + ms ≤ R.slots) :
    vx_Run p l e R s m args below meth c H locs cells slots mc ms g rest (Qc (Value.ref b :: As).toArray) XC free := by
  obtain ⟨⟨⟨hrc, hrs, hfr, hlo, hws, hcw⟩, hcode, hini, hy, hlen, hl⟩, hx1, hx2⟩ := cw
  have hK : vx_Back l R p e below s args y 3 8 (PreOf R mc ms Pc) (PostOf Qc mc ms free) (vx_Post XC mc ms free) := vx_back (bytes := bytes) (maxL := maxL) (ret := ret) hM hp.1 hrc hrs hfr hlo hws hcw (fun a' U hW => word_at hW (Or.inl (by first | rfl | simp [Cond.onTables, Cond.keeps, Cond.steady])) hini)
  obtain ⟨hx, hb, hml, ho, -⟩ := S
  obtain ⟨-, ⟨cellB, hcB, hoB, hclB⟩, hPc⟩ := hp
  intro T hT X
  rcases vx_callVN X hx (C := C) (bytes := bytes) (maxL := maxL) (ret := ret) ho hl hx1 hx2 hcode hy hK (by rw [hT]; exact hcB) hoB hclB hg (hsize.trans hml.symm) (argsL := As) (rest := rest) (fun sig h => hn.trans (hlen sig h)) hstack hW (by rw [hb]; exact hdg)
    (fun vm₁ hW₁ => ⟨hf.1, hf.2, hPc (T.setVm vm₁) hT hW₁⟩) with ⟨v, vm₁, ⟨U', l2, c2, s2⟩, hW₁, X', ⟨g', mk, t, L, e1, e2, hq, h1, hL, h2, h3⟩, st⟩ | ⟨q, vm₁, ⟨U', l2, c2, s2⟩, hW₁, X', ⟨g', mk, t, L, E, ce, e1, e2, hq, hce, hcv, hcl, h1, hL, h2, h3⟩, st⟩
  · dsimp only [Pt.U, Pt.locs, Pt.cells, Pt.slots] at X' e1 e2 h1 h2 h3 st
    subst h1; subst h2; subst h3
    exact Or.inl ⟨v, (T.setVm vm₁).calling g' mk (Value.ref b :: As).toArray, t, U', L, hT, X', hL, e1, e2, hq, st⟩
  · dsimp only [Pt.U, Pt.locs, Pt.cells, Pt.slots] at X' e1 e2 h1 h2 h3 st hcl
    subst h1; subst h2; subst h3
    exact Or.inr ⟨q, (T.setVm vm₁).calling g' mk (Value.ref b :: As).toArray, t, U', L, E, ce, hT, X', hL, e1, e2, hq, hce, hcv, vx_cls hW₁ hcl, st⟩
theorem vx_runSN {y : MethodName} {bytes cc : ByteArray} {maxL nL mc ms n index : Nat} {ret : Option FieldType} {ws : List Cond} {rm : Room} {Pc : Array Value → State → Prop} {Qc : Array Value → State → Outcome → State → Prop} {XC : String → State → State → Prop} {free : Addr → Prop} {Ts : List Cond} {own host : String} {As rest : List Value} {g : JFrame}
    (S : CallFix p m c cc nL s args Ts own) (hM : vx_Met l y ws rm Pc Qc XC mc ms free) (cw : va_CN R s args own index y host bytes maxL ret ws rm mc ms n ∧ (Cond.static y).before args s = true ∧ True) (hp : PreS s H Pc As)
    (hg : g.method = m) (hn : As.length = n) (hsize : g.locals.size = nL) (hstack : g.stack = As.reverse ++ rest) (hW : 2 * g.monitorRoom + (rest.map fun v => v.category).sum ≤ 8) (hdg : decode cc g.pc = .ok (.invokestatic index, 3)) (hf : cells + mc ≤ R.cells ∧ slots + ms ≤ R.slots) :
    vx_Run p l e R s m args below meth c H locs cells slots mc ms g rest (Qc As.toArray) XC free := by
  obtain ⟨⟨⟨hrc, hrs, hfr, hlo, hws, hcw⟩, hcode, hini, hy, hlen, hl⟩, hx1, hx2⟩ := cw
  have hK : vx_Back l R p e below s args y 3 8 (PreOf R mc ms Pc) (PostOf Qc mc ms free) (vx_Post XC mc ms free) := vx_back (bytes := bytes) (maxL := maxL) (ret := ret) hM hp.1 hrc hrs hfr hlo hws hcw (fun a' U hW => word_at hW (Or.inl (by first | rfl | simp [Cond.onTables, Cond.keeps, Cond.steady])) hini)
  obtain ⟨hx, hb, hml, ho, -⟩ := S
  have hPc := hp.2
  intro T hT X
  rcases vx_callSN X hx (bytes := bytes) (maxL := maxL) (ret := ret) ho hl hx1 hini hcode hy hK hg (hsize.trans hml.symm) (argsL := As) (rest := rest) (fun sig h => hn.trans (hlen sig h)) hstack hW (by rw [hb]; exact hdg)
    (fun vm₁ hW₁ => ⟨hf.1, hf.2, hPc (T.setVm vm₁) hT hW₁⟩) with ⟨v, vm₁, ⟨U', l2, c2, s2⟩, hW₁, X', ⟨g', mk, t, L, e1, e2, hq, h1, hL, h2, h3⟩, st⟩ | ⟨q, vm₁, ⟨U', l2, c2, s2⟩, hW₁, X', ⟨g', mk, t, L, E, ce, e1, e2, hq, hce, hcv, hcl, h1, hL, h2, h3⟩, st⟩
  · dsimp only [Pt.U, Pt.locs, Pt.cells, Pt.slots] at X' e1 e2 h1 h2 h3 st
    subst h1; subst h2; subst h3
    exact Or.inl ⟨v, (T.setVm vm₁).calling g' mk As.toArray, t, U', L, hT, X', hL, e1, e2, hq, st⟩
  · dsimp only [Pt.U, Pt.locs, Pt.cells, Pt.slots] at X' e1 e2 h1 h2 h3 st hcl
    subst h1; subst h2; subst h3
    exact Or.inr ⟨q, (T.setVm vm₁).calling g' mk As.toArray, t, U', L, E, ce, hT, X', hL, e1, e2, hq, hce, hcv, vx_cls hW₁ hcl, st⟩
end
/-! ===== END ===== -/
/-! ===== BEGIN calls by an interface of methods that may throw (vx_callIF, vx_runF follow va_callIF, va_runF of this kit) ===== -/
section
variable {p : Program} {l : Launch} {e : Env} {R : Room} {s : State} {m : MethodId} {args : Array Value} {below : List Frame} {meth : Method} {c : Code} {H : Heap} {locs : List Loc} {cells slots : Nat} {Q : State → Prop}
variable {mc ms : Nat} {free : Addr → Prop} {A0 A1 : Nat → Prop} {H0 : Heap} {a : Array Value} {pc : Nat} {ls : Array Slot} {st0 rest : List Value}
def vx_Run5 (p : Program) (l : Launch) (e : Env) (R : Room) (s : State) (m : MethodId) (args : Array Value) (below : List Frame) (meth : Method) (c : Code) (H : Heap) (locs : List Loc) (cells slots mc ms : Nat) (g : JFrame) (rest : List Value) (Qa : State → Outcome → State → Prop) (XC : String → State → State → Prop) (free : Addr → Prop) : Prop :=
  ∀ T : State, T.heap = H → Stand p l e R s m args below meth c T locs cells slots →
    (∃ (v : Option Value) (st₀ t T' : State) (L : List Loc), st₀.heap = H ∧ Stand p l e R s m args below meth c T' (locs ++ L) (cells + mc) (slots + ms) ∧ (∀ q ∈ L, free q.base) ∧ T'.heap = t.heap ∧ T'.vm = t.vm ∧ Qa st₀ (.returned v) t ∧
      Goes p e below T g T' { g with pc := g.pc + 5, stack := v.toList ++ rest }) ∨
    (∃ (q : Addr) (st₀ t T' : State) (L : List Loc) (E : String) (ce : Cell), st₀.heap = H ∧ Stand p l e R s m args below meth c T' (locs ++ L) (cells + mc) (slots + ms) ∧ (∀ z ∈ L, free z.base) ∧ T'.heap = t.heap ∧ T'.vm = t.vm ∧ XC E st₀ t ∧ t.heap[q]? = some ce ∧ ce.vm = .none ∧ s.vm.findClass E = some ce.cls ∧
      Steps p.tables e below (T.setTop g) ((T'.setTop { g with stack := rest }).pushFrame (.throwing q)))
theorem vx_callIF {T : State} (X : Stand p l e R s m args below meth c T locs cells slots) (hexec : p.tables.exec = Jvm.exec) {own C : String} {index count : Nat} {x y : MethodName} {bytes : ByteArray} {maxL : Nat} {ret : Option FieldType}
    (hown : s.vm.findClass own = some m.cls) (hlink : (Cond.methodLink own index x).before args s = true) (hdecl : (Cond.declares x).before args s = true) (hface : (Cond.interfaceMethod x.cls x.cls x.name x.desc).before args s = true)
    (hsel : (Cond.selects C x y).before args s = true) (hinst : (Cond.instanceMethod y).before args s = true) (hpub : (Cond.publicMethod y).before args s = true) (hunh : (Cond.unhidden C x.name x.desc).before args s = true)
    (hcast : (Cond.castable C x.cls).before args s = true) (hcode : (Cond.code y bytes maxL ret).before args s = true) (hx : x.cls ≠ "java/lang/invoke/MethodHandle" ∧ x.cls ≠ "java/lang/invoke/VarHandle")
    {W9 : Nat} {Pre : Pt → Array Value → Prop} {Post : Pt → Array Value → Option Value → Pt → Prop} {PostX : Pt → Array Value → Addr → Pt → Prop} (hK : vx_Back l R p e below s args y 5 W9 Pre Post PostX)
    {b : Addr} {cellB : Cell} {kB : Class} (hcell : T.heap[b]? = some cellB) (hobj : cellB.vm.isStatics = false) (hcls : s.vm.findClass C = some cellB.cls) (hkB : s.vm.classes[cellB.cls]? = some kB)
    {g : JFrame} (hg : g.method = m) (hsize : g.locals.size = c.maxLocals) {argsL rest : List Value} (hlen : ∀ sig, parseMethodDescriptor x.desc = some sig → argsL.length = sig.parameters.length)
    (hstack : g.stack = argsL.reverse ++ .ref b :: rest) (hW : 2 * g.monitorRoom + (rest.map fun v => v.category).sum ≤ W9) (hdg : decode c.code g.pc = .ok (.invokeinterface index count, 5))
    (hpre : ∀ vm₁, s.WarmedH vm₁ → Pre ⟨T.setVm vm₁, locs, cells, slots⟩ (Value.ref b :: argsL).toArray) :
    (∃ (v : Option Value) (vm₁ : Vm) (B : Pt), s.WarmedH vm₁ ∧ Stand p l e R s m args below meth c B.U B.locs B.cells B.slots ∧ Post ⟨T.setVm vm₁, locs, cells, slots⟩ (Value.ref b :: argsL).toArray v B ∧
      ∀ target, Steps p.tables e below (B.U.setTop { g with pc := g.pc + 5, stack := v.toList ++ rest }) target → Steps p.tables e below (T.setTop g) target) ∨
    (∃ (q : Addr) (vm₁ : Vm) (B : Pt), s.WarmedH vm₁ ∧ Stand p l e R s m args below meth c B.U B.locs B.cells B.slots ∧ PostX ⟨T.setVm vm₁, locs, cells, slots⟩ (Value.ref b :: argsL).toArray q B ∧
      Steps p.tables e below (T.setTop g) ((B.U.setTop { g with stack := rest }).pushFrame (.throwing q))) := by
  obtain ⟨r0, r, hn, hrm, hstR, hsigR⟩ := Cond.declares_spec hdecl
  obtain ⟨cL, kL, r1, hcL, hkL, hiL, hfoundL, hn1⟩ := Cond.interfaceMethod_spec hface
  cases hn.symm.trans hn1
  have hr0cls : r0.cls = cL := Option.some.inj ((findClass_of_methodNamed hn).symm.trans hcL)
  obtain ⟨hnameR, hdescR⟩ := name_of_methodNamed hn hrm
  obtain ⟨mk, methM, hnamed, hmethM, -, habM⟩ := Cond.instanceMethod_spec hinst
  obtain ⟨c2, r2, m2, q1, q2, q3, q4, -⟩ := Cond.selects_spec hsel
  cases hcls.symm.trans q1
  cases hfoundL.symm.trans q2
  cases hnamed.symm.trans q3
  have hselP : selectMethod e.platform s.vm cellB.cls r0 = .method mk := by rw [Launch.admits_selectMethod X.admits]; exact q4
  have hpubM : hasFlag methM.accessFlags Acc.public_ = true := Cond.publicMethod_spec hnamed hmethM hpub
  have hway : ((cellB.cls :: s.vm.superclasses cellB.cls).any fun k => (declaredIn s.vm r.name r.desc k).any fun (_, z) => z.isPrivate || z.isStatic) = false := by
    rw [hnameR, hdescR]; exact Cond.unhidden_spec hcls hunh
  obtain ⟨c3, t3, w1, w2, w3⟩ := Cond.castable_spec hcast
  cases hcls.symm.trans w1
  cases hcL.symm.trans w2
  obtain ⟨vm₁, X₁, hstep₁⟩ := X.invokeinterface hexec hown hlink hn hrm hstR (by rw [hr0cls]; exact hkL) hiL hx (a := b) (cell := cellB) (kcell := kB) hcell
    (fun z h => by rw [h] at hobj; cases hobj) hkB (by rw [hr0cls]; exact w3) hselP hmethM hway hpubM habM (g := g) hg (argsL := argsL) (rest := rest) (hlen _ hsigR) hstack hdg
  rcases hK m meth c ⟨T.setVm vm₁, locs, cells, slots⟩ { g with stack := rest } (.invokeinterface index count) mk (Value.ref b :: argsL).toArray X₁ hg hsize hdg hW (X₁.named hnamed) (hpre vm₁ X₁.warmed) with ⟨v, B, X', hpost, hsteps⟩ | ⟨q, B, X', hpost, hsteps⟩
  · exact Or.inl ⟨v, vm₁, B, X₁.warmed, X', hpost, fun target h => hstep₁ _ fun acts => by rw [doInvoke_state]; exact hsteps.trans h⟩
  · exact Or.inr ⟨q, vm₁, B, X₁.warmed, X', hpost, hstep₁ _ fun acts => by rw [doInvoke_state]; exact hsteps⟩
theorem vx_runF {x y : MethodName} {bytes cc : ByteArray} {maxL nL mc ms n index count : Nat} {ret : Option FieldType} {ws : List Cond} {rm : Room} {Pc : Array Value → State → Prop} {Qc : Array Value → State → Outcome → State → Prop} {XC : String → State → State → Prop} {free : Addr → Prop} {Ts : List Cond} {own C : String} {cC : ClassId} {b : Addr} {As rest : List Value} {g : JFrame}
    (hat : ClassAt s C cC) (S : CallFix p m c cc nL s args Ts own) (hM : vx_Met l y ws rm Pc Qc XC mc ms free) (cw : va_CI R s args own C index x y bytes maxL ret ws rm mc ms n) (hp : PreV s H C b Pc As)
    (hg : g.method = m) (hn : As.length = n) (hsize : g.locals.size = nL) (hstack : g.stack = As.reverse ++ .ref b :: rest) (hW : 2 * g.monitorRoom + (rest.map fun v => v.category).sum ≤ 8) (hdg : decode cc g.pc = .ok (.invokeinterface index count, 5)) (hf : cells + mc ≤ R.cells ∧ slots + ms ≤ R.slots) :
    vx_Run5 p l e R s m args below meth c H locs cells slots mc ms g rest (Qc (Value.ref b :: As).toArray) XC free := by
  obtain ⟨hrc, hrs, hfr, hlo, hws, hcw⟩ := cw.back
  have hini := cw.init
  have hK : vx_Back l R p e below s args y 5 8 (PreOf R mc ms Pc) (PostOf Qc mc ms free) (vx_Post XC mc ms free) := vx_back (bytes := bytes) (maxL := maxL) (ret := ret) hM hp.1 hrc hrs hfr hlo hws hcw (fun a' U hW => word_at hW (Or.inl (by first | rfl | simp [Cond.onTables, Cond.keeps, Cond.steady])) hini)
  obtain ⟨hx, hb, hml, ho, -⟩ := S
  obtain ⟨-, ⟨cellB, hcB, hoB, hclB⟩, hPc⟩ := hp
  obtain ⟨hfc, kB, hkB, -⟩ := hat
  cases hfc.symm.trans hclB
  intro T hT X
  rcases vx_callIF X hx (C := C) (bytes := bytes) (maxL := maxL) (ret := ret) ho cw.link cw.decl cw.face cw.sel cw.inst cw.pub cw.unh cw.cast cw.code cw.notMH hK (by rw [hT]; exact hcB) hoB hclB hkB hg (hsize.trans hml.symm) (argsL := As) (rest := rest) (fun sig h => hn.trans (cw.len sig h)) hstack hW (by rw [hb]; exact hdg)
    (fun vm₁ hW₁ => ⟨hf.1, hf.2, hPc (T.setVm vm₁) hT hW₁⟩) with ⟨v, vm₁, ⟨U', l2, c2, s2⟩, hW₁, X', ⟨g', mk, t, L, e1, e2, hq, h1, hL, h2, h3⟩, st⟩ | ⟨q, vm₁, ⟨U', l2, c2, s2⟩, hW₁, X', ⟨g', mk, t, L, E, ce, e1, e2, hq, hce, hcv, hcl, h1, hL, h2, h3⟩, st⟩
  · dsimp only [Pt.U, Pt.locs, Pt.cells, Pt.slots] at X' e1 e2 h1 h2 h3 st
    subst h1; subst h2; subst h3
    exact Or.inl ⟨v, (T.setVm vm₁).calling g' mk (Value.ref b :: As).toArray, t, U', L, hT, X', hL, e1, e2, hq, st⟩
  · dsimp only [Pt.U, Pt.locs, Pt.cells, Pt.slots] at X' e1 e2 h1 h2 h3 st hcl
    subst h1; subst h2; subst h3
    exact Or.inr ⟨q, (T.setVm vm₁).calling g' mk (Value.ref b :: As).toArray, t, U', L, E, ce, hT, X', hL, e1, e2, hq, hce, hcv, vx_cls hW₁ hcl, st⟩
theorem vx_callFv {S SX : Type} {post : S → Prop} {px : SX → Prop} {B : S → State → Prop} {BX : String → SX → State → Prop} {AX : Nat → Prop} (hr : vx_Run5 p l e R s m args below meth c H locs cells slots mc ms (F0 m pc ls st0) rest (va_Qv post B A1 a) (vx_X px BX AX) free) (hS : va_S A0 H0 H locs) (hA : ∀ q, q < H.size → A1 q → A0 q) (hf : ∀ q, free q → A0 q) (hAX : ∀ q, q < H.size → AX q → A0 q)
    (kx : ∀ (E : String) (ce : Cell) (q9 : Addr) (u : SX) (t : State) (H1 : Heap) (locs1 : List Loc), t.heap = H1 → s.vm.Alike t.vm → px u → BX E u t → H.size ≤ H1.size → (∀ q : Nat, q < H.size → ¬ AX q → H1[q]? = H[q]?) → va_S A0 H0 H1 locs1 → H1[q9]? = some ce → ce.vm = .none → s.vm.findClass E = some ce.cls → vx_W p l e R s m args below meth c H1 locs1 (cells + mc) (slots + ms) Q (F0 m pc ls rest) q9)
    (kk : ∀ (u : S) (t : State) (H1 : Heap) (locs1 : List Loc), t.heap = H1 → s.vm.Alike t.vm → post u → B u t → H.size ≤ H1.size → (∀ q : Nat, q < H.size → ¬ A1 q → H1[q]? = H[q]?) → va_S A0 H0 H1 locs1 → W p l e R s m args below meth c H1 locs1 (cells + mc) (slots + ms) Q (F0 m (pc + 5) ls (rest))) : W p l e R s m args below meth c H locs cells slots Q (F0 m pc ls st0) := by
  intro T hT X
  rcases hr T hT X with ⟨v, st₀, t, T', L, h0, X', hL, e1, e2, ⟨⟨u, hv, hp, hb⟩, hF⟩, st⟩ | ⟨q, st₀, t, T', L, E, ce, h0, X', hL, e1, e2, ⟨u, hp, hb, hF⟩, hce, hcv, hcl, st⟩
  · cases hv
    obtain ⟨k1, k2, k3⟩ := vx_keep h0 e1 hS hA hf hL hF
    obtain ⟨t2, a1, b1⟩ := kk u t T'.heap (locs ++ L) e1.symm (by rw [← e2]; exact X'.warmed.alike) hp hb k1 k2 k3 T' rfl X'
    exact ⟨t2, st t2 a1, b1⟩
  · obtain ⟨k1, k2, k3⟩ := vx_keep h0 e1 hS hAX hf hL hF
    obtain ⟨t2, a1, b1⟩ := kx E ce q u t T'.heap (locs ++ L) e1.symm (by rw [← e2]; exact X'.warmed.alike) hp hb k1 k2 k3 (by rw [e1]; exact hce) hcv hcl T' rfl X'
    exact ⟨t2, st.trans a1, b1⟩
theorem vx_callFi {S SX : Type} {post : Int32 → S → Prop} {px : SX → Prop} {B : S → State → Prop} {BX : String → SX → State → Prop} {AX : Nat → Prop} (hr : vx_Run5 p l e R s m args below meth c H locs cells slots mc ms (F0 m pc ls st0) rest (va_Qi post B A1 a) (vx_X px BX AX) free) (hS : va_S A0 H0 H locs) (hA : ∀ q, q < H.size → A1 q → A0 q) (hf : ∀ q, free q → A0 q) (hAX : ∀ q, q < H.size → AX q → A0 q)
    (kx : ∀ (E : String) (ce : Cell) (q9 : Addr) (u : SX) (t : State) (H1 : Heap) (locs1 : List Loc), t.heap = H1 → s.vm.Alike t.vm → px u → BX E u t → H.size ≤ H1.size → (∀ q : Nat, q < H.size → ¬ AX q → H1[q]? = H[q]?) → va_S A0 H0 H1 locs1 → H1[q9]? = some ce → ce.vm = .none → s.vm.findClass E = some ce.cls → vx_W p l e R s m args below meth c H1 locs1 (cells + mc) (slots + ms) Q (F0 m pc ls rest) q9)
    (kk : ∀ (r : Int32) (u : S) (t : State) (H1 : Heap) (locs1 : List Loc), t.heap = H1 → s.vm.Alike t.vm → post r u → B u t → H.size ≤ H1.size → (∀ q : Nat, q < H.size → ¬ A1 q → H1[q]? = H[q]?) → va_S A0 H0 H1 locs1 → W p l e R s m args below meth c H1 locs1 (cells + mc) (slots + ms) Q (F0 m (pc + 5) ls (.int r :: rest))) : W p l e R s m args below meth c H locs cells slots Q (F0 m pc ls st0) := by
  intro T hT X
  rcases hr T hT X with ⟨v, st₀, t, T', L, h0, X', hL, e1, e2, ⟨⟨r, u, hv, hp, hb⟩, hF⟩, st⟩ | ⟨q, st₀, t, T', L, E, ce, h0, X', hL, e1, e2, ⟨u, hp, hb, hF⟩, hce, hcv, hcl, st⟩
  · cases hv
    obtain ⟨k1, k2, k3⟩ := vx_keep h0 e1 hS hA hf hL hF
    obtain ⟨t2, a1, b1⟩ := kk r u t T'.heap (locs ++ L) e1.symm (by rw [← e2]; exact X'.warmed.alike) hp hb k1 k2 k3 T' rfl X'
    exact ⟨t2, st t2 a1, b1⟩
  · obtain ⟨k1, k2, k3⟩ := vx_keep h0 e1 hS hAX hf hL hF
    obtain ⟨t2, a1, b1⟩ := kx E ce q u t T'.heap (locs ++ L) e1.symm (by rw [← e2]; exact X'.warmed.alike) hp hb k1 k2 k3 (by rw [e1]; exact hce) hcv hcl T' rfl X'
    exact ⟨t2, st.trans a1, b1⟩
theorem vx_callFl {S SX : Type} {post : Int64 → S → Prop} {px : SX → Prop} {B : S → State → Prop} {BX : String → SX → State → Prop} {AX : Nat → Prop} (hr : vx_Run5 p l e R s m args below meth c H locs cells slots mc ms (F0 m pc ls st0) rest (va_Ql post B A1 a) (vx_X px BX AX) free) (hS : va_S A0 H0 H locs) (hA : ∀ q, q < H.size → A1 q → A0 q) (hf : ∀ q, free q → A0 q) (hAX : ∀ q, q < H.size → AX q → A0 q)
    (kx : ∀ (E : String) (ce : Cell) (q9 : Addr) (u : SX) (t : State) (H1 : Heap) (locs1 : List Loc), t.heap = H1 → s.vm.Alike t.vm → px u → BX E u t → H.size ≤ H1.size → (∀ q : Nat, q < H.size → ¬ AX q → H1[q]? = H[q]?) → va_S A0 H0 H1 locs1 → H1[q9]? = some ce → ce.vm = .none → s.vm.findClass E = some ce.cls → vx_W p l e R s m args below meth c H1 locs1 (cells + mc) (slots + ms) Q (F0 m pc ls rest) q9)
    (kk : ∀ (r : Int64) (u : S) (t : State) (H1 : Heap) (locs1 : List Loc), t.heap = H1 → s.vm.Alike t.vm → post r u → B u t → H.size ≤ H1.size → (∀ q : Nat, q < H.size → ¬ A1 q → H1[q]? = H[q]?) → va_S A0 H0 H1 locs1 → W p l e R s m args below meth c H1 locs1 (cells + mc) (slots + ms) Q (F0 m (pc + 5) ls (.long r :: rest))) : W p l e R s m args below meth c H locs cells slots Q (F0 m pc ls st0) := by
  intro T hT X
  rcases hr T hT X with ⟨v, st₀, t, T', L, h0, X', hL, e1, e2, ⟨⟨r, u, hv, hp, hb⟩, hF⟩, st⟩ | ⟨q, st₀, t, T', L, E, ce, h0, X', hL, e1, e2, ⟨u, hp, hb, hF⟩, hce, hcv, hcl, st⟩
  · cases hv
    obtain ⟨k1, k2, k3⟩ := vx_keep h0 e1 hS hA hf hL hF
    obtain ⟨t2, a1, b1⟩ := kk r u t T'.heap (locs ++ L) e1.symm (by rw [← e2]; exact X'.warmed.alike) hp hb k1 k2 k3 T' rfl X'
    exact ⟨t2, st t2 a1, b1⟩
  · obtain ⟨k1, k2, k3⟩ := vx_keep h0 e1 hS hAX hf hL hF
    obtain ⟨t2, a1, b1⟩ := kx E ce q u t T'.heap (locs ++ L) e1.symm (by rw [← e2]; exact X'.warmed.alike) hp hb k1 k2 k3 (by rw [e1]; exact hce) hcv hcl T' rfl X'
    exact ⟨t2, st.trans a1, b1⟩
theorem vx_callFf {S SX : Type} {post : UInt32 → S → Prop} {px : SX → Prop} {B : S → State → Prop} {BX : String → SX → State → Prop} {AX : Nat → Prop} (hr : vx_Run5 p l e R s m args below meth c H locs cells slots mc ms (F0 m pc ls st0) rest (va_Qf post B A1 a) (vx_X px BX AX) free) (hS : va_S A0 H0 H locs) (hA : ∀ q, q < H.size → A1 q → A0 q) (hf : ∀ q, free q → A0 q) (hAX : ∀ q, q < H.size → AX q → A0 q)
    (kx : ∀ (E : String) (ce : Cell) (q9 : Addr) (u : SX) (t : State) (H1 : Heap) (locs1 : List Loc), t.heap = H1 → s.vm.Alike t.vm → px u → BX E u t → H.size ≤ H1.size → (∀ q : Nat, q < H.size → ¬ AX q → H1[q]? = H[q]?) → va_S A0 H0 H1 locs1 → H1[q9]? = some ce → ce.vm = .none → s.vm.findClass E = some ce.cls → vx_W p l e R s m args below meth c H1 locs1 (cells + mc) (slots + ms) Q (F0 m pc ls rest) q9)
    (kk : ∀ (r : UInt32) (u : S) (t : State) (H1 : Heap) (locs1 : List Loc), t.heap = H1 → s.vm.Alike t.vm → post r u → B u t → H.size ≤ H1.size → (∀ q : Nat, q < H.size → ¬ A1 q → H1[q]? = H[q]?) → va_S A0 H0 H1 locs1 → W p l e R s m args below meth c H1 locs1 (cells + mc) (slots + ms) Q (F0 m (pc + 5) ls (.float r :: rest))) : W p l e R s m args below meth c H locs cells slots Q (F0 m pc ls st0) := by
  intro T hT X
  rcases hr T hT X with ⟨v, st₀, t, T', L, h0, X', hL, e1, e2, ⟨⟨r, u, hv, hp, hb⟩, hF⟩, st⟩ | ⟨q, st₀, t, T', L, E, ce, h0, X', hL, e1, e2, ⟨u, hp, hb, hF⟩, hce, hcv, hcl, st⟩
  · cases hv
    obtain ⟨k1, k2, k3⟩ := vx_keep h0 e1 hS hA hf hL hF
    obtain ⟨t2, a1, b1⟩ := kk r u t T'.heap (locs ++ L) e1.symm (by rw [← e2]; exact X'.warmed.alike) hp hb k1 k2 k3 T' rfl X'
    exact ⟨t2, st t2 a1, b1⟩
  · obtain ⟨k1, k2, k3⟩ := vx_keep h0 e1 hS hAX hf hL hF
    obtain ⟨t2, a1, b1⟩ := kx E ce q u t T'.heap (locs ++ L) e1.symm (by rw [← e2]; exact X'.warmed.alike) hp hb k1 k2 k3 (by rw [e1]; exact hce) hcv hcl T' rfl X'
    exact ⟨t2, st.trans a1, b1⟩
theorem vx_callFd {S SX : Type} {post : UInt64 → S → Prop} {px : SX → Prop} {B : S → State → Prop} {BX : String → SX → State → Prop} {AX : Nat → Prop} (hr : vx_Run5 p l e R s m args below meth c H locs cells slots mc ms (F0 m pc ls st0) rest (va_Qd post B A1 a) (vx_X px BX AX) free) (hS : va_S A0 H0 H locs) (hA : ∀ q, q < H.size → A1 q → A0 q) (hf : ∀ q, free q → A0 q) (hAX : ∀ q, q < H.size → AX q → A0 q)
    (kx : ∀ (E : String) (ce : Cell) (q9 : Addr) (u : SX) (t : State) (H1 : Heap) (locs1 : List Loc), t.heap = H1 → s.vm.Alike t.vm → px u → BX E u t → H.size ≤ H1.size → (∀ q : Nat, q < H.size → ¬ AX q → H1[q]? = H[q]?) → va_S A0 H0 H1 locs1 → H1[q9]? = some ce → ce.vm = .none → s.vm.findClass E = some ce.cls → vx_W p l e R s m args below meth c H1 locs1 (cells + mc) (slots + ms) Q (F0 m pc ls rest) q9)
    (kk : ∀ (r : UInt64) (u : S) (t : State) (H1 : Heap) (locs1 : List Loc), t.heap = H1 → s.vm.Alike t.vm → post r u → B u t → H.size ≤ H1.size → (∀ q : Nat, q < H.size → ¬ A1 q → H1[q]? = H[q]?) → va_S A0 H0 H1 locs1 → W p l e R s m args below meth c H1 locs1 (cells + mc) (slots + ms) Q (F0 m (pc + 5) ls (.double r :: rest))) : W p l e R s m args below meth c H locs cells slots Q (F0 m pc ls st0) := by
  intro T hT X
  rcases hr T hT X with ⟨v, st₀, t, T', L, h0, X', hL, e1, e2, ⟨⟨r, u, hv, hp, hb⟩, hF⟩, st⟩ | ⟨q, st₀, t, T', L, E, ce, h0, X', hL, e1, e2, ⟨u, hp, hb, hF⟩, hce, hcv, hcl, st⟩
  · cases hv
    obtain ⟨k1, k2, k3⟩ := vx_keep h0 e1 hS hA hf hL hF
    obtain ⟨t2, a1, b1⟩ := kk r u t T'.heap (locs ++ L) e1.symm (by rw [← e2]; exact X'.warmed.alike) hp hb k1 k2 k3 T' rfl X'
    exact ⟨t2, st t2 a1, b1⟩
  · obtain ⟨k1, k2, k3⟩ := vx_keep h0 e1 hS hAX hf hL hF
    obtain ⟨t2, a1, b1⟩ := kx E ce q u t T'.heap (locs ++ L) e1.symm (by rw [← e2]; exact X'.warmed.alike) hp hb k1 k2 k3 (by rw [e1]; exact hce) hcv hcl T' rfl X'
    exact ⟨t2, st.trans a1, b1⟩
end
/-! ===== END ===== -/
/-! ===== BEGIN by an interface, a method with a table of its own that may throw (follows va_callIFW, va_runFW) ===== -/
section
variable {p : Program} {l : Launch} {e : Env} {R : Room} {s : State} {m : MethodId} {args : Array Value} {below : List Frame} {meth : Method} {c : Code} {H : Heap} {locs : List Loc} {cells slots : Nat}
theorem vx_callIFW {T : State} (X : Stand p l e R s m args below meth c T locs cells slots) (hexec : p.tables.exec = Jvm.exec) {own C : String} {index count : Nat} {x y : MethodName} {bytes : ByteArray} {maxL : Nat} {ret : Option FieldType} {hh : List (Nat × Nat × Nat × Nat)}
    (hown : s.vm.findClass own = some m.cls) (hlink : (Cond.methodLink own index x).before args s = true) (hdecl : (Cond.declares x).before args s = true) (hface : (Cond.interfaceMethod x.cls x.cls x.name x.desc).before args s = true)
    (hsel : (Cond.selects C x y).before args s = true) (hinst : (Cond.instanceMethod y).before args s = true) (hpub : (Cond.publicMethod y).before args s = true) (hunh : (Cond.unhidden C x.name x.desc).before args s = true)
    (hcast : (Cond.castable C x.cls).before args s = true) (hcode : (Cond.codeWith y bytes maxL ret hh).before args s = true) (hx : x.cls ≠ "java/lang/invoke/MethodHandle" ∧ x.cls ≠ "java/lang/invoke/VarHandle")
    {W : Nat} {Pre : Pt → Array Value → Prop} {Post : Pt → Array Value → Option Value → Pt → Prop} {PostX : Pt → Array Value → Addr → Pt → Prop} (hK : vx_Back l R p e below s args y 5 W Pre Post PostX)
    {b : Addr} {cellB : Cell} {kB : Class} (hcell : T.heap[b]? = some cellB) (hobj : cellB.vm.isStatics = false) (hcls : s.vm.findClass C = some cellB.cls) (hkB : s.vm.classes[cellB.cls]? = some kB)
    {g : JFrame} (hg : g.method = m) (hsize : g.locals.size = c.maxLocals) {argsL rest : List Value} (hlen : ∀ sig, parseMethodDescriptor x.desc = some sig → argsL.length = sig.parameters.length)
    (hstack : g.stack = argsL.reverse ++ .ref b :: rest) (hW : 2 * g.monitorRoom + (rest.map fun v => v.category).sum ≤ W) (hdg : decode c.code g.pc = .ok (.invokeinterface index count, 5))
    (hpre : ∀ vm₁, s.WarmedH vm₁ → Pre ⟨T.setVm vm₁, locs, cells, slots⟩ (Value.ref b :: argsL).toArray) :
    (∃ (v : Option Value) (vm₁ : Vm) (B : Pt), s.WarmedH vm₁ ∧ Stand p l e R s m args below meth c B.U B.locs B.cells B.slots ∧ Post ⟨T.setVm vm₁, locs, cells, slots⟩ (Value.ref b :: argsL).toArray v B ∧
      ∀ target, Steps p.tables e below (B.U.setTop { g with pc := g.pc + 5, stack := v.toList ++ rest }) target → Steps p.tables e below (T.setTop g) target) ∨
    (∃ (q : Addr) (vm₁ : Vm) (B : Pt), s.WarmedH vm₁ ∧ Stand p l e R s m args below meth c B.U B.locs B.cells B.slots ∧ PostX ⟨T.setVm vm₁, locs, cells, slots⟩ (Value.ref b :: argsL).toArray q B ∧
      Steps p.tables e below (T.setTop g) ((B.U.setTop { g with stack := rest }).pushFrame (.throwing q))) := by
  obtain ⟨r0, r, hn, hrm, hstR, hsigR⟩ := Cond.declares_spec hdecl
  obtain ⟨cL, kL, r1, hcL, hkL, hiL, hfoundL, hn1⟩ := Cond.interfaceMethod_spec hface
  cases hn.symm.trans hn1
  have hr0cls : r0.cls = cL := Option.some.inj ((findClass_of_methodNamed hn).symm.trans hcL)
  obtain ⟨hnameR, hdescR⟩ := name_of_methodNamed hn hrm
  obtain ⟨mk, methM, hnamed, hmethM, -, habM⟩ := Cond.instanceMethod_spec hinst
  obtain ⟨c2, r2, m2, q1, q2, q3, q4, -⟩ := Cond.selects_spec hsel
  cases hcls.symm.trans q1
  cases hfoundL.symm.trans q2
  cases hnamed.symm.trans q3
  have hselP : selectMethod e.platform s.vm cellB.cls r0 = .method mk := by rw [Launch.admits_selectMethod X.admits]; exact q4
  have hpubM : hasFlag methM.accessFlags Acc.public_ = true := Cond.publicMethod_spec hnamed hmethM hpub
  have hway : ((cellB.cls :: s.vm.superclasses cellB.cls).any fun k => (declaredIn s.vm r.name r.desc k).any fun (_, z) => z.isPrivate || z.isStatic) = false := by
    rw [hnameR, hdescR]; exact Cond.unhidden_spec hcls hunh
  obtain ⟨c3, t3, w1, w2, w3⟩ := Cond.castable_spec hcast
  cases hcls.symm.trans w1
  cases hcL.symm.trans w2
  obtain ⟨vm₁, X₁, hstep₁⟩ := X.invokeinterface hexec hown hlink hn hrm hstR (by rw [hr0cls]; exact hkL) hiL hx (a := b) (cell := cellB) (kcell := kB) hcell
    (fun z h => by rw [h] at hobj; cases hobj) hkB (by rw [hr0cls]; exact w3) hselP hmethM hway hpubM habM (g := g) hg (argsL := argsL) (rest := rest) (hlen _ hsigR) hstack hdg
  rcases hK m meth c ⟨T.setVm vm₁, locs, cells, slots⟩ { g with stack := rest } (.invokeinterface index count) mk (Value.ref b :: argsL).toArray X₁ hg hsize hdg hW (X₁.named hnamed) (hpre vm₁ X₁.warmed) with ⟨v, B, X', hpost, hsteps⟩ | ⟨q, B, X', hpost, hsteps⟩
  · exact Or.inl ⟨v, vm₁, B, X₁.warmed, X', hpost, fun target h => hstep₁ _ fun acts => by rw [doInvoke_state]; exact hsteps.trans h⟩
  · exact Or.inr ⟨q, vm₁, B, X₁.warmed, X', hpost, hstep₁ _ fun acts => by rw [doInvoke_state]; exact hsteps⟩
theorem vx_runFW {x y : MethodName} {bytes cc : ByteArray} {maxL nL mc ms n index count : Nat} {ret : Option FieldType} {hh : List (Nat × Nat × Nat × Nat)} {ws : List Cond} {rm : Room} {Pc : Array Value → State → Prop} {Qc : Array Value → State → Outcome → State → Prop} {XC : String → State → State → Prop} {free : Addr → Prop} {Ts : List Cond} {own C : String} {cC : ClassId} {b : Addr} {As rest : List Value} {g : JFrame}
    (hat : ClassAt s C cC) (S : CallFix p m c cc nL s args Ts own) (hM : vx_Met l y ws rm Pc Qc XC mc ms free) (cw : va_CIW R s args own C index x y bytes maxL ret hh ws rm mc ms n) (hp : PreV s H C b Pc As)
    (hg : g.method = m) (hn : As.length = n) (hsize : g.locals.size = nL) (hstack : g.stack = As.reverse ++ .ref b :: rest) (hW : 2 * g.monitorRoom + (rest.map fun v => v.category).sum ≤ 8) (hdg : decode cc g.pc = .ok (.invokeinterface index count, 5)) (hf : cells + mc ≤ R.cells ∧ slots + ms ≤ R.slots) :
    vx_Run5 p l e R s m args below meth c H locs cells slots mc ms g rest (Qc (Value.ref b :: As).toArray) XC free := by
  obtain ⟨hrc, hrs, hfr, hlo, hws, hcw⟩ := cw.back
  have hini := cw.init
  have hK : vx_Back l R p e below s args y 5 8 (PreOf R mc ms Pc) (PostOf Qc mc ms free) (vx_Post XC mc ms free) := vx_backW (hh := hh) (bytes := bytes) (maxL := maxL) (ret := ret) hM hp.1 hrc hrs hfr hlo hws hcw (fun a' U hW => word_at hW (Or.inl (by first | rfl | simp [Cond.onTables, Cond.keeps, Cond.steady])) hini)
  obtain ⟨hx, hb, hml, ho, -⟩ := S
  obtain ⟨-, ⟨cellB, hcB, hoB, hclB⟩, hPc⟩ := hp
  obtain ⟨hfc, kB, hkB, -⟩ := hat
  cases hfc.symm.trans hclB
  intro T hT X
  rcases vx_callIFW X hx (C := C) (hh := hh) (bytes := bytes) (maxL := maxL) (ret := ret) ho cw.link cw.decl cw.face cw.sel cw.inst cw.pub cw.unh cw.cast cw.code cw.notMH hK (by rw [hT]; exact hcB) hoB hclB hkB hg (hsize.trans hml.symm) (argsL := As) (rest := rest) (fun sig h => hn.trans (cw.len sig h)) hstack hW (by rw [hb]; exact hdg)
    (fun vm₁ hW₁ => ⟨hf.1, hf.2, hPc (T.setVm vm₁) hT hW₁⟩) with ⟨v, vm₁, ⟨U', l2, c2, s2⟩, hW₁, X', ⟨g', mk, t, L, e1, e2, hq, h1, hL, h2, h3⟩, st⟩ | ⟨q, vm₁, ⟨U', l2, c2, s2⟩, hW₁, X', ⟨g', mk, t, L, E, ce, e1, e2, hq, hce, hcv, hcl, h1, hL, h2, h3⟩, st⟩
  · dsimp only [Pt.U, Pt.locs, Pt.cells, Pt.slots] at X' e1 e2 h1 h2 h3 st
    subst h1; subst h2; subst h3
    exact Or.inl ⟨v, (T.setVm vm₁).calling g' mk (Value.ref b :: As).toArray, t, U', L, hT, X', hL, e1, e2, hq, st⟩
  · dsimp only [Pt.U, Pt.locs, Pt.cells, Pt.slots] at X' e1 e2 h1 h2 h3 st hcl
    subst h1; subst h2; subst h3
    exact Or.inr ⟨q, (T.setVm vm₁).calling g' mk (Value.ref b :: As).toArray, t, U', L, E, ce, hT, X', hL, e1, e2, hq, hce, hcv, vx_cls hW₁ hcl, st⟩
end
/-! ===== END ===== -/
/-! ===== BEGIN .. of methods that hand back an object of the pool ===== -/
section
variable {p : Program} {l : Launch} {e : Env} {R : Room} {s : State} {m : MethodId} {args : Array Value} {below : List Frame} {meth : Method} {c : Code} {H : Heap} {locs : List Loc} {cells slots : Nat} {Q : State → Prop}
variable {mc ms : Nat} {free : Addr → Prop} {A0 A1 : Nat → Prop} {H0 : Heap} {a : Array Value} {pc : Nat} {ls : Array Slot} {st0 rest : List Value}
theorem vx_callq {S SX : Type} {post : Option Nat → S → Prop} {px : SX → Prop} {B : S → State → Prop} {BX : String → SX → State → Prop} {AX : Nat → Prop} (hr : vx_Run p l e R s m args below meth c H locs cells slots mc ms (F0 m pc ls st0) rest (va_Qq post B A1 a) (vx_X px BX AX) free) (hS : va_S A0 H0 H locs) (hA : ∀ q, q < H.size → A1 q → A0 q) (hf : ∀ q, free q → A0 q) (hAX : ∀ q, q < H.size → AX q → A0 q)
    (kx : ∀ (E : String) (ce : Cell) (q9 : Addr) (u : SX) (t : State) (H1 : Heap) (locs1 : List Loc), t.heap = H1 → s.vm.Alike t.vm → px u → BX E u t → H.size ≤ H1.size → (∀ q : Nat, q < H.size → ¬ AX q → H1[q]? = H[q]?) → va_S A0 H0 H1 locs1 → H1[q9]? = some ce → ce.vm = .none → s.vm.findClass E = some ce.cls → vx_W p l e R s m args below meth c H1 locs1 (cells + mc) (slots + ms) Q (F0 m pc ls rest) q9)
    (kk : ∀ (r : Option Nat) (u : S) (t : State) (H1 : Heap) (locs1 : List Loc), t.heap = H1 → s.vm.Alike t.vm → post r u → B u t → H.size ≤ H1.size → (∀ q : Nat, q < H.size → ¬ A1 q → H1[q]? = H[q]?) → va_S A0 H0 H1 locs1 → W p l e R s m args below meth c H1 locs1 (cells + mc) (slots + ms) Q (F0 m (pc + 3) ls (va_rf r :: rest))) : W p l e R s m args below meth c H locs cells slots Q (F0 m pc ls st0) := by
  intro T hT X
  rcases hr T hT X with ⟨v, st₀, t, T', L, h0, X', hL, e1, e2, ⟨⟨r, u, hv, hp, hb⟩, hF⟩, st⟩ | ⟨q, st₀, t, T', L, E, ce, h0, X', hL, e1, e2, ⟨u, hp, hb, hF⟩, hce, hcv, hcl, st⟩
  · cases hv
    obtain ⟨k1, k2, k3⟩ := vx_keep h0 e1 hS hA hf hL hF
    obtain ⟨t2, a1, b1⟩ := kk r u t T'.heap (locs ++ L) e1.symm (by rw [← e2]; exact X'.warmed.alike) hp hb k1 k2 k3 T' rfl X'
    exact ⟨t2, st t2 a1, b1⟩
  · obtain ⟨k1, k2, k3⟩ := vx_keep h0 e1 hS hAX hf hL hF
    obtain ⟨t2, a1, b1⟩ := kx E ce q u t T'.heap (locs ++ L) e1.symm (by rw [← e2]; exact X'.warmed.alike) hp hb k1 k2 k3 (by rw [e1]; exact hce) hcv hcl T' rfl X'
    exact ⟨t2, st.trans a1, b1⟩
end
/-! ===== END ===== -/
/-! ===== BEGIN .. a constant ===== -/
section
variable {p : Program} {l : Launch} {e : Env} {R : Room} {s : State} {m : MethodId} {args : Array Value} {below : List Frame} {meth : Method} {c : Code} {H : Heap} {locs : List Loc} {cells slots : Nat} {Q : State → Prop}
variable {mc ms : Nat} {free : Addr → Prop} {A0 A1 : Nat → Prop} {H0 : Heap} {a : Array Value} {pc : Nat} {ls : Array Slot} {st0 rest : List Value}
theorem vx_calle {ad : Nat → Nat} {S SX : Type} {post : Option Nat → S → Prop} {px : SX → Prop} {B : S → State → Prop} {BX : String → SX → State → Prop} {AX : Nat → Prop} (hr : vx_Run p l e R s m args below meth c H locs cells slots mc ms (F0 m pc ls st0) rest (va_Qe ad post B A1 a) (vx_X px BX AX) free) (hS : va_S A0 H0 H locs) (hA : ∀ q, q < H.size → A1 q → A0 q) (hf : ∀ q, free q → A0 q) (hAX : ∀ q, q < H.size → AX q → A0 q)
    (kx : ∀ (E : String) (ce : Cell) (q9 : Addr) (u : SX) (t : State) (H1 : Heap) (locs1 : List Loc), t.heap = H1 → s.vm.Alike t.vm → px u → BX E u t → H.size ≤ H1.size → (∀ q : Nat, q < H.size → ¬ AX q → H1[q]? = H[q]?) → va_S A0 H0 H1 locs1 → H1[q9]? = some ce → ce.vm = .none → s.vm.findClass E = some ce.cls → vx_W p l e R s m args below meth c H1 locs1 (cells + mc) (slots + ms) Q (F0 m pc ls rest) q9)
    (kk : ∀ (r : Option Nat) (u : S) (t : State) (H1 : Heap) (locs1 : List Loc), t.heap = H1 → s.vm.Alike t.vm → post r u → B u t → H.size ≤ H1.size → (∀ q : Nat, q < H.size → ¬ A1 q → H1[q]? = H[q]?) → va_S A0 H0 H1 locs1 → W p l e R s m args below meth c H1 locs1 (cells + mc) (slots + ms) Q (F0 m (pc + 3) ls (va_re ad r :: rest))) : W p l e R s m args below meth c H locs cells slots Q (F0 m pc ls st0) := by
  intro T hT X
  rcases hr T hT X with ⟨v, st₀, t, T', L, h0, X', hL, e1, e2, ⟨⟨r, u, hv, hp, hb⟩, hF⟩, st⟩ | ⟨q, st₀, t, T', L, E, ce, h0, X', hL, e1, e2, ⟨u, hp, hb, hF⟩, hce, hcv, hcl, st⟩
  · cases hv
    obtain ⟨k1, k2, k3⟩ := vx_keep h0 e1 hS hA hf hL hF
    obtain ⟨t2, a1, b1⟩ := kk r u t T'.heap (locs ++ L) e1.symm (by rw [← e2]; exact X'.warmed.alike) hp hb k1 k2 k3 T' rfl X'
    exact ⟨t2, st t2 a1, b1⟩
  · obtain ⟨k1, k2, k3⟩ := vx_keep h0 e1 hS hAX hf hL hF
    obtain ⟨t2, a1, b1⟩ := kx E ce q u t T'.heap (locs ++ L) e1.symm (by rw [← e2]; exact X'.warmed.alike) hp hb k1 k2 k3 (by rw [e1]; exact hce) hcv hcl T' rfl X'
    exact ⟨t2, st.trans a1, b1⟩
end
/-! ===== END ===== -/
/-! ===== BEGIN .. by an interface, an object ===== -/
section
variable {p : Program} {l : Launch} {e : Env} {R : Room} {s : State} {m : MethodId} {args : Array Value} {below : List Frame} {meth : Method} {c : Code} {H : Heap} {locs : List Loc} {cells slots : Nat} {Q : State → Prop}
variable {mc ms : Nat} {free : Addr → Prop} {A0 A1 : Nat → Prop} {H0 : Heap} {a : Array Value} {pc : Nat} {ls : Array Slot} {st0 rest : List Value}
theorem vx_callFq {S SX : Type} {post : Option Nat → S → Prop} {px : SX → Prop} {B : S → State → Prop} {BX : String → SX → State → Prop} {AX : Nat → Prop} (hr : vx_Run5 p l e R s m args below meth c H locs cells slots mc ms (F0 m pc ls st0) rest (va_Qq post B A1 a) (vx_X px BX AX) free) (hS : va_S A0 H0 H locs) (hA : ∀ q, q < H.size → A1 q → A0 q) (hf : ∀ q, free q → A0 q) (hAX : ∀ q, q < H.size → AX q → A0 q)
    (kx : ∀ (E : String) (ce : Cell) (q9 : Addr) (u : SX) (t : State) (H1 : Heap) (locs1 : List Loc), t.heap = H1 → s.vm.Alike t.vm → px u → BX E u t → H.size ≤ H1.size → (∀ q : Nat, q < H.size → ¬ AX q → H1[q]? = H[q]?) → va_S A0 H0 H1 locs1 → H1[q9]? = some ce → ce.vm = .none → s.vm.findClass E = some ce.cls → vx_W p l e R s m args below meth c H1 locs1 (cells + mc) (slots + ms) Q (F0 m pc ls rest) q9)
    (kk : ∀ (r : Option Nat) (u : S) (t : State) (H1 : Heap) (locs1 : List Loc), t.heap = H1 → s.vm.Alike t.vm → post r u → B u t → H.size ≤ H1.size → (∀ q : Nat, q < H.size → ¬ A1 q → H1[q]? = H[q]?) → va_S A0 H0 H1 locs1 → W p l e R s m args below meth c H1 locs1 (cells + mc) (slots + ms) Q (F0 m (pc + 5) ls (va_rf r :: rest))) : W p l e R s m args below meth c H locs cells slots Q (F0 m pc ls st0) := by
  intro T hT X
  rcases hr T hT X with ⟨v, st₀, t, T', L, h0, X', hL, e1, e2, ⟨⟨r, u, hv, hp, hb⟩, hF⟩, st⟩ | ⟨q, st₀, t, T', L, E, ce, h0, X', hL, e1, e2, ⟨u, hp, hb, hF⟩, hce, hcv, hcl, st⟩
  · cases hv
    obtain ⟨k1, k2, k3⟩ := vx_keep h0 e1 hS hA hf hL hF
    obtain ⟨t2, a1, b1⟩ := kk r u t T'.heap (locs ++ L) e1.symm (by rw [← e2]; exact X'.warmed.alike) hp hb k1 k2 k3 T' rfl X'
    exact ⟨t2, st t2 a1, b1⟩
  · obtain ⟨k1, k2, k3⟩ := vx_keep h0 e1 hS hAX hf hL hF
    obtain ⟨t2, a1, b1⟩ := kx E ce q u t T'.heap (locs ++ L) e1.symm (by rw [← e2]; exact X'.warmed.alike) hp hb k1 k2 k3 (by rw [e1]; exact hce) hcv hcl T' rfl X'
    exact ⟨t2, st.trans a1, b1⟩
end
/-! ===== END ===== -/
/-! ===== BEGIN .. by an interface, a constant ===== -/
section
variable {p : Program} {l : Launch} {e : Env} {R : Room} {s : State} {m : MethodId} {args : Array Value} {below : List Frame} {meth : Method} {c : Code} {H : Heap} {locs : List Loc} {cells slots : Nat} {Q : State → Prop}
variable {mc ms : Nat} {free : Addr → Prop} {A0 A1 : Nat → Prop} {H0 : Heap} {a : Array Value} {pc : Nat} {ls : Array Slot} {st0 rest : List Value}
theorem vx_callFe {ad : Nat → Nat} {S SX : Type} {post : Option Nat → S → Prop} {px : SX → Prop} {B : S → State → Prop} {BX : String → SX → State → Prop} {AX : Nat → Prop} (hr : vx_Run5 p l e R s m args below meth c H locs cells slots mc ms (F0 m pc ls st0) rest (va_Qe ad post B A1 a) (vx_X px BX AX) free) (hS : va_S A0 H0 H locs) (hA : ∀ q, q < H.size → A1 q → A0 q) (hf : ∀ q, free q → A0 q) (hAX : ∀ q, q < H.size → AX q → A0 q)
    (kx : ∀ (E : String) (ce : Cell) (q9 : Addr) (u : SX) (t : State) (H1 : Heap) (locs1 : List Loc), t.heap = H1 → s.vm.Alike t.vm → px u → BX E u t → H.size ≤ H1.size → (∀ q : Nat, q < H.size → ¬ AX q → H1[q]? = H[q]?) → va_S A0 H0 H1 locs1 → H1[q9]? = some ce → ce.vm = .none → s.vm.findClass E = some ce.cls → vx_W p l e R s m args below meth c H1 locs1 (cells + mc) (slots + ms) Q (F0 m pc ls rest) q9)
    (kk : ∀ (r : Option Nat) (u : S) (t : State) (H1 : Heap) (locs1 : List Loc), t.heap = H1 → s.vm.Alike t.vm → post r u → B u t → H.size ≤ H1.size → (∀ q : Nat, q < H.size → ¬ A1 q → H1[q]? = H[q]?) → va_S A0 H0 H1 locs1 → W p l e R s m args below meth c H1 locs1 (cells + mc) (slots + ms) Q (F0 m (pc + 5) ls (va_re ad r :: rest))) : W p l e R s m args below meth c H locs cells slots Q (F0 m pc ls st0) := by
  intro T hT X
  rcases hr T hT X with ⟨v, st₀, t, T', L, h0, X', hL, e1, e2, ⟨⟨r, u, hv, hp, hb⟩, hF⟩, st⟩ | ⟨q, st₀, t, T', L, E, ce, h0, X', hL, e1, e2, ⟨u, hp, hb, hF⟩, hce, hcv, hcl, st⟩
  · cases hv
    obtain ⟨k1, k2, k3⟩ := vx_keep h0 e1 hS hA hf hL hF
    obtain ⟨t2, a1, b1⟩ := kk r u t T'.heap (locs ++ L) e1.symm (by rw [← e2]; exact X'.warmed.alike) hp hb k1 k2 k3 T' rfl X'
    exact ⟨t2, st t2 a1, b1⟩
  · obtain ⟨k1, k2, k3⟩ := vx_keep h0 e1 hS hAX hf hL hF
    obtain ⟨t2, a1, b1⟩ := kx E ce q u t T'.heap (locs ++ L) e1.symm (by rw [← e2]; exact X'.warmed.alike) hp hb k1 k2 k3 (by rw [e1]; exact hce) hcv hcl T' rfl X'
    exact ⟨t2, st.trans a1, b1⟩
end
/-! ===== END ===== -/
/-! ===== BEGIN what the machine throws by itself: null at a field, at athrow ===== -/
section VXM2
variable {p : Program} {l : Launch} {e : Env} {R : Room} {s : State} {m : MethodId} {args : Array Value} {below : List Frame} {meth : Method} {c : Code} {H : Heap} {locs : List Loc} {cells slots : Nat}
variable {Q : State → Prop} {cc : ByteArray} {pc : Nat} {ls : Array Slot} {rest : List Value}
theorem vx_getfN {D cl tys} {own ref C : String} {T : u_T} {N ci index : Nat} {Ts : List Cond} (hexec : p.tables.exec = Jvm.exec) (hb : c.code = cc) (hts : ∀ w ∈ Ts, w.before args s = true) (hin : ∀ w ∈ u_ws C T N, w ∈ Ts) (hown : s.vm.findClass own = some m.cls) (hK : va_K D cl tys s) (hc : cl[ci]? = some (C, T, N)) (k : Nat) (hk : k < N) (hlink : (Cond.fieldLink own index ref (T k).2.1 (T k).2.2.1).before args s = true) (hsame : ∀ x, s.fieldFound? (T k).1 (T k).2.1 (T k).2.2.1 = some x → s.fieldFound? ref (T k).2.1 (T k).2.2.1 = some x) (hdg : decode cc pc = .ok (.getfield index, 3)) (kk : vx_NoteN p l e R s m args below meth c H locs cells slots Q (F0 m pc ls rest)) : W p l e R s m args below meth c H locs cells slots Q (F0 m pc ls (.null :: rest)) := by
  obtain ⟨hS, hfc, kC, hkC, -⟩ := hK.1 ci _ hc
  obtain ⟨cf, kf, fi, f, hi, -⟩ := hS k hk
  intro U hU X
  obtain ⟨vm', X1, st1⟩ := X.getfieldNull hexec hown hlink (hsame _ hi) (u_facts hfc hkC (u_lays hts hin hk) hi).1 (g := F0 m pc ls (.null :: rest)) rfl (rest := rest) rfl (by rw [hb]; exact hdg)
  obtain ⟨t, st, q⟩ := kk (U.setVm vm') hU X1
  exact ⟨t, st1 t st, q⟩
theorem vx_getfNN {D cl tys} {own ref C host : String} {T : u_T} {N ci index : Nat} {Ts : List Cond} (hexec : p.tables.exec = Jvm.exec) (hb : c.code = cc) (hts : ∀ w ∈ Ts, w.before args s = true) (hin : ∀ w ∈ u_ws C T N, w ∈ Ts) (hown : s.vm.findClass own = some m.cls) (hK : va_K D cl tys s) (hc : cl[ci]? = some (C, T, N)) (k : Nat) (hk : k < N) (hlink : (Cond.fieldLinkNest own index ref (T k).2.1 (T k).2.2.1 host).before args s = true) (hsame : ∀ x, s.fieldFound? (T k).1 (T k).2.1 (T k).2.2.1 = some x → s.fieldFound? ref (T k).2.1 (T k).2.2.1 = some x) (hdg : decode cc pc = .ok (.getfield index, 3)) (kk : vx_NoteN p l e R s m args below meth c H locs cells slots Q (F0 m pc ls rest)) : W p l e R s m args below meth c H locs cells slots Q (F0 m pc ls (.null :: rest)) := by
  obtain ⟨hS, hfc, kC, hkC, -⟩ := hK.1 ci _ hc
  obtain ⟨cf, kf, fi, f, hi, -⟩ := hS k hk
  intro U hU X
  obtain ⟨vm', X1, st1⟩ := X.getfieldNullNest hexec hown hlink (hsame _ hi) (u_facts hfc hkC (u_lays hts hin hk) hi).1 (g := F0 m pc ls (.null :: rest)) rfl (rest := rest) rfl (by rw [hb]; exact hdg)
  obtain ⟨t, st, q⟩ := kk (U.setVm vm') hU X1
  exact ⟨t, st1 t st, q⟩
theorem vx_putfN {D cl tys} {own ref C : String} {T : u_T} {N ci index : Nat} {Ts : List Cond} (hexec : p.tables.exec = Jvm.exec) (hb : c.code = cc) (hts : ∀ w ∈ Ts, w.before args s = true) (hin : ∀ w ∈ u_ws C T N, w ∈ Ts) (hown : s.vm.findClass own = some m.cls) (hK : va_K D cl tys s) (hc : cl[ci]? = some (C, T, N)) (k : Nat) (hk : k < N) (hlink : (Cond.fieldLink own index ref (T k).2.1 (T k).2.2.1).before args s = true) (hsame : ∀ x, s.fieldFound? (T k).1 (T k).2.1 (T k).2.2.1 = some x → s.fieldFound? ref (T k).2.1 (T k).2.2.1 = some x) (hfin : (T k).2.2.2 = false) {v : Value} (hdg : decode cc pc = .ok (.putfield index, 3)) (kk : vx_NoteN p l e R s m args below meth c H locs cells slots Q (F0 m pc ls rest)) : W p l e R s m args below meth c H locs cells slots Q (F0 m pc ls (v :: .null :: rest)) := by
  obtain ⟨hS, hfc, kC, hkC, -⟩ := hK.1 ci _ hc
  obtain ⟨cf, kf, fi, f, hi, -⟩ := hS k hk
  have hlay := hts _ (hin _ (u_in_lay hk))
  unfold u_lay at hlay
  rw [if_neg (by rw [hfin]; decide)] at hlay
  obtain ⟨c9, k9, cf9, kf9, fi9, f9, -, -, hi9, hst9, hnf9, -⟩ := Cond.lays_spec hlay
  cases hi.symm.trans hi9
  intro U hU X
  obtain ⟨vm', X1, st1⟩ := X.putfieldNull hexec hown hlink (hsame _ hi) hst9 hnf9 (g := F0 m pc ls (v :: .null :: rest)) rfl (v := v) (rest := rest) rfl (by rw [hb]; exact hdg)
  obtain ⟨t, st, q⟩ := kk (U.setVm vm') hU X1
  exact ⟨t, st1 t st, q⟩
theorem vx_putfNN {D cl tys} {own ref C host : String} {T : u_T} {N ci index : Nat} {Ts : List Cond} (hexec : p.tables.exec = Jvm.exec) (hb : c.code = cc) (hts : ∀ w ∈ Ts, w.before args s = true) (hin : ∀ w ∈ u_ws C T N, w ∈ Ts) (hown : s.vm.findClass own = some m.cls) (hK : va_K D cl tys s) (hc : cl[ci]? = some (C, T, N)) (k : Nat) (hk : k < N) (hlink : (Cond.fieldLinkNest own index ref (T k).2.1 (T k).2.2.1 host).before args s = true) (hsame : ∀ x, s.fieldFound? (T k).1 (T k).2.1 (T k).2.2.1 = some x → s.fieldFound? ref (T k).2.1 (T k).2.2.1 = some x) (hfin : (T k).2.2.2 = false) {v : Value} (hdg : decode cc pc = .ok (.putfield index, 3)) (kk : vx_NoteN p l e R s m args below meth c H locs cells slots Q (F0 m pc ls rest)) : W p l e R s m args below meth c H locs cells slots Q (F0 m pc ls (v :: .null :: rest)) := by
  obtain ⟨hS, hfc, kC, hkC, -⟩ := hK.1 ci _ hc
  obtain ⟨cf, kf, fi, f, hi, -⟩ := hS k hk
  have hlay := hts _ (hin _ (u_in_lay hk))
  unfold u_lay at hlay
  rw [if_neg (by rw [hfin]; decide)] at hlay
  obtain ⟨c9, k9, cf9, kf9, fi9, f9, -, -, hi9, hst9, hnf9, -⟩ := Cond.lays_spec hlay
  cases hi.symm.trans hi9
  intro U hU X
  obtain ⟨vm', X1, st1⟩ := X.putfieldNullNest hexec hown hlink (hsame _ hi) hst9 hnf9 (g := F0 m pc ls (v :: .null :: rest)) rfl (v := v) (rest := rest) rfl (by rw [hb]; exact hdg)
  obtain ⟨t, st, q⟩ := kk (U.setVm vm') hU X1
  exact ⟨t, st1 t st, q⟩
theorem vx_athrowN (hexec : p.tables.exec = Jvm.exec) (hb : c.code = cc) (hdg : decode cc pc = .ok (.athrow, 1)) (k : vx_NoteN p l e R s m args below meth c H locs cells slots Q (F0 m pc ls rest)) : W p l e R s m args below meth c H locs cells slots Q (F0 m pc ls (.null :: rest)) := by
  intro T hT X
  obtain ⟨t, st, q⟩ := k T hT X
  exact ⟨t, X.athrowNull hexec (g := F0 m pc ls (.null :: rest)) rfl (rest := rest) rfl (by rw [hb]; exact hdg) t st, q⟩
end VXM2
/-! ===== END ===== -/
end
section
/-! 04: what the machine's start gives beside the cells (words of the tables, String constants), and how it stays -/
def TT : List Cond := lw_tbl.filter goodWord
theorem TT_good {x : Cond} (h : x ∈ TT) : goodWord x = true := (List.mem_filter.mp h).2
theorem TT_sub {x : Cond} (h : x ∈ TT) : x ∈ lw_tbl := (List.mem_filter.mp h).1
theorem TT_at {x : Cond} (i : Nat) (h : lw_tbl[i]? = some x) (g : goodWord x = true) : x ∈ TT := List.mem_filter.mpr ⟨List.mem_of_getElem? h, g⟩
theorem TT_in {x : Cond} (h : x ∈ lw_tbl) (g : goodWord x = true) : x ∈ TT := List.mem_filter.mpr ⟨h, g⟩
def vws (M : vMet) : List Cond := .code M.1 M.2.1 M.2.2.1 M.2.2.2 :: TT
abbrev vIds : Type := va_G × (Nat → ClassId)
abbrev vStr : Type := (Nat → Nat) × (Nat → Nat)
abbrev vWd : Type := Launch × vIds × vStr
abbrev vD (w : vWd) : va_G := w.2.1.1
abbrev vA (w : vWd) (k : Nat) : ClassId := w.2.1.2 k
def vT (w : vWd) : List (ClassId × FieldType) := [(vA w 0, .int), (vA w 1, .byte), (vA w 2, .long), (vA w 3, .object "CashDeriver$Journal"), (vA w 4, .array .int)]
def vNest : List (String × Nat × MethodName × String) := [("CashDeriver", 11, ⟨"CashDeriver$Tape", "<init>", "()V"⟩, "CashDeriver"), ("CashDeriver", 27, ⟨"CashDeriver$Parter", "<init>", "()V"⟩, "CashDeriver"), ("CashDeriver", 34, ⟨"CashDeriver$Tracer", "<init>", "()V"⟩, "CashDeriver"), ("CashDeriver", 41, ⟨"CashDeriver$Acts", "<init>", "()V"⟩, "CashDeriver"), ("CashDeriver$Book", 34, ⟨"CashDeriver$Journal", "<init>", "()V"⟩, "CashDeriver")]
/-- the String constants: who names them, by which entry, the text, which of them -/
def vRefs : List (String × Nat × String × Nat) := [("CashDeriver$Reader", 109, "cash", 0), ("CashDeriver$Reader", 111, "work", 1), ("CashDeriver$Reader", 113, "income", 2), ("CashDeriver$Reader", 115, "invest", 3), ("CashDeriver$Reader", 117, "finance", 4), ("CashDeriver$Reader", 119, "currency", 5), ("CashDeriver$Reader", 45, "account", 6), ("CashDeriver$Reader", 55, "journal", 7), ("CashDeriver", 110, "no such account", 8), ("CashDeriver", 135, "an account has no such figure", 9), ("CashDeriver", 137, "no such journal", 10), ("CashDeriver", 157, "a journal has no such figure", 11)]
def vByt : List (List Int32) := [[99, 97, 115, 104], [119, 111, 114, 107], [105, 110, 99, 111, 109, 101], [105, 110, 118, 101, 115, 116], [102, 105, 110, 97, 110, 99, 101], [99, 117, 114, 114, 101, 110, 99, 121], [97, 99, 99, 111, 117, 110, 116], [106, 111, 117, 114, 110, 97, 108]]
def vLen : List Nat := [4, 4, 6, 6, 7, 8, 7, 7]
/-! arrays of arrays: NAMES' rows speak of va_AOA -/
def va_AOA (t : FieldType) (U : State) : Prop := (Cond.arrayOver (.array t)).before #[] U = true
theorem va_AOA.of {t : FieldType} {A : Array Value} {U : State} (h : (Cond.arrayOver (.array t)).before A U = true) : va_AOA t U := h
theorem va_AOA.use {t : FieldType} {A : Array Value} {U : State} (h : va_AOA t U) : (Cond.arrayOver (.array t)).before A U = true := h
theorem vo_spec {t : FieldType} {s : State} (h : va_AOA t s) :
    ∃ comp c k, s.vm.findClass (FieldType.array t).toString = some comp ∧ (s.vm.classes.findIdx? fun x => match x.kind with | .array component _ => component == comp | _ => false) = some c ∧ s.vm.classes[c]? = some k ∧ k.kind = .array comp (.array t) ∧ s.vm.findClass ("[" ++ (FieldType.array t).toString) = some c := by
  simp only [va_AOA, Cond.before, Cond.holds, Cond.value, beq_iff_eq] at h
  cases hc : s.vm.findClass (FieldType.array t).toString with
  | none => simp [hc] at h
  | some comp =>
    simp only [hc, Option.bind_some, Option.bind_eq_some_iff, Option.map_eq_some_iff] at h
    obtain ⟨c, hi, k, hk, hb⟩ := h
    obtain ⟨hlt, hp, -⟩ := Array.findIdx?_eq_some_iff_getElem.mp hi
    have hkk : s.vm.classes[c] = k := (Array.getElem?_eq_some_iff.mp hk).2
    rw [hkk] at hp
    cases hkind : k.kind with
    | array component ty =>
      rw [hkind] at hb hp
      simp at hb hp
      exact ⟨comp, c, k, rfl, hi, hk, by rw [hkind, hp, hb.1], hb.2⟩
    | _ => rw [hkind] at hb; simp at hb
theorem vo_idx (vm : Vm) (comp : ClassId) : (vm.bare.classes.findIdx? fun (x : Class) => match x.kind with | .array component _ => component == comp | _ => false) = (vm.classes.findIdx? fun (x : Class) => match x.kind with | .array component _ => component == comp | _ => false) := by
  simp only [Vm.bare, Array.findIdx?_map]
  rfl
theorem va_AOA.moved {t : FieldType} {u U : State} (hvm : u.vm.Alike U.vm) (h : va_AOA t u) : va_AOA t U := by
  obtain ⟨comp, c, k, h1, h2, h3, h4, h5⟩ := vo_spec h
  obtain ⟨k', hk', he⟩ := hvm.2.2 _ _ h3
  have hi : (U.vm.classes.findIdx? fun (x : Class) => match x.kind with | .array component _ => component == comp | _ => false) = some c := by
    rw [← vo_idx]
    first | rw [hvm.bare_eq] | rw [← hvm.bare_eq]
    rw [vo_idx]
    exact h2
  have hkind : k'.kind = .array comp (.array t) := by rw [he]; exact h4
  have f1 : U.vm.findClass (FieldType.array t).toString = some comp := by rw [hvm.findClass]; exact h1
  have f2 : U.vm.findClass ("[" ++ (FieldType.array t).toString) = some c := by rw [hvm.findClass]; exact h5
  unfold va_AOA Cond.before Cond.holds
  simp only [Cond.value]
  rw [f1, Option.bind_some]
  refine (congrArg (fun o : Option Nat => (o.bind (fun c => (U.vm.classes[c]?).map fun (k : Class) => match k.kind with | .array _ ty => decide (ty = FieldType.array t) && decide (U.vm.findClass ("[" ++ (FieldType.array t).toString) = some c) | _ => false) == some true)) hi).trans ?_
  simp [hk', hkind, f2]
/-- the classes of the arrays, by their names -/
def vArr : List (String × Nat) := [("[I", 0), ("[B", 1), ("[J", 2), ("[LCashDeriver$Journal;", 3), ("[[I", 4)]
def vAs (w : vWd) (U : State) : Prop := (∀ q ∈ vArr, U.vm.findClass q.1 = some (vA w q.2)) ∧ va_AO "CashDeriver$Journal" U ∧ va_AOA .int U
theorem vAs.moved {w : vWd} {u U : State} (hvm : u.vm.Alike U.vm) (h : vAs w u) : vAs w U :=
  ⟨fun q hq => by rw [hvm.findClass]; exact h.1 q hq, va_AO.moved hvm h.2.1, va_AOA.moved hvm h.2.2⟩
/-- the constructors on the way from NoSuchElementException to Throwable: words that are kept apart -/
def vDecl : List MethodName := [Bundle.initS "java/lang/RuntimeException", Bundle.initS "java/lang/Exception", Bundle.initS Bundle.tN]
def vX (w : vWd) (A : Nat → Prop) (U : State) (H : Heap) : Prop :=
  (∀ q ∈ vNest, va_Nw (.methodLinkNest q.1 q.2.1 q.2.2.1 q.2.2.2) U) ∧ (∀ q ∈ vRefs, vk_R q.1 q.2.1 q.2.2.1 (w.2.2.1 q.2.2.2) U) ∧ vk_S 8 vLen vByt w.2.2.1 w.2.2.2 A U H ∧ va_Z "java/lang/String" "COMPACT_STRINGS" "Z" (.int 1) A U H ∧ va_Zq "jdk/internal/util/Preconditions" "SIOOBE_FORMATTER" "Ljava/util/function/BiFunction;" A U H ∧ vx_Zq Bundle.tN "UNASSIGNED_STACK" Bundle.steD A U H ∧ vx_Zq Bundle.tN "SUPPRESSED_SENTINEL" Bundle.listD A U H ∧ (∀ x ∈ vDecl, va_Nw (.declares x) U) ∧ va_Nw (.castable "java/util/NoSuchElementException" "java/util/NoSuchElementException") U ∧ vAs w U
theorem vX.warm {w : vWd} {A : Nat → Prop} {s U : State} {H : Heap} (hW : s.WarmedH U.vm) (h : vX w A s H) : vX w A U H :=
  ⟨fun q hq => (h.1 q hq).warmM hW, fun q hq => (h.2.1 q hq).warm hW, h.2.2.1.moved hW.alike, h.2.2.2.1.moved hW.alike, h.2.2.2.2.1.moved hW.alike, h.2.2.2.2.2.1.moved hW.alike, h.2.2.2.2.2.2.1.moved hW.alike, fun x hx => (h.2.2.2.2.2.2.2.1 x hx).warmD hW, h.2.2.2.2.2.2.2.2.1.warmC hW, vAs.moved hW.alike h.2.2.2.2.2.2.2.2.2⟩
theorem vX.same {w : vWd} {A : Nat → Prop} {s U : State} {H : Heap} (hv : U.vm = s.vm) (h : vX w A s H) : vX w A U H := by
  have ha : s.vm.Alike U.vm := by rw [hv]; exact Vm.Alike.refl _
  exact ⟨fun q hq => (h.1 q hq).same rfl hv.symm, fun q hq => (h.2.1 q hq).same hv, h.2.2.1.moved ha, h.2.2.2.1.moved ha, h.2.2.2.2.1.moved ha, h.2.2.2.2.2.1.moved ha, h.2.2.2.2.2.2.1.moved ha, fun x hx => (h.2.2.2.2.2.2.2.1 x hx).same rfl hv.symm, h.2.2.2.2.2.2.2.2.1.same rfl hv.symm, vAs.moved ha h.2.2.2.2.2.2.2.2.2⟩
theorem vX.kept {w : vWd} {A : Nat → Prop} {U : State} {H H1 : Heap} (h : vX w A U H) (hq : ∀ a : Nat, a < H.size → ¬ A a → H1[a]? = H[a]?) : vX w A U H1 :=
  ⟨h.1, h.2.1, h.2.2.1.kept hq, h.2.2.2.1.kept hq, h.2.2.2.2.1.kept hq, h.2.2.2.2.2.1.kept hq, h.2.2.2.2.2.2.1.kept hq, h.2.2.2.2.2.2.2⟩
theorem vX.narrow {w : vWd} {A B : Nat → Prop} {U : State} {H : Heap} (h : vX w A U H) (hAB : ∀ q, B q → A q) : vX w B U H :=
  ⟨h.1, h.2.1, h.2.2.1.narrow hAB, h.2.2.2.1.narrow hAB, h.2.2.2.2.1.narrow hAB, h.2.2.2.2.2.1.narrow hAB, h.2.2.2.2.2.2.1.narrow hAB, h.2.2.2.2.2.2.2⟩
/-! worlds as bags: order doesn't matter -/
theorem va_P_iff {D : va_G} {cl : List vw_C} {ws : va_W} {H : Heap} : va_P D cl ws H ↔ ∀ q ∈ ws, va_at D cl q H :=
  ⟨fun h q hq => by obtain ⟨i, hi⟩ := List.getElem?_of_mem hq; exact h i q hi, fun h k q hk => h q (List.mem_of_getElem? hk)⟩
theorem va_D_iff {A : Nat → Prop} {ws : va_W} : va_D A ws ↔ (ws.map (·.1)).Nodup ∧ ∀ q ∈ ws, A q.1 := by
  constructor
  · intro h
    refine ⟨?_, fun q hq => by obtain ⟨i, hi⟩ := List.getElem?_of_mem hq; exact h.2 i q hi⟩
    rw [List.Nodup, List.pairwise_iff_getElem]
    intro i j hi hj hij e
    rw [List.length_map] at hi hj
    simp only [List.getElem_map] at e
    have := h.1 i j ws[i] ws[j] (List.getElem?_eq_getElem hi) (List.getElem?_eq_getElem hj) e
    omega
  · rintro ⟨h1, h2⟩
    refine ⟨fun i j p q hi hj e => ?_, fun k q hk => h2 q (List.mem_of_getElem? hk)⟩
    rw [List.Nodup, List.pairwise_iff_getElem] at h1
    obtain ⟨li, ei⟩ := List.getElem?_eq_some_iff.mp hi
    obtain ⟨lj, ej⟩ := List.getElem?_eq_some_iff.mp hj
    have li' : i < (ws.map (·.1)).length := by rw [List.length_map]; exact li
    have lj' : j < (ws.map (·.1)).length := by rw [List.length_map]; exact lj
    rcases Nat.lt_trichotomy i j with c | c | c
    · exact absurd (by simp only [List.getElem_map, ei, ej]; exact e) (h1 i j li' lj' c)
    · exact c
    · exact absurd (by simp only [List.getElem_map, ei, ej]; exact e.symm) (h1 j i lj' li' c)
theorem va_P_perm {D : va_G} {cl : List vw_C} {ws ws' : va_W} {H : Heap} (hp : ws.Perm ws') (h : va_P D cl ws H) : va_P D cl ws' H :=
  va_P_iff.mpr fun q hq => va_P_iff.mp h q (hp.mem_iff.mpr hq)
theorem va_D_perm {A : Nat → Prop} {ws ws' : va_W} (hp : ws.Perm ws') (h : va_D A ws) : va_D A ws' :=
  va_D_iff.mpr ⟨(hp.map (·.1)).nodup (va_D_iff.mp h).1, fun q hq => (va_D_iff.mp h).2 q (hp.mem_iff.mpr hq)⟩
theorem va_D_left {A : Nat → Prop} {w1 w2 : va_W} (h : va_D A (w1 ++ w2)) : va_D A w1 := by
  rw [va_D_iff] at h ⊢
  rw [List.map_append] at h
  exact ⟨(List.nodup_append.mp h.1).1, fun q hq => h.2 q (List.mem_append_left _ hq)⟩
theorem va_P_left {D : va_G} {cl : List vw_C} {w1 w2 : va_W} {H : Heap} (h : va_P D cl (w1 ++ w2) H) : va_P D cl w1 H :=
  va_P_iff.mpr fun q hq => va_P_iff.mp h q (List.mem_append_left _ hq)
/-- behind a call: the callee's cells as they are now, the rest as it was -/
theorem v_join {A0 : Nat → Prop} {D : va_G} {cl : List vw_C} {wc wr w1 : va_W} {H H1 : Heap} (hP : va_P D cl (wc ++ wr) H) (hD : va_D A0 (wc ++ wr)) (hk : ∀ q : Nat, q < H.size → ¬ va_A wc H.size q → H1[q]? = H[q]?) (hF : ∀ q, va_A wc H.size q → A0 q) (hP1 : va_P D cl w1 H1) (hD1 : va_D (va_A wc H.size) w1) : va_P D cl (w1 ++ wr) H1 ∧ va_D A0 (w1 ++ wr) := by
  have hP' := va_P_iff.mp hP
  obtain ⟨hn, hA⟩ := va_D_iff.mp hD
  rw [List.map_append, List.nodup_append] at hn
  have apart : ∀ q ∈ wr, q.1 < H.size ∧ ¬ va_A wc H.size q.1 := by
    intro q hq
    have hl := (hP' q (List.mem_append_right _ hq)).lt
    refine ⟨hl, fun h => ?_⟩
    rcases h with ⟨k, e, h⟩ | h
    · exact hn.2.2 q.1 (List.mem_map.mpr ⟨(q.1, e), List.mem_of_getElem? h, rfl⟩) q.1 (List.mem_map.mpr ⟨q, hq, rfl⟩) rfl
    · omega
  refine ⟨va_P_iff.mpr fun q hq => ?_, va_D_iff.mpr ⟨?_, fun q hq => ?_⟩⟩
  · rcases List.mem_append.mp hq with h | h
    · exact va_P_iff.mp hP1 q h
    · exact (hP' q (List.mem_append_right _ h)).kept (hk q.1 (apart q h).1 (apart q h).2)
  · obtain ⟨n1, a1⟩ := va_D_iff.mp hD1
    rw [List.map_append, List.nodup_append]
    refine ⟨n1, hn.2.1, fun x hx y hy e => ?_⟩
    obtain ⟨q, hq, rfl⟩ := List.mem_map.mp hx
    obtain ⟨r, hr, rfl⟩ := List.mem_map.mp hy
    exact (apart r hr).2 (by rw [← e]; exact a1 q hq)
  · rcases List.mem_append.mp hq with h | h
    · exact hF _ ((va_D_iff.mp hD1).2 q h)
    · exact hA q (List.mem_append_right _ h)
theorem v_free {A0 : Nat → Prop} {wc wr : va_W} {H0 H : Heap} {locs : List Loc} (hD : va_D A0 (wc ++ wr)) (hS : va_S A0 H0 H locs) (hA : ∀ q, H0.size ≤ q → A0 q) : ∀ q, va_A wc H.size q → A0 q := by
  intro q h
  rcases h with ⟨k, e, h⟩ | h
  · exact (va_D_iff.mp hD).2 (q, e) (List.mem_append_left _ (List.mem_of_getElem? h))
  · exact hA q (Nat.le_trans hS.1 h)
end
