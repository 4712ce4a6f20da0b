section
-- ===== PART A: goes FIRST, ahead of the names: the tables' words, and 'selects' of the private methods out of them =====
/-- a private method of a class that the tables say can be made, by its rows of tables_1 -/
def lw_okq (q : MethodName × Nat) : Prop := (q.1.cls ≠ "java/lang/invoke/MethodHandle" ∧ q.1.cls ≠ "java/lang/invoke/VarHandle") ∧ Cond.instantiable q.1.cls q.2 ∈ tables_1 ∧ Cond.privateMethod q.1 ∈ tables_1 ∧ Cond.instanceMethod q.1 ∈ tables_1
theorem lw_p0 : lw_okq (⟨"PostIndex", "stands", "(I)Z"⟩, 12) := ⟨⟨by decide +kernel, by decide +kernel⟩, List.mem_of_getElem? (i := 13) (by decide +kernel), List.mem_of_getElem? (i := 208) (by decide +kernel), List.mem_of_getElem? (i := 209) (by decide +kernel)⟩
theorem lw_p1 : lw_okq (⟨"PostIndex", "isLive", "(I)Z"⟩, 12) := ⟨⟨by decide +kernel, by decide +kernel⟩, List.mem_of_getElem? (i := 13) (by decide +kernel), List.mem_of_getElem? (i := 212) (by decide +kernel), List.mem_of_getElem? (i := 213) (by decide +kernel)⟩
theorem lw_p2 : lw_okq (⟨"PostIndex", "writeUnit", "(I)V"⟩, 12) := ⟨⟨by decide +kernel, by decide +kernel⟩, List.mem_of_getElem? (i := 13) (by decide +kernel), List.mem_of_getElem? (i := 255) (by decide +kernel), List.mem_of_getElem? (i := 256) (by decide +kernel)⟩
theorem lw_p3 : lw_okq (⟨"PostIndex$Segment", "findTerm", "(LPostIndex$Text;)I"⟩, 5) := ⟨⟨by decide +kernel, by decide +kernel⟩, List.mem_of_getElem? (i := 112) (by decide +kernel), List.mem_of_getElem? (i := 291) (by decide +kernel), List.mem_of_getElem? (i := 292) (by decide +kernel)⟩
theorem lw_p4 : lw_okq (⟨"PostIndex", "segmentToPack", "()I"⟩, 12) := ⟨⟨by decide +kernel, by decide +kernel⟩, List.mem_of_getElem? (i := 13) (by decide +kernel), List.mem_of_getElem? (i := 312) (by decide +kernel), List.mem_of_getElem? (i := 313) (by decide +kernel)⟩
theorem lw_p5 : lw_okq (⟨"PostIndex", "isFull", "(I)Z"⟩, 12) := ⟨⟨by decide +kernel, by decide +kernel⟩, List.mem_of_getElem? (i := 13) (by decide +kernel), List.mem_of_getElem? (i := 316) (by decide +kernel), List.mem_of_getElem? (i := 317) (by decide +kernel)⟩
theorem lw_p6 : lw_okq (⟨"PostIndex$QueryReader", "readAny", "(I)Z"⟩, 3) := ⟨⟨by decide +kernel, by decide +kernel⟩, List.mem_of_getElem? (i := 38) (by decide +kernel), List.mem_of_getElem? (i := 338) (by decide +kernel), List.mem_of_getElem? (i := 339) (by decide +kernel)⟩
theorem lw_p7 : lw_okq (⟨"PostIndex$QueryReader", "readAll", "(I)Z"⟩, 3) := ⟨⟨by decide +kernel, by decide +kernel⟩, List.mem_of_getElem? (i := 38) (by decide +kernel), List.mem_of_getElem? (i := 342) (by decide +kernel), List.mem_of_getElem? (i := 343) (by decide +kernel)⟩
theorem lw_p8 : lw_okq (⟨"PostIndex$QueryReader", "readPart", "(I)Z"⟩, 3) := ⟨⟨by decide +kernel, by decide +kernel⟩, List.mem_of_getElem? (i := 38) (by decide +kernel), List.mem_of_getElem? (i := 346) (by decide +kernel), List.mem_of_getElem? (i := 347) (by decide +kernel)⟩
theorem lw_p9 : lw_okq (⟨"PostIndex$QueryReader", "take", "(C)Z"⟩, 3) := ⟨⟨by decide +kernel, by decide +kernel⟩, List.mem_of_getElem? (i := 38) (by decide +kernel), List.mem_of_getElem? (i := 350) (by decide +kernel), List.mem_of_getElem? (i := 351) (by decide +kernel)⟩
theorem lw_p10 : lw_okq (⟨"PostIndex$QueryReader", "peekPiece", "()C"⟩, 3) := ⟨⟨by decide +kernel, by decide +kernel⟩, List.mem_of_getElem? (i := 38) (by decide +kernel), List.mem_of_getElem? (i := 354) (by decide +kernel), List.mem_of_getElem? (i := 355) (by decide +kernel)⟩
theorem lw_p11 : lw_okq (⟨"PostIndex$QueryReader", "skipSpaces", "()V"⟩, 3) := ⟨⟨by decide +kernel, by decide +kernel⟩, List.mem_of_getElem? (i := 38) (by decide +kernel), List.mem_of_getElem? (i := 358) (by decide +kernel), List.mem_of_getElem? (i := 359) (by decide +kernel)⟩
theorem lw_p12 : lw_okq (⟨"PostIndex$QueryReader", "readOne", "(I)Z"⟩, 3) := ⟨⟨by decide +kernel, by decide +kernel⟩, List.mem_of_getElem? (i := 38) (by decide +kernel), List.mem_of_getElem? (i := 363) (by decide +kernel), List.mem_of_getElem? (i := 364) (by decide +kernel)⟩
theorem lw_p13 : lw_okq (⟨"PostIndex$QueryReader", "readRow", "()Z"⟩, 3) := ⟨⟨by decide +kernel, by decide +kernel⟩, List.mem_of_getElem? (i := 38) (by decide +kernel), List.mem_of_getElem? (i := 367) (by decide +kernel), List.mem_of_getElem? (i := 368) (by decide +kernel)⟩
theorem lw_p14 : lw_okq (⟨"PostIndex$QueryReader", "readWord", "()Z"⟩, 3) := ⟨⟨by decide +kernel, by decide +kernel⟩, List.mem_of_getElem? (i := 38) (by decide +kernel), List.mem_of_getElem? (i := 371) (by decide +kernel), List.mem_of_getElem? (i := 372) (by decide +kernel)⟩
theorem lw_p15 : lw_okq (⟨"PostIndex$QueryReader", "readFilter", "(I)Z"⟩, 3) := ⟨⟨by decide +kernel, by decide +kernel⟩, List.mem_of_getElem? (i := 38) (by decide +kernel), List.mem_of_getElem? (i := 389) (by decide +kernel), List.mem_of_getElem? (i := 390) (by decide +kernel)⟩
def lw_privs_1 : List (MethodName × Nat) := [(⟨"PostIndex", "stands", "(I)Z"⟩, 12), (⟨"PostIndex", "isLive", "(I)Z"⟩, 12), (⟨"PostIndex", "writeUnit", "(I)V"⟩, 12), (⟨"PostIndex$Segment", "findTerm", "(LPostIndex$Text;)I"⟩, 5), (⟨"PostIndex", "segmentToPack", "()I"⟩, 12), (⟨"PostIndex", "isFull", "(I)Z"⟩, 12), (⟨"PostIndex$QueryReader", "readAny", "(I)Z"⟩, 3), (⟨"PostIndex$QueryReader", "readAll", "(I)Z"⟩, 3), (⟨"PostIndex$QueryReader", "readPart", "(I)Z"⟩, 3), (⟨"PostIndex$QueryReader", "take", "(C)Z"⟩, 3), (⟨"PostIndex$QueryReader", "peekPiece", "()C"⟩, 3), (⟨"PostIndex$QueryReader", "skipSpaces", "()V"⟩, 3), (⟨"PostIndex$QueryReader", "readOne", "(I)Z"⟩, 3), (⟨"PostIndex$QueryReader", "readRow", "()Z"⟩, 3), (⟨"PostIndex$QueryReader", "readWord", "()Z"⟩, 3), (⟨"PostIndex$QueryReader", "readFilter", "(I)Z"⟩, 3)]
theorem lw_r1 : ∀ q ∈ lw_privs_1, lw_okq q := List.forall_mem_cons.mpr ⟨lw_p0, List.forall_mem_cons.mpr ⟨lw_p1, List.forall_mem_cons.mpr ⟨lw_p2, List.forall_mem_cons.mpr ⟨lw_p3, List.forall_mem_cons.mpr ⟨lw_p4, List.forall_mem_cons.mpr ⟨lw_p5, List.forall_mem_cons.mpr ⟨lw_p6, List.forall_mem_cons.mpr ⟨lw_p7, List.forall_mem_cons.mpr ⟨lw_p8, List.forall_mem_cons.mpr ⟨lw_p9, List.forall_mem_cons.mpr ⟨lw_p10, List.forall_mem_cons.mpr ⟨lw_p11, List.forall_mem_cons.mpr ⟨lw_p12, List.forall_mem_cons.mpr ⟨lw_p13, List.forall_mem_cons.mpr ⟨lw_p14, List.forall_mem_cons.mpr ⟨lw_p15, fun _ h => absurd h List.not_mem_nil⟩⟩⟩⟩⟩⟩⟩⟩⟩⟩⟩⟩⟩⟩⟩⟩
theorem lw_p16 : lw_okq (⟨"PostIndex$QueryReader", "partFollows", "()Z"⟩, 3) := ⟨⟨by decide +kernel, by decide +kernel⟩, List.mem_of_getElem? (i := 38) (by decide +kernel), List.mem_of_getElem? (i := 395) (by decide +kernel), List.mem_of_getElem? (i := 396) (by decide +kernel)⟩
theorem lw_p17 : lw_okq (⟨"PostIndex", "freePlace", "()I"⟩, 12) := ⟨⟨by decide +kernel, by decide +kernel⟩, List.mem_of_getElem? (i := 13) (by decide +kernel), List.mem_of_getElem? (i := 399) (by decide +kernel), List.mem_of_getElem? (i := 400) (by decide +kernel)⟩
theorem lw_p18 : lw_okq (⟨"PostIndex", "isOpen", "(I)Z"⟩, 12) := ⟨⟨by decide +kernel, by decide +kernel⟩, List.mem_of_getElem? (i := 13) (by decide +kernel), List.mem_of_getElem? (i := 411) (by decide +kernel), List.mem_of_getElem? (i := 412) (by decide +kernel)⟩
theorem lw_p19 : lw_okq (⟨"PostIndex", "isHit", "(LPostIndex$Query;I)Z"⟩, 12) := ⟨⟨by decide +kernel, by decide +kernel⟩, List.mem_of_getElem? (i := 13) (by decide +kernel), List.mem_of_getElem? (i := 415) (by decide +kernel), List.mem_of_getElem? (i := 416) (by decide +kernel)⟩
theorem lw_p20 : lw_okq (⟨"PostIndex$Query", "isTrue", "(ILPostIndex$Post;LPostIndex$Segment;I)Z"⟩, 6) := ⟨⟨by decide +kernel, by decide +kernel⟩, List.mem_of_getElem? (i := 46) (by decide +kernel), List.mem_of_getElem? (i := 423) (by decide +kernel), List.mem_of_getElem? (i := 424) (by decide +kernel)⟩
theorem lw_p21 : lw_okq (⟨"PostIndex$Query", "standInRow", "(IILPostIndex$Segment;I)Z"⟩, 6) := ⟨⟨by decide +kernel, by decide +kernel⟩, List.mem_of_getElem? (i := 46) (by decide +kernel), List.mem_of_getElem? (i := 427) (by decide +kernel), List.mem_of_getElem? (i := 428) (by decide +kernel)⟩
theorem lw_p22 : lw_okq (⟨"PostIndexModel", "shown", "(I)Z"⟩, 31) := ⟨⟨by decide +kernel, by decide +kernel⟩, List.mem_of_getElem? (i := 479) (by decide +kernel), List.mem_of_getElem? (i := 588) (by decide +kernel), List.mem_of_getElem? (i := 589) (by decide +kernel)⟩
theorem lw_p23 : lw_okq (⟨"PostIndexModel", "live", "(I)Z"⟩, 31) := ⟨⟨by decide +kernel, by decide +kernel⟩, List.mem_of_getElem? (i := 479) (by decide +kernel), List.mem_of_getElem? (i := 592) (by decide +kernel), List.mem_of_getElem? (i := 593) (by decide +kernel)⟩
theorem lw_p24 : lw_okq (⟨"PostIndexModel", "begun", "(I)Z"⟩, 31) := ⟨⟨by decide +kernel, by decide +kernel⟩, List.mem_of_getElem? (i := 479) (by decide +kernel), List.mem_of_getElem? (i := 596) (by decide +kernel), List.mem_of_getElem? (i := 597) (by decide +kernel)⟩
theorem lw_p25 : lw_okq (⟨"PostIndexModel", "cut", "(I)V"⟩, 31) := ⟨⟨by decide +kernel, by decide +kernel⟩, List.mem_of_getElem? (i := 479) (by decide +kernel), List.mem_of_getElem? (i := 612) (by decide +kernel), List.mem_of_getElem? (i := 613) (by decide +kernel)⟩
theorem lw_p26 : lw_okq (⟨"PostIndexModel", "full", "(I)Z"⟩, 31) := ⟨⟨by decide +kernel, by decide +kernel⟩, List.mem_of_getElem? (i := 479) (by decide +kernel), List.mem_of_getElem? (i := 638) (by decide +kernel), List.mem_of_getElem? (i := 639) (by decide +kernel)⟩
theorem lw_p27 : lw_okq (⟨"PostIndexModel", "sum", "(II)I"⟩, 31) := ⟨⟨by decide +kernel, by decide +kernel⟩, List.mem_of_getElem? (i := 479) (by decide +kernel), List.mem_of_getElem? (i := 642) (by decide +kernel), List.mem_of_getElem? (i := 643) (by decide +kernel)⟩
theorem lw_p28 : lw_okq (⟨"PostIndexModel", "indexed", "(I)I"⟩, 31) := ⟨⟨by decide +kernel, by decide +kernel⟩, List.mem_of_getElem? (i := 479) (by decide +kernel), List.mem_of_getElem? (i := 646) (by decide +kernel), List.mem_of_getElem? (i := 647) (by decide +kernel)⟩
theorem lw_p29 : lw_okq (⟨"PostIndexModel", "isFirst", "(II)Z"⟩, 31) := ⟨⟨by decide +kernel, by decide +kernel⟩, List.mem_of_getElem? (i := 479) (by decide +kernel), List.mem_of_getElem? (i := 650) (by decide +kernel), List.mem_of_getElem? (i := 651) (by decide +kernel)⟩
theorem lw_p30 : lw_okq (⟨"PostIndexModel", "same", "(II)Z"⟩, 31) := ⟨⟨by decide +kernel, by decide +kernel⟩, List.mem_of_getElem? (i := 479) (by decide +kernel), List.mem_of_getElem? (i := 654) (by decide +kernel), List.mem_of_getElem? (i := 655) (by decide +kernel)⟩
theorem lw_p31 : lw_okq (⟨"PostIndexModel", "measure", "(III)I"⟩, 31) := ⟨⟨by decide +kernel, by decide +kernel⟩, List.mem_of_getElem? (i := 479) (by decide +kernel), List.mem_of_getElem? (i := 661) (by decide +kernel), List.mem_of_getElem? (i := 662) (by decide +kernel)⟩
def lw_privs_2 : List (MethodName × Nat) := [(⟨"PostIndex$QueryReader", "partFollows", "()Z"⟩, 3), (⟨"PostIndex", "freePlace", "()I"⟩, 12), (⟨"PostIndex", "isOpen", "(I)Z"⟩, 12), (⟨"PostIndex", "isHit", "(LPostIndex$Query;I)Z"⟩, 12), (⟨"PostIndex$Query", "isTrue", "(ILPostIndex$Post;LPostIndex$Segment;I)Z"⟩, 6), (⟨"PostIndex$Query", "standInRow", "(IILPostIndex$Segment;I)Z"⟩, 6), (⟨"PostIndexModel", "shown", "(I)Z"⟩, 31), (⟨"PostIndexModel", "live", "(I)Z"⟩, 31), (⟨"PostIndexModel", "begun", "(I)Z"⟩, 31), (⟨"PostIndexModel", "cut", "(I)V"⟩, 31), (⟨"PostIndexModel", "full", "(I)Z"⟩, 31), (⟨"PostIndexModel", "sum", "(II)I"⟩, 31), (⟨"PostIndexModel", "indexed", "(I)I"⟩, 31), (⟨"PostIndexModel", "isFirst", "(II)Z"⟩, 31), (⟨"PostIndexModel", "same", "(II)Z"⟩, 31), (⟨"PostIndexModel", "measure", "(III)I"⟩, 31)]
theorem lw_r2 : ∀ q ∈ lw_privs_2, lw_okq q := List.forall_mem_cons.mpr ⟨lw_p16, List.forall_mem_cons.mpr ⟨lw_p17, List.forall_mem_cons.mpr ⟨lw_p18, List.forall_mem_cons.mpr ⟨lw_p19, List.forall_mem_cons.mpr ⟨lw_p20, List.forall_mem_cons.mpr ⟨lw_p21, List.forall_mem_cons.mpr ⟨lw_p22, List.forall_mem_cons.mpr ⟨lw_p23, List.forall_mem_cons.mpr ⟨lw_p24, List.forall_mem_cons.mpr ⟨lw_p25, List.forall_mem_cons.mpr ⟨lw_p26, List.forall_mem_cons.mpr ⟨lw_p27, List.forall_mem_cons.mpr ⟨lw_p28, List.forall_mem_cons.mpr ⟨lw_p29, List.forall_mem_cons.mpr ⟨lw_p30, List.forall_mem_cons.mpr ⟨lw_p31, fun _ h => absurd h List.not_mem_nil⟩⟩⟩⟩⟩⟩⟩⟩⟩⟩⟩⟩⟩⟩⟩⟩
theorem lw_p32 : lw_okq (⟨"PostIndexModel", "posted", "(III)Z"⟩, 31) := ⟨⟨by decide +kernel, by decide +kernel⟩, List.mem_of_getElem? (i := 479) (by decide +kernel), List.mem_of_getElem? (i := 665) (by decide +kernel), List.mem_of_getElem? (i := 666) (by decide +kernel)⟩
theorem lw_p33 : lw_okq (⟨"PostIndexModel", "copy", "(I)V"⟩, 31) := ⟨⟨by decide +kernel, by decide +kernel⟩, List.mem_of_getElem? (i := 479) (by decide +kernel), List.mem_of_getElem? (i := 673) (by decide +kernel), List.mem_of_getElem? (i := 674) (by decide +kernel)⟩
theorem lw_p34 : lw_okq (⟨"PostIndexModel", "judge", "(II)I"⟩, 31) := ⟨⟨by decide +kernel, by decide +kernel⟩, List.mem_of_getElem? (i := 479) (by decide +kernel), List.mem_of_getElem? (i := 677) (by decide +kernel), List.mem_of_getElem? (i := 678) (by decide +kernel)⟩
theorem lw_p35 : lw_okq (⟨"PostIndexModel", "open", "(I)V"⟩, 31) := ⟨⟨by decide +kernel, by decide +kernel⟩, List.mem_of_getElem? (i := 479) (by decide +kernel), List.mem_of_getElem? (i := 681) (by decide +kernel), List.mem_of_getElem? (i := 682) (by decide +kernel)⟩
theorem lw_p36 : lw_okq (⟨"PostIndexModel", "read", "(I)V"⟩, 31) := ⟨⟨by decide +kernel, by decide +kernel⟩, List.mem_of_getElem? (i := 479) (by decide +kernel), List.mem_of_getElem? (i := 685) (by decide +kernel), List.mem_of_getElem? (i := 686) (by decide +kernel)⟩
theorem lw_p37 : lw_okq (⟨"PostIndexModel", "at", "(II)I"⟩, 31) := ⟨⟨by decide +kernel, by decide +kernel⟩, List.mem_of_getElem? (i := 479) (by decide +kernel), List.mem_of_getElem? (i := 689) (by decide +kernel), List.mem_of_getElem? (i := 690) (by decide +kernel)⟩
theorem lw_p38 : lw_okq (⟨"PostIndexModel", "step", "(II)Z"⟩, 31) := ⟨⟨by decide +kernel, by decide +kernel⟩, List.mem_of_getElem? (i := 479) (by decide +kernel), List.mem_of_getElem? (i := 693) (by decide +kernel), List.mem_of_getElem? (i := 694) (by decide +kernel)⟩
theorem lw_p39 : lw_okq (⟨"PostIndexModel", "keepWord", "()V"⟩, 31) := ⟨⟨by decide +kernel, by decide +kernel⟩, List.mem_of_getElem? (i := 479) (by decide +kernel), List.mem_of_getElem? (i := 697) (by decide +kernel), List.mem_of_getElem? (i := 698) (by decide +kernel)⟩
theorem lw_p40 : lw_okq (⟨"PostIndexModel", "row", "(II)Z"⟩, 31) := ⟨⟨by decide +kernel, by decide +kernel⟩, List.mem_of_getElem? (i := 479) (by decide +kernel), List.mem_of_getElem? (i := 701) (by decide +kernel), List.mem_of_getElem? (i := 702) (by decide +kernel)⟩
theorem lw_p41 : lw_okq (⟨"PostIndexModel", "stands", "(IIIII)Z"⟩, 31) := ⟨⟨by decide +kernel, by decide +kernel⟩, List.mem_of_getElem? (i := 479) (by decide +kernel), List.mem_of_getElem? (i := 705) (by decide +kernel), List.mem_of_getElem? (i := 706) (by decide +kernel)⟩
theorem lw_p42 : lw_okq (⟨"PostIndexModel", "part", "(Z)V"⟩, 31) := ⟨⟨by decide +kernel, by decide +kernel⟩, List.mem_of_getElem? (i := 479) (by decide +kernel), List.mem_of_getElem? (i := 709) (by decide +kernel), List.mem_of_getElem? (i := 710) (by decide +kernel)⟩
theorem lw_p43 : lw_okq (⟨"PostIndexModel", "filter", "(II)Z"⟩, 31) := ⟨⟨by decide +kernel, by decide +kernel⟩, List.mem_of_getElem? (i := 479) (by decide +kernel), List.mem_of_getElem? (i := 713) (by decide +kernel), List.mem_of_getElem? (i := 714) (by decide +kernel)⟩
theorem lw_p44 : lw_okq (⟨"PostIndexModel", "searching", "(I)Z"⟩, 31) := ⟨⟨by decide +kernel, by decide +kernel⟩, List.mem_of_getElem? (i := 479) (by decide +kernel), List.mem_of_getElem? (i := 721) (by decide +kernel), List.mem_of_getElem? (i := 722) (by decide +kernel)⟩
theorem lw_p45 : lw_okq (⟨"PostIndexModel", "lives", "(I)Z"⟩, 31) := ⟨⟨by decide +kernel, by decide +kernel⟩, List.mem_of_getElem? (i := 479) (by decide +kernel), List.mem_of_getElem? (i := 741) (by decide +kernel), List.mem_of_getElem? (i := 742) (by decide +kernel)⟩
def lw_privs_3 : List (MethodName × Nat) := [(⟨"PostIndexModel", "posted", "(III)Z"⟩, 31), (⟨"PostIndexModel", "copy", "(I)V"⟩, 31), (⟨"PostIndexModel", "judge", "(II)I"⟩, 31), (⟨"PostIndexModel", "open", "(I)V"⟩, 31), (⟨"PostIndexModel", "read", "(I)V"⟩, 31), (⟨"PostIndexModel", "at", "(II)I"⟩, 31), (⟨"PostIndexModel", "step", "(II)Z"⟩, 31), (⟨"PostIndexModel", "keepWord", "()V"⟩, 31), (⟨"PostIndexModel", "row", "(II)Z"⟩, 31), (⟨"PostIndexModel", "stands", "(IIIII)Z"⟩, 31), (⟨"PostIndexModel", "part", "(Z)V"⟩, 31), (⟨"PostIndexModel", "filter", "(II)Z"⟩, 31), (⟨"PostIndexModel", "searching", "(I)Z"⟩, 31), (⟨"PostIndexModel", "lives", "(I)Z"⟩, 31)]
theorem lw_r3 : ∀ q ∈ lw_privs_3, lw_okq q := List.forall_mem_cons.mpr ⟨lw_p32, List.forall_mem_cons.mpr ⟨lw_p33, List.forall_mem_cons.mpr ⟨lw_p34, List.forall_mem_cons.mpr ⟨lw_p35, List.forall_mem_cons.mpr ⟨lw_p36, List.forall_mem_cons.mpr ⟨lw_p37, List.forall_mem_cons.mpr ⟨lw_p38, List.forall_mem_cons.mpr ⟨lw_p39, List.forall_mem_cons.mpr ⟨lw_p40, List.forall_mem_cons.mpr ⟨lw_p41, List.forall_mem_cons.mpr ⟨lw_p42, List.forall_mem_cons.mpr ⟨lw_p43, List.forall_mem_cons.mpr ⟨lw_p44, List.forall_mem_cons.mpr ⟨lw_p45, fun _ h => absurd h List.not_mem_nil⟩⟩⟩⟩⟩⟩⟩⟩⟩⟩⟩⟩⟩⟩
def lw_privs : List (MethodName × Nat) := lw_privs_1 ++ (lw_privs_2 ++ (lw_privs_3))
def lw_tbl : List Cond := k2_sels lw_privs ++ tables_1
theorem lw_privs_ok : ∀ q ∈ lw_privs, lw_okq q := by
  show ∀ q ∈ lw_privs_1 ++ (lw_privs_2 ++ (lw_privs_3)), lw_okq q
  exact List.forall_mem_append.mpr ⟨lw_r1, List.forall_mem_append.mpr ⟨lw_r2, lw_r3⟩⟩
end
section
def RP : String := "PostIndex$Post"
def TP : u_T := fun k => match k with
  | 0 => ("PostIndex$Post", "text", "LPostIndex$Text;", true)
  | 1 => ("PostIndex$Post", "author", "I", false)
  | 2 => ("PostIndex$Post", "time", "I", false)
  | _ => ("PostIndex$Post", "erased", "Z", false)
def tyP : Nat → FieldType := fun k => match k with
  | 0 => .object "PostIndex$Text"
  | 1 => .int
  | 2 => .int
  | _ => .boolean
theorem nmP : ∀ a, a < 4 → ∀ b, b < 4 → a ≠ b → (TP a).2.1 ≠ (TP b).2.1 := by decide +kernel
theorem tyP_ok : ∀ k, k < 4 → parseFieldDescriptor (TP k).2.2.1 = some (tyP k) := by decide +kernel
def RQ : String := "PostIndex$Query"
def TQ : u_T := fun k => match k with
  | 0 => ("PostIndex$Query", "kinds", "[I", true)
  | 1 => ("PostIndex$Query", "numbers", "[I", true)
  | 2 => ("PostIndex$Query", "wordEnds", "[I", true)
  | 3 => ("PostIndex$Query", "stepCount", "I", false)
  | 4 => ("PostIndex$Query", "words", "[LPostIndex$Text;", true)
  | _ => ("PostIndex$Query", "wordCount", "I", false)
def tyQ : Nat → FieldType := fun k => match k with
  | 0 => .array .int
  | 1 => .array .int
  | 2 => .array .int
  | 3 => .int
  | 4 => .array (.object "PostIndex$Text")
  | _ => .int
theorem nmQ : ∀ a, a < 6 → ∀ b, b < 6 → a ≠ b → (TQ a).2.1 ≠ (TQ b).2.1 := by decide +kernel
theorem tyQ_ok : ∀ k, k < 6 → parseFieldDescriptor (TQ k).2.2.1 = some (tyQ k) := by decide +kernel
def RR : String := "PostIndex$QueryReader"
def TR : u_T := fun k => match k with
  | 0 => ("PostIndex$QueryReader", "source", "LPostIndex$Text;", true)
  | 1 => ("PostIndex$QueryReader", "query", "LPostIndex$Query;", false)
  | _ => ("PostIndex$QueryReader", "at", "I", false)
def tyR : Nat → FieldType := fun k => match k with
  | 0 => .object "PostIndex$Text"
  | 1 => .object "PostIndex$Query"
  | _ => .int
theorem nmR : ∀ a, a < 3 → ∀ b, b < 3 → a ≠ b → (TR a).2.1 ≠ (TR b).2.1 := by decide +kernel
theorem tyR_ok : ∀ k, k < 3 → parseFieldDescriptor (TR k).2.2.1 = some (tyR k) := by decide +kernel
def RH : String := "PostIndex$Search"
def TH : u_T := fun k => match k with
  | 0 => ("PostIndex$Search", "query", "LPostIndex$Query;", false)
  | 1 => ("PostIndex$Search", "bound", "I", false)
  | _ => ("PostIndex$Search", "open", "Z", false)
def tyH : Nat → FieldType := fun k => match k with
  | 0 => .object "PostIndex$Query"
  | 1 => .int
  | _ => .boolean
theorem nmH : ∀ a, a < 3 → ∀ b, b < 3 → a ≠ b → (TH a).2.1 ≠ (TH b).2.1 := by decide +kernel
theorem tyH_ok : ∀ k, k < 3 → parseFieldDescriptor (TH k).2.2.1 = some (tyH k) := by decide +kernel
def RS : String := "PostIndex$Segment"
def TS : u_T := fun k => match k with
  | 0 => ("PostIndex$Segment", "termTexts", "[LPostIndex$Text;", true)
  | 1 => ("PostIndex$Segment", "termPostings", "[I", true)
  | 2 => ("PostIndex$Segment", "termCount", "I", false)
  | 3 => ("PostIndex$Segment", "rewritten", "I", false)
  | _ => ("PostIndex$Segment", "packed", "Z", false)
def tyS : Nat → FieldType := fun k => match k with
  | 0 => .array (.object "PostIndex$Text")
  | 1 => .array .int
  | 2 => .int
  | 3 => .int
  | _ => .boolean
theorem nmS : ∀ a, a < 5 → ∀ b, b < 5 → a ≠ b → (TS a).2.1 ≠ (TS b).2.1 := by decide +kernel
theorem tyS_ok : ∀ k, k < 5 → parseFieldDescriptor (TS k).2.2.1 = some (tyS k) := by decide +kernel
def RT : String := "PostIndex$Text"
def TT : u_T := fun k => match k with
  | 0 => ("PostIndex$Text", "chars", "[C", true)
  | _ => ("PostIndex$Text", "count", "I", false)
def tyT : Nat → FieldType := fun k => match k with
  | 0 => .array .char
  | _ => .int
theorem nmT : ∀ a, a < 2 → ∀ b, b < 2 → a ≠ b → (TT a).2.1 ≠ (TT b).2.1 := by decide +kernel
theorem tyT_ok : ∀ k, k < 2 → parseFieldDescriptor (TT k).2.2.1 = some (tyT k) := by decide +kernel
def RX : String := "PostIndex"
def TX : u_T := fun k => match k with
  | 0 => ("PostIndex", "draft", "LPostIndex$Text;", true)
  | 1 => ("PostIndex", "posts", "[LPostIndex$Post;", true)
  | 2 => ("PostIndex", "segments", "[LPostIndex$Segment;", true)
  | 3 => ("PostIndex", "searches", "[LPostIndex$Search;", true)
  | 4 => ("PostIndex", "reader", "LPostIndex$QueryReader;", true)
  | 5 => ("PostIndex", "postsMade", "I", false)
  | 6 => ("PostIndex", "postsPublished", "I", false)
  | 7 => ("PostIndex", "segmentsBegun", "I", false)
  | 8 => ("PostIndex", "searchesBegun", "I", false)
  | 9 => ("PostIndex", "token", "LPostIndex$Text;", true)
  | 10 => ("PostIndex", "writerAt", "I", false)
  | _ => ("PostIndex", "writerTokens", "I", false)
def tyX : Nat → FieldType := fun k => match k with
  | 0 => .object "PostIndex$Text"
  | 1 => .array (.object "PostIndex$Post")
  | 2 => .array (.object "PostIndex$Segment")
  | 3 => .array (.object "PostIndex$Search")
  | 4 => .object "PostIndex$QueryReader"
  | 5 => .int
  | 6 => .int
  | 7 => .int
  | 8 => .int
  | 9 => .object "PostIndex$Text"
  | 10 => .int
  | _ => .int
theorem nmX : ∀ a, a < 12 → ∀ b, b < 12 → a ≠ b → (TX a).2.1 ≠ (TX b).2.1 := by decide +kernel
theorem tyX_ok : ∀ k, k < 12 → parseFieldDescriptor (TX k).2.2.1 = some (tyX k) := by decide +kernel
def RM : String := "PostIndexModel"
def TM : u_T := fun k => match k with
  | 0 => ("PostIndexModel", "draftLength", "I", false)
  | 1 => ("PostIndexModel", "draft", "[I", true)
  | 2 => ("PostIndexModel", "made", "I", false)
  | 3 => ("PostIndexModel", "published", "I", false)
  | 4 => ("PostIndexModel", "done", "I", false)
  | 5 => ("PostIndexModel", "author", "[I", true)
  | 6 => ("PostIndexModel", "time", "[I", true)
  | 7 => ("PostIndexModel", "erased", "[Z", true)
  | 8 => ("PostIndexModel", "lengths", "[I", true)
  | 9 => ("PostIndexModel", "text", "[I", true)
  | 10 => ("PostIndexModel", "tokens", "[I", true)
  | 11 => ("PostIndexModel", "from", "[I", true)
  | 12 => ("PostIndexModel", "to", "[I", true)
  | 13 => ("PostIndexModel", "rewritten", "[I", true)
  | 14 => ("PostIndexModel", "packed", "[Z", true)
  | 15 => ("PostIndexModel", "searches", "I", false)
  | 16 => ("PostIndexModel", "taken", "[Z", true)
  | 17 => ("PostIndexModel", "bound", "[I", true)
  | 18 => ("PostIndexModel", "queryLength", "[I", true)
  | 19 => ("PostIndexModel", "query", "[I", true)
  | 20 => ("PostIndexModel", "piece", "I", false)
  | 21 => ("PostIndexModel", "pieceFrom", "I", false)
  | 22 => ("PostIndexModel", "pieceTo", "I", false)
  | 23 => ("PostIndexModel", "depth", "I", false)
  | 24 => ("PostIndexModel", "any", "[Z", true)
  | 25 => ("PostIndexModel", "all", "[Z", true)
  | 26 => ("PostIndexModel", "parts", "[I", true)
  | 27 => ("PostIndexModel", "minus", "[I", true)
  | 28 => ("PostIndexModel", "words", "I", false)
  | 29 => ("PostIndexModel", "wordFrom", "[I", true)
  | _ => ("PostIndexModel", "wordTo", "[I", true)
def tyM : Nat → FieldType := fun k => match k with
  | 0 => .int
  | 1 => .array .int
  | 2 => .int
  | 3 => .int
  | 4 => .int
  | 5 => .array .int
  | 6 => .array .int
  | 7 => .array .boolean
  | 8 => .array .int
  | 9 => .array .int
  | 10 => .array .int
  | 11 => .array .int
  | 12 => .array .int
  | 13 => .array .int
  | 14 => .array .boolean
  | 15 => .int
  | 16 => .array .boolean
  | 17 => .array .int
  | 18 => .array .int
  | 19 => .array .int
  | 20 => .int
  | 21 => .int
  | 22 => .int
  | 23 => .int
  | 24 => .array .boolean
  | 25 => .array .boolean
  | 26 => .array .int
  | 27 => .array .int
  | 28 => .int
  | 29 => .array .int
  | _ => .array .int
theorem nmM : ∀ a, a < 31 → ∀ b, b < 31 → a ≠ b → (TM a).2.1 ≠ (TM b).2.1 := by decide +kernel
theorem tyM_ok : ∀ k, k < 31 → parseFieldDescriptor (TM k).2.2.1 = some (tyM k) := by decide +kernel
abbrev vwCl : List vw_C := [(RP, TP, 4), (RQ, TQ, 6), (RR, TR, 3), (RH, TH, 3), (RS, TS, 5), (RT, TT, 2), (RX, TX, 12), (RM, TM, 31)]
def zTy : List FieldType := [.int, .char, .boolean, .object "PostIndex$Text", .object "PostIndex$Post", .object "PostIndex$Segment", .object "PostIndex$Search"]
def zAll : List Cond := lw_tbl.filter goodWord
theorem zA1 {i : Nat} {w : Cond} (h : tables_1_1[i]? = some w) (g : goodWord w = true) : w ∈ zAll := List.mem_filter.mpr ⟨List.mem_append_right _ (List.mem_append_left _ (List.mem_of_getElem? h)), g⟩
theorem zA2 {i : Nat} {w : Cond} (h : tables_1_2[i]? = some w) (g : goodWord w = true) : w ∈ zAll := List.mem_filter.mpr ⟨List.mem_append_right _ (List.mem_append_right _ (List.mem_append_left _ (List.mem_of_getElem? h))), g⟩
theorem zA3 {i : Nat} {w : Cond} (h : tables_1_3[i]? = some w) (g : goodWord w = true) : w ∈ zAll := List.mem_filter.mpr ⟨List.mem_append_right _ (List.mem_append_right _ (List.mem_append_right _ (List.mem_append_left _ (List.mem_of_getElem? h)))), g⟩
theorem zA4 {i : Nat} {w : Cond} (h : tables_1_4[i]? = some w) (g : goodWord w = true) : w ∈ zAll := List.mem_filter.mpr ⟨List.mem_append_right _ (List.mem_append_right _ (List.mem_append_right _ (List.mem_append_right _ (List.mem_of_getElem? h)))), g⟩
theorem zA0 {i : Nat} {q : MethodName × Nat} (h : lw_privs[i]? = some q) (g : goodWord (Cond.selects q.1.cls q.1 q.1) = true) : Cond.selects q.1.cls q.1 q.1 ∈ zAll := List.mem_filter.mpr ⟨List.mem_append_left _ (List.mem_map.mpr ⟨q, List.mem_of_getElem? h, rfl⟩), g⟩
theorem zA_good : ∀ w ∈ zAll, (w.onTables && w.keeps) = true ∨ ∃ ty, w = .arrayClass ty := fun w h => good_of_word (List.mem_filter.mp h).2
theorem zA_tbl : ∀ w ∈ zAll, w ∈ lw_tbl := fun w h => (List.mem_filter.mp h).1
theorem inP : ∀ w ∈ u_ws RP TP 4, w ∈ zAll := by
  intro w hw
  obtain ⟨k, hk, rfl⟩ := List.mem_map.mp hw
  have hk := List.mem_range.mp hk
  match k, hk with
  | 0, _ => exact (zA1 (i := 101) rfl rfl)
  | 1, _ => exact (zA1 (i := 103) rfl rfl)
  | 2, _ => exact (zA1 (i := 105) rfl rfl)
  | 3, _ => exact (zA1 (i := 107) rfl rfl)
  | k + 4, hk => exact absurd hk (by omega)
theorem inQ : ∀ w ∈ u_ws RQ TQ 6, w ∈ zAll := by
  intro w hw
  obtain ⟨k, hk, rfl⟩ := List.mem_map.mp hw
  have hk := List.mem_range.mp hk
  match k, hk with
  | 0, _ => exact (zA1 (i := 61) rfl rfl)
  | 1, _ => exact (zA1 (i := 63) rfl rfl)
  | 2, _ => exact (zA1 (i := 65) rfl rfl)
  | 3, _ => exact (zA1 (i := 67) rfl rfl)
  | 4, _ => exact (zA1 (i := 69) rfl rfl)
  | 5, _ => exact (zA1 (i := 71) rfl rfl)
  | k + 6, hk => exact absurd hk (by omega)
theorem inR : ∀ w ∈ u_ws RR TR 3, w ∈ zAll := by
  intro w hw
  obtain ⟨k, hk, rfl⟩ := List.mem_map.mp hw
  have hk := List.mem_range.mp hk
  match k, hk with
  | 0, _ => exact (zA1 (i := 78) rfl rfl)
  | 1, _ => exact (zA1 (i := 80) rfl rfl)
  | 2, _ => exact (zA1 (i := 82) rfl rfl)
  | k + 3, hk => exact absurd hk (by omega)
theorem inH : ∀ w ∈ u_ws RH TH 3, w ∈ zAll := by
  intro w hw
  obtain ⟨k, hk, rfl⟩ := List.mem_map.mp hw
  have hk := List.mem_range.mp hk
  match k, hk with
  | 0, _ => exact (zA1 (i := 151) rfl rfl)
  | 1, _ => exact (zA1 (i := 153) rfl rfl)
  | 2, _ => exact (zA1 (i := 155) rfl rfl)
  | k + 3, hk => exact absurd hk (by omega)
theorem inS : ∀ w ∈ u_ws RS TS 5, w ∈ zAll := by
  intro w hw
  obtain ⟨k, hk, rfl⟩ := List.mem_map.mp hw
  have hk := List.mem_range.mp hk
  match k, hk with
  | 0, _ => exact (zA1 (i := 127) rfl rfl)
  | 1, _ => exact (zA1 (i := 129) rfl rfl)
  | 2, _ => exact (zA1 (i := 131) rfl rfl)
  | 3, _ => exact (zA1 (i := 133) rfl rfl)
  | 4, _ => exact (zA1 (i := 135) rfl rfl)
  | k + 5, hk => exact absurd hk (by omega)
theorem inT : ∀ w ∈ u_ws RT TT 2, w ∈ zAll := by
  intro w hw
  obtain ⟨k, hk, rfl⟩ := List.mem_map.mp hw
  have hk := List.mem_range.mp hk
  match k, hk with
  | 0, _ => exact (zA1 (i := 31) rfl rfl)
  | 1, _ => exact (zA1 (i := 33) rfl rfl)
  | k + 2, hk => exact absurd hk (by omega)
theorem inX : ∀ w ∈ u_ws RX TX 12, w ∈ zAll := by
  intro w hw
  obtain ⟨k, hk, rfl⟩ := List.mem_map.mp hw
  have hk := List.mem_range.mp hk
  match k, hk with
  | 0, _ => exact (zA1 (i := 170) rfl rfl)
  | 1, _ => exact (zA1 (i := 172) rfl rfl)
  | 2, _ => exact (zA1 (i := 174) rfl rfl)
  | 3, _ => exact (zA1 (i := 176) rfl rfl)
  | 4, _ => exact (zA1 (i := 178) rfl rfl)
  | 5, _ => exact (zA1 (i := 180) rfl rfl)
  | 6, _ => exact (zA1 (i := 182) rfl rfl)
  | 7, _ => exact (zA1 (i := 184) rfl rfl)
  | 8, _ => exact (zA1 (i := 186) rfl rfl)
  | 9, _ => exact (zA1 (i := 188) rfl rfl)
  | 10, _ => exact (zA1 (i := 190) rfl rfl)
  | 11, _ => exact (zA1 (i := 192) rfl rfl)
  | k + 12, hk => exact absurd hk (by omega)
theorem inM : ∀ w ∈ u_ws RM TM 31, w ∈ zAll := by
  intro w hw
  obtain ⟨k, hk, rfl⟩ := List.mem_map.mp hw
  have hk := List.mem_range.mp hk
  match k, hk with
  | 0, _ => exact (zA3 (i := 35) rfl rfl)
  | 1, _ => exact (zA3 (i := 37) rfl rfl)
  | 2, _ => exact (zA3 (i := 39) rfl rfl)
  | 3, _ => exact (zA3 (i := 41) rfl rfl)
  | 4, _ => exact (zA3 (i := 43) rfl rfl)
  | 5, _ => exact (zA3 (i := 45) rfl rfl)
  | 6, _ => exact (zA3 (i := 47) rfl rfl)
  | 7, _ => exact (zA3 (i := 49) rfl rfl)
  | 8, _ => exact (zA3 (i := 51) rfl rfl)
  | 9, _ => exact (zA3 (i := 53) rfl rfl)
  | 10, _ => exact (zA3 (i := 55) rfl rfl)
  | 11, _ => exact (zA3 (i := 57) rfl rfl)
  | 12, _ => exact (zA3 (i := 59) rfl rfl)
  | 13, _ => exact (zA3 (i := 61) rfl rfl)
  | 14, _ => exact (zA3 (i := 63) rfl rfl)
  | 15, _ => exact (zA3 (i := 65) rfl rfl)
  | 16, _ => exact (zA3 (i := 67) rfl rfl)
  | 17, _ => exact (zA3 (i := 69) rfl rfl)
  | 18, _ => exact (zA3 (i := 71) rfl rfl)
  | 19, _ => exact (zA3 (i := 73) rfl rfl)
  | 20, _ => exact (zA3 (i := 75) rfl rfl)
  | 21, _ => exact (zA3 (i := 77) rfl rfl)
  | 22, _ => exact (zA3 (i := 79) rfl rfl)
  | 23, _ => exact (zA3 (i := 81) rfl rfl)
  | 24, _ => exact (zA3 (i := 83) rfl rfl)
  | 25, _ => exact (zA3 (i := 85) rfl rfl)
  | 26, _ => exact (zA3 (i := 87) rfl rfl)
  | 27, _ => exact (zA3 (i := 89) rfl rfl)
  | 28, _ => exact (zA3 (i := 91) rfl rfl)
  | 29, _ => exact (zA3 (i := 93) rfl rfl)
  | 30, _ => exact (zA3 (i := 95) rfl rfl)
  | k + 31, hk => exact absurd hk (by omega)
def zNf : List (String × Nat × String × String × String × String) := [("PostIndex$Segment", 30, "PostIndex$Text", "count", "I", "PostIndex"), ("PostIndex", 65, "PostIndex$Text", "count", "I", "PostIndex"), ("PostIndex$QueryReader", 92, "PostIndex$Text", "count", "I", "PostIndex"), ("PostIndex$QueryReader", 75, "PostIndex$Query", "wordCount", "I", "PostIndex"), ("PostIndex", 55, "PostIndex$Post", "text", "LPostIndex$Text;", "PostIndex"), ("PostIndex$Query", 47, "PostIndex$Post", "author", "I", "PostIndex"), ("PostIndex$Query", 52, "PostIndex$Post", "time", "I", "PostIndex"), ("PostIndex", 87, "PostIndex$Post", "erased", "Z", "PostIndex"), ("PostIndex", 147, "PostIndex$Segment", "termCount", "I", "PostIndex"), ("PostIndex", 141, "PostIndex$Segment", "rewritten", "I", "PostIndex"), ("PostIndex", 138, "PostIndex$Segment", "packed", "Z", "PostIndex"), ("PostIndex", 108, "PostIndex$Search", "query", "LPostIndex$Query;", "PostIndex"), ("PostIndex", 116, "PostIndex$Search", "bound", "I", "PostIndex"), ("PostIndex", 119, "PostIndex$Search", "open", "Z", "PostIndex")]
def zAo : List String := ["PostIndex$Text", "PostIndex$Post", "PostIndex$Segment", "PostIndex$Search"]
theorem zAo_in : ∀ C ∈ zAo, Cond.arrayOver (.object C) ∈ lw_tbl := by
  intro C hC
  refine List.mem_append_right _ ?_
  simp only [zAo, List.mem_cons, List.not_mem_nil, or_false] at hC
  rcases hC with rfl | rfl | rfl | rfl
  · exact List.mem_append_left _ (List.mem_of_getElem? (i := 52) rfl)
  · exact List.mem_append_left _ (List.mem_of_getElem? (i := 86) rfl)
  · exact List.mem_append_left _ (List.mem_of_getElem? (i := 111) rfl)
  · exact List.mem_append_left _ (List.mem_of_getElem? (i := 139) rfl)
theorem zNf_in : ∀ q ∈ zNf, Cond.fieldLinkNest q.1 q.2.1 q.2.2.1 q.2.2.2.1 q.2.2.2.2.1 q.2.2.2.2.2 ∈ lw_tbl := by
  intro q hq
  refine List.mem_append_right _ ?_
  simp only [zNf, List.mem_cons, List.not_mem_nil, or_false] at hq
  rcases hq with rfl | rfl | rfl | rfl | rfl | rfl | rfl | rfl | rfl | rfl | rfl | rfl | rfl | rfl
  · exact List.mem_append_left _ (List.mem_of_getElem? (i := 28) rfl)
  · exact List.mem_append_left _ (List.mem_of_getElem? (i := 29) rfl)
  · exact List.mem_append_left _ (List.mem_of_getElem? (i := 30) rfl)
  · exact List.mem_append_left _ (List.mem_of_getElem? (i := 60) rfl)
  · exact List.mem_append_left _ (List.mem_of_getElem? (i := 95) rfl)
  · exact List.mem_append_left _ (List.mem_of_getElem? (i := 97) rfl)
  · exact List.mem_append_left _ (List.mem_of_getElem? (i := 99) rfl)
  · exact List.mem_append_left _ (List.mem_of_getElem? (i := 100) rfl)
  · exact List.mem_append_left _ (List.mem_of_getElem? (i := 122) rfl)
  · exact List.mem_append_left _ (List.mem_of_getElem? (i := 124) rfl)
  · exact List.mem_append_left _ (List.mem_of_getElem? (i := 126) rfl)
  · exact List.mem_append_left _ (List.mem_of_getElem? (i := 148) rfl)
  · exact List.mem_append_left _ (List.mem_of_getElem? (i := 149) rfl)
  · exact List.mem_append_left _ (List.mem_of_getElem? (i := 150) rfl)
end
section
section ZDefs
/-- fixed things of a launch: the launch, b1 (the cell below the first that is ours), the script's cell, its length, its ints, the classes' numbers and slots, the array classes -/
abbrev zG : Type := Launch × Nat × Nat × Nat × (Nat → Int32) × va_G × (Nat → ClassId)
/-- the machine at a method: program, environment, room, start, method, arguments, frames below, the method, its code, the end -/
abbrev zK : Type := Program × Env × Room × State × MethodId × Array Value × List Frame × Method × Code × (State → Prop)
/-- a method's texts: bytes, locals, name, type of its answer, depth, cells, slots -/
abbrev zF : Type := ByteArray × Nat × MethodName × Option FieldType × Nat × Nat × Nat
abbrev zSh : Type := Nat → Option (Nat × Nat × Nat)
abbrev zRw : Type := Nat → Nat → Value
abbrev zgl (G : zG) : Launch := G.1
abbrev zb1 (G : zG) : Nat := G.2.1
abbrev zbS (G : zG) : Nat := G.2.2.1
abbrev zgL (G : zG) : Nat := G.2.2.2.1
abbrev zxs (G : zG) : Nat → Int32 := G.2.2.2.2.1
abbrev zgD (G : zG) : va_G := G.2.2.2.2.2.1
abbrev zcA (G : zG) : Nat → ClassId := G.2.2.2.2.2.2
abbrev zp (K : zK) : Program := K.1
abbrev ze (K : zK) : Env := K.2.1
abbrev zRm (K : zK) : Room := K.2.2.1
abbrev zs (K : zK) : State := K.2.2.2.1
abbrev zm (K : zK) : MethodId := K.2.2.2.2.1
abbrev zar (K : zK) : Array Value := K.2.2.2.2.2.1
abbrev zbe (K : zK) : List Frame := K.2.2.2.2.2.2.1
abbrev zme (K : zK) : Method := K.2.2.2.2.2.2.2.1
abbrev zc (K : zK) : Code := K.2.2.2.2.2.2.2.2.1
abbrev zQm (K : zK) : State → Prop := K.2.2.2.2.2.2.2.2.2
abbrev zcc (F : zF) : ByteArray := F.1
abbrev znL (F : zF) : Nat := F.2.1
abbrev zy (F : zF) : MethodName := F.2.2.1
abbrev zrt (F : zF) : Option FieldType := F.2.2.2.1
abbrev zow (F : zF) : String := (zy F).cls
abbrev zTs (F : zF) : List Cond := Cond.code (zy F) (zcc F) (znL F) (zrt F) :: zAll
abbrev zd (F : zF) : Nat := F.2.2.2.2.1
abbrev zmc (F : zF) : Nat := F.2.2.2.2.2.1
abbrev zms (F : zF) : Nat := F.2.2.2.2.2.2
def zad (G : zG) (i : Nat) : Nat := if i = 0 then zbS G else zb1 G + i
def zv (G : zG) (v : Value) : Value := match v with
  | .ref i => .ref (zad G i)
  | w => w
def zi (v : Value) : Int32 := match v with
  | .int x => x
  | _ => 0
def zq (G : zG) (v : Value) : Option Nat := match v with
  | .ref i => some (zad G i)
  | _ => none
/-- a cell: tag 0 an object (class, fields), tag 1 an array of ints, chars .., else an array of references -/
def zE (G : zG) (s : Nat × Nat × Nat) (r : Nat → Value) : va_E := match s.1 with
  | 0 => .inr (s.2.1, (List.range s.2.2).map (fun k => zv G (r k)))
  | 1 => .inl (zcA G s.2.1, s.2.2, .inl (fun k => zi (r k)))
  | _ => .inl (zcA G s.2.1, s.2.2, .inr (.inr (.inr (.inr (fun k => zq G (r k))))))
def zW (G : zG) (n : Nat) (sh : zSh) (row : zRw) : va_W := (List.range n).map (fun i => (zb1 G + 1 + i, zE G ((sh (i + 1)).getD (0, 0, 0)) (row (i + 1))))
def zup (row : zRw) (a k : Nat) (v : Value) : zRw := fun b j => if b = a ∧ j = k then v else row b j
def zT (G : zG) : List (ClassId × FieldType) := (List.range zTy.length).map (fun t => (zcA G t, zTy.getD t .int))
/-- the words of private members of nest mates: they are carried beside the methods' words -/
def zNs (U : State) : Prop := (∀ q ∈ zNf, va_Nw (.fieldLinkNest q.1 q.2.1 q.2.2.1 q.2.2.2.1 q.2.2.2.2.1 q.2.2.2.2.2) U) ∧ ∀ C ∈ zAo, va_AO C U
theorem zNs.warm {s U : State} (hW : s.WarmedH U.vm) (h : zNs s) : zNs U := ⟨fun q hq => va_Nw.warmF hW (h.1 q hq), fun C hC => va_AO.moved hW.alike (h.2 C hC)⟩
theorem zNs.same {s U : State} (e : s.vm = U.vm) (h : zNs s) : zNs U := ⟨fun q hq => va_Nw.same rfl e (h.1 q hq), fun C hC => va_AO.moved (by rw [e]; exact Vm.Alike.refl _) (h.2 C hC)⟩
abbrev zA (G : zG) : Nat → Prop := fun q => zb1 G + 1 ≤ q
def zIn (n : Nat) (sh : zSh) : Prop := ∀ a, (sh a).isSome = true → 1 ≤ a ∧ a ≤ n
/-- the heap is the picture -/
def zR (G : zG) (n : Nat) (sh : zSh) (row : zRw) (H0 H : Heap) (locs : List Loc) : Prop := zIn n sh ∧ va_P (zgD G) vwCl (zW G n sh row) H ∧ va_S (zA G) H0 H locs
/-- the locals: '.retAddr' stands for one that is not known -/
def zL (G : zG) (lsA : Array Slot) (nL : Nat) (ls : List Value) : Prop := lsA.size = nL ∧ lv_wf lsA ∧ ls.length = nL ∧ ∀ (i : Nat) (v : Value), ls[i]? = some v → (∀ r, v ≠ .retAddr r) → lsA[i]? = some (.val (zv G v))
/-- what is known at a method's body -/
def zOk (G : zG) (K : zK) (F : zF) (n0 : Nat) : Prop := (zp K).tables.exec = Jvm.exec ∧ (zc K).code = zcc F ∧ (zc K).maxLocals = znL F ∧ (zs K).vm.findClass (zow F) = some (zm K).cls ∧ (∀ w ∈ zAll, w.before (zar K) (zs K) = true) ∧ va_K (zgD G) vwCl (zT G) (zs K) ∧ va_X (zbS G) (zgL G) (zxs G) (zs K) (zs K).heap ∧ zbS G < zb1 G + 1 ∧ (zs K).heap.size = zb1 G + 1 + n0 ∧ (zme K).locks = false ∧ zd F ≤ (zRm K).frames ∧ 40 * zd F ≤ (zRm K).locals ∧ zmc F ≤ (zRm K).cells ∧ zms F ≤ (zRm K).slots ∧ zNs (zs K)
/-- the judgement: from here the machine comes to its end -/
def zX (G : zG) (K : zK) (F : zF) (n0 ce sl : Nat) (sh : zSh) (row : zRw) (pc : Nat) (ls st : List Value) : Prop :=
  zOk G K F n0 → ∀ (H : Heap) (locs : List Loc) (lsA : Array Slot), zR G (n0 + ce) sh row (zs K).heap H locs → zL G lsA (znL F) ls →
    W (zp K) (zgl G) (ze K) (zRm K) (zs K) (zm K) (zar K) (zbe K) (zme K) (zc K) H locs ce sl (zQm K) (F0 (zm K) pc lsA (st.map (zv G)))
/-- a method's world, its end, its contract -/
def zI (G : zG) (n : Nat) (sh : zSh) (row : zRw) (U : State) : Prop := U.heap.size = zb1 G + 1 + n ∧ zIn n sh ∧ va_P (zgD G) vwCl (zW G n sh row) U.heap ∧ va_K (zgD G) vwCl (zT G) U ∧ va_X (zbS G) (zgL G) (zxs G) U U.heap ∧ zbS G < zb1 G + 1 ∧ zNs U
def zQ (G : zG) (n : Nat) (Q : Option Value → zSh → zRw → Prop) : Array Value → State → Outcome → State → Prop := fun _ st o t => (∃ (r : Option Value) (sh : zSh) (row : zRw), o = .returned (r.map (zv G)) ∧ Q r sh row ∧ zIn n sh ∧ va_P (zgD G) vwCl (zW G n sh row) t.heap) ∧ va_F (zA G) st t
abbrev zrm (F : zF) : Room := { frames := zd F, cells := zmc F, slots := zms F, locals := 40 * zd F }
def zM (G : zG) (F : zF) (av : List Value) (n : Nat) (sh : zSh) (row : zRw) (Q : Option Value → zSh → zRw → Prop) : Prop := Met (zgl G) (zy F) (zTs F) (zrm F) (va_Pc (av.map (zv G)) (zI G n sh row)) (zQ G (n + zmc F) Q) (zmc F) (zms F) (zA G)
/-- the end of a method that makes nothing -/
abbrev zN (sh : zSh) (q : Option Value → zRw → Prop) : Option Value → zSh → zRw → Prop := fun r sh' row' => sh' = sh ∧ q r row'
def zEnd (G : zG) (K : zK) (F : zF) (n0 : Nat) (Q : Option Value → zSh → zRw → Prop) : Prop := zQm K = MQ (zbe K) (zQ G (n0 + zmc F) Q) (zar K) (zs K) (zmc F) (zms F) (zA G) ∧ (zme K).sig.returnType = zrt F ∧ (zme K).name = (zy F).name
end ZDefs
section ZBase
variable {G : zG} {n : Nat} {sh : zSh} {row : zRw}
theorem zad_pos {a : Nat} (h : 1 ≤ a) : zad G a = zb1 G + a := by
  unfold zad; rw [if_neg (by omega)]
theorem zW_get {a : Nat} {s : Nat × Nat × Nat} (hI : zIn n sh) (hs : sh a = some s) : (zW G n sh row)[a - 1]? = some (zad G a, zE G s (row a)) := by
  obtain ⟨h1, h2⟩ := hI a (by rw [hs]; rfl)
  unfold zW
  rw [List.getElem?_map, List.getElem?_range (by omega)]
  simp only [Option.map_some]
  rw [show a - 1 + 1 = a by omega, hs, zad_pos h1, show zb1 G + 1 + (a - 1) = zb1 G + a by omega]
  rfl
theorem zW_D : va_D (zA G) (zW G n sh row) := by
  have key : ∀ (k : Nat) (q : Nat × va_E), (zW G n sh row)[k]? = some q → q.1 = zb1 G + 1 + k := by
    intro k q hq
    unfold zW at hq
    rw [List.getElem?_map] at hq
    by_cases hk : k < n
    · rw [List.getElem?_range hk] at hq
      cases hq
      rfl
    · rw [List.getElem?_eq_none (by simpa using Nat.le_of_not_lt hk)] at hq
      cases hq
  refine ⟨fun i j p q hi hj he => ?_, fun k q hk => ?_⟩
  · have h1 := key i p hi
    have h2 := key j q hj
    omega
  · have h1 := key k q hk
    show zb1 G + 1 ≤ q.1
    omega
theorem zW_set {a : Nat} {s : Nat × Nat × Nat} {r : Nat → Value} {row' : zRw} (hI : zIn n sh) (hs : sh a = some s) (hr : row' a = r) (ho : ∀ b, b ≠ a → row' b = row b) : (zW G n sh row).set (a - 1) (zad G a, zE G s r) = zW G n sh row' := by
  obtain ⟨h1, h2⟩ := hI a (by rw [hs]; rfl)
  unfold zW
  apply List.ext_getElem?
  intro k
  rw [List.getElem?_set]
  by_cases hk : a - 1 = k
  · subst hk
    rw [if_pos rfl, if_pos (by simpa using (by omega : a - 1 < n)), List.getElem?_map, List.getElem?_range (by omega)]
    simp only [Option.map_some]
    rw [show a - 1 + 1 = a by omega, hs, zad_pos h1, show zb1 G + 1 + (a - 1) = zb1 G + a by omega, hr]
    rfl
  · rw [if_neg hk, List.getElem?_map, List.getElem?_map]
    by_cases hn : k < n
    · rw [List.getElem?_range hn]
      simp only [Option.map_some]
      rw [ho (k + 1) (by omega)]
    · rw [List.getElem?_eq_none (by simpa using Nat.le_of_not_lt hn)]
      rfl
theorem zup_row (a k : Nat) (v : Value) : (zup row a k v) a = fun j => if j = k then v else row a j := by
  funext j
  unfold zup
  by_cases h : j = k
  · rw [if_pos ⟨rfl, h⟩, if_pos h]
  · rw [if_neg (fun q => h q.2), if_neg h]
theorem zup_ne {a k b : Nat} {v : Value} (h : b ≠ a) : (zup row a k v) b = row b := by
  funext j
  unfold zup
  rw [if_neg (fun q => h q.1)]
theorem zup_same (a k : Nat) (v : Value) : zup row a k v a k = v := by
  unfold zup; rw [if_pos ⟨rfl, rfl⟩]
theorem zup_k {a k b j : Nat} {v : Value} (h : b ≠ a ∨ j ≠ k) : zup row a k v b j = row b j := by
  unfold zup
  rw [if_neg]
  rintro ⟨rfl, rfl⟩
  rcases h with h | h <;> exact h rfl
theorem zT_get {t : Nat} {ty : FieldType} (h : zTy[t]? = some ty) : (zT G)[t]? = some (zcA G t, ty) := by
  have hl : t < zTy.length := (List.getElem?_eq_some_iff.mp h).1
  unfold zT
  rw [List.getElem?_map, List.getElem?_range hl]
  simp only [Option.map_some]
  rw [List.getD_eq_getElem?_getD, h]
  rfl
theorem zfs_get {N k : Nat} {r : Nat → Value} (hk : k < N) : ((List.range N).map (fun k => zv G (r k)))[k]? = some (zv G (r k)) := by
  rw [List.getElem?_map, List.getElem?_range hk]
  rfl
theorem zfs_set {N k : Nat} {r : Nat → Value} {v : Value} (hk : k < N) : ((List.range N).map (fun k => zv G (r k))).set k (zv G v) = (List.range N).map (fun j => zv G (if j = k then v else r j)) := by
  apply List.ext_getElem?
  intro j
  rw [List.getElem?_set]
  by_cases h : k = j
  · subst h
    rw [if_pos rfl, if_pos (by simpa using hk), List.getElem?_map, List.getElem?_range hk]
    simp
  · rw [if_neg h, List.getElem?_map, List.getElem?_map]
    by_cases hn : j < N
    · rw [List.getElem?_range hn]
      simp only [Option.map_some]
      rw [if_neg (fun q => h q.symm)]
    · rw [List.getElem?_eq_none (by simpa using Nat.le_of_not_lt hn)]
      rfl
theorem zS_A {K : zK} {F : zF} {n0 : Nat} (hF : zOk G K F n0) : ∀ q, (zs K).heap.size ≤ q → zA G q := fun q h => by
  have h1 := hF.2.2.2.2.2.2.2.2.1
  show zb1 G + 1 ≤ q
  omega
theorem zL_at {lsA : Array Slot} {nL : Nat} {ls : List Value} (h : zL G lsA nL ls) {i : Nat} {v : Value} (hi : ls[i]? = some v) (hv : ∀ r, v ≠ .retAddr r) : lsA[i]? = some (.val (zv G v)) := h.2.2.2 i v hi hv
theorem zL_lv {lsA : Array Slot} {nL : Nat} {ls : List Value} (h : zL G lsA nL ls) : lv_has lsA nL [] := ⟨h.1, h.2.1, fun q hq => by cases hq⟩
theorem zv_cat (v : Value) : (zv G v).category = v.category := by cases v <;> rfl
/-- storing into a local -/
theorem zL_store {lsA : Array Slot} {nL i : Nat} {ls : List Value} {v : Value} (h : zL G lsA nL ls) (hi : i < nL) (hc : v.category = 1) (hls : ∀ w ∈ ls, w.category = 1) : ∃ l', storeLocals lsA i (zv G v) = some l' ∧ zL G l' nL (ls.set i v) := by
  let lv : List (Nat × Value) := (List.range nL).filterMap (fun j => match (ls[j]? : Option Value) with
    | some (Value.retAddr _) => none
    | some w => some (j, zv G w)
    | none => none)
  have hlv : lv_has lsA nL lv := by
    refine ⟨h.1, h.2.1, fun q hq => ?_⟩
    obtain ⟨j, -, hj⟩ := List.mem_filterMap.mp hq
    cases hw : ls[j]? with
    | none => rw [hw] at hj; cases hj
    | some w =>
      rw [hw] at hj
      cases w <;> first | (cases hj; done) | (cases hj; exact h.2.2.2 j _ hw (fun r => by intro q; cases q))
  obtain ⟨l', e1, h1, h2, h3⟩ := lv_store1 (v := zv G v) hlv hi (by rw [zv_cat]; exact hc)
  refine ⟨l', e1, h1, h2, by rw [List.length_set]; exact h.2.2.1, fun j w hj hw => ?_⟩
  by_cases hji : i = j
  · subst hji
    rw [List.getElem?_set_self (by rw [h.2.2.1]; exact hi)] at hj
    cases hj
    exact h3 _ List.mem_cons_self
  · rw [List.getElem?_set_ne hji] at hj
    have hjn : j < nL := by
      have := (List.getElem?_eq_some_iff.mp hj).1
      rw [h.2.2.1] at this
      exact this
    refine h3 (j, zv G w) (List.mem_cons_of_mem _ (List.mem_filter.mpr ⟨List.mem_filterMap.mpr ⟨j, List.mem_range.mpr hjn, ?_⟩, ?_⟩))
    · rw [hj]
      cases w <;> first | rfl | (exfalso; exact hw _ rfl)
    · have hc1 : w.category = 1 := hls w (List.mem_of_getElem? hj)
      simp only [Bool.and_eq_true, Bool.not_eq_true', beq_eq_false_iff_ne, ne_eq, Bool.and_eq_false_iff]
      refine ⟨fun q => hji q.symm, Or.inr ?_⟩
      rw [zv_cat, hc1]
      decide
end ZBase
section ZRows
variable {G : zG} {K : zK} {F : zF} {n0 ce sl : Nat} {sh : zSh} {row : zRw} {pc : Nat} {ls st : List Value}
theorem zx_iconst {i : Int} {v : Int32} (hd : decode (zcc F) pc = .ok (.iconst i, 1)) (hv : Int32.ofInt i = v) (k : zX G K F n0 ce sl sh row (pc + 1) ls (.int v :: st)) : zX G K F n0 ce sl sh row pc ls (st) :=
  fun hF H locs lsA hR hL => lv_iconst hF.1 hF.2.1 hd hv (k hF H locs lsA hR hL)
theorem zx_bipush {i : Int} {v : Int32} (hd : decode (zcc F) pc = .ok (.bipush i, 2)) (hv : (Int8.ofInt i).toInt32 = v) (k : zX G K F n0 ce sl sh row (pc + 2) ls (.int v :: st)) : zX G K F n0 ce sl sh row pc ls (st) :=
  fun hF H locs lsA hR hL => lv_bipush hF.1 hF.2.1 hd hv (k hF H locs lsA hR hL)
theorem zx_sipush {i : Int} {v : Int32} (hd : decode (zcc F) pc = .ok (.sipush i, 3)) (hv : (Int16.ofInt i).toInt32 = v) (k : zX G K F n0 ce sl sh row (pc + 3) ls (.int v :: st)) : zX G K F n0 ce sl sh row pc ls (st) :=
  fun hF H locs lsA hR hL => lv_sipush hF.1 hF.2.1 hd hv (k hF H locs lsA hR hL)
theorem zx_iadd {x y : Int32} (hd : decode (zcc F) pc = .ok (.iadd, 1)) (k : zX G K F n0 ce sl sh row (pc + 1) ls (.int (x + y) :: st)) : zX G K F n0 ce sl sh row pc ls (.int y :: .int x :: st) :=
  fun hF H locs lsA hR hL => lv_iadd hF.1 hF.2.1 hd (k hF H locs lsA hR hL)
theorem zx_isub {x y : Int32} (hd : decode (zcc F) pc = .ok (.isub, 1)) (k : zX G K F n0 ce sl sh row (pc + 1) ls (.int (x - y) :: st)) : zX G K F n0 ce sl sh row pc ls (.int y :: .int x :: st) :=
  fun hF H locs lsA hR hL => lv_isub hF.1 hF.2.1 hd (k hF H locs lsA hR hL)
theorem zx_imul {x y : Int32} (hd : decode (zcc F) pc = .ok (.imul, 1)) (k : zX G K F n0 ce sl sh row (pc + 1) ls (.int (x * y) :: st)) : zX G K F n0 ce sl sh row pc ls (.int y :: .int x :: st) :=
  fun hF H locs lsA hR hL => lv_imul hF.1 hF.2.1 hd (k hF H locs lsA hR hL)
theorem zx_iand {x y : Int32} (hd : decode (zcc F) pc = .ok (.iand, 1)) (k : zX G K F n0 ce sl sh row (pc + 1) ls (.int (x &&& y) :: st)) : zX G K F n0 ce sl sh row pc ls (.int y :: .int x :: st) :=
  fun hF H locs lsA hR hL => lv_iand hF.1 hF.2.1 hd (k hF H locs lsA hR hL)
theorem zx_ior {x y : Int32} (hd : decode (zcc F) pc = .ok (.ior, 1)) (k : zX G K F n0 ce sl sh row (pc + 1) ls (.int (x ||| y) :: st)) : zX G K F n0 ce sl sh row pc ls (.int y :: .int x :: st) :=
  fun hF H locs lsA hR hL => lv_ior hF.1 hF.2.1 hd (k hF H locs lsA hR hL)
theorem zx_ixor {x y : Int32} (hd : decode (zcc F) pc = .ok (.ixor, 1)) (k : zX G K F n0 ce sl sh row (pc + 1) ls (.int (x ^^^ y) :: st)) : zX G K F n0 ce sl sh row pc ls (.int y :: .int x :: st) :=
  fun hF H locs lsA hR hL => lv_ixor hF.1 hF.2.1 hd (k hF H locs lsA hR hL)
theorem zx_ishl {x y : Int32} (hd : decode (zcc F) pc = .ok (.ishl, 1)) (k : zX G K F n0 ce sl sh row (pc + 1) ls (.int (x <<< (y &&& 31)) :: st)) : zX G K F n0 ce sl sh row pc ls (.int y :: .int x :: st) :=
  fun hF H locs lsA hR hL => lv_ishl hF.1 hF.2.1 hd (k hF H locs lsA hR hL)
theorem zx_ishr {x y : Int32} (hd : decode (zcc F) pc = .ok (.ishr, 1)) (k : zX G K F n0 ce sl sh row (pc + 1) ls (.int (x >>> (y &&& 31)) :: st)) : zX G K F n0 ce sl sh row pc ls (.int y :: .int x :: st) :=
  fun hF H locs lsA hR hL => lv_ishr hF.1 hF.2.1 hd (k hF H locs lsA hR hL)
theorem zx_idiv {x y : Int32} (hd : decode (zcc F) pc = .ok (.idiv, 1)) (hne : ¬ y = 0) (k : zX G K F n0 ce sl sh row (pc + 1) ls (.int (x / y) :: st)) : zX G K F n0 ce sl sh row pc ls (.int y :: .int x :: st) :=
  fun hF H locs lsA hR hL => lv_idiv hF.1 hF.2.1 hd hne (k hF H locs lsA hR hL)
theorem zx_irem {x y : Int32} (hd : decode (zcc F) pc = .ok (.irem, 1)) (hne : ¬ y = 0) (k : zX G K F n0 ce sl sh row (pc + 1) ls (.int (x - x / y * y) :: st)) : zX G K F n0 ce sl sh row pc ls (.int y :: .int x :: st) :=
  fun hF H locs lsA hR hL => lv_irem hF.1 hF.2.1 hd hne (k hF H locs lsA hR hL)
theorem zx_iushr {x y v : Int32} (hd : decode (zcc F) pc = .ok (.iushr, 1)) (hv : (x.toUInt32 >>> (y.toUInt32 &&& Int32.toUInt32 31)).toInt32 = v) (k : zX G K F n0 ce sl sh row (pc + 1) ls (.int v :: st)) : zX G K F n0 ce sl sh row pc ls (.int y :: .int x :: st) :=
  fun hF H locs lsA hR hL => lv_iushr hF.1 hF.2.1 hd hv (k hF H locs lsA hR hL)
theorem zx_ineg {x : Int32} (hd : decode (zcc F) pc = .ok (.ineg, 1)) (k : zX G K F n0 ce sl sh row (pc + 1) ls (.int (-x) :: st)) : zX G K F n0 ce sl sh row pc ls (.int x :: st) :=
  fun hF H locs lsA hR hL => lv_ineg hF.1 hF.2.1 hd (k hF H locs lsA hR hL)
theorem zx_i2c {x v : Int32} (hd : decode (zcc F) pc = .ok (.i2c, 1)) (hv : (x.toUInt32 % 65536).toInt32 = v) (k : zX G K F n0 ce sl sh row (pc + 1) ls (.int v :: st)) : zX G K F n0 ce sl sh row pc ls (.int x :: st) :=
  fun hF H locs lsA hR hL => lv_i2c hF.1 hF.2.1 hd hv (k hF H locs lsA hR hL)
theorem zx_null (hd : decode (zcc F) pc = .ok (.aconst_null, 1)) (k : zX G K F n0 ce sl sh row (pc + 1) ls (.null :: st)) : zX G K F n0 ce sl sh row pc ls (st) :=
  fun hF H locs lsA hR hL => lv_null hF.1 hF.2.1 hd (k hF H locs lsA hR hL)
theorem zx_dup {v : Value} (hd : decode (zcc F) pc = .ok (.dup, 1)) (hv : v.category = 1) (k : zX G K F n0 ce sl sh row (pc + 1) ls (v :: v :: st)) : zX G K F n0 ce sl sh row pc ls (v :: st) :=
  fun hF H locs lsA hR hL => lv_dup hF.1 hF.2.1 hd (by rw [zv_cat]; exact hv) (k hF H locs lsA hR hL)
theorem zx_pop {v : Value} (hd : decode (zcc F) pc = .ok (.pop, 1)) (hv : v.category = 1) (k : zX G K F n0 ce sl sh row (pc + 1) ls st) : zX G K F n0 ce sl sh row pc ls (v :: st) :=
  fun hF H locs lsA hR hL => lv_pop hF.1 hF.2.1 hd (by rw [zv_cat]; exact hv) (k hF H locs lsA hR hL)
theorem zx_dup_x1 {v w : Value} (hd : decode (zcc F) pc = .ok (.dup_x1, 1)) (hv : v.category = 1) (hw : w.category = 1) (k : zX G K F n0 ce sl sh row (pc + 1) ls (v :: w :: v :: st)) : zX G K F n0 ce sl sh row pc ls (v :: w :: st) :=
  fun hF H locs lsA hR hL => lv_dup_x1 hF.1 hF.2.1 hd (by rw [zv_cat]; exact hv) (by rw [zv_cat]; exact hw) (k hF H locs lsA hR hL)
theorem zx_dup_x2 {v w u : Value} (hd : decode (zcc F) pc = .ok (.dup_x2, 1)) (hv : v.category = 1) (hw : w.category = 1) (hu : u.category = 1) (k : zX G K F n0 ce sl sh row (pc + 1) ls (v :: w :: u :: v :: st)) : zX G K F n0 ce sl sh row pc ls (v :: w :: u :: st) :=
  fun hF H locs lsA hR hL => lv_dup_x2 hF.1 hF.2.1 hd (by rw [zv_cat]; exact hv) (by rw [zv_cat]; exact hw) (by rw [zv_cat]; exact hu) (k hF H locs lsA hR hL)
theorem zx_dup2 {v w : Value} (hd : decode (zcc F) pc = .ok (.dup2, 1)) (hv : v.category = 1) (hw : w.category = 1) (k : zX G K F n0 ce sl sh row (pc + 1) ls (v :: w :: v :: w :: st)) : zX G K F n0 ce sl sh row pc ls (v :: w :: st) :=
  fun hF H locs lsA hR hL => lv_dup2_11 hF.1 hF.2.1 hd (by rw [zv_cat]; exact hv) (by rw [zv_cat]; exact hw) (k hF H locs lsA hR hL)
theorem zx_iload_n {j : Fin 4} {x : Int32} (hd : decode (zcc F) pc = .ok (.iload_n j, 1)) (hl : ls[(j : Nat)]? = some (.int x)) (k : zX G K F n0 ce sl sh row (pc + 1) ls (.int x :: st)) : zX G K F n0 ce sl sh row pc ls st :=
  fun hF H locs lsA hR hL => lv_iload_n hF.1 hF.2.1 hd rfl (zL_at hL hl (fun r q => by cases q)) (k hF H locs lsA hR hL)
theorem zx_iload {i : Nat} {x : Int32} (hd : decode (zcc F) pc = .ok (.iload i, 2)) (hl : ls[i]? = some (.int x)) (k : zX G K F n0 ce sl sh row (pc + 2) ls (.int x :: st)) : zX G K F n0 ce sl sh row pc ls st :=
  fun hF H locs lsA hR hL => lv_iload hF.1 hF.2.1 hd (zL_at hL hl (fun r q => by cases q)) (k hF H locs lsA hR hL)
theorem zx_aload_n {j : Fin 4} {x : Nat} (hd : decode (zcc F) pc = .ok (.aload_n j, 1)) (hl : ls[(j : Nat)]? = some (.ref x)) (k : zX G K F n0 ce sl sh row (pc + 1) ls (.ref x :: st)) : zX G K F n0 ce sl sh row pc ls st :=
  fun hF H locs lsA hR hL => lv_aload_n hF.1 hF.2.1 hd rfl (zL_at hL hl (fun r q => by cases q)) (k hF H locs lsA hR hL)
theorem zx_aload {i : Nat} {x : Nat} (hd : decode (zcc F) pc = .ok (.aload i, 2)) (hl : ls[i]? = some (.ref x)) (k : zX G K F n0 ce sl sh row (pc + 2) ls (.ref x :: st)) : zX G K F n0 ce sl sh row pc ls st :=
  fun hF H locs lsA hR hL => lv_aload hF.1 hF.2.1 hd (zL_at hL hl (fun r q => by cases q)) (k hF H locs lsA hR hL)
theorem zx_istore_n {j : Fin 4} {x : Int32} {ls' : List Value} (hd : decode (zcc F) pc = .ok (.istore_n j, 1)) (hn : (j : Nat) < znL F) (ho : (List.all ls (fun w => w.category == 1)) = true) (hl : ls.set (j : Nat) (.int x) = ls') (k : zX G K F n0 ce sl sh row (pc + 1) ls' st) : zX G K F n0 ce sl sh row pc ls (.int x :: st) := by
  intro hF H locs lsA hR hL
  subst hl
  obtain ⟨l', e', h'⟩ := zL_store (v := .int x) hL hn rfl (fun w hw => by simpa using List.all_eq_true.mp ho w hw)
  intro T hT X
  obtain ⟨t, a, b⟩ := k hF H locs l' hR h' T hT X
  refine ⟨t, ?_, b⟩
  have hx := hF.1
  have hb := hF.2.1
  simp only [zv] at e'
  jvm_step X.here [X.here.top, ↓top_set X.here.top, hx, hb, hd, e', zv, Value.isRef]
  exact a
theorem zx_istore {i : Nat} {x : Int32} {ls' : List Value} (hd : decode (zcc F) pc = .ok (.istore i, 2)) (hn : i < znL F) (ho : (List.all ls (fun w => w.category == 1)) = true) (hl : ls.set i (.int x) = ls') (k : zX G K F n0 ce sl sh row (pc + 2) ls' st) : zX G K F n0 ce sl sh row pc ls (.int x :: st) := by
  intro hF H locs lsA hR hL
  subst hl
  obtain ⟨l', e', h'⟩ := zL_store (v := .int x) hL hn rfl (fun w hw => by simpa using List.all_eq_true.mp ho w hw)
  intro T hT X
  obtain ⟨t, a, b⟩ := k hF H locs l' hR h' T hT X
  refine ⟨t, ?_, b⟩
  have hx := hF.1
  have hb := hF.2.1
  simp only [zv] at e'
  jvm_step X.here [X.here.top, ↓top_set X.here.top, hx, hb, hd, e', zv, Value.isRef]
  exact a
theorem zx_astore_n {j : Fin 4} {x : Nat} {ls' : List Value} (hd : decode (zcc F) pc = .ok (.astore_n j, 1)) (hn : (j : Nat) < znL F) (ho : (List.all ls (fun w => w.category == 1)) = true) (hl : ls.set (j : Nat) (.ref x) = ls') (k : zX G K F n0 ce sl sh row (pc + 1) ls' st) : zX G K F n0 ce sl sh row pc ls (.ref x :: st) := by
  intro hF H locs lsA hR hL
  subst hl
  obtain ⟨l', e', h'⟩ := zL_store (v := .ref x) hL hn rfl (fun w hw => by simpa using List.all_eq_true.mp ho w hw)
  intro T hT X
  obtain ⟨t, a, b⟩ := k hF H locs l' hR h' T hT X
  refine ⟨t, ?_, b⟩
  have hx := hF.1
  have hb := hF.2.1
  simp only [zv] at e'
  jvm_step X.here [X.here.top, ↓top_set X.here.top, hx, hb, hd, e', zv, Value.isRef]
  exact a
theorem zx_astore {i : Nat} {x : Nat} {ls' : List Value} (hd : decode (zcc F) pc = .ok (.astore i, 2)) (hn : i < znL F) (ho : (List.all ls (fun w => w.category == 1)) = true) (hl : ls.set i (.ref x) = ls') (k : zX G K F n0 ce sl sh row (pc + 2) ls' st) : zX G K F n0 ce sl sh row pc ls (.ref x :: st) := by
  intro hF H locs lsA hR hL
  subst hl
  obtain ⟨l', e', h'⟩ := zL_store (v := .ref x) hL hn rfl (fun w hw => by simpa using List.all_eq_true.mp ho w hw)
  intro T hT X
  obtain ⟨t, a, b⟩ := k hF H locs l' hR h' T hT X
  refine ⟨t, ?_, b⟩
  have hx := hF.1
  have hb := hF.2.1
  simp only [zv] at e'
  jvm_step X.here [X.here.top, ↓top_set X.here.top, hx, hb, hd, e', zv, Value.isRef]
  exact a
theorem zx_iinc {i : Nat} {j : Int} {x v : Int32} {ls' : List Value} (hd : decode (zcc F) pc = .ok (.iinc i j, 3)) (hn : i < znL F) (ho : (List.all ls (fun w => w.category == 1)) = true) (hx : ls[i]? = some (.int x)) (hv : x + Int32.ofInt j = v) (hl : ls.set i (.int v) = ls') (k : zX G K F n0 ce sl sh row (pc + 3) ls' st) : zX G K F n0 ce sl sh row pc ls st := by
  intro hF H locs lsA hR hL
  subst hl
  subst hv
  have hg := zL_at hL hx (fun r q => by cases q)
  obtain ⟨l', e', h'⟩ := zL_store (v := .int (x + Int32.ofInt j)) hL hn rfl (fun w hw => by simpa using List.all_eq_true.mp ho w hw)
  intro T hT X
  obtain ⟨t, a, b⟩ := k hF H locs l' hR h' T hT X
  refine ⟨t, ?_, b⟩
  have hx := hF.1
  have hb := hF.2.1
  simp only [zv] at hg e'
  jvm_step X.here [X.here.top, ↓top_set X.here.top, hx, hb, hd, hg, e']
  exact a
theorem zx_if_eq {x : Int32} {off : Int} {tgt : Nat} (hd : decode (zcc F) pc = .ok (.ifCond .eq off, 3)) (ht : (pc : Int) + off = (tgt : Int)) (kt : x = 0 → zX G K F n0 ce sl sh row tgt ls st) (kf : ¬ x = 0 → zX G K F n0 ce sl sh row (pc + 3) ls st) : zX G K F n0 ce sl sh row pc ls (.int x :: st) :=
  fun hF H locs lsA hR hL => lv_if_eq hF.1 hF.2.1 hd ht (fun h => kt h hF H locs lsA hR hL) (fun h => kf h hF H locs lsA hR hL)
theorem zx_if_ne {x : Int32} {off : Int} {tgt : Nat} (hd : decode (zcc F) pc = .ok (.ifCond .ne off, 3)) (ht : (pc : Int) + off = (tgt : Int)) (kt : ¬ x = 0 → zX G K F n0 ce sl sh row tgt ls st) (kf : x = 0 → zX G K F n0 ce sl sh row (pc + 3) ls st) : zX G K F n0 ce sl sh row pc ls (.int x :: st) :=
  fun hF H locs lsA hR hL => lv_if_ne hF.1 hF.2.1 hd ht (fun h => kt h hF H locs lsA hR hL) (fun h => kf h hF H locs lsA hR hL)
theorem zx_if_lt {x : Int32} {off : Int} {tgt : Nat} (hd : decode (zcc F) pc = .ok (.ifCond .lt off, 3)) (ht : (pc : Int) + off = (tgt : Int)) (kt : x < 0 → zX G K F n0 ce sl sh row tgt ls st) (kf : ¬ x < 0 → zX G K F n0 ce sl sh row (pc + 3) ls st) : zX G K F n0 ce sl sh row pc ls (.int x :: st) :=
  fun hF H locs lsA hR hL => lv_if_lt hF.1 hF.2.1 hd ht (fun h => kt h hF H locs lsA hR hL) (fun h => kf h hF H locs lsA hR hL)
theorem zx_if_ge {x : Int32} {off : Int} {tgt : Nat} (hd : decode (zcc F) pc = .ok (.ifCond .ge off, 3)) (ht : (pc : Int) + off = (tgt : Int)) (kt : 0 ≤ x → zX G K F n0 ce sl sh row tgt ls st) (kf : ¬ 0 ≤ x → zX G K F n0 ce sl sh row (pc + 3) ls st) : zX G K F n0 ce sl sh row pc ls (.int x :: st) :=
  fun hF H locs lsA hR hL => lv_if_ge hF.1 hF.2.1 hd ht (fun h => kt h hF H locs lsA hR hL) (fun h => kf h hF H locs lsA hR hL)
theorem zx_if_gt {x : Int32} {off : Int} {tgt : Nat} (hd : decode (zcc F) pc = .ok (.ifCond .gt off, 3)) (ht : (pc : Int) + off = (tgt : Int)) (kt : 0 < x → zX G K F n0 ce sl sh row tgt ls st) (kf : ¬ 0 < x → zX G K F n0 ce sl sh row (pc + 3) ls st) : zX G K F n0 ce sl sh row pc ls (.int x :: st) :=
  fun hF H locs lsA hR hL => lv_if_gt hF.1 hF.2.1 hd ht (fun h => kt h hF H locs lsA hR hL) (fun h => kf h hF H locs lsA hR hL)
theorem zx_if_le {x : Int32} {off : Int} {tgt : Nat} (hd : decode (zcc F) pc = .ok (.ifCond .le off, 3)) (ht : (pc : Int) + off = (tgt : Int)) (kt : x ≤ 0 → zX G K F n0 ce sl sh row tgt ls st) (kf : ¬ x ≤ 0 → zX G K F n0 ce sl sh row (pc + 3) ls st) : zX G K F n0 ce sl sh row pc ls (.int x :: st) :=
  fun hF H locs lsA hR hL => lv_if_le hF.1 hF.2.1 hd ht (fun h => kt h hF H locs lsA hR hL) (fun h => kf h hF H locs lsA hR hL)
theorem zx_icmp_eq {x y : Int32} {off : Int} {tgt : Nat} (hd : decode (zcc F) pc = .ok (.if_icmp .eq off, 3)) (ht : (pc : Int) + off = (tgt : Int)) (kt : x = y → zX G K F n0 ce sl sh row tgt ls st) (kf : ¬ x = y → zX G K F n0 ce sl sh row (pc + 3) ls st) : zX G K F n0 ce sl sh row pc ls (.int y :: .int x :: st) :=
  fun hF H locs lsA hR hL => lv_icmp_eq hF.1 hF.2.1 hd ht (fun h => kt h hF H locs lsA hR hL) (fun h => kf h hF H locs lsA hR hL)
theorem zx_icmp_ne {x y : Int32} {off : Int} {tgt : Nat} (hd : decode (zcc F) pc = .ok (.if_icmp .ne off, 3)) (ht : (pc : Int) + off = (tgt : Int)) (kt : ¬ x = y → zX G K F n0 ce sl sh row tgt ls st) (kf : x = y → zX G K F n0 ce sl sh row (pc + 3) ls st) : zX G K F n0 ce sl sh row pc ls (.int y :: .int x :: st) :=
  fun hF H locs lsA hR hL => lv_icmp_ne hF.1 hF.2.1 hd ht (fun h => kt h hF H locs lsA hR hL) (fun h => kf h hF H locs lsA hR hL)
theorem zx_icmp_lt {x y : Int32} {off : Int} {tgt : Nat} (hd : decode (zcc F) pc = .ok (.if_icmp .lt off, 3)) (ht : (pc : Int) + off = (tgt : Int)) (kt : x < y → zX G K F n0 ce sl sh row tgt ls st) (kf : ¬ x < y → zX G K F n0 ce sl sh row (pc + 3) ls st) : zX G K F n0 ce sl sh row pc ls (.int y :: .int x :: st) :=
  fun hF H locs lsA hR hL => lv_icmp_lt hF.1 hF.2.1 hd ht (fun h => kt h hF H locs lsA hR hL) (fun h => kf h hF H locs lsA hR hL)
theorem zx_icmp_ge {x y : Int32} {off : Int} {tgt : Nat} (hd : decode (zcc F) pc = .ok (.if_icmp .ge off, 3)) (ht : (pc : Int) + off = (tgt : Int)) (kt : y ≤ x → zX G K F n0 ce sl sh row tgt ls st) (kf : ¬ y ≤ x → zX G K F n0 ce sl sh row (pc + 3) ls st) : zX G K F n0 ce sl sh row pc ls (.int y :: .int x :: st) :=
  fun hF H locs lsA hR hL => lv_icmp_ge hF.1 hF.2.1 hd ht (fun h => kt h hF H locs lsA hR hL) (fun h => kf h hF H locs lsA hR hL)
theorem zx_icmp_gt {x y : Int32} {off : Int} {tgt : Nat} (hd : decode (zcc F) pc = .ok (.if_icmp .gt off, 3)) (ht : (pc : Int) + off = (tgt : Int)) (kt : y < x → zX G K F n0 ce sl sh row tgt ls st) (kf : ¬ y < x → zX G K F n0 ce sl sh row (pc + 3) ls st) : zX G K F n0 ce sl sh row pc ls (.int y :: .int x :: st) :=
  fun hF H locs lsA hR hL => lv_icmp_gt hF.1 hF.2.1 hd ht (fun h => kt h hF H locs lsA hR hL) (fun h => kf h hF H locs lsA hR hL)
theorem zx_icmp_le {x y : Int32} {off : Int} {tgt : Nat} (hd : decode (zcc F) pc = .ok (.if_icmp .le off, 3)) (ht : (pc : Int) + off = (tgt : Int)) (kt : x ≤ y → zX G K F n0 ce sl sh row tgt ls st) (kf : ¬ x ≤ y → zX G K F n0 ce sl sh row (pc + 3) ls st) : zX G K F n0 ce sl sh row pc ls (.int y :: .int x :: st) :=
  fun hF H locs lsA hR hL => lv_icmp_le hF.1 hF.2.1 hd ht (fun h => kt h hF H locs lsA hR hL) (fun h => kf h hF H locs lsA hR hL)
theorem zx_goto {off : Int} {tgt : Nat} (hd : decode (zcc F) pc = .ok (.goto off, 3)) (ht : (pc : Int) + off = (tgt : Int)) (k : zX G K F n0 ce sl sh row tgt ls st) : zX G K F n0 ce sl sh row pc ls st :=
  fun hF H locs lsA hR hL => lv_goto hF.1 hF.2.1 hd ht (k hF H locs lsA hR hL)
/-- a field, as an instruction of a method names it -/
def zFld (own : String) (idx ci k N : Nat) : Prop := ∃ (C : String) (T : u_T), vwCl[ci]? = some (C, T, N) ∧ k < N ∧ (∀ w ∈ u_ws C T N, w ∈ zAll) ∧ Cond.fieldLink own idx (T k).1 (T k).2.1 (T k).2.2.1 ∈ zAll
def zFldN (own : String) (idx ci k N : Nat) : Prop := ∃ (C : String) (T : u_T) (host : String), vwCl[ci]? = some (C, T, N) ∧ k < N ∧ (∀ w ∈ u_ws C T N, w ∈ zAll) ∧ (own, idx, (T k).1, (T k).2.1, (T k).2.2.1, host) ∈ zNf
/-- how its class's fields are typed and named -/
def zTyp (ci k N : Nat) (ty : FieldType) (fin : Bool) : Prop := ∃ (C : String) (T : u_T) (ty0 : Nat → FieldType), vwCl[ci]? = some (C, T, N) ∧ (∀ k, k < N → parseFieldDescriptor (T k).2.2.1 = some (ty0 k)) ∧ (∀ a, a < N → ∀ b, b < N → a ≠ b → (T a).2.1 ≠ (T b).2.1) ∧ ty0 k = ty ∧ (T k).2.2.2 = fin
theorem zx_get {idx ci k N a : Nat} {v : Value} (hd : decode (zcc F) pc = .ok (.getfield idx, 3)) (hf : zFld (zow F) idx ci k N) (hs : sh a = some (0, ci, N)) (hv : row a k = v) (kk : zX G K F n0 ce sl sh row (pc + 3) ls (v :: st)) : zX G K F n0 ce sl sh row pc ls (.ref a :: st) := by
  intro hF H locs lsA hR hL
  obtain ⟨C, T, hc, hk, hin, hl⟩ := hf
  subst hv
  exact va_get (D := zgD G) (cl := vwCl) (tys := zT G) (ws := zW G (n0 + ce) sh row) (fs := (List.range N).map (fun k => zv G (row a k))) hF.1 hF.2.1 hF.2.2.2.2.1 hin hF.2.2.2.1 hF.2.2.2.2.2.1 hR.2.1 (a - 1) (zW_get hR.1 hs) hc k hk (hF.2.2.2.2.1 _ hl) (fun _ h => h) (zfs_get hk) hd (kk hF H locs lsA hR hL)
theorem zx_getN {idx ci k N a : Nat} {v : Value} (hd : decode (zcc F) pc = .ok (.getfield idx, 3)) (hf : zFldN (zow F) idx ci k N) (hs : sh a = some (0, ci, N)) (hv : row a k = v) (kk : zX G K F n0 ce sl sh row (pc + 3) ls (v :: st)) : zX G K F n0 ce sl sh row pc ls (.ref a :: st) := by
  intro hF H locs lsA hR hL
  obtain ⟨C, T, host, hc, hk, hin, hl⟩ := hf
  subst hv
  exact va_getN (D := zgD G) (cl := vwCl) (tys := zT G) (ws := zW G (n0 + ce) sh row) (fs := (List.range N).map (fun k => zv G (row a k))) hF.1 hF.2.1 hF.2.2.2.2.1 hin hF.2.2.2.1 hF.2.2.2.2.2.1 hR.2.1 (a - 1) (zW_get hR.1 hs) hc k hk (va_Nw.use rfl (hF.2.2.2.2.2.2.2.2.2.2.2.2.2.2.1 _ hl)) (fun _ h => h) (zfs_get hk) hd (kk hF H locs lsA hR hL)
theorem zR_up {n a k ci N : Nat} {v : Value} {H0 H H1 : Heap} {locs0 locs : List Loc} (hR : zR G n sh row H0 H locs0) (hs : sh a = some (0, ci, N)) (hk : k < N) (hP : va_P (zgD G) vwCl ((zW G n sh row).set (a - 1) (zad G a, .inr (ci, ((List.range N).map (fun k => zv G (row a k))).set k (zv G v)))) H1) (hS : va_S (zA G) H0 H1 locs) : zR G n sh (zup row a k v) H0 H1 locs := by
  refine ⟨hR.1, ?_, hS⟩
  rw [zfs_set hk] at hP
  rw [← zW_set (G := G) (row := row) hR.1 hs (zup_row a k v) (fun b hb => zup_ne hb)]
  exact hP
theorem zx_put {idx ci k N a : Nat} {v : Value} {ty : FieldType} (hd : decode (zcc F) pc = .ok (.putfield idx, 3)) (hf : zFld (zow F) idx ci k N) (ht : zTyp ci k N ty false) (hs : sh a = some (0, ci, N)) (hn : narrow ty (zv G v) = zv G v) (hfit : fits ty (zv G v) = true) (kk : zX G K F n0 ce sl sh (zup row a k v) (pc + 3) ls st) : zX G K F n0 ce sl sh row pc ls (v :: .ref a :: st) := by
  intro hF H locs lsA hR hL
  obtain ⟨C, T, hc, hk, hin, hl⟩ := hf
  obtain ⟨C', T', ty0, hc', h4, h5, h6, h7⟩ := ht
  have e := Option.some.inj (hc.symm.trans hc')
  simp only [Prod.mk.injEq, and_true] at e
  obtain ⟨rfl, rfl⟩ := e
  subst h6
  exact va_put (D := zgD G) (cl := vwCl) (tys := zT G) (A := zA G) (ws := zW G (n0 + ce) sh row) (fs := (List.range N).map (fun k => zv G (row a k))) hF.1 hF.2.1 hF.2.2.2.2.1 hin ty0 h4 h5 hF.2.2.2.1 hF.2.2.2.2.2.1 hR.2.1 zW_D hR.2.2 (a - 1) (zW_get hR.1 hs) hc k hk (hF.2.2.2.2.1 _ hl) (fun _ h => h) h7 (h4 k hk) hn hfit (by simpa using hk) hd (fun H1 locs1 hP1 _ hS1 => kk hF H1 locs1 lsA (zR_up hR hs hk hP1 hS1) hL)
theorem zx_putN {idx ci k N a : Nat} {v : Value} {ty : FieldType} (hd : decode (zcc F) pc = .ok (.putfield idx, 3)) (hf : zFldN (zow F) idx ci k N) (ht : zTyp ci k N ty false) (hs : sh a = some (0, ci, N)) (hn : narrow ty (zv G v) = zv G v) (hfit : fits ty (zv G v) = true) (kk : zX G K F n0 ce sl sh (zup row a k v) (pc + 3) ls st) : zX G K F n0 ce sl sh row pc ls (v :: .ref a :: st) := by
  intro hF H locs lsA hR hL
  obtain ⟨C, T, host, hc, hk, hin, hl⟩ := hf
  obtain ⟨C', T', ty0, hc', h4, h5, h6, h7⟩ := ht
  have e := Option.some.inj (hc.symm.trans hc')
  simp only [Prod.mk.injEq, and_true] at e
  obtain ⟨rfl, rfl⟩ := e
  subst h6
  exact va_putN (D := zgD G) (cl := vwCl) (tys := zT G) (A := zA G) (ws := zW G (n0 + ce) sh row) (fs := (List.range N).map (fun k => zv G (row a k))) hF.1 hF.2.1 hF.2.2.2.2.1 hin ty0 h4 h5 hF.2.2.2.1 hF.2.2.2.2.2.1 hR.2.1 zW_D hR.2.2 (a - 1) (zW_get hR.1 hs) hc k hk (va_Nw.use rfl (hF.2.2.2.2.2.2.2.2.2.2.2.2.2.2.1 _ hl)) (fun _ h => h) h7 (h4 k hk) hn hfit (by simpa using hk) hd (fun H1 locs1 hP1 _ hS1 => kk hF H1 locs1 lsA (zR_up hR hs hk hP1 hS1) hL)
theorem zx_putF {nE : Nat} {Q : Option Value → zSh → zRw → Prop} {idx ci k N a : Nat} {v : Value} {ty : FieldType} (hE : zEnd G K F nE Q) (hy : (zy F).name = "<init>") (hdc : ∀ (C : String) (T : u_T), vwCl[ci]? = some (C, T, N) → (T k).1 = zow F) (hd : decode (zcc F) pc = .ok (.putfield idx, 3)) (hf : zFld (zow F) idx ci k N) (ht : zTyp ci k N ty true) (hs : sh a = some (0, ci, N)) (hn : narrow ty (zv G v) = zv G v) (hfit : fits ty (zv G v) = true) (kk : zX G K F n0 ce sl sh (zup row a k v) (pc + 3) ls st) : zX G K F n0 ce sl sh row pc ls (v :: .ref a :: st) := by
  intro hF H locs lsA hR hL
  obtain ⟨C, T, hc, hk, hin, hl⟩ := hf
  obtain ⟨C', T', ty0, hc', h4, h5, h6, h7⟩ := ht
  have e := Option.some.inj (hc.symm.trans hc')
  simp only [Prod.mk.injEq, and_true] at e
  obtain ⟨rfl, rfl⟩ := e
  subst h6
  exact va_putF (D := zgD G) (cl := vwCl) (tys := zT G) (A := zA G) (ws := zW G (n0 + ce) sh row) (fs := (List.range N).map (fun k => zv G (row a k))) hF.1 hF.2.1 hF.2.2.2.2.1 hin ty0 h4 h5 hF.2.2.2.1 hF.2.2.2.2.2.1 hR.2.1 zW_D hR.2.2 (a - 1) (zW_get hR.1 hs) hc k hk (hF.2.2.2.2.1 _ hl) (fun _ h => h) h7 (by rw [← hy]; exact hE.2.2) (hdc _ _ hc) (h4 k hk) hn hfit (by simpa using hk) hd (fun H1 locs1 hP1 _ hS1 => kk hF H1 locs1 lsA (zR_up hR hs hk hP1 hS1) hL)
theorem zx_iald {a t N : Nat} {i x : Int32} (hd : decode (zcc F) pc = .ok (.iaload, 1)) (hs : sh a = some (1, t, N)) (ht : zTy[t]? = some .int) (hi : vp_in i N) (hv : row a i.toNatClampNeg = .int x) (kk : zX G K F n0 ce sl sh row (pc + 1) ls (.int x :: st)) : zX G K F n0 ce sl sh row pc ls (.int i :: .ref a :: st) := by
  intro hF H locs lsA hR hL
  have k1 := kk hF H locs lsA hR hL
  have e : zi (row a i.toNatClampNeg) = x := by rw [hv]; rfl
  refine va_iald (D := zgD G) (cl := vwCl) (tys := zT G) (ws := zW G (n0 + ce) sh row) (f := fun k => zi (row a k)) hF.1 hF.2.1 hF.2.2.2.2.2.1 hR.2.1 (a - 1) t (zW_get hR.1 hs) (zT_get ht) hi hd ?_
  show W _ _ _ _ _ _ _ _ _ _ _ _ _ _ _ (F0 _ _ _ (.int (zi (row a i.toNatClampNeg)) :: _))
  rw [e]
  exact k1
theorem zx_cald {a t N : Nat} {i x : Int32} (hd : decode (zcc F) pc = .ok (.caload, 1)) (hs : sh a = some (1, t, N)) (ht : zTy[t]? = some .char) (hi : vp_in i N) (hv : row a i.toNatClampNeg = .int x) (kk : zX G K F n0 ce sl sh row (pc + 1) ls (.int x :: st)) : zX G K F n0 ce sl sh row pc ls (.int i :: .ref a :: st) := by
  intro hF H locs lsA hR hL
  have k1 := kk hF H locs lsA hR hL
  have e : zi (row a i.toNatClampNeg) = x := by rw [hv]; rfl
  refine va_cald (D := zgD G) (cl := vwCl) (tys := zT G) (ws := zW G (n0 + ce) sh row) (f := fun k => zi (row a k)) hF.1 hF.2.1 hF.2.2.2.2.2.1 hR.2.1 (a - 1) t (zW_get hR.1 hs) (zT_get ht) hi hd ?_
  show W _ _ _ _ _ _ _ _ _ _ _ _ _ _ _ (F0 _ _ _ (.int (zi (row a i.toNatClampNeg)) :: _))
  rw [e]
  exact k1
theorem zx_zald {a t N : Nat} {i x : Int32} (hd : decode (zcc F) pc = .ok (.baload, 1)) (hs : sh a = some (1, t, N)) (ht : zTy[t]? = some .boolean) (hi : vp_in i N) (hv : row a i.toNatClampNeg = .int x) (kk : zX G K F n0 ce sl sh row (pc + 1) ls (.int x :: st)) : zX G K F n0 ce sl sh row pc ls (.int i :: .ref a :: st) := by
  intro hF H locs lsA hR hL
  have k1 := kk hF H locs lsA hR hL
  have e : zi (row a i.toNatClampNeg) = x := by rw [hv]; rfl
  refine va_zald (D := zgD G) (cl := vwCl) (tys := zT G) (ws := zW G (n0 + ce) sh row) (f := fun k => zi (row a k)) hF.1 hF.2.1 hF.2.2.2.2.2.1 hR.2.1 (a - 1) t (zW_get hR.1 hs) (zT_get ht) hi hd ?_
  show W _ _ _ _ _ _ _ _ _ _ _ _ _ _ _ (F0 _ _ _ (.int (zi (row a i.toNatClampNeg)) :: _))
  rw [e]
  exact k1
theorem zx_iast {a t N : Nat} {i x : Int32} (hd : decode (zcc F) pc = .ok (.iastore, 1)) (hs : sh a = some (1, t, N)) (ht : zTy[t]? = some .int) (hi : vp_in i N) (kk : zX G K F n0 ce sl sh (zup row a i.toNatClampNeg (.int x)) (pc + 1) ls st) : zX G K F n0 ce sl sh row pc ls (.int x :: .int i :: .ref a :: st) := by
  intro hF H locs lsA hR hL
  refine va_iast (D := zgD G) (cl := vwCl) (tys := zT G) (A := zA G) (ws := zW G (n0 + ce) sh row) (f := fun k => zi (row a k)) hF.1 hF.2.1 hF.2.2.2.2.2.1 hR.2.1 zW_D hR.2.2 (a - 1) t (zW_get hR.1 hs) (zT_get ht) hi hd (fun H1 locs1 hP1 _ hS1 => kk hF H1 locs1 lsA ⟨hR.1, ?_, hS1⟩ hL)
  skip
  rw [← zW_set (G := G) (row := row) hR.1 hs (zup_row a i.toNatClampNeg (.int x)) (fun b hb => zup_ne hb)]
  have e : upd (fun k => zi (row a k)) i.toNatClampNeg x = fun k => zi (if k = i.toNatClampNeg then .int x else row a k) := by
    funext k
    unfold upd
    by_cases h : k = i.toNatClampNeg
    · rw [if_pos h, if_pos h]; rfl
    · rw [if_neg h, if_neg h]
  rw [e] at hP1
  exact hP1
theorem zx_cast {a t N : Nat} {i x : Int32} (hd : decode (zcc F) pc = .ok (.castore, 1)) (hs : sh a = some (1, t, N)) (ht : zTy[t]? = some .char) (hi : vp_in i N) (hx : vp_nar .char x = x) (kk : zX G K F n0 ce sl sh (zup row a i.toNatClampNeg (.int x)) (pc + 1) ls st) : zX G K F n0 ce sl sh row pc ls (.int x :: .int i :: .ref a :: st) := by
  intro hF H locs lsA hR hL
  refine va_cast (D := zgD G) (cl := vwCl) (tys := zT G) (A := zA G) (ws := zW G (n0 + ce) sh row) (f := fun k => zi (row a k)) hF.1 hF.2.1 hF.2.2.2.2.2.1 hR.2.1 zW_D hR.2.2 (a - 1) t (zW_get hR.1 hs) (zT_get ht) hi hd (fun H1 locs1 hP1 _ hS1 => kk hF H1 locs1 lsA ⟨hR.1, ?_, hS1⟩ hL)
  rw [hx] at hP1
  rw [← zW_set (G := G) (row := row) hR.1 hs (zup_row a i.toNatClampNeg (.int x)) (fun b hb => zup_ne hb)]
  have e : upd (fun k => zi (row a k)) i.toNatClampNeg x = fun k => zi (if k = i.toNatClampNeg then .int x else row a k) := by
    funext k
    unfold upd
    by_cases h : k = i.toNatClampNeg
    · rw [if_pos h, if_pos h]; rfl
    · rw [if_neg h, if_neg h]
  rw [e] at hP1
  exact hP1
theorem zx_zast {a t N : Nat} {i x : Int32} (hd : decode (zcc F) pc = .ok (.bastore, 1)) (hs : sh a = some (1, t, N)) (ht : zTy[t]? = some .boolean) (hi : vp_in i N) (hx : vp_nar .boolean x = x) (kk : zX G K F n0 ce sl sh (zup row a i.toNatClampNeg (.int x)) (pc + 1) ls st) : zX G K F n0 ce sl sh row pc ls (.int x :: .int i :: .ref a :: st) := by
  intro hF H locs lsA hR hL
  refine va_zast (D := zgD G) (cl := vwCl) (tys := zT G) (A := zA G) (ws := zW G (n0 + ce) sh row) (f := fun k => zi (row a k)) hF.1 hF.2.1 hF.2.2.2.2.2.1 hR.2.1 zW_D hR.2.2 (a - 1) t (zW_get hR.1 hs) (zT_get ht) hi hd (fun H1 locs1 hP1 _ hS1 => kk hF H1 locs1 lsA ⟨hR.1, ?_, hS1⟩ hL)
  rw [hx] at hP1
  rw [← zW_set (G := G) (row := row) hR.1 hs (zup_row a i.toNatClampNeg (.int x)) (fun b hb => zup_ne hb)]
  have e : upd (fun k => zi (row a k)) i.toNatClampNeg x = fun k => zi (if k = i.toNatClampNeg then .int x else row a k) := by
    funext k
    unfold upd
    by_cases h : k = i.toNatClampNeg
    · rw [if_pos h, if_pos h]; rfl
    · rw [if_neg h, if_neg h]
  rw [e] at hP1
  exact hP1
theorem zx_aald {a t N b : Nat} {C : String} {i : Int32} (hd : decode (zcc F) pc = .ok (.aaload, 1)) (hs : sh a = some (2, t, N)) (ht : zTy[t]? = some (.object C)) (hi : vp_in i N) (hv : row a i.toNatClampNeg = .ref b) (kk : zX G K F n0 ce sl sh row (pc + 1) ls (.ref b :: st)) : zX G K F n0 ce sl sh row pc ls (.int i :: .ref a :: st) := by
  intro hF H locs lsA hR hL
  have k1 := kk hF H locs lsA hR hL
  have e : va_rf (zq G (row a i.toNatClampNeg)) = zv G (.ref b) := by rw [hv]; rfl
  refine va_aldq (D := zgD G) (cl := vwCl) (tys := zT G) (ws := zW G (n0 + ce) sh row) (f := fun k => zq G (row a k)) hF.1 hF.2.1 hF.2.2.2.2.2.1 hR.2.1 (a - 1) t (zW_get hR.1 hs) (zT_get ht) hi hd ?_
  show W _ _ _ _ _ _ _ _ _ _ _ _ _ _ _ (F0 _ _ _ (va_rf (zq G (row a i.toNatClampNeg)) :: _))
  rw [e]
  exact k1
theorem zx_aast {a t N b ci M : Nat} {r : vw_C} {i : Int32} (hd : decode (zcc F) pc = .ok (.aastore, 1)) (hs : sh a = some (2, t, N)) (ht : zTy[t]? = some (.object r.1)) (hb : sh b = some (0, ci, M)) (hc : vwCl[ci]? = some r) (hi : vp_in i N) (kk : zX G K F n0 ce sl sh (zup row a i.toNatClampNeg (.ref b)) (pc + 1) ls st) : zX G K F n0 ce sl sh row pc ls (.ref b :: .int i :: .ref a :: st) := by
  intro hF H locs lsA hR hL
  refine va_astq (D := zgD G) (cl := vwCl) (tys := zT G) (A := zA G) (ws := zW G (n0 + ce) sh row) (f := fun k => zq G (row a k)) hF.1 hF.2.1 hF.2.2.2.2.2.1 hR.2.1 zW_D hR.2.2 (a - 1) t (b - 1) ci (zW_get hR.1 hs) (zT_get ht) (zW_get hR.1 hb) hc hi hd (fun H1 locs1 hP1 _ hS1 => kk hF H1 locs1 lsA ⟨hR.1, ?_, hS1⟩ hL)
  rw [← zW_set (G := G) (row := row) hR.1 hs (zup_row a i.toNatClampNeg (.ref b)) (fun b hb => zup_ne hb)]
  have e : va_up (fun k => zq G (row a k)) i.toNatClampNeg (some (zad G b)) = fun k => zq G (if k = i.toNatClampNeg then .ref b else row a k) := by
    funext k
    unfold va_up
    by_cases h : k = i.toNatClampNeg
    · rw [if_pos h, if_pos h]; rfl
    · rw [if_neg h, if_neg h]
  rw [e] at hP1
  exact hP1
theorem zx_alen1 {a t N : Nat} {ty : FieldType} {v : Int32} (hd : decode (zcc F) pc = .ok (.arraylength, 1)) (hs : sh a = some (1, t, N)) (ht : zTy[t]? = some ty) (hv : Int32.ofNat N = v) (kk : zX G K F n0 ce sl sh row (pc + 1) ls (.int v :: st)) : zX G K F n0 ce sl sh row pc ls (.ref a :: st) :=
  fun hF H locs lsA hR hL => va_alen (D := zgD G) (cl := vwCl) (tys := zT G) (ws := zW G (n0 + ce) sh row) (x := (N, .inl (fun k => zi (row a k)))) hF.1 hF.2.1 hF.2.2.2.2.2.1 hR.2.1 (a - 1) t (zW_get hR.1 hs) (zT_get ht) hv hd (kk hF H locs lsA hR hL)
theorem zx_alen2 {a t N : Nat} {ty : FieldType} {v : Int32} (hd : decode (zcc F) pc = .ok (.arraylength, 1)) (hs : sh a = some (2, t, N)) (ht : zTy[t]? = some ty) (hv : Int32.ofNat N = v) (kk : zX G K F n0 ce sl sh row (pc + 1) ls (.int v :: st)) : zX G K F n0 ce sl sh row pc ls (.ref a :: st) :=
  fun hF H locs lsA hR hL => va_alen (D := zgD G) (cl := vwCl) (tys := zT G) (ws := zW G (n0 + ce) sh row) (x := (N, .inr (.inr (.inr (.inr (fun k => zq G (row a k))))))) hF.1 hF.2.1 hF.2.2.2.2.2.1 hR.2.1 (a - 1) t (zW_get hR.1 hs) (zT_get ht) hv hd (kk hF H locs lsA hR hL)
/-- the script -/
theorem zx_sld {i : Int32} (hd : decode (zcc F) pc = .ok (.iaload, 1)) (hi : vp_in i (zgL G)) (kk : zX G K F n0 ce sl sh row (pc + 1) ls (.int (zxs G i.toNatClampNeg) :: st)) : zX G K F n0 ce sl sh row pc ls (.int i :: .ref 0 :: st) :=
  fun hF H locs lsA hR hL => va_sld (b := zbS G) (A := zA G) hF.1 hF.2.1 hF.2.2.2.2.2.2.1 (by have h1 := hF.2.2.2.2.2.2.2.1; have h2 := hF.2.2.2.2.2.2.2.2.1; omega) (by have h1 := hF.2.2.2.2.2.2.2.1; show ¬ zb1 G + 1 ≤ zbS G; omega) hR.2.2 hi hd (kk hF H locs lsA hR hL)
theorem zx_slen (hd : decode (zcc F) pc = .ok (.arraylength, 1)) (kk : zX G K F n0 ce sl sh row (pc + 1) ls (.int (Int32.ofNat (zgL G)) :: st)) : zX G K F n0 ce sl sh row pc ls (.ref 0 :: st) :=
  fun hF H locs lsA hR hL => va_slen (b := zbS G) (A := zA G) hF.1 hF.2.1 hF.2.2.2.2.2.2.1 (by have h1 := hF.2.2.2.2.2.2.2.1; have h2 := hF.2.2.2.2.2.2.2.2.1; omega) (by have h1 := hF.2.2.2.2.2.2.2.1; show ¬ zb1 G + 1 ≤ zbS G; omega) hR.2.2 hd (kk hF H locs lsA hR hL)
/-- new cells -/
def zps (sh : zSh) (a : Nat) (x : Nat × Nat × Nat) : zSh := fun b => if b = a then some x else sh b
def zpr (row : zRw) (a : Nat) (r : Nat → Value) : zRw := fun b => if b = a then r else row b
theorem zps_self {sh : zSh} {a : Nat} {x : Nat × Nat × Nat} : zps sh a x a = some x := by unfold zps; rw [if_pos rfl]
theorem zps_ne {sh : zSh} {a b : Nat} {x : Nat × Nat × Nat} (h : b ≠ a) : zps sh a x b = sh b := by unfold zps; rw [if_neg h]
theorem zpr_self {row : zRw} {a : Nat} {r : Nat → Value} : zpr row a r a = r := by unfold zpr; rw [if_pos rfl]
theorem zpr_ne {row : zRw} {a b : Nat} {r : Nat → Value} (h : b ≠ a) : zpr row a r b = row b := by unfold zpr; rw [if_neg h]
theorem zR_push {n : Nat} {x : Nat × Nat × Nat} {r : Nat → Value} {H0 H H1 : Heap} {locs : List Loc} (hR : zR G n sh row H0 H locs) (hz : H.size = zb1 G + 1 + n) (hz1 : H1.size = H.size + 1) (ho : ∀ q, q < H.size → H1[q]? = H[q]?) (hat : va_at (zgD G) vwCl (zb1 G + 1 + n, zE G x r) H1) : zR G (n + 1) (zps sh (n + 1) x) (zpr row (n + 1) r) H0 H1 locs := by
  obtain ⟨h1, h2, h3⟩ := hR
  refine ⟨fun a ha => ?_, ?_, ⟨Nat.le_trans h3.1 (by omega), fun q g1 g2 => (ho q (Nat.lt_of_lt_of_le g1 h3.1)).trans (h3.2.1 q g1 g2), h3.2.2⟩⟩
  · unfold zps at ha
    by_cases hb : a = n + 1
    · omega
    · rw [if_neg hb] at ha
      have := h1 a ha
      omega
  · have e : zW G (n + 1) (zps sh (n + 1) x) (zpr row (n + 1) r) = zW G n sh row ++ [(zb1 G + 1 + n, zE G x r)] := by
      unfold zW
      rw [List.range_succ, List.map_append]
      congr 1
      · apply List.map_congr_left
        intro i hi
        have hi' := List.mem_range.mp hi
        rw [zps_ne (by omega), zpr_ne (by omega)]
      · simp only [List.map_cons, List.map_nil]
        rw [zps_self, zpr_self]
        rfl
    rw [e]
    refine (h2.kept (fun k q hq => ho q.1 ((h2 k q hq).lt))).app (fun k q hq => ?_)
    have hk : k < 1 := (List.getElem?_eq_some_iff.mp hq).1
    rw [show k = 0 by omega] at hq
    cases hq
    exact hat
theorem zsz {H : Heap} {locs : List Loc} {T : State} {p : Program} {l : Launch} {e : Env} {R : Room} {s : State} {m : MethodId} {args : Array Value} {below : List Frame} {meth : Method} {c : Code} (hs : s.heap.size = zb1 G + 1 + n0) (hR : zR G (n0 + ce) sh row s.heap H locs) (hT : T.heap = H) (X : Stand p l e R s m args below meth c T locs ce sl) : H.size = zb1 G + 1 + (n0 + ce) := by
  have h1 : T.heap.size ≤ s.heap.size + ce := X.same.2.2.1
  rw [hT] at h1
  have h2 := hR.2.2.1
  by_cases h0 : n0 + ce = 0
  · omega
  · have hg : (zW G (n0 + ce) sh row)[n0 + ce - 1]? = some (zb1 G + 1 + (n0 + ce - 1), zE G ((sh (n0 + ce - 1 + 1)).getD (0, 0, 0)) (row (n0 + ce - 1 + 1))) := by
      unfold zW
      rw [List.getElem?_map, List.getElem?_range (by omega)]
      rfl
    have h3 := (hR.2.1 _ _ hg).lt
    simp only at h3
    omega
theorem zv_def (ty : FieldType) : zv G (defaultValue ty) = defaultValue ty := by cases ty <;> rfl
def zNew (own : String) (idx ci N : Nat) (r : Nat → Value) : Prop := ∃ (C : String) (T : u_T) (ty0 : Nat → FieldType), vwCl[ci]? = some (C, T, N) ∧ (∀ w ∈ u_ws C T N, w ∈ zAll) ∧ (∀ k, k < N → parseFieldDescriptor (T k).2.2.1 = some (ty0 k)) ∧ Cond.classLink own idx C ∈ zAll ∧ Cond.instantiable C N ∈ zAll ∧ Cond.initialized C ∈ zAll ∧ ∀ k, k < N → defaultValue (ty0 k) = r k
theorem zx_new {idx ci N : Nat} {r : Nat → Value} (hd : decode (zcc F) pc = .ok (.new idx, 3)) (hf : zNew (zow F) idx ci N r) (hce : ce + 1 ≤ zmc F) (hsl : sl + N ≤ zms F) (kk : zX G K F n0 (ce + 1) (sl + N) (zps sh (n0 + (ce + 1)) (0, ci, N)) (zpr row (n0 + (ce + 1)) r) (pc + 3) ls (.ref (n0 + (ce + 1)) :: st)) : zX G K F n0 ce sl sh row pc ls st := by
  intro hF H locs lsA hR hL T hT X
  have hz := zsz hF.2.2.2.2.2.2.2.2.1 hR hT X
  obtain ⟨C, T0, ty0, hc, hin, hty, h4, h5, h6, h7⟩ := hf
  have hts := hF.2.2.2.2.1
  have hKn := hF.2.2.2.2.2.1.1 ci _ hc
  have hro := hF.2.2.2.2.2.2.2.2.2.2
  suffices hW : W (zp K) (zgl G) (ze K) (zRm K) (zs K) (zm K) (zar K) (zbe K) (zme K) (zc K) H locs ce sl (zQm K) (F0 (zm K) pc lsA (st.map (zv G))) from hW T hT X
  refine W.newcK (g := F0 (zm K) pc lsA (st.map (zv G))) hF.1 hF.2.1 hF.2.2.2.1 (hts _ h4) (hts _ h5) (hts _ h6) rfl hd (Nat.le_trans hce hro.2.2.1) (Nat.le_trans hsl hro.2.2.2.1) hKn.2.1 hz (fun H1 kC hkC e1 z1 o1 => ?_)
  have hat : va_at (zgD G) vwCl (zb1 G + 1 + (n0 + ce), zE G (0, ci, N) r) H1 := by
    refine ⟨_, hc, (u_born ty0 hts hin hKn hkC e1 hty).to (fun k hk => ?_)⟩
    show defaultValue (ty0 k) = vp_V ((List.range N).map (fun k => zv G (r k))) k
    unfold vp_V
    rw [List.getD_eq_getElem?_getD, zfs_get hk, ← h7 k hk, zv_def]
    rfl
  have hR1 := zR_push hR hz (by omega) (fun q hq => o1 q (by omega)) hat
  rw [Nat.add_assoc n0 ce 1] at hR1
  have k1 := kk hF H1 locs lsA hR1 hL
  have e : zv G (.ref (n0 + (ce + 1))) = .ref (zb1 G + 1 + (n0 + ce)) := by
    show Value.ref (zad G (n0 + (ce + 1))) = _
    rw [zad_pos (by omega)]
    exact congrArg Value.ref (show zb1 G + (n0 + (ce + 1)) = zb1 G + 1 + (n0 + ce) from (by omega))
  rw [List.map_cons, e] at k1
  exact k1
def zArr (t : Nat) (ty : FieldType) : Prop := zTy[t]? = some ty ∧ Cond.arrayClass ty ∈ zAll
theorem zx_newa {t N : Nat} {atype : ArrayType} {ty : FieldType} {v : Int32} (hd : decode (zcc F) pc = .ok (.newarray atype, 2)) (hf : zArr t ty) (hty : newarray.typeOf atype = ty) (h0 : defaultValue ty = .int 0) (hn : ¬ v < 0) (hN : v.toNatClampNeg = N) (hb : N * componentBytes ty ≤ 536870912) (hce : ce + 1 ≤ zmc F) (hsl : sl + N ≤ zms F) (kk : zX G K F n0 (ce + 1) (sl + N) (zps sh (n0 + (ce + 1)) (1, t, N)) (zpr row (n0 + (ce + 1)) (fun _ => .int 0)) (pc + 2) ls (.ref (n0 + (ce + 1)) :: st)) : zX G K F n0 ce sl sh row pc ls (.int v :: st) := by
  intro hF H locs lsA hR hL T hT X
  subst hty
  have hz := zsz hF.2.2.2.2.2.2.2.2.1 hR hT X
  have hts := hF.2.2.2.2.1
  have hro := hF.2.2.2.2.2.2.2.2.2.2
  suffices hW : W (zp K) (zgl G) (ze K) (zRm K) (zs K) (zm K) (zar K) (zbe K) (zme K) (zc K) H locs ce sl (zQm K) (F0 (zm K) pc lsA (.int v :: st.map (zv G))) from hW T hT X
  refine va_newaK (g := F0 (zm K) pc lsA (.int v :: st.map (zv G))) hF.1 hF.2.1 (hts _ hf.2) rfl hd rfl hn hN hb (Nat.le_trans hce hro.2.2.1) (Nat.le_trans hsl hro.2.2.2.1) hz (fun H1 cA e1 z1 o1 hAr hNm => ?_)
  have hcA : cA = zcA G t := by
    have h2 := (hF.2.2.2.2.2.1.2 t _ (zT_get hf.1)).2
    have h3 : (zs K).vm.findClass ("[" ++ (newarray.typeOf atype).toString) = some (zcA G t) := by
      cases atype <;> exact h2
    exact Option.some.inj (hNm.symm.trans h3)
  subst hcA
  have hat : va_at (zgD G) vwCl (zb1 G + 1 + (n0 + ce), zE G (1, t, N) (fun _ => .int 0)) H1 := by
    show H1[zb1 G + 1 + (n0 + ce)]? = some (vp_cell _ _)
    rw [e1, h0]
    rfl
  have hR1 := zR_push hR hz (by omega) (fun q hq => o1 q (by omega)) hat
  rw [Nat.add_assoc n0 ce 1] at hR1
  have k1 := kk hF H1 locs lsA hR1 hL
  have e : zv G (.ref (n0 + (ce + 1))) = .ref (zb1 G + 1 + (n0 + ce)) := by
    show Value.ref (zad G (n0 + (ce + 1))) = _
    rw [zad_pos (by omega)]
    exact congrArg Value.ref (show zb1 G + (n0 + (ce + 1)) = zb1 G + 1 + (n0 + ce) from (by omega))
  rw [List.map_cons, e] at k1
  exact k1
def zArq (own : String) (idx t : Nat) (C : String) : Prop := zTy[t]? = some (.object C) ∧ Cond.classLink own idx C ∈ zAll ∧ C ∈ zAo
theorem zx_newq {idx t N : Nat} {C : String} {v : Int32} (hd : decode (zcc F) pc = .ok (.anewarray idx, 3)) (hf : zArq (zow F) idx t C) (hn : ¬ v < 0) (hN : v.toNatClampNeg = N) (hb : N * 4 ≤ 536870912) (hce : ce + 1 ≤ zmc F) (hsl : sl + N ≤ zms F) (kk : zX G K F n0 (ce + 1) (sl + N) (zps sh (n0 + (ce + 1)) (2, t, N)) (zpr row (n0 + (ce + 1)) (fun _ => .null)) (pc + 3) ls (.ref (n0 + (ce + 1)) :: st)) : zX G K F n0 ce sl sh row pc ls (.int v :: st) := by
  intro hF H locs lsA hR hL T hT X
  subst hN
  have hz := zsz hF.2.2.2.2.2.2.2.2.1 hR hT X
  have hts := hF.2.2.2.2.1
  have hro := hF.2.2.2.2.2.2.2.2.2.2
  suffices hW : W (zp K) (zgl G) (ze K) (zRm K) (zs K) (zm K) (zar K) (zbe K) (zme K) (zc K) H locs ce sl (zQm K) (F0 (zm K) pc lsA (.int v :: st.map (zv G))) from hW T hT X
  refine W.anew (g := F0 (zm K) pc lsA (.int v :: st.map (zv G))) hF.1 hF.2.1 hF.2.2.2.1 (hts _ hf.2.1) (va_AO.use (hF.2.2.2.2.2.2.2.2.2.2.2.2.2.2.2 _ hf.2.2)) rfl hd rfl hn hb (Nat.le_trans hce hro.2.2.1) (Nat.le_trans hsl hro.2.2.2.1) (fun cA kA comp f1 f2 f3 f4 => ?_)
  have hcA : cA = zcA G t := by
    obtain ⟨kA', comp', -, -, -, h4⟩ := (hF.2.2.2.2.2.1.2 t _ (zT_get hf.1)).2
    exact Option.some.inj (f1.symm.trans h4)
  subst hcA
  generalize hH1 : H.push ({ cls := zcA G t, slots := Array.replicate v.toNatClampNeg .null, vm := .none } : Cell) = H1
  have z1 : H1.size = H.size + 1 := by rw [← hH1, Array.size_push]
  have e1 : H1[H.size]? = some (arrV (zcA G t) v.toNatClampNeg (fun _ => .null)) := by rw [← hH1, Array.getElem?_push_size, ← arrV_new]
  have o1 : ∀ q : Nat, q < H.size → H1[q]? = H[q]? := fun q hq => by rw [← hH1, Array.getElem?_push, if_neg (Nat.ne_of_lt hq)]
  have hat : va_at (zgD G) vwCl (zb1 G + 1 + (n0 + ce), zE G (2, t, v.toNatClampNeg) (fun _ => .null)) H1 := by
    show H1[zb1 G + 1 + (n0 + ce)]? = some (vp_cell _ _)
    rw [← hz, e1]
    rfl
  have hR1 := zR_push hR hz z1 o1 hat
  rw [Nat.add_assoc n0 ce 1] at hR1
  have k1 := kk hF H1 locs lsA hR1 hL
  have e : zv G (.ref (n0 + (ce + 1))) = .ref H.size := by
    show Value.ref (zad G (n0 + (ce + 1))) = _
    rw [zad_pos (by omega), hz]
    exact congrArg Value.ref (show zb1 G + (n0 + (ce + 1)) = zb1 G + 1 + (n0 + ce) from (by omega))
  rw [List.map_cons, e] at k1
  exact k1
/-- returns -/
theorem zx_end {Q : Option Value → zSh → zRw → Prop} {r : Option Value} {H : Heap} {locs : List Loc} (hF : zOk G K F n0) (hE : zEnd G K F n0 Q) (hc : ce = zmc F) (hq : Q r sh row) (hR : zR G (n0 + ce) sh row (zs K).heap H locs) : ∀ t : State, t.heap = H → (zs K).WarmedH t.vm → zQ G (n0 + zmc F) Q (zar K) (zs K) (.returned (r.map (zv G))) t := by
  intro t ht _
  subst hc
  exact ⟨⟨r, sh, row, rfl, hq, hR.1, by rw [ht]; exact hR.2.1⟩, hR.2.2.F ht⟩
theorem zx_iret {Q : Option Value → zSh → zRw → Prop} {x : Int32} (hE : zEnd G K F n0 Q) (hrt0 : zrt F = some .int) (hd : decode (zcc F) pc = .ok (.ireturn, 1)) (hc : ce = zmc F) (hs : sl ≤ zms F) (hq : Q (some (.int x)) sh row) : zX G K F n0 ce sl sh row pc ls [.int x] := by
  intro hF H locs lsA hR hL
  have h1 := zx_end hF hE hc hq hR
  refine W.widen (k := zmc F) (n := zms F) (by omega) hs ?_
  rw [hE.1]
  exact W.iret hF.1 hF.2.1 (hE.2.1.trans hrt0) h1 (fun q hq => hR.2.2.2.2 q hq) hd hF.2.2.2.2.2.2.2.2.2.1
theorem zx_zret {ty : FieldType} {Q : Option Value → zSh → zRw → Prop} {x : Int32} (hE : zEnd G K F n0 Q) (hrt0 : zrt F = some ty) (hn : narrow ty (.int x) = .int x) (hd : decode (zcc F) pc = .ok (.ireturn, 1)) (hc : ce = zmc F) (hs : sl ≤ zms F) (hq : Q (some (.int x)) sh row) : zX G K F n0 ce sl sh row pc ls [.int x] := by
  intro hF H locs lsA hR hL
  have h1 := zx_end hF hE hc hq hR
  refine W.widen (k := zmc F) (n := zms F) (by omega) hs ?_
  rw [hE.1]
  exact W.zret hF.1 hF.2.1 (hE.2.1.trans hrt0) hn h1 (fun q hq => hR.2.2.2.2 q hq) hd hF.2.2.2.2.2.2.2.2.2.1
theorem zx_vret {Q : Option Value → zSh → zRw → Prop} (hE : zEnd G K F n0 Q) (hrt0 : zrt F = none) (hd : decode (zcc F) pc = .ok (.return_, 1)) (hc : ce = zmc F) (hs : sl ≤ zms F) (hq : Q none sh row) : zX G K F n0 ce sl sh row pc ls [] := by
  intro hF H locs lsA hR hL
  have h1 := zx_end hF hE hc hq hR
  refine W.widen (k := zmc F) (n := zms F) (by omega) hs ?_
  rw [hE.1]
  exact W.vret hF.1 hF.2.1 (hE.2.1.trans hrt0) h1 (fun q hq => hR.2.2.2.2 q hq) hd hF.2.2.2.2.2.2.2.2.2.1
theorem zx_aret {rt : FieldType} {Q : Option Value → zSh → zRw → Prop} {a : Nat} (hE : zEnd G K F n0 Q) (hrt0 : zrt F = some rt) (hrt : (∃ n, rt = .object n) ∨ ∃ t, rt = .array t) (hd : decode (zcc F) pc = .ok (.areturn, 1)) (hc : ce = zmc F) (hs : sl ≤ zms F) (hq : Q (some (.ref a)) sh row) : zX G K F n0 ce sl sh row pc ls [.ref a] := by
  intro hF H locs lsA hR hL
  have h1 := zx_end hF hE hc hq hR
  refine W.widen (k := zmc F) (n := zms F) (by omega) hs ?_
  rw [hE.1]
  exact W.aret hF.1 hF.2.1 (hE.2.1.trans hrt0) hrt (Or.inr ⟨_, rfl⟩) h1 (fun q hq => hR.2.2.2.2 q hq) hd hF.2.2.2.2.2.2.2.2.2.1
/-- a contract out of the body's walk -/
theorem z_args {vs : List Value} : ∀ (k : Nat), (∀ v ∈ vs, v.category = 1) → ∀ (i : Nat) (v : Value), vs[i]? = some v → (k + i, v) ∈ lv_args k vs := by
  induction vs with
  | nil => intro k _ i v h; cases h
  | cons w ws ih =>
    intro k hc i v h
    have hw : ¬ w.category = 2 := by rw [hc w List.mem_cons_self]; decide
    unfold lv_args
    cases i with
    | zero => cases h; exact List.mem_cons_self
    | succ i =>
      rw [if_neg hw]
      have := ih (k + 1) (fun v hv => hc v (List.mem_cons_of_mem _ hv)) i v h
      rw [show k + (i + 1) = k + 1 + i by omega]
      exact List.mem_cons_of_mem _ this
theorem z_sl {vs : List Value} (hc : ∀ v ∈ vs, v.category = 1) : (lg_sl vs).length = vs.length := by
  induction vs with
  | nil => rfl
  | cons w ws ih =>
    have hw : ¬ w.category = 2 := by rw [hc w List.mem_cons_self]; decide
    have := ih (fun v hv => hc v (List.mem_cons_of_mem _ hv))
    simp only [lg_sl, List.flatMap_cons, hw, if_false, List.length_append, List.length_cons, List.length_nil] at this ⊢
    omega
theorem z_entry {G : zG} {m : MethodId} {vs : List Value} {nL : Nat} (hc : ∀ v ∈ vs, v.category = 1) (hn : vs.length ≤ nL) : ∃ lsA, entryFrame m (vs.map (zv G)).toArray nL = F0 m 0 lsA [] ∧ zL G lsA nL (vs ++ List.replicate (nL - vs.length) (.retAddr 0)) := by
  have hc' : ∀ v ∈ vs.map (zv G), v.category = 1 := by
    intro v hv
    obtain ⟨w, hw, rfl⟩ := List.mem_map.mp hv
    rw [zv_cat]
    exact hc w hw
  have hl := lv_entry (vs.map (zv G)) (n := nL) (by rw [z_sl hc', List.length_map]; exact hn)
  refine ⟨_, lg_entry_eq _ _ _, hl.1, hl.2.1, by simp; omega, fun i v hi hv => ?_⟩
  have hi' : vs[i]? = some v := by
    by_cases h : i < vs.length
    · rw [List.getElem?_append_left h] at hi
      exact hi
    · rw [List.getElem?_append_right (by omega)] at hi
      exact absurd (List.eq_of_mem_replicate (List.mem_of_getElem? hi)) (hv 0)
  have := z_args (vs := vs.map (zv G)) 0 hc' i (zv G v) (by rw [List.getElem?_map, hi']; rfl)
  have h3 := hl.2.2 _ this
  simpa using h3
theorem zM.of {av : List Value} {n : Nat} {Q : Option Value → zSh → zRw → Prop} (hy : plainName (zow F) = true) (ha : av.length ≤ znL F) (hcat : ∀ v ∈ av, v.category = 1)
    (body : ∀ K : zK, zEnd G K F n Q → zX G K F n 0 0 sh row 0 (av ++ List.replicate (znL F - av.length) (.retAddr 0)) []) : zM G F av n sh row Q := by
  refine Met.ofW (cc := zcc F) (maxL := znL F) (ret := zrt F) hy rfl ?_
  intro p e s m args below meth c s₁ B hml hv
  obtain ⟨rfl, hsz, hI, hP, hK, hX, hb, hN⟩ := hv
  obtain ⟨lsA, e1, hL⟩ := z_entry (G := G) (m := m) hcat ha
  rw [e1]
  have hown : s.vm.findClass (zow F) = some m.cls := findClass_of_methodNamed B.named
  have hnm : meth.name = (zy F).name := (name_of_methodNamed B.named B.method).1
  have hts := atoms_spec (ws := zTs F) B.pre
  exact body (p, e, (headSpec (zTs F) (zrm F)).room, s, m, (av.map (zv G)).toArray, below, meth, c, MQ below (zQ G (n + zmc F) Q) (av.map (zv G)).toArray s (zmc F) (zms F) (zA G)) ⟨rfl, B.returns, hnm⟩
    ⟨B.exec, B.bytes, hml, hown, fun w hw => hts w (List.mem_cons_of_mem _ hw), hK, hX, hb, hsz, B.notSynchronized, Nat.le_refl _, Nat.le_refl _, Nat.le_refl _, Nat.le_refl _, hN⟩ s.heap [] lsA ⟨hI, hP, va_S.rf⟩ hL

/-- calls -/
theorem z_blind {av : List Value} {n : Nat} : FrameBlind (va_Pc (av.map (zv G)) (zI G n sh row)) := fun a U g mk h => by
  obtain ⟨q0, q1, q2, q3, q4, q5, q6, q7⟩ := h
  exact ⟨q0, q1, q2, q3, va_K.moved (u := U) (U := U.calling g mk a) (Vm.Alike.refl U.vm) q4, va_X.moved (u := U) (U := U.calling g mk a) (Vm.Alike.refl U.vm) q5, q6, zNs.same (s := U) (U := U.calling g mk a) rfl q7⟩
theorem z_pre {av : List Value} {H : Heap} {locs : List Loc} (hF : zOk G K F n0) (hR : zR G (n0 + ce) sh row (zs K).heap H locs) (hz : H.size = zb1 G + 1 + (n0 + ce)) : ∀ U : State, U.heap = H → (zs K).WarmedH U.vm → va_Pc (av.map (zv G)) (zI G (n0 + ce) sh row) (av.map (zv G)).toArray U := by
  intro U hU hW
  refine ⟨rfl, by rw [hU]; exact hz, hR.1, by rw [hU]; exact hR.2.1, va_K.moved hW.alike hF.2.2.2.2.2.1, ?_, hF.2.2.2.2.2.2.2.1, zNs.warm hW hF.2.2.2.2.2.2.2.2.2.2.2.2.2.2⟩
  refine va_X.moved hW.alike (va_X.kept hF.2.2.2.2.2.2.1 ?_)
  rw [hU]
  have h1 := hF.2.2.2.2.2.2.2.1
  have h2 := hF.2.2.2.2.2.2.2.2.1
  exact hR.2.2.2.1 _ (by omega) (by show ¬ zb1 G + 1 ≤ zbS G; omega)
theorem z_cont {H : Heap} {locs : List Loc} {lsA : Array Slot} {st0 : List Value} {mc ms n' : Nat} {a : Array Value} {Q : Option Value → zSh → zRw → Prop} (hF : zOk G K F n0) (hR : zR G (n0 + ce) sh row (zs K).heap H locs) (hL : zL G lsA (znL F) ls) (hn : n' = n0 + (ce + mc))
    (hr : va_Run (zp K) (zgl G) (ze K) (zRm K) (zs K) (zm K) (zar K) (zbe K) (zme K) (zc K) H locs ce sl mc ms (F0 (zm K) pc lsA st0) (st.map (zv G)) (zQ G n' Q a) (zA G))
    (kk : ∀ r sh' row', Q r sh' row' → zX G K F n0 (ce + mc) (sl + ms) sh' row' (pc + 3) ls (r.toList ++ st)) : W (zp K) (zgl G) (ze K) (zRm K) (zs K) (zm K) (zar K) (zbe K) (zme K) (zc K) H locs ce sl (zQm K) (F0 (zm K) pc lsA st0) := by
  intro T hT X
  subst hn
  obtain ⟨v, st₀, t, T', L, h0, X', hL', e1, e2, ⟨⟨r, sh', row', hv, hq, hI', hP'⟩, hz, hk⟩, go⟩ := hr T hT X
  cases hv
  rw [h0] at hz hk
  have hS := hR.2.2
  have hS' : va_S (zA G) (zs K).heap T'.heap (locs ++ L) := ⟨Nat.le_trans hS.1 (by rw [e1]; exact hz), fun q h1 h2 => by rw [e1, hk q (Nat.lt_of_lt_of_le h1 hS.1) h2]; exact hS.2.1 q h1 h2, fun q hq => by
    rcases List.mem_append.mp hq with h | h
    · exact hS.2.2 q h
    · exact hL' q h⟩
  have k1 := kk r sh' row' hq hF T'.heap (locs ++ L) lsA ⟨hI', by rw [e1]; exact hP', hS'⟩ hL
  have e : (r.toList ++ st).map (zv G) = (r.map (zv G)).toList ++ st.map (zv G) := by cases r <;> simp
  rw [e] at k1
  obtain ⟨t2, a1, b1⟩ := k1 T' rfl X'
  exact ⟨t2, go t2 a1, b1⟩
/-- what a call needs of a method -/
def zMe (F : zF) (nA : Nat) : Prop := Cond.code (zy F) (zcc F) (znL F) (zrt F) ∈ zAll ∧ Cond.initialized (zow F) ∈ zAll ∧ (zow F ≠ "java/lang/invoke/MethodHandle" ∧ zow F ≠ "java/lang/invoke/VarHandle" ∧ (parseMethodDescriptor (zy F).desc).map (fun d => d.parameters.length) = some nA)
def zLv (own : String) (idx : Nat) (y : MethodName) : Prop := Cond.methodLink own idx y ∈ zAll ∧ Cond.instanceMethod y ∈ zAll ∧ Cond.selects y.cls y y ∈ zAll
def zLs (own : String) (idx : Nat) (y : MethodName) : Prop := Cond.methodLink own idx y ∈ zAll ∧ Cond.static y ∈ zAll
def zLi (own : String) (idx : Nat) (y : MethodName) : Prop := Cond.methodLink own idx y ∈ zAll ∧ Cond.instanceMethod y ∈ zAll ∧ y.name = "<init>"
theorem zMe.good {F' : zF} {nA : Nat} (h : zMe F' nA) : GoodIn zAll (zTs F') := fun w hw => by
  rcases List.mem_cons.mp hw with rfl | hw
  · exact ⟨h.1, zA_good _ h.1⟩
  · exact ⟨hw, zA_good w hw⟩
def zRo (F F' : zF) (ce sl : Nat) (st : List Value) : Prop := zd F' + 1 ≤ zd F ∧ znL F' ≤ 21 ∧ ce + zmc F' ≤ zmc F ∧ sl + zms F' ≤ zms F ∧ (st.map fun v => v.category).sum ≤ 8
theorem zRo.room {F' : zF} (h : zRo F F' ce sl st) (hF : zOk G K F n0) : (zrm F').frames + 1 ≤ (zRm K).frames ∧ 8 + (znL F' + 11) + (zrm F').locals ≤ (zRm K).locals := by
  obtain ⟨h1, h2, -⟩ := h
  have h3 := hF.2.2.2.2.2.2.2.2.2.2.1
  have h4 := hF.2.2.2.2.2.2.2.2.2.2.2.1
  refine ⟨by show zd F' + 1 ≤ _; omega, by show 8 + (znL F' + 11) + 40 * zd F' ≤ _; omega⟩
theorem zRo.cells {F' : zF} (h : zRo F F' ce sl st) (hF : zOk G K F n0) : ce + zmc F' ≤ (zRm K).cells ∧ sl + zms F' ≤ (zRm K).slots := by
  obtain ⟨-, -, h3, h4, -⟩ := h
  have h5 := hF.2.2.2.2.2.2.2.2.2.2.2.2
  exact ⟨Nat.le_trans h3 h5.1, Nat.le_trans h4 h5.2.1⟩
theorem zRo.stk {F' : zF} (h : zRo F F' ce sl st) : ((st.map (zv G)).map fun v => v.category).sum ≤ 8 := by
  have h1 := h.2.2.2.2
  rw [List.map_map]
  have e : (fun v => v.category) ∘ zv G = fun v : Value => v.category := by funext v; exact zv_cat v
  rw [e]
  exact h1
theorem z_reva {As : List Value} {w : Value} : (As.reverse ++ w :: st).map (zv G) = (As.map (zv G)).reverse ++ zv G w :: st.map (zv G) := by
  rw [List.map_append, List.map_reverse, List.map_cons]
theorem z_revs {As : List Value} : (As.reverse ++ st).map (zv G) = (As.map (zv G)).reverse ++ st.map (zv G) := by
  rw [List.map_append, List.map_reverse]
section ZCalls
variable {F' : zF} {idx nA b ci N : Nat} {As : List Value} {Q : Option Value → zSh → zRw → Prop}
theorem zx_callV {T0 : u_T} (hM : zM G F' (.ref b :: As) (n0 + ce) sh row Q) (hC : zMe F' nA) (hl : zLv (zow F) idx (zy F')) (hb : sh b = some (0, ci, N)) (hcl : vwCl[ci]? = some (zow F', T0, N)) (hn : As.length = nA) (hro : zRo F F' ce sl st) (hd : decode (zcc F) pc = .ok (.invokevirtual idx, 3))
    (kk : ∀ r sh' row', Q r sh' row' → zX G K F n0 (ce + zmc F') (sl + zms F') sh' row' (pc + 3) ls (r.toList ++ st)) : zX G K F n0 ce sl sh row pc ls (As.reverse ++ .ref b :: st) := by
  intro hF H locs lsA hR hL T hT X
  have hz := zsz hF.2.2.2.2.2.2.2.2.1 hR hT X
  have hts := hF.2.2.2.2.1
  rw [z_reva]
  refine z_cont (n' := n0 + ce + zmc F') (a := ((.ref b :: As).map (zv G)).toArray) hF hR hL (by omega) (va_runV (rest := st.map (zv G)) (b := zad G b) (As := As.map (zv G)) (C := zow F') ⟨hF.1, hF.2.1, hF.2.2.1, hF.2.2.2.1, hts⟩ hM ⟨callB_of nA hts hC.good rfl rfl rfl (hts _ hC.2.1) (hts _ hl.1) hC.2.2 (hro.room hF), hts _ hl.2.1, hts _ hl.2.2⟩ ⟨z_blind, ?_, z_pre (av := .ref b :: As) hF hR hz⟩ rfl (by simpa using hn) hL.1 rfl (lv_room hro.stk) hd (hro.cells hF)) kk T hT X
  exact va_recv (q := (zow F', T0, N)) hF.2.2.2.2.2.1 hR.2.1 hcl (zW_get hR.1 hb)
theorem zx_callS (hM : zM G F' As (n0 + ce) sh row Q) (hC : zMe F' nA) (hl : zLs (zow F) idx (zy F')) (hn : As.length = nA) (hro : zRo F F' ce sl st) (hd : decode (zcc F) pc = .ok (.invokestatic idx, 3))
    (kk : ∀ r sh' row', Q r sh' row' → zX G K F n0 (ce + zmc F') (sl + zms F') sh' row' (pc + 3) ls (r.toList ++ st)) : zX G K F n0 ce sl sh row pc ls (As.reverse ++ st) := by
  intro hF H locs lsA hR hL T hT X
  have hz := zsz hF.2.2.2.2.2.2.2.2.1 hR hT X
  have hts := hF.2.2.2.2.1
  rw [z_revs]
  exact z_cont (n' := n0 + ce + zmc F') (a := (As.map (zv G)).toArray) hF hR hL (by omega) (va_runS (rest := st.map (zv G)) (As := As.map (zv G)) ⟨hF.1, hF.2.1, hF.2.2.1, hF.2.2.2.1, hts⟩ hM ⟨callB_of nA hts hC.good rfl rfl rfl (hts _ hC.2.1) (hts _ hl.1) hC.2.2 (hro.room hF), hts _ hl.2⟩ ⟨z_blind, z_pre (av := As) hF hR hz⟩ rfl (by simpa using hn) hL.1 rfl (lv_room hro.stk) hd (hro.cells hF)) kk T hT X
theorem zx_callI (hM : zM G F' (.ref b :: As) (n0 + ce) sh row Q) (hC : zMe F' nA) (hr : zrt F' = none) (hl : zLi (zow F) idx (zy F')) (hn : As.length = nA) (hro : zRo F F' ce sl st) (hd : decode (zcc F) pc = .ok (.invokespecial idx, 3))
    (kk : ∀ r sh' row', Q r sh' row' → zX G K F n0 (ce + zmc F') (sl + zms F') sh' row' (pc + 3) ls (r.toList ++ st)) : zX G K F n0 ce sl sh row pc ls (As.reverse ++ .ref b :: st) := by
  intro hF H locs lsA hR hL T hT X
  have hz := zsz hF.2.2.2.2.2.2.2.2.1 hR hT X
  have hts := hF.2.2.2.2.1
  rw [z_reva]
  exact z_cont (n' := n0 + ce + zmc F') (a := ((.ref b :: As).map (zv G)).toArray) hF hR hL (by omega) (va_runI (rest := st.map (zv G)) (b := zad G b) (As := As.map (zv G)) ⟨hF.1, hF.2.1, hF.2.2.1, hF.2.2.2.1, hts⟩ hM ⟨callB_of nA hts hC.good (by show Cond.code (zy F') (zcc F') (znL F') (zrt F') :: zAll = _; rw [hr]) rfl rfl (hts _ hC.2.1) (hts _ hl.1) hC.2.2 (hro.room hF), hl.2.2, hts _ hl.2.1⟩ ⟨z_blind, z_pre (av := .ref b :: As) hF hR hz⟩ rfl (by simpa using hn) hL.1 rfl (lv_room hro.stk) hd (hro.cells hF)) kk T hT X
end ZCalls
/-- Object(), Math.min -/
theorem zx_obj {a idx : Nat} (hd : decode (zcc F) pc = .ok (.invokespecial idx, 3)) (hl : Cond.methodLink (zow F) idx Lib.objectInit ∈ zAll ∧ Cond.instanceMethod Lib.objectInit ∈ zAll ∧ Cond.code Lib.objectInit ⟨#[0xb1]⟩ 1 none ∈ zAll) (hz : 1 ≤ zd F) (hs : (st.map fun v => v.category).sum ≤ 8) (kk : zX G K F n0 ce sl sh row (pc + 3) ls st) : zX G K F n0 ce sl sh row pc ls (.ref a :: st) := by
  intro hF H locs lsA hR hL
  have hts := hF.2.2.2.2.1
  have h3 := hF.2.2.2.2.2.2.2.2.2.2.1
  have h4 := hF.2.2.2.2.2.2.2.2.2.2.2.1
  have h5 : ((st.map (zv G)).map fun v => v.category).sum ≤ 8 := by
    rw [List.map_map]
    have e : (fun v => v.category) ∘ zv G = fun v : Value => v.category := by funext v; exact zv_cat v
    rw [e]
    exact hs
  exact W.objInit hF.1 hF.2.1 hF.2.2.2.1 (hts _ hl.1) (hts _ hl.2.1) (hts _ hl.2.2) rfl (by show lsA.size = _; rw [hF.2.2.1]; exact hL.1) rfl hd (by omega) (by show 2 * 0 + _ + 12 ≤ _; omega) (kk hF H locs lsA hR hL)
theorem zx_min {x z : Int32} {idx : Nat} (hd : decode (zcc F) pc = .ok (.invokestatic idx, 3)) (hl : Cond.methodLink (zow F) idx Lib.Math.min.name ∈ zAll ∧ Cond.static Lib.Math.min.name ∈ zAll ∧ Cond.initialized "java/lang/Math" ∈ zAll ∧ Cond.code Lib.Math.min.name Lib.Math.min.code 2 (some .int) ∈ zAll) (hz : 1 ≤ zd F) (hs : (st.map fun v => v.category).sum ≤ 8) (hce : ce ≤ zmc F) (hsl : sl ≤ zms F) (kk : zX G K F n0 ce sl sh row (pc + 3) ls (.int (if z < x then z else x) :: st)) : zX G K F n0 ce sl sh row pc ls (.int z :: .int x :: st) := by
  intro hF H locs lsA hR hL
  have hts := hF.2.2.2.2.1
  have h3 := hF.2.2.2.2.2.2.2.2.2.2.1
  have h4 := hF.2.2.2.2.2.2.2.2.2.2.2.1
  have h6 := hF.2.2.2.2.2.2.2.2.2.2.2.2
  have h5 : ((st.map (zv G)).map fun v => v.category).sum ≤ 8 := by
    rw [List.map_map]
    have e : (fun v => v.category) ∘ zv G = fun v : Value => v.category := by funext v; exact zv_cat v
    rw [e]
    exact hs
  exact va_mmin hF.1 hF.2.1 (by rw [hF.2.2.1]; exact hL.1.symm) hF.2.2.2.1 (hts _ hl.1) (hts _ hl.2.1) (hts _ hl.2.2.1) (hts _ hl.2.2.2) (by omega) (by omega) (Nat.le_trans hce h6.1) (Nat.le_trans hsl h6.2.1) hd (kk hF H locs lsA hR hL)
theorem zx_look {dflt : Int} {ps : Array (Int × Int)} {len : Nat} {x : Int32} {off : Int} {tgt : Nat} (hd : decode (zcc F) pc = .ok (.lookupswitch dflt ps, len)) (hp : (ps.toList.zip (ps.toList.drop 1)).all (fun (a, next) => a.1 < next.1) = true) (ho : Op.lookupswitch.offset ps.toList dflt x.toInt = off) (ht : (pc : Int) + off = (tgt : Int)) (kk : zX G K F n0 ce sl sh row tgt ls st) : zX G K F n0 ce sl sh row pc ls (.int x :: st) :=
  fun hF H locs lsA hR hL => lv_lookup hF.1 hF.2.1 hd hp ho ht (kk hF H locs lsA hR hL)
theorem zx_tabO {dflt lo hi : Int} {offs : Array Int} {len : Nat} {x : Int32} {tgt : Nat} (hd : decode (zcc F) pc = .ok (.tableswitch dflt lo hi offs, len)) (h : x.toInt < lo ∨ hi < x.toInt) (ht : (pc : Int) + dflt = (tgt : Int)) (kk : zX G K F n0 ce sl sh row tgt ls st) : zX G K F n0 ce sl sh row pc ls (.int x :: st) :=
  fun hF H locs lsA hR hL => lv_tableOut hF.1 hF.2.1 hd h ht (kk hF H locs lsA hR hL)
theorem zx_tabI {dflt lo hi : Int} {offs : Array Int} {len : Nat} {x : Int32} {off : Int} {tgt : Nat} (hd : decode (zcc F) pc = .ok (.tableswitch dflt lo hi offs, len)) (h1 : ¬ x.toInt < lo) (h2 : ¬ hi < x.toInt) (ho : offs[(x.toInt - lo).toNat]? = some off) (ht : (pc : Int) + off = (tgt : Int)) (kk : zX G K F n0 ce sl sh row tgt ls st) : zX G K F n0 ce sl sh row pc ls (.int x :: st) :=
  fun hF H locs lsA hR hL => lv_tableIn hF.1 hF.2.1 hd h1 h2 ho ht (kk hF H locs lsA hR hL)
/-- System.arraycopy of chars or ints -/
theorem zx_copy {a a' t N N' idx : Nat} {ty : FieldType} {sp dp w : Int32} (hd : decode (zcc F) pc = .ok (.invokestatic idx, 3)) (hl : Cond.methodLink (zow F) idx arraycopyName ∈ zAll ∧ Cond.native arraycopyName ∈ zAll ∧ Cond.static arraycopyName ∈ zAll ∧ Cond.initialized "java/lang/System" ∈ zAll) (hs : sh a = some (1, t, N)) (hs' : sh a' = some (1, t, N')) (ht : zTy[t]? = some ty) (hp : refKind ty = false) (h1 : ¬ sp < 0) (h2 : ¬ dp < 0) (h3 : ¬ w < 0) (h4 : sp.toNatClampNeg + w.toNatClampNeg ≤ N) (h5 : dp.toNatClampNeg + w.toNatClampNeg ≤ N') (hfit : ∀ i, i < w.toNatClampNeg → fits ty (.int (zi (row a (sp.toNatClampNeg + i)))) = true) (hz : 2 ≤ zd F) (hst : (st.map fun v => v.category).sum ≤ 8)
    (kk : zX G K F n0 ce sl sh (zpr row a' (fun k => .int (va_cpy (fun k => zi (row a k)) (fun k => zi (row a' k)) sp.toNatClampNeg dp.toNatClampNeg w.toNatClampNeg k))) (pc + 3) ls st) : zX G K F n0 ce sl sh row pc ls (.int w :: .int dp :: .ref a' :: .int sp :: .ref a :: st) := by
  intro hF H locs lsA hR hL
  have hts := hF.2.2.2.2.1
  have g3 := hF.2.2.2.2.2.2.2.2.2.2.1
  have g4 := hF.2.2.2.2.2.2.2.2.2.2.2.1
  have g5 : ((st.map (zv G)).map fun v => v.category).sum ≤ 8 := by
    rw [List.map_map]
    have e : (fun v => v.category) ∘ zv G = fun v : Value => v.category := by funext v; exact zv_cat v
    rw [e]
    exact hst
  have g6 : nativeFrameWords "java/lang/System" "arraycopy" 5 + 11 ≤ 60 := by decide +kernel
  refine va_copyi (D := zgD G) (cl := vwCl) (tys := zT G) (A := zA G) (ws := zW G (n0 + ce) sh row) (f := fun k => zi (row a k)) (g := fun k => zi (row a' k)) (c0 := zcA G t) (c1 := zcA G t) (n0 := N) (n1 := N') (ty := ty) hF.1 hF.2.1 (by rw [hF.2.2.1]; exact hL.1.symm) hF.2.2.2.1 (hts _ hl.1) (hts _ hl.2.1) (hts _ hl.2.2.1) (hts _ hl.2.2.2) hF.2.2.2.2.2.1 hR.2.1 zW_D hR.2.2 (a - 1) (a' - 1) t t (zW_get hR.1 hs) (zW_get hR.1 hs') (zT_get ht) (zT_get ht) hp h1 h2 h3 h4 h5 hfit (by omega) (by omega) hd (fun H1 locs1 hP1 _ hS1 => kk hF H1 locs1 lsA ⟨hR.1, ?_, hS1⟩ hL)
  rw [← zW_set (G := G) (row := row) hR.1 hs' (zpr_self) (fun b hb => zpr_ne hb)]
  exact hP1

end ZRows
end
section
theorem arI : zArr 0 .int := ⟨rfl, (zA1 (i := 74) rfl rfl)⟩
theorem arC : zArr 1 .char := ⟨rfl, (zA1 (i := 36) rfl rfl)⟩
theorem arZ : zArr 2 .boolean := ⟨rfl, (zA3 (i := 98) rfl rfl)⟩
theorem tpP_0 : zTyp 0 0 4 (tyP 0) true := ⟨RP, TP, tyP, rfl, tyP_ok, nmP, rfl, rfl⟩
theorem tpP_1 : zTyp 0 1 4 (tyP 1) false := ⟨RP, TP, tyP, rfl, tyP_ok, nmP, rfl, rfl⟩
theorem tpP_2 : zTyp 0 2 4 (tyP 2) false := ⟨RP, TP, tyP, rfl, tyP_ok, nmP, rfl, rfl⟩
theorem tpP_3 : zTyp 0 3 4 (tyP 3) false := ⟨RP, TP, tyP, rfl, tyP_ok, nmP, rfl, rfl⟩
theorem tpQ_0 : zTyp 1 0 6 (tyQ 0) true := ⟨RQ, TQ, tyQ, rfl, tyQ_ok, nmQ, rfl, rfl⟩
theorem tpQ_1 : zTyp 1 1 6 (tyQ 1) true := ⟨RQ, TQ, tyQ, rfl, tyQ_ok, nmQ, rfl, rfl⟩
theorem tpQ_2 : zTyp 1 2 6 (tyQ 2) true := ⟨RQ, TQ, tyQ, rfl, tyQ_ok, nmQ, rfl, rfl⟩
theorem tpQ_3 : zTyp 1 3 6 (tyQ 3) false := ⟨RQ, TQ, tyQ, rfl, tyQ_ok, nmQ, rfl, rfl⟩
theorem tpQ_4 : zTyp 1 4 6 (tyQ 4) true := ⟨RQ, TQ, tyQ, rfl, tyQ_ok, nmQ, rfl, rfl⟩
theorem tpQ_5 : zTyp 1 5 6 (tyQ 5) false := ⟨RQ, TQ, tyQ, rfl, tyQ_ok, nmQ, rfl, rfl⟩
theorem tpR_0 : zTyp 2 0 3 (tyR 0) true := ⟨RR, TR, tyR, rfl, tyR_ok, nmR, rfl, rfl⟩
theorem tpR_1 : zTyp 2 1 3 (tyR 1) false := ⟨RR, TR, tyR, rfl, tyR_ok, nmR, rfl, rfl⟩
theorem tpR_2 : zTyp 2 2 3 (tyR 2) false := ⟨RR, TR, tyR, rfl, tyR_ok, nmR, rfl, rfl⟩
theorem tpH_0 : zTyp 3 0 3 (tyH 0) false := ⟨RH, TH, tyH, rfl, tyH_ok, nmH, rfl, rfl⟩
theorem tpH_1 : zTyp 3 1 3 (tyH 1) false := ⟨RH, TH, tyH, rfl, tyH_ok, nmH, rfl, rfl⟩
theorem tpH_2 : zTyp 3 2 3 (tyH 2) false := ⟨RH, TH, tyH, rfl, tyH_ok, nmH, rfl, rfl⟩
theorem tpS_0 : zTyp 4 0 5 (tyS 0) true := ⟨RS, TS, tyS, rfl, tyS_ok, nmS, rfl, rfl⟩
theorem tpS_1 : zTyp 4 1 5 (tyS 1) true := ⟨RS, TS, tyS, rfl, tyS_ok, nmS, rfl, rfl⟩
theorem tpS_2 : zTyp 4 2 5 (tyS 2) false := ⟨RS, TS, tyS, rfl, tyS_ok, nmS, rfl, rfl⟩
theorem tpS_3 : zTyp 4 3 5 (tyS 3) false := ⟨RS, TS, tyS, rfl, tyS_ok, nmS, rfl, rfl⟩
theorem tpS_4 : zTyp 4 4 5 (tyS 4) false := ⟨RS, TS, tyS, rfl, tyS_ok, nmS, rfl, rfl⟩
theorem tpT_0 : zTyp 5 0 2 (tyT 0) true := ⟨RT, TT, tyT, rfl, tyT_ok, nmT, rfl, rfl⟩
theorem tpT_1 : zTyp 5 1 2 (tyT 1) false := ⟨RT, TT, tyT, rfl, tyT_ok, nmT, rfl, rfl⟩
theorem tpX_0 : zTyp 6 0 12 (tyX 0) true := ⟨RX, TX, tyX, rfl, tyX_ok, nmX, rfl, rfl⟩
theorem tpX_1 : zTyp 6 1 12 (tyX 1) true := ⟨RX, TX, tyX, rfl, tyX_ok, nmX, rfl, rfl⟩
theorem tpX_2 : zTyp 6 2 12 (tyX 2) true := ⟨RX, TX, tyX, rfl, tyX_ok, nmX, rfl, rfl⟩
theorem tpX_3 : zTyp 6 3 12 (tyX 3) true := ⟨RX, TX, tyX, rfl, tyX_ok, nmX, rfl, rfl⟩
theorem tpX_4 : zTyp 6 4 12 (tyX 4) true := ⟨RX, TX, tyX, rfl, tyX_ok, nmX, rfl, rfl⟩
theorem tpX_5 : zTyp 6 5 12 (tyX 5) false := ⟨RX, TX, tyX, rfl, tyX_ok, nmX, rfl, rfl⟩
theorem tpX_6 : zTyp 6 6 12 (tyX 6) false := ⟨RX, TX, tyX, rfl, tyX_ok, nmX, rfl, rfl⟩
theorem tpX_7 : zTyp 6 7 12 (tyX 7) false := ⟨RX, TX, tyX, rfl, tyX_ok, nmX, rfl, rfl⟩
theorem tpX_8 : zTyp 6 8 12 (tyX 8) false := ⟨RX, TX, tyX, rfl, tyX_ok, nmX, rfl, rfl⟩
theorem tpX_9 : zTyp 6 9 12 (tyX 9) true := ⟨RX, TX, tyX, rfl, tyX_ok, nmX, rfl, rfl⟩
theorem tpX_10 : zTyp 6 10 12 (tyX 10) false := ⟨RX, TX, tyX, rfl, tyX_ok, nmX, rfl, rfl⟩
theorem tpX_11 : zTyp 6 11 12 (tyX 11) false := ⟨RX, TX, tyX, rfl, tyX_ok, nmX, rfl, rfl⟩
theorem tpM_0 : zTyp 7 0 31 (tyM 0) false := ⟨RM, TM, tyM, rfl, tyM_ok, nmM, rfl, rfl⟩
theorem tpM_1 : zTyp 7 1 31 (tyM 1) true := ⟨RM, TM, tyM, rfl, tyM_ok, nmM, rfl, rfl⟩
theorem tpM_2 : zTyp 7 2 31 (tyM 2) false := ⟨RM, TM, tyM, rfl, tyM_ok, nmM, rfl, rfl⟩
theorem tpM_3 : zTyp 7 3 31 (tyM 3) false := ⟨RM, TM, tyM, rfl, tyM_ok, nmM, rfl, rfl⟩
theorem tpM_4 : zTyp 7 4 31 (tyM 4) false := ⟨RM, TM, tyM, rfl, tyM_ok, nmM, rfl, rfl⟩
theorem tpM_5 : zTyp 7 5 31 (tyM 5) true := ⟨RM, TM, tyM, rfl, tyM_ok, nmM, rfl, rfl⟩
theorem tpM_6 : zTyp 7 6 31 (tyM 6) true := ⟨RM, TM, tyM, rfl, tyM_ok, nmM, rfl, rfl⟩
theorem tpM_7 : zTyp 7 7 31 (tyM 7) true := ⟨RM, TM, tyM, rfl, tyM_ok, nmM, rfl, rfl⟩
theorem tpM_8 : zTyp 7 8 31 (tyM 8) true := ⟨RM, TM, tyM, rfl, tyM_ok, nmM, rfl, rfl⟩
theorem tpM_9 : zTyp 7 9 31 (tyM 9) true := ⟨RM, TM, tyM, rfl, tyM_ok, nmM, rfl, rfl⟩
theorem tpM_10 : zTyp 7 10 31 (tyM 10) true := ⟨RM, TM, tyM, rfl, tyM_ok, nmM, rfl, rfl⟩
theorem tpM_11 : zTyp 7 11 31 (tyM 11) true := ⟨RM, TM, tyM, rfl, tyM_ok, nmM, rfl, rfl⟩
theorem tpM_12 : zTyp 7 12 31 (tyM 12) true := ⟨RM, TM, tyM, rfl, tyM_ok, nmM, rfl, rfl⟩
theorem tpM_13 : zTyp 7 13 31 (tyM 13) true := ⟨RM, TM, tyM, rfl, tyM_ok, nmM, rfl, rfl⟩
theorem tpM_14 : zTyp 7 14 31 (tyM 14) true := ⟨RM, TM, tyM, rfl, tyM_ok, nmM, rfl, rfl⟩
theorem tpM_15 : zTyp 7 15 31 (tyM 15) false := ⟨RM, TM, tyM, rfl, tyM_ok, nmM, rfl, rfl⟩
theorem tpM_16 : zTyp 7 16 31 (tyM 16) true := ⟨RM, TM, tyM, rfl, tyM_ok, nmM, rfl, rfl⟩
theorem tpM_17 : zTyp 7 17 31 (tyM 17) true := ⟨RM, TM, tyM, rfl, tyM_ok, nmM, rfl, rfl⟩
theorem tpM_18 : zTyp 7 18 31 (tyM 18) true := ⟨RM, TM, tyM, rfl, tyM_ok, nmM, rfl, rfl⟩
theorem tpM_19 : zTyp 7 19 31 (tyM 19) true := ⟨RM, TM, tyM, rfl, tyM_ok, nmM, rfl, rfl⟩
theorem tpM_20 : zTyp 7 20 31 (tyM 20) false := ⟨RM, TM, tyM, rfl, tyM_ok, nmM, rfl, rfl⟩
theorem tpM_21 : zTyp 7 21 31 (tyM 21) false := ⟨RM, TM, tyM, rfl, tyM_ok, nmM, rfl, rfl⟩
theorem tpM_22 : zTyp 7 22 31 (tyM 22) false := ⟨RM, TM, tyM, rfl, tyM_ok, nmM, rfl, rfl⟩
theorem tpM_23 : zTyp 7 23 31 (tyM 23) false := ⟨RM, TM, tyM, rfl, tyM_ok, nmM, rfl, rfl⟩
theorem tpM_24 : zTyp 7 24 31 (tyM 24) true := ⟨RM, TM, tyM, rfl, tyM_ok, nmM, rfl, rfl⟩
theorem tpM_25 : zTyp 7 25 31 (tyM 25) true := ⟨RM, TM, tyM, rfl, tyM_ok, nmM, rfl, rfl⟩
theorem tpM_26 : zTyp 7 26 31 (tyM 26) true := ⟨RM, TM, tyM, rfl, tyM_ok, nmM, rfl, rfl⟩
theorem tpM_27 : zTyp 7 27 31 (tyM 27) true := ⟨RM, TM, tyM, rfl, tyM_ok, nmM, rfl, rfl⟩
theorem tpM_28 : zTyp 7 28 31 (tyM 28) false := ⟨RM, TM, tyM, rfl, tyM_ok, nmM, rfl, rfl⟩
theorem tpM_29 : zTyp 7 29 31 (tyM 29) true := ⟨RM, TM, tyM, rfl, tyM_ok, nmM, rfl, rfl⟩
theorem tpM_30 : zTyp 7 30 31 (tyM 30) true := ⟨RM, TM, tyM, rfl, tyM_ok, nmM, rfl, rfl⟩
end
section
abbrev cI_bitCount : ByteArray := prog_10_method_49_code
def yI_bitCount : MethodName := ⟨"java/lang/Integer", "bitCount", "(I)I"⟩
def fI_bitCount (d : Nat) : zF := (cI_bitCount, 1, yI_bitCount, (some .int), d, 0, 0)
theorem meI_bitCount (d : Nat) : zMe (fI_bitCount d) 1 := ⟨(zA2 (i := 219) rfl rfl), (zA1 (i := 11) rfl rfl), by show "java/lang/Integer" ≠ _; decide +kernel, by show "java/lang/Integer" ≠ _; decide +kernel, by show (parseMethodDescriptor "(I)I").map _ = _; decide +kernel⟩
theorem dI_bitCount_0 : decode cI_bitCount 0 = .ok (.iload_n 0, 1) := by decide +kernel
theorem dI_bitCount_1 : decode cI_bitCount 1 = .ok (.iload_n 0, 1) := by decide +kernel
theorem dI_bitCount_2 : decode cI_bitCount 2 = .ok (.iconst 1, 1) := by decide +kernel
theorem dI_bitCount_3 : decode cI_bitCount 3 = .ok (.iushr, 1) := by decide +kernel
theorem dI_bitCount_4 : decode cI_bitCount 4 = .ok (.ldc_w 265, 3) := by decide +kernel
theorem dI_bitCount_7 : decode cI_bitCount 7 = .ok (.iand, 1) := by decide +kernel
theorem dI_bitCount_8 : decode cI_bitCount 8 = .ok (.isub, 1) := by decide +kernel
theorem dI_bitCount_9 : decode cI_bitCount 9 = .ok (.istore_n 0, 1) := by decide +kernel
theorem dI_bitCount_10 : decode cI_bitCount 10 = .ok (.iload_n 0, 1) := by decide +kernel
theorem dI_bitCount_11 : decode cI_bitCount 11 = .ok (.ldc_w 266, 3) := by decide +kernel
theorem dI_bitCount_14 : decode cI_bitCount 14 = .ok (.iand, 1) := by decide +kernel
theorem dI_bitCount_15 : decode cI_bitCount 15 = .ok (.iload_n 0, 1) := by decide +kernel
theorem dI_bitCount_16 : decode cI_bitCount 16 = .ok (.iconst 2, 1) := by decide +kernel
theorem dI_bitCount_17 : decode cI_bitCount 17 = .ok (.iushr, 1) := by decide +kernel
theorem dI_bitCount_18 : decode cI_bitCount 18 = .ok (.ldc_w 266, 3) := by decide +kernel
theorem dI_bitCount_21 : decode cI_bitCount 21 = .ok (.iand, 1) := by decide +kernel
theorem dI_bitCount_22 : decode cI_bitCount 22 = .ok (.iadd, 1) := by decide +kernel
theorem dI_bitCount_23 : decode cI_bitCount 23 = .ok (.istore_n 0, 1) := by decide +kernel
theorem dI_bitCount_24 : decode cI_bitCount 24 = .ok (.iload_n 0, 1) := by decide +kernel
theorem dI_bitCount_25 : decode cI_bitCount 25 = .ok (.iload_n 0, 1) := by decide +kernel
theorem dI_bitCount_26 : decode cI_bitCount 26 = .ok (.iconst 4, 1) := by decide +kernel
theorem dI_bitCount_27 : decode cI_bitCount 27 = .ok (.iushr, 1) := by decide +kernel
theorem dI_bitCount_28 : decode cI_bitCount 28 = .ok (.iadd, 1) := by decide +kernel
theorem dI_bitCount_29 : decode cI_bitCount 29 = .ok (.ldc_w 267, 3) := by decide +kernel
theorem dI_bitCount_32 : decode cI_bitCount 32 = .ok (.iand, 1) := by decide +kernel
theorem dI_bitCount_33 : decode cI_bitCount 33 = .ok (.istore_n 0, 1) := by decide +kernel
theorem dI_bitCount_34 : decode cI_bitCount 34 = .ok (.iload_n 0, 1) := by decide +kernel
theorem dI_bitCount_35 : decode cI_bitCount 35 = .ok (.iload_n 0, 1) := by decide +kernel
theorem dI_bitCount_36 : decode cI_bitCount 36 = .ok (.bipush 8, 2) := by decide +kernel
theorem dI_bitCount_38 : decode cI_bitCount 38 = .ok (.iushr, 1) := by decide +kernel
theorem dI_bitCount_39 : decode cI_bitCount 39 = .ok (.iadd, 1) := by decide +kernel
theorem dI_bitCount_40 : decode cI_bitCount 40 = .ok (.istore_n 0, 1) := by decide +kernel
theorem dI_bitCount_41 : decode cI_bitCount 41 = .ok (.iload_n 0, 1) := by decide +kernel
theorem dI_bitCount_42 : decode cI_bitCount 42 = .ok (.iload_n 0, 1) := by decide +kernel
theorem dI_bitCount_43 : decode cI_bitCount 43 = .ok (.bipush 16, 2) := by decide +kernel
theorem dI_bitCount_45 : decode cI_bitCount 45 = .ok (.iushr, 1) := by decide +kernel
theorem dI_bitCount_46 : decode cI_bitCount 46 = .ok (.iadd, 1) := by decide +kernel
theorem dI_bitCount_47 : decode cI_bitCount 47 = .ok (.istore_n 0, 1) := by decide +kernel
theorem dI_bitCount_48 : decode cI_bitCount 48 = .ok (.iload_n 0, 1) := by decide +kernel
theorem dI_bitCount_49 : decode cI_bitCount 49 = .ok (.bipush 63, 2) := by decide +kernel
theorem dI_bitCount_51 : decode cI_bitCount 51 = .ok (.iand, 1) := by decide +kernel
theorem dI_bitCount_52 : decode cI_bitCount 52 = .ok (.ireturn, 1) := by decide +kernel
end
section
abbrev cT_init : ByteArray := prog_7_method_1_code
def yT_init : MethodName := ⟨"PostIndex$Text", "<init>", "()V"⟩
def fT_init (d : Nat) : zF := (cT_init, 1, yT_init, none, d, 1, 24)
theorem meT_init (d : Nat) : zMe (fT_init d) 0 := ⟨(zA1 (i := 24) rfl rfl), (zA1 (i := 2) rfl rfl), by show "PostIndex$Text" ≠ _; decide +kernel, by show "PostIndex$Text" ≠ _; decide +kernel, by show (parseMethodDescriptor "()V").map _ = _; decide +kernel⟩
theorem dT_init_0 : decode cT_init 0 = .ok (.aload_n 0, 1) := by decide +kernel
theorem dT_init_1 : decode cT_init 1 = .ok (.invokespecial 3, 3) := by decide +kernel
theorem lkT_3 : Cond.methodLink "PostIndex$Text" 3 Lib.objectInit ∈ zAll ∧ Cond.instanceMethod Lib.objectInit ∈ zAll ∧ Cond.code Lib.objectInit ⟨#[0xb1]⟩ 1 none ∈ zAll := ⟨(zA1 (i := 25) rfl rfl), (zA1 (i := 18) rfl rfl), (zA1 (i := 19) rfl rfl)⟩
theorem dT_init_4 : decode cT_init 4 = .ok (.aload_n 0, 1) := by decide +kernel
theorem dT_init_5 : decode cT_init 5 = .ok (.bipush 24, 2) := by decide +kernel
theorem dT_init_7 : decode cT_init 7 = .ok (.newarray .char, 2) := by decide +kernel
theorem dT_init_9 : decode cT_init 9 = .ok (.putfield 9, 3) := by decide +kernel
theorem flT_9 : zFld "PostIndex$Text" 9 5 0 2 := ⟨RT, TT, rfl, by decide, inT, (zA1 (i := 26) rfl rfl)⟩
theorem dT_init_12 : decode cT_init 12 = .ok (.return_, 1) := by decide +kernel
abbrev cT_makeEmpty : ByteArray := prog_7_method_2_code
def yT_makeEmpty : MethodName := ⟨"PostIndex$Text", "makeEmpty", "()V"⟩
def fT_makeEmpty (d : Nat) : zF := (cT_makeEmpty, 1, yT_makeEmpty, none, d, 0, 0)
theorem meT_makeEmpty (d : Nat) : zMe (fT_makeEmpty d) 0 := ⟨(zA1 (i := 232) rfl rfl), (zA1 (i := 2) rfl rfl), by show "PostIndex$Text" ≠ _; decide +kernel, by show "PostIndex$Text" ≠ _; decide +kernel, by show (parseMethodDescriptor "()V").map _ = _; decide +kernel⟩
theorem dT_makeEmpty_0 : decode cT_makeEmpty 0 = .ok (.aload_n 0, 1) := by decide +kernel
theorem dT_makeEmpty_1 : decode cT_makeEmpty 1 = .ok (.iconst 0, 1) := by decide +kernel
theorem dT_makeEmpty_2 : decode cT_makeEmpty 2 = .ok (.putfield 15, 3) := by decide +kernel
theorem flT_15 : zFld "PostIndex$Text" 15 5 1 2 := ⟨RT, TT, rfl, by decide, inT, (zA1 (i := 27) rfl rfl)⟩
theorem dT_makeEmpty_5 : decode cT_makeEmpty 5 = .ok (.return_, 1) := by decide +kernel
abbrev cT_append : ByteArray := prog_7_method_3_code
def yT_append : MethodName := ⟨"PostIndex$Text", "append", "(C)Z"⟩
def fT_append (d : Nat) : zF := (cT_append, 2, yT_append, (some .boolean), d, 0, 0)
theorem meT_append (d : Nat) : zMe (fT_append d) 1 := ⟨(zA1 (i := 202) rfl rfl), (zA1 (i := 2) rfl rfl), by show "PostIndex$Text" ≠ _; decide +kernel, by show "PostIndex$Text" ≠ _; decide +kernel, by show (parseMethodDescriptor "(C)Z").map _ = _; decide +kernel⟩
theorem dT_append_0 : decode cT_append 0 = .ok (.aload_n 0, 1) := by decide +kernel
theorem dT_append_1 : decode cT_append 1 = .ok (.getfield 15, 3) := by decide +kernel
theorem dT_append_4 : decode cT_append 4 = .ok (.bipush 24, 2) := by decide +kernel
theorem dT_append_6 : decode cT_append 6 = .ok (.if_icmp .lt 5, 3) := by decide +kernel
theorem dT_append_9 : decode cT_append 9 = .ok (.iconst 0, 1) := by decide +kernel
theorem dT_append_10 : decode cT_append 10 = .ok (.ireturn, 1) := by decide +kernel
theorem dT_append_11 : decode cT_append 11 = .ok (.aload_n 0, 1) := by decide +kernel
theorem dT_append_12 : decode cT_append 12 = .ok (.getfield 9, 3) := by decide +kernel
theorem dT_append_15 : decode cT_append 15 = .ok (.aload_n 0, 1) := by decide +kernel
theorem dT_append_16 : decode cT_append 16 = .ok (.getfield 15, 3) := by decide +kernel
theorem dT_append_19 : decode cT_append 19 = .ok (.iload_n 1, 1) := by decide +kernel
theorem dT_append_20 : decode cT_append 20 = .ok (.castore, 1) := by decide +kernel
theorem dT_append_21 : decode cT_append 21 = .ok (.aload_n 0, 1) := by decide +kernel
theorem dT_append_22 : decode cT_append 22 = .ok (.dup, 1) := by decide +kernel
theorem dT_append_23 : decode cT_append 23 = .ok (.getfield 15, 3) := by decide +kernel
theorem dT_append_26 : decode cT_append 26 = .ok (.iconst 1, 1) := by decide +kernel
theorem dT_append_27 : decode cT_append 27 = .ok (.iadd, 1) := by decide +kernel
theorem dT_append_28 : decode cT_append 28 = .ok (.putfield 15, 3) := by decide +kernel
theorem dT_append_31 : decode cT_append 31 = .ok (.iconst 1, 1) := by decide +kernel
theorem dT_append_32 : decode cT_append 32 = .ok (.ireturn, 1) := by decide +kernel
abbrev cT_appendBeginning : ByteArray := prog_7_method_4_code
def yT_appendBeginning : MethodName := ⟨"PostIndex$Text", "appendBeginning", "(LPostIndex$Text;)I"⟩
def fT_appendBeginning (d : Nat) : zF := (cT_appendBeginning, 3, yT_appendBeginning, (some .int), d, 0, 0)
theorem meT_appendBeginning (d : Nat) : zMe (fT_appendBeginning d) 1 := ⟨(zA1 (i := 218) rfl rfl), (zA1 (i := 2) rfl rfl), by show "PostIndex$Text" ≠ _; decide +kernel, by show "PostIndex$Text" ≠ _; decide +kernel, by show (parseMethodDescriptor "(LPostIndex$Text;)I").map _ = _; decide +kernel⟩
theorem dT_appendBeginning_0 : decode cT_appendBeginning 0 = .ok (.aload_n 1, 1) := by decide +kernel
theorem dT_appendBeginning_1 : decode cT_appendBeginning 1 = .ok (.getfield 15, 3) := by decide +kernel
theorem dT_appendBeginning_4 : decode cT_appendBeginning 4 = .ok (.bipush 24, 2) := by decide +kernel
theorem dT_appendBeginning_6 : decode cT_appendBeginning 6 = .ok (.aload_n 0, 1) := by decide +kernel
theorem dT_appendBeginning_7 : decode cT_appendBeginning 7 = .ok (.getfield 15, 3) := by decide +kernel
theorem dT_appendBeginning_10 : decode cT_appendBeginning 10 = .ok (.isub, 1) := by decide +kernel
theorem dT_appendBeginning_11 : decode cT_appendBeginning 11 = .ok (.invokestatic 19, 3) := by decide +kernel
theorem lkT_19 : Cond.methodLink "PostIndex$Text" 19 Lib.Math.min.name ∈ zAll ∧ Cond.static Lib.Math.min.name ∈ zAll ∧ Cond.initialized "java/lang/Math" ∈ zAll ∧ Cond.code Lib.Math.min.name Lib.Math.min.code 2 (some .int) ∈ zAll := ⟨(zA1 (i := 219) rfl rfl), (zA1 (i := 220) rfl rfl), (zA1 (i := 9) rfl rfl), (zA1 (i := 221) rfl rfl)⟩
theorem dT_appendBeginning_14 : decode cT_appendBeginning 14 = .ok (.istore_n 2, 1) := by decide +kernel
theorem dT_appendBeginning_15 : decode cT_appendBeginning 15 = .ok (.aload_n 1, 1) := by decide +kernel
theorem dT_appendBeginning_16 : decode cT_appendBeginning 16 = .ok (.getfield 9, 3) := by decide +kernel
theorem dT_appendBeginning_19 : decode cT_appendBeginning 19 = .ok (.iconst 0, 1) := by decide +kernel
theorem dT_appendBeginning_20 : decode cT_appendBeginning 20 = .ok (.aload_n 0, 1) := by decide +kernel
theorem dT_appendBeginning_21 : decode cT_appendBeginning 21 = .ok (.getfield 9, 3) := by decide +kernel
theorem dT_appendBeginning_24 : decode cT_appendBeginning 24 = .ok (.aload_n 0, 1) := by decide +kernel
theorem dT_appendBeginning_25 : decode cT_appendBeginning 25 = .ok (.getfield 15, 3) := by decide +kernel
theorem dT_appendBeginning_28 : decode cT_appendBeginning 28 = .ok (.iload_n 2, 1) := by decide +kernel
theorem dT_appendBeginning_29 : decode cT_appendBeginning 29 = .ok (.invokestatic 25, 3) := by decide +kernel
theorem lkT_25 : Cond.methodLink "PostIndex$Text" 25 arraycopyName ∈ zAll ∧ Cond.native arraycopyName ∈ zAll ∧ Cond.static arraycopyName ∈ zAll ∧ Cond.initialized "java/lang/System" ∈ zAll := ⟨(zA1 (i := 222) rfl rfl), (zA1 (i := 224) rfl rfl), (zA1 (i := 223) rfl rfl), (zA1 (i := 10) rfl rfl)⟩
theorem dT_appendBeginning_32 : decode cT_appendBeginning 32 = .ok (.aload_n 0, 1) := by decide +kernel
theorem dT_appendBeginning_33 : decode cT_appendBeginning 33 = .ok (.dup, 1) := by decide +kernel
theorem dT_appendBeginning_34 : decode cT_appendBeginning 34 = .ok (.getfield 15, 3) := by decide +kernel
theorem dT_appendBeginning_37 : decode cT_appendBeginning 37 = .ok (.iload_n 2, 1) := by decide +kernel
theorem dT_appendBeginning_38 : decode cT_appendBeginning 38 = .ok (.iadd, 1) := by decide +kernel
theorem dT_appendBeginning_39 : decode cT_appendBeginning 39 = .ok (.putfield 15, 3) := by decide +kernel
theorem dT_appendBeginning_42 : decode cT_appendBeginning 42 = .ok (.iload_n 2, 1) := by decide +kernel
theorem dT_appendBeginning_43 : decode cT_appendBeginning 43 = .ok (.ireturn, 1) := by decide +kernel
abbrev cT_setFolded : ByteArray := prog_7_method_5_code
def yT_setFolded : MethodName := ⟨"PostIndex$Text", "setFolded", "(LPostIndex$Text;II)V"⟩
def fT_setFolded (d : Nat) : zF := (cT_setFolded, 5, yT_setFolded, none, d, 0, 0)
theorem meT_setFolded (d : Nat) : zMe (fT_setFolded d) 3 := ⟨(zA2 (i := 43) rfl rfl), (zA1 (i := 2) rfl rfl), by show "PostIndex$Text" ≠ _; decide +kernel, by show "PostIndex$Text" ≠ _; decide +kernel, by show (parseMethodDescriptor "(LPostIndex$Text;II)V").map _ = _; decide +kernel⟩
theorem dT_setFolded_0 : decode cT_setFolded 0 = .ok (.aload_n 0, 1) := by decide +kernel
theorem dT_setFolded_1 : decode cT_setFolded 1 = .ok (.iconst 0, 1) := by decide +kernel
theorem dT_setFolded_2 : decode cT_setFolded 2 = .ok (.putfield 15, 3) := by decide +kernel
theorem dT_setFolded_5 : decode cT_setFolded 5 = .ok (.iload_n 2, 1) := by decide +kernel
theorem dT_setFolded_6 : decode cT_setFolded 6 = .ok (.istore 4, 2) := by decide +kernel
theorem dT_setFolded_8 : decode cT_setFolded 8 = .ok (.iload 4, 2) := by decide +kernel
theorem dT_setFolded_10 : decode cT_setFolded 10 = .ok (.iload_n 3, 1) := by decide +kernel
theorem dT_setFolded_11 : decode cT_setFolded 11 = .ok (.if_icmp .ge 23, 3) := by decide +kernel
theorem dT_setFolded_14 : decode cT_setFolded 14 = .ok (.aload_n 0, 1) := by decide +kernel
theorem dT_setFolded_15 : decode cT_setFolded 15 = .ok (.aload_n 1, 1) := by decide +kernel
theorem dT_setFolded_16 : decode cT_setFolded 16 = .ok (.iload 4, 2) := by decide +kernel
theorem dT_setFolded_18 : decode cT_setFolded 18 = .ok (.invokevirtual 31, 3) := by decide +kernel
theorem dT_setFolded_21 : decode cT_setFolded 21 = .ok (.invokestatic 35, 3) := by decide +kernel
theorem dT_setFolded_24 : decode cT_setFolded 24 = .ok (.invokevirtual 39, 3) := by decide +kernel
theorem dT_setFolded_27 : decode cT_setFolded 27 = .ok (.pop, 1) := by decide +kernel
theorem dT_setFolded_28 : decode cT_setFolded 28 = .ok (.iinc 4 1, 3) := by decide +kernel
theorem dT_setFolded_31 : decode cT_setFolded 31 = .ok (.goto (-23), 3) := by decide +kernel
theorem dT_setFolded_34 : decode cT_setFolded 34 = .ok (.return_, 1) := by decide +kernel
abbrev cT_charOr0 : ByteArray := prog_7_method_6_code
def yT_charOr0 : MethodName := ⟨"PostIndex$Text", "charOr0", "(I)C"⟩
def fT_charOr0 (d : Nat) : zF := (cT_charOr0, 2, yT_charOr0, (some .char), d, 0, 0)
theorem meT_charOr0 (d : Nat) : zMe (fT_charOr0 d) 1 := ⟨(zA2 (i := 29) rfl rfl), (zA1 (i := 2) rfl rfl), by show "PostIndex$Text" ≠ _; decide +kernel, by show "PostIndex$Text" ≠ _; decide +kernel, by show (parseMethodDescriptor "(I)C").map _ = _; decide +kernel⟩
theorem dT_charOr0_0 : decode cT_charOr0 0 = .ok (.iload_n 1, 1) := by decide +kernel
theorem dT_charOr0_1 : decode cT_charOr0 1 = .ok (.ifCond .lt 20, 3) := by decide +kernel
theorem dT_charOr0_4 : decode cT_charOr0 4 = .ok (.iload_n 1, 1) := by decide +kernel
theorem dT_charOr0_5 : decode cT_charOr0 5 = .ok (.aload_n 0, 1) := by decide +kernel
theorem dT_charOr0_6 : decode cT_charOr0 6 = .ok (.getfield 15, 3) := by decide +kernel
theorem dT_charOr0_9 : decode cT_charOr0 9 = .ok (.if_icmp .ge 12, 3) := by decide +kernel
theorem dT_charOr0_12 : decode cT_charOr0 12 = .ok (.aload_n 0, 1) := by decide +kernel
theorem dT_charOr0_13 : decode cT_charOr0 13 = .ok (.getfield 9, 3) := by decide +kernel
theorem dT_charOr0_16 : decode cT_charOr0 16 = .ok (.iload_n 1, 1) := by decide +kernel
theorem dT_charOr0_17 : decode cT_charOr0 17 = .ok (.caload, 1) := by decide +kernel
theorem dT_charOr0_18 : decode cT_charOr0 18 = .ok (.goto 4, 3) := by decide +kernel
theorem dT_charOr0_21 : decode cT_charOr0 21 = .ok (.iconst 0, 1) := by decide +kernel
theorem dT_charOr0_22 : decode cT_charOr0 22 = .ok (.ireturn, 1) := by decide +kernel
abbrev cT_isSame : ByteArray := prog_7_method_7_code
def yT_isSame : MethodName := ⟨"PostIndex$Text", "isSame", "(LPostIndex$Text;)Z"⟩
def fT_isSame (d : Nat) : zF := (cT_isSame, 3, yT_isSame, (some .boolean), d, 0, 0)
theorem meT_isSame (d : Nat) : zMe (fT_isSame d) 1 := ⟨(zA2 (i := 57) rfl rfl), (zA1 (i := 2) rfl rfl), by show "PostIndex$Text" ≠ _; decide +kernel, by show "PostIndex$Text" ≠ _; decide +kernel, by show (parseMethodDescriptor "(LPostIndex$Text;)Z").map _ = _; decide +kernel⟩
theorem dT_isSame_0 : decode cT_isSame 0 = .ok (.aload_n 0, 1) := by decide +kernel
theorem dT_isSame_1 : decode cT_isSame 1 = .ok (.getfield 15, 3) := by decide +kernel
theorem dT_isSame_4 : decode cT_isSame 4 = .ok (.aload_n 1, 1) := by decide +kernel
theorem dT_isSame_5 : decode cT_isSame 5 = .ok (.getfield 15, 3) := by decide +kernel
theorem dT_isSame_8 : decode cT_isSame 8 = .ok (.if_icmp .eq 5, 3) := by decide +kernel
theorem dT_isSame_11 : decode cT_isSame 11 = .ok (.iconst 0, 1) := by decide +kernel
theorem dT_isSame_12 : decode cT_isSame 12 = .ok (.ireturn, 1) := by decide +kernel
theorem dT_isSame_13 : decode cT_isSame 13 = .ok (.iconst 0, 1) := by decide +kernel
theorem dT_isSame_14 : decode cT_isSame 14 = .ok (.istore_n 2, 1) := by decide +kernel
theorem dT_isSame_15 : decode cT_isSame 15 = .ok (.iload_n 2, 1) := by decide +kernel
theorem dT_isSame_16 : decode cT_isSame 16 = .ok (.aload_n 0, 1) := by decide +kernel
theorem dT_isSame_17 : decode cT_isSame 17 = .ok (.getfield 15, 3) := by decide +kernel
theorem dT_isSame_20 : decode cT_isSame 20 = .ok (.if_icmp .ge 26, 3) := by decide +kernel
theorem dT_isSame_23 : decode cT_isSame 23 = .ok (.aload_n 0, 1) := by decide +kernel
theorem dT_isSame_24 : decode cT_isSame 24 = .ok (.getfield 9, 3) := by decide +kernel
theorem dT_isSame_27 : decode cT_isSame 27 = .ok (.iload_n 2, 1) := by decide +kernel
theorem dT_isSame_28 : decode cT_isSame 28 = .ok (.caload, 1) := by decide +kernel
theorem dT_isSame_29 : decode cT_isSame 29 = .ok (.aload_n 1, 1) := by decide +kernel
theorem dT_isSame_30 : decode cT_isSame 30 = .ok (.getfield 9, 3) := by decide +kernel
theorem dT_isSame_33 : decode cT_isSame 33 = .ok (.iload_n 2, 1) := by decide +kernel
theorem dT_isSame_34 : decode cT_isSame 34 = .ok (.caload, 1) := by decide +kernel
theorem dT_isSame_35 : decode cT_isSame 35 = .ok (.if_icmp .eq 5, 3) := by decide +kernel
theorem dT_isSame_38 : decode cT_isSame 38 = .ok (.iconst 0, 1) := by decide +kernel
theorem dT_isSame_39 : decode cT_isSame 39 = .ok (.ireturn, 1) := by decide +kernel
theorem dT_isSame_40 : decode cT_isSame 40 = .ok (.iinc 2 1, 3) := by decide +kernel
theorem dT_isSame_43 : decode cT_isSame 43 = .ok (.goto (-28), 3) := by decide +kernel
theorem dT_isSame_46 : decode cT_isSame 46 = .ok (.iconst 1, 1) := by decide +kernel
theorem dT_isSame_47 : decode cT_isSame 47 = .ok (.ireturn, 1) := by decide +kernel
abbrev cT_tokenEnd : ByteArray := prog_7_method_8_code
def yT_tokenEnd : MethodName := ⟨"PostIndex$Text", "tokenEnd", "(I)I"⟩
def fT_tokenEnd (d : Nat) : zF := (cT_tokenEnd, 5, yT_tokenEnd, (some .int), d, 0, 0)
theorem meT_tokenEnd (d : Nat) : zMe (fT_tokenEnd d) 1 := ⟨(zA2 (i := 25) rfl rfl), (zA1 (i := 2) rfl rfl), by show "PostIndex$Text" ≠ _; decide +kernel, by show "PostIndex$Text" ≠ _; decide +kernel, by show (parseMethodDescriptor "(I)I").map _ = _; decide +kernel⟩
theorem dT_tokenEnd_0 : decode cT_tokenEnd 0 = .ok (.aload_n 0, 1) := by decide +kernel
theorem dT_tokenEnd_1 : decode cT_tokenEnd 1 = .ok (.iload_n 1, 1) := by decide +kernel
theorem dT_tokenEnd_2 : decode cT_tokenEnd 2 = .ok (.invokevirtual 31, 3) := by decide +kernel
theorem dT_tokenEnd_5 : decode cT_tokenEnd 5 = .ok (.istore_n 2, 1) := by decide +kernel
theorem dT_tokenEnd_6 : decode cT_tokenEnd 6 = .ok (.iload_n 2, 1) := by decide +kernel
theorem dT_tokenEnd_7 : decode cT_tokenEnd 7 = .ok (.bipush 35, 2) := by decide +kernel
theorem dT_tokenEnd_9 : decode cT_tokenEnd 9 = .ok (.if_icmp .eq 9, 3) := by decide +kernel
theorem dT_tokenEnd_12 : decode cT_tokenEnd 12 = .ok (.iload_n 2, 1) := by decide +kernel
theorem dT_tokenEnd_13 : decode cT_tokenEnd 13 = .ok (.bipush 64, 2) := by decide +kernel
theorem dT_tokenEnd_15 : decode cT_tokenEnd 15 = .ok (.if_icmp .ne 9, 3) := by decide +kernel
theorem dT_tokenEnd_18 : decode cT_tokenEnd 18 = .ok (.iload_n 1, 1) := by decide +kernel
theorem dT_tokenEnd_19 : decode cT_tokenEnd 19 = .ok (.iconst 1, 1) := by decide +kernel
theorem dT_tokenEnd_20 : decode cT_tokenEnd 20 = .ok (.iadd, 1) := by decide +kernel
theorem dT_tokenEnd_21 : decode cT_tokenEnd 21 = .ok (.goto 4, 3) := by decide +kernel
theorem dT_tokenEnd_24 : decode cT_tokenEnd 24 = .ok (.iload_n 1, 1) := by decide +kernel
theorem dT_tokenEnd_25 : decode cT_tokenEnd 25 = .ok (.istore_n 3, 1) := by decide +kernel
theorem dT_tokenEnd_26 : decode cT_tokenEnd 26 = .ok (.iload_n 3, 1) := by decide +kernel
theorem dT_tokenEnd_27 : decode cT_tokenEnd 27 = .ok (.istore 4, 2) := by decide +kernel
theorem dT_tokenEnd_29 : decode cT_tokenEnd 29 = .ok (.iload 4, 2) := by decide +kernel
theorem dT_tokenEnd_31 : decode cT_tokenEnd 31 = .ok (.aload_n 0, 1) := by decide +kernel
theorem dT_tokenEnd_32 : decode cT_tokenEnd 32 = .ok (.getfield 15, 3) := by decide +kernel
theorem dT_tokenEnd_35 : decode cT_tokenEnd 35 = .ok (.if_icmp .ge 21, 3) := by decide +kernel
theorem dT_tokenEnd_38 : decode cT_tokenEnd 38 = .ok (.aload_n 0, 1) := by decide +kernel
theorem dT_tokenEnd_39 : decode cT_tokenEnd 39 = .ok (.iload 4, 2) := by decide +kernel
theorem dT_tokenEnd_41 : decode cT_tokenEnd 41 = .ok (.invokevirtual 31, 3) := by decide +kernel
theorem dT_tokenEnd_44 : decode cT_tokenEnd 44 = .ok (.invokestatic 43, 3) := by decide +kernel
theorem dT_tokenEnd_47 : decode cT_tokenEnd 47 = .ok (.ifCond .eq 9, 3) := by decide +kernel
theorem dT_tokenEnd_50 : decode cT_tokenEnd 50 = .ok (.iinc 4 1, 3) := by decide +kernel
theorem dT_tokenEnd_53 : decode cT_tokenEnd 53 = .ok (.goto (-24), 3) := by decide +kernel
theorem dT_tokenEnd_56 : decode cT_tokenEnd 56 = .ok (.iload 4, 2) := by decide +kernel
theorem dT_tokenEnd_58 : decode cT_tokenEnd 58 = .ok (.iload_n 3, 1) := by decide +kernel
theorem dT_tokenEnd_59 : decode cT_tokenEnd 59 = .ok (.if_icmp .le 8, 3) := by decide +kernel
theorem dT_tokenEnd_62 : decode cT_tokenEnd 62 = .ok (.iload 4, 2) := by decide +kernel
theorem dT_tokenEnd_64 : decode cT_tokenEnd 64 = .ok (.goto 4, 3) := by decide +kernel
theorem dT_tokenEnd_67 : decode cT_tokenEnd 67 = .ok (.iload_n 1, 1) := by decide +kernel
theorem dT_tokenEnd_68 : decode cT_tokenEnd 68 = .ok (.ireturn, 1) := by decide +kernel
abbrev cT_tokenStart : ByteArray := prog_7_method_9_code
def yT_tokenStart : MethodName := ⟨"PostIndex$Text", "tokenStart", "(I)I"⟩
def fT_tokenStart (d : Nat) : zF := (cT_tokenStart, 3, yT_tokenStart, (some .int), d, 0, 0)
theorem meT_tokenStart (d : Nat) : zMe (fT_tokenStart d) 1 := ⟨(zA2 (i := 21) rfl rfl), (zA1 (i := 2) rfl rfl), by show "PostIndex$Text" ≠ _; decide +kernel, by show "PostIndex$Text" ≠ _; decide +kernel, by show (parseMethodDescriptor "(I)I").map _ = _; decide +kernel⟩
theorem dT_tokenStart_0 : decode cT_tokenStart 0 = .ok (.iload_n 1, 1) := by decide +kernel
theorem dT_tokenStart_1 : decode cT_tokenStart 1 = .ok (.istore_n 2, 1) := by decide +kernel
theorem dT_tokenStart_2 : decode cT_tokenStart 2 = .ok (.iload_n 2, 1) := by decide +kernel
theorem dT_tokenStart_3 : decode cT_tokenStart 3 = .ok (.aload_n 0, 1) := by decide +kernel
theorem dT_tokenStart_4 : decode cT_tokenStart 4 = .ok (.getfield 15, 3) := by decide +kernel
theorem dT_tokenStart_7 : decode cT_tokenStart 7 = .ok (.if_icmp .ge 20, 3) := by decide +kernel
theorem dT_tokenStart_10 : decode cT_tokenStart 10 = .ok (.aload_n 0, 1) := by decide +kernel
theorem dT_tokenStart_11 : decode cT_tokenStart 11 = .ok (.iload_n 2, 1) := by decide +kernel
theorem dT_tokenStart_12 : decode cT_tokenStart 12 = .ok (.invokevirtual 46, 3) := by decide +kernel
theorem dT_tokenStart_15 : decode cT_tokenStart 15 = .ok (.iload_n 2, 1) := by decide +kernel
theorem dT_tokenStart_16 : decode cT_tokenStart 16 = .ok (.if_icmp .le 5, 3) := by decide +kernel
theorem dT_tokenStart_19 : decode cT_tokenStart 19 = .ok (.iload_n 2, 1) := by decide +kernel
theorem dT_tokenStart_20 : decode cT_tokenStart 20 = .ok (.ireturn, 1) := by decide +kernel
theorem dT_tokenStart_21 : decode cT_tokenStart 21 = .ok (.iinc 2 1, 3) := by decide +kernel
theorem dT_tokenStart_24 : decode cT_tokenStart 24 = .ok (.goto (-22), 3) := by decide +kernel
theorem dT_tokenStart_27 : decode cT_tokenStart 27 = .ok (.aload_n 0, 1) := by decide +kernel
theorem dT_tokenStart_28 : decode cT_tokenStart 28 = .ok (.getfield 15, 3) := by decide +kernel
theorem dT_tokenStart_31 : decode cT_tokenStart 31 = .ok (.ireturn, 1) := by decide +kernel
abbrev cT_isWordCharacter : ByteArray := prog_7_method_10_code
def yT_isWordCharacter : MethodName := ⟨"PostIndex$Text", "isWordCharacter", "(C)Z"⟩
def fT_isWordCharacter (d : Nat) : zF := (cT_isWordCharacter, 2, yT_isWordCharacter, (some .boolean), d, 0, 0)
theorem meT_isWordCharacter (d : Nat) : zMe (fT_isWordCharacter d) 1 := ⟨(zA2 (i := 32) rfl rfl), (zA1 (i := 2) rfl rfl), by show "PostIndex$Text" ≠ _; decide +kernel, by show "PostIndex$Text" ≠ _; decide +kernel, by show (parseMethodDescriptor "(C)Z").map _ = _; decide +kernel⟩
theorem dT_isWordCharacter_0 : decode cT_isWordCharacter 0 = .ok (.iload_n 0, 1) := by decide +kernel
theorem dT_isWordCharacter_1 : decode cT_isWordCharacter 1 = .ok (.invokestatic 35, 3) := by decide +kernel
theorem dT_isWordCharacter_4 : decode cT_isWordCharacter 4 = .ok (.istore_n 1, 1) := by decide +kernel
theorem dT_isWordCharacter_5 : decode cT_isWordCharacter 5 = .ok (.iload_n 1, 1) := by decide +kernel
theorem dT_isWordCharacter_6 : decode cT_isWordCharacter 6 = .ok (.bipush 97, 2) := by decide +kernel
theorem dT_isWordCharacter_8 : decode cT_isWordCharacter 8 = .ok (.if_icmp .lt 9, 3) := by decide +kernel
theorem dT_isWordCharacter_11 : decode cT_isWordCharacter 11 = .ok (.iload_n 1, 1) := by decide +kernel
theorem dT_isWordCharacter_12 : decode cT_isWordCharacter 12 = .ok (.bipush 122, 2) := by decide +kernel
theorem dT_isWordCharacter_14 : decode cT_isWordCharacter 14 = .ok (.if_icmp .le 16, 3) := by decide +kernel
theorem dT_isWordCharacter_17 : decode cT_isWordCharacter 17 = .ok (.iload_n 0, 1) := by decide +kernel
theorem dT_isWordCharacter_18 : decode cT_isWordCharacter 18 = .ok (.invokestatic 50, 3) := by decide +kernel
theorem dT_isWordCharacter_21 : decode cT_isWordCharacter 21 = .ok (.ifCond .ne 9, 3) := by decide +kernel
theorem dT_isWordCharacter_24 : decode cT_isWordCharacter 24 = .ok (.iload_n 0, 1) := by decide +kernel
theorem dT_isWordCharacter_25 : decode cT_isWordCharacter 25 = .ok (.bipush 95, 2) := by decide +kernel
theorem dT_isWordCharacter_27 : decode cT_isWordCharacter 27 = .ok (.if_icmp .ne 7, 3) := by decide +kernel
theorem dT_isWordCharacter_30 : decode cT_isWordCharacter 30 = .ok (.iconst 1, 1) := by decide +kernel
theorem dT_isWordCharacter_31 : decode cT_isWordCharacter 31 = .ok (.goto 4, 3) := by decide +kernel
theorem dT_isWordCharacter_34 : decode cT_isWordCharacter 34 = .ok (.iconst 0, 1) := by decide +kernel
theorem dT_isWordCharacter_35 : decode cT_isWordCharacter 35 = .ok (.ireturn, 1) := by decide +kernel
abbrev cT_isDigit : ByteArray := prog_7_method_11_code
def yT_isDigit : MethodName := ⟨"PostIndex$Text", "isDigit", "(C)Z"⟩
def fT_isDigit (d : Nat) : zF := (cT_isDigit, 1, yT_isDigit, (some .boolean), d, 0, 0)
theorem meT_isDigit (d : Nat) : zMe (fT_isDigit d) 1 := ⟨(zA2 (i := 38) rfl rfl), (zA1 (i := 2) rfl rfl), by show "PostIndex$Text" ≠ _; decide +kernel, by show "PostIndex$Text" ≠ _; decide +kernel, by show (parseMethodDescriptor "(C)Z").map _ = _; decide +kernel⟩
theorem dT_isDigit_0 : decode cT_isDigit 0 = .ok (.iload_n 0, 1) := by decide +kernel
theorem dT_isDigit_1 : decode cT_isDigit 1 = .ok (.bipush 48, 2) := by decide +kernel
theorem dT_isDigit_3 : decode cT_isDigit 3 = .ok (.if_icmp .lt 13, 3) := by decide +kernel
theorem dT_isDigit_6 : decode cT_isDigit 6 = .ok (.iload_n 0, 1) := by decide +kernel
theorem dT_isDigit_7 : decode cT_isDigit 7 = .ok (.bipush 57, 2) := by decide +kernel
theorem dT_isDigit_9 : decode cT_isDigit 9 = .ok (.if_icmp .gt 7, 3) := by decide +kernel
theorem dT_isDigit_12 : decode cT_isDigit 12 = .ok (.iconst 1, 1) := by decide +kernel
theorem dT_isDigit_13 : decode cT_isDigit 13 = .ok (.goto 4, 3) := by decide +kernel
theorem dT_isDigit_16 : decode cT_isDigit 16 = .ok (.iconst 0, 1) := by decide +kernel
theorem dT_isDigit_17 : decode cT_isDigit 17 = .ok (.ireturn, 1) := by decide +kernel
abbrev cT_folded : ByteArray := prog_7_method_12_code
def yT_folded : MethodName := ⟨"PostIndex$Text", "folded", "(C)C"⟩
def fT_folded (d : Nat) : zF := (cT_folded, 1, yT_folded, (some .char), d, 0, 0)
theorem meT_folded (d : Nat) : zMe (fT_folded d) 1 := ⟨(zA2 (i := 35) rfl rfl), (zA1 (i := 2) rfl rfl), by show "PostIndex$Text" ≠ _; decide +kernel, by show "PostIndex$Text" ≠ _; decide +kernel, by show (parseMethodDescriptor "(C)C").map _ = _; decide +kernel⟩
theorem dT_folded_0 : decode cT_folded 0 = .ok (.iload_n 0, 1) := by decide +kernel
theorem dT_folded_1 : decode cT_folded 1 = .ok (.bipush 65, 2) := by decide +kernel
theorem dT_folded_3 : decode cT_folded 3 = .ok (.if_icmp .lt 20, 3) := by decide +kernel
theorem dT_folded_6 : decode cT_folded 6 = .ok (.iload_n 0, 1) := by decide +kernel
theorem dT_folded_7 : decode cT_folded 7 = .ok (.bipush 90, 2) := by decide +kernel
theorem dT_folded_9 : decode cT_folded 9 = .ok (.if_icmp .gt 14, 3) := by decide +kernel
theorem dT_folded_12 : decode cT_folded 12 = .ok (.iload_n 0, 1) := by decide +kernel
theorem dT_folded_13 : decode cT_folded 13 = .ok (.bipush 65, 2) := by decide +kernel
theorem dT_folded_15 : decode cT_folded 15 = .ok (.isub, 1) := by decide +kernel
theorem dT_folded_16 : decode cT_folded 16 = .ok (.bipush 97, 2) := by decide +kernel
theorem dT_folded_18 : decode cT_folded 18 = .ok (.iadd, 1) := by decide +kernel
theorem dT_folded_19 : decode cT_folded 19 = .ok (.i2c, 1) := by decide +kernel
theorem dT_folded_20 : decode cT_folded 20 = .ok (.goto 4, 3) := by decide +kernel
theorem dT_folded_23 : decode cT_folded 23 = .ok (.iload_n 0, 1) := by decide +kernel
theorem dT_folded_24 : decode cT_folded 24 = .ok (.ireturn, 1) := by decide +kernel
theorem lkT_31 : zLv "PostIndex$Text" 31 yT_charOr0 := ⟨(zA2 (i := 26) rfl rfl), (zA2 (i := 27) rfl rfl), (zA2 (i := 28) rfl rfl)⟩
theorem lkT_35 : zLs "PostIndex$Text" 35 yT_folded := ⟨(zA2 (i := 33) rfl rfl), (zA2 (i := 34) rfl rfl)⟩
theorem lkT_39 : zLv "PostIndex$Text" 39 yT_append := ⟨(zA2 (i := 44) rfl rfl), (zA1 (i := 200) rfl rfl), (zA1 (i := 201) rfl rfl)⟩
theorem lkT_43 : zLs "PostIndex$Text" 43 yT_isWordCharacter := ⟨(zA2 (i := 30) rfl rfl), (zA2 (i := 31) rfl rfl)⟩
theorem lkT_46 : zLv "PostIndex$Text" 46 yT_tokenEnd := ⟨(zA2 (i := 22) rfl rfl), (zA2 (i := 23) rfl rfl), (zA2 (i := 24) rfl rfl)⟩
theorem lkT_50 : zLs "PostIndex$Text" 50 yT_isDigit := ⟨(zA2 (i := 36) rfl rfl), (zA2 (i := 37) rfl rfl)⟩
end
section
abbrev cP_init : ByteArray := prog_2_method_1_code
def yP_init : MethodName := ⟨"PostIndex$Post", "<init>", "()V"⟩
def fP_init (d : Nat) : zF := (cP_init, 1, yP_init, none, d, 2, 26)
theorem meP_init (d : Nat) : zMe (fP_init d) 0 := ⟨(zA1 (i := 90) rfl rfl), (zA1 (i := 5) rfl rfl), by show "PostIndex$Post" ≠ _; decide +kernel, by show "PostIndex$Post" ≠ _; decide +kernel, by show (parseMethodDescriptor "()V").map _ = _; decide +kernel⟩
theorem dP_init_0 : decode cP_init 0 = .ok (.aload_n 0, 1) := by decide +kernel
theorem dP_init_1 : decode cP_init 1 = .ok (.invokespecial 1, 3) := by decide +kernel
theorem lkP_1 : Cond.methodLink "PostIndex$Post" 1 Lib.objectInit ∈ zAll ∧ Cond.instanceMethod Lib.objectInit ∈ zAll ∧ Cond.code Lib.objectInit ⟨#[0xb1]⟩ 1 none ∈ zAll := ⟨(zA1 (i := 91) rfl rfl), (zA1 (i := 18) rfl rfl), (zA1 (i := 19) rfl rfl)⟩
theorem dP_init_4 : decode cP_init 4 = .ok (.aload_n 0, 1) := by decide +kernel
theorem dP_init_5 : decode cP_init 5 = .ok (.new 7, 3) := by decide +kernel
theorem nwP_7 : zNew "PostIndex$Post" 7 5 2 (fun k => defaultValue (tyT k)) := ⟨RT, TT, tyT, rfl, inT, tyT_ok, (zA1 (i := 92) rfl rfl), (zA1 (i := 21) rfl rfl), (zA1 (i := 2) rfl rfl), fun _ _ => rfl⟩
theorem dP_init_8 : decode cP_init 8 = .ok (.dup, 1) := by decide +kernel
theorem dP_init_9 : decode cP_init 9 = .ok (.invokespecial 9, 3) := by decide +kernel
theorem dP_init_12 : decode cP_init 12 = .ok (.putfield 10, 3) := by decide +kernel
theorem flP_10 : zFld "PostIndex$Post" 10 0 0 4 := ⟨RP, TP, rfl, by decide, inP, (zA1 (i := 94) rfl rfl)⟩
theorem dP_init_15 : decode cP_init 15 = .ok (.return_, 1) := by decide +kernel
abbrev cP_fill : ByteArray := prog_2_method_2_code
def yP_fill : MethodName := ⟨"PostIndex$Post", "fill", "(IILPostIndex$Text;)V"⟩
def fP_fill (d : Nat) : zF := (cP_fill, 4, yP_fill, none, d, 0, 0)
theorem meP_fill (d : Nat) : zMe (fP_fill d) 3 := ⟨(zA2 (i := 4) rfl rfl), (zA1 (i := 5) rfl rfl), by show "PostIndex$Post" ≠ _; decide +kernel, by show "PostIndex$Post" ≠ _; decide +kernel, by show (parseMethodDescriptor "(IILPostIndex$Text;)V").map _ = _; decide +kernel⟩
theorem dP_fill_0 : decode cP_fill 0 = .ok (.aload_n 0, 1) := by decide +kernel
theorem dP_fill_1 : decode cP_fill 1 = .ok (.iload_n 1, 1) := by decide +kernel
theorem dP_fill_2 : decode cP_fill 2 = .ok (.putfield 16, 3) := by decide +kernel
theorem flP_16 : zFld "PostIndex$Post" 16 0 1 4 := ⟨RP, TP, rfl, by decide, inP, (zA1 (i := 96) rfl rfl)⟩
theorem dP_fill_5 : decode cP_fill 5 = .ok (.aload_n 0, 1) := by decide +kernel
theorem dP_fill_6 : decode cP_fill 6 = .ok (.iload_n 2, 1) := by decide +kernel
theorem dP_fill_7 : decode cP_fill 7 = .ok (.putfield 20, 3) := by decide +kernel
theorem flP_20 : zFld "PostIndex$Post" 20 0 2 4 := ⟨RP, TP, rfl, by decide, inP, (zA1 (i := 98) rfl rfl)⟩
theorem dP_fill_10 : decode cP_fill 10 = .ok (.aload_n 0, 1) := by decide +kernel
theorem dP_fill_11 : decode cP_fill 11 = .ok (.getfield 10, 3) := by decide +kernel
theorem dP_fill_14 : decode cP_fill 14 = .ok (.invokevirtual 23, 3) := by decide +kernel
theorem dP_fill_17 : decode cP_fill 17 = .ok (.aload_n 0, 1) := by decide +kernel
theorem dP_fill_18 : decode cP_fill 18 = .ok (.getfield 10, 3) := by decide +kernel
theorem dP_fill_21 : decode cP_fill 21 = .ok (.aload_n 3, 1) := by decide +kernel
theorem dP_fill_22 : decode cP_fill 22 = .ok (.invokevirtual 26, 3) := by decide +kernel
theorem dP_fill_25 : decode cP_fill 25 = .ok (.pop, 1) := by decide +kernel
theorem dP_fill_26 : decode cP_fill 26 = .ok (.return_, 1) := by decide +kernel
theorem lkP_9 : zLi "PostIndex$Post" 9 yT_init := ⟨(zA1 (i := 93) rfl rfl), (zA1 (i := 23) rfl rfl), rfl⟩
theorem lkP_23 : zLv "PostIndex$Post" 23 yT_makeEmpty := ⟨(zA2 (i := 5) rfl rfl), (zA1 (i := 230) rfl rfl), (zA1 (i := 231) rfl rfl)⟩
theorem lkP_26 : zLv "PostIndex$Post" 26 yT_appendBeginning := ⟨(zA2 (i := 6) rfl rfl), (zA1 (i := 216) rfl rfl), (zA1 (i := 217) rfl rfl)⟩
end
section
abbrev cS_init : ByteArray := prog_6_method_1_code
def yS_init : MethodName := ⟨"PostIndex$Segment", "<init>", "()V"⟩
def fS_init (d : Nat) : zF := (cS_init, 2, yS_init, none, d, 98, 1344)
theorem meS_init (d : Nat) : zMe (fS_init d) 0 := ⟨(zA1 (i := 115) rfl rfl), (zA1 (i := 6) rfl rfl), by show "PostIndex$Segment" ≠ _; decide +kernel, by show "PostIndex$Segment" ≠ _; decide +kernel, by show (parseMethodDescriptor "()V").map _ = _; decide +kernel⟩
theorem dS_init_0 : decode cS_init 0 = .ok (.aload_n 0, 1) := by decide +kernel
theorem dS_init_1 : decode cS_init 1 = .ok (.invokespecial 3, 3) := by decide +kernel
theorem lkS_3 : Cond.methodLink "PostIndex$Segment" 3 Lib.objectInit ∈ zAll ∧ Cond.instanceMethod Lib.objectInit ∈ zAll ∧ Cond.code Lib.objectInit ⟨#[0xb1]⟩ 1 none ∈ zAll := ⟨(zA1 (i := 116) rfl rfl), (zA1 (i := 18) rfl rfl), (zA1 (i := 19) rfl rfl)⟩
theorem dS_init_4 : decode cS_init 4 = .ok (.aload_n 0, 1) := by decide +kernel
theorem dS_init_5 : decode cS_init 5 = .ok (.bipush 48, 2) := by decide +kernel
theorem dS_init_7 : decode cS_init 7 = .ok (.newarray .int, 2) := by decide +kernel
theorem dS_init_9 : decode cS_init 9 = .ok (.putfield 9, 3) := by decide +kernel
theorem flS_9 : zFld "PostIndex$Segment" 9 4 1 5 := ⟨RS, TS, rfl, by decide, inS, (zA1 (i := 120) rfl rfl)⟩
theorem dS_init_12 : decode cS_init 12 = .ok (.aload_n 0, 1) := by decide +kernel
theorem dS_init_13 : decode cS_init 13 = .ok (.bipush 48, 2) := by decide +kernel
theorem dS_init_15 : decode cS_init 15 = .ok (.anewarray 15, 3) := by decide +kernel
theorem aqS_15 : zArq "PostIndex$Segment" 15 3 "PostIndex$Text" := ⟨rfl, (zA1 (i := 117) rfl rfl), by decide +kernel⟩
theorem dS_init_18 : decode cS_init 18 = .ok (.putfield 17, 3) := by decide +kernel
theorem flS_17 : zFld "PostIndex$Segment" 17 4 0 5 := ⟨RS, TS, rfl, by decide, inS, (zA1 (i := 119) rfl rfl)⟩
theorem dS_init_21 : decode cS_init 21 = .ok (.iconst 0, 1) := by decide +kernel
theorem dS_init_22 : decode cS_init 22 = .ok (.istore_n 1, 1) := by decide +kernel
theorem dS_init_23 : decode cS_init 23 = .ok (.iload_n 1, 1) := by decide +kernel
theorem dS_init_24 : decode cS_init 24 = .ok (.bipush 48, 2) := by decide +kernel
theorem dS_init_26 : decode cS_init 26 = .ok (.if_icmp .ge 22, 3) := by decide +kernel
theorem dS_init_29 : decode cS_init 29 = .ok (.aload_n 0, 1) := by decide +kernel
theorem dS_init_30 : decode cS_init 30 = .ok (.getfield 17, 3) := by decide +kernel
theorem dS_init_33 : decode cS_init 33 = .ok (.iload_n 1, 1) := by decide +kernel
theorem dS_init_34 : decode cS_init 34 = .ok (.new 15, 3) := by decide +kernel
theorem nwS_15 : zNew "PostIndex$Segment" 15 5 2 (fun k => defaultValue (tyT k)) := ⟨RT, TT, tyT, rfl, inT, tyT_ok, (zA1 (i := 117) rfl rfl), (zA1 (i := 21) rfl rfl), (zA1 (i := 2) rfl rfl), fun _ _ => rfl⟩
theorem dS_init_37 : decode cS_init 37 = .ok (.dup, 1) := by decide +kernel
theorem dS_init_38 : decode cS_init 38 = .ok (.invokespecial 21, 3) := by decide +kernel
theorem dS_init_41 : decode cS_init 41 = .ok (.aastore, 1) := by decide +kernel
theorem dS_init_42 : decode cS_init 42 = .ok (.iinc 1 1, 3) := by decide +kernel
theorem dS_init_45 : decode cS_init 45 = .ok (.goto (-22), 3) := by decide +kernel
theorem dS_init_48 : decode cS_init 48 = .ok (.return_, 1) := by decide +kernel
abbrev cS_addPosting : ByteArray := prog_6_method_2_code
def yS_addPosting : MethodName := ⟨"PostIndex$Segment", "addPosting", "(LPostIndex$Text;II)V"⟩
def fS_addPosting (d : Nat) : zF := (cS_addPosting, 5, yS_addPosting, none, d, 0, 0)
theorem meS_addPosting (d : Nat) : zMe (fS_addPosting d) 3 := ⟨(zA2 (i := 49) rfl rfl), (zA1 (i := 6) rfl rfl), by show "PostIndex$Segment" ≠ _; decide +kernel, by show "PostIndex$Segment" ≠ _; decide +kernel, by show (parseMethodDescriptor "(LPostIndex$Text;II)V").map _ = _; decide +kernel⟩
theorem dS_addPosting_0 : decode cS_addPosting 0 = .ok (.aload_n 0, 1) := by decide +kernel
theorem dS_addPosting_1 : decode cS_addPosting 1 = .ok (.aload_n 1, 1) := by decide +kernel
theorem dS_addPosting_2 : decode cS_addPosting 2 = .ok (.invokevirtual 22, 3) := by decide +kernel
theorem dS_addPosting_5 : decode cS_addPosting 5 = .ok (.istore 4, 2) := by decide +kernel
theorem dS_addPosting_7 : decode cS_addPosting 7 = .ok (.iload 4, 2) := by decide +kernel
theorem dS_addPosting_9 : decode cS_addPosting 9 = .ok (.bipush 48, 2) := by decide +kernel
theorem dS_addPosting_11 : decode cS_addPosting 11 = .ok (.if_icmp .lt 4, 3) := by decide +kernel
theorem dS_addPosting_14 : decode cS_addPosting 14 = .ok (.return_, 1) := by decide +kernel
theorem dS_addPosting_15 : decode cS_addPosting 15 = .ok (.iload 4, 2) := by decide +kernel
theorem dS_addPosting_17 : decode cS_addPosting 17 = .ok (.aload_n 0, 1) := by decide +kernel
theorem dS_addPosting_18 : decode cS_addPosting 18 = .ok (.getfield 26, 3) := by decide +kernel
theorem flS_26 : zFld "PostIndex$Segment" 26 4 2 5 := ⟨RS, TS, rfl, by decide, inS, (zA1 (i := 121) rfl rfl)⟩
theorem dS_addPosting_21 : decode cS_addPosting 21 = .ok (.if_icmp .ne 29, 3) := by decide +kernel
theorem dS_addPosting_24 : decode cS_addPosting 24 = .ok (.aload_n 0, 1) := by decide +kernel
theorem dS_addPosting_25 : decode cS_addPosting 25 = .ok (.getfield 17, 3) := by decide +kernel
theorem dS_addPosting_28 : decode cS_addPosting 28 = .ok (.iload 4, 2) := by decide +kernel
theorem dS_addPosting_30 : decode cS_addPosting 30 = .ok (.aaload, 1) := by decide +kernel
theorem dS_addPosting_31 : decode cS_addPosting 31 = .ok (.aload_n 1, 1) := by decide +kernel
theorem dS_addPosting_32 : decode cS_addPosting 32 = .ok (.iconst 0, 1) := by decide +kernel
theorem dS_addPosting_33 : decode cS_addPosting 33 = .ok (.aload_n 1, 1) := by decide +kernel
theorem dS_addPosting_34 : decode cS_addPosting 34 = .ok (.getfield 30, 3) := by decide +kernel
theorem flS_30 : zFldN "PostIndex$Segment" 30 5 1 2 := ⟨RT, TT, "PostIndex", rfl, by decide, inT, by decide +kernel⟩
theorem dS_addPosting_37 : decode cS_addPosting 37 = .ok (.invokevirtual 33, 3) := by decide +kernel
theorem dS_addPosting_40 : decode cS_addPosting 40 = .ok (.aload_n 0, 1) := by decide +kernel
theorem dS_addPosting_41 : decode cS_addPosting 41 = .ok (.dup, 1) := by decide +kernel
theorem dS_addPosting_42 : decode cS_addPosting 42 = .ok (.getfield 26, 3) := by decide +kernel
theorem dS_addPosting_45 : decode cS_addPosting 45 = .ok (.iconst 1, 1) := by decide +kernel
theorem dS_addPosting_46 : decode cS_addPosting 46 = .ok (.iadd, 1) := by decide +kernel
theorem dS_addPosting_47 : decode cS_addPosting 47 = .ok (.putfield 26, 3) := by decide +kernel
theorem dS_addPosting_50 : decode cS_addPosting 50 = .ok (.aload_n 0, 1) := by decide +kernel
theorem dS_addPosting_51 : decode cS_addPosting 51 = .ok (.getfield 9, 3) := by decide +kernel
theorem dS_addPosting_54 : decode cS_addPosting 54 = .ok (.iload 4, 2) := by decide +kernel
theorem dS_addPosting_56 : decode cS_addPosting 56 = .ok (.dup2, 1) := by decide +kernel
theorem dS_addPosting_57 : decode cS_addPosting 57 = .ok (.iaload, 1) := by decide +kernel
theorem dS_addPosting_58 : decode cS_addPosting 58 = .ok (.iconst 1, 1) := by decide +kernel
theorem dS_addPosting_59 : decode cS_addPosting 59 = .ok (.bipush 8, 2) := by decide +kernel
theorem dS_addPosting_61 : decode cS_addPosting 61 = .ok (.iload_n 2, 1) := by decide +kernel
theorem dS_addPosting_62 : decode cS_addPosting 62 = .ok (.imul, 1) := by decide +kernel
theorem dS_addPosting_63 : decode cS_addPosting 63 = .ok (.iload_n 3, 1) := by decide +kernel
theorem dS_addPosting_64 : decode cS_addPosting 64 = .ok (.iadd, 1) := by decide +kernel
theorem dS_addPosting_65 : decode cS_addPosting 65 = .ok (.ishl, 1) := by decide +kernel
theorem dS_addPosting_66 : decode cS_addPosting 66 = .ok (.ior, 1) := by decide +kernel
theorem dS_addPosting_67 : decode cS_addPosting 67 = .ok (.iastore, 1) := by decide +kernel
theorem dS_addPosting_68 : decode cS_addPosting 68 = .ok (.return_, 1) := by decide +kernel
abbrev cS_placesOf : ByteArray := prog_6_method_3_code
def yS_placesOf : MethodName := ⟨"PostIndex$Segment", "placesOf", "(LPostIndex$Text;I)I"⟩
def fS_placesOf (d : Nat) : zF := (cS_placesOf, 4, yS_placesOf, (some .int), d, 0, 0)
theorem meS_placesOf (d : Nat) : zMe (fS_placesOf d) 2 := ⟨(zA2 (i := 193) rfl rfl), (zA1 (i := 6) rfl rfl), by show "PostIndex$Segment" ≠ _; decide +kernel, by show "PostIndex$Segment" ≠ _; decide +kernel, by show (parseMethodDescriptor "(LPostIndex$Text;I)I").map _ = _; decide +kernel⟩
theorem dS_placesOf_0 : decode cS_placesOf 0 = .ok (.aload_n 0, 1) := by decide +kernel
theorem dS_placesOf_1 : decode cS_placesOf 1 = .ok (.aload_n 1, 1) := by decide +kernel
theorem dS_placesOf_2 : decode cS_placesOf 2 = .ok (.invokevirtual 22, 3) := by decide +kernel
theorem dS_placesOf_5 : decode cS_placesOf 5 = .ok (.istore_n 3, 1) := by decide +kernel
theorem dS_placesOf_6 : decode cS_placesOf 6 = .ok (.iload_n 3, 1) := by decide +kernel
theorem dS_placesOf_7 : decode cS_placesOf 7 = .ok (.aload_n 0, 1) := by decide +kernel
theorem dS_placesOf_8 : decode cS_placesOf 8 = .ok (.getfield 26, 3) := by decide +kernel
theorem dS_placesOf_11 : decode cS_placesOf 11 = .ok (.if_icmp .ge 21, 3) := by decide +kernel
theorem dS_placesOf_14 : decode cS_placesOf 14 = .ok (.aload_n 0, 1) := by decide +kernel
theorem dS_placesOf_15 : decode cS_placesOf 15 = .ok (.getfield 9, 3) := by decide +kernel
theorem dS_placesOf_18 : decode cS_placesOf 18 = .ok (.iload_n 3, 1) := by decide +kernel
theorem dS_placesOf_19 : decode cS_placesOf 19 = .ok (.iaload, 1) := by decide +kernel
theorem dS_placesOf_20 : decode cS_placesOf 20 = .ok (.bipush 8, 2) := by decide +kernel
theorem dS_placesOf_22 : decode cS_placesOf 22 = .ok (.iload_n 2, 1) := by decide +kernel
theorem dS_placesOf_23 : decode cS_placesOf 23 = .ok (.imul, 1) := by decide +kernel
theorem dS_placesOf_24 : decode cS_placesOf 24 = .ok (.iushr, 1) := by decide +kernel
theorem dS_placesOf_25 : decode cS_placesOf 25 = .ok (.sipush 255, 3) := by decide +kernel
theorem dS_placesOf_28 : decode cS_placesOf 28 = .ok (.iand, 1) := by decide +kernel
theorem dS_placesOf_29 : decode cS_placesOf 29 = .ok (.goto 4, 3) := by decide +kernel
theorem dS_placesOf_32 : decode cS_placesOf 32 = .ok (.iconst 0, 1) := by decide +kernel
theorem dS_placesOf_33 : decode cS_placesOf 33 = .ok (.ireturn, 1) := by decide +kernel
abbrev cS_findTerm : ByteArray := prog_6_method_4_code
def yS_findTerm : MethodName := ⟨"PostIndex$Segment", "findTerm", "(LPostIndex$Text;)I"⟩
def fS_findTerm (d : Nat) : zF := (cS_findTerm, 3, yS_findTerm, (some .int), d, 0, 0)
theorem meS_findTerm (d : Nat) : zMe (fS_findTerm d) 1 := ⟨(zA2 (i := 53) rfl rfl), (zA1 (i := 6) rfl rfl), by show "PostIndex$Segment" ≠ _; decide +kernel, by show "PostIndex$Segment" ≠ _; decide +kernel, by show (parseMethodDescriptor "(LPostIndex$Text;)I").map _ = _; decide +kernel⟩
theorem dS_findTerm_0 : decode cS_findTerm 0 = .ok (.iconst 0, 1) := by decide +kernel
theorem dS_findTerm_1 : decode cS_findTerm 1 = .ok (.istore_n 2, 1) := by decide +kernel
theorem dS_findTerm_2 : decode cS_findTerm 2 = .ok (.iload_n 2, 1) := by decide +kernel
theorem dS_findTerm_3 : decode cS_findTerm 3 = .ok (.aload_n 0, 1) := by decide +kernel
theorem dS_findTerm_4 : decode cS_findTerm 4 = .ok (.getfield 26, 3) := by decide +kernel
theorem dS_findTerm_7 : decode cS_findTerm 7 = .ok (.if_icmp .ge 24, 3) := by decide +kernel
theorem dS_findTerm_10 : decode cS_findTerm 10 = .ok (.aload_n 0, 1) := by decide +kernel
theorem dS_findTerm_11 : decode cS_findTerm 11 = .ok (.getfield 17, 3) := by decide +kernel
theorem dS_findTerm_14 : decode cS_findTerm 14 = .ok (.iload_n 2, 1) := by decide +kernel
theorem dS_findTerm_15 : decode cS_findTerm 15 = .ok (.aaload, 1) := by decide +kernel
theorem dS_findTerm_16 : decode cS_findTerm 16 = .ok (.aload_n 1, 1) := by decide +kernel
theorem dS_findTerm_17 : decode cS_findTerm 17 = .ok (.invokevirtual 37, 3) := by decide +kernel
theorem dS_findTerm_20 : decode cS_findTerm 20 = .ok (.ifCond .eq 5, 3) := by decide +kernel
theorem dS_findTerm_23 : decode cS_findTerm 23 = .ok (.iload_n 2, 1) := by decide +kernel
theorem dS_findTerm_24 : decode cS_findTerm 24 = .ok (.ireturn, 1) := by decide +kernel
theorem dS_findTerm_25 : decode cS_findTerm 25 = .ok (.iinc 2 1, 3) := by decide +kernel
theorem dS_findTerm_28 : decode cS_findTerm 28 = .ok (.goto (-26), 3) := by decide +kernel
theorem dS_findTerm_31 : decode cS_findTerm 31 = .ok (.aload_n 0, 1) := by decide +kernel
theorem dS_findTerm_32 : decode cS_findTerm 32 = .ok (.getfield 26, 3) := by decide +kernel
theorem dS_findTerm_35 : decode cS_findTerm 35 = .ok (.ireturn, 1) := by decide +kernel
abbrev cS_rewriteUnit : ByteArray := prog_6_method_5_code
def yS_rewriteUnit : MethodName := ⟨"PostIndex$Segment", "rewriteUnit", "()V"⟩
def fS_rewriteUnit (d : Nat) : zF := (cS_rewriteUnit, 1, yS_rewriteUnit, none, d, 0, 0)
theorem meS_rewriteUnit (d : Nat) : zMe (fS_rewriteUnit d) 0 := ⟨(zA2 (i := 82) rfl rfl), (zA1 (i := 6) rfl rfl), by show "PostIndex$Segment" ≠ _; decide +kernel, by show "PostIndex$Segment" ≠ _; decide +kernel, by show (parseMethodDescriptor "()V").map _ = _; decide +kernel⟩
theorem dS_rewriteUnit_0 : decode cS_rewriteUnit 0 = .ok (.aload_n 0, 1) := by decide +kernel
theorem dS_rewriteUnit_1 : decode cS_rewriteUnit 1 = .ok (.getfield 41, 3) := by decide +kernel
theorem flS_41 : zFld "PostIndex$Segment" 41 4 3 5 := ⟨RS, TS, rfl, by decide, inS, (zA1 (i := 123) rfl rfl)⟩
theorem dS_rewriteUnit_4 : decode cS_rewriteUnit 4 = .ok (.aload_n 0, 1) := by decide +kernel
theorem dS_rewriteUnit_5 : decode cS_rewriteUnit 5 = .ok (.getfield 26, 3) := by decide +kernel
theorem dS_rewriteUnit_8 : decode cS_rewriteUnit 8 = .ok (.if_icmp .ge 16, 3) := by decide +kernel
theorem dS_rewriteUnit_11 : decode cS_rewriteUnit 11 = .ok (.aload_n 0, 1) := by decide +kernel
theorem dS_rewriteUnit_12 : decode cS_rewriteUnit 12 = .ok (.dup, 1) := by decide +kernel
theorem dS_rewriteUnit_13 : decode cS_rewriteUnit 13 = .ok (.getfield 41, 3) := by decide +kernel
theorem dS_rewriteUnit_16 : decode cS_rewriteUnit 16 = .ok (.iconst 1, 1) := by decide +kernel
theorem dS_rewriteUnit_17 : decode cS_rewriteUnit 17 = .ok (.iadd, 1) := by decide +kernel
theorem dS_rewriteUnit_18 : decode cS_rewriteUnit 18 = .ok (.putfield 41, 3) := by decide +kernel
theorem dS_rewriteUnit_21 : decode cS_rewriteUnit 21 = .ok (.goto 8, 3) := by decide +kernel
theorem dS_rewriteUnit_24 : decode cS_rewriteUnit 24 = .ok (.aload_n 0, 1) := by decide +kernel
theorem dS_rewriteUnit_25 : decode cS_rewriteUnit 25 = .ok (.iconst 1, 1) := by decide +kernel
theorem dS_rewriteUnit_26 : decode cS_rewriteUnit 26 = .ok (.putfield 44, 3) := by decide +kernel
theorem flS_44 : zFld "PostIndex$Segment" 44 4 4 5 := ⟨RS, TS, rfl, by decide, inS, (zA1 (i := 125) rfl rfl)⟩
theorem dS_rewriteUnit_29 : decode cS_rewriteUnit 29 = .ok (.return_, 1) := by decide +kernel
abbrev cS_countPostings : ByteArray := prog_6_method_6_code
def yS_countPostings : MethodName := ⟨"PostIndex$Segment", "countPostings", "()I"⟩
def fS_countPostings (d : Nat) : zF := (cS_countPostings, 3, yS_countPostings, (some .int), d, 0, 0)
theorem meS_countPostings (d : Nat) : zMe (fS_countPostings d) 0 := ⟨(zA2 (i := 237) rfl rfl), (zA1 (i := 6) rfl rfl), by show "PostIndex$Segment" ≠ _; decide +kernel, by show "PostIndex$Segment" ≠ _; decide +kernel, by show (parseMethodDescriptor "()I").map _ = _; decide +kernel⟩
theorem dS_countPostings_0 : decode cS_countPostings 0 = .ok (.iconst 0, 1) := by decide +kernel
theorem dS_countPostings_1 : decode cS_countPostings 1 = .ok (.istore_n 1, 1) := by decide +kernel
theorem dS_countPostings_2 : decode cS_countPostings 2 = .ok (.iconst 0, 1) := by decide +kernel
theorem dS_countPostings_3 : decode cS_countPostings 3 = .ok (.istore_n 2, 1) := by decide +kernel
theorem dS_countPostings_4 : decode cS_countPostings 4 = .ok (.iload_n 2, 1) := by decide +kernel
theorem dS_countPostings_5 : decode cS_countPostings 5 = .ok (.aload_n 0, 1) := by decide +kernel
theorem dS_countPostings_6 : decode cS_countPostings 6 = .ok (.getfield 26, 3) := by decide +kernel
theorem dS_countPostings_9 : decode cS_countPostings 9 = .ok (.if_icmp .ge 21, 3) := by decide +kernel
theorem dS_countPostings_12 : decode cS_countPostings 12 = .ok (.iload_n 1, 1) := by decide +kernel
theorem dS_countPostings_13 : decode cS_countPostings 13 = .ok (.aload_n 0, 1) := by decide +kernel
theorem dS_countPostings_14 : decode cS_countPostings 14 = .ok (.getfield 9, 3) := by decide +kernel
theorem dS_countPostings_17 : decode cS_countPostings 17 = .ok (.iload_n 2, 1) := by decide +kernel
theorem dS_countPostings_18 : decode cS_countPostings 18 = .ok (.iaload, 1) := by decide +kernel
theorem dS_countPostings_19 : decode cS_countPostings 19 = .ok (.invokestatic 48, 3) := by decide +kernel
theorem dS_countPostings_22 : decode cS_countPostings 22 = .ok (.iadd, 1) := by decide +kernel
theorem dS_countPostings_23 : decode cS_countPostings 23 = .ok (.istore_n 1, 1) := by decide +kernel
theorem dS_countPostings_24 : decode cS_countPostings 24 = .ok (.iinc 2 1, 3) := by decide +kernel
theorem dS_countPostings_27 : decode cS_countPostings 27 = .ok (.goto (-23), 3) := by decide +kernel
theorem dS_countPostings_30 : decode cS_countPostings 30 = .ok (.iload_n 1, 1) := by decide +kernel
theorem dS_countPostings_31 : decode cS_countPostings 31 = .ok (.ireturn, 1) := by decide +kernel
abbrev cS_countCells : ByteArray := prog_6_method_7_code
def yS_countCells : MethodName := ⟨"PostIndex$Segment", "countCells", "()I"⟩
def fS_countCells (d : Nat) : zF := (cS_countCells, 3, yS_countCells, (some .int), d, 0, 0)
theorem meS_countCells (d : Nat) : zMe (fS_countCells d) 0 := ⟨(zA2 (i := 213) rfl rfl), (zA1 (i := 6) rfl rfl), by show "PostIndex$Segment" ≠ _; decide +kernel, by show "PostIndex$Segment" ≠ _; decide +kernel, by show (parseMethodDescriptor "()I").map _ = _; decide +kernel⟩
theorem dS_countCells_0 : decode cS_countCells 0 = .ok (.iconst 0, 1) := by decide +kernel
theorem dS_countCells_1 : decode cS_countCells 1 = .ok (.istore_n 1, 1) := by decide +kernel
theorem dS_countCells_2 : decode cS_countCells 2 = .ok (.iconst 0, 1) := by decide +kernel
theorem dS_countCells_3 : decode cS_countCells 3 = .ok (.istore_n 2, 1) := by decide +kernel
theorem dS_countCells_4 : decode cS_countCells 4 = .ok (.iload_n 2, 1) := by decide +kernel
theorem dS_countCells_5 : decode cS_countCells 5 = .ok (.aload_n 0, 1) := by decide +kernel
theorem dS_countCells_6 : decode cS_countCells 6 = .ok (.getfield 26, 3) := by decide +kernel
theorem dS_countCells_9 : decode cS_countCells 9 = .ok (.if_icmp .ge 43, 3) := by decide +kernel
theorem dS_countCells_12 : decode cS_countCells 12 = .ok (.iload_n 1, 1) := by decide +kernel
theorem dS_countCells_13 : decode cS_countCells 13 = .ok (.aload_n 0, 1) := by decide +kernel
theorem dS_countCells_14 : decode cS_countCells 14 = .ok (.getfield 44, 3) := by decide +kernel
theorem dS_countCells_17 : decode cS_countCells 17 = .ok (.ifCond .eq 15, 3) := by decide +kernel
theorem dS_countCells_20 : decode cS_countCells 20 = .ok (.aload_n 0, 1) := by decide +kernel
theorem dS_countCells_21 : decode cS_countCells 21 = .ok (.getfield 9, 3) := by decide +kernel
theorem dS_countCells_24 : decode cS_countCells 24 = .ok (.iload_n 2, 1) := by decide +kernel
theorem dS_countCells_25 : decode cS_countCells 25 = .ok (.iaload, 1) := by decide +kernel
theorem dS_countCells_26 : decode cS_countCells 26 = .ok (.invokestatic 54, 3) := by decide +kernel
theorem dS_countCells_29 : decode cS_countCells 29 = .ok (.goto 15, 3) := by decide +kernel
theorem dS_countCells_32 : decode cS_countCells 32 = .ok (.aload_n 0, 1) := by decide +kernel
theorem dS_countCells_33 : decode cS_countCells 33 = .ok (.getfield 9, 3) := by decide +kernel
theorem dS_countCells_36 : decode cS_countCells 36 = .ok (.iload_n 2, 1) := by decide +kernel
theorem dS_countCells_37 : decode cS_countCells 37 = .ok (.iaload, 1) := by decide +kernel
theorem dS_countCells_38 : decode cS_countCells 38 = .ok (.invokestatic 48, 3) := by decide +kernel
theorem dS_countCells_41 : decode cS_countCells 41 = .ok (.invokestatic 57, 3) := by decide +kernel
theorem dS_countCells_44 : decode cS_countCells 44 = .ok (.iadd, 1) := by decide +kernel
theorem dS_countCells_45 : decode cS_countCells 45 = .ok (.istore_n 1, 1) := by decide +kernel
theorem dS_countCells_46 : decode cS_countCells 46 = .ok (.iinc 2 1, 3) := by decide +kernel
theorem dS_countCells_49 : decode cS_countCells 49 = .ok (.goto (-45), 3) := by decide +kernel
theorem dS_countCells_52 : decode cS_countCells 52 = .ok (.iload_n 1, 1) := by decide +kernel
theorem dS_countCells_53 : decode cS_countCells 53 = .ok (.ireturn, 1) := by decide +kernel
abbrev cS_sliceCellsFor : ByteArray := prog_6_method_8_code
def yS_sliceCellsFor : MethodName := ⟨"PostIndex$Segment", "sliceCellsFor", "(I)I"⟩
def fS_sliceCellsFor (d : Nat) : zF := (cS_sliceCellsFor, 4, yS_sliceCellsFor, (some .int), d, 0, 0)
theorem meS_sliceCellsFor (d : Nat) : zMe (fS_sliceCellsFor d) 1 := ⟨(zA2 (i := 225) rfl rfl), (zA1 (i := 6) rfl rfl), by show "PostIndex$Segment" ≠ _; decide +kernel, by show "PostIndex$Segment" ≠ _; decide +kernel, by show (parseMethodDescriptor "(I)I").map _ = _; decide +kernel⟩
theorem dS_sliceCellsFor_0 : decode cS_sliceCellsFor 0 = .ok (.iconst 2, 1) := by decide +kernel
theorem dS_sliceCellsFor_1 : decode cS_sliceCellsFor 1 = .ok (.istore_n 1, 1) := by decide +kernel
theorem dS_sliceCellsFor_2 : decode cS_sliceCellsFor 2 = .ok (.iconst 4, 1) := by decide +kernel
theorem dS_sliceCellsFor_3 : decode cS_sliceCellsFor 3 = .ok (.istore_n 2, 1) := by decide +kernel
theorem dS_sliceCellsFor_4 : decode cS_sliceCellsFor 4 = .ok (.iconst 2, 1) := by decide +kernel
theorem dS_sliceCellsFor_5 : decode cS_sliceCellsFor 5 = .ok (.istore_n 3, 1) := by decide +kernel
theorem dS_sliceCellsFor_6 : decode cS_sliceCellsFor 6 = .ok (.iload_n 3, 1) := by decide +kernel
theorem dS_sliceCellsFor_7 : decode cS_sliceCellsFor 7 = .ok (.iload_n 0, 1) := by decide +kernel
theorem dS_sliceCellsFor_8 : decode cS_sliceCellsFor 8 = .ok (.if_icmp .ge 19, 3) := by decide +kernel
theorem dS_sliceCellsFor_11 : decode cS_sliceCellsFor 11 = .ok (.iload_n 1, 1) := by decide +kernel
theorem dS_sliceCellsFor_12 : decode cS_sliceCellsFor 12 = .ok (.iload_n 2, 1) := by decide +kernel
theorem dS_sliceCellsFor_13 : decode cS_sliceCellsFor 13 = .ok (.iadd, 1) := by decide +kernel
theorem dS_sliceCellsFor_14 : decode cS_sliceCellsFor 14 = .ok (.istore_n 1, 1) := by decide +kernel
theorem dS_sliceCellsFor_15 : decode cS_sliceCellsFor 15 = .ok (.iload_n 3, 1) := by decide +kernel
theorem dS_sliceCellsFor_16 : decode cS_sliceCellsFor 16 = .ok (.iload_n 2, 1) := by decide +kernel
theorem dS_sliceCellsFor_17 : decode cS_sliceCellsFor 17 = .ok (.iconst 1, 1) := by decide +kernel
theorem dS_sliceCellsFor_18 : decode cS_sliceCellsFor 18 = .ok (.isub, 1) := by decide +kernel
theorem dS_sliceCellsFor_19 : decode cS_sliceCellsFor 19 = .ok (.iadd, 1) := by decide +kernel
theorem dS_sliceCellsFor_20 : decode cS_sliceCellsFor 20 = .ok (.istore_n 3, 1) := by decide +kernel
theorem dS_sliceCellsFor_21 : decode cS_sliceCellsFor 21 = .ok (.bipush 8, 2) := by decide +kernel
theorem dS_sliceCellsFor_23 : decode cS_sliceCellsFor 23 = .ok (.istore_n 2, 1) := by decide +kernel
theorem dS_sliceCellsFor_24 : decode cS_sliceCellsFor 24 = .ok (.goto (-18), 3) := by decide +kernel
theorem dS_sliceCellsFor_27 : decode cS_sliceCellsFor 27 = .ok (.iload_n 1, 1) := by decide +kernel
theorem dS_sliceCellsFor_28 : decode cS_sliceCellsFor 28 = .ok (.ireturn, 1) := by decide +kernel
abbrev cS_piecesFor : ByteArray := prog_6_method_9_code
def yS_piecesFor : MethodName := ⟨"PostIndex$Segment", "piecesFor", "(I)I"⟩
def fS_piecesFor (d : Nat) : zF := (cS_piecesFor, 5, yS_piecesFor, (some .int), d, 0, 0)
theorem meS_piecesFor (d : Nat) : zMe (fS_piecesFor d) 1 := ⟨(zA2 (i := 216) rfl rfl), (zA1 (i := 6) rfl rfl), by show "PostIndex$Segment" ≠ _; decide +kernel, by show "PostIndex$Segment" ≠ _; decide +kernel, by show (parseMethodDescriptor "(I)I").map _ = _; decide +kernel⟩
theorem dS_piecesFor_0 : decode cS_piecesFor 0 = .ok (.iconst 0, 1) := by decide +kernel
theorem dS_piecesFor_1 : decode cS_piecesFor 1 = .ok (.istore_n 1, 1) := by decide +kernel
theorem dS_piecesFor_2 : decode cS_piecesFor 2 = .ok (.bipush 32, 2) := by decide +kernel
theorem dS_piecesFor_4 : decode cS_piecesFor 4 = .ok (.istore_n 2, 1) := by decide +kernel
theorem dS_piecesFor_5 : decode cS_piecesFor 5 = .ok (.bipush 31, 2) := by decide +kernel
theorem dS_piecesFor_7 : decode cS_piecesFor 7 = .ok (.istore_n 3, 1) := by decide +kernel
theorem dS_piecesFor_8 : decode cS_piecesFor 8 = .ok (.iload_n 3, 1) := by decide +kernel
theorem dS_piecesFor_9 : decode cS_piecesFor 9 = .ok (.ifCond .lt 50, 3) := by decide +kernel
theorem dS_piecesFor_12 : decode cS_piecesFor 12 = .ok (.iload_n 0, 1) := by decide +kernel
theorem dS_piecesFor_13 : decode cS_piecesFor 13 = .ok (.iload_n 3, 1) := by decide +kernel
theorem dS_piecesFor_14 : decode cS_piecesFor 14 = .ok (.iushr, 1) := by decide +kernel
theorem dS_piecesFor_15 : decode cS_piecesFor 15 = .ok (.iconst 1, 1) := by decide +kernel
theorem dS_piecesFor_16 : decode cS_piecesFor 16 = .ok (.iand, 1) := by decide +kernel
theorem dS_piecesFor_17 : decode cS_piecesFor 17 = .ok (.iconst 1, 1) := by decide +kernel
theorem dS_piecesFor_18 : decode cS_piecesFor 18 = .ok (.if_icmp .ne 35, 3) := by decide +kernel
theorem dS_piecesFor_21 : decode cS_piecesFor 21 = .ok (.iload_n 2, 1) := by decide +kernel
theorem dS_piecesFor_22 : decode cS_piecesFor 22 = .ok (.iload_n 3, 1) := by decide +kernel
theorem dS_piecesFor_23 : decode cS_piecesFor 23 = .ok (.isub, 1) := by decide +kernel
theorem dS_piecesFor_24 : decode cS_piecesFor 24 = .ok (.istore 4, 2) := by decide +kernel
theorem dS_piecesFor_26 : decode cS_piecesFor 26 = .ok (.iload_n 1, 1) := by decide +kernel
theorem dS_piecesFor_27 : decode cS_piecesFor 27 = .ok (.iload 4, 2) := by decide +kernel
theorem dS_piecesFor_29 : decode cS_piecesFor 29 = .ok (.iconst 4, 1) := by decide +kernel
theorem dS_piecesFor_30 : decode cS_piecesFor 30 = .ok (.if_icmp .ge 7, 3) := by decide +kernel
theorem dS_piecesFor_33 : decode cS_piecesFor 33 = .ok (.iconst 1, 1) := by decide +kernel
theorem dS_piecesFor_34 : decode cS_piecesFor 34 = .ok (.goto 15, 3) := by decide +kernel
theorem dS_piecesFor_37 : decode cS_piecesFor 37 = .ok (.iload 4, 2) := by decide +kernel
theorem dS_piecesFor_39 : decode cS_piecesFor 39 = .ok (.bipush 16, 2) := by decide +kernel
theorem dS_piecesFor_41 : decode cS_piecesFor 41 = .ok (.if_icmp .ge 7, 3) := by decide +kernel
theorem dS_piecesFor_44 : decode cS_piecesFor 44 = .ok (.iconst 2, 1) := by decide +kernel
theorem dS_piecesFor_45 : decode cS_piecesFor 45 = .ok (.goto 4, 3) := by decide +kernel
theorem dS_piecesFor_48 : decode cS_piecesFor 48 = .ok (.iconst 3, 1) := by decide +kernel
theorem dS_piecesFor_49 : decode cS_piecesFor 49 = .ok (.iadd, 1) := by decide +kernel
theorem dS_piecesFor_50 : decode cS_piecesFor 50 = .ok (.istore_n 1, 1) := by decide +kernel
theorem dS_piecesFor_51 : decode cS_piecesFor 51 = .ok (.iload_n 3, 1) := by decide +kernel
theorem dS_piecesFor_52 : decode cS_piecesFor 52 = .ok (.istore_n 2, 1) := by decide +kernel
theorem dS_piecesFor_53 : decode cS_piecesFor 53 = .ok (.iinc 3 (-1), 3) := by decide +kernel
theorem dS_piecesFor_56 : decode cS_piecesFor 56 = .ok (.goto (-48), 3) := by decide +kernel
theorem dS_piecesFor_59 : decode cS_piecesFor 59 = .ok (.iload_n 1, 1) := by decide +kernel
theorem dS_piecesFor_60 : decode cS_piecesFor 60 = .ok (.ireturn, 1) := by decide +kernel
theorem lkS_21 : zLi "PostIndex$Segment" 21 yT_init := ⟨(zA1 (i := 118) rfl rfl), (zA1 (i := 23) rfl rfl), rfl⟩
theorem lkS_22 : zLv "PostIndex$Segment" 22 yS_findTerm := ⟨(zA2 (i := 50) rfl rfl), (zA2 (i := 52) rfl rfl), (zA0 (i := 3) (q := (yS_findTerm, 5)) rfl rfl)⟩
theorem lkS_33 : zLv "PostIndex$Segment" 33 yT_setFolded := ⟨(zA2 (i := 58) rfl rfl), (zA2 (i := 41) rfl rfl), (zA2 (i := 42) rfl rfl)⟩
theorem lkS_37 : zLv "PostIndex$Segment" 37 yT_isSame := ⟨(zA2 (i := 54) rfl rfl), (zA2 (i := 55) rfl rfl), (zA2 (i := 56) rfl rfl)⟩
theorem lkS_48 : zLs "PostIndex$Segment" 48 yI_bitCount := ⟨(zA2 (i := 217) rfl rfl), (zA2 (i := 218) rfl rfl)⟩
theorem lkS_54 : zLs "PostIndex$Segment" 54 yS_piecesFor := ⟨(zA2 (i := 214) rfl rfl), (zA2 (i := 215) rfl rfl)⟩
theorem lkS_57 : zLs "PostIndex$Segment" 57 yS_sliceCellsFor := ⟨(zA2 (i := 223) rfl rfl), (zA2 (i := 224) rfl rfl)⟩
end
section
abbrev cQ_init : ByteArray := prog_3_method_1_code
def yQ_init : MethodName := ⟨"PostIndex$Query", "<init>", "()V"⟩
def fQ_init (d : Nat) : zF := (cQ_init, 2, yQ_init, none, d, 28, 468)
theorem meQ_init (d : Nat) : zMe (fQ_init d) 0 := ⟨(zA1 (i := 49) rfl rfl), (zA1 (i := 4) rfl rfl), by show "PostIndex$Query" ≠ _; decide +kernel, by show "PostIndex$Query" ≠ _; decide +kernel, by show (parseMethodDescriptor "()V").map _ = _; decide +kernel⟩
theorem dQ_init_0 : decode cQ_init 0 = .ok (.aload_n 0, 1) := by decide +kernel
theorem dQ_init_1 : decode cQ_init 1 = .ok (.invokespecial 3, 3) := by decide +kernel
theorem lkQ_3 : Cond.methodLink "PostIndex$Query" 3 Lib.objectInit ∈ zAll ∧ Cond.instanceMethod Lib.objectInit ∈ zAll ∧ Cond.code Lib.objectInit ⟨#[0xb1]⟩ 1 none ∈ zAll := ⟨(zA1 (i := 50) rfl rfl), (zA1 (i := 18) rfl rfl), (zA1 (i := 19) rfl rfl)⟩
theorem dQ_init_4 : decode cQ_init 4 = .ok (.aload_n 0, 1) := by decide +kernel
theorem dQ_init_5 : decode cQ_init 5 = .ok (.bipush 48, 2) := by decide +kernel
theorem dQ_init_7 : decode cQ_init 7 = .ok (.newarray .int, 2) := by decide +kernel
theorem dQ_init_9 : decode cQ_init 9 = .ok (.putfield 9, 3) := by decide +kernel
theorem flQ_9 : zFld "PostIndex$Query" 9 1 0 6 := ⟨RQ, TQ, rfl, by decide, inQ, (zA1 (i := 54) rfl rfl)⟩
theorem dQ_init_12 : decode cQ_init 12 = .ok (.aload_n 0, 1) := by decide +kernel
theorem dQ_init_13 : decode cQ_init 13 = .ok (.bipush 48, 2) := by decide +kernel
theorem dQ_init_15 : decode cQ_init 15 = .ok (.newarray .int, 2) := by decide +kernel
theorem dQ_init_17 : decode cQ_init 17 = .ok (.putfield 15, 3) := by decide +kernel
theorem flQ_15 : zFld "PostIndex$Query" 15 1 1 6 := ⟨RQ, TQ, rfl, by decide, inQ, (zA1 (i := 55) rfl rfl)⟩
theorem dQ_init_20 : decode cQ_init 20 = .ok (.aload_n 0, 1) := by decide +kernel
theorem dQ_init_21 : decode cQ_init 21 = .ok (.bipush 48, 2) := by decide +kernel
theorem dQ_init_23 : decode cQ_init 23 = .ok (.newarray .int, 2) := by decide +kernel
theorem dQ_init_25 : decode cQ_init 25 = .ok (.putfield 18, 3) := by decide +kernel
theorem flQ_18 : zFld "PostIndex$Query" 18 1 2 6 := ⟨RQ, TQ, rfl, by decide, inQ, (zA1 (i := 56) rfl rfl)⟩
theorem dQ_init_28 : decode cQ_init 28 = .ok (.aload_n 0, 1) := by decide +kernel
theorem dQ_init_29 : decode cQ_init 29 = .ok (.bipush 12, 2) := by decide +kernel
theorem dQ_init_31 : decode cQ_init 31 = .ok (.anewarray 21, 3) := by decide +kernel
theorem aqQ_21 : zArq "PostIndex$Query" 21 3 "PostIndex$Text" := ⟨rfl, (zA1 (i := 51) rfl rfl), by decide +kernel⟩
theorem dQ_init_34 : decode cQ_init 34 = .ok (.putfield 23, 3) := by decide +kernel
theorem flQ_23 : zFld "PostIndex$Query" 23 1 4 6 := ⟨RQ, TQ, rfl, by decide, inQ, (zA1 (i := 58) rfl rfl)⟩
theorem dQ_init_37 : decode cQ_init 37 = .ok (.iconst 0, 1) := by decide +kernel
theorem dQ_init_38 : decode cQ_init 38 = .ok (.istore_n 1, 1) := by decide +kernel
theorem dQ_init_39 : decode cQ_init 39 = .ok (.iload_n 1, 1) := by decide +kernel
theorem dQ_init_40 : decode cQ_init 40 = .ok (.bipush 12, 2) := by decide +kernel
theorem dQ_init_42 : decode cQ_init 42 = .ok (.if_icmp .ge 22, 3) := by decide +kernel
theorem dQ_init_45 : decode cQ_init 45 = .ok (.aload_n 0, 1) := by decide +kernel
theorem dQ_init_46 : decode cQ_init 46 = .ok (.getfield 23, 3) := by decide +kernel
theorem dQ_init_49 : decode cQ_init 49 = .ok (.iload_n 1, 1) := by decide +kernel
theorem dQ_init_50 : decode cQ_init 50 = .ok (.new 21, 3) := by decide +kernel
theorem nwQ_21 : zNew "PostIndex$Query" 21 5 2 (fun k => defaultValue (tyT k)) := ⟨RT, TT, tyT, rfl, inT, tyT_ok, (zA1 (i := 51) rfl rfl), (zA1 (i := 21) rfl rfl), (zA1 (i := 2) rfl rfl), fun _ _ => rfl⟩
theorem dQ_init_53 : decode cQ_init 53 = .ok (.dup, 1) := by decide +kernel
theorem dQ_init_54 : decode cQ_init 54 = .ok (.invokespecial 27, 3) := by decide +kernel
theorem dQ_init_57 : decode cQ_init 57 = .ok (.aastore, 1) := by decide +kernel
theorem dQ_init_58 : decode cQ_init 58 = .ok (.iinc 1 1, 3) := by decide +kernel
theorem dQ_init_61 : decode cQ_init 61 = .ok (.goto (-22), 3) := by decide +kernel
theorem dQ_init_64 : decode cQ_init 64 = .ok (.return_, 1) := by decide +kernel
abbrev cQ_makeEmpty : ByteArray := prog_3_method_2_code
def yQ_makeEmpty : MethodName := ⟨"PostIndex$Query", "makeEmpty", "()V"⟩
def fQ_makeEmpty (d : Nat) : zF := (cQ_makeEmpty, 1, yQ_makeEmpty, none, d, 0, 0)
theorem meQ_makeEmpty (d : Nat) : zMe (fQ_makeEmpty d) 0 := ⟨(zA2 (i := 96) rfl rfl), (zA1 (i := 4) rfl rfl), by show "PostIndex$Query" ≠ _; decide +kernel, by show "PostIndex$Query" ≠ _; decide +kernel, by show (parseMethodDescriptor "()V").map _ = _; decide +kernel⟩
theorem dQ_makeEmpty_0 : decode cQ_makeEmpty 0 = .ok (.aload_n 0, 1) := by decide +kernel
theorem dQ_makeEmpty_1 : decode cQ_makeEmpty 1 = .ok (.iconst 0, 1) := by decide +kernel
theorem dQ_makeEmpty_2 : decode cQ_makeEmpty 2 = .ok (.putfield 28, 3) := by decide +kernel
theorem flQ_28 : zFld "PostIndex$Query" 28 1 3 6 := ⟨RQ, TQ, rfl, by decide, inQ, (zA1 (i := 57) rfl rfl)⟩
theorem dQ_makeEmpty_5 : decode cQ_makeEmpty 5 = .ok (.aload_n 0, 1) := by decide +kernel
theorem dQ_makeEmpty_6 : decode cQ_makeEmpty 6 = .ok (.iconst 0, 1) := by decide +kernel
theorem dQ_makeEmpty_7 : decode cQ_makeEmpty 7 = .ok (.putfield 32, 3) := by decide +kernel
theorem flQ_32 : zFld "PostIndex$Query" 32 1 5 6 := ⟨RQ, TQ, rfl, by decide, inQ, (zA1 (i := 59) rfl rfl)⟩
theorem dQ_makeEmpty_10 : decode cQ_makeEmpty 10 = .ok (.return_, 1) := by decide +kernel
abbrev cQ_addWord : ByteArray := prog_3_method_3_code
def yQ_addWord : MethodName := ⟨"PostIndex$Query", "addWord", "(LPostIndex$Text;II)Z"⟩
def fQ_addWord (d : Nat) : zF := (cQ_addWord, 4, yQ_addWord, (some .boolean), d, 0, 0)
theorem meQ_addWord (d : Nat) : zMe (fQ_addWord d) 3 := ⟨(zA2 (i := 138) rfl rfl), (zA1 (i := 4) rfl rfl), by show "PostIndex$Query" ≠ _; decide +kernel, by show "PostIndex$Query" ≠ _; decide +kernel, by show (parseMethodDescriptor "(LPostIndex$Text;II)Z").map _ = _; decide +kernel⟩
theorem dQ_addWord_0 : decode cQ_addWord 0 = .ok (.aload_n 0, 1) := by decide +kernel
theorem dQ_addWord_1 : decode cQ_addWord 1 = .ok (.getfield 32, 3) := by decide +kernel
theorem dQ_addWord_4 : decode cQ_addWord 4 = .ok (.bipush 12, 2) := by decide +kernel
theorem dQ_addWord_6 : decode cQ_addWord 6 = .ok (.if_icmp .lt 5, 3) := by decide +kernel
theorem dQ_addWord_9 : decode cQ_addWord 9 = .ok (.iconst 0, 1) := by decide +kernel
theorem dQ_addWord_10 : decode cQ_addWord 10 = .ok (.ireturn, 1) := by decide +kernel
theorem dQ_addWord_11 : decode cQ_addWord 11 = .ok (.aload_n 0, 1) := by decide +kernel
theorem dQ_addWord_12 : decode cQ_addWord 12 = .ok (.getfield 23, 3) := by decide +kernel
theorem dQ_addWord_15 : decode cQ_addWord 15 = .ok (.aload_n 0, 1) := by decide +kernel
theorem dQ_addWord_16 : decode cQ_addWord 16 = .ok (.getfield 32, 3) := by decide +kernel
theorem dQ_addWord_19 : decode cQ_addWord 19 = .ok (.aaload, 1) := by decide +kernel
theorem dQ_addWord_20 : decode cQ_addWord 20 = .ok (.aload_n 1, 1) := by decide +kernel
theorem dQ_addWord_21 : decode cQ_addWord 21 = .ok (.iload_n 2, 1) := by decide +kernel
theorem dQ_addWord_22 : decode cQ_addWord 22 = .ok (.iload_n 3, 1) := by decide +kernel
theorem dQ_addWord_23 : decode cQ_addWord 23 = .ok (.invokevirtual 35, 3) := by decide +kernel
theorem dQ_addWord_26 : decode cQ_addWord 26 = .ok (.aload_n 0, 1) := by decide +kernel
theorem dQ_addWord_27 : decode cQ_addWord 27 = .ok (.dup, 1) := by decide +kernel
theorem dQ_addWord_28 : decode cQ_addWord 28 = .ok (.getfield 32, 3) := by decide +kernel
theorem dQ_addWord_31 : decode cQ_addWord 31 = .ok (.iconst 1, 1) := by decide +kernel
theorem dQ_addWord_32 : decode cQ_addWord 32 = .ok (.iadd, 1) := by decide +kernel
theorem dQ_addWord_33 : decode cQ_addWord 33 = .ok (.putfield 32, 3) := by decide +kernel
theorem dQ_addWord_36 : decode cQ_addWord 36 = .ok (.iconst 1, 1) := by decide +kernel
theorem dQ_addWord_37 : decode cQ_addWord 37 = .ok (.ireturn, 1) := by decide +kernel
abbrev cQ_addWordsStep : ByteArray := prog_3_method_4_code
def yQ_addWordsStep : MethodName := ⟨"PostIndex$Query", "addWordsStep", "(I)Z"⟩
def fQ_addWordsStep (d : Nat) : zF := (cQ_addWordsStep, 2, yQ_addWordsStep, (some .boolean), d, 0, 0)
theorem meQ_addWordsStep (d : Nat) : zMe (fQ_addWordsStep d) 1 := ⟨(zA2 (i := 143) rfl rfl), (zA1 (i := 4) rfl rfl), by show "PostIndex$Query" ≠ _; decide +kernel, by show "PostIndex$Query" ≠ _; decide +kernel, by show (parseMethodDescriptor "(I)Z").map _ = _; decide +kernel⟩
theorem dQ_addWordsStep_0 : decode cQ_addWordsStep 0 = .ok (.aload_n 0, 1) := by decide +kernel
theorem dQ_addWordsStep_1 : decode cQ_addWordsStep 1 = .ok (.iconst 0, 1) := by decide +kernel
theorem dQ_addWordsStep_2 : decode cQ_addWordsStep 2 = .ok (.iload_n 1, 1) := by decide +kernel
theorem dQ_addWordsStep_3 : decode cQ_addWordsStep 3 = .ok (.invokevirtual 39, 3) := by decide +kernel
theorem dQ_addWordsStep_6 : decode cQ_addWordsStep 6 = .ok (.ireturn, 1) := by decide +kernel
abbrev cQ_addStep : ByteArray := prog_3_method_5_code
def yQ_addStep : MethodName := ⟨"PostIndex$Query", "addStep", "(II)Z"⟩
def fQ_addStep (d : Nat) : zF := (cQ_addStep, 3, yQ_addStep, (some .boolean), d, 0, 0)
theorem meQ_addStep (d : Nat) : zMe (fQ_addStep d) 2 := ⟨(zA2 (i := 147) rfl rfl), (zA1 (i := 4) rfl rfl), by show "PostIndex$Query" ≠ _; decide +kernel, by show "PostIndex$Query" ≠ _; decide +kernel, by show (parseMethodDescriptor "(II)Z").map _ = _; decide +kernel⟩
theorem dQ_addStep_0 : decode cQ_addStep 0 = .ok (.aload_n 0, 1) := by decide +kernel
theorem dQ_addStep_1 : decode cQ_addStep 1 = .ok (.getfield 28, 3) := by decide +kernel
theorem dQ_addStep_4 : decode cQ_addStep 4 = .ok (.bipush 48, 2) := by decide +kernel
theorem dQ_addStep_6 : decode cQ_addStep 6 = .ok (.if_icmp .lt 5, 3) := by decide +kernel
theorem dQ_addStep_9 : decode cQ_addStep 9 = .ok (.iconst 0, 1) := by decide +kernel
theorem dQ_addStep_10 : decode cQ_addStep 10 = .ok (.ireturn, 1) := by decide +kernel
theorem dQ_addStep_11 : decode cQ_addStep 11 = .ok (.aload_n 0, 1) := by decide +kernel
theorem dQ_addStep_12 : decode cQ_addStep 12 = .ok (.getfield 9, 3) := by decide +kernel
theorem dQ_addStep_15 : decode cQ_addStep 15 = .ok (.aload_n 0, 1) := by decide +kernel
theorem dQ_addStep_16 : decode cQ_addStep 16 = .ok (.getfield 28, 3) := by decide +kernel
theorem dQ_addStep_19 : decode cQ_addStep 19 = .ok (.iload_n 1, 1) := by decide +kernel
theorem dQ_addStep_20 : decode cQ_addStep 20 = .ok (.iastore, 1) := by decide +kernel
theorem dQ_addStep_21 : decode cQ_addStep 21 = .ok (.aload_n 0, 1) := by decide +kernel
theorem dQ_addStep_22 : decode cQ_addStep 22 = .ok (.getfield 15, 3) := by decide +kernel
theorem dQ_addStep_25 : decode cQ_addStep 25 = .ok (.aload_n 0, 1) := by decide +kernel
theorem dQ_addStep_26 : decode cQ_addStep 26 = .ok (.getfield 28, 3) := by decide +kernel
theorem dQ_addStep_29 : decode cQ_addStep 29 = .ok (.iload_n 2, 1) := by decide +kernel
theorem dQ_addStep_30 : decode cQ_addStep 30 = .ok (.iastore, 1) := by decide +kernel
theorem dQ_addStep_31 : decode cQ_addStep 31 = .ok (.aload_n 0, 1) := by decide +kernel
theorem dQ_addStep_32 : decode cQ_addStep 32 = .ok (.getfield 18, 3) := by decide +kernel
theorem dQ_addStep_35 : decode cQ_addStep 35 = .ok (.aload_n 0, 1) := by decide +kernel
theorem dQ_addStep_36 : decode cQ_addStep 36 = .ok (.getfield 28, 3) := by decide +kernel
theorem dQ_addStep_39 : decode cQ_addStep 39 = .ok (.aload_n 0, 1) := by decide +kernel
theorem dQ_addStep_40 : decode cQ_addStep 40 = .ok (.getfield 32, 3) := by decide +kernel
theorem dQ_addStep_43 : decode cQ_addStep 43 = .ok (.iastore, 1) := by decide +kernel
theorem dQ_addStep_44 : decode cQ_addStep 44 = .ok (.aload_n 0, 1) := by decide +kernel
theorem dQ_addStep_45 : decode cQ_addStep 45 = .ok (.dup, 1) := by decide +kernel
theorem dQ_addStep_46 : decode cQ_addStep 46 = .ok (.getfield 28, 3) := by decide +kernel
theorem dQ_addStep_49 : decode cQ_addStep 49 = .ok (.iconst 1, 1) := by decide +kernel
theorem dQ_addStep_50 : decode cQ_addStep 50 = .ok (.iadd, 1) := by decide +kernel
theorem dQ_addStep_51 : decode cQ_addStep 51 = .ok (.putfield 28, 3) := by decide +kernel
theorem dQ_addStep_54 : decode cQ_addStep 54 = .ok (.iconst 1, 1) := by decide +kernel
theorem dQ_addStep_55 : decode cQ_addStep 55 = .ok (.ireturn, 1) := by decide +kernel
abbrev cQ_matches : ByteArray := prog_3_method_6_code
def yQ_matches : MethodName := ⟨"PostIndex$Query", "matches", "(LPostIndex$Post;LPostIndex$Segment;I)Z"⟩
def fQ_matches (d : Nat) : zF := (cQ_matches, 6, yQ_matches, (some .boolean), d, 0, 0)
theorem meQ_matches (d : Nat) : zMe (fQ_matches d) 3 := ⟨(zA2 (i := 181) rfl rfl), (zA1 (i := 4) rfl rfl), by show "PostIndex$Query" ≠ _; decide +kernel, by show "PostIndex$Query" ≠ _; decide +kernel, by show (parseMethodDescriptor "(LPostIndex$Post;LPostIndex$Segment;I)Z").map _ = _; decide +kernel⟩
theorem dQ_matches_0 : decode cQ_matches 0 = .ok (.iconst 0, 1) := by decide +kernel
theorem dQ_matches_1 : decode cQ_matches 1 = .ok (.istore 4, 2) := by decide +kernel
theorem dQ_matches_3 : decode cQ_matches 3 = .ok (.iconst 0, 1) := by decide +kernel
theorem dQ_matches_4 : decode cQ_matches 4 = .ok (.istore 5, 2) := by decide +kernel
theorem dQ_matches_6 : decode cQ_matches 6 = .ok (.iload 5, 2) := by decide +kernel
theorem dQ_matches_8 : decode cQ_matches 8 = .ok (.aload_n 0, 1) := by decide +kernel
theorem dQ_matches_9 : decode cQ_matches 9 = .ok (.getfield 28, 3) := by decide +kernel
theorem dQ_matches_12 : decode cQ_matches 12 = .ok (.if_icmp .ge 104, 3) := by decide +kernel
theorem dQ_matches_15 : decode cQ_matches 15 = .ok (.aload_n 0, 1) := by decide +kernel
theorem dQ_matches_16 : decode cQ_matches 16 = .ok (.getfield 9, 3) := by decide +kernel
theorem dQ_matches_19 : decode cQ_matches 19 = .ok (.iload 5, 2) := by decide +kernel
theorem dQ_matches_21 : decode cQ_matches 21 = .ok (.iaload, 1) := by decide +kernel
theorem dQ_matches_22 : decode cQ_matches 22 = .ok (.tableswitch 64 4 6 #[26, 35, 50], 26) := by decide +kernel
theorem dQ_matches_48 : decode cQ_matches 48 = .ok (.iload 4, 2) := by decide +kernel
theorem dQ_matches_50 : decode cQ_matches 50 = .ok (.iconst 1, 1) := by decide +kernel
theorem dQ_matches_51 : decode cQ_matches 51 = .ok (.ixor, 1) := by decide +kernel
theorem dQ_matches_52 : decode cQ_matches 52 = .ok (.istore 4, 2) := by decide +kernel
theorem dQ_matches_54 : decode cQ_matches 54 = .ok (.goto 56, 3) := by decide +kernel
theorem dQ_matches_57 : decode cQ_matches 57 = .ok (.iload 4, 2) := by decide +kernel
theorem dQ_matches_59 : decode cQ_matches 59 = .ok (.iconst 1, 1) := by decide +kernel
theorem dQ_matches_60 : decode cQ_matches 60 = .ok (.iushr, 1) := by decide +kernel
theorem dQ_matches_61 : decode cQ_matches 61 = .ok (.iload 4, 2) := by decide +kernel
theorem dQ_matches_63 : decode cQ_matches 63 = .ok (.bipush (-2), 2) := by decide +kernel
theorem dQ_matches_65 : decode cQ_matches 65 = .ok (.ior, 1) := by decide +kernel
theorem dQ_matches_66 : decode cQ_matches 66 = .ok (.iand, 1) := by decide +kernel
theorem dQ_matches_67 : decode cQ_matches 67 = .ok (.istore 4, 2) := by decide +kernel
theorem dQ_matches_69 : decode cQ_matches 69 = .ok (.goto 41, 3) := by decide +kernel
theorem dQ_matches_72 : decode cQ_matches 72 = .ok (.iload 4, 2) := by decide +kernel
theorem dQ_matches_74 : decode cQ_matches 74 = .ok (.iconst 1, 1) := by decide +kernel
theorem dQ_matches_75 : decode cQ_matches 75 = .ok (.iushr, 1) := by decide +kernel
theorem dQ_matches_76 : decode cQ_matches 76 = .ok (.iload 4, 2) := by decide +kernel
theorem dQ_matches_78 : decode cQ_matches 78 = .ok (.iconst 1, 1) := by decide +kernel
theorem dQ_matches_79 : decode cQ_matches 79 = .ok (.iand, 1) := by decide +kernel
theorem dQ_matches_80 : decode cQ_matches 80 = .ok (.ior, 1) := by decide +kernel
theorem dQ_matches_81 : decode cQ_matches 81 = .ok (.istore 4, 2) := by decide +kernel
theorem dQ_matches_83 : decode cQ_matches 83 = .ok (.goto 27, 3) := by decide +kernel
theorem dQ_matches_86 : decode cQ_matches 86 = .ok (.iload 4, 2) := by decide +kernel
theorem dQ_matches_88 : decode cQ_matches 88 = .ok (.iconst 1, 1) := by decide +kernel
theorem dQ_matches_89 : decode cQ_matches 89 = .ok (.ishl, 1) := by decide +kernel
theorem dQ_matches_90 : decode cQ_matches 90 = .ok (.aload_n 0, 1) := by decide +kernel
theorem dQ_matches_91 : decode cQ_matches 91 = .ok (.iload 5, 2) := by decide +kernel
theorem dQ_matches_93 : decode cQ_matches 93 = .ok (.aload_n 1, 1) := by decide +kernel
theorem dQ_matches_94 : decode cQ_matches 94 = .ok (.aload_n 2, 1) := by decide +kernel
theorem dQ_matches_95 : decode cQ_matches 95 = .ok (.iload_n 3, 1) := by decide +kernel
theorem dQ_matches_96 : decode cQ_matches 96 = .ok (.invokevirtual 43, 3) := by decide +kernel
theorem dQ_matches_99 : decode cQ_matches 99 = .ok (.ifCond .eq 7, 3) := by decide +kernel
theorem dQ_matches_102 : decode cQ_matches 102 = .ok (.iconst 1, 1) := by decide +kernel
theorem dQ_matches_103 : decode cQ_matches 103 = .ok (.goto 4, 3) := by decide +kernel
theorem dQ_matches_106 : decode cQ_matches 106 = .ok (.iconst 0, 1) := by decide +kernel
theorem dQ_matches_107 : decode cQ_matches 107 = .ok (.ior, 1) := by decide +kernel
theorem dQ_matches_108 : decode cQ_matches 108 = .ok (.istore 4, 2) := by decide +kernel
theorem dQ_matches_110 : decode cQ_matches 110 = .ok (.iinc 5 1, 3) := by decide +kernel
theorem dQ_matches_113 : decode cQ_matches 113 = .ok (.goto (-107), 3) := by decide +kernel
theorem dQ_matches_116 : decode cQ_matches 116 = .ok (.iload 4, 2) := by decide +kernel
theorem dQ_matches_118 : decode cQ_matches 118 = .ok (.iconst 1, 1) := by decide +kernel
theorem dQ_matches_119 : decode cQ_matches 119 = .ok (.iand, 1) := by decide +kernel
theorem dQ_matches_120 : decode cQ_matches 120 = .ok (.iconst 1, 1) := by decide +kernel
theorem dQ_matches_121 : decode cQ_matches 121 = .ok (.if_icmp .ne 7, 3) := by decide +kernel
theorem dQ_matches_124 : decode cQ_matches 124 = .ok (.iconst 1, 1) := by decide +kernel
theorem dQ_matches_125 : decode cQ_matches 125 = .ok (.goto 4, 3) := by decide +kernel
theorem dQ_matches_128 : decode cQ_matches 128 = .ok (.iconst 0, 1) := by decide +kernel
theorem dQ_matches_129 : decode cQ_matches 129 = .ok (.ireturn, 1) := by decide +kernel
abbrev cQ_isTrue : ByteArray := prog_3_method_7_code
def yQ_isTrue : MethodName := ⟨"PostIndex$Query", "isTrue", "(ILPostIndex$Post;LPostIndex$Segment;I)Z"⟩
def fQ_isTrue (d : Nat) : zF := (cQ_isTrue, 6, yQ_isTrue, (some .boolean), d, 0, 0)
theorem meQ_isTrue (d : Nat) : zMe (fQ_isTrue d) 4 := ⟨(zA2 (i := 185) rfl rfl), (zA1 (i := 4) rfl rfl), by show "PostIndex$Query" ≠ _; decide +kernel, by show "PostIndex$Query" ≠ _; decide +kernel, by show (parseMethodDescriptor "(ILPostIndex$Post;LPostIndex$Segment;I)Z").map _ = _; decide +kernel⟩
theorem dQ_isTrue_0 : decode cQ_isTrue 0 = .ok (.aload_n 0, 1) := by decide +kernel
theorem dQ_isTrue_1 : decode cQ_isTrue 1 = .ok (.getfield 15, 3) := by decide +kernel
theorem dQ_isTrue_4 : decode cQ_isTrue 4 = .ok (.iload_n 1, 1) := by decide +kernel
theorem dQ_isTrue_5 : decode cQ_isTrue 5 = .ok (.iaload, 1) := by decide +kernel
theorem dQ_isTrue_6 : decode cQ_isTrue 6 = .ok (.istore 5, 2) := by decide +kernel
theorem dQ_isTrue_8 : decode cQ_isTrue 8 = .ok (.aload_n 0, 1) := by decide +kernel
theorem dQ_isTrue_9 : decode cQ_isTrue 9 = .ok (.getfield 9, 3) := by decide +kernel
theorem dQ_isTrue_12 : decode cQ_isTrue 12 = .ok (.iload_n 1, 1) := by decide +kernel
theorem dQ_isTrue_13 : decode cQ_isTrue 13 = .ok (.iaload, 1) := by decide +kernel
theorem dQ_isTrue_14 : decode cQ_isTrue 14 = .ok (.tableswitch 71 1 3 #[26, 41, 56], 26) := by decide +kernel
theorem dQ_isTrue_40 : decode cQ_isTrue 40 = .ok (.aload_n 2, 1) := by decide +kernel
theorem dQ_isTrue_41 : decode cQ_isTrue 41 = .ok (.getfield 47, 3) := by decide +kernel
theorem flQ_47 : zFldN "PostIndex$Query" 47 0 1 4 := ⟨RP, TP, "PostIndex", rfl, by decide, inP, by decide +kernel⟩
theorem dQ_isTrue_44 : decode cQ_isTrue 44 = .ok (.iload 5, 2) := by decide +kernel
theorem dQ_isTrue_46 : decode cQ_isTrue 46 = .ok (.if_icmp .ne 7, 3) := by decide +kernel
theorem dQ_isTrue_49 : decode cQ_isTrue 49 = .ok (.iconst 1, 1) := by decide +kernel
theorem dQ_isTrue_50 : decode cQ_isTrue 50 = .ok (.goto 4, 3) := by decide +kernel
theorem dQ_isTrue_53 : decode cQ_isTrue 53 = .ok (.iconst 0, 1) := by decide +kernel
theorem dQ_isTrue_54 : decode cQ_isTrue 54 = .ok (.ireturn, 1) := by decide +kernel
theorem dQ_isTrue_55 : decode cQ_isTrue 55 = .ok (.aload_n 2, 1) := by decide +kernel
theorem dQ_isTrue_56 : decode cQ_isTrue 56 = .ok (.getfield 52, 3) := by decide +kernel
theorem flQ_52 : zFldN "PostIndex$Query" 52 0 2 4 := ⟨RP, TP, "PostIndex", rfl, by decide, inP, by decide +kernel⟩
theorem dQ_isTrue_59 : decode cQ_isTrue 59 = .ok (.iload 5, 2) := by decide +kernel
theorem dQ_isTrue_61 : decode cQ_isTrue 61 = .ok (.if_icmp .ge 7, 3) := by decide +kernel
theorem dQ_isTrue_64 : decode cQ_isTrue 64 = .ok (.iconst 1, 1) := by decide +kernel
theorem dQ_isTrue_65 : decode cQ_isTrue 65 = .ok (.goto 4, 3) := by decide +kernel
theorem dQ_isTrue_68 : decode cQ_isTrue 68 = .ok (.iconst 0, 1) := by decide +kernel
theorem dQ_isTrue_69 : decode cQ_isTrue 69 = .ok (.ireturn, 1) := by decide +kernel
theorem dQ_isTrue_70 : decode cQ_isTrue 70 = .ok (.aload_n 2, 1) := by decide +kernel
theorem dQ_isTrue_71 : decode cQ_isTrue 71 = .ok (.getfield 52, 3) := by decide +kernel
theorem dQ_isTrue_74 : decode cQ_isTrue 74 = .ok (.iload 5, 2) := by decide +kernel
theorem dQ_isTrue_76 : decode cQ_isTrue 76 = .ok (.if_icmp .le 7, 3) := by decide +kernel
theorem dQ_isTrue_79 : decode cQ_isTrue 79 = .ok (.iconst 1, 1) := by decide +kernel
theorem dQ_isTrue_80 : decode cQ_isTrue 80 = .ok (.goto 4, 3) := by decide +kernel
theorem dQ_isTrue_83 : decode cQ_isTrue 83 = .ok (.iconst 0, 1) := by decide +kernel
theorem dQ_isTrue_84 : decode cQ_isTrue 84 = .ok (.ireturn, 1) := by decide +kernel
theorem dQ_isTrue_85 : decode cQ_isTrue 85 = .ok (.aload_n 0, 1) := by decide +kernel
theorem dQ_isTrue_86 : decode cQ_isTrue 86 = .ok (.iload 5, 2) := by decide +kernel
theorem dQ_isTrue_88 : decode cQ_isTrue 88 = .ok (.aload_n 0, 1) := by decide +kernel
theorem dQ_isTrue_89 : decode cQ_isTrue 89 = .ok (.getfield 18, 3) := by decide +kernel
theorem dQ_isTrue_92 : decode cQ_isTrue 92 = .ok (.iload_n 1, 1) := by decide +kernel
theorem dQ_isTrue_93 : decode cQ_isTrue 93 = .ok (.iaload, 1) := by decide +kernel
theorem dQ_isTrue_94 : decode cQ_isTrue 94 = .ok (.aload_n 3, 1) := by decide +kernel
theorem dQ_isTrue_95 : decode cQ_isTrue 95 = .ok (.iload 4, 2) := by decide +kernel
theorem dQ_isTrue_97 : decode cQ_isTrue 97 = .ok (.invokevirtual 55, 3) := by decide +kernel
theorem dQ_isTrue_100 : decode cQ_isTrue 100 = .ok (.ireturn, 1) := by decide +kernel
abbrev cQ_standInRow : ByteArray := prog_3_method_8_code
def yQ_standInRow : MethodName := ⟨"PostIndex$Query", "standInRow", "(IILPostIndex$Segment;I)Z"⟩
def fQ_standInRow (d : Nat) : zF := (cQ_standInRow, 7, yQ_standInRow, (some .boolean), d, 0, 0)
theorem meQ_standInRow (d : Nat) : zMe (fQ_standInRow d) 4 := ⟨(zA2 (i := 189) rfl rfl), (zA1 (i := 4) rfl rfl), by show "PostIndex$Query" ≠ _; decide +kernel, by show "PostIndex$Query" ≠ _; decide +kernel, by show (parseMethodDescriptor "(IILPostIndex$Segment;I)Z").map _ = _; decide +kernel⟩
theorem dQ_standInRow_0 : decode cQ_standInRow 0 = .ok (.sipush 255, 3) := by decide +kernel
theorem dQ_standInRow_3 : decode cQ_standInRow 3 = .ok (.istore 5, 2) := by decide +kernel
theorem dQ_standInRow_5 : decode cQ_standInRow 5 = .ok (.iload_n 1, 1) := by decide +kernel
theorem dQ_standInRow_6 : decode cQ_standInRow 6 = .ok (.istore 6, 2) := by decide +kernel
theorem dQ_standInRow_8 : decode cQ_standInRow 8 = .ok (.iload 6, 2) := by decide +kernel
theorem dQ_standInRow_10 : decode cQ_standInRow 10 = .ok (.iload_n 2, 1) := by decide +kernel
theorem dQ_standInRow_11 : decode cQ_standInRow 11 = .ok (.if_icmp .ge 32, 3) := by decide +kernel
theorem dQ_standInRow_14 : decode cQ_standInRow 14 = .ok (.iload 5, 2) := by decide +kernel
theorem dQ_standInRow_16 : decode cQ_standInRow 16 = .ok (.aload_n 3, 1) := by decide +kernel
theorem dQ_standInRow_17 : decode cQ_standInRow 17 = .ok (.aload_n 0, 1) := by decide +kernel
theorem dQ_standInRow_18 : decode cQ_standInRow 18 = .ok (.getfield 23, 3) := by decide +kernel
theorem dQ_standInRow_21 : decode cQ_standInRow 21 = .ok (.iload 6, 2) := by decide +kernel
theorem dQ_standInRow_23 : decode cQ_standInRow 23 = .ok (.aaload, 1) := by decide +kernel
theorem dQ_standInRow_24 : decode cQ_standInRow 24 = .ok (.iload 4, 2) := by decide +kernel
theorem dQ_standInRow_26 : decode cQ_standInRow 26 = .ok (.invokevirtual 59, 3) := by decide +kernel
theorem dQ_standInRow_29 : decode cQ_standInRow 29 = .ok (.iload 6, 2) := by decide +kernel
theorem dQ_standInRow_31 : decode cQ_standInRow 31 = .ok (.iload_n 1, 1) := by decide +kernel
theorem dQ_standInRow_32 : decode cQ_standInRow 32 = .ok (.isub, 1) := by decide +kernel
theorem dQ_standInRow_33 : decode cQ_standInRow 33 = .ok (.iushr, 1) := by decide +kernel
theorem dQ_standInRow_34 : decode cQ_standInRow 34 = .ok (.iand, 1) := by decide +kernel
theorem dQ_standInRow_35 : decode cQ_standInRow 35 = .ok (.istore 5, 2) := by decide +kernel
theorem dQ_standInRow_37 : decode cQ_standInRow 37 = .ok (.iinc 6 1, 3) := by decide +kernel
theorem dQ_standInRow_40 : decode cQ_standInRow 40 = .ok (.goto (-32), 3) := by decide +kernel
theorem dQ_standInRow_43 : decode cQ_standInRow 43 = .ok (.iload 5, 2) := by decide +kernel
theorem dQ_standInRow_45 : decode cQ_standInRow 45 = .ok (.ifCond .eq 7, 3) := by decide +kernel
theorem dQ_standInRow_48 : decode cQ_standInRow 48 = .ok (.iconst 1, 1) := by decide +kernel
theorem dQ_standInRow_49 : decode cQ_standInRow 49 = .ok (.goto 4, 3) := by decide +kernel
theorem dQ_standInRow_52 : decode cQ_standInRow 52 = .ok (.iconst 0, 1) := by decide +kernel
theorem dQ_standInRow_53 : decode cQ_standInRow 53 = .ok (.ireturn, 1) := by decide +kernel
theorem lkQ_27 : zLi "PostIndex$Query" 27 yT_init := ⟨(zA1 (i := 53) rfl rfl), (zA1 (i := 23) rfl rfl), rfl⟩
theorem lkQ_35 : zLv "PostIndex$Query" 35 yT_setFolded := ⟨(zA2 (i := 139) rfl rfl), (zA2 (i := 41) rfl rfl), (zA2 (i := 42) rfl rfl)⟩
theorem lkQ_39 : zLv "PostIndex$Query" 39 yQ_addStep := ⟨(zA2 (i := 144) rfl rfl), (zA2 (i := 145) rfl rfl), (zA2 (i := 146) rfl rfl)⟩
theorem lkQ_43 : zLv "PostIndex$Query" 43 yQ_isTrue := ⟨(zA2 (i := 182) rfl rfl), (zA2 (i := 184) rfl rfl), (zA0 (i := 20) (q := (yQ_isTrue, 6)) rfl rfl)⟩
theorem lkQ_55 : zLv "PostIndex$Query" 55 yQ_standInRow := ⟨(zA2 (i := 186) rfl rfl), (zA2 (i := 188) rfl rfl), (zA0 (i := 21) (q := (yQ_standInRow, 6)) rfl rfl)⟩
theorem lkQ_59 : zLv "PostIndex$Query" 59 yS_placesOf := ⟨(zA2 (i := 190) rfl rfl), (zA2 (i := 191) rfl rfl), (zA2 (i := 192) rfl rfl)⟩
end
section
abbrev cR_init : ByteArray := prog_4_method_1_code
def yR_init : MethodName := ⟨"PostIndex$QueryReader", "<init>", "()V"⟩
def fR_init (d : Nat) : zF := (cR_init, 1, yR_init, none, d, 31, 500)
theorem meR_init (d : Nat) : zMe (fR_init d) 0 := ⟨(zA1 (i := 41) rfl rfl), (zA1 (i := 3) rfl rfl), by show "PostIndex$QueryReader" ≠ _; decide +kernel, by show "PostIndex$QueryReader" ≠ _; decide +kernel, by show (parseMethodDescriptor "()V").map _ = _; decide +kernel⟩
theorem dR_init_0 : decode cR_init 0 = .ok (.aload_n 0, 1) := by decide +kernel
theorem dR_init_1 : decode cR_init 1 = .ok (.invokespecial 3, 3) := by decide +kernel
theorem lkR_3 : Cond.methodLink "PostIndex$QueryReader" 3 Lib.objectInit ∈ zAll ∧ Cond.instanceMethod Lib.objectInit ∈ zAll ∧ Cond.code Lib.objectInit ⟨#[0xb1]⟩ 1 none ∈ zAll := ⟨(zA1 (i := 42) rfl rfl), (zA1 (i := 18) rfl rfl), (zA1 (i := 19) rfl rfl)⟩
theorem dR_init_4 : decode cR_init 4 = .ok (.aload_n 0, 1) := by decide +kernel
theorem dR_init_5 : decode cR_init 5 = .ok (.new 9, 3) := by decide +kernel
theorem nwR_9 : zNew "PostIndex$QueryReader" 9 5 2 (fun k => defaultValue (tyT k)) := ⟨RT, TT, tyT, rfl, inT, tyT_ok, (zA1 (i := 43) rfl rfl), (zA1 (i := 21) rfl rfl), (zA1 (i := 2) rfl rfl), fun _ _ => rfl⟩
theorem dR_init_8 : decode cR_init 8 = .ok (.dup, 1) := by decide +kernel
theorem dR_init_9 : decode cR_init 9 = .ok (.invokespecial 11, 3) := by decide +kernel
theorem dR_init_12 : decode cR_init 12 = .ok (.putfield 12, 3) := by decide +kernel
theorem flR_12 : zFld "PostIndex$QueryReader" 12 2 0 3 := ⟨RR, TR, rfl, by decide, inR, (zA1 (i := 75) rfl rfl)⟩
theorem dR_init_15 : decode cR_init 15 = .ok (.aload_n 0, 1) := by decide +kernel
theorem dR_init_16 : decode cR_init 16 = .ok (.new 18, 3) := by decide +kernel
theorem nwR_18 : zNew "PostIndex$QueryReader" 18 1 6 (fun k => defaultValue (tyQ k)) := ⟨RQ, TQ, tyQ, rfl, inQ, tyQ_ok, (zA1 (i := 45) rfl rfl), (zA1 (i := 46) rfl rfl), (zA1 (i := 4) rfl rfl), fun _ _ => rfl⟩
theorem dR_init_19 : decode cR_init 19 = .ok (.dup, 1) := by decide +kernel
theorem dR_init_20 : decode cR_init 20 = .ok (.invokespecial 20, 3) := by decide +kernel
theorem dR_init_23 : decode cR_init 23 = .ok (.putfield 21, 3) := by decide +kernel
theorem flR_21 : zFld "PostIndex$QueryReader" 21 2 1 3 := ⟨RR, TR, rfl, by decide, inR, (zA1 (i := 76) rfl rfl)⟩
theorem dR_init_26 : decode cR_init 26 = .ok (.return_, 1) := by decide +kernel
abbrev cR_exchange : ByteArray := prog_4_method_2_code
def yR_exchange : MethodName := ⟨"PostIndex$QueryReader", "exchange", "(LPostIndex$Query;)LPostIndex$Query;"⟩
def fR_exchange (d : Nat) : zF := (cR_exchange, 3, yR_exchange, (some (.object "PostIndex$Query")), d, 0, 0)
theorem meR_exchange (d : Nat) : zMe (fR_exchange d) 1 := ⟨(zA2 (i := 165) rfl rfl), (zA1 (i := 3) rfl rfl), by show "PostIndex$QueryReader" ≠ _; decide +kernel, by show "PostIndex$QueryReader" ≠ _; decide +kernel, by show (parseMethodDescriptor "(LPostIndex$Query;)LPostIndex$Query;").map _ = _; decide +kernel⟩
theorem dR_exchange_0 : decode cR_exchange 0 = .ok (.aload_n 0, 1) := by decide +kernel
theorem dR_exchange_1 : decode cR_exchange 1 = .ok (.getfield 21, 3) := by decide +kernel
theorem dR_exchange_4 : decode cR_exchange 4 = .ok (.astore_n 2, 1) := by decide +kernel
theorem dR_exchange_5 : decode cR_exchange 5 = .ok (.aload_n 0, 1) := by decide +kernel
theorem dR_exchange_6 : decode cR_exchange 6 = .ok (.aload_n 1, 1) := by decide +kernel
theorem dR_exchange_7 : decode cR_exchange 7 = .ok (.putfield 21, 3) := by decide +kernel
theorem dR_exchange_10 : decode cR_exchange 10 = .ok (.aload_n 2, 1) := by decide +kernel
theorem dR_exchange_11 : decode cR_exchange 11 = .ok (.areturn, 1) := by decide +kernel
abbrev cR_read : ByteArray := prog_4_method_3_code
def yR_read : MethodName := ⟨"PostIndex$QueryReader", "read", "(LPostIndex$Text;)Z"⟩
def fR_read (d : Nat) : zF := (cR_read, 2, yR_read, (some .boolean), d, 0, 0)
theorem meR_read (d : Nat) : zMe (fR_read d) 1 := ⟨(zA2 (i := 90) rfl rfl), (zA1 (i := 3) rfl rfl), by show "PostIndex$QueryReader" ≠ _; decide +kernel, by show "PostIndex$QueryReader" ≠ _; decide +kernel, by show (parseMethodDescriptor "(LPostIndex$Text;)Z").map _ = _; decide +kernel⟩
theorem dR_read_0 : decode cR_read 0 = .ok (.aload_n 0, 1) := by decide +kernel
theorem dR_read_1 : decode cR_read 1 = .ok (.getfield 12, 3) := by decide +kernel
theorem dR_read_4 : decode cR_read 4 = .ok (.invokevirtual 25, 3) := by decide +kernel
theorem dR_read_7 : decode cR_read 7 = .ok (.aload_n 0, 1) := by decide +kernel
theorem dR_read_8 : decode cR_read 8 = .ok (.getfield 12, 3) := by decide +kernel
theorem dR_read_11 : decode cR_read 11 = .ok (.aload_n 1, 1) := by decide +kernel
theorem dR_read_12 : decode cR_read 12 = .ok (.invokevirtual 28, 3) := by decide +kernel
theorem dR_read_15 : decode cR_read 15 = .ok (.pop, 1) := by decide +kernel
theorem dR_read_16 : decode cR_read 16 = .ok (.aload_n 0, 1) := by decide +kernel
theorem dR_read_17 : decode cR_read 17 = .ok (.getfield 21, 3) := by decide +kernel
theorem dR_read_20 : decode cR_read 20 = .ok (.invokevirtual 32, 3) := by decide +kernel
theorem dR_read_23 : decode cR_read 23 = .ok (.aload_n 0, 1) := by decide +kernel
theorem dR_read_24 : decode cR_read 24 = .ok (.iconst 0, 1) := by decide +kernel
theorem dR_read_25 : decode cR_read 25 = .ok (.putfield 33, 3) := by decide +kernel
theorem flR_33 : zFld "PostIndex$QueryReader" 33 2 2 3 := ⟨RR, TR, rfl, by decide, inR, (zA1 (i := 77) rfl rfl)⟩
theorem dR_read_28 : decode cR_read 28 = .ok (.aload_n 0, 1) := by decide +kernel
theorem dR_read_29 : decode cR_read 29 = .ok (.iconst 0, 1) := by decide +kernel
theorem dR_read_30 : decode cR_read 30 = .ok (.invokevirtual 37, 3) := by decide +kernel
theorem dR_read_33 : decode cR_read 33 = .ok (.ifCond .eq 14, 3) := by decide +kernel
theorem dR_read_36 : decode cR_read 36 = .ok (.aload_n 0, 1) := by decide +kernel
theorem dR_read_37 : decode cR_read 37 = .ok (.invokevirtual 41, 3) := by decide +kernel
theorem dR_read_40 : decode cR_read 40 = .ok (.ifCond .ne 7, 3) := by decide +kernel
theorem dR_read_43 : decode cR_read 43 = .ok (.iconst 1, 1) := by decide +kernel
theorem dR_read_44 : decode cR_read 44 = .ok (.goto 4, 3) := by decide +kernel
theorem dR_read_47 : decode cR_read 47 = .ok (.iconst 0, 1) := by decide +kernel
theorem dR_read_48 : decode cR_read 48 = .ok (.ireturn, 1) := by decide +kernel
abbrev cR_readAny : ByteArray := prog_4_method_4_code
def yR_readAny : MethodName := ⟨"PostIndex$QueryReader", "readAny", "(I)Z"⟩
def fR_readAny (d : Nat) : zF := (cR_readAny, 4, yR_readAny, (some .boolean), d, 0, 0)
theorem meR_readAny (d : Nat) : zMe (fR_readAny d) 1 := ⟨(zA2 (i := 100) rfl rfl), (zA1 (i := 3) rfl rfl), by show "PostIndex$QueryReader" ≠ _; decide +kernel, by show "PostIndex$QueryReader" ≠ _; decide +kernel, by show (parseMethodDescriptor "(I)Z").map _ = _; decide +kernel⟩
theorem dR_readAny_0 : decode cR_readAny 0 = .ok (.aload_n 0, 1) := by decide +kernel
theorem dR_readAny_1 : decode cR_readAny 1 = .ok (.iload_n 1, 1) := by decide +kernel
theorem dR_readAny_2 : decode cR_readAny 2 = .ok (.invokevirtual 45, 3) := by decide +kernel
theorem dR_readAny_5 : decode cR_readAny 5 = .ok (.istore_n 2, 1) := by decide +kernel
theorem dR_readAny_6 : decode cR_readAny 6 = .ok (.iconst 0, 1) := by decide +kernel
theorem dR_readAny_7 : decode cR_readAny 7 = .ok (.istore_n 3, 1) := by decide +kernel
theorem dR_readAny_8 : decode cR_readAny 8 = .ok (.iload_n 3, 1) := by decide +kernel
theorem dR_readAny_9 : decode cR_readAny 9 = .ok (.bipush 24, 2) := by decide +kernel
theorem dR_readAny_11 : decode cR_readAny 11 = .ok (.if_icmp .ge 49, 3) := by decide +kernel
theorem dR_readAny_14 : decode cR_readAny 14 = .ok (.iload_n 2, 1) := by decide +kernel
theorem dR_readAny_15 : decode cR_readAny 15 = .ok (.ifCond .eq 45, 3) := by decide +kernel
theorem dR_readAny_18 : decode cR_readAny 18 = .ok (.aload_n 0, 1) := by decide +kernel
theorem dR_readAny_19 : decode cR_readAny 19 = .ok (.bipush 124, 2) := by decide +kernel
theorem dR_readAny_21 : decode cR_readAny 21 = .ok (.invokevirtual 48, 3) := by decide +kernel
theorem dR_readAny_24 : decode cR_readAny 24 = .ok (.ifCond .eq 36, 3) := by decide +kernel
theorem dR_readAny_27 : decode cR_readAny 27 = .ok (.aload_n 0, 1) := by decide +kernel
theorem dR_readAny_28 : decode cR_readAny 28 = .ok (.iload_n 1, 1) := by decide +kernel
theorem dR_readAny_29 : decode cR_readAny 29 = .ok (.invokevirtual 45, 3) := by decide +kernel
theorem dR_readAny_32 : decode cR_readAny 32 = .ok (.ifCond .eq 20, 3) := by decide +kernel
theorem dR_readAny_35 : decode cR_readAny 35 = .ok (.aload_n 0, 1) := by decide +kernel
theorem dR_readAny_36 : decode cR_readAny 36 = .ok (.getfield 21, 3) := by decide +kernel
theorem dR_readAny_39 : decode cR_readAny 39 = .ok (.bipush 6, 2) := by decide +kernel
theorem dR_readAny_41 : decode cR_readAny 41 = .ok (.iconst 0, 1) := by decide +kernel
theorem dR_readAny_42 : decode cR_readAny 42 = .ok (.invokevirtual 52, 3) := by decide +kernel
theorem dR_readAny_45 : decode cR_readAny 45 = .ok (.ifCond .eq 7, 3) := by decide +kernel
theorem dR_readAny_48 : decode cR_readAny 48 = .ok (.iconst 1, 1) := by decide +kernel
theorem dR_readAny_49 : decode cR_readAny 49 = .ok (.goto 4, 3) := by decide +kernel
theorem dR_readAny_52 : decode cR_readAny 52 = .ok (.iconst 0, 1) := by decide +kernel
theorem dR_readAny_53 : decode cR_readAny 53 = .ok (.istore_n 2, 1) := by decide +kernel
theorem dR_readAny_54 : decode cR_readAny 54 = .ok (.iinc 3 1, 3) := by decide +kernel
theorem dR_readAny_57 : decode cR_readAny 57 = .ok (.goto (-49), 3) := by decide +kernel
theorem dR_readAny_60 : decode cR_readAny 60 = .ok (.iload_n 2, 1) := by decide +kernel
theorem dR_readAny_61 : decode cR_readAny 61 = .ok (.ireturn, 1) := by decide +kernel
abbrev cR_readAll : ByteArray := prog_4_method_5_code
def yR_readAll : MethodName := ⟨"PostIndex$QueryReader", "readAll", "(I)Z"⟩
def fR_readAll (d : Nat) : zF := (cR_readAll, 4, yR_readAll, (some .boolean), d, 0, 0)
theorem meR_readAll (d : Nat) : zMe (fR_readAll d) 1 := ⟨(zA2 (i := 104) rfl rfl), (zA1 (i := 3) rfl rfl), by show "PostIndex$QueryReader" ≠ _; decide +kernel, by show "PostIndex$QueryReader" ≠ _; decide +kernel, by show (parseMethodDescriptor "(I)Z").map _ = _; decide +kernel⟩
theorem dR_readAll_0 : decode cR_readAll 0 = .ok (.aload_n 0, 1) := by decide +kernel
theorem dR_readAll_1 : decode cR_readAll 1 = .ok (.iload_n 1, 1) := by decide +kernel
theorem dR_readAll_2 : decode cR_readAll 2 = .ok (.invokevirtual 56, 3) := by decide +kernel
theorem dR_readAll_5 : decode cR_readAll 5 = .ok (.istore_n 2, 1) := by decide +kernel
theorem dR_readAll_6 : decode cR_readAll 6 = .ok (.iconst 0, 1) := by decide +kernel
theorem dR_readAll_7 : decode cR_readAll 7 = .ok (.istore_n 3, 1) := by decide +kernel
theorem dR_readAll_8 : decode cR_readAll 8 = .ok (.iload_n 3, 1) := by decide +kernel
theorem dR_readAll_9 : decode cR_readAll 9 = .ok (.bipush 24, 2) := by decide +kernel
theorem dR_readAll_11 : decode cR_readAll 11 = .ok (.if_icmp .ge 46, 3) := by decide +kernel
theorem dR_readAll_14 : decode cR_readAll 14 = .ok (.iload_n 2, 1) := by decide +kernel
theorem dR_readAll_15 : decode cR_readAll 15 = .ok (.ifCond .eq 42, 3) := by decide +kernel
theorem dR_readAll_18 : decode cR_readAll 18 = .ok (.aload_n 0, 1) := by decide +kernel
theorem dR_readAll_19 : decode cR_readAll 19 = .ok (.invokevirtual 59, 3) := by decide +kernel
theorem dR_readAll_22 : decode cR_readAll 22 = .ok (.ifCond .eq 35, 3) := by decide +kernel
theorem dR_readAll_25 : decode cR_readAll 25 = .ok (.aload_n 0, 1) := by decide +kernel
theorem dR_readAll_26 : decode cR_readAll 26 = .ok (.iload_n 1, 1) := by decide +kernel
theorem dR_readAll_27 : decode cR_readAll 27 = .ok (.invokevirtual 56, 3) := by decide +kernel
theorem dR_readAll_30 : decode cR_readAll 30 = .ok (.ifCond .eq 19, 3) := by decide +kernel
theorem dR_readAll_33 : decode cR_readAll 33 = .ok (.aload_n 0, 1) := by decide +kernel
theorem dR_readAll_34 : decode cR_readAll 34 = .ok (.getfield 21, 3) := by decide +kernel
theorem dR_readAll_37 : decode cR_readAll 37 = .ok (.iconst 5, 1) := by decide +kernel
theorem dR_readAll_38 : decode cR_readAll 38 = .ok (.iconst 0, 1) := by decide +kernel
theorem dR_readAll_39 : decode cR_readAll 39 = .ok (.invokevirtual 52, 3) := by decide +kernel
theorem dR_readAll_42 : decode cR_readAll 42 = .ok (.ifCond .eq 7, 3) := by decide +kernel
theorem dR_readAll_45 : decode cR_readAll 45 = .ok (.iconst 1, 1) := by decide +kernel
theorem dR_readAll_46 : decode cR_readAll 46 = .ok (.goto 4, 3) := by decide +kernel
theorem dR_readAll_49 : decode cR_readAll 49 = .ok (.iconst 0, 1) := by decide +kernel
theorem dR_readAll_50 : decode cR_readAll 50 = .ok (.istore_n 2, 1) := by decide +kernel
theorem dR_readAll_51 : decode cR_readAll 51 = .ok (.iinc 3 1, 3) := by decide +kernel
theorem dR_readAll_54 : decode cR_readAll 54 = .ok (.goto (-46), 3) := by decide +kernel
theorem dR_readAll_57 : decode cR_readAll 57 = .ok (.iload_n 2, 1) := by decide +kernel
theorem dR_readAll_58 : decode cR_readAll 58 = .ok (.ireturn, 1) := by decide +kernel
abbrev cR_partFollows : ByteArray := prog_4_method_6_code
def yR_partFollows : MethodName := ⟨"PostIndex$QueryReader", "partFollows", "()Z"⟩
def fR_partFollows (d : Nat) : zF := (cR_partFollows, 2, yR_partFollows, (some .boolean), d, 0, 0)
theorem meR_partFollows (d : Nat) : zMe (fR_partFollows d) 0 := ⟨(zA2 (i := 157) rfl rfl), (zA1 (i := 3) rfl rfl), by show "PostIndex$QueryReader" ≠ _; decide +kernel, by show "PostIndex$QueryReader" ≠ _; decide +kernel, by show (parseMethodDescriptor "()Z").map _ = _; decide +kernel⟩
theorem dR_partFollows_0 : decode cR_partFollows 0 = .ok (.aload_n 0, 1) := by decide +kernel
theorem dR_partFollows_1 : decode cR_partFollows 1 = .ok (.invokevirtual 41, 3) := by decide +kernel
theorem dR_partFollows_4 : decode cR_partFollows 4 = .ok (.istore_n 1, 1) := by decide +kernel
theorem dR_partFollows_5 : decode cR_partFollows 5 = .ok (.iload_n 1, 1) := by decide +kernel
theorem dR_partFollows_6 : decode cR_partFollows 6 = .ok (.ifCond .eq 19, 3) := by decide +kernel
theorem dR_partFollows_9 : decode cR_partFollows 9 = .ok (.iload_n 1, 1) := by decide +kernel
theorem dR_partFollows_10 : decode cR_partFollows 10 = .ok (.bipush 124, 2) := by decide +kernel
theorem dR_partFollows_12 : decode cR_partFollows 12 = .ok (.if_icmp .eq 13, 3) := by decide +kernel
theorem dR_partFollows_15 : decode cR_partFollows 15 = .ok (.iload_n 1, 1) := by decide +kernel
theorem dR_partFollows_16 : decode cR_partFollows 16 = .ok (.bipush 41, 2) := by decide +kernel
theorem dR_partFollows_18 : decode cR_partFollows 18 = .ok (.if_icmp .eq 7, 3) := by decide +kernel
theorem dR_partFollows_21 : decode cR_partFollows 21 = .ok (.iconst 1, 1) := by decide +kernel
theorem dR_partFollows_22 : decode cR_partFollows 22 = .ok (.goto 4, 3) := by decide +kernel
theorem dR_partFollows_25 : decode cR_partFollows 25 = .ok (.iconst 0, 1) := by decide +kernel
theorem dR_partFollows_26 : decode cR_partFollows 26 = .ok (.ireturn, 1) := by decide +kernel
abbrev cR_readPart : ByteArray := prog_4_method_7_code
def yR_readPart : MethodName := ⟨"PostIndex$QueryReader", "readPart", "(I)Z"⟩
def fR_readPart (d : Nat) : zF := (cR_readPart, 4, yR_readPart, (some .boolean), d, 0, 0)
theorem meR_readPart (d : Nat) : zMe (fR_readPart d) 1 := ⟨(zA2 (i := 108) rfl rfl), (zA1 (i := 3) rfl rfl), by show "PostIndex$QueryReader" ≠ _; decide +kernel, by show "PostIndex$QueryReader" ≠ _; decide +kernel, by show (parseMethodDescriptor "(I)Z").map _ = _; decide +kernel⟩
theorem dR_readPart_0 : decode cR_readPart 0 = .ok (.iconst 0, 1) := by decide +kernel
theorem dR_readPart_1 : decode cR_readPart 1 = .ok (.istore_n 2, 1) := by decide +kernel
theorem dR_readPart_2 : decode cR_readPart 2 = .ok (.iconst 0, 1) := by decide +kernel
theorem dR_readPart_3 : decode cR_readPart 3 = .ok (.istore_n 3, 1) := by decide +kernel
theorem dR_readPart_4 : decode cR_readPart 4 = .ok (.iload_n 3, 1) := by decide +kernel
theorem dR_readPart_5 : decode cR_readPart 5 = .ok (.bipush 24, 2) := by decide +kernel
theorem dR_readPart_7 : decode cR_readPart 7 = .ok (.if_icmp .ge 28, 3) := by decide +kernel
theorem dR_readPart_10 : decode cR_readPart 10 = .ok (.aload_n 0, 1) := by decide +kernel
theorem dR_readPart_11 : decode cR_readPart 11 = .ok (.bipush 45, 2) := by decide +kernel
theorem dR_readPart_13 : decode cR_readPart 13 = .ok (.invokevirtual 48, 3) := by decide +kernel
theorem dR_readPart_16 : decode cR_readPart 16 = .ok (.ifCond .eq 19, 3) := by decide +kernel
theorem dR_readPart_19 : decode cR_readPart 19 = .ok (.iload_n 2, 1) := by decide +kernel
theorem dR_readPart_20 : decode cR_readPart 20 = .ok (.ifCond .ne 7, 3) := by decide +kernel
theorem dR_readPart_23 : decode cR_readPart 23 = .ok (.iconst 1, 1) := by decide +kernel
theorem dR_readPart_24 : decode cR_readPart 24 = .ok (.goto 4, 3) := by decide +kernel
theorem dR_readPart_27 : decode cR_readPart 27 = .ok (.iconst 0, 1) := by decide +kernel
theorem dR_readPart_28 : decode cR_readPart 28 = .ok (.istore_n 2, 1) := by decide +kernel
theorem dR_readPart_29 : decode cR_readPart 29 = .ok (.iinc 3 1, 3) := by decide +kernel
theorem dR_readPart_32 : decode cR_readPart 32 = .ok (.goto (-28), 3) := by decide +kernel
theorem dR_readPart_35 : decode cR_readPart 35 = .ok (.aload_n 0, 1) := by decide +kernel
theorem dR_readPart_36 : decode cR_readPart 36 = .ok (.iload_n 1, 1) := by decide +kernel
theorem dR_readPart_37 : decode cR_readPart 37 = .ok (.invokevirtual 63, 3) := by decide +kernel
theorem dR_readPart_40 : decode cR_readPart 40 = .ok (.ifCond .eq 23, 3) := by decide +kernel
theorem dR_readPart_43 : decode cR_readPart 43 = .ok (.iload_n 2, 1) := by decide +kernel
theorem dR_readPart_44 : decode cR_readPart 44 = .ok (.ifCond .eq 15, 3) := by decide +kernel
theorem dR_readPart_47 : decode cR_readPart 47 = .ok (.aload_n 0, 1) := by decide +kernel
theorem dR_readPart_48 : decode cR_readPart 48 = .ok (.getfield 21, 3) := by decide +kernel
theorem dR_readPart_51 : decode cR_readPart 51 = .ok (.iconst 4, 1) := by decide +kernel
theorem dR_readPart_52 : decode cR_readPart 52 = .ok (.iconst 0, 1) := by decide +kernel
theorem dR_readPart_53 : decode cR_readPart 53 = .ok (.invokevirtual 52, 3) := by decide +kernel
theorem dR_readPart_56 : decode cR_readPart 56 = .ok (.ifCond .eq 7, 3) := by decide +kernel
theorem dR_readPart_59 : decode cR_readPart 59 = .ok (.iconst 1, 1) := by decide +kernel
theorem dR_readPart_60 : decode cR_readPart 60 = .ok (.goto 4, 3) := by decide +kernel
theorem dR_readPart_63 : decode cR_readPart 63 = .ok (.iconst 0, 1) := by decide +kernel
theorem dR_readPart_64 : decode cR_readPart 64 = .ok (.ireturn, 1) := by decide +kernel
abbrev cR_readOne : ByteArray := prog_4_method_8_code
def yR_readOne : MethodName := ⟨"PostIndex$QueryReader", "readOne", "(I)Z"⟩
def fR_readOne (d : Nat) : zF := (cR_readOne, 2, yR_readOne, (some .boolean), d, 0, 0)
theorem meR_readOne (d : Nat) : zMe (fR_readOne d) 1 := ⟨(zA2 (i := 125) rfl rfl), (zA1 (i := 3) rfl rfl), by show "PostIndex$QueryReader" ≠ _; decide +kernel, by show "PostIndex$QueryReader" ≠ _; decide +kernel, by show (parseMethodDescriptor "(I)Z").map _ = _; decide +kernel⟩
theorem dR_readOne_0 : decode cR_readOne 0 = .ok (.aload_n 0, 1) := by decide +kernel
theorem dR_readOne_1 : decode cR_readOne 1 = .ok (.invokevirtual 41, 3) := by decide +kernel
theorem dR_readOne_4 : decode cR_readOne 4 = .ok (.lookupswitch 115 #[(34, 92), (40, 52), (60, 103), (61, 97), (62, 109)], 52) := by decide +kernel
theorem dR_readOne_56 : decode cR_readOne 56 = .ok (.iload_n 1, 1) := by decide +kernel
theorem dR_readOne_57 : decode cR_readOne 57 = .ok (.bipush 6, 2) := by decide +kernel
theorem dR_readOne_59 : decode cR_readOne 59 = .ok (.if_icmp .ge 35, 3) := by decide +kernel
theorem dR_readOne_62 : decode cR_readOne 62 = .ok (.aload_n 0, 1) := by decide +kernel
theorem dR_readOne_63 : decode cR_readOne 63 = .ok (.bipush 40, 2) := by decide +kernel
theorem dR_readOne_65 : decode cR_readOne 65 = .ok (.invokevirtual 48, 3) := by decide +kernel
theorem dR_readOne_68 : decode cR_readOne 68 = .ok (.ifCond .eq 26, 3) := by decide +kernel
theorem dR_readOne_71 : decode cR_readOne 71 = .ok (.aload_n 0, 1) := by decide +kernel
theorem dR_readOne_72 : decode cR_readOne 72 = .ok (.iload_n 1, 1) := by decide +kernel
theorem dR_readOne_73 : decode cR_readOne 73 = .ok (.iconst 1, 1) := by decide +kernel
theorem dR_readOne_74 : decode cR_readOne 74 = .ok (.iadd, 1) := by decide +kernel
theorem dR_readOne_75 : decode cR_readOne 75 = .ok (.invokevirtual 37, 3) := by decide +kernel
theorem dR_readOne_78 : decode cR_readOne 78 = .ok (.ifCond .eq 16, 3) := by decide +kernel
theorem dR_readOne_81 : decode cR_readOne 81 = .ok (.aload_n 0, 1) := by decide +kernel
theorem dR_readOne_82 : decode cR_readOne 82 = .ok (.bipush 41, 2) := by decide +kernel
theorem dR_readOne_84 : decode cR_readOne 84 = .ok (.invokevirtual 48, 3) := by decide +kernel
theorem dR_readOne_87 : decode cR_readOne 87 = .ok (.ifCond .eq 7, 3) := by decide +kernel
theorem dR_readOne_90 : decode cR_readOne 90 = .ok (.iconst 1, 1) := by decide +kernel
theorem dR_readOne_91 : decode cR_readOne 91 = .ok (.goto 4, 3) := by decide +kernel
theorem dR_readOne_94 : decode cR_readOne 94 = .ok (.iconst 0, 1) := by decide +kernel
theorem dR_readOne_95 : decode cR_readOne 95 = .ok (.ireturn, 1) := by decide +kernel
theorem dR_readOne_96 : decode cR_readOne 96 = .ok (.aload_n 0, 1) := by decide +kernel
theorem dR_readOne_97 : decode cR_readOne 97 = .ok (.invokevirtual 66, 3) := by decide +kernel
theorem dR_readOne_100 : decode cR_readOne 100 = .ok (.ireturn, 1) := by decide +kernel
theorem dR_readOne_101 : decode cR_readOne 101 = .ok (.aload_n 0, 1) := by decide +kernel
theorem dR_readOne_102 : decode cR_readOne 102 = .ok (.iconst 1, 1) := by decide +kernel
theorem dR_readOne_103 : decode cR_readOne 103 = .ok (.invokevirtual 69, 3) := by decide +kernel
theorem dR_readOne_106 : decode cR_readOne 106 = .ok (.ireturn, 1) := by decide +kernel
theorem dR_readOne_107 : decode cR_readOne 107 = .ok (.aload_n 0, 1) := by decide +kernel
theorem dR_readOne_108 : decode cR_readOne 108 = .ok (.iconst 2, 1) := by decide +kernel
theorem dR_readOne_109 : decode cR_readOne 109 = .ok (.invokevirtual 69, 3) := by decide +kernel
theorem dR_readOne_112 : decode cR_readOne 112 = .ok (.ireturn, 1) := by decide +kernel
theorem dR_readOne_113 : decode cR_readOne 113 = .ok (.aload_n 0, 1) := by decide +kernel
theorem dR_readOne_114 : decode cR_readOne 114 = .ok (.iconst 3, 1) := by decide +kernel
theorem dR_readOne_115 : decode cR_readOne 115 = .ok (.invokevirtual 69, 3) := by decide +kernel
theorem dR_readOne_118 : decode cR_readOne 118 = .ok (.ireturn, 1) := by decide +kernel
theorem dR_readOne_119 : decode cR_readOne 119 = .ok (.aload_n 0, 1) := by decide +kernel
theorem dR_readOne_120 : decode cR_readOne 120 = .ok (.invokevirtual 72, 3) := by decide +kernel
theorem dR_readOne_123 : decode cR_readOne 123 = .ok (.ifCond .eq 26, 3) := by decide +kernel
theorem dR_readOne_126 : decode cR_readOne 126 = .ok (.aload_n 0, 1) := by decide +kernel
theorem dR_readOne_127 : decode cR_readOne 127 = .ok (.getfield 21, 3) := by decide +kernel
theorem dR_readOne_130 : decode cR_readOne 130 = .ok (.aload_n 0, 1) := by decide +kernel
theorem dR_readOne_131 : decode cR_readOne 131 = .ok (.getfield 21, 3) := by decide +kernel
theorem dR_readOne_134 : decode cR_readOne 134 = .ok (.getfield 75, 3) := by decide +kernel
theorem flR_75 : zFldN "PostIndex$QueryReader" 75 1 5 6 := ⟨RQ, TQ, "PostIndex", rfl, by decide, inQ, by decide +kernel⟩
theorem dR_readOne_137 : decode cR_readOne 137 = .ok (.iconst 1, 1) := by decide +kernel
theorem dR_readOne_138 : decode cR_readOne 138 = .ok (.isub, 1) := by decide +kernel
theorem dR_readOne_139 : decode cR_readOne 139 = .ok (.invokevirtual 78, 3) := by decide +kernel
theorem dR_readOne_142 : decode cR_readOne 142 = .ok (.ifCond .eq 7, 3) := by decide +kernel
theorem dR_readOne_145 : decode cR_readOne 145 = .ok (.iconst 1, 1) := by decide +kernel
theorem dR_readOne_146 : decode cR_readOne 146 = .ok (.goto 4, 3) := by decide +kernel
theorem dR_readOne_149 : decode cR_readOne 149 = .ok (.iconst 0, 1) := by decide +kernel
theorem dR_readOne_150 : decode cR_readOne 150 = .ok (.ireturn, 1) := by decide +kernel
abbrev cR_readRow : ByteArray := prog_4_method_9_code
def yR_readRow : MethodName := ⟨"PostIndex$QueryReader", "readRow", "()Z"⟩
def fR_readRow (d : Nat) : zF := (cR_readRow, 4, yR_readRow, (some .boolean), d, 0, 0)
theorem meR_readRow (d : Nat) : zMe (fR_readRow d) 0 := ⟨(zA2 (i := 129) rfl rfl), (zA1 (i := 3) rfl rfl), by show "PostIndex$QueryReader" ≠ _; decide +kernel, by show "PostIndex$QueryReader" ≠ _; decide +kernel, by show (parseMethodDescriptor "()Z").map _ = _; decide +kernel⟩
theorem dR_readRow_0 : decode cR_readRow 0 = .ok (.aload_n 0, 1) := by decide +kernel
theorem dR_readRow_1 : decode cR_readRow 1 = .ok (.getfield 21, 3) := by decide +kernel
theorem dR_readRow_4 : decode cR_readRow 4 = .ok (.getfield 75, 3) := by decide +kernel
theorem dR_readRow_7 : decode cR_readRow 7 = .ok (.istore_n 1, 1) := by decide +kernel
theorem dR_readRow_8 : decode cR_readRow 8 = .ok (.aload_n 0, 1) := by decide +kernel
theorem dR_readRow_9 : decode cR_readRow 9 = .ok (.bipush 34, 2) := by decide +kernel
theorem dR_readRow_11 : decode cR_readRow 11 = .ok (.invokevirtual 48, 3) := by decide +kernel
theorem dR_readRow_14 : decode cR_readRow 14 = .ok (.ifCond .eq 14, 3) := by decide +kernel
theorem dR_readRow_17 : decode cR_readRow 17 = .ok (.aload_n 0, 1) := by decide +kernel
theorem dR_readRow_18 : decode cR_readRow 18 = .ok (.invokevirtual 72, 3) := by decide +kernel
theorem dR_readRow_21 : decode cR_readRow 21 = .ok (.ifCond .eq 7, 3) := by decide +kernel
theorem dR_readRow_24 : decode cR_readRow 24 = .ok (.iconst 1, 1) := by decide +kernel
theorem dR_readRow_25 : decode cR_readRow 25 = .ok (.goto 4, 3) := by decide +kernel
theorem dR_readRow_28 : decode cR_readRow 28 = .ok (.iconst 0, 1) := by decide +kernel
theorem dR_readRow_29 : decode cR_readRow 29 = .ok (.istore_n 2, 1) := by decide +kernel
theorem dR_readRow_30 : decode cR_readRow 30 = .ok (.iconst 0, 1) := by decide +kernel
theorem dR_readRow_31 : decode cR_readRow 31 = .ok (.istore_n 3, 1) := by decide +kernel
theorem dR_readRow_32 : decode cR_readRow 32 = .ok (.iload_n 3, 1) := by decide +kernel
theorem dR_readRow_33 : decode cR_readRow 33 = .ok (.bipush 24, 2) := by decide +kernel
theorem dR_readRow_35 : decode cR_readRow 35 = .ok (.if_icmp .ge 27, 3) := by decide +kernel
theorem dR_readRow_38 : decode cR_readRow 38 = .ok (.iload_n 2, 1) := by decide +kernel
theorem dR_readRow_39 : decode cR_readRow 39 = .ok (.ifCond .eq 23, 3) := by decide +kernel
theorem dR_readRow_42 : decode cR_readRow 42 = .ok (.aload_n 0, 1) := by decide +kernel
theorem dR_readRow_43 : decode cR_readRow 43 = .ok (.invokevirtual 41, 3) := by decide +kernel
theorem dR_readRow_46 : decode cR_readRow 46 = .ok (.bipush 34, 2) := by decide +kernel
theorem dR_readRow_48 : decode cR_readRow 48 = .ok (.if_icmp .eq 14, 3) := by decide +kernel
theorem dR_readRow_51 : decode cR_readRow 51 = .ok (.aload_n 0, 1) := by decide +kernel
theorem dR_readRow_52 : decode cR_readRow 52 = .ok (.invokevirtual 72, 3) := by decide +kernel
theorem dR_readRow_55 : decode cR_readRow 55 = .ok (.istore_n 2, 1) := by decide +kernel
theorem dR_readRow_56 : decode cR_readRow 56 = .ok (.iinc 3 1, 3) := by decide +kernel
theorem dR_readRow_59 : decode cR_readRow 59 = .ok (.goto (-27), 3) := by decide +kernel
theorem dR_readRow_62 : decode cR_readRow 62 = .ok (.iload_n 2, 1) := by decide +kernel
theorem dR_readRow_63 : decode cR_readRow 63 = .ok (.ifCond .eq 27, 3) := by decide +kernel
theorem dR_readRow_66 : decode cR_readRow 66 = .ok (.aload_n 0, 1) := by decide +kernel
theorem dR_readRow_67 : decode cR_readRow 67 = .ok (.bipush 34, 2) := by decide +kernel
theorem dR_readRow_69 : decode cR_readRow 69 = .ok (.invokevirtual 48, 3) := by decide +kernel
theorem dR_readRow_72 : decode cR_readRow 72 = .ok (.ifCond .eq 18, 3) := by decide +kernel
theorem dR_readRow_75 : decode cR_readRow 75 = .ok (.aload_n 0, 1) := by decide +kernel
theorem dR_readRow_76 : decode cR_readRow 76 = .ok (.getfield 21, 3) := by decide +kernel
theorem dR_readRow_79 : decode cR_readRow 79 = .ok (.iload_n 1, 1) := by decide +kernel
theorem dR_readRow_80 : decode cR_readRow 80 = .ok (.invokevirtual 78, 3) := by decide +kernel
theorem dR_readRow_83 : decode cR_readRow 83 = .ok (.ifCond .eq 7, 3) := by decide +kernel
theorem dR_readRow_86 : decode cR_readRow 86 = .ok (.iconst 1, 1) := by decide +kernel
theorem dR_readRow_87 : decode cR_readRow 87 = .ok (.goto 4, 3) := by decide +kernel
theorem dR_readRow_90 : decode cR_readRow 90 = .ok (.iconst 0, 1) := by decide +kernel
theorem dR_readRow_91 : decode cR_readRow 91 = .ok (.ireturn, 1) := by decide +kernel
abbrev cR_readWord : ByteArray := prog_4_method_10_code
def yR_readWord : MethodName := ⟨"PostIndex$QueryReader", "readWord", "()Z"⟩
def fR_readWord (d : Nat) : zF := (cR_readWord, 2, yR_readWord, (some .boolean), d, 0, 0)
theorem meR_readWord (d : Nat) : zMe (fR_readWord d) 0 := ⟨(zA2 (i := 133) rfl rfl), (zA1 (i := 3) rfl rfl), by show "PostIndex$QueryReader" ≠ _; decide +kernel, by show "PostIndex$QueryReader" ≠ _; decide +kernel, by show (parseMethodDescriptor "()Z").map _ = _; decide +kernel⟩
theorem dR_readWord_0 : decode cR_readWord 0 = .ok (.aload_n 0, 1) := by decide +kernel
theorem dR_readWord_1 : decode cR_readWord 1 = .ok (.invokevirtual 81, 3) := by decide +kernel
theorem dR_readWord_4 : decode cR_readWord 4 = .ok (.aload_n 0, 1) := by decide +kernel
theorem dR_readWord_5 : decode cR_readWord 5 = .ok (.getfield 33, 3) := by decide +kernel
theorem dR_readWord_8 : decode cR_readWord 8 = .ok (.istore_n 1, 1) := by decide +kernel
theorem dR_readWord_9 : decode cR_readWord 9 = .ok (.aload_n 0, 1) := by decide +kernel
theorem dR_readWord_10 : decode cR_readWord 10 = .ok (.aload_n 0, 1) := by decide +kernel
theorem dR_readWord_11 : decode cR_readWord 11 = .ok (.getfield 12, 3) := by decide +kernel
theorem dR_readWord_14 : decode cR_readWord 14 = .ok (.iload_n 1, 1) := by decide +kernel
theorem dR_readWord_15 : decode cR_readWord 15 = .ok (.invokevirtual 84, 3) := by decide +kernel
theorem dR_readWord_18 : decode cR_readWord 18 = .ok (.putfield 33, 3) := by decide +kernel
theorem dR_readWord_21 : decode cR_readWord 21 = .ok (.aload_n 0, 1) := by decide +kernel
theorem dR_readWord_22 : decode cR_readWord 22 = .ok (.getfield 33, 3) := by decide +kernel
theorem dR_readWord_25 : decode cR_readWord 25 = .ok (.iload_n 1, 1) := by decide +kernel
theorem dR_readWord_26 : decode cR_readWord 26 = .ok (.if_icmp .le 26, 3) := by decide +kernel
theorem dR_readWord_29 : decode cR_readWord 29 = .ok (.aload_n 0, 1) := by decide +kernel
theorem dR_readWord_30 : decode cR_readWord 30 = .ok (.getfield 21, 3) := by decide +kernel
theorem dR_readWord_33 : decode cR_readWord 33 = .ok (.aload_n 0, 1) := by decide +kernel
theorem dR_readWord_34 : decode cR_readWord 34 = .ok (.getfield 12, 3) := by decide +kernel
theorem dR_readWord_37 : decode cR_readWord 37 = .ok (.iload_n 1, 1) := by decide +kernel
theorem dR_readWord_38 : decode cR_readWord 38 = .ok (.aload_n 0, 1) := by decide +kernel
theorem dR_readWord_39 : decode cR_readWord 39 = .ok (.getfield 33, 3) := by decide +kernel
theorem dR_readWord_42 : decode cR_readWord 42 = .ok (.invokevirtual 88, 3) := by decide +kernel
theorem dR_readWord_45 : decode cR_readWord 45 = .ok (.ifCond .eq 7, 3) := by decide +kernel
theorem dR_readWord_48 : decode cR_readWord 48 = .ok (.iconst 1, 1) := by decide +kernel
theorem dR_readWord_49 : decode cR_readWord 49 = .ok (.goto 4, 3) := by decide +kernel
theorem dR_readWord_52 : decode cR_readWord 52 = .ok (.iconst 0, 1) := by decide +kernel
theorem dR_readWord_53 : decode cR_readWord 53 = .ok (.ireturn, 1) := by decide +kernel
abbrev cR_readFilter : ByteArray := prog_4_method_11_code
def yR_readFilter : MethodName := ⟨"PostIndex$QueryReader", "readFilter", "(I)Z"⟩
def fR_readFilter (d : Nat) : zF := (cR_readFilter, 4, yR_readFilter, (some .boolean), d, 0, 0)
theorem meR_readFilter (d : Nat) : zMe (fR_readFilter d) 1 := ⟨(zA2 (i := 151) rfl rfl), (zA1 (i := 3) rfl rfl), by show "PostIndex$QueryReader" ≠ _; decide +kernel, by show "PostIndex$QueryReader" ≠ _; decide +kernel, by show (parseMethodDescriptor "(I)Z").map _ = _; decide +kernel⟩
theorem dR_readFilter_0 : decode cR_readFilter 0 = .ok (.aload_n 0, 1) := by decide +kernel
theorem dR_readFilter_1 : decode cR_readFilter 1 = .ok (.dup, 1) := by decide +kernel
theorem dR_readFilter_2 : decode cR_readFilter 2 = .ok (.getfield 33, 3) := by decide +kernel
theorem dR_readFilter_5 : decode cR_readFilter 5 = .ok (.iconst 1, 1) := by decide +kernel
theorem dR_readFilter_6 : decode cR_readFilter 6 = .ok (.iadd, 1) := by decide +kernel
theorem dR_readFilter_7 : decode cR_readFilter 7 = .ok (.putfield 33, 3) := by decide +kernel
theorem dR_readFilter_10 : decode cR_readFilter 10 = .ok (.aload_n 0, 1) := by decide +kernel
theorem dR_readFilter_11 : decode cR_readFilter 11 = .ok (.getfield 33, 3) := by decide +kernel
theorem dR_readFilter_14 : decode cR_readFilter 14 = .ok (.istore_n 2, 1) := by decide +kernel
theorem dR_readFilter_15 : decode cR_readFilter 15 = .ok (.iconst 0, 1) := by decide +kernel
theorem dR_readFilter_16 : decode cR_readFilter 16 = .ok (.istore_n 3, 1) := by decide +kernel
theorem dR_readFilter_17 : decode cR_readFilter 17 = .ok (.aload_n 0, 1) := by decide +kernel
theorem dR_readFilter_18 : decode cR_readFilter 18 = .ok (.getfield 33, 3) := by decide +kernel
theorem dR_readFilter_21 : decode cR_readFilter 21 = .ok (.aload_n 0, 1) := by decide +kernel
theorem dR_readFilter_22 : decode cR_readFilter 22 = .ok (.getfield 12, 3) := by decide +kernel
theorem dR_readFilter_25 : decode cR_readFilter 25 = .ok (.getfield 92, 3) := by decide +kernel
theorem flR_92 : zFldN "PostIndex$QueryReader" 92 5 1 2 := ⟨RT, TT, "PostIndex", rfl, by decide, inT, by decide +kernel⟩
theorem dR_readFilter_28 : decode cR_readFilter 28 = .ok (.if_icmp .ge 64, 3) := by decide +kernel
theorem dR_readFilter_31 : decode cR_readFilter 31 = .ok (.aload_n 0, 1) := by decide +kernel
theorem dR_readFilter_32 : decode cR_readFilter 32 = .ok (.getfield 33, 3) := by decide +kernel
theorem dR_readFilter_35 : decode cR_readFilter 35 = .ok (.iload_n 2, 1) := by decide +kernel
theorem dR_readFilter_36 : decode cR_readFilter 36 = .ok (.isub, 1) := by decide +kernel
theorem dR_readFilter_37 : decode cR_readFilter 37 = .ok (.bipush 9, 2) := by decide +kernel
theorem dR_readFilter_39 : decode cR_readFilter 39 = .ok (.if_icmp .ge 53, 3) := by decide +kernel
theorem dR_readFilter_42 : decode cR_readFilter 42 = .ok (.aload_n 0, 1) := by decide +kernel
theorem dR_readFilter_43 : decode cR_readFilter 43 = .ok (.getfield 12, 3) := by decide +kernel
theorem dR_readFilter_46 : decode cR_readFilter 46 = .ok (.aload_n 0, 1) := by decide +kernel
theorem dR_readFilter_47 : decode cR_readFilter 47 = .ok (.getfield 33, 3) := by decide +kernel
theorem dR_readFilter_50 : decode cR_readFilter 50 = .ok (.invokevirtual 95, 3) := by decide +kernel
theorem dR_readFilter_53 : decode cR_readFilter 53 = .ok (.invokestatic 99, 3) := by decide +kernel
theorem dR_readFilter_56 : decode cR_readFilter 56 = .ok (.ifCond .eq 36, 3) := by decide +kernel
theorem dR_readFilter_59 : decode cR_readFilter 59 = .ok (.bipush 10, 2) := by decide +kernel
theorem dR_readFilter_61 : decode cR_readFilter 61 = .ok (.iload_n 3, 1) := by decide +kernel
theorem dR_readFilter_62 : decode cR_readFilter 62 = .ok (.imul, 1) := by decide +kernel
theorem dR_readFilter_63 : decode cR_readFilter 63 = .ok (.aload_n 0, 1) := by decide +kernel
theorem dR_readFilter_64 : decode cR_readFilter 64 = .ok (.getfield 12, 3) := by decide +kernel
theorem dR_readFilter_67 : decode cR_readFilter 67 = .ok (.aload_n 0, 1) := by decide +kernel
theorem dR_readFilter_68 : decode cR_readFilter 68 = .ok (.getfield 33, 3) := by decide +kernel
theorem dR_readFilter_71 : decode cR_readFilter 71 = .ok (.invokevirtual 95, 3) := by decide +kernel
theorem dR_readFilter_74 : decode cR_readFilter 74 = .ok (.bipush 48, 2) := by decide +kernel
theorem dR_readFilter_76 : decode cR_readFilter 76 = .ok (.isub, 1) := by decide +kernel
theorem dR_readFilter_77 : decode cR_readFilter 77 = .ok (.iadd, 1) := by decide +kernel
theorem dR_readFilter_78 : decode cR_readFilter 78 = .ok (.istore_n 3, 1) := by decide +kernel
theorem dR_readFilter_79 : decode cR_readFilter 79 = .ok (.aload_n 0, 1) := by decide +kernel
theorem dR_readFilter_80 : decode cR_readFilter 80 = .ok (.dup, 1) := by decide +kernel
theorem dR_readFilter_81 : decode cR_readFilter 81 = .ok (.getfield 33, 3) := by decide +kernel
theorem dR_readFilter_84 : decode cR_readFilter 84 = .ok (.iconst 1, 1) := by decide +kernel
theorem dR_readFilter_85 : decode cR_readFilter 85 = .ok (.iadd, 1) := by decide +kernel
theorem dR_readFilter_86 : decode cR_readFilter 86 = .ok (.putfield 33, 3) := by decide +kernel
theorem dR_readFilter_89 : decode cR_readFilter 89 = .ok (.goto (-72), 3) := by decide +kernel
theorem dR_readFilter_92 : decode cR_readFilter 92 = .ok (.aload_n 0, 1) := by decide +kernel
theorem dR_readFilter_93 : decode cR_readFilter 93 = .ok (.getfield 33, 3) := by decide +kernel
theorem dR_readFilter_96 : decode cR_readFilter 96 = .ok (.iload_n 2, 1) := by decide +kernel
theorem dR_readFilter_97 : decode cR_readFilter 97 = .ok (.if_icmp .le 36, 3) := by decide +kernel
theorem dR_readFilter_100 : decode cR_readFilter 100 = .ok (.aload_n 0, 1) := by decide +kernel
theorem dR_readFilter_101 : decode cR_readFilter 101 = .ok (.getfield 12, 3) := by decide +kernel
theorem dR_readFilter_104 : decode cR_readFilter 104 = .ok (.aload_n 0, 1) := by decide +kernel
theorem dR_readFilter_105 : decode cR_readFilter 105 = .ok (.getfield 33, 3) := by decide +kernel
theorem dR_readFilter_108 : decode cR_readFilter 108 = .ok (.invokevirtual 95, 3) := by decide +kernel
theorem dR_readFilter_111 : decode cR_readFilter 111 = .ok (.invokestatic 99, 3) := by decide +kernel
theorem dR_readFilter_114 : decode cR_readFilter 114 = .ok (.ifCond .ne 19, 3) := by decide +kernel
theorem dR_readFilter_117 : decode cR_readFilter 117 = .ok (.aload_n 0, 1) := by decide +kernel
theorem dR_readFilter_118 : decode cR_readFilter 118 = .ok (.getfield 21, 3) := by decide +kernel
theorem dR_readFilter_121 : decode cR_readFilter 121 = .ok (.iload_n 1, 1) := by decide +kernel
theorem dR_readFilter_122 : decode cR_readFilter 122 = .ok (.iload_n 3, 1) := by decide +kernel
theorem dR_readFilter_123 : decode cR_readFilter 123 = .ok (.invokevirtual 52, 3) := by decide +kernel
theorem dR_readFilter_126 : decode cR_readFilter 126 = .ok (.ifCond .eq 7, 3) := by decide +kernel
theorem dR_readFilter_129 : decode cR_readFilter 129 = .ok (.iconst 1, 1) := by decide +kernel
theorem dR_readFilter_130 : decode cR_readFilter 130 = .ok (.goto 4, 3) := by decide +kernel
theorem dR_readFilter_133 : decode cR_readFilter 133 = .ok (.iconst 0, 1) := by decide +kernel
theorem dR_readFilter_134 : decode cR_readFilter 134 = .ok (.ireturn, 1) := by decide +kernel
abbrev cR_take : ByteArray := prog_4_method_12_code
def yR_take : MethodName := ⟨"PostIndex$QueryReader", "take", "(C)Z"⟩
def fR_take (d : Nat) : zF := (cR_take, 2, yR_take, (some .boolean), d, 0, 0)
theorem meR_take (d : Nat) : zMe (fR_take d) 1 := ⟨(zA2 (i := 112) rfl rfl), (zA1 (i := 3) rfl rfl), by show "PostIndex$QueryReader" ≠ _; decide +kernel, by show "PostIndex$QueryReader" ≠ _; decide +kernel, by show (parseMethodDescriptor "(C)Z").map _ = _; decide +kernel⟩
theorem dR_take_0 : decode cR_take 0 = .ok (.aload_n 0, 1) := by decide +kernel
theorem dR_take_1 : decode cR_take 1 = .ok (.invokevirtual 41, 3) := by decide +kernel
theorem dR_take_4 : decode cR_take 4 = .ok (.iload_n 1, 1) := by decide +kernel
theorem dR_take_5 : decode cR_take 5 = .ok (.if_icmp .eq 5, 3) := by decide +kernel
theorem dR_take_8 : decode cR_take 8 = .ok (.iconst 0, 1) := by decide +kernel
theorem dR_take_9 : decode cR_take 9 = .ok (.ireturn, 1) := by decide +kernel
theorem dR_take_10 : decode cR_take 10 = .ok (.aload_n 0, 1) := by decide +kernel
theorem dR_take_11 : decode cR_take 11 = .ok (.dup, 1) := by decide +kernel
theorem dR_take_12 : decode cR_take 12 = .ok (.getfield 33, 3) := by decide +kernel
theorem dR_take_15 : decode cR_take 15 = .ok (.iconst 1, 1) := by decide +kernel
theorem dR_take_16 : decode cR_take 16 = .ok (.iadd, 1) := by decide +kernel
theorem dR_take_17 : decode cR_take 17 = .ok (.putfield 33, 3) := by decide +kernel
theorem dR_take_20 : decode cR_take 20 = .ok (.iconst 1, 1) := by decide +kernel
theorem dR_take_21 : decode cR_take 21 = .ok (.ireturn, 1) := by decide +kernel
abbrev cR_peekPiece : ByteArray := prog_4_method_13_code
def yR_peekPiece : MethodName := ⟨"PostIndex$QueryReader", "peekPiece", "()C"⟩
def fR_peekPiece (d : Nat) : zF := (cR_peekPiece, 1, yR_peekPiece, (some .char), d, 0, 0)
theorem meR_peekPiece (d : Nat) : zMe (fR_peekPiece d) 0 := ⟨(zA2 (i := 116) rfl rfl), (zA1 (i := 3) rfl rfl), by show "PostIndex$QueryReader" ≠ _; decide +kernel, by show "PostIndex$QueryReader" ≠ _; decide +kernel, by show (parseMethodDescriptor "()C").map _ = _; decide +kernel⟩
theorem dR_peekPiece_0 : decode cR_peekPiece 0 = .ok (.aload_n 0, 1) := by decide +kernel
theorem dR_peekPiece_1 : decode cR_peekPiece 1 = .ok (.invokevirtual 81, 3) := by decide +kernel
theorem dR_peekPiece_4 : decode cR_peekPiece 4 = .ok (.aload_n 0, 1) := by decide +kernel
theorem dR_peekPiece_5 : decode cR_peekPiece 5 = .ok (.getfield 12, 3) := by decide +kernel
theorem dR_peekPiece_8 : decode cR_peekPiece 8 = .ok (.aload_n 0, 1) := by decide +kernel
theorem dR_peekPiece_9 : decode cR_peekPiece 9 = .ok (.getfield 33, 3) := by decide +kernel
theorem dR_peekPiece_12 : decode cR_peekPiece 12 = .ok (.invokevirtual 95, 3) := by decide +kernel
theorem dR_peekPiece_15 : decode cR_peekPiece 15 = .ok (.ireturn, 1) := by decide +kernel
abbrev cR_skipSpaces : ByteArray := prog_4_method_14_code
def yR_skipSpaces : MethodName := ⟨"PostIndex$QueryReader", "skipSpaces", "()V"⟩
def fR_skipSpaces (d : Nat) : zF := (cR_skipSpaces, 1, yR_skipSpaces, none, d, 0, 0)
theorem meR_skipSpaces (d : Nat) : zMe (fR_skipSpaces d) 0 := ⟨(zA2 (i := 120) rfl rfl), (zA1 (i := 3) rfl rfl), by show "PostIndex$QueryReader" ≠ _; decide +kernel, by show "PostIndex$QueryReader" ≠ _; decide +kernel, by show (parseMethodDescriptor "()V").map _ = _; decide +kernel⟩
theorem dR_skipSpaces_0 : decode cR_skipSpaces 0 = .ok (.aload_n 0, 1) := by decide +kernel
theorem dR_skipSpaces_1 : decode cR_skipSpaces 1 = .ok (.getfield 33, 3) := by decide +kernel
theorem dR_skipSpaces_4 : decode cR_skipSpaces 4 = .ok (.aload_n 0, 1) := by decide +kernel
theorem dR_skipSpaces_5 : decode cR_skipSpaces 5 = .ok (.getfield 12, 3) := by decide +kernel
theorem dR_skipSpaces_8 : decode cR_skipSpaces 8 = .ok (.getfield 92, 3) := by decide +kernel
theorem dR_skipSpaces_11 : decode cR_skipSpaces 11 = .ok (.if_icmp .ge 32, 3) := by decide +kernel
theorem dR_skipSpaces_14 : decode cR_skipSpaces 14 = .ok (.aload_n 0, 1) := by decide +kernel
theorem dR_skipSpaces_15 : decode cR_skipSpaces 15 = .ok (.getfield 12, 3) := by decide +kernel
theorem dR_skipSpaces_18 : decode cR_skipSpaces 18 = .ok (.aload_n 0, 1) := by decide +kernel
theorem dR_skipSpaces_19 : decode cR_skipSpaces 19 = .ok (.getfield 33, 3) := by decide +kernel
theorem dR_skipSpaces_22 : decode cR_skipSpaces 22 = .ok (.invokevirtual 95, 3) := by decide +kernel
theorem dR_skipSpaces_25 : decode cR_skipSpaces 25 = .ok (.bipush 32, 2) := by decide +kernel
theorem dR_skipSpaces_27 : decode cR_skipSpaces 27 = .ok (.if_icmp .ne 16, 3) := by decide +kernel
theorem dR_skipSpaces_30 : decode cR_skipSpaces 30 = .ok (.aload_n 0, 1) := by decide +kernel
theorem dR_skipSpaces_31 : decode cR_skipSpaces 31 = .ok (.dup, 1) := by decide +kernel
theorem dR_skipSpaces_32 : decode cR_skipSpaces 32 = .ok (.getfield 33, 3) := by decide +kernel
theorem dR_skipSpaces_35 : decode cR_skipSpaces 35 = .ok (.iconst 1, 1) := by decide +kernel
theorem dR_skipSpaces_36 : decode cR_skipSpaces 36 = .ok (.iadd, 1) := by decide +kernel
theorem dR_skipSpaces_37 : decode cR_skipSpaces 37 = .ok (.putfield 33, 3) := by decide +kernel
theorem dR_skipSpaces_40 : decode cR_skipSpaces 40 = .ok (.goto (-40), 3) := by decide +kernel
theorem dR_skipSpaces_43 : decode cR_skipSpaces 43 = .ok (.return_, 1) := by decide +kernel
theorem lkR_11 : zLi "PostIndex$QueryReader" 11 yT_init := ⟨(zA1 (i := 44) rfl rfl), (zA1 (i := 23) rfl rfl), rfl⟩
theorem lkR_20 : zLi "PostIndex$QueryReader" 20 yQ_init := ⟨(zA1 (i := 47) rfl rfl), (zA1 (i := 48) rfl rfl), rfl⟩
theorem lkR_25 : zLv "PostIndex$QueryReader" 25 yT_makeEmpty := ⟨(zA2 (i := 91) rfl rfl), (zA1 (i := 230) rfl rfl), (zA1 (i := 231) rfl rfl)⟩
theorem lkR_28 : zLv "PostIndex$QueryReader" 28 yT_appendBeginning := ⟨(zA2 (i := 92) rfl rfl), (zA1 (i := 216) rfl rfl), (zA1 (i := 217) rfl rfl)⟩
theorem lkR_32 : zLv "PostIndex$QueryReader" 32 yQ_makeEmpty := ⟨(zA2 (i := 93) rfl rfl), (zA2 (i := 94) rfl rfl), (zA2 (i := 95) rfl rfl)⟩
theorem lkR_37 : zLv "PostIndex$QueryReader" 37 yR_readAny := ⟨(zA2 (i := 97) rfl rfl), (zA2 (i := 99) rfl rfl), (zA0 (i := 6) (q := (yR_readAny, 3)) rfl rfl)⟩
theorem lkR_41 : zLv "PostIndex$QueryReader" 41 yR_peekPiece := ⟨(zA2 (i := 113) rfl rfl), (zA2 (i := 115) rfl rfl), (zA0 (i := 10) (q := (yR_peekPiece, 3)) rfl rfl)⟩
theorem lkR_45 : zLv "PostIndex$QueryReader" 45 yR_readAll := ⟨(zA2 (i := 101) rfl rfl), (zA2 (i := 103) rfl rfl), (zA0 (i := 7) (q := (yR_readAll, 3)) rfl rfl)⟩
theorem lkR_48 : zLv "PostIndex$QueryReader" 48 yR_take := ⟨(zA2 (i := 109) rfl rfl), (zA2 (i := 111) rfl rfl), (zA0 (i := 9) (q := (yR_take, 3)) rfl rfl)⟩
theorem lkR_52 : zLv "PostIndex$QueryReader" 52 yQ_addStep := ⟨(zA2 (i := 153) rfl rfl), (zA2 (i := 145) rfl rfl), (zA2 (i := 146) rfl rfl)⟩
theorem lkR_56 : zLv "PostIndex$QueryReader" 56 yR_readPart := ⟨(zA2 (i := 105) rfl rfl), (zA2 (i := 107) rfl rfl), (zA0 (i := 8) (q := (yR_readPart, 3)) rfl rfl)⟩
theorem lkR_59 : zLv "PostIndex$QueryReader" 59 yR_partFollows := ⟨(zA2 (i := 154) rfl rfl), (zA2 (i := 156) rfl rfl), (zA0 (i := 16) (q := (yR_partFollows, 3)) rfl rfl)⟩
theorem lkR_63 : zLv "PostIndex$QueryReader" 63 yR_readOne := ⟨(zA2 (i := 122) rfl rfl), (zA2 (i := 124) rfl rfl), (zA0 (i := 12) (q := (yR_readOne, 3)) rfl rfl)⟩
theorem lkR_66 : zLv "PostIndex$QueryReader" 66 yR_readRow := ⟨(zA2 (i := 126) rfl rfl), (zA2 (i := 128) rfl rfl), (zA0 (i := 13) (q := (yR_readRow, 3)) rfl rfl)⟩
theorem lkR_69 : zLv "PostIndex$QueryReader" 69 yR_readFilter := ⟨(zA2 (i := 148) rfl rfl), (zA2 (i := 150) rfl rfl), (zA0 (i := 15) (q := (yR_readFilter, 3)) rfl rfl)⟩
theorem lkR_72 : zLv "PostIndex$QueryReader" 72 yR_readWord := ⟨(zA2 (i := 130) rfl rfl), (zA2 (i := 132) rfl rfl), (zA0 (i := 14) (q := (yR_readWord, 3)) rfl rfl)⟩
theorem lkR_78 : zLv "PostIndex$QueryReader" 78 yQ_addWordsStep := ⟨(zA2 (i := 140) rfl rfl), (zA2 (i := 141) rfl rfl), (zA2 (i := 142) rfl rfl)⟩
theorem lkR_81 : zLv "PostIndex$QueryReader" 81 yR_skipSpaces := ⟨(zA2 (i := 117) rfl rfl), (zA2 (i := 119) rfl rfl), (zA0 (i := 11) (q := (yR_skipSpaces, 3)) rfl rfl)⟩
theorem lkR_84 : zLv "PostIndex$QueryReader" 84 yT_tokenEnd := ⟨(zA2 (i := 134) rfl rfl), (zA2 (i := 23) rfl rfl), (zA2 (i := 24) rfl rfl)⟩
theorem lkR_88 : zLv "PostIndex$QueryReader" 88 yQ_addWord := ⟨(zA2 (i := 135) rfl rfl), (zA2 (i := 136) rfl rfl), (zA2 (i := 137) rfl rfl)⟩
theorem lkR_95 : zLv "PostIndex$QueryReader" 95 yT_charOr0 := ⟨(zA2 (i := 121) rfl rfl), (zA2 (i := 27) rfl rfl), (zA2 (i := 28) rfl rfl)⟩
theorem lkR_99 : zLs "PostIndex$QueryReader" 99 yT_isDigit := ⟨(zA2 (i := 152) rfl rfl), (zA2 (i := 37) rfl rfl)⟩
end
section
abbrev cH_init : ByteArray := prog_5_method_1_code
def yH_init : MethodName := ⟨"PostIndex$Search", "<init>", "()V"⟩
def fH_init (d : Nat) : zF := (cH_init, 1, yH_init, none, d, 29, 474)
theorem meH_init (d : Nat) : zMe (fH_init d) 0 := ⟨(zA1 (i := 143) rfl rfl), (zA1 (i := 7) rfl rfl), by show "PostIndex$Search" ≠ _; decide +kernel, by show "PostIndex$Search" ≠ _; decide +kernel, by show (parseMethodDescriptor "()V").map _ = _; decide +kernel⟩
theorem dH_init_0 : decode cH_init 0 = .ok (.aload_n 0, 1) := by decide +kernel
theorem dH_init_1 : decode cH_init 1 = .ok (.invokespecial 1, 3) := by decide +kernel
theorem lkH_1 : Cond.methodLink "PostIndex$Search" 1 Lib.objectInit ∈ zAll ∧ Cond.instanceMethod Lib.objectInit ∈ zAll ∧ Cond.code Lib.objectInit ⟨#[0xb1]⟩ 1 none ∈ zAll := ⟨(zA1 (i := 144) rfl rfl), (zA1 (i := 18) rfl rfl), (zA1 (i := 19) rfl rfl)⟩
theorem dH_init_4 : decode cH_init 4 = .ok (.aload_n 0, 1) := by decide +kernel
theorem dH_init_5 : decode cH_init 5 = .ok (.new 7, 3) := by decide +kernel
theorem nwH_7 : zNew "PostIndex$Search" 7 1 6 (fun k => defaultValue (tyQ k)) := ⟨RQ, TQ, tyQ, rfl, inQ, tyQ_ok, (zA1 (i := 145) rfl rfl), (zA1 (i := 46) rfl rfl), (zA1 (i := 4) rfl rfl), fun _ _ => rfl⟩
theorem dH_init_8 : decode cH_init 8 = .ok (.dup, 1) := by decide +kernel
theorem dH_init_9 : decode cH_init 9 = .ok (.invokespecial 9, 3) := by decide +kernel
theorem dH_init_12 : decode cH_init 12 = .ok (.putfield 10, 3) := by decide +kernel
theorem flH_10 : zFld "PostIndex$Search" 10 3 0 3 := ⟨RH, TH, rfl, by decide, inH, (zA1 (i := 147) rfl rfl)⟩
theorem dH_init_15 : decode cH_init 15 = .ok (.return_, 1) := by decide +kernel
theorem lkH_9 : zLi "PostIndex$Search" 9 yQ_init := ⟨(zA1 (i := 146) rfl rfl), (zA1 (i := 48) rfl rfl), rfl⟩
end
section
abbrev cX_init : ByteArray := prog_1_method_1_code
def yX_init : MethodName := ⟨"PostIndex", "<init>", "()V"⟩
def fX_init (d : Nat) : zF := (cX_init, 2, yX_init, none, d, 795, 10833)
theorem meX_init (d : Nat) : zMe (fX_init d) 0 := ⟨(zA1 (i := 16) rfl rfl), (zA1 (i := 1) rfl rfl), by show "PostIndex" ≠ _; decide +kernel, by show "PostIndex" ≠ _; decide +kernel, by show (parseMethodDescriptor "()V").map _ = _; decide +kernel⟩
theorem dX_init_0 : decode cX_init 0 = .ok (.aload_n 0, 1) := by decide +kernel
theorem dX_init_1 : decode cX_init 1 = .ok (.invokespecial 3, 3) := by decide +kernel
theorem lkX_3 : Cond.methodLink "PostIndex" 3 Lib.objectInit ∈ zAll ∧ Cond.instanceMethod Lib.objectInit ∈ zAll ∧ Cond.code Lib.objectInit ⟨#[0xb1]⟩ 1 none ∈ zAll := ⟨(zA1 (i := 17) rfl rfl), (zA1 (i := 18) rfl rfl), (zA1 (i := 19) rfl rfl)⟩
theorem dX_init_4 : decode cX_init 4 = .ok (.aload_n 0, 1) := by decide +kernel
theorem dX_init_5 : decode cX_init 5 = .ok (.new 9, 3) := by decide +kernel
theorem nwX_9 : zNew "PostIndex" 9 5 2 (fun k => defaultValue (tyT k)) := ⟨RT, TT, tyT, rfl, inT, tyT_ok, (zA1 (i := 20) rfl rfl), (zA1 (i := 21) rfl rfl), (zA1 (i := 2) rfl rfl), fun _ _ => rfl⟩
theorem dX_init_8 : decode cX_init 8 = .ok (.dup, 1) := by decide +kernel
theorem dX_init_9 : decode cX_init 9 = .ok (.invokespecial 11, 3) := by decide +kernel
theorem dX_init_12 : decode cX_init 12 = .ok (.putfield 12, 3) := by decide +kernel
theorem flX_12 : zFld "PostIndex" 12 6 0 12 := ⟨RX, TX, rfl, by decide, inX, (zA1 (i := 158) rfl rfl)⟩
theorem dX_init_15 : decode cX_init 15 = .ok (.aload_n 0, 1) := by decide +kernel
theorem dX_init_16 : decode cX_init 16 = .ok (.new 9, 3) := by decide +kernel
theorem dX_init_19 : decode cX_init 19 = .ok (.dup, 1) := by decide +kernel
theorem dX_init_20 : decode cX_init 20 = .ok (.invokespecial 11, 3) := by decide +kernel
theorem dX_init_23 : decode cX_init 23 = .ok (.putfield 16, 3) := by decide +kernel
theorem flX_16 : zFld "PostIndex" 16 6 9 12 := ⟨RX, TX, rfl, by decide, inX, (zA1 (i := 167) rfl rfl)⟩
theorem dX_init_26 : decode cX_init 26 = .ok (.aload_n 0, 1) := by decide +kernel
theorem dX_init_27 : decode cX_init 27 = .ok (.new 19, 3) := by decide +kernel
theorem nwX_19 : zNew "PostIndex" 19 2 3 (fun k => defaultValue (tyR k)) := ⟨RR, TR, tyR, rfl, inR, tyR_ok, (zA1 (i := 37) rfl rfl), (zA1 (i := 38) rfl rfl), (zA1 (i := 3) rfl rfl), fun _ _ => rfl⟩
theorem dX_init_30 : decode cX_init 30 = .ok (.dup, 1) := by decide +kernel
theorem dX_init_31 : decode cX_init 31 = .ok (.invokespecial 21, 3) := by decide +kernel
theorem dX_init_34 : decode cX_init 34 = .ok (.putfield 22, 3) := by decide +kernel
theorem flX_22 : zFld "PostIndex" 22 6 4 12 := ⟨RX, TX, rfl, by decide, inX, (zA1 (i := 162) rfl rfl)⟩
theorem dX_init_37 : decode cX_init 37 = .ok (.aload_n 0, 1) := by decide +kernel
theorem dX_init_38 : decode cX_init 38 = .ok (.bipush 24, 2) := by decide +kernel
theorem dX_init_40 : decode cX_init 40 = .ok (.anewarray 26, 3) := by decide +kernel
theorem aqX_26 : zArq "PostIndex" 26 4 "PostIndex$Post" := ⟨rfl, (zA1 (i := 85) rfl rfl), by decide +kernel⟩
theorem dX_init_43 : decode cX_init 43 = .ok (.putfield 28, 3) := by decide +kernel
theorem flX_28 : zFld "PostIndex" 28 6 1 12 := ⟨RX, TX, rfl, by decide, inX, (zA1 (i := 159) rfl rfl)⟩
theorem dX_init_46 : decode cX_init 46 = .ok (.iconst 0, 1) := by decide +kernel
theorem dX_init_47 : decode cX_init 47 = .ok (.istore_n 1, 1) := by decide +kernel
theorem dX_init_48 : decode cX_init 48 = .ok (.iload_n 1, 1) := by decide +kernel
theorem dX_init_49 : decode cX_init 49 = .ok (.bipush 24, 2) := by decide +kernel
theorem dX_init_51 : decode cX_init 51 = .ok (.if_icmp .ge 22, 3) := by decide +kernel
theorem dX_init_54 : decode cX_init 54 = .ok (.aload_n 0, 1) := by decide +kernel
theorem dX_init_55 : decode cX_init 55 = .ok (.getfield 28, 3) := by decide +kernel
theorem dX_init_58 : decode cX_init 58 = .ok (.iload_n 1, 1) := by decide +kernel
theorem dX_init_59 : decode cX_init 59 = .ok (.new 26, 3) := by decide +kernel
theorem nwX_26 : zNew "PostIndex" 26 0 4 (fun k => defaultValue (tyP k)) := ⟨RP, TP, tyP, rfl, inP, tyP_ok, (zA1 (i := 85) rfl rfl), (zA1 (i := 87) rfl rfl), (zA1 (i := 5) rfl rfl), fun _ _ => rfl⟩
theorem dX_init_62 : decode cX_init 62 = .ok (.dup, 1) := by decide +kernel
theorem dX_init_63 : decode cX_init 63 = .ok (.invokespecial 32, 3) := by decide +kernel
theorem dX_init_66 : decode cX_init 66 = .ok (.aastore, 1) := by decide +kernel
theorem dX_init_67 : decode cX_init 67 = .ok (.iinc 1 1, 3) := by decide +kernel
theorem dX_init_70 : decode cX_init 70 = .ok (.goto (-22), 3) := by decide +kernel
theorem dX_init_73 : decode cX_init 73 = .ok (.aload_n 0, 1) := by decide +kernel
theorem dX_init_74 : decode cX_init 74 = .ok (.bipush 6, 2) := by decide +kernel
theorem dX_init_76 : decode cX_init 76 = .ok (.anewarray 33, 3) := by decide +kernel
theorem aqX_33 : zArq "PostIndex" 33 5 "PostIndex$Segment" := ⟨rfl, (zA1 (i := 110) rfl rfl), by decide +kernel⟩
theorem dX_init_79 : decode cX_init 79 = .ok (.putfield 35, 3) := by decide +kernel
theorem flX_35 : zFld "PostIndex" 35 6 2 12 := ⟨RX, TX, rfl, by decide, inX, (zA1 (i := 160) rfl rfl)⟩
theorem dX_init_82 : decode cX_init 82 = .ok (.iconst 0, 1) := by decide +kernel
theorem dX_init_83 : decode cX_init 83 = .ok (.istore_n 1, 1) := by decide +kernel
theorem dX_init_84 : decode cX_init 84 = .ok (.iload_n 1, 1) := by decide +kernel
theorem dX_init_85 : decode cX_init 85 = .ok (.bipush 6, 2) := by decide +kernel
theorem dX_init_87 : decode cX_init 87 = .ok (.if_icmp .ge 22, 3) := by decide +kernel
theorem dX_init_90 : decode cX_init 90 = .ok (.aload_n 0, 1) := by decide +kernel
theorem dX_init_91 : decode cX_init 91 = .ok (.getfield 35, 3) := by decide +kernel
theorem dX_init_94 : decode cX_init 94 = .ok (.iload_n 1, 1) := by decide +kernel
theorem dX_init_95 : decode cX_init 95 = .ok (.new 33, 3) := by decide +kernel
theorem nwX_33 : zNew "PostIndex" 33 4 5 (fun k => defaultValue (tyS k)) := ⟨RS, TS, tyS, rfl, inS, tyS_ok, (zA1 (i := 110) rfl rfl), (zA1 (i := 112) rfl rfl), (zA1 (i := 6) rfl rfl), fun _ _ => rfl⟩
theorem dX_init_98 : decode cX_init 98 = .ok (.dup, 1) := by decide +kernel
theorem dX_init_99 : decode cX_init 99 = .ok (.invokespecial 39, 3) := by decide +kernel
theorem dX_init_102 : decode cX_init 102 = .ok (.aastore, 1) := by decide +kernel
theorem dX_init_103 : decode cX_init 103 = .ok (.iinc 1 1, 3) := by decide +kernel
theorem dX_init_106 : decode cX_init 106 = .ok (.goto (-22), 3) := by decide +kernel
theorem dX_init_109 : decode cX_init 109 = .ok (.aload_n 0, 1) := by decide +kernel
theorem dX_init_110 : decode cX_init 110 = .ok (.iconst 3, 1) := by decide +kernel
theorem dX_init_111 : decode cX_init 111 = .ok (.anewarray 40, 3) := by decide +kernel
theorem aqX_40 : zArq "PostIndex" 40 6 "PostIndex$Search" := ⟨rfl, (zA1 (i := 138) rfl rfl), by decide +kernel⟩
theorem dX_init_114 : decode cX_init 114 = .ok (.putfield 42, 3) := by decide +kernel
theorem flX_42 : zFld "PostIndex" 42 6 3 12 := ⟨RX, TX, rfl, by decide, inX, (zA1 (i := 161) rfl rfl)⟩
theorem dX_init_117 : decode cX_init 117 = .ok (.iconst 0, 1) := by decide +kernel
theorem dX_init_118 : decode cX_init 118 = .ok (.istore_n 1, 1) := by decide +kernel
theorem dX_init_119 : decode cX_init 119 = .ok (.iload_n 1, 1) := by decide +kernel
theorem dX_init_120 : decode cX_init 120 = .ok (.iconst 3, 1) := by decide +kernel
theorem dX_init_121 : decode cX_init 121 = .ok (.if_icmp .ge 22, 3) := by decide +kernel
theorem dX_init_124 : decode cX_init 124 = .ok (.aload_n 0, 1) := by decide +kernel
theorem dX_init_125 : decode cX_init 125 = .ok (.getfield 42, 3) := by decide +kernel
theorem dX_init_128 : decode cX_init 128 = .ok (.iload_n 1, 1) := by decide +kernel
theorem dX_init_129 : decode cX_init 129 = .ok (.new 40, 3) := by decide +kernel
theorem nwX_40 : zNew "PostIndex" 40 3 3 (fun k => defaultValue (tyH k)) := ⟨RH, TH, tyH, rfl, inH, tyH_ok, (zA1 (i := 138) rfl rfl), (zA1 (i := 140) rfl rfl), (zA1 (i := 7) rfl rfl), fun _ _ => rfl⟩
theorem dX_init_132 : decode cX_init 132 = .ok (.dup, 1) := by decide +kernel
theorem dX_init_133 : decode cX_init 133 = .ok (.invokespecial 46, 3) := by decide +kernel
theorem dX_init_136 : decode cX_init 136 = .ok (.aastore, 1) := by decide +kernel
theorem dX_init_137 : decode cX_init 137 = .ok (.iinc 1 1, 3) := by decide +kernel
theorem dX_init_140 : decode cX_init 140 = .ok (.goto (-21), 3) := by decide +kernel
theorem dX_init_143 : decode cX_init 143 = .ok (.return_, 1) := by decide +kernel
abbrev cX_type : ByteArray := prog_1_method_2_code
def yX_type : MethodName := ⟨"PostIndex", "type", "(C)Z"⟩
def fX_type (d : Nat) : zF := (cX_type, 2, yX_type, (some .boolean), d, 0, 0)
theorem meX_type (d : Nat) : zMe (fX_type d) 1 := ⟨(zA1 (i := 198) rfl rfl), (zA1 (i := 1) rfl rfl), by show "PostIndex" ≠ _; decide +kernel, by show "PostIndex" ≠ _; decide +kernel, by show (parseMethodDescriptor "(C)Z").map _ = _; decide +kernel⟩
theorem dX_type_0 : decode cX_type 0 = .ok (.iload_n 1, 1) := by decide +kernel
theorem dX_type_1 : decode cX_type 1 = .ok (.bipush 32, 2) := by decide +kernel
theorem dX_type_3 : decode cX_type 3 = .ok (.if_icmp .lt 24, 3) := by decide +kernel
theorem dX_type_6 : decode cX_type 6 = .ok (.iload_n 1, 1) := by decide +kernel
theorem dX_type_7 : decode cX_type 7 = .ok (.bipush 126, 2) := by decide +kernel
theorem dX_type_9 : decode cX_type 9 = .ok (.if_icmp .gt 18, 3) := by decide +kernel
theorem dX_type_12 : decode cX_type 12 = .ok (.aload_n 0, 1) := by decide +kernel
theorem dX_type_13 : decode cX_type 13 = .ok (.getfield 12, 3) := by decide +kernel
theorem dX_type_16 : decode cX_type 16 = .ok (.iload_n 1, 1) := by decide +kernel
theorem dX_type_17 : decode cX_type 17 = .ok (.invokevirtual 47, 3) := by decide +kernel
theorem dX_type_20 : decode cX_type 20 = .ok (.ifCond .eq 7, 3) := by decide +kernel
theorem dX_type_23 : decode cX_type 23 = .ok (.iconst 1, 1) := by decide +kernel
theorem dX_type_24 : decode cX_type 24 = .ok (.goto 4, 3) := by decide +kernel
theorem dX_type_27 : decode cX_type 27 = .ok (.iconst 0, 1) := by decide +kernel
theorem dX_type_28 : decode cX_type 28 = .ok (.ireturn, 1) := by decide +kernel
abbrev cX_quote : ByteArray := prog_1_method_3_code
def yX_quote : MethodName := ⟨"PostIndex", "quote", "(I)I"⟩
def fX_quote (d : Nat) : zF := (cX_quote, 2, yX_quote, (some .int), d, 0, 0)
theorem meX_quote (d : Nat) : zMe (fX_quote d) 1 := ⟨(zA1 (i := 206) rfl rfl), (zA1 (i := 1) rfl rfl), by show "PostIndex" ≠ _; decide +kernel, by show "PostIndex" ≠ _; decide +kernel, by show (parseMethodDescriptor "(I)I").map _ = _; decide +kernel⟩
theorem dX_quote_0 : decode cX_quote 0 = .ok (.aload_n 0, 1) := by decide +kernel
theorem dX_quote_1 : decode cX_quote 1 = .ok (.iload_n 1, 1) := by decide +kernel
theorem dX_quote_2 : decode cX_quote 2 = .ok (.invokevirtual 51, 3) := by decide +kernel
theorem dX_quote_5 : decode cX_quote 5 = .ok (.ifCond .eq 22, 3) := by decide +kernel
theorem dX_quote_8 : decode cX_quote 8 = .ok (.aload_n 0, 1) := by decide +kernel
theorem dX_quote_9 : decode cX_quote 9 = .ok (.getfield 12, 3) := by decide +kernel
theorem dX_quote_12 : decode cX_quote 12 = .ok (.aload_n 0, 1) := by decide +kernel
theorem dX_quote_13 : decode cX_quote 13 = .ok (.getfield 28, 3) := by decide +kernel
theorem dX_quote_16 : decode cX_quote 16 = .ok (.iload_n 1, 1) := by decide +kernel
theorem dX_quote_17 : decode cX_quote 17 = .ok (.aaload, 1) := by decide +kernel
theorem dX_quote_18 : decode cX_quote 18 = .ok (.getfield 55, 3) := by decide +kernel
theorem flX_55 : zFldN "PostIndex" 55 0 0 4 := ⟨RP, TP, "PostIndex", rfl, by decide, inP, by decide +kernel⟩
theorem dX_quote_21 : decode cX_quote 21 = .ok (.invokevirtual 58, 3) := by decide +kernel
theorem dX_quote_24 : decode cX_quote 24 = .ok (.goto 4, 3) := by decide +kernel
theorem dX_quote_27 : decode cX_quote 27 = .ok (.iconst (-1), 1) := by decide +kernel
theorem dX_quote_28 : decode cX_quote 28 = .ok (.ireturn, 1) := by decide +kernel
abbrev cX_clear : ByteArray := prog_1_method_4_code
def yX_clear : MethodName := ⟨"PostIndex", "clear", "()V"⟩
def fX_clear (d : Nat) : zF := (cX_clear, 1, yX_clear, none, d, 0, 0)
theorem meX_clear (d : Nat) : zMe (fX_clear d) 0 := ⟨(zA1 (i := 228) rfl rfl), (zA1 (i := 1) rfl rfl), by show "PostIndex" ≠ _; decide +kernel, by show "PostIndex" ≠ _; decide +kernel, by show (parseMethodDescriptor "()V").map _ = _; decide +kernel⟩
theorem dX_clear_0 : decode cX_clear 0 = .ok (.aload_n 0, 1) := by decide +kernel
theorem dX_clear_1 : decode cX_clear 1 = .ok (.getfield 12, 3) := by decide +kernel
theorem dX_clear_4 : decode cX_clear 4 = .ok (.invokevirtual 62, 3) := by decide +kernel
theorem dX_clear_7 : decode cX_clear 7 = .ok (.return_, 1) := by decide +kernel
abbrev cX_length : ByteArray := prog_1_method_5_code
def yX_length : MethodName := ⟨"PostIndex", "length", "()I"⟩
def fX_length (d : Nat) : zF := (cX_length, 1, yX_length, (some .int), d, 0, 0)
theorem meX_length (d : Nat) : zMe (fX_length d) 0 := ⟨(zA1 (i := 236) rfl rfl), (zA1 (i := 1) rfl rfl), by show "PostIndex" ≠ _; decide +kernel, by show "PostIndex" ≠ _; decide +kernel, by show (parseMethodDescriptor "()I").map _ = _; decide +kernel⟩
theorem dX_length_0 : decode cX_length 0 = .ok (.aload_n 0, 1) := by decide +kernel
theorem dX_length_1 : decode cX_length 1 = .ok (.getfield 12, 3) := by decide +kernel
theorem dX_length_4 : decode cX_length 4 = .ok (.getfield 65, 3) := by decide +kernel
theorem flX_65 : zFldN "PostIndex" 65 5 1 2 := ⟨RT, TT, "PostIndex", rfl, by decide, inT, by decide +kernel⟩
theorem dX_length_7 : decode cX_length 7 = .ok (.ireturn, 1) := by decide +kernel
abbrev cX_post : ByteArray := prog_1_method_6_code
def yX_post : MethodName := ⟨"PostIndex", "post", "(II)I"⟩
def fX_post (d : Nat) : zF := (cX_post, 4, yX_post, (some .int), d, 0, 0)
theorem meX_post (d : Nat) : zMe (fX_post d) 2 := ⟨(zA2 (i := 0) rfl rfl), (zA1 (i := 1) rfl rfl), by show "PostIndex" ≠ _; decide +kernel, by show "PostIndex" ≠ _; decide +kernel, by show (parseMethodDescriptor "(II)I").map _ = _; decide +kernel⟩
theorem dX_post_0 : decode cX_post 0 = .ok (.iload_n 1, 1) := by decide +kernel
theorem dX_post_1 : decode cX_post 1 = .ok (.ifCond .lt 35, 3) := by decide +kernel
theorem dX_post_4 : decode cX_post 4 = .ok (.iload_n 1, 1) := by decide +kernel
theorem dX_post_5 : decode cX_post 5 = .ok (.bipush 10, 2) := by decide +kernel
theorem dX_post_7 : decode cX_post 7 = .ok (.if_icmp .ge 29, 3) := by decide +kernel
theorem dX_post_10 : decode cX_post 10 = .ok (.aload_n 0, 1) := by decide +kernel
theorem dX_post_11 : decode cX_post 11 = .ok (.getfield 69, 3) := by decide +kernel
theorem flX_69 : zFld "PostIndex" 69 6 5 12 := ⟨RX, TX, rfl, by decide, inX, (zA1 (i := 163) rfl rfl)⟩
theorem dX_post_14 : decode cX_post 14 = .ok (.bipush 24, 2) := by decide +kernel
theorem dX_post_16 : decode cX_post 16 = .ok (.if_icmp .ge 20, 3) := by decide +kernel
theorem dX_post_19 : decode cX_post 19 = .ok (.aload_n 0, 1) := by decide +kernel
theorem dX_post_20 : decode cX_post 20 = .ok (.getfield 69, 3) := by decide +kernel
theorem dX_post_23 : decode cX_post 23 = .ok (.aload_n 0, 1) := by decide +kernel
theorem dX_post_24 : decode cX_post 24 = .ok (.getfield 72, 3) := by decide +kernel
theorem flX_72 : zFld "PostIndex" 72 6 6 12 := ⟨RX, TX, rfl, by decide, inX, (zA1 (i := 164) rfl rfl)⟩
theorem dX_post_27 : decode cX_post 27 = .ok (.isub, 1) := by decide +kernel
theorem dX_post_28 : decode cX_post 28 = .ok (.iconst 4, 1) := by decide +kernel
theorem dX_post_29 : decode cX_post 29 = .ok (.if_icmp .ge 7, 3) := by decide +kernel
theorem dX_post_32 : decode cX_post 32 = .ok (.iconst 1, 1) := by decide +kernel
theorem dX_post_33 : decode cX_post 33 = .ok (.goto 4, 3) := by decide +kernel
theorem dX_post_36 : decode cX_post 36 = .ok (.iconst 0, 1) := by decide +kernel
theorem dX_post_37 : decode cX_post 37 = .ok (.istore_n 3, 1) := by decide +kernel
theorem dX_post_38 : decode cX_post 38 = .ok (.iload_n 3, 1) := by decide +kernel
theorem dX_post_39 : decode cX_post 39 = .ok (.ifCond .ne 5, 3) := by decide +kernel
theorem dX_post_42 : decode cX_post 42 = .ok (.iconst (-1), 1) := by decide +kernel
theorem dX_post_43 : decode cX_post 43 = .ok (.ireturn, 1) := by decide +kernel
theorem dX_post_44 : decode cX_post 44 = .ok (.aload_n 0, 1) := by decide +kernel
theorem dX_post_45 : decode cX_post 45 = .ok (.getfield 28, 3) := by decide +kernel
theorem dX_post_48 : decode cX_post 48 = .ok (.aload_n 0, 1) := by decide +kernel
theorem dX_post_49 : decode cX_post 49 = .ok (.getfield 69, 3) := by decide +kernel
theorem dX_post_52 : decode cX_post 52 = .ok (.aaload, 1) := by decide +kernel
theorem dX_post_53 : decode cX_post 53 = .ok (.iload_n 1, 1) := by decide +kernel
theorem dX_post_54 : decode cX_post 54 = .ok (.iload_n 2, 1) := by decide +kernel
theorem dX_post_55 : decode cX_post 55 = .ok (.aload_n 0, 1) := by decide +kernel
theorem dX_post_56 : decode cX_post 56 = .ok (.getfield 12, 3) := by decide +kernel
theorem dX_post_59 : decode cX_post 59 = .ok (.invokevirtual 75, 3) := by decide +kernel
theorem dX_post_62 : decode cX_post 62 = .ok (.aload_n 0, 1) := by decide +kernel
theorem dX_post_63 : decode cX_post 63 = .ok (.getfield 12, 3) := by decide +kernel
theorem dX_post_66 : decode cX_post 66 = .ok (.invokevirtual 62, 3) := by decide +kernel
theorem dX_post_69 : decode cX_post 69 = .ok (.aload_n 0, 1) := by decide +kernel
theorem dX_post_70 : decode cX_post 70 = .ok (.dup, 1) := by decide +kernel
theorem dX_post_71 : decode cX_post 71 = .ok (.getfield 69, 3) := by decide +kernel
theorem dX_post_74 : decode cX_post 74 = .ok (.iconst 1, 1) := by decide +kernel
theorem dX_post_75 : decode cX_post 75 = .ok (.iadd, 1) := by decide +kernel
theorem dX_post_76 : decode cX_post 76 = .ok (.putfield 69, 3) := by decide +kernel
theorem dX_post_79 : decode cX_post 79 = .ok (.aload_n 0, 1) := by decide +kernel
theorem dX_post_80 : decode cX_post 80 = .ok (.getfield 69, 3) := by decide +kernel
theorem dX_post_83 : decode cX_post 83 = .ok (.iconst 1, 1) := by decide +kernel
theorem dX_post_84 : decode cX_post 84 = .ok (.isub, 1) := by decide +kernel
theorem dX_post_85 : decode cX_post 85 = .ok (.ireturn, 1) := by decide +kernel
abbrev cX_write : ByteArray := prog_1_method_7_code
def yX_write : MethodName := ⟨"PostIndex", "write", "(I)I"⟩
def fX_write (d : Nat) : zF := (cX_write, 4, yX_write, (some .int), d, 0, 0)
theorem meX_write (d : Nat) : zMe (fX_write d) 1 := ⟨(zA2 (i := 10) rfl rfl), (zA1 (i := 1) rfl rfl), by show "PostIndex" ≠ _; decide +kernel, by show "PostIndex" ≠ _; decide +kernel, by show (parseMethodDescriptor "(I)I").map _ = _; decide +kernel⟩
theorem dX_write_0 : decode cX_write 0 = .ok (.iload_n 1, 1) := by decide +kernel
theorem dX_write_1 : decode cX_write 1 = .ok (.invokestatic 79, 3) := by decide +kernel
theorem dX_write_4 : decode cX_write 4 = .ok (.istore_n 2, 1) := by decide +kernel
theorem dX_write_5 : decode cX_write 5 = .ok (.iconst 0, 1) := by decide +kernel
theorem dX_write_6 : decode cX_write 6 = .ok (.istore_n 3, 1) := by decide +kernel
theorem dX_write_7 : decode cX_write 7 = .ok (.iload_n 3, 1) := by decide +kernel
theorem dX_write_8 : decode cX_write 8 = .ok (.iload_n 2, 1) := by decide +kernel
theorem dX_write_9 : decode cX_write 9 = .ok (.if_icmp .ge 28, 3) := by decide +kernel
theorem dX_write_12 : decode cX_write 12 = .ok (.aload_n 0, 1) := by decide +kernel
theorem dX_write_13 : decode cX_write 13 = .ok (.getfield 72, 3) := by decide +kernel
theorem dX_write_16 : decode cX_write 16 = .ok (.aload_n 0, 1) := by decide +kernel
theorem dX_write_17 : decode cX_write 17 = .ok (.getfield 69, 3) := by decide +kernel
theorem dX_write_20 : decode cX_write 20 = .ok (.if_icmp .ge 17, 3) := by decide +kernel
theorem dX_write_23 : decode cX_write 23 = .ok (.aload_n 0, 1) := by decide +kernel
theorem dX_write_24 : decode cX_write 24 = .ok (.aload_n 0, 1) := by decide +kernel
theorem dX_write_25 : decode cX_write 25 = .ok (.getfield 72, 3) := by decide +kernel
theorem dX_write_28 : decode cX_write 28 = .ok (.invokevirtual 83, 3) := by decide +kernel
theorem dX_write_31 : decode cX_write 31 = .ok (.iinc 3 1, 3) := by decide +kernel
theorem dX_write_34 : decode cX_write 34 = .ok (.goto (-27), 3) := by decide +kernel
theorem dX_write_37 : decode cX_write 37 = .ok (.iload_n 3, 1) := by decide +kernel
theorem dX_write_38 : decode cX_write 38 = .ok (.ireturn, 1) := by decide +kernel
abbrev cX_published : ByteArray := prog_1_method_8_code
def yX_published : MethodName := ⟨"PostIndex", "published", "()I"⟩
def fX_published (d : Nat) : zF := (cX_published, 1, yX_published, (some .int), d, 0, 0)
theorem meX_published (d : Nat) : zMe (fX_published d) 0 := ⟨(zA2 (i := 62) rfl rfl), (zA1 (i := 1) rfl rfl), by show "PostIndex" ≠ _; decide +kernel, by show "PostIndex" ≠ _; decide +kernel, by show (parseMethodDescriptor "()I").map _ = _; decide +kernel⟩
theorem dX_published_0 : decode cX_published 0 = .ok (.aload_n 0, 1) := by decide +kernel
theorem dX_published_1 : decode cX_published 1 = .ok (.getfield 72, 3) := by decide +kernel
theorem dX_published_4 : decode cX_published 4 = .ok (.ireturn, 1) := by decide +kernel
abbrev cX_erase : ByteArray := prog_1_method_9_code
def yX_erase : MethodName := ⟨"PostIndex", "erase", "(I)Z"⟩
def fX_erase (d : Nat) : zF := (cX_erase, 2, yX_erase, (some .boolean), d, 0, 0)
theorem meX_erase (d : Nat) : zMe (fX_erase d) 1 := ⟨(zA2 (i := 66) rfl rfl), (zA1 (i := 1) rfl rfl), by show "PostIndex" ≠ _; decide +kernel, by show "PostIndex" ≠ _; decide +kernel, by show (parseMethodDescriptor "(I)Z").map _ = _; decide +kernel⟩
theorem dX_erase_0 : decode cX_erase 0 = .ok (.aload_n 0, 1) := by decide +kernel
theorem dX_erase_1 : decode cX_erase 1 = .ok (.iload_n 1, 1) := by decide +kernel
theorem dX_erase_2 : decode cX_erase 2 = .ok (.invokevirtual 51, 3) := by decide +kernel
theorem dX_erase_5 : decode cX_erase 5 = .ok (.ifCond .ne 5, 3) := by decide +kernel
theorem dX_erase_8 : decode cX_erase 8 = .ok (.iconst 0, 1) := by decide +kernel
theorem dX_erase_9 : decode cX_erase 9 = .ok (.ireturn, 1) := by decide +kernel
theorem dX_erase_10 : decode cX_erase 10 = .ok (.aload_n 0, 1) := by decide +kernel
theorem dX_erase_11 : decode cX_erase 11 = .ok (.getfield 28, 3) := by decide +kernel
theorem dX_erase_14 : decode cX_erase 14 = .ok (.iload_n 1, 1) := by decide +kernel
theorem dX_erase_15 : decode cX_erase 15 = .ok (.aaload, 1) := by decide +kernel
theorem dX_erase_16 : decode cX_erase 16 = .ok (.iconst 1, 1) := by decide +kernel
theorem dX_erase_17 : decode cX_erase 17 = .ok (.putfield 87, 3) := by decide +kernel
theorem flX_87 : zFldN "PostIndex" 87 0 3 4 := ⟨RP, TP, "PostIndex", rfl, by decide, inP, by decide +kernel⟩
theorem dX_erase_20 : decode cX_erase 20 = .ok (.iconst 1, 1) := by decide +kernel
theorem dX_erase_21 : decode cX_erase 21 = .ok (.ireturn, 1) := by decide +kernel
abbrev cX_pack : ByteArray := prog_1_method_10_code
def yX_pack : MethodName := ⟨"PostIndex", "pack", "(I)I"⟩
def fX_pack (d : Nat) : zF := (cX_pack, 5, yX_pack, (some .int), d, 0, 0)
theorem meX_pack (d : Nat) : zMe (fX_pack d) 1 := ⟨(zA2 (i := 70) rfl rfl), (zA1 (i := 1) rfl rfl), by show "PostIndex" ≠ _; decide +kernel, by show "PostIndex" ≠ _; decide +kernel, by show (parseMethodDescriptor "(I)I").map _ = _; decide +kernel⟩
theorem dX_pack_0 : decode cX_pack 0 = .ok (.iload_n 1, 1) := by decide +kernel
theorem dX_pack_1 : decode cX_pack 1 = .ok (.invokestatic 79, 3) := by decide +kernel
theorem dX_pack_4 : decode cX_pack 4 = .ok (.istore_n 2, 1) := by decide +kernel
theorem dX_pack_5 : decode cX_pack 5 = .ok (.iconst 0, 1) := by decide +kernel
theorem dX_pack_6 : decode cX_pack 6 = .ok (.istore_n 3, 1) := by decide +kernel
theorem dX_pack_7 : decode cX_pack 7 = .ok (.iload_n 3, 1) := by decide +kernel
theorem dX_pack_8 : decode cX_pack 8 = .ok (.iload_n 2, 1) := by decide +kernel
theorem dX_pack_9 : decode cX_pack 9 = .ok (.if_icmp .ge 32, 3) := by decide +kernel
theorem dX_pack_12 : decode cX_pack 12 = .ok (.aload_n 0, 1) := by decide +kernel
theorem dX_pack_13 : decode cX_pack 13 = .ok (.invokevirtual 91, 3) := by decide +kernel
theorem dX_pack_16 : decode cX_pack 16 = .ok (.istore 4, 2) := by decide +kernel
theorem dX_pack_18 : decode cX_pack 18 = .ok (.iload 4, 2) := by decide +kernel
theorem dX_pack_20 : decode cX_pack 20 = .ok (.ifCond .ge 5, 3) := by decide +kernel
theorem dX_pack_23 : decode cX_pack 23 = .ok (.iload_n 3, 1) := by decide +kernel
theorem dX_pack_24 : decode cX_pack 24 = .ok (.ireturn, 1) := by decide +kernel
theorem dX_pack_25 : decode cX_pack 25 = .ok (.aload_n 0, 1) := by decide +kernel
theorem dX_pack_26 : decode cX_pack 26 = .ok (.getfield 35, 3) := by decide +kernel
theorem dX_pack_29 : decode cX_pack 29 = .ok (.iload 4, 2) := by decide +kernel
theorem dX_pack_31 : decode cX_pack 31 = .ok (.aaload, 1) := by decide +kernel
theorem dX_pack_32 : decode cX_pack 32 = .ok (.invokevirtual 95, 3) := by decide +kernel
theorem dX_pack_35 : decode cX_pack 35 = .ok (.iinc 3 1, 3) := by decide +kernel
theorem dX_pack_38 : decode cX_pack 38 = .ok (.goto (-31), 3) := by decide +kernel
theorem dX_pack_41 : decode cX_pack 41 = .ok (.iload_n 2, 1) := by decide +kernel
theorem dX_pack_42 : decode cX_pack 42 = .ok (.ireturn, 1) := by decide +kernel
abbrev cX_search : ByteArray := prog_1_method_11_code
def yX_search : MethodName := ⟨"PostIndex", "search", "()I"⟩
def fX_search (d : Nat) : zF := (cX_search, 3, yX_search, (some .int), d, 0, 0)
theorem meX_search (d : Nat) : zMe (fX_search d) 0 := ⟨(zA2 (i := 86) rfl rfl), (zA1 (i := 1) rfl rfl), by show "PostIndex" ≠ _; decide +kernel, by show "PostIndex" ≠ _; decide +kernel, by show (parseMethodDescriptor "()I").map _ = _; decide +kernel⟩
theorem dX_search_0 : decode cX_search 0 = .ok (.aload_n 0, 1) := by decide +kernel
theorem dX_search_1 : decode cX_search 1 = .ok (.getfield 22, 3) := by decide +kernel
theorem dX_search_4 : decode cX_search 4 = .ok (.aload_n 0, 1) := by decide +kernel
theorem dX_search_5 : decode cX_search 5 = .ok (.getfield 12, 3) := by decide +kernel
theorem dX_search_8 : decode cX_search 8 = .ok (.invokevirtual 98, 3) := by decide +kernel
theorem dX_search_11 : decode cX_search 11 = .ok (.ifCond .ne 5, 3) := by decide +kernel
theorem dX_search_14 : decode cX_search 14 = .ok (.iconst (-1), 1) := by decide +kernel
theorem dX_search_15 : decode cX_search 15 = .ok (.ireturn, 1) := by decide +kernel
theorem dX_search_16 : decode cX_search 16 = .ok (.aload_n 0, 1) := by decide +kernel
theorem dX_search_17 : decode cX_search 17 = .ok (.invokevirtual 102, 3) := by decide +kernel
theorem dX_search_20 : decode cX_search 20 = .ok (.istore_n 1, 1) := by decide +kernel
theorem dX_search_21 : decode cX_search 21 = .ok (.iload_n 1, 1) := by decide +kernel
theorem dX_search_22 : decode cX_search 22 = .ok (.ifCond .lt 12, 3) := by decide +kernel
theorem dX_search_25 : decode cX_search 25 = .ok (.aload_n 0, 1) := by decide +kernel
theorem dX_search_26 : decode cX_search 26 = .ok (.getfield 105, 3) := by decide +kernel
theorem flX_105 : zFld "PostIndex" 105 6 8 12 := ⟨RX, TX, rfl, by decide, inX, (zA1 (i := 166) rfl rfl)⟩
theorem dX_search_29 : decode cX_search 29 = .ok (.bipush 24, 2) := by decide +kernel
theorem dX_search_31 : decode cX_search 31 = .ok (.if_icmp .lt 6, 3) := by decide +kernel
theorem dX_search_34 : decode cX_search 34 = .ok (.bipush (-2), 2) := by decide +kernel
theorem dX_search_36 : decode cX_search 36 = .ok (.ireturn, 1) := by decide +kernel
theorem dX_search_37 : decode cX_search 37 = .ok (.aload_n 0, 1) := by decide +kernel
theorem dX_search_38 : decode cX_search 38 = .ok (.getfield 42, 3) := by decide +kernel
theorem dX_search_41 : decode cX_search 41 = .ok (.iload_n 1, 1) := by decide +kernel
theorem dX_search_42 : decode cX_search 42 = .ok (.aaload, 1) := by decide +kernel
theorem dX_search_43 : decode cX_search 43 = .ok (.astore_n 2, 1) := by decide +kernel
theorem dX_search_44 : decode cX_search 44 = .ok (.aload_n 2, 1) := by decide +kernel
theorem dX_search_45 : decode cX_search 45 = .ok (.aload_n 0, 1) := by decide +kernel
theorem dX_search_46 : decode cX_search 46 = .ok (.getfield 22, 3) := by decide +kernel
theorem dX_search_49 : decode cX_search 49 = .ok (.aload_n 2, 1) := by decide +kernel
theorem dX_search_50 : decode cX_search 50 = .ok (.getfield 108, 3) := by decide +kernel
theorem flX_108 : zFldN "PostIndex" 108 3 0 3 := ⟨RH, TH, "PostIndex", rfl, by decide, inH, by decide +kernel⟩
theorem dX_search_53 : decode cX_search 53 = .ok (.invokevirtual 112, 3) := by decide +kernel
theorem dX_search_56 : decode cX_search 56 = .ok (.putfield 108, 3) := by decide +kernel
theorem dX_search_59 : decode cX_search 59 = .ok (.aload_n 2, 1) := by decide +kernel
theorem dX_search_60 : decode cX_search 60 = .ok (.aload_n 0, 1) := by decide +kernel
theorem dX_search_61 : decode cX_search 61 = .ok (.getfield 72, 3) := by decide +kernel
theorem dX_search_64 : decode cX_search 64 = .ok (.putfield 116, 3) := by decide +kernel
theorem flX_116 : zFldN "PostIndex" 116 3 1 3 := ⟨RH, TH, "PostIndex", rfl, by decide, inH, by decide +kernel⟩
theorem dX_search_67 : decode cX_search 67 = .ok (.aload_n 2, 1) := by decide +kernel
theorem dX_search_68 : decode cX_search 68 = .ok (.iconst 1, 1) := by decide +kernel
theorem dX_search_69 : decode cX_search 69 = .ok (.putfield 119, 3) := by decide +kernel
theorem flX_119 : zFldN "PostIndex" 119 3 2 3 := ⟨RH, TH, "PostIndex", rfl, by decide, inH, by decide +kernel⟩
theorem dX_search_72 : decode cX_search 72 = .ok (.aload_n 0, 1) := by decide +kernel
theorem dX_search_73 : decode cX_search 73 = .ok (.dup, 1) := by decide +kernel
theorem dX_search_74 : decode cX_search 74 = .ok (.getfield 105, 3) := by decide +kernel
theorem dX_search_77 : decode cX_search 77 = .ok (.iconst 1, 1) := by decide +kernel
theorem dX_search_78 : decode cX_search 78 = .ok (.iadd, 1) := by decide +kernel
theorem dX_search_79 : decode cX_search 79 = .ok (.putfield 105, 3) := by decide +kernel
theorem dX_search_82 : decode cX_search 82 = .ok (.aload_n 0, 1) := by decide +kernel
theorem dX_search_83 : decode cX_search 83 = .ok (.getfield 12, 3) := by decide +kernel
theorem dX_search_86 : decode cX_search 86 = .ok (.invokevirtual 62, 3) := by decide +kernel
theorem dX_search_89 : decode cX_search 89 = .ok (.iload_n 1, 1) := by decide +kernel
theorem dX_search_90 : decode cX_search 90 = .ok (.ireturn, 1) := by decide +kernel
abbrev cX_next : ByteArray := prog_1_method_12_code
def yX_next : MethodName := ⟨"PostIndex", "next", "(I)I"⟩
def fX_next (d : Nat) : zF := (cX_next, 4, yX_next, (some .int), d, 0, 0)
theorem meX_next (d : Nat) : zMe (fX_next d) 1 := ⟨(zA2 (i := 169) rfl rfl), (zA1 (i := 1) rfl rfl), by show "PostIndex" ≠ _; decide +kernel, by show "PostIndex" ≠ _; decide +kernel, by show (parseMethodDescriptor "(I)I").map _ = _; decide +kernel⟩
theorem dX_next_0 : decode cX_next 0 = .ok (.aload_n 0, 1) := by decide +kernel
theorem dX_next_1 : decode cX_next 1 = .ok (.iload_n 1, 1) := by decide +kernel
theorem dX_next_2 : decode cX_next 2 = .ok (.invokevirtual 122, 3) := by decide +kernel
theorem dX_next_5 : decode cX_next 5 = .ok (.ifCond .ne 5, 3) := by decide +kernel
theorem dX_next_8 : decode cX_next 8 = .ok (.iconst (-1), 1) := by decide +kernel
theorem dX_next_9 : decode cX_next 9 = .ok (.ireturn, 1) := by decide +kernel
theorem dX_next_10 : decode cX_next 10 = .ok (.aload_n 0, 1) := by decide +kernel
theorem dX_next_11 : decode cX_next 11 = .ok (.getfield 42, 3) := by decide +kernel
theorem dX_next_14 : decode cX_next 14 = .ok (.iload_n 1, 1) := by decide +kernel
theorem dX_next_15 : decode cX_next 15 = .ok (.aaload, 1) := by decide +kernel
theorem dX_next_16 : decode cX_next 16 = .ok (.astore_n 2, 1) := by decide +kernel
theorem dX_next_17 : decode cX_next 17 = .ok (.aload_n 2, 1) := by decide +kernel
theorem dX_next_18 : decode cX_next 18 = .ok (.getfield 116, 3) := by decide +kernel
theorem dX_next_21 : decode cX_next 21 = .ok (.iconst 1, 1) := by decide +kernel
theorem dX_next_22 : decode cX_next 22 = .ok (.isub, 1) := by decide +kernel
theorem dX_next_23 : decode cX_next 23 = .ok (.istore_n 3, 1) := by decide +kernel
theorem dX_next_24 : decode cX_next 24 = .ok (.iload_n 3, 1) := by decide +kernel
theorem dX_next_25 : decode cX_next 25 = .ok (.ifCond .lt 28, 3) := by decide +kernel
theorem dX_next_28 : decode cX_next 28 = .ok (.aload_n 0, 1) := by decide +kernel
theorem dX_next_29 : decode cX_next 29 = .ok (.aload_n 2, 1) := by decide +kernel
theorem dX_next_30 : decode cX_next 30 = .ok (.getfield 108, 3) := by decide +kernel
theorem dX_next_33 : decode cX_next 33 = .ok (.iload_n 3, 1) := by decide +kernel
theorem dX_next_34 : decode cX_next 34 = .ok (.invokevirtual 125, 3) := by decide +kernel
theorem dX_next_37 : decode cX_next 37 = .ok (.ifCond .eq 10, 3) := by decide +kernel
theorem dX_next_40 : decode cX_next 40 = .ok (.aload_n 2, 1) := by decide +kernel
theorem dX_next_41 : decode cX_next 41 = .ok (.iload_n 3, 1) := by decide +kernel
theorem dX_next_42 : decode cX_next 42 = .ok (.putfield 116, 3) := by decide +kernel
theorem dX_next_45 : decode cX_next 45 = .ok (.iload_n 3, 1) := by decide +kernel
theorem dX_next_46 : decode cX_next 46 = .ok (.ireturn, 1) := by decide +kernel
theorem dX_next_47 : decode cX_next 47 = .ok (.iinc 3 (-1), 3) := by decide +kernel
theorem dX_next_50 : decode cX_next 50 = .ok (.goto (-26), 3) := by decide +kernel
theorem dX_next_53 : decode cX_next 53 = .ok (.iconst (-1), 1) := by decide +kernel
theorem dX_next_54 : decode cX_next 54 = .ok (.ireturn, 1) := by decide +kernel
abbrev cX_left : ByteArray := prog_1_method_13_code
def yX_left : MethodName := ⟨"PostIndex", "left", "(I)I"⟩
def fX_left (d : Nat) : zF := (cX_left, 5, yX_left, (some .int), d, 0, 0)
theorem meX_left (d : Nat) : zMe (fX_left d) 1 := ⟨(zA2 (i := 197) rfl rfl), (zA1 (i := 1) rfl rfl), by show "PostIndex" ≠ _; decide +kernel, by show "PostIndex" ≠ _; decide +kernel, by show (parseMethodDescriptor "(I)I").map _ = _; decide +kernel⟩
theorem dX_left_0 : decode cX_left 0 = .ok (.aload_n 0, 1) := by decide +kernel
theorem dX_left_1 : decode cX_left 1 = .ok (.iload_n 1, 1) := by decide +kernel
theorem dX_left_2 : decode cX_left 2 = .ok (.invokevirtual 122, 3) := by decide +kernel
theorem dX_left_5 : decode cX_left 5 = .ok (.ifCond .ne 5, 3) := by decide +kernel
theorem dX_left_8 : decode cX_left 8 = .ok (.iconst (-1), 1) := by decide +kernel
theorem dX_left_9 : decode cX_left 9 = .ok (.ireturn, 1) := by decide +kernel
theorem dX_left_10 : decode cX_left 10 = .ok (.aload_n 0, 1) := by decide +kernel
theorem dX_left_11 : decode cX_left 11 = .ok (.getfield 42, 3) := by decide +kernel
theorem dX_left_14 : decode cX_left 14 = .ok (.iload_n 1, 1) := by decide +kernel
theorem dX_left_15 : decode cX_left 15 = .ok (.aaload, 1) := by decide +kernel
theorem dX_left_16 : decode cX_left 16 = .ok (.astore_n 2, 1) := by decide +kernel
theorem dX_left_17 : decode cX_left 17 = .ok (.iconst 0, 1) := by decide +kernel
theorem dX_left_18 : decode cX_left 18 = .ok (.istore_n 3, 1) := by decide +kernel
theorem dX_left_19 : decode cX_left 19 = .ok (.iconst 0, 1) := by decide +kernel
theorem dX_left_20 : decode cX_left 20 = .ok (.istore 4, 2) := by decide +kernel
theorem dX_left_22 : decode cX_left 22 = .ok (.iload 4, 2) := by decide +kernel
theorem dX_left_24 : decode cX_left 24 = .ok (.aload_n 2, 1) := by decide +kernel
theorem dX_left_25 : decode cX_left 25 = .ok (.getfield 116, 3) := by decide +kernel
theorem dX_left_28 : decode cX_left 28 = .ok (.if_icmp .ge 25, 3) := by decide +kernel
theorem dX_left_31 : decode cX_left 31 = .ok (.aload_n 0, 1) := by decide +kernel
theorem dX_left_32 : decode cX_left 32 = .ok (.aload_n 2, 1) := by decide +kernel
theorem dX_left_33 : decode cX_left 33 = .ok (.getfield 108, 3) := by decide +kernel
theorem dX_left_36 : decode cX_left 36 = .ok (.iload 4, 2) := by decide +kernel
theorem dX_left_38 : decode cX_left 38 = .ok (.invokevirtual 125, 3) := by decide +kernel
theorem dX_left_41 : decode cX_left 41 = .ok (.ifCond .eq 6, 3) := by decide +kernel
theorem dX_left_44 : decode cX_left 44 = .ok (.iinc 3 1, 3) := by decide +kernel
theorem dX_left_47 : decode cX_left 47 = .ok (.iinc 4 1, 3) := by decide +kernel
theorem dX_left_50 : decode cX_left 50 = .ok (.goto (-28), 3) := by decide +kernel
theorem dX_left_53 : decode cX_left 53 = .ok (.iload_n 3, 1) := by decide +kernel
theorem dX_left_54 : decode cX_left 54 = .ok (.ireturn, 1) := by decide +kernel
abbrev cX_close : ByteArray := prog_1_method_14_code
def yX_close : MethodName := ⟨"PostIndex", "close", "(I)Z"⟩
def fX_close (d : Nat) : zF := (cX_close, 2, yX_close, (some .boolean), d, 0, 0)
theorem meX_close (d : Nat) : zMe (fX_close d) 1 := ⟨(zA2 (i := 201) rfl rfl), (zA1 (i := 1) rfl rfl), by show "PostIndex" ≠ _; decide +kernel, by show "PostIndex" ≠ _; decide +kernel, by show (parseMethodDescriptor "(I)Z").map _ = _; decide +kernel⟩
theorem dX_close_0 : decode cX_close 0 = .ok (.aload_n 0, 1) := by decide +kernel
theorem dX_close_1 : decode cX_close 1 = .ok (.iload_n 1, 1) := by decide +kernel
theorem dX_close_2 : decode cX_close 2 = .ok (.invokevirtual 122, 3) := by decide +kernel
theorem dX_close_5 : decode cX_close 5 = .ok (.ifCond .ne 5, 3) := by decide +kernel
theorem dX_close_8 : decode cX_close 8 = .ok (.iconst 0, 1) := by decide +kernel
theorem dX_close_9 : decode cX_close 9 = .ok (.ireturn, 1) := by decide +kernel
theorem dX_close_10 : decode cX_close 10 = .ok (.aload_n 0, 1) := by decide +kernel
theorem dX_close_11 : decode cX_close 11 = .ok (.getfield 42, 3) := by decide +kernel
theorem dX_close_14 : decode cX_close 14 = .ok (.iload_n 1, 1) := by decide +kernel
theorem dX_close_15 : decode cX_close 15 = .ok (.aaload, 1) := by decide +kernel
theorem dX_close_16 : decode cX_close 16 = .ok (.iconst 0, 1) := by decide +kernel
theorem dX_close_17 : decode cX_close 17 = .ok (.putfield 119, 3) := by decide +kernel
theorem dX_close_20 : decode cX_close 20 = .ok (.iconst 1, 1) := by decide +kernel
theorem dX_close_21 : decode cX_close 21 = .ok (.ireturn, 1) := by decide +kernel
abbrev cX_form : ByteArray := prog_1_method_15_code
def yX_form : MethodName := ⟨"PostIndex", "form", "(I)I"⟩
def fX_form (d : Nat) : zF := (cX_form, 2, yX_form, (some .int), d, 0, 0)
theorem meX_form (d : Nat) : zMe (fX_form d) 1 := ⟨(zA2 (i := 205) rfl rfl), (zA1 (i := 1) rfl rfl), by show "PostIndex" ≠ _; decide +kernel, by show "PostIndex" ≠ _; decide +kernel, by show (parseMethodDescriptor "(I)I").map _ = _; decide +kernel⟩
theorem dX_form_0 : decode cX_form 0 = .ok (.iload_n 1, 1) := by decide +kernel
theorem dX_form_1 : decode cX_form 1 = .ok (.ifCond .lt 11, 3) := by decide +kernel
theorem dX_form_4 : decode cX_form 4 = .ok (.iload_n 1, 1) := by decide +kernel
theorem dX_form_5 : decode cX_form 5 = .ok (.aload_n 0, 1) := by decide +kernel
theorem dX_form_6 : decode cX_form 6 = .ok (.getfield 129, 3) := by decide +kernel
theorem flX_129 : zFld "PostIndex" 129 6 7 12 := ⟨RX, TX, rfl, by decide, inX, (zA1 (i := 165) rfl rfl)⟩
theorem dX_form_9 : decode cX_form 9 = .ok (.if_icmp .lt 5, 3) := by decide +kernel
theorem dX_form_12 : decode cX_form 12 = .ok (.iconst (-1), 1) := by decide +kernel
theorem dX_form_13 : decode cX_form 13 = .ok (.ireturn, 1) := by decide +kernel
theorem dX_form_14 : decode cX_form 14 = .ok (.aload_n 0, 1) := by decide +kernel
theorem dX_form_15 : decode cX_form 15 = .ok (.iload_n 1, 1) := by decide +kernel
theorem dX_form_16 : decode cX_form 16 = .ok (.invokevirtual 132, 3) := by decide +kernel
theorem dX_form_19 : decode cX_form 19 = .ok (.ifCond .ne 5, 3) := by decide +kernel
theorem dX_form_22 : decode cX_form 22 = .ok (.iconst 4, 1) := by decide +kernel
theorem dX_form_23 : decode cX_form 23 = .ok (.ireturn, 1) := by decide +kernel
theorem dX_form_24 : decode cX_form 24 = .ok (.aload_n 0, 1) := by decide +kernel
theorem dX_form_25 : decode cX_form 25 = .ok (.iload_n 1, 1) := by decide +kernel
theorem dX_form_26 : decode cX_form 26 = .ok (.invokevirtual 135, 3) := by decide +kernel
theorem dX_form_29 : decode cX_form 29 = .ok (.ifCond .ne 5, 3) := by decide +kernel
theorem dX_form_32 : decode cX_form 32 = .ok (.iconst 0, 1) := by decide +kernel
theorem dX_form_33 : decode cX_form 33 = .ok (.ireturn, 1) := by decide +kernel
theorem dX_form_34 : decode cX_form 34 = .ok (.aload_n 0, 1) := by decide +kernel
theorem dX_form_35 : decode cX_form 35 = .ok (.getfield 35, 3) := by decide +kernel
theorem dX_form_38 : decode cX_form 38 = .ok (.iload_n 1, 1) := by decide +kernel
theorem dX_form_39 : decode cX_form 39 = .ok (.aaload, 1) := by decide +kernel
theorem dX_form_40 : decode cX_form 40 = .ok (.getfield 138, 3) := by decide +kernel
theorem flX_138 : zFldN "PostIndex" 138 4 4 5 := ⟨RS, TS, "PostIndex", rfl, by decide, inS, by decide +kernel⟩
theorem dX_form_43 : decode cX_form 43 = .ok (.ifCond .eq 5, 3) := by decide +kernel
theorem dX_form_46 : decode cX_form 46 = .ok (.iconst 3, 1) := by decide +kernel
theorem dX_form_47 : decode cX_form 47 = .ok (.ireturn, 1) := by decide +kernel
theorem dX_form_48 : decode cX_form 48 = .ok (.aload_n 0, 1) := by decide +kernel
theorem dX_form_49 : decode cX_form 49 = .ok (.getfield 35, 3) := by decide +kernel
theorem dX_form_52 : decode cX_form 52 = .ok (.iload_n 1, 1) := by decide +kernel
theorem dX_form_53 : decode cX_form 53 = .ok (.aaload, 1) := by decide +kernel
theorem dX_form_54 : decode cX_form 54 = .ok (.getfield 141, 3) := by decide +kernel
theorem flX_141 : zFldN "PostIndex" 141 4 3 5 := ⟨RS, TS, "PostIndex", rfl, by decide, inS, by decide +kernel⟩
theorem dX_form_57 : decode cX_form 57 = .ok (.ifCond .le 7, 3) := by decide +kernel
theorem dX_form_60 : decode cX_form 60 = .ok (.iconst 2, 1) := by decide +kernel
theorem dX_form_61 : decode cX_form 61 = .ok (.goto 4, 3) := by decide +kernel
theorem dX_form_64 : decode cX_form 64 = .ok (.iconst 1, 1) := by decide +kernel
theorem dX_form_65 : decode cX_form 65 = .ok (.ireturn, 1) := by decide +kernel
abbrev cX_size : ByteArray := prog_1_method_16_code
def yX_size : MethodName := ⟨"PostIndex", "size", "(I)I"⟩
def fX_size (d : Nat) : zF := (cX_size, 2, yX_size, (some .int), d, 0, 0)
theorem meX_size (d : Nat) : zMe (fX_size d) 1 := ⟨(zA2 (i := 209) rfl rfl), (zA1 (i := 1) rfl rfl), by show "PostIndex" ≠ _; decide +kernel, by show "PostIndex" ≠ _; decide +kernel, by show (parseMethodDescriptor "(I)I").map _ = _; decide +kernel⟩
theorem dX_size_0 : decode cX_size 0 = .ok (.aload_n 0, 1) := by decide +kernel
theorem dX_size_1 : decode cX_size 1 = .ok (.iload_n 1, 1) := by decide +kernel
theorem dX_size_2 : decode cX_size 2 = .ok (.invokevirtual 132, 3) := by decide +kernel
theorem dX_size_5 : decode cX_size 5 = .ok (.ifCond .eq 15, 3) := by decide +kernel
theorem dX_size_8 : decode cX_size 8 = .ok (.aload_n 0, 1) := by decide +kernel
theorem dX_size_9 : decode cX_size 9 = .ok (.getfield 35, 3) := by decide +kernel
theorem dX_size_12 : decode cX_size 12 = .ok (.iload_n 1, 1) := by decide +kernel
theorem dX_size_13 : decode cX_size 13 = .ok (.aaload, 1) := by decide +kernel
theorem dX_size_14 : decode cX_size 14 = .ok (.invokevirtual 144, 3) := by decide +kernel
theorem dX_size_17 : decode cX_size 17 = .ok (.goto 4, 3) := by decide +kernel
theorem dX_size_20 : decode cX_size 20 = .ok (.iconst (-1), 1) := by decide +kernel
theorem dX_size_21 : decode cX_size 21 = .ok (.ireturn, 1) := by decide +kernel
abbrev cX_terms : ByteArray := prog_1_method_17_code
def yX_terms : MethodName := ⟨"PostIndex", "terms", "(I)I"⟩
def fX_terms (d : Nat) : zF := (cX_terms, 2, yX_terms, (some .int), d, 0, 0)
theorem meX_terms (d : Nat) : zMe (fX_terms d) 1 := ⟨(zA2 (i := 229) rfl rfl), (zA1 (i := 1) rfl rfl), by show "PostIndex" ≠ _; decide +kernel, by show "PostIndex" ≠ _; decide +kernel, by show (parseMethodDescriptor "(I)I").map _ = _; decide +kernel⟩
theorem dX_terms_0 : decode cX_terms 0 = .ok (.aload_n 0, 1) := by decide +kernel
theorem dX_terms_1 : decode cX_terms 1 = .ok (.iload_n 1, 1) := by decide +kernel
theorem dX_terms_2 : decode cX_terms 2 = .ok (.invokevirtual 132, 3) := by decide +kernel
theorem dX_terms_5 : decode cX_terms 5 = .ok (.ifCond .eq 15, 3) := by decide +kernel
theorem dX_terms_8 : decode cX_terms 8 = .ok (.aload_n 0, 1) := by decide +kernel
theorem dX_terms_9 : decode cX_terms 9 = .ok (.getfield 35, 3) := by decide +kernel
theorem dX_terms_12 : decode cX_terms 12 = .ok (.iload_n 1, 1) := by decide +kernel
theorem dX_terms_13 : decode cX_terms 13 = .ok (.aaload, 1) := by decide +kernel
theorem dX_terms_14 : decode cX_terms 14 = .ok (.getfield 147, 3) := by decide +kernel
theorem flX_147 : zFldN "PostIndex" 147 4 2 5 := ⟨RS, TS, "PostIndex", rfl, by decide, inS, by decide +kernel⟩
theorem dX_terms_17 : decode cX_terms 17 = .ok (.goto 4, 3) := by decide +kernel
theorem dX_terms_20 : decode cX_terms 20 = .ok (.iconst (-1), 1) := by decide +kernel
theorem dX_terms_21 : decode cX_terms 21 = .ok (.ireturn, 1) := by decide +kernel
abbrev cX_postings : ByteArray := prog_1_method_18_code
def yX_postings : MethodName := ⟨"PostIndex", "postings", "(I)I"⟩
def fX_postings (d : Nat) : zF := (cX_postings, 2, yX_postings, (some .int), d, 0, 0)
theorem meX_postings (d : Nat) : zMe (fX_postings d) 1 := ⟨(zA2 (i := 233) rfl rfl), (zA1 (i := 1) rfl rfl), by show "PostIndex" ≠ _; decide +kernel, by show "PostIndex" ≠ _; decide +kernel, by show (parseMethodDescriptor "(I)I").map _ = _; decide +kernel⟩
theorem dX_postings_0 : decode cX_postings 0 = .ok (.aload_n 0, 1) := by decide +kernel
theorem dX_postings_1 : decode cX_postings 1 = .ok (.iload_n 1, 1) := by decide +kernel
theorem dX_postings_2 : decode cX_postings 2 = .ok (.invokevirtual 132, 3) := by decide +kernel
theorem dX_postings_5 : decode cX_postings 5 = .ok (.ifCond .eq 15, 3) := by decide +kernel
theorem dX_postings_8 : decode cX_postings 8 = .ok (.aload_n 0, 1) := by decide +kernel
theorem dX_postings_9 : decode cX_postings 9 = .ok (.getfield 35, 3) := by decide +kernel
theorem dX_postings_12 : decode cX_postings 12 = .ok (.iload_n 1, 1) := by decide +kernel
theorem dX_postings_13 : decode cX_postings 13 = .ok (.aaload, 1) := by decide +kernel
theorem dX_postings_14 : decode cX_postings 14 = .ok (.invokevirtual 150, 3) := by decide +kernel
theorem dX_postings_17 : decode cX_postings 17 = .ok (.goto 4, 3) := by decide +kernel
theorem dX_postings_20 : decode cX_postings 20 = .ok (.iconst (-1), 1) := by decide +kernel
theorem dX_postings_21 : decode cX_postings 21 = .ok (.ireturn, 1) := by decide +kernel
abbrev cX_unitsAsked : ByteArray := prog_1_method_19_code
def yX_unitsAsked : MethodName := ⟨"PostIndex", "unitsAsked", "(I)I"⟩
def fX_unitsAsked (d : Nat) : zF := (cX_unitsAsked, 1, yX_unitsAsked, (some .int), d, 0, 0)
theorem meX_unitsAsked (d : Nat) : zMe (fX_unitsAsked d) 1 := ⟨(zA2 (i := 13) rfl rfl), (zA1 (i := 1) rfl rfl), by show "PostIndex" ≠ _; decide +kernel, by show "PostIndex" ≠ _; decide +kernel, by show (parseMethodDescriptor "(I)I").map _ = _; decide +kernel⟩
theorem dX_unitsAsked_0 : decode cX_unitsAsked 0 = .ok (.iload_n 0, 1) := by decide +kernel
theorem dX_unitsAsked_1 : decode cX_unitsAsked 1 = .ok (.iconst 1, 1) := by decide +kernel
theorem dX_unitsAsked_2 : decode cX_unitsAsked 2 = .ok (.if_icmp .lt 13, 3) := by decide +kernel
theorem dX_unitsAsked_5 : decode cX_unitsAsked 5 = .ok (.iload_n 0, 1) := by decide +kernel
theorem dX_unitsAsked_6 : decode cX_unitsAsked 6 = .ok (.bipush 6, 2) := by decide +kernel
theorem dX_unitsAsked_8 : decode cX_unitsAsked 8 = .ok (.if_icmp .gt 7, 3) := by decide +kernel
theorem dX_unitsAsked_11 : decode cX_unitsAsked 11 = .ok (.iload_n 0, 1) := by decide +kernel
theorem dX_unitsAsked_12 : decode cX_unitsAsked 12 = .ok (.goto 4, 3) := by decide +kernel
theorem dX_unitsAsked_15 : decode cX_unitsAsked 15 = .ok (.iconst 0, 1) := by decide +kernel
theorem dX_unitsAsked_16 : decode cX_unitsAsked 16 = .ok (.ireturn, 1) := by decide +kernel
abbrev cX_isLive : ByteArray := prog_1_method_20_code
def yX_isLive : MethodName := ⟨"PostIndex", "isLive", "(I)Z"⟩
def fX_isLive (d : Nat) : zF := (cX_isLive, 2, yX_isLive, (some .boolean), d, 0, 0)
theorem meX_isLive (d : Nat) : zMe (fX_isLive d) 1 := ⟨(zA1 (i := 214) rfl rfl), (zA1 (i := 1) rfl rfl), by show "PostIndex" ≠ _; decide +kernel, by show "PostIndex" ≠ _; decide +kernel, by show (parseMethodDescriptor "(I)Z").map _ = _; decide +kernel⟩
theorem dX_isLive_0 : decode cX_isLive 0 = .ok (.iload_n 1, 1) := by decide +kernel
theorem dX_isLive_1 : decode cX_isLive 1 = .ok (.ifCond .lt 25, 3) := by decide +kernel
theorem dX_isLive_4 : decode cX_isLive 4 = .ok (.iload_n 1, 1) := by decide +kernel
theorem dX_isLive_5 : decode cX_isLive 5 = .ok (.aload_n 0, 1) := by decide +kernel
theorem dX_isLive_6 : decode cX_isLive 6 = .ok (.getfield 129, 3) := by decide +kernel
theorem dX_isLive_9 : decode cX_isLive 9 = .ok (.if_icmp .ge 17, 3) := by decide +kernel
theorem dX_isLive_12 : decode cX_isLive 12 = .ok (.aload_n 0, 1) := by decide +kernel
theorem dX_isLive_13 : decode cX_isLive 13 = .ok (.getfield 129, 3) := by decide +kernel
theorem dX_isLive_16 : decode cX_isLive 16 = .ok (.iload_n 1, 1) := by decide +kernel
theorem dX_isLive_17 : decode cX_isLive 17 = .ok (.isub, 1) := by decide +kernel
theorem dX_isLive_18 : decode cX_isLive 18 = .ok (.iconst 3, 1) := by decide +kernel
theorem dX_isLive_19 : decode cX_isLive 19 = .ok (.if_icmp .gt 7, 3) := by decide +kernel
theorem dX_isLive_22 : decode cX_isLive 22 = .ok (.iconst 1, 1) := by decide +kernel
theorem dX_isLive_23 : decode cX_isLive 23 = .ok (.goto 4, 3) := by decide +kernel
theorem dX_isLive_26 : decode cX_isLive 26 = .ok (.iconst 0, 1) := by decide +kernel
theorem dX_isLive_27 : decode cX_isLive 27 = .ok (.ireturn, 1) := by decide +kernel
abbrev cX_isFull : ByteArray := prog_1_method_21_code
def yX_isFull : MethodName := ⟨"PostIndex", "isFull", "(I)Z"⟩
def fX_isFull (d : Nat) : zF := (cX_isFull, 2, yX_isFull, (some .boolean), d, 0, 0)
theorem meX_isFull (d : Nat) : zMe (fX_isFull d) 1 := ⟨(zA2 (i := 78) rfl rfl), (zA1 (i := 1) rfl rfl), by show "PostIndex" ≠ _; decide +kernel, by show "PostIndex" ≠ _; decide +kernel, by show (parseMethodDescriptor "(I)Z").map _ = _; decide +kernel⟩
theorem dX_isFull_0 : decode cX_isFull 0 = .ok (.aload_n 0, 1) := by decide +kernel
theorem dX_isFull_1 : decode cX_isFull 1 = .ok (.getfield 72, 3) := by decide +kernel
theorem dX_isFull_4 : decode cX_isFull 4 = .ok (.iconst 4, 1) := by decide +kernel
theorem dX_isFull_5 : decode cX_isFull 5 = .ok (.iload_n 1, 1) := by decide +kernel
theorem dX_isFull_6 : decode cX_isFull 6 = .ok (.iconst 1, 1) := by decide +kernel
theorem dX_isFull_7 : decode cX_isFull 7 = .ok (.iadd, 1) := by decide +kernel
theorem dX_isFull_8 : decode cX_isFull 8 = .ok (.imul, 1) := by decide +kernel
theorem dX_isFull_9 : decode cX_isFull 9 = .ok (.if_icmp .lt 7, 3) := by decide +kernel
theorem dX_isFull_12 : decode cX_isFull 12 = .ok (.iconst 1, 1) := by decide +kernel
theorem dX_isFull_13 : decode cX_isFull 13 = .ok (.goto 4, 3) := by decide +kernel
theorem dX_isFull_16 : decode cX_isFull 16 = .ok (.iconst 0, 1) := by decide +kernel
theorem dX_isFull_17 : decode cX_isFull 17 = .ok (.ireturn, 1) := by decide +kernel
abbrev cX_stands : ByteArray := prog_1_method_22_code
def yX_stands : MethodName := ⟨"PostIndex", "stands", "(I)Z"⟩
def fX_stands (d : Nat) : zF := (cX_stands, 2, yX_stands, (some .boolean), d, 0, 0)
theorem meX_stands (d : Nat) : zMe (fX_stands d) 1 := ⟨(zA1 (i := 210) rfl rfl), (zA1 (i := 1) rfl rfl), by show "PostIndex" ≠ _; decide +kernel, by show "PostIndex" ≠ _; decide +kernel, by show (parseMethodDescriptor "(I)Z").map _ = _; decide +kernel⟩
theorem dX_stands_0 : decode cX_stands 0 = .ok (.iload_n 1, 1) := by decide +kernel
theorem dX_stands_1 : decode cX_stands 1 = .ok (.ifCond .lt 37, 3) := by decide +kernel
theorem dX_stands_4 : decode cX_stands 4 = .ok (.iload_n 1, 1) := by decide +kernel
theorem dX_stands_5 : decode cX_stands 5 = .ok (.aload_n 0, 1) := by decide +kernel
theorem dX_stands_6 : decode cX_stands 6 = .ok (.getfield 72, 3) := by decide +kernel
theorem dX_stands_9 : decode cX_stands 9 = .ok (.if_icmp .ge 29, 3) := by decide +kernel
theorem dX_stands_12 : decode cX_stands 12 = .ok (.aload_n 0, 1) := by decide +kernel
theorem dX_stands_13 : decode cX_stands 13 = .ok (.iload_n 1, 1) := by decide +kernel
theorem dX_stands_14 : decode cX_stands 14 = .ok (.iconst 4, 1) := by decide +kernel
theorem dX_stands_15 : decode cX_stands 15 = .ok (.idiv, 1) := by decide +kernel
theorem dX_stands_16 : decode cX_stands 16 = .ok (.invokevirtual 132, 3) := by decide +kernel
theorem dX_stands_19 : decode cX_stands 19 = .ok (.ifCond .eq 19, 3) := by decide +kernel
theorem dX_stands_22 : decode cX_stands 22 = .ok (.aload_n 0, 1) := by decide +kernel
theorem dX_stands_23 : decode cX_stands 23 = .ok (.getfield 28, 3) := by decide +kernel
theorem dX_stands_26 : decode cX_stands 26 = .ok (.iload_n 1, 1) := by decide +kernel
theorem dX_stands_27 : decode cX_stands 27 = .ok (.aaload, 1) := by decide +kernel
theorem dX_stands_28 : decode cX_stands 28 = .ok (.getfield 87, 3) := by decide +kernel
theorem dX_stands_31 : decode cX_stands 31 = .ok (.ifCond .ne 7, 3) := by decide +kernel
theorem dX_stands_34 : decode cX_stands 34 = .ok (.iconst 1, 1) := by decide +kernel
theorem dX_stands_35 : decode cX_stands 35 = .ok (.goto 4, 3) := by decide +kernel
theorem dX_stands_38 : decode cX_stands 38 = .ok (.iconst 0, 1) := by decide +kernel
theorem dX_stands_39 : decode cX_stands 39 = .ok (.ireturn, 1) := by decide +kernel
abbrev cX_isOpen : ByteArray := prog_1_method_23_code
def yX_isOpen : MethodName := ⟨"PostIndex", "isOpen", "(I)Z"⟩
def fX_isOpen (d : Nat) : zF := (cX_isOpen, 2, yX_isOpen, (some .boolean), d, 0, 0)
theorem meX_isOpen (d : Nat) : zMe (fX_isOpen d) 1 := ⟨(zA2 (i := 173) rfl rfl), (zA1 (i := 1) rfl rfl), by show "PostIndex" ≠ _; decide +kernel, by show "PostIndex" ≠ _; decide +kernel, by show (parseMethodDescriptor "(I)Z").map _ = _; decide +kernel⟩
theorem dX_isOpen_0 : decode cX_isOpen 0 = .ok (.iload_n 1, 1) := by decide +kernel
theorem dX_isOpen_1 : decode cX_isOpen 1 = .ok (.ifCond .lt 24, 3) := by decide +kernel
theorem dX_isOpen_4 : decode cX_isOpen 4 = .ok (.iload_n 1, 1) := by decide +kernel
theorem dX_isOpen_5 : decode cX_isOpen 5 = .ok (.iconst 3, 1) := by decide +kernel
theorem dX_isOpen_6 : decode cX_isOpen 6 = .ok (.if_icmp .ge 19, 3) := by decide +kernel
theorem dX_isOpen_9 : decode cX_isOpen 9 = .ok (.aload_n 0, 1) := by decide +kernel
theorem dX_isOpen_10 : decode cX_isOpen 10 = .ok (.getfield 42, 3) := by decide +kernel
theorem dX_isOpen_13 : decode cX_isOpen 13 = .ok (.iload_n 1, 1) := by decide +kernel
theorem dX_isOpen_14 : decode cX_isOpen 14 = .ok (.aaload, 1) := by decide +kernel
theorem dX_isOpen_15 : decode cX_isOpen 15 = .ok (.getfield 119, 3) := by decide +kernel
theorem dX_isOpen_18 : decode cX_isOpen 18 = .ok (.ifCond .eq 7, 3) := by decide +kernel
theorem dX_isOpen_21 : decode cX_isOpen 21 = .ok (.iconst 1, 1) := by decide +kernel
theorem dX_isOpen_22 : decode cX_isOpen 22 = .ok (.goto 4, 3) := by decide +kernel
theorem dX_isOpen_25 : decode cX_isOpen 25 = .ok (.iconst 0, 1) := by decide +kernel
theorem dX_isOpen_26 : decode cX_isOpen 26 = .ok (.ireturn, 1) := by decide +kernel
abbrev cX_freePlace : ByteArray := prog_1_method_24_code
def yX_freePlace : MethodName := ⟨"PostIndex", "freePlace", "()I"⟩
def fX_freePlace (d : Nat) : zF := (cX_freePlace, 2, yX_freePlace, (some .int), d, 0, 0)
theorem meX_freePlace (d : Nat) : zMe (fX_freePlace d) 0 := ⟨(zA2 (i := 161) rfl rfl), (zA1 (i := 1) rfl rfl), by show "PostIndex" ≠ _; decide +kernel, by show "PostIndex" ≠ _; decide +kernel, by show (parseMethodDescriptor "()I").map _ = _; decide +kernel⟩
theorem dX_freePlace_0 : decode cX_freePlace 0 = .ok (.iconst 0, 1) := by decide +kernel
theorem dX_freePlace_1 : decode cX_freePlace 1 = .ok (.istore_n 1, 1) := by decide +kernel
theorem dX_freePlace_2 : decode cX_freePlace 2 = .ok (.iload_n 1, 1) := by decide +kernel
theorem dX_freePlace_3 : decode cX_freePlace 3 = .ok (.iconst 3, 1) := by decide +kernel
theorem dX_freePlace_4 : decode cX_freePlace 4 = .ok (.if_icmp .ge 23, 3) := by decide +kernel
theorem dX_freePlace_7 : decode cX_freePlace 7 = .ok (.aload_n 0, 1) := by decide +kernel
theorem dX_freePlace_8 : decode cX_freePlace 8 = .ok (.getfield 42, 3) := by decide +kernel
theorem dX_freePlace_11 : decode cX_freePlace 11 = .ok (.iload_n 1, 1) := by decide +kernel
theorem dX_freePlace_12 : decode cX_freePlace 12 = .ok (.aaload, 1) := by decide +kernel
theorem dX_freePlace_13 : decode cX_freePlace 13 = .ok (.getfield 119, 3) := by decide +kernel
theorem dX_freePlace_16 : decode cX_freePlace 16 = .ok (.ifCond .ne 5, 3) := by decide +kernel
theorem dX_freePlace_19 : decode cX_freePlace 19 = .ok (.iload_n 1, 1) := by decide +kernel
theorem dX_freePlace_20 : decode cX_freePlace 20 = .ok (.ireturn, 1) := by decide +kernel
theorem dX_freePlace_21 : decode cX_freePlace 21 = .ok (.iinc 1 1, 3) := by decide +kernel
theorem dX_freePlace_24 : decode cX_freePlace 24 = .ok (.goto (-22), 3) := by decide +kernel
theorem dX_freePlace_27 : decode cX_freePlace 27 = .ok (.iconst (-1), 1) := by decide +kernel
theorem dX_freePlace_28 : decode cX_freePlace 28 = .ok (.ireturn, 1) := by decide +kernel
abbrev cX_writeUnit : ByteArray := prog_1_method_25_code
def yX_writeUnit : MethodName := ⟨"PostIndex", "writeUnit", "(I)V"⟩
def fX_writeUnit (d : Nat) : zF := (cX_writeUnit, 5, yX_writeUnit, none, d, 0, 0)
theorem meX_writeUnit (d : Nat) : zMe (fX_writeUnit d) 1 := ⟨(zA2 (i := 17) rfl rfl), (zA1 (i := 1) rfl rfl), by show "PostIndex" ≠ _; decide +kernel, by show "PostIndex" ≠ _; decide +kernel, by show (parseMethodDescriptor "(I)V").map _ = _; decide +kernel⟩
theorem dX_writeUnit_0 : decode cX_writeUnit 0 = .ok (.iload_n 1, 1) := by decide +kernel
theorem dX_writeUnit_1 : decode cX_writeUnit 1 = .ok (.iconst 4, 1) := by decide +kernel
theorem dX_writeUnit_2 : decode cX_writeUnit 2 = .ok (.idiv, 1) := by decide +kernel
theorem dX_writeUnit_3 : decode cX_writeUnit 3 = .ok (.istore_n 2, 1) := by decide +kernel
theorem dX_writeUnit_4 : decode cX_writeUnit 4 = .ok (.aload_n 0, 1) := by decide +kernel
theorem dX_writeUnit_5 : decode cX_writeUnit 5 = .ok (.iload_n 2, 1) := by decide +kernel
theorem dX_writeUnit_6 : decode cX_writeUnit 6 = .ok (.iconst 1, 1) := by decide +kernel
theorem dX_writeUnit_7 : decode cX_writeUnit 7 = .ok (.iadd, 1) := by decide +kernel
theorem dX_writeUnit_8 : decode cX_writeUnit 8 = .ok (.putfield 129, 3) := by decide +kernel
theorem dX_writeUnit_11 : decode cX_writeUnit 11 = .ok (.aload_n 0, 1) := by decide +kernel
theorem dX_writeUnit_12 : decode cX_writeUnit 12 = .ok (.getfield 28, 3) := by decide +kernel
theorem dX_writeUnit_15 : decode cX_writeUnit 15 = .ok (.iload_n 1, 1) := by decide +kernel
theorem dX_writeUnit_16 : decode cX_writeUnit 16 = .ok (.aaload, 1) := by decide +kernel
theorem dX_writeUnit_17 : decode cX_writeUnit 17 = .ok (.getfield 55, 3) := by decide +kernel
theorem dX_writeUnit_20 : decode cX_writeUnit 20 = .ok (.astore_n 3, 1) := by decide +kernel
theorem dX_writeUnit_21 : decode cX_writeUnit 21 = .ok (.aload_n 3, 1) := by decide +kernel
theorem dX_writeUnit_22 : decode cX_writeUnit 22 = .ok (.aload_n 0, 1) := by decide +kernel
theorem dX_writeUnit_23 : decode cX_writeUnit 23 = .ok (.getfield 153, 3) := by decide +kernel
theorem flX_153 : zFld "PostIndex" 153 6 10 12 := ⟨RX, TX, rfl, by decide, inX, (zA1 (i := 168) rfl rfl)⟩
theorem dX_writeUnit_26 : decode cX_writeUnit 26 = .ok (.invokevirtual 156, 3) := by decide +kernel
theorem dX_writeUnit_29 : decode cX_writeUnit 29 = .ok (.istore 4, 2) := by decide +kernel
theorem dX_writeUnit_31 : decode cX_writeUnit 31 = .ok (.iload 4, 2) := by decide +kernel
theorem dX_writeUnit_33 : decode cX_writeUnit 33 = .ok (.aload_n 3, 1) := by decide +kernel
theorem dX_writeUnit_34 : decode cX_writeUnit 34 = .ok (.getfield 65, 3) := by decide +kernel
theorem dX_writeUnit_37 : decode cX_writeUnit 37 = .ok (.if_icmp .lt 24, 3) := by decide +kernel
theorem dX_writeUnit_40 : decode cX_writeUnit 40 = .ok (.aload_n 0, 1) := by decide +kernel
theorem dX_writeUnit_41 : decode cX_writeUnit 41 = .ok (.dup, 1) := by decide +kernel
theorem dX_writeUnit_42 : decode cX_writeUnit 42 = .ok (.getfield 72, 3) := by decide +kernel
theorem dX_writeUnit_45 : decode cX_writeUnit 45 = .ok (.iconst 1, 1) := by decide +kernel
theorem dX_writeUnit_46 : decode cX_writeUnit 46 = .ok (.iadd, 1) := by decide +kernel
theorem dX_writeUnit_47 : decode cX_writeUnit 47 = .ok (.putfield 72, 3) := by decide +kernel
theorem dX_writeUnit_50 : decode cX_writeUnit 50 = .ok (.aload_n 0, 1) := by decide +kernel
theorem dX_writeUnit_51 : decode cX_writeUnit 51 = .ok (.iconst 0, 1) := by decide +kernel
theorem dX_writeUnit_52 : decode cX_writeUnit 52 = .ok (.putfield 153, 3) := by decide +kernel
theorem dX_writeUnit_55 : decode cX_writeUnit 55 = .ok (.aload_n 0, 1) := by decide +kernel
theorem dX_writeUnit_56 : decode cX_writeUnit 56 = .ok (.iconst 0, 1) := by decide +kernel
theorem dX_writeUnit_57 : decode cX_writeUnit 57 = .ok (.putfield 159, 3) := by decide +kernel
theorem flX_159 : zFld "PostIndex" 159 6 11 12 := ⟨RX, TX, rfl, by decide, inX, (zA1 (i := 169) rfl rfl)⟩
theorem dX_writeUnit_60 : decode cX_writeUnit 60 = .ok (.return_, 1) := by decide +kernel
theorem dX_writeUnit_61 : decode cX_writeUnit 61 = .ok (.aload_n 0, 1) := by decide +kernel
theorem dX_writeUnit_62 : decode cX_writeUnit 62 = .ok (.aload_n 3, 1) := by decide +kernel
theorem dX_writeUnit_63 : decode cX_writeUnit 63 = .ok (.iload 4, 2) := by decide +kernel
theorem dX_writeUnit_65 : decode cX_writeUnit 65 = .ok (.invokevirtual 162, 3) := by decide +kernel
theorem dX_writeUnit_68 : decode cX_writeUnit 68 = .ok (.putfield 153, 3) := by decide +kernel
theorem dX_writeUnit_71 : decode cX_writeUnit 71 = .ok (.aload_n 0, 1) := by decide +kernel
theorem dX_writeUnit_72 : decode cX_writeUnit 72 = .ok (.getfield 16, 3) := by decide +kernel
theorem dX_writeUnit_75 : decode cX_writeUnit 75 = .ok (.aload_n 3, 1) := by decide +kernel
theorem dX_writeUnit_76 : decode cX_writeUnit 76 = .ok (.iload 4, 2) := by decide +kernel
theorem dX_writeUnit_78 : decode cX_writeUnit 78 = .ok (.aload_n 0, 1) := by decide +kernel
theorem dX_writeUnit_79 : decode cX_writeUnit 79 = .ok (.getfield 153, 3) := by decide +kernel
theorem dX_writeUnit_82 : decode cX_writeUnit 82 = .ok (.invokevirtual 165, 3) := by decide +kernel
theorem dX_writeUnit_85 : decode cX_writeUnit 85 = .ok (.aload_n 0, 1) := by decide +kernel
theorem dX_writeUnit_86 : decode cX_writeUnit 86 = .ok (.getfield 35, 3) := by decide +kernel
theorem dX_writeUnit_89 : decode cX_writeUnit 89 = .ok (.iload_n 2, 1) := by decide +kernel
theorem dX_writeUnit_90 : decode cX_writeUnit 90 = .ok (.aaload, 1) := by decide +kernel
theorem dX_writeUnit_91 : decode cX_writeUnit 91 = .ok (.aload_n 0, 1) := by decide +kernel
theorem dX_writeUnit_92 : decode cX_writeUnit 92 = .ok (.getfield 16, 3) := by decide +kernel
theorem dX_writeUnit_95 : decode cX_writeUnit 95 = .ok (.iload_n 1, 1) := by decide +kernel
theorem dX_writeUnit_96 : decode cX_writeUnit 96 = .ok (.iconst 4, 1) := by decide +kernel
theorem dX_writeUnit_97 : decode cX_writeUnit 97 = .ok (.irem, 1) := by decide +kernel
end
section
theorem dX_writeUnit_98 : decode cX_writeUnit 98 = .ok (.aload_n 0, 1) := by decide +kernel
theorem dX_writeUnit_99 : decode cX_writeUnit 99 = .ok (.getfield 159, 3) := by decide +kernel
theorem dX_writeUnit_102 : decode cX_writeUnit 102 = .ok (.bipush 7, 2) := by decide +kernel
theorem dX_writeUnit_104 : decode cX_writeUnit 104 = .ok (.invokestatic 169, 3) := by decide +kernel
theorem lkX_169 : Cond.methodLink "PostIndex" 169 Lib.Math.min.name ∈ zAll ∧ Cond.static Lib.Math.min.name ∈ zAll ∧ Cond.initialized "java/lang/Math" ∈ zAll ∧ Cond.code Lib.Math.min.name Lib.Math.min.code 2 (some .int) ∈ zAll := ⟨(zA2 (i := 45) rfl rfl), (zA1 (i := 220) rfl rfl), (zA1 (i := 9) rfl rfl), (zA1 (i := 221) rfl rfl)⟩
theorem dX_writeUnit_107 : decode cX_writeUnit 107 = .ok (.invokevirtual 175, 3) := by decide +kernel
theorem dX_writeUnit_110 : decode cX_writeUnit 110 = .ok (.aload_n 0, 1) := by decide +kernel
theorem dX_writeUnit_111 : decode cX_writeUnit 111 = .ok (.dup, 1) := by decide +kernel
theorem dX_writeUnit_112 : decode cX_writeUnit 112 = .ok (.getfield 159, 3) := by decide +kernel
theorem dX_writeUnit_115 : decode cX_writeUnit 115 = .ok (.iconst 1, 1) := by decide +kernel
theorem dX_writeUnit_116 : decode cX_writeUnit 116 = .ok (.iadd, 1) := by decide +kernel
theorem dX_writeUnit_117 : decode cX_writeUnit 117 = .ok (.putfield 159, 3) := by decide +kernel
theorem dX_writeUnit_120 : decode cX_writeUnit 120 = .ok (.return_, 1) := by decide +kernel
abbrev cX_segmentToPack : ByteArray := prog_1_method_26_code
def yX_segmentToPack : MethodName := ⟨"PostIndex", "segmentToPack", "()I"⟩
def fX_segmentToPack (d : Nat) : zF := (cX_segmentToPack, 2, yX_segmentToPack, (some .int), d, 0, 0)
theorem meX_segmentToPack (d : Nat) : zMe (fX_segmentToPack d) 0 := ⟨(zA2 (i := 74) rfl rfl), (zA1 (i := 1) rfl rfl), by show "PostIndex" ≠ _; decide +kernel, by show "PostIndex" ≠ _; decide +kernel, by show (parseMethodDescriptor "()I").map _ = _; decide +kernel⟩
theorem dX_segmentToPack_0 : decode cX_segmentToPack 0 = .ok (.iconst 0, 1) := by decide +kernel
theorem dX_segmentToPack_1 : decode cX_segmentToPack 1 = .ok (.istore_n 1, 1) := by decide +kernel
theorem dX_segmentToPack_2 : decode cX_segmentToPack 2 = .ok (.iload_n 1, 1) := by decide +kernel
theorem dX_segmentToPack_3 : decode cX_segmentToPack 3 = .ok (.aload_n 0, 1) := by decide +kernel
theorem dX_segmentToPack_4 : decode cX_segmentToPack 4 = .ok (.getfield 129, 3) := by decide +kernel
theorem dX_segmentToPack_7 : decode cX_segmentToPack 7 = .ok (.if_icmp .ge 39, 3) := by decide +kernel
theorem dX_segmentToPack_10 : decode cX_segmentToPack 10 = .ok (.aload_n 0, 1) := by decide +kernel
theorem dX_segmentToPack_11 : decode cX_segmentToPack 11 = .ok (.iload_n 1, 1) := by decide +kernel
theorem dX_segmentToPack_12 : decode cX_segmentToPack 12 = .ok (.invokevirtual 132, 3) := by decide +kernel
theorem dX_segmentToPack_15 : decode cX_segmentToPack 15 = .ok (.ifCond .eq 25, 3) := by decide +kernel
theorem dX_segmentToPack_18 : decode cX_segmentToPack 18 = .ok (.aload_n 0, 1) := by decide +kernel
theorem dX_segmentToPack_19 : decode cX_segmentToPack 19 = .ok (.iload_n 1, 1) := by decide +kernel
theorem dX_segmentToPack_20 : decode cX_segmentToPack 20 = .ok (.invokevirtual 135, 3) := by decide +kernel
theorem dX_segmentToPack_23 : decode cX_segmentToPack 23 = .ok (.ifCond .eq 17, 3) := by decide +kernel
theorem dX_segmentToPack_26 : decode cX_segmentToPack 26 = .ok (.aload_n 0, 1) := by decide +kernel
theorem dX_segmentToPack_27 : decode cX_segmentToPack 27 = .ok (.getfield 35, 3) := by decide +kernel
theorem dX_segmentToPack_30 : decode cX_segmentToPack 30 = .ok (.iload_n 1, 1) := by decide +kernel
theorem dX_segmentToPack_31 : decode cX_segmentToPack 31 = .ok (.aaload, 1) := by decide +kernel
theorem dX_segmentToPack_32 : decode cX_segmentToPack 32 = .ok (.getfield 138, 3) := by decide +kernel
theorem dX_segmentToPack_35 : decode cX_segmentToPack 35 = .ok (.ifCond .ne 5, 3) := by decide +kernel
theorem dX_segmentToPack_38 : decode cX_segmentToPack 38 = .ok (.iload_n 1, 1) := by decide +kernel
theorem dX_segmentToPack_39 : decode cX_segmentToPack 39 = .ok (.ireturn, 1) := by decide +kernel
theorem dX_segmentToPack_40 : decode cX_segmentToPack 40 = .ok (.iinc 1 1, 3) := by decide +kernel
theorem dX_segmentToPack_43 : decode cX_segmentToPack 43 = .ok (.goto (-41), 3) := by decide +kernel
theorem dX_segmentToPack_46 : decode cX_segmentToPack 46 = .ok (.iconst (-1), 1) := by decide +kernel
theorem dX_segmentToPack_47 : decode cX_segmentToPack 47 = .ok (.ireturn, 1) := by decide +kernel
abbrev cX_isHit : ByteArray := prog_1_method_27_code
def yX_isHit : MethodName := ⟨"PostIndex", "isHit", "(LPostIndex$Query;I)Z"⟩
def fX_isHit (d : Nat) : zF := (cX_isHit, 3, yX_isHit, (some .boolean), d, 0, 0)
theorem meX_isHit (d : Nat) : zMe (fX_isHit d) 2 := ⟨(zA2 (i := 177) rfl rfl), (zA1 (i := 1) rfl rfl), by show "PostIndex" ≠ _; decide +kernel, by show "PostIndex" ≠ _; decide +kernel, by show (parseMethodDescriptor "(LPostIndex$Query;I)Z").map _ = _; decide +kernel⟩
theorem dX_isHit_0 : decode cX_isHit 0 = .ok (.aload_n 0, 1) := by decide +kernel
theorem dX_isHit_1 : decode cX_isHit 1 = .ok (.iload_n 2, 1) := by decide +kernel
theorem dX_isHit_2 : decode cX_isHit 2 = .ok (.invokevirtual 51, 3) := by decide +kernel
theorem dX_isHit_5 : decode cX_isHit 5 = .ok (.ifCond .eq 31, 3) := by decide +kernel
theorem dX_isHit_8 : decode cX_isHit 8 = .ok (.aload_n 1, 1) := by decide +kernel
theorem dX_isHit_9 : decode cX_isHit 9 = .ok (.aload_n 0, 1) := by decide +kernel
theorem dX_isHit_10 : decode cX_isHit 10 = .ok (.getfield 28, 3) := by decide +kernel
theorem dX_isHit_13 : decode cX_isHit 13 = .ok (.iload_n 2, 1) := by decide +kernel
theorem dX_isHit_14 : decode cX_isHit 14 = .ok (.aaload, 1) := by decide +kernel
theorem dX_isHit_15 : decode cX_isHit 15 = .ok (.aload_n 0, 1) := by decide +kernel
theorem dX_isHit_16 : decode cX_isHit 16 = .ok (.getfield 35, 3) := by decide +kernel
theorem dX_isHit_19 : decode cX_isHit 19 = .ok (.iload_n 2, 1) := by decide +kernel
theorem dX_isHit_20 : decode cX_isHit 20 = .ok (.iconst 4, 1) := by decide +kernel
theorem dX_isHit_21 : decode cX_isHit 21 = .ok (.idiv, 1) := by decide +kernel
theorem dX_isHit_22 : decode cX_isHit 22 = .ok (.aaload, 1) := by decide +kernel
theorem dX_isHit_23 : decode cX_isHit 23 = .ok (.iload_n 2, 1) := by decide +kernel
theorem dX_isHit_24 : decode cX_isHit 24 = .ok (.iconst 4, 1) := by decide +kernel
theorem dX_isHit_25 : decode cX_isHit 25 = .ok (.irem, 1) := by decide +kernel
theorem dX_isHit_26 : decode cX_isHit 26 = .ok (.invokevirtual 178, 3) := by decide +kernel
theorem dX_isHit_29 : decode cX_isHit 29 = .ok (.ifCond .eq 7, 3) := by decide +kernel
theorem dX_isHit_32 : decode cX_isHit 32 = .ok (.iconst 1, 1) := by decide +kernel
theorem dX_isHit_33 : decode cX_isHit 33 = .ok (.goto 4, 3) := by decide +kernel
theorem dX_isHit_36 : decode cX_isHit 36 = .ok (.iconst 0, 1) := by decide +kernel
theorem dX_isHit_37 : decode cX_isHit 37 = .ok (.ireturn, 1) := by decide +kernel
theorem lkX_11 : zLi "PostIndex" 11 yT_init := ⟨(zA1 (i := 22) rfl rfl), (zA1 (i := 23) rfl rfl), rfl⟩
theorem lkX_21 : zLi "PostIndex" 21 yR_init := ⟨(zA1 (i := 39) rfl rfl), (zA1 (i := 40) rfl rfl), rfl⟩
theorem lkX_32 : zLi "PostIndex" 32 yP_init := ⟨(zA1 (i := 88) rfl rfl), (zA1 (i := 89) rfl rfl), rfl⟩
theorem lkX_39 : zLi "PostIndex" 39 yS_init := ⟨(zA1 (i := 113) rfl rfl), (zA1 (i := 114) rfl rfl), rfl⟩
theorem lkX_46 : zLi "PostIndex" 46 yH_init := ⟨(zA1 (i := 141) rfl rfl), (zA1 (i := 142) rfl rfl), rfl⟩
theorem lkX_47 : zLv "PostIndex" 47 yT_append := ⟨(zA1 (i := 199) rfl rfl), (zA1 (i := 200) rfl rfl), (zA1 (i := 201) rfl rfl)⟩
theorem lkX_51 : zLv "PostIndex" 51 yX_stands := ⟨(zA1 (i := 207) rfl rfl), (zA1 (i := 209) rfl rfl), (zA0 (i := 0) (q := (yX_stands, 12)) rfl rfl)⟩
theorem lkX_58 : zLv "PostIndex" 58 yT_appendBeginning := ⟨(zA1 (i := 215) rfl rfl), (zA1 (i := 216) rfl rfl), (zA1 (i := 217) rfl rfl)⟩
theorem lkX_62 : zLv "PostIndex" 62 yT_makeEmpty := ⟨(zA1 (i := 229) rfl rfl), (zA1 (i := 230) rfl rfl), (zA1 (i := 231) rfl rfl)⟩
theorem lkX_75 : zLv "PostIndex" 75 yP_fill := ⟨(zA2 (i := 1) rfl rfl), (zA2 (i := 2) rfl rfl), (zA2 (i := 3) rfl rfl)⟩
theorem lkX_79 : zLs "PostIndex" 79 yX_unitsAsked := ⟨(zA2 (i := 11) rfl rfl), (zA2 (i := 12) rfl rfl)⟩
theorem lkX_83 : zLv "PostIndex" 83 yX_writeUnit := ⟨(zA2 (i := 14) rfl rfl), (zA2 (i := 16) rfl rfl), (zA0 (i := 2) (q := (yX_writeUnit, 12)) rfl rfl)⟩
theorem lkX_91 : zLv "PostIndex" 91 yX_segmentToPack := ⟨(zA2 (i := 71) rfl rfl), (zA2 (i := 73) rfl rfl), (zA0 (i := 4) (q := (yX_segmentToPack, 12)) rfl rfl)⟩
theorem lkX_95 : zLv "PostIndex" 95 yS_rewriteUnit := ⟨(zA2 (i := 79) rfl rfl), (zA2 (i := 80) rfl rfl), (zA2 (i := 81) rfl rfl)⟩
theorem lkX_98 : zLv "PostIndex" 98 yR_read := ⟨(zA2 (i := 87) rfl rfl), (zA2 (i := 88) rfl rfl), (zA2 (i := 89) rfl rfl)⟩
theorem lkX_102 : zLv "PostIndex" 102 yX_freePlace := ⟨(zA2 (i := 158) rfl rfl), (zA2 (i := 160) rfl rfl), (zA0 (i := 17) (q := (yX_freePlace, 12)) rfl rfl)⟩
theorem lkX_112 : zLv "PostIndex" 112 yR_exchange := ⟨(zA2 (i := 162) rfl rfl), (zA2 (i := 163) rfl rfl), (zA2 (i := 164) rfl rfl)⟩
theorem lkX_122 : zLv "PostIndex" 122 yX_isOpen := ⟨(zA2 (i := 170) rfl rfl), (zA2 (i := 172) rfl rfl), (zA0 (i := 18) (q := (yX_isOpen, 12)) rfl rfl)⟩
theorem lkX_125 : zLv "PostIndex" 125 yX_isHit := ⟨(zA2 (i := 174) rfl rfl), (zA2 (i := 176) rfl rfl), (zA0 (i := 19) (q := (yX_isHit, 12)) rfl rfl)⟩
theorem lkX_132 : zLv "PostIndex" 132 yX_isLive := ⟨(zA1 (i := 211) rfl rfl), (zA1 (i := 213) rfl rfl), (zA0 (i := 1) (q := (yX_isLive, 12)) rfl rfl)⟩
theorem lkX_135 : zLv "PostIndex" 135 yX_isFull := ⟨(zA2 (i := 75) rfl rfl), (zA2 (i := 77) rfl rfl), (zA0 (i := 5) (q := (yX_isFull, 12)) rfl rfl)⟩
theorem lkX_144 : zLv "PostIndex" 144 yS_countCells := ⟨(zA2 (i := 210) rfl rfl), (zA2 (i := 211) rfl rfl), (zA2 (i := 212) rfl rfl)⟩
theorem lkX_150 : zLv "PostIndex" 150 yS_countPostings := ⟨(zA2 (i := 234) rfl rfl), (zA2 (i := 235) rfl rfl), (zA2 (i := 236) rfl rfl)⟩
theorem lkX_156 : zLv "PostIndex" 156 yT_tokenStart := ⟨(zA2 (i := 18) rfl rfl), (zA2 (i := 19) rfl rfl), (zA2 (i := 20) rfl rfl)⟩
theorem lkX_162 : zLv "PostIndex" 162 yT_tokenEnd := ⟨(zA2 (i := 39) rfl rfl), (zA2 (i := 23) rfl rfl), (zA2 (i := 24) rfl rfl)⟩
theorem lkX_165 : zLv "PostIndex" 165 yT_setFolded := ⟨(zA2 (i := 40) rfl rfl), (zA2 (i := 41) rfl rfl), (zA2 (i := 42) rfl rfl)⟩
theorem lkX_175 : zLv "PostIndex" 175 yS_addPosting := ⟨(zA2 (i := 46) rfl rfl), (zA2 (i := 47) rfl rfl), (zA2 (i := 48) rfl rfl)⟩
theorem lkX_178 : zLv "PostIndex" 178 yQ_matches := ⟨(zA2 (i := 178) rfl rfl), (zA2 (i := 179) rfl rfl), (zA2 (i := 180) rfl rfl)⟩
end
section
abbrev cM_init : ByteArray := prog_9_method_1_code
def yM_init : MethodName := ⟨"PostIndexModel", "<init>", "()V"⟩
def fM_init (d : Nat) : zF := (cM_init, 1, yM_init, none, d, 21, 1496)
theorem meM_init (d : Nat) : zMe (fM_init d) 0 := ⟨(zA3 (i := 2) rfl rfl), (zA1 (i := 8) rfl rfl), by show "PostIndexModel" ≠ _; decide +kernel, by show "PostIndexModel" ≠ _; decide +kernel, by show (parseMethodDescriptor "()V").map _ = _; decide +kernel⟩
theorem dM_init_0 : decode cM_init 0 = .ok (.aload_n 0, 1) := by decide +kernel
theorem dM_init_1 : decode cM_init 1 = .ok (.invokespecial 1, 3) := by decide +kernel
theorem lkM_1 : Cond.methodLink "PostIndexModel" 1 Lib.objectInit ∈ zAll ∧ Cond.instanceMethod Lib.objectInit ∈ zAll ∧ Cond.code Lib.objectInit ⟨#[0xb1]⟩ 1 none ∈ zAll := ⟨(zA3 (i := 3) rfl rfl), (zA1 (i := 18) rfl rfl), (zA1 (i := 19) rfl rfl)⟩
theorem dM_init_4 : decode cM_init 4 = .ok (.aload_n 0, 1) := by decide +kernel
theorem dM_init_5 : decode cM_init 5 = .ok (.bipush 24, 2) := by decide +kernel
theorem dM_init_7 : decode cM_init 7 = .ok (.newarray .int, 2) := by decide +kernel
theorem dM_init_9 : decode cM_init 9 = .ok (.putfield 7, 3) := by decide +kernel
theorem flM_7 : zFld "PostIndexModel" 7 7 1 31 := ⟨RM, TM, rfl, by decide, inM, (zA3 (i := 5) rfl rfl)⟩
theorem dM_init_12 : decode cM_init 12 = .ok (.aload_n 0, 1) := by decide +kernel
theorem dM_init_13 : decode cM_init 13 = .ok (.bipush 24, 2) := by decide +kernel
theorem dM_init_15 : decode cM_init 15 = .ok (.newarray .int, 2) := by decide +kernel
theorem dM_init_17 : decode cM_init 17 = .ok (.putfield 13, 3) := by decide +kernel
theorem flM_13 : zFld "PostIndexModel" 13 7 5 31 := ⟨RM, TM, rfl, by decide, inM, (zA3 (i := 9) rfl rfl)⟩
theorem dM_init_20 : decode cM_init 20 = .ok (.aload_n 0, 1) := by decide +kernel
theorem dM_init_21 : decode cM_init 21 = .ok (.bipush 24, 2) := by decide +kernel
theorem dM_init_23 : decode cM_init 23 = .ok (.newarray .int, 2) := by decide +kernel
theorem dM_init_25 : decode cM_init 25 = .ok (.putfield 16, 3) := by decide +kernel
theorem flM_16 : zFld "PostIndexModel" 16 7 6 31 := ⟨RM, TM, rfl, by decide, inM, (zA3 (i := 10) rfl rfl)⟩
theorem dM_init_28 : decode cM_init 28 = .ok (.aload_n 0, 1) := by decide +kernel
theorem dM_init_29 : decode cM_init 29 = .ok (.bipush 24, 2) := by decide +kernel
theorem dM_init_31 : decode cM_init 31 = .ok (.newarray .boolean, 2) := by decide +kernel
theorem dM_init_33 : decode cM_init 33 = .ok (.putfield 19, 3) := by decide +kernel
theorem flM_19 : zFld "PostIndexModel" 19 7 7 31 := ⟨RM, TM, rfl, by decide, inM, (zA3 (i := 11) rfl rfl)⟩
theorem dM_init_36 : decode cM_init 36 = .ok (.aload_n 0, 1) := by decide +kernel
theorem dM_init_37 : decode cM_init 37 = .ok (.bipush 24, 2) := by decide +kernel
theorem dM_init_39 : decode cM_init 39 = .ok (.newarray .int, 2) := by decide +kernel
theorem dM_init_41 : decode cM_init 41 = .ok (.putfield 23, 3) := by decide +kernel
theorem flM_23 : zFld "PostIndexModel" 23 7 8 31 := ⟨RM, TM, rfl, by decide, inM, (zA3 (i := 12) rfl rfl)⟩
theorem dM_init_44 : decode cM_init 44 = .ok (.aload_n 0, 1) := by decide +kernel
theorem dM_init_45 : decode cM_init 45 = .ok (.sipush 576, 3) := by decide +kernel
theorem dM_init_48 : decode cM_init 48 = .ok (.newarray .int, 2) := by decide +kernel
theorem dM_init_50 : decode cM_init 50 = .ok (.putfield 26, 3) := by decide +kernel
theorem flM_26 : zFld "PostIndexModel" 26 7 9 31 := ⟨RM, TM, rfl, by decide, inM, (zA3 (i := 13) rfl rfl)⟩
theorem dM_init_53 : decode cM_init 53 = .ok (.aload_n 0, 1) := by decide +kernel
theorem dM_init_54 : decode cM_init 54 = .ok (.bipush 24, 2) := by decide +kernel
theorem dM_init_56 : decode cM_init 56 = .ok (.newarray .int, 2) := by decide +kernel
theorem dM_init_58 : decode cM_init 58 = .ok (.putfield 29, 3) := by decide +kernel
theorem flM_29 : zFld "PostIndexModel" 29 7 10 31 := ⟨RM, TM, rfl, by decide, inM, (zA3 (i := 14) rfl rfl)⟩
theorem dM_init_61 : decode cM_init 61 = .ok (.aload_n 0, 1) := by decide +kernel
theorem dM_init_62 : decode cM_init 62 = .ok (.sipush 288, 3) := by decide +kernel
theorem dM_init_65 : decode cM_init 65 = .ok (.newarray .int, 2) := by decide +kernel
theorem dM_init_67 : decode cM_init 67 = .ok (.putfield 32, 3) := by decide +kernel
theorem flM_32 : zFld "PostIndexModel" 32 7 11 31 := ⟨RM, TM, rfl, by decide, inM, (zA3 (i := 15) rfl rfl)⟩
theorem dM_init_70 : decode cM_init 70 = .ok (.aload_n 0, 1) := by decide +kernel
theorem dM_init_71 : decode cM_init 71 = .ok (.sipush 288, 3) := by decide +kernel
theorem dM_init_74 : decode cM_init 74 = .ok (.newarray .int, 2) := by decide +kernel
theorem dM_init_76 : decode cM_init 76 = .ok (.putfield 35, 3) := by decide +kernel
theorem flM_35 : zFld "PostIndexModel" 35 7 12 31 := ⟨RM, TM, rfl, by decide, inM, (zA3 (i := 16) rfl rfl)⟩
theorem dM_init_79 : decode cM_init 79 = .ok (.aload_n 0, 1) := by decide +kernel
theorem dM_init_80 : decode cM_init 80 = .ok (.bipush 6, 2) := by decide +kernel
theorem dM_init_82 : decode cM_init 82 = .ok (.newarray .int, 2) := by decide +kernel
theorem dM_init_84 : decode cM_init 84 = .ok (.putfield 38, 3) := by decide +kernel
theorem flM_38 : zFld "PostIndexModel" 38 7 13 31 := ⟨RM, TM, rfl, by decide, inM, (zA3 (i := 17) rfl rfl)⟩
theorem dM_init_87 : decode cM_init 87 = .ok (.aload_n 0, 1) := by decide +kernel
theorem dM_init_88 : decode cM_init 88 = .ok (.bipush 6, 2) := by decide +kernel
theorem dM_init_90 : decode cM_init 90 = .ok (.newarray .boolean, 2) := by decide +kernel
theorem dM_init_92 : decode cM_init 92 = .ok (.putfield 41, 3) := by decide +kernel
theorem flM_41 : zFld "PostIndexModel" 41 7 14 31 := ⟨RM, TM, rfl, by decide, inM, (zA3 (i := 18) rfl rfl)⟩
theorem dM_init_95 : decode cM_init 95 = .ok (.aload_n 0, 1) := by decide +kernel
theorem dM_init_96 : decode cM_init 96 = .ok (.iconst 4, 1) := by decide +kernel
theorem dM_init_97 : decode cM_init 97 = .ok (.newarray .boolean, 2) := by decide +kernel
theorem dM_init_99 : decode cM_init 99 = .ok (.putfield 44, 3) := by decide +kernel
theorem flM_44 : zFld "PostIndexModel" 44 7 16 31 := ⟨RM, TM, rfl, by decide, inM, (zA3 (i := 20) rfl rfl)⟩
theorem dM_init_102 : decode cM_init 102 = .ok (.aload_n 0, 1) := by decide +kernel
theorem dM_init_103 : decode cM_init 103 = .ok (.iconst 4, 1) := by decide +kernel
theorem dM_init_104 : decode cM_init 104 = .ok (.newarray .int, 2) := by decide +kernel
theorem dM_init_106 : decode cM_init 106 = .ok (.putfield 47, 3) := by decide +kernel
theorem flM_47 : zFld "PostIndexModel" 47 7 17 31 := ⟨RM, TM, rfl, by decide, inM, (zA3 (i := 21) rfl rfl)⟩
theorem dM_init_109 : decode cM_init 109 = .ok (.aload_n 0, 1) := by decide +kernel
theorem dM_init_110 : decode cM_init 110 = .ok (.iconst 4, 1) := by decide +kernel
theorem dM_init_111 : decode cM_init 111 = .ok (.newarray .int, 2) := by decide +kernel
theorem dM_init_113 : decode cM_init 113 = .ok (.putfield 50, 3) := by decide +kernel
theorem flM_50 : zFld "PostIndexModel" 50 7 18 31 := ⟨RM, TM, rfl, by decide, inM, (zA3 (i := 22) rfl rfl)⟩
theorem dM_init_116 : decode cM_init 116 = .ok (.aload_n 0, 1) := by decide +kernel
theorem dM_init_117 : decode cM_init 117 = .ok (.bipush 96, 2) := by decide +kernel
theorem dM_init_119 : decode cM_init 119 = .ok (.newarray .int, 2) := by decide +kernel
theorem dM_init_121 : decode cM_init 121 = .ok (.putfield 53, 3) := by decide +kernel
theorem flM_53 : zFld "PostIndexModel" 53 7 19 31 := ⟨RM, TM, rfl, by decide, inM, (zA3 (i := 23) rfl rfl)⟩
theorem dM_init_124 : decode cM_init 124 = .ok (.aload_n 0, 1) := by decide +kernel
theorem dM_init_125 : decode cM_init 125 = .ok (.bipush 8, 2) := by decide +kernel
theorem dM_init_127 : decode cM_init 127 = .ok (.newarray .boolean, 2) := by decide +kernel
theorem dM_init_129 : decode cM_init 129 = .ok (.putfield 56, 3) := by decide +kernel
theorem flM_56 : zFld "PostIndexModel" 56 7 24 31 := ⟨RM, TM, rfl, by decide, inM, (zA3 (i := 28) rfl rfl)⟩
theorem dM_init_132 : decode cM_init 132 = .ok (.aload_n 0, 1) := by decide +kernel
theorem dM_init_133 : decode cM_init 133 = .ok (.bipush 8, 2) := by decide +kernel
theorem dM_init_135 : decode cM_init 135 = .ok (.newarray .boolean, 2) := by decide +kernel
theorem dM_init_137 : decode cM_init 137 = .ok (.putfield 59, 3) := by decide +kernel
theorem flM_59 : zFld "PostIndexModel" 59 7 25 31 := ⟨RM, TM, rfl, by decide, inM, (zA3 (i := 29) rfl rfl)⟩
theorem dM_init_140 : decode cM_init 140 = .ok (.aload_n 0, 1) := by decide +kernel
theorem dM_init_141 : decode cM_init 141 = .ok (.bipush 8, 2) := by decide +kernel
theorem dM_init_143 : decode cM_init 143 = .ok (.newarray .int, 2) := by decide +kernel
theorem dM_init_145 : decode cM_init 145 = .ok (.putfield 62, 3) := by decide +kernel
theorem flM_62 : zFld "PostIndexModel" 62 7 26 31 := ⟨RM, TM, rfl, by decide, inM, (zA3 (i := 30) rfl rfl)⟩
theorem dM_init_148 : decode cM_init 148 = .ok (.aload_n 0, 1) := by decide +kernel
theorem dM_init_149 : decode cM_init 149 = .ok (.bipush 8, 2) := by decide +kernel
theorem dM_init_151 : decode cM_init 151 = .ok (.newarray .int, 2) := by decide +kernel
theorem dM_init_153 : decode cM_init 153 = .ok (.putfield 65, 3) := by decide +kernel
theorem flM_65 : zFld "PostIndexModel" 65 7 27 31 := ⟨RM, TM, rfl, by decide, inM, (zA3 (i := 31) rfl rfl)⟩
theorem dM_init_156 : decode cM_init 156 = .ok (.aload_n 0, 1) := by decide +kernel
theorem dM_init_157 : decode cM_init 157 = .ok (.bipush 24, 2) := by decide +kernel
theorem dM_init_159 : decode cM_init 159 = .ok (.newarray .int, 2) := by decide +kernel
theorem dM_init_161 : decode cM_init 161 = .ok (.putfield 68, 3) := by decide +kernel
theorem flM_68 : zFld "PostIndexModel" 68 7 29 31 := ⟨RM, TM, rfl, by decide, inM, (zA3 (i := 33) rfl rfl)⟩
theorem dM_init_164 : decode cM_init 164 = .ok (.aload_n 0, 1) := by decide +kernel
theorem dM_init_165 : decode cM_init 165 = .ok (.bipush 24, 2) := by decide +kernel
theorem dM_init_167 : decode cM_init 167 = .ok (.newarray .int, 2) := by decide +kernel
theorem dM_init_169 : decode cM_init 169 = .ok (.putfield 71, 3) := by decide +kernel
theorem flM_71 : zFld "PostIndexModel" 71 7 30 31 := ⟨RM, TM, rfl, by decide, inM, (zA3 (i := 34) rfl rfl)⟩
theorem dM_init_172 : decode cM_init 172 = .ok (.return_, 1) := by decide +kernel
abbrev cM_digit : ByteArray := prog_9_method_2_code
def yM_digit : MethodName := ⟨"PostIndexModel", "digit", "(I)Z"⟩
def fM_digit (d : Nat) : zF := (cM_digit, 1, yM_digit, (some .boolean), d, 0, 0)
theorem meM_digit (d : Nat) : zMe (fM_digit d) 1 := ⟨(zA3 (i := 140) rfl rfl), (zA1 (i := 8) rfl rfl), by show "PostIndexModel" ≠ _; decide +kernel, by show "PostIndexModel" ≠ _; decide +kernel, by show (parseMethodDescriptor "(I)Z").map _ = _; decide +kernel⟩
theorem dM_digit_0 : decode cM_digit 0 = .ok (.iload_n 0, 1) := by decide +kernel
theorem dM_digit_1 : decode cM_digit 1 = .ok (.bipush 48, 2) := by decide +kernel
theorem dM_digit_3 : decode cM_digit 3 = .ok (.if_icmp .lt 13, 3) := by decide +kernel
theorem dM_digit_6 : decode cM_digit 6 = .ok (.iload_n 0, 1) := by decide +kernel
theorem dM_digit_7 : decode cM_digit 7 = .ok (.bipush 57, 2) := by decide +kernel
theorem dM_digit_9 : decode cM_digit 9 = .ok (.if_icmp .gt 7, 3) := by decide +kernel
theorem dM_digit_12 : decode cM_digit 12 = .ok (.iconst 1, 1) := by decide +kernel
theorem dM_digit_13 : decode cM_digit 13 = .ok (.goto 4, 3) := by decide +kernel
theorem dM_digit_16 : decode cM_digit 16 = .ok (.iconst 0, 1) := by decide +kernel
theorem dM_digit_17 : decode cM_digit 17 = .ok (.ireturn, 1) := by decide +kernel
abbrev cM_wordy : ByteArray := prog_9_method_3_code
def yM_wordy : MethodName := ⟨"PostIndexModel", "wordy", "(I)Z"⟩
def fM_wordy (d : Nat) : zF := (cM_wordy, 1, yM_wordy, (some .boolean), d, 0, 0)
theorem meM_wordy (d : Nat) : zMe (fM_wordy d) 1 := ⟨(zA3 (i := 137) rfl rfl), (zA1 (i := 8) rfl rfl), by show "PostIndexModel" ≠ _; decide +kernel, by show "PostIndexModel" ≠ _; decide +kernel, by show (parseMethodDescriptor "(I)Z").map _ = _; decide +kernel⟩
theorem dM_wordy_0 : decode cM_wordy 0 = .ok (.iload_n 0, 1) := by decide +kernel
theorem dM_wordy_1 : decode cM_wordy 1 = .ok (.invokestatic 74, 3) := by decide +kernel
theorem dM_wordy_4 : decode cM_wordy 4 = .ok (.ifCond .ne 33, 3) := by decide +kernel
theorem dM_wordy_7 : decode cM_wordy 7 = .ok (.iload_n 0, 1) := by decide +kernel
theorem dM_wordy_8 : decode cM_wordy 8 = .ok (.bipush 65, 2) := by decide +kernel
theorem dM_wordy_10 : decode cM_wordy 10 = .ok (.if_icmp .lt 9, 3) := by decide +kernel
theorem dM_wordy_13 : decode cM_wordy 13 = .ok (.iload_n 0, 1) := by decide +kernel
theorem dM_wordy_14 : decode cM_wordy 14 = .ok (.bipush 90, 2) := by decide +kernel
theorem dM_wordy_16 : decode cM_wordy 16 = .ok (.if_icmp .le 21, 3) := by decide +kernel
theorem dM_wordy_19 : decode cM_wordy 19 = .ok (.iload_n 0, 1) := by decide +kernel
theorem dM_wordy_20 : decode cM_wordy 20 = .ok (.bipush 97, 2) := by decide +kernel
theorem dM_wordy_22 : decode cM_wordy 22 = .ok (.if_icmp .lt 9, 3) := by decide +kernel
theorem dM_wordy_25 : decode cM_wordy 25 = .ok (.iload_n 0, 1) := by decide +kernel
theorem dM_wordy_26 : decode cM_wordy 26 = .ok (.bipush 122, 2) := by decide +kernel
theorem dM_wordy_28 : decode cM_wordy 28 = .ok (.if_icmp .le 9, 3) := by decide +kernel
theorem dM_wordy_31 : decode cM_wordy 31 = .ok (.iload_n 0, 1) := by decide +kernel
theorem dM_wordy_32 : decode cM_wordy 32 = .ok (.bipush 95, 2) := by decide +kernel
theorem dM_wordy_34 : decode cM_wordy 34 = .ok (.if_icmp .ne 7, 3) := by decide +kernel
theorem dM_wordy_37 : decode cM_wordy 37 = .ok (.iconst 1, 1) := by decide +kernel
theorem dM_wordy_38 : decode cM_wordy 38 = .ok (.goto 4, 3) := by decide +kernel
theorem dM_wordy_41 : decode cM_wordy 41 = .ok (.iconst 0, 1) := by decide +kernel
theorem dM_wordy_42 : decode cM_wordy 42 = .ok (.ireturn, 1) := by decide +kernel
abbrev cM_small : ByteArray := prog_9_method_4_code
def yM_small : MethodName := ⟨"PostIndexModel", "small", "(I)I"⟩
def fM_small (d : Nat) : zF := (cM_small, 1, yM_small, (some .int), d, 0, 0)
theorem meM_small (d : Nat) : zMe (fM_small d) 1 := ⟨(zA3 (i := 179) rfl rfl), (zA1 (i := 8) rfl rfl), by show "PostIndexModel" ≠ _; decide +kernel, by show "PostIndexModel" ≠ _; decide +kernel, by show (parseMethodDescriptor "(I)I").map _ = _; decide +kernel⟩
theorem dM_small_0 : decode cM_small 0 = .ok (.iload_n 0, 1) := by decide +kernel
theorem dM_small_1 : decode cM_small 1 = .ok (.bipush 65, 2) := by decide +kernel
theorem dM_small_3 : decode cM_small 3 = .ok (.if_icmp .lt 16, 3) := by decide +kernel
theorem dM_small_6 : decode cM_small 6 = .ok (.iload_n 0, 1) := by decide +kernel
theorem dM_small_7 : decode cM_small 7 = .ok (.bipush 90, 2) := by decide +kernel
theorem dM_small_9 : decode cM_small 9 = .ok (.if_icmp .gt 10, 3) := by decide +kernel
theorem dM_small_12 : decode cM_small 12 = .ok (.iload_n 0, 1) := by decide +kernel
theorem dM_small_13 : decode cM_small 13 = .ok (.bipush 32, 2) := by decide +kernel
theorem dM_small_15 : decode cM_small 15 = .ok (.iadd, 1) := by decide +kernel
theorem dM_small_16 : decode cM_small 16 = .ok (.goto 4, 3) := by decide +kernel
theorem dM_small_19 : decode cM_small 19 = .ok (.iload_n 0, 1) := by decide +kernel
theorem dM_small_20 : decode cM_small 20 = .ok (.ireturn, 1) := by decide +kernel
abbrev cM_type : ByteArray := prog_9_method_5_code
def yM_type : MethodName := ⟨"PostIndexModel", "type", "(C)Z"⟩
def fM_type (d : Nat) : zF := (cM_type, 2, yM_type, (some .boolean), d, 0, 0)
theorem meM_type (d : Nat) : zMe (fM_type d) 1 := ⟨(zA3 (i := 102) rfl rfl), (zA1 (i := 8) rfl rfl), by show "PostIndexModel" ≠ _; decide +kernel, by show "PostIndexModel" ≠ _; decide +kernel, by show (parseMethodDescriptor "(C)Z").map _ = _; decide +kernel⟩
theorem dM_type_0 : decode cM_type 0 = .ok (.iload_n 1, 1) := by decide +kernel
theorem dM_type_1 : decode cM_type 1 = .ok (.bipush 32, 2) := by decide +kernel
theorem dM_type_3 : decode cM_type 3 = .ok (.if_icmp .lt 18, 3) := by decide +kernel
theorem dM_type_6 : decode cM_type 6 = .ok (.iload_n 1, 1) := by decide +kernel
theorem dM_type_7 : decode cM_type 7 = .ok (.bipush 126, 2) := by decide +kernel
theorem dM_type_9 : decode cM_type 9 = .ok (.if_icmp .gt 12, 3) := by decide +kernel
theorem dM_type_12 : decode cM_type 12 = .ok (.aload_n 0, 1) := by decide +kernel
theorem dM_type_13 : decode cM_type 13 = .ok (.getfield 78, 3) := by decide +kernel
theorem flM_78 : zFld "PostIndexModel" 78 7 0 31 := ⟨RM, TM, rfl, by decide, inM, (zA3 (i := 4) rfl rfl)⟩
theorem dM_type_16 : decode cM_type 16 = .ok (.bipush 24, 2) := by decide +kernel
theorem dM_type_18 : decode cM_type 18 = .ok (.if_icmp .lt 5, 3) := by decide +kernel
theorem dM_type_21 : decode cM_type 21 = .ok (.iconst 0, 1) := by decide +kernel
theorem dM_type_22 : decode cM_type 22 = .ok (.ireturn, 1) := by decide +kernel
theorem dM_type_23 : decode cM_type 23 = .ok (.aload_n 0, 1) := by decide +kernel
theorem dM_type_24 : decode cM_type 24 = .ok (.getfield 7, 3) := by decide +kernel
theorem dM_type_27 : decode cM_type 27 = .ok (.aload_n 0, 1) := by decide +kernel
theorem dM_type_28 : decode cM_type 28 = .ok (.getfield 78, 3) := by decide +kernel
theorem dM_type_31 : decode cM_type 31 = .ok (.iload_n 1, 1) := by decide +kernel
theorem dM_type_32 : decode cM_type 32 = .ok (.iastore, 1) := by decide +kernel
theorem dM_type_33 : decode cM_type 33 = .ok (.aload_n 0, 1) := by decide +kernel
theorem dM_type_34 : decode cM_type 34 = .ok (.dup, 1) := by decide +kernel
theorem dM_type_35 : decode cM_type 35 = .ok (.getfield 78, 3) := by decide +kernel
theorem dM_type_38 : decode cM_type 38 = .ok (.iconst 1, 1) := by decide +kernel
theorem dM_type_39 : decode cM_type 39 = .ok (.iadd, 1) := by decide +kernel
theorem dM_type_40 : decode cM_type 40 = .ok (.putfield 78, 3) := by decide +kernel
theorem dM_type_43 : decode cM_type 43 = .ok (.iconst 1, 1) := by decide +kernel
theorem dM_type_44 : decode cM_type 44 = .ok (.ireturn, 1) := by decide +kernel
abbrev cM_shown : ByteArray := prog_9_method_6_code
def yM_shown : MethodName := ⟨"PostIndexModel", "shown", "(I)Z"⟩
def fM_shown (d : Nat) : zF := (cM_shown, 2, yM_shown, (some .boolean), d, 0, 0)
theorem meM_shown (d : Nat) : zMe (fM_shown d) 1 := ⟨(zA3 (i := 110) rfl rfl), (zA1 (i := 8) rfl rfl), by show "PostIndexModel" ≠ _; decide +kernel, by show "PostIndexModel" ≠ _; decide +kernel, by show (parseMethodDescriptor "(I)Z").map _ = _; decide +kernel⟩
theorem dM_shown_0 : decode cM_shown 0 = .ok (.iload_n 1, 1) := by decide +kernel
theorem dM_shown_1 : decode cM_shown 1 = .ok (.ifCond .lt 34, 3) := by decide +kernel
theorem dM_shown_4 : decode cM_shown 4 = .ok (.iload_n 1, 1) := by decide +kernel
theorem dM_shown_5 : decode cM_shown 5 = .ok (.aload_n 0, 1) := by decide +kernel
theorem dM_shown_6 : decode cM_shown 6 = .ok (.getfield 82, 3) := by decide +kernel
theorem flM_82 : zFld "PostIndexModel" 82 7 3 31 := ⟨RM, TM, rfl, by decide, inM, (zA3 (i := 7) rfl rfl)⟩
theorem dM_shown_9 : decode cM_shown 9 = .ok (.if_icmp .ge 26, 3) := by decide +kernel
theorem dM_shown_12 : decode cM_shown 12 = .ok (.aload_n 0, 1) := by decide +kernel
theorem dM_shown_13 : decode cM_shown 13 = .ok (.iload_n 1, 1) := by decide +kernel
theorem dM_shown_14 : decode cM_shown 14 = .ok (.iconst 4, 1) := by decide +kernel
theorem dM_shown_15 : decode cM_shown 15 = .ok (.idiv, 1) := by decide +kernel
theorem dM_shown_16 : decode cM_shown 16 = .ok (.invokevirtual 85, 3) := by decide +kernel
theorem dM_shown_19 : decode cM_shown 19 = .ok (.ifCond .eq 16, 3) := by decide +kernel
theorem dM_shown_22 : decode cM_shown 22 = .ok (.aload_n 0, 1) := by decide +kernel
theorem dM_shown_23 : decode cM_shown 23 = .ok (.getfield 19, 3) := by decide +kernel
theorem dM_shown_26 : decode cM_shown 26 = .ok (.iload_n 1, 1) := by decide +kernel
theorem dM_shown_27 : decode cM_shown 27 = .ok (.baload, 1) := by decide +kernel
theorem dM_shown_28 : decode cM_shown 28 = .ok (.ifCond .ne 7, 3) := by decide +kernel
theorem dM_shown_31 : decode cM_shown 31 = .ok (.iconst 1, 1) := by decide +kernel
theorem dM_shown_32 : decode cM_shown 32 = .ok (.goto 4, 3) := by decide +kernel
theorem dM_shown_35 : decode cM_shown 35 = .ok (.iconst 0, 1) := by decide +kernel
theorem dM_shown_36 : decode cM_shown 36 = .ok (.ireturn, 1) := by decide +kernel
abbrev cM_quote : ByteArray := prog_9_method_7_code
def yM_quote : MethodName := ⟨"PostIndexModel", "quote", "(I)I"⟩
def fM_quote (d : Nat) : zF := (cM_quote, 3, yM_quote, (some .int), d, 0, 0)
theorem meM_quote (d : Nat) : zMe (fM_quote d) 1 := ⟨(zA3 (i := 106) rfl rfl), (zA1 (i := 8) rfl rfl), by show "PostIndexModel" ≠ _; decide +kernel, by show "PostIndexModel" ≠ _; decide +kernel, by show (parseMethodDescriptor "(I)I").map _ = _; decide +kernel⟩
theorem dM_quote_0 : decode cM_quote 0 = .ok (.aload_n 0, 1) := by decide +kernel
theorem dM_quote_1 : decode cM_quote 1 = .ok (.iload_n 1, 1) := by decide +kernel
theorem dM_quote_2 : decode cM_quote 2 = .ok (.invokevirtual 88, 3) := by decide +kernel
theorem dM_quote_5 : decode cM_quote 5 = .ok (.ifCond .ne 5, 3) := by decide +kernel
theorem dM_quote_8 : decode cM_quote 8 = .ok (.iconst (-1), 1) := by decide +kernel
theorem dM_quote_9 : decode cM_quote 9 = .ok (.ireturn, 1) := by decide +kernel
theorem dM_quote_10 : decode cM_quote 10 = .ok (.iconst 0, 1) := by decide +kernel
theorem dM_quote_11 : decode cM_quote 11 = .ok (.istore_n 2, 1) := by decide +kernel
theorem dM_quote_12 : decode cM_quote 12 = .ok (.iload_n 2, 1) := by decide +kernel
theorem dM_quote_13 : decode cM_quote 13 = .ok (.aload_n 0, 1) := by decide +kernel
theorem dM_quote_14 : decode cM_quote 14 = .ok (.getfield 23, 3) := by decide +kernel
theorem dM_quote_17 : decode cM_quote 17 = .ok (.iload_n 1, 1) := by decide +kernel
theorem dM_quote_18 : decode cM_quote 18 = .ok (.iaload, 1) := by decide +kernel
theorem dM_quote_19 : decode cM_quote 19 = .ok (.if_icmp .ge 48, 3) := by decide +kernel
theorem dM_quote_22 : decode cM_quote 22 = .ok (.aload_n 0, 1) := by decide +kernel
theorem dM_quote_23 : decode cM_quote 23 = .ok (.getfield 78, 3) := by decide +kernel
theorem dM_quote_26 : decode cM_quote 26 = .ok (.bipush 24, 2) := by decide +kernel
theorem dM_quote_28 : decode cM_quote 28 = .ok (.if_icmp .ge 39, 3) := by decide +kernel
theorem dM_quote_31 : decode cM_quote 31 = .ok (.aload_n 0, 1) := by decide +kernel
theorem dM_quote_32 : decode cM_quote 32 = .ok (.getfield 7, 3) := by decide +kernel
theorem dM_quote_35 : decode cM_quote 35 = .ok (.aload_n 0, 1) := by decide +kernel
theorem dM_quote_36 : decode cM_quote 36 = .ok (.getfield 78, 3) := by decide +kernel
theorem dM_quote_39 : decode cM_quote 39 = .ok (.aload_n 0, 1) := by decide +kernel
theorem dM_quote_40 : decode cM_quote 40 = .ok (.getfield 26, 3) := by decide +kernel
theorem dM_quote_43 : decode cM_quote 43 = .ok (.bipush 24, 2) := by decide +kernel
theorem dM_quote_45 : decode cM_quote 45 = .ok (.iload_n 1, 1) := by decide +kernel
theorem dM_quote_46 : decode cM_quote 46 = .ok (.imul, 1) := by decide +kernel
theorem dM_quote_47 : decode cM_quote 47 = .ok (.iload_n 2, 1) := by decide +kernel
theorem dM_quote_48 : decode cM_quote 48 = .ok (.iadd, 1) := by decide +kernel
theorem dM_quote_49 : decode cM_quote 49 = .ok (.iaload, 1) := by decide +kernel
theorem dM_quote_50 : decode cM_quote 50 = .ok (.iastore, 1) := by decide +kernel
theorem dM_quote_51 : decode cM_quote 51 = .ok (.aload_n 0, 1) := by decide +kernel
theorem dM_quote_52 : decode cM_quote 52 = .ok (.dup, 1) := by decide +kernel
theorem dM_quote_53 : decode cM_quote 53 = .ok (.getfield 78, 3) := by decide +kernel
theorem dM_quote_56 : decode cM_quote 56 = .ok (.iconst 1, 1) := by decide +kernel
theorem dM_quote_57 : decode cM_quote 57 = .ok (.iadd, 1) := by decide +kernel
theorem dM_quote_58 : decode cM_quote 58 = .ok (.putfield 78, 3) := by decide +kernel
theorem dM_quote_61 : decode cM_quote 61 = .ok (.iinc 2 1, 3) := by decide +kernel
theorem dM_quote_64 : decode cM_quote 64 = .ok (.goto (-52), 3) := by decide +kernel
theorem dM_quote_67 : decode cM_quote 67 = .ok (.iload_n 2, 1) := by decide +kernel
theorem dM_quote_68 : decode cM_quote 68 = .ok (.ireturn, 1) := by decide +kernel
abbrev cM_clear : ByteArray := prog_9_method_8_code
def yM_clear : MethodName := ⟨"PostIndexModel", "clear", "()V"⟩
def fM_clear (d : Nat) : zF := (cM_clear, 1, yM_clear, none, d, 0, 0)
theorem meM_clear (d : Nat) : zMe (fM_clear d) 0 := ⟨(zA3 (i := 122) rfl rfl), (zA1 (i := 8) rfl rfl), by show "PostIndexModel" ≠ _; decide +kernel, by show "PostIndexModel" ≠ _; decide +kernel, by show (parseMethodDescriptor "()V").map _ = _; decide +kernel⟩
theorem dM_clear_0 : decode cM_clear 0 = .ok (.aload_n 0, 1) := by decide +kernel
theorem dM_clear_1 : decode cM_clear 1 = .ok (.iconst 0, 1) := by decide +kernel
theorem dM_clear_2 : decode cM_clear 2 = .ok (.putfield 78, 3) := by decide +kernel
theorem dM_clear_5 : decode cM_clear 5 = .ok (.return_, 1) := by decide +kernel
abbrev cM_length : ByteArray := prog_9_method_9_code
def yM_length : MethodName := ⟨"PostIndexModel", "length", "()I"⟩
def fM_length (d : Nat) : zF := (cM_length, 1, yM_length, (some .int), d, 0, 0)
theorem meM_length (d : Nat) : zMe (fM_length d) 0 := ⟨(zA3 (i := 126) rfl rfl), (zA1 (i := 8) rfl rfl), by show "PostIndexModel" ≠ _; decide +kernel, by show "PostIndexModel" ≠ _; decide +kernel, by show (parseMethodDescriptor "()I").map _ = _; decide +kernel⟩
theorem dM_length_0 : decode cM_length 0 = .ok (.aload_n 0, 1) := by decide +kernel
theorem dM_length_1 : decode cM_length 1 = .ok (.getfield 78, 3) := by decide +kernel
theorem dM_length_4 : decode cM_length 4 = .ok (.ireturn, 1) := by decide +kernel
abbrev cM_post : ByteArray := prog_9_method_10_code
def yM_post : MethodName := ⟨"PostIndexModel", "post", "(II)I"⟩
def fM_post (d : Nat) : zF := (cM_post, 4, yM_post, (some .int), d, 0, 0)
theorem meM_post (d : Nat) : zMe (fM_post d) 2 := ⟨(zA3 (i := 130) rfl rfl), (zA1 (i := 8) rfl rfl), by show "PostIndexModel" ≠ _; decide +kernel, by show "PostIndexModel" ≠ _; decide +kernel, by show (parseMethodDescriptor "(II)I").map _ = _; decide +kernel⟩
theorem dM_post_0 : decode cM_post 0 = .ok (.iload_n 1, 1) := by decide +kernel
theorem dM_post_1 : decode cM_post 1 = .ok (.ifCond .lt 31, 3) := by decide +kernel
theorem dM_post_4 : decode cM_post 4 = .ok (.iload_n 1, 1) := by decide +kernel
theorem dM_post_5 : decode cM_post 5 = .ok (.bipush 9, 2) := by decide +kernel
theorem dM_post_7 : decode cM_post 7 = .ok (.if_icmp .gt 25, 3) := by decide +kernel
theorem dM_post_10 : decode cM_post 10 = .ok (.aload_n 0, 1) := by decide +kernel
theorem dM_post_11 : decode cM_post 11 = .ok (.getfield 91, 3) := by decide +kernel
theorem flM_91 : zFld "PostIndexModel" 91 7 2 31 := ⟨RM, TM, rfl, by decide, inM, (zA3 (i := 6) rfl rfl)⟩
theorem dM_post_14 : decode cM_post 14 = .ok (.aload_n 0, 1) := by decide +kernel
theorem dM_post_15 : decode cM_post 15 = .ok (.getfield 82, 3) := by decide +kernel
theorem dM_post_18 : decode cM_post 18 = .ok (.isub, 1) := by decide +kernel
theorem dM_post_19 : decode cM_post 19 = .ok (.iconst 4, 1) := by decide +kernel
theorem dM_post_20 : decode cM_post 20 = .ok (.if_icmp .ge 12, 3) := by decide +kernel
theorem dM_post_23 : decode cM_post 23 = .ok (.aload_n 0, 1) := by decide +kernel
theorem dM_post_24 : decode cM_post 24 = .ok (.getfield 91, 3) := by decide +kernel
theorem dM_post_27 : decode cM_post 27 = .ok (.bipush 24, 2) := by decide +kernel
theorem dM_post_29 : decode cM_post 29 = .ok (.if_icmp .lt 5, 3) := by decide +kernel
theorem dM_post_32 : decode cM_post 32 = .ok (.iconst (-1), 1) := by decide +kernel
theorem dM_post_33 : decode cM_post 33 = .ok (.ireturn, 1) := by decide +kernel
theorem dM_post_34 : decode cM_post 34 = .ok (.aload_n 0, 1) := by decide +kernel
theorem dM_post_35 : decode cM_post 35 = .ok (.getfield 13, 3) := by decide +kernel
theorem dM_post_38 : decode cM_post 38 = .ok (.aload_n 0, 1) := by decide +kernel
theorem dM_post_39 : decode cM_post 39 = .ok (.getfield 91, 3) := by decide +kernel
theorem dM_post_42 : decode cM_post 42 = .ok (.iload_n 1, 1) := by decide +kernel
theorem dM_post_43 : decode cM_post 43 = .ok (.iastore, 1) := by decide +kernel
theorem dM_post_44 : decode cM_post 44 = .ok (.aload_n 0, 1) := by decide +kernel
theorem dM_post_45 : decode cM_post 45 = .ok (.getfield 16, 3) := by decide +kernel
theorem dM_post_48 : decode cM_post 48 = .ok (.aload_n 0, 1) := by decide +kernel
theorem dM_post_49 : decode cM_post 49 = .ok (.getfield 91, 3) := by decide +kernel
theorem dM_post_52 : decode cM_post 52 = .ok (.iload_n 2, 1) := by decide +kernel
theorem dM_post_53 : decode cM_post 53 = .ok (.iastore, 1) := by decide +kernel
theorem dM_post_54 : decode cM_post 54 = .ok (.aload_n 0, 1) := by decide +kernel
theorem dM_post_55 : decode cM_post 55 = .ok (.getfield 23, 3) := by decide +kernel
theorem dM_post_58 : decode cM_post 58 = .ok (.aload_n 0, 1) := by decide +kernel
theorem dM_post_59 : decode cM_post 59 = .ok (.getfield 91, 3) := by decide +kernel
theorem dM_post_62 : decode cM_post 62 = .ok (.aload_n 0, 1) := by decide +kernel
theorem dM_post_63 : decode cM_post 63 = .ok (.getfield 78, 3) := by decide +kernel
theorem dM_post_66 : decode cM_post 66 = .ok (.iastore, 1) := by decide +kernel
theorem dM_post_67 : decode cM_post 67 = .ok (.iconst 0, 1) := by decide +kernel
theorem dM_post_68 : decode cM_post 68 = .ok (.istore_n 3, 1) := by decide +kernel
theorem dM_post_69 : decode cM_post 69 = .ok (.iload_n 3, 1) := by decide +kernel
theorem dM_post_70 : decode cM_post 70 = .ok (.aload_n 0, 1) := by decide +kernel
theorem dM_post_71 : decode cM_post 71 = .ok (.getfield 78, 3) := by decide +kernel
theorem dM_post_74 : decode cM_post 74 = .ok (.if_icmp .ge 29, 3) := by decide +kernel
theorem dM_post_77 : decode cM_post 77 = .ok (.aload_n 0, 1) := by decide +kernel
theorem dM_post_78 : decode cM_post 78 = .ok (.getfield 26, 3) := by decide +kernel
theorem dM_post_81 : decode cM_post 81 = .ok (.bipush 24, 2) := by decide +kernel
theorem dM_post_83 : decode cM_post 83 = .ok (.aload_n 0, 1) := by decide +kernel
theorem dM_post_84 : decode cM_post 84 = .ok (.getfield 91, 3) := by decide +kernel
theorem dM_post_87 : decode cM_post 87 = .ok (.imul, 1) := by decide +kernel
theorem dM_post_88 : decode cM_post 88 = .ok (.iload_n 3, 1) := by decide +kernel
theorem dM_post_89 : decode cM_post 89 = .ok (.iadd, 1) := by decide +kernel
theorem dM_post_90 : decode cM_post 90 = .ok (.aload_n 0, 1) := by decide +kernel
theorem dM_post_91 : decode cM_post 91 = .ok (.getfield 7, 3) := by decide +kernel
theorem dM_post_94 : decode cM_post 94 = .ok (.iload_n 3, 1) := by decide +kernel
theorem dM_post_95 : decode cM_post 95 = .ok (.iaload, 1) := by decide +kernel
theorem dM_post_96 : decode cM_post 96 = .ok (.iastore, 1) := by decide +kernel
theorem dM_post_97 : decode cM_post 97 = .ok (.iinc 3 1, 3) := by decide +kernel
theorem dM_post_100 : decode cM_post 100 = .ok (.goto (-31), 3) := by decide +kernel
theorem dM_post_103 : decode cM_post 103 = .ok (.aload_n 0, 1) := by decide +kernel
theorem dM_post_104 : decode cM_post 104 = .ok (.iconst 0, 1) := by decide +kernel
theorem dM_post_105 : decode cM_post 105 = .ok (.putfield 78, 3) := by decide +kernel
theorem dM_post_108 : decode cM_post 108 = .ok (.aload_n 0, 1) := by decide +kernel
theorem dM_post_109 : decode cM_post 109 = .ok (.aload_n 0, 1) := by decide +kernel
theorem dM_post_110 : decode cM_post 110 = .ok (.getfield 91, 3) := by decide +kernel
theorem dM_post_113 : decode cM_post 113 = .ok (.invokevirtual 94, 3) := by decide +kernel
theorem dM_post_116 : decode cM_post 116 = .ok (.aload_n 0, 1) := by decide +kernel
theorem dM_post_117 : decode cM_post 117 = .ok (.dup, 1) := by decide +kernel
theorem dM_post_118 : decode cM_post 118 = .ok (.getfield 91, 3) := by decide +kernel
theorem dM_post_121 : decode cM_post 121 = .ok (.iconst 1, 1) := by decide +kernel
theorem dM_post_122 : decode cM_post 122 = .ok (.iadd, 1) := by decide +kernel
theorem dM_post_123 : decode cM_post 123 = .ok (.putfield 91, 3) := by decide +kernel
theorem dM_post_126 : decode cM_post 126 = .ok (.aload_n 0, 1) := by decide +kernel
theorem dM_post_127 : decode cM_post 127 = .ok (.getfield 91, 3) := by decide +kernel
theorem dM_post_130 : decode cM_post 130 = .ok (.iconst 1, 1) := by decide +kernel
theorem dM_post_131 : decode cM_post 131 = .ok (.isub, 1) := by decide +kernel
theorem dM_post_132 : decode cM_post 132 = .ok (.ireturn, 1) := by decide +kernel
abbrev cM_cut : ByteArray := prog_9_method_11_code
def yM_cut : MethodName := ⟨"PostIndexModel", "cut", "(I)V"⟩
def fM_cut (d : Nat) : zF := (cM_cut, 8, yM_cut, none, d, 0, 0)
theorem meM_cut (d : Nat) : zMe (fM_cut d) 1 := ⟨(zA3 (i := 134) rfl rfl), (zA1 (i := 8) rfl rfl), by show "PostIndexModel" ≠ _; decide +kernel, by show "PostIndexModel" ≠ _; decide +kernel, by show (parseMethodDescriptor "(I)V").map _ = _; decide +kernel⟩
theorem dM_cut_0 : decode cM_cut 0 = .ok (.iconst 0, 1) := by decide +kernel
theorem dM_cut_1 : decode cM_cut 1 = .ok (.istore_n 2, 1) := by decide +kernel
theorem dM_cut_2 : decode cM_cut 2 = .ok (.bipush 24, 2) := by decide +kernel
theorem dM_cut_4 : decode cM_cut 4 = .ok (.iload_n 1, 1) := by decide +kernel
theorem dM_cut_5 : decode cM_cut 5 = .ok (.imul, 1) := by decide +kernel
theorem dM_cut_6 : decode cM_cut 6 = .ok (.istore_n 3, 1) := by decide +kernel
theorem dM_cut_7 : decode cM_cut 7 = .ok (.iconst 0, 1) := by decide +kernel
theorem dM_cut_8 : decode cM_cut 8 = .ok (.istore 4, 2) := by decide +kernel
theorem dM_cut_10 : decode cM_cut 10 = .ok (.iload 4, 2) := by decide +kernel
theorem dM_cut_12 : decode cM_cut 12 = .ok (.aload_n 0, 1) := by decide +kernel
theorem dM_cut_13 : decode cM_cut 13 = .ok (.getfield 23, 3) := by decide +kernel
theorem dM_cut_16 : decode cM_cut 16 = .ok (.iload_n 1, 1) := by decide +kernel
theorem dM_cut_17 : decode cM_cut 17 = .ok (.iaload, 1) := by decide +kernel
theorem dM_cut_18 : decode cM_cut 18 = .ok (.if_icmp .ge 183, 3) := by decide +kernel
theorem dM_cut_21 : decode cM_cut 21 = .ok (.aload_n 0, 1) := by decide +kernel
theorem dM_cut_22 : decode cM_cut 22 = .ok (.getfield 26, 3) := by decide +kernel
theorem dM_cut_25 : decode cM_cut 25 = .ok (.iload_n 3, 1) := by decide +kernel
theorem dM_cut_26 : decode cM_cut 26 = .ok (.iload 4, 2) := by decide +kernel
theorem dM_cut_28 : decode cM_cut 28 = .ok (.iadd, 1) := by decide +kernel
theorem dM_cut_29 : decode cM_cut 29 = .ok (.iaload, 1) := by decide +kernel
theorem dM_cut_30 : decode cM_cut 30 = .ok (.invokestatic 98, 3) := by decide +kernel
theorem dM_cut_33 : decode cM_cut 33 = .ok (.ifCond .eq 29, 3) := by decide +kernel
theorem dM_cut_36 : decode cM_cut 36 = .ok (.iload 4, 2) := by decide +kernel
theorem dM_cut_38 : decode cM_cut 38 = .ok (.ifCond .eq 20, 3) := by decide +kernel
theorem dM_cut_41 : decode cM_cut 41 = .ok (.aload_n 0, 1) := by decide +kernel
theorem dM_cut_42 : decode cM_cut 42 = .ok (.getfield 26, 3) := by decide +kernel
theorem dM_cut_45 : decode cM_cut 45 = .ok (.iload_n 3, 1) := by decide +kernel
theorem dM_cut_46 : decode cM_cut 46 = .ok (.iload 4, 2) := by decide +kernel
theorem dM_cut_48 : decode cM_cut 48 = .ok (.iadd, 1) := by decide +kernel
theorem dM_cut_49 : decode cM_cut 49 = .ok (.iconst 1, 1) := by decide +kernel
theorem dM_cut_50 : decode cM_cut 50 = .ok (.isub, 1) := by decide +kernel
theorem dM_cut_51 : decode cM_cut 51 = .ok (.iaload, 1) := by decide +kernel
theorem dM_cut_52 : decode cM_cut 52 = .ok (.invokestatic 98, 3) := by decide +kernel
theorem dM_cut_55 : decode cM_cut 55 = .ok (.ifCond .ne 7, 3) := by decide +kernel
theorem dM_cut_58 : decode cM_cut 58 = .ok (.iconst 1, 1) := by decide +kernel
theorem dM_cut_59 : decode cM_cut 59 = .ok (.goto 4, 3) := by decide +kernel
theorem dM_cut_62 : decode cM_cut 62 = .ok (.iconst 0, 1) := by decide +kernel
theorem dM_cut_63 : decode cM_cut 63 = .ok (.istore 5, 2) := by decide +kernel
theorem dM_cut_65 : decode cM_cut 65 = .ok (.iload 5, 2) := by decide +kernel
theorem dM_cut_67 : decode cM_cut 67 = .ok (.ifCond .eq 128, 3) := by decide +kernel
theorem dM_cut_70 : decode cM_cut 70 = .ok (.iload 4, 2) := by decide +kernel
theorem dM_cut_72 : decode cM_cut 72 = .ok (.ifCond .le 39, 3) := by decide +kernel
theorem dM_cut_75 : decode cM_cut 75 = .ok (.aload_n 0, 1) := by decide +kernel
theorem dM_cut_76 : decode cM_cut 76 = .ok (.getfield 26, 3) := by decide +kernel
theorem dM_cut_79 : decode cM_cut 79 = .ok (.iload_n 3, 1) := by decide +kernel
theorem dM_cut_80 : decode cM_cut 80 = .ok (.iload 4, 2) := by decide +kernel
theorem dM_cut_82 : decode cM_cut 82 = .ok (.iadd, 1) := by decide +kernel
theorem dM_cut_83 : decode cM_cut 83 = .ok (.iconst 1, 1) := by decide +kernel
theorem dM_cut_84 : decode cM_cut 84 = .ok (.isub, 1) := by decide +kernel
theorem dM_cut_85 : decode cM_cut 85 = .ok (.iaload, 1) := by decide +kernel
theorem dM_cut_86 : decode cM_cut 86 = .ok (.bipush 35, 2) := by decide +kernel
theorem dM_cut_88 : decode cM_cut 88 = .ok (.if_icmp .eq 19, 3) := by decide +kernel
theorem dM_cut_91 : decode cM_cut 91 = .ok (.aload_n 0, 1) := by decide +kernel
theorem dM_cut_92 : decode cM_cut 92 = .ok (.getfield 26, 3) := by decide +kernel
theorem dM_cut_95 : decode cM_cut 95 = .ok (.iload_n 3, 1) := by decide +kernel
theorem dM_cut_96 : decode cM_cut 96 = .ok (.iload 4, 2) := by decide +kernel
theorem dM_cut_98 : decode cM_cut 98 = .ok (.iadd, 1) := by decide +kernel
theorem dM_cut_99 : decode cM_cut 99 = .ok (.iconst 1, 1) := by decide +kernel
theorem dM_cut_100 : decode cM_cut 100 = .ok (.isub, 1) := by decide +kernel
theorem dM_cut_101 : decode cM_cut 101 = .ok (.iaload, 1) := by decide +kernel
theorem dM_cut_102 : decode cM_cut 102 = .ok (.bipush 64, 2) := by decide +kernel
theorem dM_cut_104 : decode cM_cut 104 = .ok (.if_icmp .ne 7, 3) := by decide +kernel
theorem dM_cut_107 : decode cM_cut 107 = .ok (.iconst 1, 1) := by decide +kernel
theorem dM_cut_108 : decode cM_cut 108 = .ok (.goto 4, 3) := by decide +kernel
theorem dM_cut_111 : decode cM_cut 111 = .ok (.iconst 0, 1) := by decide +kernel
theorem dM_cut_112 : decode cM_cut 112 = .ok (.istore 6, 2) := by decide +kernel
theorem dM_cut_114 : decode cM_cut 114 = .ok (.iload 4, 2) := by decide +kernel
theorem dM_cut_116 : decode cM_cut 116 = .ok (.istore 7, 2) := by decide +kernel
theorem dM_cut_118 : decode cM_cut 118 = .ok (.iload 7, 2) := by decide +kernel
theorem dM_cut_120 : decode cM_cut 120 = .ok (.aload_n 0, 1) := by decide +kernel
theorem dM_cut_121 : decode cM_cut 121 = .ok (.getfield 23, 3) := by decide +kernel
theorem dM_cut_124 : decode cM_cut 124 = .ok (.iload_n 1, 1) := by decide +kernel
theorem dM_cut_125 : decode cM_cut 125 = .ok (.iaload, 1) := by decide +kernel
theorem dM_cut_126 : decode cM_cut 126 = .ok (.if_icmp .ge 24, 3) := by decide +kernel
theorem dM_cut_129 : decode cM_cut 129 = .ok (.aload_n 0, 1) := by decide +kernel
theorem dM_cut_130 : decode cM_cut 130 = .ok (.getfield 26, 3) := by decide +kernel
theorem dM_cut_133 : decode cM_cut 133 = .ok (.iload_n 3, 1) := by decide +kernel
theorem dM_cut_134 : decode cM_cut 134 = .ok (.iload 7, 2) := by decide +kernel
theorem dM_cut_136 : decode cM_cut 136 = .ok (.iadd, 1) := by decide +kernel
theorem dM_cut_137 : decode cM_cut 137 = .ok (.iaload, 1) := by decide +kernel
theorem dM_cut_138 : decode cM_cut 138 = .ok (.invokestatic 98, 3) := by decide +kernel
theorem dM_cut_141 : decode cM_cut 141 = .ok (.ifCond .eq 9, 3) := by decide +kernel
theorem dM_cut_144 : decode cM_cut 144 = .ok (.iinc 7 1, 3) := by decide +kernel
theorem dM_cut_147 : decode cM_cut 147 = .ok (.goto (-29), 3) := by decide +kernel
theorem dM_cut_150 : decode cM_cut 150 = .ok (.aload_n 0, 1) := by decide +kernel
theorem dM_cut_151 : decode cM_cut 151 = .ok (.getfield 32, 3) := by decide +kernel
theorem dM_cut_154 : decode cM_cut 154 = .ok (.bipush 12, 2) := by decide +kernel
theorem dM_cut_156 : decode cM_cut 156 = .ok (.iload_n 1, 1) := by decide +kernel
theorem dM_cut_157 : decode cM_cut 157 = .ok (.imul, 1) := by decide +kernel
theorem dM_cut_158 : decode cM_cut 158 = .ok (.iload_n 2, 1) := by decide +kernel
theorem dM_cut_159 : decode cM_cut 159 = .ok (.iadd, 1) := by decide +kernel
theorem dM_cut_160 : decode cM_cut 160 = .ok (.iload_n 3, 1) := by decide +kernel
theorem dM_cut_161 : decode cM_cut 161 = .ok (.iload 6, 2) := by decide +kernel
theorem dM_cut_163 : decode cM_cut 163 = .ok (.ifCond .eq 10, 3) := by decide +kernel
theorem dM_cut_166 : decode cM_cut 166 = .ok (.iload 4, 2) := by decide +kernel
theorem dM_cut_168 : decode cM_cut 168 = .ok (.iconst 1, 1) := by decide +kernel
theorem dM_cut_169 : decode cM_cut 169 = .ok (.isub, 1) := by decide +kernel
theorem dM_cut_170 : decode cM_cut 170 = .ok (.goto 5, 3) := by decide +kernel
theorem dM_cut_173 : decode cM_cut 173 = .ok (.iload 4, 2) := by decide +kernel
theorem dM_cut_175 : decode cM_cut 175 = .ok (.iadd, 1) := by decide +kernel
theorem dM_cut_176 : decode cM_cut 176 = .ok (.iastore, 1) := by decide +kernel
theorem dM_cut_177 : decode cM_cut 177 = .ok (.aload_n 0, 1) := by decide +kernel
theorem dM_cut_178 : decode cM_cut 178 = .ok (.getfield 35, 3) := by decide +kernel
theorem dM_cut_181 : decode cM_cut 181 = .ok (.bipush 12, 2) := by decide +kernel
theorem dM_cut_183 : decode cM_cut 183 = .ok (.iload_n 1, 1) := by decide +kernel
theorem dM_cut_184 : decode cM_cut 184 = .ok (.imul, 1) := by decide +kernel
theorem dM_cut_185 : decode cM_cut 185 = .ok (.iload_n 2, 1) := by decide +kernel
theorem dM_cut_186 : decode cM_cut 186 = .ok (.iadd, 1) := by decide +kernel
theorem dM_cut_187 : decode cM_cut 187 = .ok (.iload_n 3, 1) := by decide +kernel
theorem dM_cut_188 : decode cM_cut 188 = .ok (.iload 7, 2) := by decide +kernel
theorem dM_cut_190 : decode cM_cut 190 = .ok (.iadd, 1) := by decide +kernel
theorem dM_cut_191 : decode cM_cut 191 = .ok (.iastore, 1) := by decide +kernel
theorem dM_cut_192 : decode cM_cut 192 = .ok (.iinc 2 1, 3) := by decide +kernel
theorem dM_cut_195 : decode cM_cut 195 = .ok (.iinc 4 1, 3) := by decide +kernel
theorem dM_cut_198 : decode cM_cut 198 = .ok (.goto (-188), 3) := by decide +kernel
theorem dM_cut_201 : decode cM_cut 201 = .ok (.aload_n 0, 1) := by decide +kernel
theorem dM_cut_202 : decode cM_cut 202 = .ok (.getfield 29, 3) := by decide +kernel
theorem dM_cut_205 : decode cM_cut 205 = .ok (.iload_n 1, 1) := by decide +kernel
theorem dM_cut_206 : decode cM_cut 206 = .ok (.iload_n 2, 1) := by decide +kernel
theorem dM_cut_207 : decode cM_cut 207 = .ok (.iastore, 1) := by decide +kernel
theorem dM_cut_208 : decode cM_cut 208 = .ok (.return_, 1) := by decide +kernel
abbrev cM_begun : ByteArray := prog_9_method_12_code
def yM_begun : MethodName := ⟨"PostIndexModel", "begun", "(I)Z"⟩
def fM_begun (d : Nat) : zF := (cM_begun, 2, yM_begun, (some .boolean), d, 0, 0)
theorem meM_begun (d : Nat) : zMe (fM_begun d) 1 := ⟨(zA3 (i := 118) rfl rfl), (zA1 (i := 8) rfl rfl), by show "PostIndexModel" ≠ _; decide +kernel, by show "PostIndexModel" ≠ _; decide +kernel, by show (parseMethodDescriptor "(I)Z").map _ = _; decide +kernel⟩
theorem dM_begun_0 : decode cM_begun 0 = .ok (.aload_n 0, 1) := by decide +kernel
theorem dM_begun_1 : decode cM_begun 1 = .ok (.getfield 82, 3) := by decide +kernel
theorem dM_begun_4 : decode cM_begun 4 = .ok (.iconst 4, 1) := by decide +kernel
theorem dM_begun_5 : decode cM_begun 5 = .ok (.iload_n 1, 1) := by decide +kernel
theorem dM_begun_6 : decode cM_begun 6 = .ok (.imul, 1) := by decide +kernel
theorem dM_begun_7 : decode cM_begun 7 = .ok (.if_icmp .gt 20, 3) := by decide +kernel
theorem dM_begun_10 : decode cM_begun 10 = .ok (.aload_n 0, 1) := by decide +kernel
theorem dM_begun_11 : decode cM_begun 11 = .ok (.getfield 82, 3) := by decide +kernel
theorem dM_begun_14 : decode cM_begun 14 = .ok (.iconst 4, 1) := by decide +kernel
theorem dM_begun_15 : decode cM_begun 15 = .ok (.iload_n 1, 1) := by decide +kernel
theorem dM_begun_16 : decode cM_begun 16 = .ok (.imul, 1) := by decide +kernel
theorem dM_begun_17 : decode cM_begun 17 = .ok (.if_icmp .ne 14, 3) := by decide +kernel
theorem dM_begun_20 : decode cM_begun 20 = .ok (.aload_n 0, 1) := by decide +kernel
theorem dM_begun_21 : decode cM_begun 21 = .ok (.getfield 101, 3) := by decide +kernel
theorem flM_101 : zFld "PostIndexModel" 101 7 4 31 := ⟨RM, TM, rfl, by decide, inM, (zA3 (i := 8) rfl rfl)⟩
theorem dM_begun_24 : decode cM_begun 24 = .ok (.ifCond .le 7, 3) := by decide +kernel
theorem dM_begun_27 : decode cM_begun 27 = .ok (.iconst 1, 1) := by decide +kernel
theorem dM_begun_28 : decode cM_begun 28 = .ok (.goto 4, 3) := by decide +kernel
theorem dM_begun_31 : decode cM_begun 31 = .ok (.iconst 0, 1) := by decide +kernel
theorem dM_begun_32 : decode cM_begun 32 = .ok (.ireturn, 1) := by decide +kernel
abbrev cM_live : ByteArray := prog_9_method_13_code
def yM_live : MethodName := ⟨"PostIndexModel", "live", "(I)Z"⟩
def fM_live (d : Nat) : zF := (cM_live, 2, yM_live, (some .boolean), d, 0, 0)
theorem meM_live (d : Nat) : zMe (fM_live d) 1 := ⟨(zA3 (i := 114) rfl rfl), (zA1 (i := 8) rfl rfl), by show "PostIndexModel" ≠ _; decide +kernel, by show "PostIndexModel" ≠ _; decide +kernel, by show (parseMethodDescriptor "(I)Z").map _ = _; decide +kernel⟩
theorem dM_live_0 : decode cM_live 0 = .ok (.aload_n 0, 1) := by decide +kernel
theorem dM_live_1 : decode cM_live 1 = .ok (.iload_n 1, 1) := by decide +kernel
theorem dM_live_2 : decode cM_live 2 = .ok (.invokevirtual 104, 3) := by decide +kernel
theorem dM_live_5 : decode cM_live 5 = .ok (.ifCond .eq 17, 3) := by decide +kernel
theorem dM_live_8 : decode cM_live 8 = .ok (.aload_n 0, 1) := by decide +kernel
theorem dM_live_9 : decode cM_live 9 = .ok (.iload_n 1, 1) := by decide +kernel
theorem dM_live_10 : decode cM_live 10 = .ok (.iconst 3, 1) := by decide +kernel
theorem dM_live_11 : decode cM_live 11 = .ok (.iadd, 1) := by decide +kernel
theorem dM_live_12 : decode cM_live 12 = .ok (.invokevirtual 104, 3) := by decide +kernel
theorem dM_live_15 : decode cM_live 15 = .ok (.ifCond .ne 7, 3) := by decide +kernel
theorem dM_live_18 : decode cM_live 18 = .ok (.iconst 1, 1) := by decide +kernel
theorem dM_live_19 : decode cM_live 19 = .ok (.goto 4, 3) := by decide +kernel
theorem dM_live_22 : decode cM_live 22 = .ok (.iconst 0, 1) := by decide +kernel
theorem dM_live_23 : decode cM_live 23 = .ok (.ireturn, 1) := by decide +kernel
abbrev cM_full : ByteArray := prog_9_method_14_code
def yM_full : MethodName := ⟨"PostIndexModel", "full", "(I)Z"⟩
def fM_full (d : Nat) : zF := (cM_full, 2, yM_full, (some .boolean), d, 0, 0)
theorem meM_full (d : Nat) : zMe (fM_full d) 1 := ⟨(zA3 (i := 160) rfl rfl), (zA1 (i := 8) rfl rfl), by show "PostIndexModel" ≠ _; decide +kernel, by show "PostIndexModel" ≠ _; decide +kernel, by show (parseMethodDescriptor "(I)Z").map _ = _; decide +kernel⟩
theorem dM_full_0 : decode cM_full 0 = .ok (.aload_n 0, 1) := by decide +kernel
theorem dM_full_1 : decode cM_full 1 = .ok (.getfield 82, 3) := by decide +kernel
theorem dM_full_4 : decode cM_full 4 = .ok (.iconst 4, 1) := by decide +kernel
theorem dM_full_5 : decode cM_full 5 = .ok (.iload_n 1, 1) := by decide +kernel
theorem dM_full_6 : decode cM_full 6 = .ok (.imul, 1) := by decide +kernel
theorem dM_full_7 : decode cM_full 7 = .ok (.iconst 4, 1) := by decide +kernel
theorem dM_full_8 : decode cM_full 8 = .ok (.iadd, 1) := by decide +kernel
theorem dM_full_9 : decode cM_full 9 = .ok (.if_icmp .lt 7, 3) := by decide +kernel
theorem dM_full_12 : decode cM_full 12 = .ok (.iconst 1, 1) := by decide +kernel
theorem dM_full_13 : decode cM_full 13 = .ok (.goto 4, 3) := by decide +kernel
theorem dM_full_16 : decode cM_full 16 = .ok (.iconst 0, 1) := by decide +kernel
theorem dM_full_17 : decode cM_full 17 = .ok (.ireturn, 1) := by decide +kernel
abbrev cM_write : ByteArray := prog_9_method_15_code
def yM_write : MethodName := ⟨"PostIndexModel", "write", "(I)I"⟩
def fM_write (d : Nat) : zF := (cM_write, 3, yM_write, (some .int), d, 0, 0)
theorem meM_write (d : Nat) : zMe (fM_write d) 1 := ⟨(zA3 (i := 144) rfl rfl), (zA1 (i := 8) rfl rfl), by show "PostIndexModel" ≠ _; decide +kernel, by show "PostIndexModel" ≠ _; decide +kernel, by show (parseMethodDescriptor "(I)I").map _ = _; decide +kernel⟩
theorem dM_write_0 : decode cM_write 0 = .ok (.iload_n 1, 1) := by decide +kernel
theorem dM_write_1 : decode cM_write 1 = .ok (.iconst 1, 1) := by decide +kernel
theorem dM_write_2 : decode cM_write 2 = .ok (.if_icmp .lt 9, 3) := by decide +kernel
theorem dM_write_5 : decode cM_write 5 = .ok (.iload_n 1, 1) := by decide +kernel
theorem dM_write_6 : decode cM_write 6 = .ok (.bipush 6, 2) := by decide +kernel
theorem dM_write_8 : decode cM_write 8 = .ok (.if_icmp .le 5, 3) := by decide +kernel
theorem dM_write_11 : decode cM_write 11 = .ok (.iconst 0, 1) := by decide +kernel
theorem dM_write_12 : decode cM_write 12 = .ok (.ireturn, 1) := by decide +kernel
theorem dM_write_13 : decode cM_write 13 = .ok (.iconst 0, 1) := by decide +kernel
theorem dM_write_14 : decode cM_write 14 = .ok (.istore_n 2, 1) := by decide +kernel
theorem dM_write_15 : decode cM_write 15 = .ok (.iload_n 2, 1) := by decide +kernel
theorem dM_write_16 : decode cM_write 16 = .ok (.iload_n 1, 1) := by decide +kernel
theorem dM_write_17 : decode cM_write 17 = .ok (.if_icmp .ge 64, 3) := by decide +kernel
theorem dM_write_20 : decode cM_write 20 = .ok (.aload_n 0, 1) := by decide +kernel
theorem dM_write_21 : decode cM_write 21 = .ok (.getfield 82, 3) := by decide +kernel
theorem dM_write_24 : decode cM_write 24 = .ok (.aload_n 0, 1) := by decide +kernel
theorem dM_write_25 : decode cM_write 25 = .ok (.getfield 91, 3) := by decide +kernel
theorem dM_write_28 : decode cM_write 28 = .ok (.if_icmp .ge 53, 3) := by decide +kernel
theorem dM_write_31 : decode cM_write 31 = .ok (.aload_n 0, 1) := by decide +kernel
theorem dM_write_32 : decode cM_write 32 = .ok (.getfield 101, 3) := by decide +kernel
theorem dM_write_35 : decode cM_write 35 = .ok (.aload_n 0, 1) := by decide +kernel
theorem dM_write_36 : decode cM_write 36 = .ok (.getfield 29, 3) := by decide +kernel
theorem dM_write_39 : decode cM_write 39 = .ok (.aload_n 0, 1) := by decide +kernel
theorem dM_write_40 : decode cM_write 40 = .ok (.getfield 82, 3) := by decide +kernel
theorem dM_write_43 : decode cM_write 43 = .ok (.iaload, 1) := by decide +kernel
theorem dM_write_44 : decode cM_write 44 = .ok (.if_icmp .ge 16, 3) := by decide +kernel
theorem dM_write_47 : decode cM_write 47 = .ok (.aload_n 0, 1) := by decide +kernel
theorem dM_write_48 : decode cM_write 48 = .ok (.dup, 1) := by decide +kernel
theorem dM_write_49 : decode cM_write 49 = .ok (.getfield 101, 3) := by decide +kernel
theorem dM_write_52 : decode cM_write 52 = .ok (.iconst 1, 1) := by decide +kernel
theorem dM_write_53 : decode cM_write 53 = .ok (.iadd, 1) := by decide +kernel
theorem dM_write_54 : decode cM_write 54 = .ok (.putfield 101, 3) := by decide +kernel
theorem dM_write_57 : decode cM_write 57 = .ok (.goto 18, 3) := by decide +kernel
theorem dM_write_60 : decode cM_write 60 = .ok (.aload_n 0, 1) := by decide +kernel
theorem dM_write_61 : decode cM_write 61 = .ok (.dup, 1) := by decide +kernel
theorem dM_write_62 : decode cM_write 62 = .ok (.getfield 82, 3) := by decide +kernel
theorem dM_write_65 : decode cM_write 65 = .ok (.iconst 1, 1) := by decide +kernel
theorem dM_write_66 : decode cM_write 66 = .ok (.iadd, 1) := by decide +kernel
theorem dM_write_67 : decode cM_write 67 = .ok (.putfield 82, 3) := by decide +kernel
theorem dM_write_70 : decode cM_write 70 = .ok (.aload_n 0, 1) := by decide +kernel
theorem dM_write_71 : decode cM_write 71 = .ok (.iconst 0, 1) := by decide +kernel
theorem dM_write_72 : decode cM_write 72 = .ok (.putfield 101, 3) := by decide +kernel
theorem dM_write_75 : decode cM_write 75 = .ok (.iinc 2 1, 3) := by decide +kernel
theorem dM_write_78 : decode cM_write 78 = .ok (.goto (-63), 3) := by decide +kernel
theorem dM_write_81 : decode cM_write 81 = .ok (.iload_n 2, 1) := by decide +kernel
theorem dM_write_82 : decode cM_write 82 = .ok (.ireturn, 1) := by decide +kernel
abbrev cM_published : ByteArray := prog_9_method_16_code
def yM_published : MethodName := ⟨"PostIndexModel", "published", "()I"⟩
def fM_published (d : Nat) : zF := (cM_published, 1, yM_published, (some .int), d, 0, 0)
theorem meM_published (d : Nat) : zMe (fM_published d) 0 := ⟨(zA3 (i := 148) rfl rfl), (zA1 (i := 8) rfl rfl), by show "PostIndexModel" ≠ _; decide +kernel, by show "PostIndexModel" ≠ _; decide +kernel, by show (parseMethodDescriptor "()I").map _ = _; decide +kernel⟩
theorem dM_published_0 : decode cM_published 0 = .ok (.aload_n 0, 1) := by decide +kernel
theorem dM_published_1 : decode cM_published 1 = .ok (.getfield 82, 3) := by decide +kernel
theorem dM_published_4 : decode cM_published 4 = .ok (.ireturn, 1) := by decide +kernel
abbrev cM_erase : ByteArray := prog_9_method_17_code
def yM_erase : MethodName := ⟨"PostIndexModel", "erase", "(I)Z"⟩
def fM_erase (d : Nat) : zF := (cM_erase, 2, yM_erase, (some .boolean), d, 0, 0)
theorem meM_erase (d : Nat) : zMe (fM_erase d) 1 := ⟨(zA3 (i := 152) rfl rfl), (zA1 (i := 8) rfl rfl), by show "PostIndexModel" ≠ _; decide +kernel, by show "PostIndexModel" ≠ _; decide +kernel, by show (parseMethodDescriptor "(I)Z").map _ = _; decide +kernel⟩
theorem dM_erase_0 : decode cM_erase 0 = .ok (.aload_n 0, 1) := by decide +kernel
theorem dM_erase_1 : decode cM_erase 1 = .ok (.iload_n 1, 1) := by decide +kernel
theorem dM_erase_2 : decode cM_erase 2 = .ok (.invokevirtual 88, 3) := by decide +kernel
theorem dM_erase_5 : decode cM_erase 5 = .ok (.ifCond .ne 5, 3) := by decide +kernel
theorem dM_erase_8 : decode cM_erase 8 = .ok (.iconst 0, 1) := by decide +kernel
theorem dM_erase_9 : decode cM_erase 9 = .ok (.ireturn, 1) := by decide +kernel
theorem dM_erase_10 : decode cM_erase 10 = .ok (.aload_n 0, 1) := by decide +kernel
theorem dM_erase_11 : decode cM_erase 11 = .ok (.getfield 19, 3) := by decide +kernel
theorem dM_erase_14 : decode cM_erase 14 = .ok (.iload_n 1, 1) := by decide +kernel
theorem dM_erase_15 : decode cM_erase 15 = .ok (.iconst 1, 1) := by decide +kernel
theorem dM_erase_16 : decode cM_erase 16 = .ok (.bastore, 1) := by decide +kernel
theorem dM_erase_17 : decode cM_erase 17 = .ok (.iconst 1, 1) := by decide +kernel
theorem dM_erase_18 : decode cM_erase 18 = .ok (.ireturn, 1) := by decide +kernel
abbrev cM_indexed : ByteArray := prog_9_method_18_code
def yM_indexed : MethodName := ⟨"PostIndexModel", "indexed", "(I)I"⟩
def fM_indexed (d : Nat) : zF := (cM_indexed, 2, yM_indexed, (some .int), d, 0, 0)
theorem meM_indexed (d : Nat) : zMe (fM_indexed d) 1 := ⟨(zA3 (i := 168) rfl rfl), (zA1 (i := 8) rfl rfl), by show "PostIndexModel" ≠ _; decide +kernel, by show "PostIndexModel" ≠ _; decide +kernel, by show (parseMethodDescriptor "(I)I").map _ = _; decide +kernel⟩
theorem dM_indexed_0 : decode cM_indexed 0 = .ok (.iload_n 1, 1) := by decide +kernel
theorem dM_indexed_1 : decode cM_indexed 1 = .ok (.aload_n 0, 1) := by decide +kernel
theorem dM_indexed_2 : decode cM_indexed 2 = .ok (.getfield 82, 3) := by decide +kernel
theorem dM_indexed_5 : decode cM_indexed 5 = .ok (.if_icmp .ge 12, 3) := by decide +kernel
theorem dM_indexed_8 : decode cM_indexed 8 = .ok (.aload_n 0, 1) := by decide +kernel
theorem dM_indexed_9 : decode cM_indexed 9 = .ok (.getfield 29, 3) := by decide +kernel
theorem dM_indexed_12 : decode cM_indexed 12 = .ok (.iload_n 1, 1) := by decide +kernel
theorem dM_indexed_13 : decode cM_indexed 13 = .ok (.iaload, 1) := by decide +kernel
theorem dM_indexed_14 : decode cM_indexed 14 = .ok (.goto 27, 3) := by decide +kernel
theorem dM_indexed_17 : decode cM_indexed 17 = .ok (.iload_n 1, 1) := by decide +kernel
theorem dM_indexed_18 : decode cM_indexed 18 = .ok (.aload_n 0, 1) := by decide +kernel
theorem dM_indexed_19 : decode cM_indexed 19 = .ok (.getfield 82, 3) := by decide +kernel
theorem dM_indexed_22 : decode cM_indexed 22 = .ok (.if_icmp .ne 18, 3) := by decide +kernel
theorem dM_indexed_25 : decode cM_indexed 25 = .ok (.iload_n 1, 1) := by decide +kernel
theorem dM_indexed_26 : decode cM_indexed 26 = .ok (.aload_n 0, 1) := by decide +kernel
theorem dM_indexed_27 : decode cM_indexed 27 = .ok (.getfield 91, 3) := by decide +kernel
theorem dM_indexed_30 : decode cM_indexed 30 = .ok (.if_icmp .ge 10, 3) := by decide +kernel
theorem dM_indexed_33 : decode cM_indexed 33 = .ok (.aload_n 0, 1) := by decide +kernel
theorem dM_indexed_34 : decode cM_indexed 34 = .ok (.getfield 101, 3) := by decide +kernel
theorem dM_indexed_37 : decode cM_indexed 37 = .ok (.goto 4, 3) := by decide +kernel
theorem dM_indexed_40 : decode cM_indexed 40 = .ok (.iconst 0, 1) := by decide +kernel
theorem dM_indexed_41 : decode cM_indexed 41 = .ok (.ireturn, 1) := by decide +kernel
abbrev cM_same : ByteArray := prog_9_method_19_code
def yM_same : MethodName := ⟨"PostIndexModel", "same", "(II)Z"⟩
def fM_same (d : Nat) : zF := (cM_same, 6, yM_same, (some .boolean), d, 0, 0)
theorem meM_same (d : Nat) : zMe (fM_same d) 2 := ⟨(zA3 (i := 176) rfl rfl), (zA1 (i := 8) rfl rfl), by show "PostIndexModel" ≠ _; decide +kernel, by show "PostIndexModel" ≠ _; decide +kernel, by show (parseMethodDescriptor "(II)Z").map _ = _; decide +kernel⟩
theorem dM_same_0 : decode cM_same 0 = .ok (.aload_n 0, 1) := by decide +kernel
theorem dM_same_1 : decode cM_same 1 = .ok (.getfield 35, 3) := by decide +kernel
theorem dM_same_4 : decode cM_same 4 = .ok (.iload_n 1, 1) := by decide +kernel
theorem dM_same_5 : decode cM_same 5 = .ok (.iaload, 1) := by decide +kernel
theorem dM_same_6 : decode cM_same 6 = .ok (.aload_n 0, 1) := by decide +kernel
theorem dM_same_7 : decode cM_same 7 = .ok (.getfield 32, 3) := by decide +kernel
theorem dM_same_10 : decode cM_same 10 = .ok (.iload_n 1, 1) := by decide +kernel
theorem dM_same_11 : decode cM_same 11 = .ok (.iaload, 1) := by decide +kernel
theorem dM_same_12 : decode cM_same 12 = .ok (.isub, 1) := by decide +kernel
theorem dM_same_13 : decode cM_same 13 = .ok (.istore_n 3, 1) := by decide +kernel
theorem dM_same_14 : decode cM_same 14 = .ok (.iload_n 3, 1) := by decide +kernel
theorem dM_same_15 : decode cM_same 15 = .ok (.aload_n 0, 1) := by decide +kernel
theorem dM_same_16 : decode cM_same 16 = .ok (.getfield 35, 3) := by decide +kernel
theorem dM_same_19 : decode cM_same 19 = .ok (.iload_n 2, 1) := by decide +kernel
theorem dM_same_20 : decode cM_same 20 = .ok (.iaload, 1) := by decide +kernel
theorem dM_same_21 : decode cM_same 21 = .ok (.aload_n 0, 1) := by decide +kernel
theorem dM_same_22 : decode cM_same 22 = .ok (.getfield 32, 3) := by decide +kernel
theorem dM_same_25 : decode cM_same 25 = .ok (.iload_n 2, 1) := by decide +kernel
theorem dM_same_26 : decode cM_same 26 = .ok (.iaload, 1) := by decide +kernel
theorem dM_same_27 : decode cM_same 27 = .ok (.isub, 1) := by decide +kernel
theorem dM_same_28 : decode cM_same 28 = .ok (.if_icmp .ne 7, 3) := by decide +kernel
theorem dM_same_31 : decode cM_same 31 = .ok (.iconst 1, 1) := by decide +kernel
theorem dM_same_32 : decode cM_same 32 = .ok (.goto 4, 3) := by decide +kernel
theorem dM_same_35 : decode cM_same 35 = .ok (.iconst 0, 1) := by decide +kernel
theorem dM_same_36 : decode cM_same 36 = .ok (.istore 4, 2) := by decide +kernel
theorem dM_same_38 : decode cM_same 38 = .ok (.iconst 0, 1) := by decide +kernel
theorem dM_same_39 : decode cM_same 39 = .ok (.istore 5, 2) := by decide +kernel
theorem dM_same_41 : decode cM_same 41 = .ok (.iload 5, 2) := by decide +kernel
theorem dM_same_43 : decode cM_same 43 = .ok (.iload_n 3, 1) := by decide +kernel
theorem dM_same_44 : decode cM_same 44 = .ok (.if_icmp .ge 58, 3) := by decide +kernel
theorem dM_same_47 : decode cM_same 47 = .ok (.iload 4, 2) := by decide +kernel
theorem dM_same_49 : decode cM_same 49 = .ok (.ifCond .eq 53, 3) := by decide +kernel
theorem dM_same_52 : decode cM_same 52 = .ok (.aload_n 0, 1) := by decide +kernel
theorem dM_same_53 : decode cM_same 53 = .ok (.getfield 26, 3) := by decide +kernel
theorem dM_same_56 : decode cM_same 56 = .ok (.aload_n 0, 1) := by decide +kernel
theorem dM_same_57 : decode cM_same 57 = .ok (.getfield 32, 3) := by decide +kernel
theorem dM_same_60 : decode cM_same 60 = .ok (.iload_n 1, 1) := by decide +kernel
theorem dM_same_61 : decode cM_same 61 = .ok (.iaload, 1) := by decide +kernel
theorem dM_same_62 : decode cM_same 62 = .ok (.iload 5, 2) := by decide +kernel
theorem dM_same_64 : decode cM_same 64 = .ok (.iadd, 1) := by decide +kernel
theorem dM_same_65 : decode cM_same 65 = .ok (.iaload, 1) := by decide +kernel
theorem dM_same_66 : decode cM_same 66 = .ok (.invokestatic 107, 3) := by decide +kernel
theorem dM_same_69 : decode cM_same 69 = .ok (.aload_n 0, 1) := by decide +kernel
theorem dM_same_70 : decode cM_same 70 = .ok (.getfield 26, 3) := by decide +kernel
theorem dM_same_73 : decode cM_same 73 = .ok (.aload_n 0, 1) := by decide +kernel
theorem dM_same_74 : decode cM_same 74 = .ok (.getfield 32, 3) := by decide +kernel
end
section
theorem dM_same_77 : decode cM_same 77 = .ok (.iload_n 2, 1) := by decide +kernel
theorem dM_same_78 : decode cM_same 78 = .ok (.iaload, 1) := by decide +kernel
theorem dM_same_79 : decode cM_same 79 = .ok (.iload 5, 2) := by decide +kernel
theorem dM_same_81 : decode cM_same 81 = .ok (.iadd, 1) := by decide +kernel
theorem dM_same_82 : decode cM_same 82 = .ok (.iaload, 1) := by decide +kernel
theorem dM_same_83 : decode cM_same 83 = .ok (.invokestatic 107, 3) := by decide +kernel
theorem dM_same_86 : decode cM_same 86 = .ok (.if_icmp .ne 7, 3) := by decide +kernel
theorem dM_same_89 : decode cM_same 89 = .ok (.iconst 1, 1) := by decide +kernel
theorem dM_same_90 : decode cM_same 90 = .ok (.goto 4, 3) := by decide +kernel
theorem dM_same_93 : decode cM_same 93 = .ok (.iconst 0, 1) := by decide +kernel
theorem dM_same_94 : decode cM_same 94 = .ok (.istore 4, 2) := by decide +kernel
theorem dM_same_96 : decode cM_same 96 = .ok (.iinc 5 1, 3) := by decide +kernel
theorem dM_same_99 : decode cM_same 99 = .ok (.goto (-58), 3) := by decide +kernel
theorem dM_same_102 : decode cM_same 102 = .ok (.iload 4, 2) := by decide +kernel
theorem dM_same_104 : decode cM_same 104 = .ok (.ireturn, 1) := by decide +kernel
abbrev cM_isFirst : ByteArray := prog_9_method_20_code
def yM_isFirst : MethodName := ⟨"PostIndexModel", "isFirst", "(II)Z"⟩
def fM_isFirst (d : Nat) : zF := (cM_isFirst, 6, yM_isFirst, (some .boolean), d, 0, 0)
theorem meM_isFirst (d : Nat) : zMe (fM_isFirst d) 2 := ⟨(zA3 (i := 172) rfl rfl), (zA1 (i := 8) rfl rfl), by show "PostIndexModel" ≠ _; decide +kernel, by show "PostIndexModel" ≠ _; decide +kernel, by show (parseMethodDescriptor "(II)Z").map _ = _; decide +kernel⟩
theorem dM_isFirst_0 : decode cM_isFirst 0 = .ok (.iload_n 1, 1) := by decide +kernel
theorem dM_isFirst_1 : decode cM_isFirst 1 = .ok (.iconst 4, 1) := by decide +kernel
theorem dM_isFirst_2 : decode cM_isFirst 2 = .ok (.idiv, 1) := by decide +kernel
theorem dM_isFirst_3 : decode cM_isFirst 3 = .ok (.iconst 4, 1) := by decide +kernel
theorem dM_isFirst_4 : decode cM_isFirst 4 = .ok (.imul, 1) := by decide +kernel
theorem dM_isFirst_5 : decode cM_isFirst 5 = .ok (.istore_n 3, 1) := by decide +kernel
theorem dM_isFirst_6 : decode cM_isFirst 6 = .ok (.iload_n 3, 1) := by decide +kernel
theorem dM_isFirst_7 : decode cM_isFirst 7 = .ok (.iload_n 1, 1) := by decide +kernel
theorem dM_isFirst_8 : decode cM_isFirst 8 = .ok (.if_icmp .gt 63, 3) := by decide +kernel
theorem dM_isFirst_11 : decode cM_isFirst 11 = .ok (.iload_n 3, 1) := by decide +kernel
theorem dM_isFirst_12 : decode cM_isFirst 12 = .ok (.iload_n 1, 1) := by decide +kernel
theorem dM_isFirst_13 : decode cM_isFirst 13 = .ok (.if_icmp .ge 11, 3) := by decide +kernel
theorem dM_isFirst_16 : decode cM_isFirst 16 = .ok (.aload_n 0, 1) := by decide +kernel
theorem dM_isFirst_17 : decode cM_isFirst 17 = .ok (.iload_n 3, 1) := by decide +kernel
theorem dM_isFirst_18 : decode cM_isFirst 18 = .ok (.invokevirtual 111, 3) := by decide +kernel
theorem dM_isFirst_21 : decode cM_isFirst 21 = .ok (.goto 4, 3) := by decide +kernel
theorem dM_isFirst_24 : decode cM_isFirst 24 = .ok (.iload_n 2, 1) := by decide +kernel
theorem dM_isFirst_25 : decode cM_isFirst 25 = .ok (.istore 4, 2) := by decide +kernel
theorem dM_isFirst_27 : decode cM_isFirst 27 = .ok (.iconst 0, 1) := by decide +kernel
theorem dM_isFirst_28 : decode cM_isFirst 28 = .ok (.istore 5, 2) := by decide +kernel
theorem dM_isFirst_30 : decode cM_isFirst 30 = .ok (.iload 5, 2) := by decide +kernel
theorem dM_isFirst_32 : decode cM_isFirst 32 = .ok (.iload 4, 2) := by decide +kernel
theorem dM_isFirst_34 : decode cM_isFirst 34 = .ok (.if_icmp .ge 31, 3) := by decide +kernel
theorem dM_isFirst_37 : decode cM_isFirst 37 = .ok (.aload_n 0, 1) := by decide +kernel
theorem dM_isFirst_38 : decode cM_isFirst 38 = .ok (.bipush 12, 2) := by decide +kernel
theorem dM_isFirst_40 : decode cM_isFirst 40 = .ok (.iload_n 3, 1) := by decide +kernel
theorem dM_isFirst_41 : decode cM_isFirst 41 = .ok (.imul, 1) := by decide +kernel
theorem dM_isFirst_42 : decode cM_isFirst 42 = .ok (.iload 5, 2) := by decide +kernel
theorem dM_isFirst_44 : decode cM_isFirst 44 = .ok (.iadd, 1) := by decide +kernel
theorem dM_isFirst_45 : decode cM_isFirst 45 = .ok (.bipush 12, 2) := by decide +kernel
theorem dM_isFirst_47 : decode cM_isFirst 47 = .ok (.iload_n 1, 1) := by decide +kernel
theorem dM_isFirst_48 : decode cM_isFirst 48 = .ok (.imul, 1) := by decide +kernel
theorem dM_isFirst_49 : decode cM_isFirst 49 = .ok (.iload_n 2, 1) := by decide +kernel
theorem dM_isFirst_50 : decode cM_isFirst 50 = .ok (.iadd, 1) := by decide +kernel
theorem dM_isFirst_51 : decode cM_isFirst 51 = .ok (.invokevirtual 114, 3) := by decide +kernel
theorem dM_isFirst_54 : decode cM_isFirst 54 = .ok (.ifCond .eq 5, 3) := by decide +kernel
theorem dM_isFirst_57 : decode cM_isFirst 57 = .ok (.iconst 0, 1) := by decide +kernel
theorem dM_isFirst_58 : decode cM_isFirst 58 = .ok (.ireturn, 1) := by decide +kernel
theorem dM_isFirst_59 : decode cM_isFirst 59 = .ok (.iinc 5 1, 3) := by decide +kernel
theorem dM_isFirst_62 : decode cM_isFirst 62 = .ok (.goto (-32), 3) := by decide +kernel
theorem dM_isFirst_65 : decode cM_isFirst 65 = .ok (.iinc 3 1, 3) := by decide +kernel
theorem dM_isFirst_68 : decode cM_isFirst 68 = .ok (.goto (-62), 3) := by decide +kernel
theorem dM_isFirst_71 : decode cM_isFirst 71 = .ok (.iconst 1, 1) := by decide +kernel
theorem dM_isFirst_72 : decode cM_isFirst 72 = .ok (.ireturn, 1) := by decide +kernel
abbrev cM_posted : ByteArray := prog_9_method_21_code
def yM_posted : MethodName := ⟨"PostIndexModel", "posted", "(III)Z"⟩
def fM_posted (d : Nat) : zF := (cM_posted, 5, yM_posted, (some .boolean), d, 0, 0)
theorem meM_posted (d : Nat) : zMe (fM_posted d) 3 := ⟨(zA3 (i := 187) rfl rfl), (zA1 (i := 8) rfl rfl), by show "PostIndexModel" ≠ _; decide +kernel, by show "PostIndexModel" ≠ _; decide +kernel, by show (parseMethodDescriptor "(III)Z").map _ = _; decide +kernel⟩
theorem dM_posted_0 : decode cM_posted 0 = .ok (.iload_n 2, 1) := by decide +kernel
theorem dM_posted_1 : decode cM_posted 1 = .ok (.istore 4, 2) := by decide +kernel
theorem dM_posted_3 : decode cM_posted 3 = .ok (.iload 4, 2) := by decide +kernel
theorem dM_posted_5 : decode cM_posted 5 = .ok (.aload_n 0, 1) := by decide +kernel
theorem dM_posted_6 : decode cM_posted 6 = .ok (.iload_n 1, 1) := by decide +kernel
theorem dM_posted_7 : decode cM_posted 7 = .ok (.invokevirtual 111, 3) := by decide +kernel
theorem dM_posted_10 : decode cM_posted 10 = .ok (.if_icmp .ge 38, 3) := by decide +kernel
theorem dM_posted_13 : decode cM_posted 13 = .ok (.iload 4, 2) := by decide +kernel
theorem dM_posted_15 : decode cM_posted 15 = .ok (.iload_n 2, 1) := by decide +kernel
theorem dM_posted_16 : decode cM_posted 16 = .ok (.if_icmp .eq 9, 3) := by decide +kernel
theorem dM_posted_19 : decode cM_posted 19 = .ok (.iload_n 2, 1) := by decide +kernel
theorem dM_posted_20 : decode cM_posted 20 = .ok (.bipush 7, 2) := by decide +kernel
theorem dM_posted_22 : decode cM_posted 22 = .ok (.if_icmp .ne 26, 3) := by decide +kernel
theorem dM_posted_25 : decode cM_posted 25 = .ok (.aload_n 0, 1) := by decide +kernel
theorem dM_posted_26 : decode cM_posted 26 = .ok (.bipush 12, 2) := by decide +kernel
theorem dM_posted_28 : decode cM_posted 28 = .ok (.iload_n 1, 1) := by decide +kernel
theorem dM_posted_29 : decode cM_posted 29 = .ok (.imul, 1) := by decide +kernel
theorem dM_posted_30 : decode cM_posted 30 = .ok (.iload 4, 2) := by decide +kernel
theorem dM_posted_32 : decode cM_posted 32 = .ok (.iadd, 1) := by decide +kernel
theorem dM_posted_33 : decode cM_posted 33 = .ok (.iload_n 3, 1) := by decide +kernel
theorem dM_posted_34 : decode cM_posted 34 = .ok (.invokevirtual 114, 3) := by decide +kernel
theorem dM_posted_37 : decode cM_posted 37 = .ok (.ifCond .eq 5, 3) := by decide +kernel
theorem dM_posted_40 : decode cM_posted 40 = .ok (.iconst 1, 1) := by decide +kernel
theorem dM_posted_41 : decode cM_posted 41 = .ok (.ireturn, 1) := by decide +kernel
theorem dM_posted_42 : decode cM_posted 42 = .ok (.iinc 4 1, 3) := by decide +kernel
theorem dM_posted_45 : decode cM_posted 45 = .ok (.goto (-42), 3) := by decide +kernel
theorem dM_posted_48 : decode cM_posted 48 = .ok (.iconst 0, 1) := by decide +kernel
theorem dM_posted_49 : decode cM_posted 49 = .ok (.ireturn, 1) := by decide +kernel
abbrev cM_measure : ByteArray := prog_9_method_22_code
def yM_measure : MethodName := ⟨"PostIndexModel", "measure", "(III)I"⟩
def fM_measure (d : Nat) : zF := (cM_measure, 10, yM_measure, (some .int), d, 0, 0)
theorem meM_measure (d : Nat) : zMe (fM_measure d) 3 := ⟨(zA3 (i := 183) rfl rfl), (zA1 (i := 8) rfl rfl), by show "PostIndexModel" ≠ _; decide +kernel, by show "PostIndexModel" ≠ _; decide +kernel, by show (parseMethodDescriptor "(III)I").map _ = _; decide +kernel⟩
theorem dM_measure_0 : decode cM_measure 0 = .ok (.iconst 0, 1) := by decide +kernel
theorem dM_measure_1 : decode cM_measure 1 = .ok (.istore 4, 2) := by decide +kernel
theorem dM_measure_3 : decode cM_measure 3 = .ok (.bipush 32, 2) := by decide +kernel
theorem dM_measure_5 : decode cM_measure 5 = .ok (.istore 5, 2) := by decide +kernel
theorem dM_measure_7 : decode cM_measure 7 = .ok (.iconst 0, 1) := by decide +kernel
theorem dM_measure_8 : decode cM_measure 8 = .ok (.istore 6, 2) := by decide +kernel
theorem dM_measure_10 : decode cM_measure 10 = .ok (.bipush 31, 2) := by decide +kernel
theorem dM_measure_12 : decode cM_measure 12 = .ok (.istore 7, 2) := by decide +kernel
theorem dM_measure_14 : decode cM_measure 14 = .ok (.iload 7, 2) := by decide +kernel
theorem dM_measure_16 : decode cM_measure 16 = .ok (.ifCond .lt 72, 3) := by decide +kernel
theorem dM_measure_19 : decode cM_measure 19 = .ok (.aload_n 0, 1) := by decide +kernel
theorem dM_measure_20 : decode cM_measure 20 = .ok (.iconst 4, 1) := by decide +kernel
theorem dM_measure_21 : decode cM_measure 21 = .ok (.iload_n 1, 1) := by decide +kernel
theorem dM_measure_22 : decode cM_measure 22 = .ok (.imul, 1) := by decide +kernel
theorem dM_measure_23 : decode cM_measure 23 = .ok (.iload 7, 2) := by decide +kernel
theorem dM_measure_25 : decode cM_measure 25 = .ok (.bipush 8, 2) := by decide +kernel
theorem dM_measure_27 : decode cM_measure 27 = .ok (.idiv, 1) := by decide +kernel
theorem dM_measure_28 : decode cM_measure 28 = .ok (.iadd, 1) := by decide +kernel
theorem dM_measure_29 : decode cM_measure 29 = .ok (.iload 7, 2) := by decide +kernel
theorem dM_measure_31 : decode cM_measure 31 = .ok (.bipush 8, 2) := by decide +kernel
theorem dM_measure_33 : decode cM_measure 33 = .ok (.irem, 1) := by decide +kernel
theorem dM_measure_34 : decode cM_measure 34 = .ok (.iload_n 2, 1) := by decide +kernel
theorem dM_measure_35 : decode cM_measure 35 = .ok (.invokevirtual 118, 3) := by decide +kernel
theorem dM_measure_38 : decode cM_measure 38 = .ok (.ifCond .eq 44, 3) := by decide +kernel
theorem dM_measure_41 : decode cM_measure 41 = .ok (.iinc 4 1, 3) := by decide +kernel
theorem dM_measure_44 : decode cM_measure 44 = .ok (.iload 5, 2) := by decide +kernel
theorem dM_measure_46 : decode cM_measure 46 = .ok (.iload 7, 2) := by decide +kernel
theorem dM_measure_48 : decode cM_measure 48 = .ok (.isub, 1) := by decide +kernel
theorem dM_measure_49 : decode cM_measure 49 = .ok (.istore 8, 2) := by decide +kernel
theorem dM_measure_51 : decode cM_measure 51 = .ok (.iload 6, 2) := by decide +kernel
theorem dM_measure_53 : decode cM_measure 53 = .ok (.iload 8, 2) := by decide +kernel
theorem dM_measure_55 : decode cM_measure 55 = .ok (.iconst 4, 1) := by decide +kernel
theorem dM_measure_56 : decode cM_measure 56 = .ok (.if_icmp .ge 7, 3) := by decide +kernel
theorem dM_measure_59 : decode cM_measure 59 = .ok (.iconst 1, 1) := by decide +kernel
theorem dM_measure_60 : decode cM_measure 60 = .ok (.goto 15, 3) := by decide +kernel
theorem dM_measure_63 : decode cM_measure 63 = .ok (.iload 8, 2) := by decide +kernel
theorem dM_measure_65 : decode cM_measure 65 = .ok (.bipush 16, 2) := by decide +kernel
theorem dM_measure_67 : decode cM_measure 67 = .ok (.if_icmp .ge 7, 3) := by decide +kernel
theorem dM_measure_70 : decode cM_measure 70 = .ok (.iconst 2, 1) := by decide +kernel
theorem dM_measure_71 : decode cM_measure 71 = .ok (.goto 4, 3) := by decide +kernel
theorem dM_measure_74 : decode cM_measure 74 = .ok (.iconst 3, 1) := by decide +kernel
theorem dM_measure_75 : decode cM_measure 75 = .ok (.iadd, 1) := by decide +kernel
theorem dM_measure_76 : decode cM_measure 76 = .ok (.istore 6, 2) := by decide +kernel
theorem dM_measure_78 : decode cM_measure 78 = .ok (.iload 7, 2) := by decide +kernel
theorem dM_measure_80 : decode cM_measure 80 = .ok (.istore 5, 2) := by decide +kernel
theorem dM_measure_82 : decode cM_measure 82 = .ok (.iinc 7 (-1), 3) := by decide +kernel
theorem dM_measure_85 : decode cM_measure 85 = .ok (.goto (-71), 3) := by decide +kernel
theorem dM_measure_88 : decode cM_measure 88 = .ok (.iload_n 3, 1) := by decide +kernel
theorem dM_measure_89 : decode cM_measure 89 = .ok (.iconst 1, 1) := by decide +kernel
theorem dM_measure_90 : decode cM_measure 90 = .ok (.if_icmp .eq 15, 3) := by decide +kernel
theorem dM_measure_93 : decode cM_measure 93 = .ok (.iload_n 3, 1) := by decide +kernel
theorem dM_measure_94 : decode cM_measure 94 = .ok (.ifCond .ne 8, 3) := by decide +kernel
theorem dM_measure_97 : decode cM_measure 97 = .ok (.iload 4, 2) := by decide +kernel
theorem dM_measure_99 : decode cM_measure 99 = .ok (.goto 5, 3) := by decide +kernel
theorem dM_measure_102 : decode cM_measure 102 = .ok (.iload 6, 2) := by decide +kernel
theorem dM_measure_104 : decode cM_measure 104 = .ok (.ireturn, 1) := by decide +kernel
theorem dM_measure_105 : decode cM_measure 105 = .ok (.iconst 2, 1) := by decide +kernel
theorem dM_measure_106 : decode cM_measure 106 = .ok (.istore 7, 2) := by decide +kernel
theorem dM_measure_108 : decode cM_measure 108 = .ok (.iconst 2, 1) := by decide +kernel
theorem dM_measure_109 : decode cM_measure 109 = .ok (.istore 8, 2) := by decide +kernel
theorem dM_measure_111 : decode cM_measure 111 = .ok (.iconst 2, 1) := by decide +kernel
theorem dM_measure_112 : decode cM_measure 112 = .ok (.istore 9, 2) := by decide +kernel
theorem dM_measure_114 : decode cM_measure 114 = .ok (.iload 9, 2) := by decide +kernel
theorem dM_measure_116 : decode cM_measure 116 = .ok (.iload 4, 2) := by decide +kernel
theorem dM_measure_118 : decode cM_measure 118 = .ok (.if_icmp .ge 40, 3) := by decide +kernel
theorem dM_measure_121 : decode cM_measure 121 = .ok (.iload 8, 2) := by decide +kernel
theorem dM_measure_123 : decode cM_measure 123 = .ok (.bipush 8, 2) := by decide +kernel
theorem dM_measure_125 : decode cM_measure 125 = .ok (.if_icmp .ge 10, 3) := by decide +kernel
theorem dM_measure_128 : decode cM_measure 128 = .ok (.iconst 2, 1) := by decide +kernel
theorem dM_measure_129 : decode cM_measure 129 = .ok (.iload 8, 2) := by decide +kernel
theorem dM_measure_131 : decode cM_measure 131 = .ok (.imul, 1) := by decide +kernel
theorem dM_measure_132 : decode cM_measure 132 = .ok (.goto 5, 3) := by decide +kernel
theorem dM_measure_135 : decode cM_measure 135 = .ok (.bipush 8, 2) := by decide +kernel
theorem dM_measure_137 : decode cM_measure 137 = .ok (.istore 8, 2) := by decide +kernel
theorem dM_measure_139 : decode cM_measure 139 = .ok (.iload 7, 2) := by decide +kernel
theorem dM_measure_141 : decode cM_measure 141 = .ok (.iload 8, 2) := by decide +kernel
theorem dM_measure_143 : decode cM_measure 143 = .ok (.iadd, 1) := by decide +kernel
theorem dM_measure_144 : decode cM_measure 144 = .ok (.istore 7, 2) := by decide +kernel
theorem dM_measure_146 : decode cM_measure 146 = .ok (.iload 9, 2) := by decide +kernel
theorem dM_measure_148 : decode cM_measure 148 = .ok (.iload 8, 2) := by decide +kernel
theorem dM_measure_150 : decode cM_measure 150 = .ok (.iadd, 1) := by decide +kernel
theorem dM_measure_151 : decode cM_measure 151 = .ok (.iconst 1, 1) := by decide +kernel
theorem dM_measure_152 : decode cM_measure 152 = .ok (.isub, 1) := by decide +kernel
theorem dM_measure_153 : decode cM_measure 153 = .ok (.istore 9, 2) := by decide +kernel
theorem dM_measure_155 : decode cM_measure 155 = .ok (.goto (-41), 3) := by decide +kernel
theorem dM_measure_158 : decode cM_measure 158 = .ok (.iload 7, 2) := by decide +kernel
theorem dM_measure_160 : decode cM_measure 160 = .ok (.ireturn, 1) := by decide +kernel
abbrev cM_sum : ByteArray := prog_9_method_23_code
def yM_sum : MethodName := ⟨"PostIndexModel", "sum", "(II)I"⟩
def fM_sum (d : Nat) : zF := (cM_sum, 7, yM_sum, (some .int), d, 0, 0)
theorem meM_sum (d : Nat) : zMe (fM_sum d) 2 := ⟨(zA3 (i := 164) rfl rfl), (zA1 (i := 8) rfl rfl), by show "PostIndexModel" ≠ _; decide +kernel, by show "PostIndexModel" ≠ _; decide +kernel, by show (parseMethodDescriptor "(II)I").map _ = _; decide +kernel⟩
theorem dM_sum_0 : decode cM_sum 0 = .ok (.iconst 0, 1) := by decide +kernel
theorem dM_sum_1 : decode cM_sum 1 = .ok (.istore_n 3, 1) := by decide +kernel
theorem dM_sum_2 : decode cM_sum 2 = .ok (.iconst 4, 1) := by decide +kernel
theorem dM_sum_3 : decode cM_sum 3 = .ok (.iload_n 1, 1) := by decide +kernel
theorem dM_sum_4 : decode cM_sum 4 = .ok (.imul, 1) := by decide +kernel
theorem dM_sum_5 : decode cM_sum 5 = .ok (.istore 4, 2) := by decide +kernel
theorem dM_sum_7 : decode cM_sum 7 = .ok (.iload 4, 2) := by decide +kernel
theorem dM_sum_9 : decode cM_sum 9 = .ok (.iconst 4, 1) := by decide +kernel
theorem dM_sum_10 : decode cM_sum 10 = .ok (.iload_n 1, 1) := by decide +kernel
theorem dM_sum_11 : decode cM_sum 11 = .ok (.imul, 1) := by decide +kernel
theorem dM_sum_12 : decode cM_sum 12 = .ok (.iconst 4, 1) := by decide +kernel
theorem dM_sum_13 : decode cM_sum 13 = .ok (.iadd, 1) := by decide +kernel
theorem dM_sum_14 : decode cM_sum 14 = .ok (.if_icmp .ge 70, 3) := by decide +kernel
theorem dM_sum_17 : decode cM_sum 17 = .ok (.aload_n 0, 1) := by decide +kernel
theorem dM_sum_18 : decode cM_sum 18 = .ok (.iload 4, 2) := by decide +kernel
theorem dM_sum_20 : decode cM_sum 20 = .ok (.invokevirtual 111, 3) := by decide +kernel
theorem dM_sum_23 : decode cM_sum 23 = .ok (.istore 5, 2) := by decide +kernel
theorem dM_sum_25 : decode cM_sum 25 = .ok (.iconst 0, 1) := by decide +kernel
theorem dM_sum_26 : decode cM_sum 26 = .ok (.istore 6, 2) := by decide +kernel
theorem dM_sum_28 : decode cM_sum 28 = .ok (.iload 6, 2) := by decide +kernel
theorem dM_sum_30 : decode cM_sum 30 = .ok (.iload 5, 2) := by decide +kernel
theorem dM_sum_32 : decode cM_sum 32 = .ok (.if_icmp .ge 46, 3) := by decide +kernel
theorem dM_sum_35 : decode cM_sum 35 = .ok (.aload_n 0, 1) := by decide +kernel
theorem dM_sum_36 : decode cM_sum 36 = .ok (.iload 4, 2) := by decide +kernel
theorem dM_sum_38 : decode cM_sum 38 = .ok (.iload 6, 2) := by decide +kernel
theorem dM_sum_40 : decode cM_sum 40 = .ok (.invokevirtual 122, 3) := by decide +kernel
theorem dM_sum_43 : decode cM_sum 43 = .ok (.ifCond .eq 29, 3) := by decide +kernel
theorem dM_sum_46 : decode cM_sum 46 = .ok (.iload_n 3, 1) := by decide +kernel
theorem dM_sum_47 : decode cM_sum 47 = .ok (.iload_n 2, 1) := by decide +kernel
theorem dM_sum_48 : decode cM_sum 48 = .ok (.iconst 3, 1) := by decide +kernel
theorem dM_sum_49 : decode cM_sum 49 = .ok (.if_icmp .ne 7, 3) := by decide +kernel
theorem dM_sum_52 : decode cM_sum 52 = .ok (.iconst 1, 1) := by decide +kernel
theorem dM_sum_53 : decode cM_sum 53 = .ok (.goto 17, 3) := by decide +kernel
theorem dM_sum_56 : decode cM_sum 56 = .ok (.aload_n 0, 1) := by decide +kernel
theorem dM_sum_57 : decode cM_sum 57 = .ok (.iload_n 1, 1) := by decide +kernel
theorem dM_sum_58 : decode cM_sum 58 = .ok (.bipush 12, 2) := by decide +kernel
theorem dM_sum_60 : decode cM_sum 60 = .ok (.iload 4, 2) := by decide +kernel
theorem dM_sum_62 : decode cM_sum 62 = .ok (.imul, 1) := by decide +kernel
theorem dM_sum_63 : decode cM_sum 63 = .ok (.iload 6, 2) := by decide +kernel
theorem dM_sum_65 : decode cM_sum 65 = .ok (.iadd, 1) := by decide +kernel
theorem dM_sum_66 : decode cM_sum 66 = .ok (.iload_n 2, 1) := by decide +kernel
theorem dM_sum_67 : decode cM_sum 67 = .ok (.invokevirtual 125, 3) := by decide +kernel
theorem dM_sum_70 : decode cM_sum 70 = .ok (.iadd, 1) := by decide +kernel
theorem dM_sum_71 : decode cM_sum 71 = .ok (.istore_n 3, 1) := by decide +kernel
theorem dM_sum_72 : decode cM_sum 72 = .ok (.iinc 6 1, 3) := by decide +kernel
theorem dM_sum_75 : decode cM_sum 75 = .ok (.goto (-47), 3) := by decide +kernel
theorem dM_sum_78 : decode cM_sum 78 = .ok (.iinc 4 1, 3) := by decide +kernel
theorem dM_sum_81 : decode cM_sum 81 = .ok (.goto (-74), 3) := by decide +kernel
theorem dM_sum_84 : decode cM_sum 84 = .ok (.iload_n 3, 1) := by decide +kernel
theorem dM_sum_85 : decode cM_sum 85 = .ok (.ireturn, 1) := by decide +kernel
abbrev cM_pack : ByteArray := prog_9_method_24_code
def yM_pack : MethodName := ⟨"PostIndexModel", "pack", "(I)I"⟩
def fM_pack (d : Nat) : zF := (cM_pack, 4, yM_pack, (some .int), d, 0, 0)
theorem meM_pack (d : Nat) : zMe (fM_pack d) 1 := ⟨(zA3 (i := 156) rfl rfl), (zA1 (i := 8) rfl rfl), by show "PostIndexModel" ≠ _; decide +kernel, by show "PostIndexModel" ≠ _; decide +kernel, by show (parseMethodDescriptor "(I)I").map _ = _; decide +kernel⟩
theorem dM_pack_0 : decode cM_pack 0 = .ok (.iload_n 1, 1) := by decide +kernel
theorem dM_pack_1 : decode cM_pack 1 = .ok (.iconst 1, 1) := by decide +kernel
theorem dM_pack_2 : decode cM_pack 2 = .ok (.if_icmp .lt 9, 3) := by decide +kernel
theorem dM_pack_5 : decode cM_pack 5 = .ok (.iload_n 1, 1) := by decide +kernel
theorem dM_pack_6 : decode cM_pack 6 = .ok (.bipush 6, 2) := by decide +kernel
theorem dM_pack_8 : decode cM_pack 8 = .ok (.if_icmp .le 5, 3) := by decide +kernel
theorem dM_pack_11 : decode cM_pack 11 = .ok (.iconst 0, 1) := by decide +kernel
theorem dM_pack_12 : decode cM_pack 12 = .ok (.ireturn, 1) := by decide +kernel
theorem dM_pack_13 : decode cM_pack 13 = .ok (.iconst 0, 1) := by decide +kernel
theorem dM_pack_14 : decode cM_pack 14 = .ok (.istore_n 2, 1) := by decide +kernel
theorem dM_pack_15 : decode cM_pack 15 = .ok (.iload_n 2, 1) := by decide +kernel
theorem dM_pack_16 : decode cM_pack 16 = .ok (.iload_n 1, 1) := by decide +kernel
theorem dM_pack_17 : decode cM_pack 17 = .ok (.if_icmp .ge 91, 3) := by decide +kernel
theorem dM_pack_20 : decode cM_pack 20 = .ok (.iconst 0, 1) := by decide +kernel
theorem dM_pack_21 : decode cM_pack 21 = .ok (.istore_n 3, 1) := by decide +kernel
theorem dM_pack_22 : decode cM_pack 22 = .ok (.iload_n 3, 1) := by decide +kernel
theorem dM_pack_23 : decode cM_pack 23 = .ok (.bipush 6, 2) := by decide +kernel
theorem dM_pack_25 : decode cM_pack 25 = .ok (.if_icmp .ge 34, 3) := by decide +kernel
theorem dM_pack_28 : decode cM_pack 28 = .ok (.aload_n 0, 1) := by decide +kernel
theorem dM_pack_29 : decode cM_pack 29 = .ok (.iload_n 3, 1) := by decide +kernel
theorem dM_pack_30 : decode cM_pack 30 = .ok (.invokevirtual 129, 3) := by decide +kernel
theorem dM_pack_33 : decode cM_pack 33 = .ok (.ifCond .eq 20, 3) := by decide +kernel
theorem dM_pack_36 : decode cM_pack 36 = .ok (.aload_n 0, 1) := by decide +kernel
theorem dM_pack_37 : decode cM_pack 37 = .ok (.iload_n 3, 1) := by decide +kernel
theorem dM_pack_38 : decode cM_pack 38 = .ok (.invokevirtual 85, 3) := by decide +kernel
theorem dM_pack_41 : decode cM_pack 41 = .ok (.ifCond .eq 12, 3) := by decide +kernel
theorem dM_pack_44 : decode cM_pack 44 = .ok (.aload_n 0, 1) := by decide +kernel
theorem dM_pack_45 : decode cM_pack 45 = .ok (.getfield 41, 3) := by decide +kernel
theorem dM_pack_48 : decode cM_pack 48 = .ok (.iload_n 3, 1) := by decide +kernel
theorem dM_pack_49 : decode cM_pack 49 = .ok (.baload, 1) := by decide +kernel
theorem dM_pack_50 : decode cM_pack 50 = .ok (.ifCond .eq 9, 3) := by decide +kernel
theorem dM_pack_53 : decode cM_pack 53 = .ok (.iinc 3 1, 3) := by decide +kernel
theorem dM_pack_56 : decode cM_pack 56 = .ok (.goto (-34), 3) := by decide +kernel
theorem dM_pack_59 : decode cM_pack 59 = .ok (.iload_n 3, 1) := by decide +kernel
theorem dM_pack_60 : decode cM_pack 60 = .ok (.bipush 6, 2) := by decide +kernel
theorem dM_pack_62 : decode cM_pack 62 = .ok (.if_icmp .ne 5, 3) := by decide +kernel
theorem dM_pack_65 : decode cM_pack 65 = .ok (.iload_n 2, 1) := by decide +kernel
theorem dM_pack_66 : decode cM_pack 66 = .ok (.ireturn, 1) := by decide +kernel
theorem dM_pack_67 : decode cM_pack 67 = .ok (.aload_n 0, 1) := by decide +kernel
theorem dM_pack_68 : decode cM_pack 68 = .ok (.getfield 38, 3) := by decide +kernel
theorem dM_pack_71 : decode cM_pack 71 = .ok (.iload_n 3, 1) := by decide +kernel
theorem dM_pack_72 : decode cM_pack 72 = .ok (.iaload, 1) := by decide +kernel
theorem dM_pack_73 : decode cM_pack 73 = .ok (.aload_n 0, 1) := by decide +kernel
theorem dM_pack_74 : decode cM_pack 74 = .ok (.iload_n 3, 1) := by decide +kernel
theorem dM_pack_75 : decode cM_pack 75 = .ok (.iconst 3, 1) := by decide +kernel
theorem dM_pack_76 : decode cM_pack 76 = .ok (.invokevirtual 132, 3) := by decide +kernel
theorem dM_pack_79 : decode cM_pack 79 = .ok (.if_icmp .ge 16, 3) := by decide +kernel
theorem dM_pack_82 : decode cM_pack 82 = .ok (.aload_n 0, 1) := by decide +kernel
theorem dM_pack_83 : decode cM_pack 83 = .ok (.getfield 38, 3) := by decide +kernel
theorem dM_pack_86 : decode cM_pack 86 = .ok (.iload_n 3, 1) := by decide +kernel
theorem dM_pack_87 : decode cM_pack 87 = .ok (.dup2, 1) := by decide +kernel
theorem dM_pack_88 : decode cM_pack 88 = .ok (.iaload, 1) := by decide +kernel
theorem dM_pack_89 : decode cM_pack 89 = .ok (.iconst 1, 1) := by decide +kernel
theorem dM_pack_90 : decode cM_pack 90 = .ok (.iadd, 1) := by decide +kernel
theorem dM_pack_91 : decode cM_pack 91 = .ok (.iastore, 1) := by decide +kernel
theorem dM_pack_92 : decode cM_pack 92 = .ok (.goto 10, 3) := by decide +kernel
theorem dM_pack_95 : decode cM_pack 95 = .ok (.aload_n 0, 1) := by decide +kernel
theorem dM_pack_96 : decode cM_pack 96 = .ok (.getfield 41, 3) := by decide +kernel
theorem dM_pack_99 : decode cM_pack 99 = .ok (.iload_n 3, 1) := by decide +kernel
theorem dM_pack_100 : decode cM_pack 100 = .ok (.iconst 1, 1) := by decide +kernel
theorem dM_pack_101 : decode cM_pack 101 = .ok (.bastore, 1) := by decide +kernel
theorem dM_pack_102 : decode cM_pack 102 = .ok (.iinc 2 1, 3) := by decide +kernel
theorem dM_pack_105 : decode cM_pack 105 = .ok (.goto (-90), 3) := by decide +kernel
theorem dM_pack_108 : decode cM_pack 108 = .ok (.iload_n 1, 1) := by decide +kernel
theorem dM_pack_109 : decode cM_pack 109 = .ok (.ireturn, 1) := by decide +kernel
abbrev cM_at : ByteArray := prog_9_method_25_code
def yM_at : MethodName := ⟨"PostIndexModel", "at", "(II)I"⟩
def fM_at (d : Nat) : zF := (cM_at, 3, yM_at, (some .int), d, 0, 0)
theorem meM_at (d : Nat) : zMe (fM_at d) 2 := ⟨(zA3 (i := 211) rfl rfl), (zA1 (i := 8) rfl rfl), by show "PostIndexModel" ≠ _; decide +kernel, by show "PostIndexModel" ≠ _; decide +kernel, by show (parseMethodDescriptor "(II)I").map _ = _; decide +kernel⟩
theorem dM_at_0 : decode cM_at 0 = .ok (.iload_n 2, 1) := by decide +kernel
theorem dM_at_1 : decode cM_at 1 = .ok (.aload_n 0, 1) := by decide +kernel
theorem dM_at_2 : decode cM_at 2 = .ok (.getfield 50, 3) := by decide +kernel
theorem dM_at_5 : decode cM_at 5 = .ok (.iload_n 1, 1) := by decide +kernel
theorem dM_at_6 : decode cM_at 6 = .ok (.iaload, 1) := by decide +kernel
theorem dM_at_7 : decode cM_at 7 = .ok (.if_icmp .ge 17, 3) := by decide +kernel
theorem dM_at_10 : decode cM_at 10 = .ok (.aload_n 0, 1) := by decide +kernel
theorem dM_at_11 : decode cM_at 11 = .ok (.getfield 53, 3) := by decide +kernel
theorem dM_at_14 : decode cM_at 14 = .ok (.bipush 24, 2) := by decide +kernel
theorem dM_at_16 : decode cM_at 16 = .ok (.iload_n 1, 1) := by decide +kernel
theorem dM_at_17 : decode cM_at 17 = .ok (.imul, 1) := by decide +kernel
theorem dM_at_18 : decode cM_at 18 = .ok (.iload_n 2, 1) := by decide +kernel
theorem dM_at_19 : decode cM_at 19 = .ok (.iadd, 1) := by decide +kernel
theorem dM_at_20 : decode cM_at 20 = .ok (.iaload, 1) := by decide +kernel
theorem dM_at_21 : decode cM_at 21 = .ok (.goto 5, 3) := by decide +kernel
theorem dM_at_24 : decode cM_at 24 = .ok (.bipush 32, 2) := by decide +kernel
theorem dM_at_26 : decode cM_at 26 = .ok (.ireturn, 1) := by decide +kernel
abbrev cM_read : ByteArray := prog_9_method_26_code
def yM_read : MethodName := ⟨"PostIndexModel", "read", "(I)V"⟩
def fM_read (d : Nat) : zF := (cM_read, 6, yM_read, none, d, 0, 0)
theorem meM_read (d : Nat) : zMe (fM_read d) 1 := ⟨(zA3 (i := 207) rfl rfl), (zA1 (i := 8) rfl rfl), by show "PostIndexModel" ≠ _; decide +kernel, by show "PostIndexModel" ≠ _; decide +kernel, by show (parseMethodDescriptor "(I)V").map _ = _; decide +kernel⟩
theorem dM_read_0 : decode cM_read 0 = .ok (.aload_n 0, 1) := by decide +kernel
theorem dM_read_1 : decode cM_read 1 = .ok (.getfield 136, 3) := by decide +kernel
theorem flM_136 : zFld "PostIndexModel" 136 7 22 31 := ⟨RM, TM, rfl, by decide, inM, (zA3 (i := 26) rfl rfl)⟩
theorem dM_read_4 : decode cM_read 4 = .ok (.istore_n 2, 1) := by decide +kernel
theorem dM_read_5 : decode cM_read 5 = .ok (.iload_n 2, 1) := by decide +kernel
theorem dM_read_6 : decode cM_read 6 = .ok (.aload_n 0, 1) := by decide +kernel
theorem dM_read_7 : decode cM_read 7 = .ok (.getfield 50, 3) := by decide +kernel
theorem dM_read_10 : decode cM_read 10 = .ok (.iload_n 1, 1) := by decide +kernel
theorem dM_read_11 : decode cM_read 11 = .ok (.iaload, 1) := by decide +kernel
theorem dM_read_12 : decode cM_read 12 = .ok (.if_icmp .ge 20, 3) := by decide +kernel
theorem dM_read_15 : decode cM_read 15 = .ok (.aload_n 0, 1) := by decide +kernel
theorem dM_read_16 : decode cM_read 16 = .ok (.iload_n 1, 1) := by decide +kernel
theorem dM_read_17 : decode cM_read 17 = .ok (.iload_n 2, 1) := by decide +kernel
theorem dM_read_18 : decode cM_read 18 = .ok (.invokevirtual 139, 3) := by decide +kernel
theorem dM_read_21 : decode cM_read 21 = .ok (.bipush 32, 2) := by decide +kernel
theorem dM_read_23 : decode cM_read 23 = .ok (.if_icmp .ne 9, 3) := by decide +kernel
theorem dM_read_26 : decode cM_read 26 = .ok (.iinc 2 1, 3) := by decide +kernel
theorem dM_read_29 : decode cM_read 29 = .ok (.goto (-24), 3) := by decide +kernel
theorem dM_read_32 : decode cM_read 32 = .ok (.aload_n 0, 1) := by decide +kernel
theorem dM_read_33 : decode cM_read 33 = .ok (.iload_n 2, 1) := by decide +kernel
theorem dM_read_34 : decode cM_read 34 = .ok (.putfield 142, 3) := by decide +kernel
theorem flM_142 : zFld "PostIndexModel" 142 7 21 31 := ⟨RM, TM, rfl, by decide, inM, (zA3 (i := 25) rfl rfl)⟩
theorem dM_read_37 : decode cM_read 37 = .ok (.aload_n 0, 1) := by decide +kernel
theorem dM_read_38 : decode cM_read 38 = .ok (.iload_n 2, 1) := by decide +kernel
theorem dM_read_39 : decode cM_read 39 = .ok (.iconst 1, 1) := by decide +kernel
theorem dM_read_40 : decode cM_read 40 = .ok (.iadd, 1) := by decide +kernel
theorem dM_read_41 : decode cM_read 41 = .ok (.putfield 136, 3) := by decide +kernel
theorem dM_read_44 : decode cM_read 44 = .ok (.aload_n 0, 1) := by decide +kernel
theorem dM_read_45 : decode cM_read 45 = .ok (.iload_n 1, 1) := by decide +kernel
theorem dM_read_46 : decode cM_read 46 = .ok (.iload_n 2, 1) := by decide +kernel
theorem dM_read_47 : decode cM_read 47 = .ok (.invokevirtual 139, 3) := by decide +kernel
theorem dM_read_50 : decode cM_read 50 = .ok (.istore_n 3, 1) := by decide +kernel
theorem dM_read_51 : decode cM_read 51 = .ok (.iload_n 3, 1) := by decide +kernel
theorem dM_read_52 : decode cM_read 52 = .ok (.bipush 35, 2) := by decide +kernel
theorem dM_read_54 : decode cM_read 54 = .ok (.if_icmp .eq 9, 3) := by decide +kernel
theorem dM_read_57 : decode cM_read 57 = .ok (.iload_n 3, 1) := by decide +kernel
theorem dM_read_58 : decode cM_read 58 = .ok (.bipush 64, 2) := by decide +kernel
theorem dM_read_60 : decode cM_read 60 = .ok (.if_icmp .ne 7, 3) := by decide +kernel
theorem dM_read_63 : decode cM_read 63 = .ok (.iconst 1, 1) := by decide +kernel
theorem dM_read_64 : decode cM_read 64 = .ok (.goto 4, 3) := by decide +kernel
theorem dM_read_67 : decode cM_read 67 = .ok (.iconst 0, 1) := by decide +kernel
theorem dM_read_68 : decode cM_read 68 = .ok (.istore 4, 2) := by decide +kernel
theorem dM_read_70 : decode cM_read 70 = .ok (.iload_n 3, 1) := by decide +kernel
theorem dM_read_71 : decode cM_read 71 = .ok (.bipush 61, 2) := by decide +kernel
theorem dM_read_73 : decode cM_read 73 = .ok (.if_icmp .eq 15, 3) := by decide +kernel
theorem dM_read_76 : decode cM_read 76 = .ok (.iload_n 3, 1) := by decide +kernel
theorem dM_read_77 : decode cM_read 77 = .ok (.bipush 60, 2) := by decide +kernel
theorem dM_read_79 : decode cM_read 79 = .ok (.if_icmp .eq 9, 3) := by decide +kernel
theorem dM_read_82 : decode cM_read 82 = .ok (.iload_n 3, 1) := by decide +kernel
theorem dM_read_83 : decode cM_read 83 = .ok (.bipush 62, 2) := by decide +kernel
theorem dM_read_85 : decode cM_read 85 = .ok (.if_icmp .ne 7, 3) := by decide +kernel
theorem dM_read_88 : decode cM_read 88 = .ok (.iconst 1, 1) := by decide +kernel
theorem dM_read_89 : decode cM_read 89 = .ok (.goto 4, 3) := by decide +kernel
theorem dM_read_92 : decode cM_read 92 = .ok (.iconst 0, 1) := by decide +kernel
theorem dM_read_93 : decode cM_read 93 = .ok (.istore 5, 2) := by decide +kernel
theorem dM_read_95 : decode cM_read 95 = .ok (.iload_n 2, 1) := by decide +kernel
theorem dM_read_96 : decode cM_read 96 = .ok (.aload_n 0, 1) := by decide +kernel
theorem dM_read_97 : decode cM_read 97 = .ok (.getfield 50, 3) := by decide +kernel
theorem dM_read_100 : decode cM_read 100 = .ok (.iload_n 1, 1) := by decide +kernel
theorem dM_read_101 : decode cM_read 101 = .ok (.iaload, 1) := by decide +kernel
theorem dM_read_102 : decode cM_read 102 = .ok (.if_icmp .lt 11, 3) := by decide +kernel
theorem dM_read_105 : decode cM_read 105 = .ok (.aload_n 0, 1) := by decide +kernel
theorem dM_read_106 : decode cM_read 106 = .ok (.iconst 0, 1) := by decide +kernel
theorem dM_read_107 : decode cM_read 107 = .ok (.putfield 145, 3) := by decide +kernel
theorem flM_145 : zFld "PostIndexModel" 145 7 20 31 := ⟨RM, TM, rfl, by decide, inM, (zA3 (i := 24) rfl rfl)⟩
theorem dM_read_110 : decode cM_read 110 = .ok (.goto 175, 3) := by decide +kernel
theorem dM_read_113 : decode cM_read 113 = .ok (.iload_n 3, 1) := by decide +kernel
theorem dM_read_114 : decode cM_read 114 = .ok (.invokestatic 98, 3) := by decide +kernel
theorem dM_read_117 : decode cM_read 117 = .ok (.ifCond .ne 8, 3) := by decide +kernel
theorem dM_read_120 : decode cM_read 120 = .ok (.iload 4, 2) := by decide +kernel
theorem dM_read_122 : decode cM_read 122 = .ok (.ifCond .eq 58, 3) := by decide +kernel
theorem dM_read_125 : decode cM_read 125 = .ok (.aload_n 0, 1) := by decide +kernel
theorem dM_read_126 : decode cM_read 126 = .ok (.iload_n 1, 1) := by decide +kernel
theorem dM_read_127 : decode cM_read 127 = .ok (.aload_n 0, 1) := by decide +kernel
theorem dM_read_128 : decode cM_read 128 = .ok (.getfield 136, 3) := by decide +kernel
theorem dM_read_131 : decode cM_read 131 = .ok (.invokevirtual 139, 3) := by decide +kernel
theorem dM_read_134 : decode cM_read 134 = .ok (.invokestatic 98, 3) := by decide +kernel
theorem dM_read_137 : decode cM_read 137 = .ok (.ifCond .eq 16, 3) := by decide +kernel
theorem dM_read_140 : decode cM_read 140 = .ok (.aload_n 0, 1) := by decide +kernel
theorem dM_read_141 : decode cM_read 141 = .ok (.dup, 1) := by decide +kernel
theorem dM_read_142 : decode cM_read 142 = .ok (.getfield 136, 3) := by decide +kernel
theorem dM_read_145 : decode cM_read 145 = .ok (.iconst 1, 1) := by decide +kernel
theorem dM_read_146 : decode cM_read 146 = .ok (.iadd, 1) := by decide +kernel
theorem dM_read_147 : decode cM_read 147 = .ok (.putfield 136, 3) := by decide +kernel
theorem dM_read_150 : decode cM_read 150 = .ok (.goto (-25), 3) := by decide +kernel
theorem dM_read_153 : decode cM_read 153 = .ok (.aload_n 0, 1) := by decide +kernel
theorem dM_read_154 : decode cM_read 154 = .ok (.iload 4, 2) := by decide +kernel
theorem dM_read_156 : decode cM_read 156 = .ok (.ifCond .eq 17, 3) := by decide +kernel
theorem dM_read_159 : decode cM_read 159 = .ok (.aload_n 0, 1) := by decide +kernel
theorem dM_read_160 : decode cM_read 160 = .ok (.getfield 136, 3) := by decide +kernel
theorem dM_read_163 : decode cM_read 163 = .ok (.iload_n 2, 1) := by decide +kernel
theorem dM_read_164 : decode cM_read 164 = .ok (.iconst 1, 1) := by decide +kernel
theorem dM_read_165 : decode cM_read 165 = .ok (.iadd, 1) := by decide +kernel
theorem dM_read_166 : decode cM_read 166 = .ok (.if_icmp .ne 7, 3) := by decide +kernel
theorem dM_read_169 : decode cM_read 169 = .ok (.iconst (-1), 1) := by decide +kernel
theorem dM_read_170 : decode cM_read 170 = .ok (.goto 4, 3) := by decide +kernel
theorem dM_read_173 : decode cM_read 173 = .ok (.iconst 1, 1) := by decide +kernel
theorem dM_read_174 : decode cM_read 174 = .ok (.putfield 145, 3) := by decide +kernel
theorem dM_read_177 : decode cM_read 177 = .ok (.goto 108, 3) := by decide +kernel
theorem dM_read_180 : decode cM_read 180 = .ok (.iload 5, 2) := by decide +kernel
theorem dM_read_182 : decode cM_read 182 = .ok (.ifCond .eq 64, 3) := by decide +kernel
theorem dM_read_185 : decode cM_read 185 = .ok (.aload_n 0, 1) := by decide +kernel
theorem dM_read_186 : decode cM_read 186 = .ok (.iload_n 1, 1) := by decide +kernel
theorem dM_read_187 : decode cM_read 187 = .ok (.aload_n 0, 1) := by decide +kernel
theorem dM_read_188 : decode cM_read 188 = .ok (.getfield 136, 3) := by decide +kernel
theorem dM_read_191 : decode cM_read 191 = .ok (.invokevirtual 139, 3) := by decide +kernel
theorem dM_read_194 : decode cM_read 194 = .ok (.invokestatic 74, 3) := by decide +kernel
theorem dM_read_197 : decode cM_read 197 = .ok (.ifCond .eq 16, 3) := by decide +kernel
theorem dM_read_200 : decode cM_read 200 = .ok (.aload_n 0, 1) := by decide +kernel
theorem dM_read_201 : decode cM_read 201 = .ok (.dup, 1) := by decide +kernel
theorem dM_read_202 : decode cM_read 202 = .ok (.getfield 136, 3) := by decide +kernel
theorem dM_read_205 : decode cM_read 205 = .ok (.iconst 1, 1) := by decide +kernel
theorem dM_read_206 : decode cM_read 206 = .ok (.iadd, 1) := by decide +kernel
theorem dM_read_207 : decode cM_read 207 = .ok (.putfield 136, 3) := by decide +kernel
theorem dM_read_210 : decode cM_read 210 = .ok (.goto (-25), 3) := by decide +kernel
theorem dM_read_213 : decode cM_read 213 = .ok (.aload_n 0, 1) := by decide +kernel
theorem dM_read_214 : decode cM_read 214 = .ok (.aload_n 0, 1) := by decide +kernel
theorem dM_read_215 : decode cM_read 215 = .ok (.getfield 136, 3) := by decide +kernel
theorem dM_read_218 : decode cM_read 218 = .ok (.iload_n 2, 1) := by decide +kernel
theorem dM_read_219 : decode cM_read 219 = .ok (.iconst 1, 1) := by decide +kernel
theorem dM_read_220 : decode cM_read 220 = .ok (.iadd, 1) := by decide +kernel
theorem dM_read_221 : decode cM_read 221 = .ok (.if_icmp .eq 14, 3) := by decide +kernel
theorem dM_read_224 : decode cM_read 224 = .ok (.aload_n 0, 1) := by decide +kernel
theorem dM_read_225 : decode cM_read 225 = .ok (.getfield 136, 3) := by decide +kernel
theorem dM_read_228 : decode cM_read 228 = .ok (.iload_n 2, 1) := by decide +kernel
theorem dM_read_229 : decode cM_read 229 = .ok (.bipush 10, 2) := by decide +kernel
theorem dM_read_231 : decode cM_read 231 = .ok (.iadd, 1) := by decide +kernel
theorem dM_read_232 : decode cM_read 232 = .ok (.if_icmp .le 7, 3) := by decide +kernel
theorem dM_read_235 : decode cM_read 235 = .ok (.iconst (-1), 1) := by decide +kernel
theorem dM_read_236 : decode cM_read 236 = .ok (.goto 4, 3) := by decide +kernel
theorem dM_read_239 : decode cM_read 239 = .ok (.iconst 2, 1) := by decide +kernel
theorem dM_read_240 : decode cM_read 240 = .ok (.putfield 145, 3) := by decide +kernel
theorem dM_read_243 : decode cM_read 243 = .ok (.goto 42, 3) := by decide +kernel
theorem dM_read_246 : decode cM_read 246 = .ok (.aload_n 0, 1) := by decide +kernel
theorem dM_read_247 : decode cM_read 247 = .ok (.iload_n 3, 1) := by decide +kernel
theorem dM_read_248 : decode cM_read 248 = .ok (.bipush 124, 2) := by decide +kernel
theorem dM_read_250 : decode cM_read 250 = .ok (.if_icmp .eq 27, 3) := by decide +kernel
theorem dM_read_253 : decode cM_read 253 = .ok (.iload_n 3, 1) := by decide +kernel
theorem dM_read_254 : decode cM_read 254 = .ok (.bipush 45, 2) := by decide +kernel
theorem dM_read_256 : decode cM_read 256 = .ok (.if_icmp .eq 21, 3) := by decide +kernel
theorem dM_read_259 : decode cM_read 259 = .ok (.iload_n 3, 1) := by decide +kernel
theorem dM_read_260 : decode cM_read 260 = .ok (.bipush 34, 2) := by decide +kernel
theorem dM_read_262 : decode cM_read 262 = .ok (.if_icmp .eq 15, 3) := by decide +kernel
theorem dM_read_265 : decode cM_read 265 = .ok (.iload_n 3, 1) := by decide +kernel
theorem dM_read_266 : decode cM_read 266 = .ok (.bipush 40, 2) := by decide +kernel
theorem dM_read_268 : decode cM_read 268 = .ok (.if_icmp .eq 9, 3) := by decide +kernel
theorem dM_read_271 : decode cM_read 271 = .ok (.iload_n 3, 1) := by decide +kernel
theorem dM_read_272 : decode cM_read 272 = .ok (.bipush 41, 2) := by decide +kernel
theorem dM_read_274 : decode cM_read 274 = .ok (.if_icmp .ne 7, 3) := by decide +kernel
theorem dM_read_277 : decode cM_read 277 = .ok (.iload_n 3, 1) := by decide +kernel
theorem dM_read_278 : decode cM_read 278 = .ok (.goto 4, 3) := by decide +kernel
theorem dM_read_281 : decode cM_read 281 = .ok (.iconst (-1), 1) := by decide +kernel
theorem dM_read_282 : decode cM_read 282 = .ok (.putfield 145, 3) := by decide +kernel
theorem dM_read_285 : decode cM_read 285 = .ok (.return_, 1) := by decide +kernel
abbrev cM_stands : ByteArray := prog_9_method_27_code
def yM_stands : MethodName := ⟨"PostIndexModel", "stands", "(IIIII)Z"⟩
def fM_stands (d : Nat) : zF := (cM_stands, 10, yM_stands, (some .boolean), d, 0, 0)
theorem meM_stands (d : Nat) : zMe (fM_stands d) 5 := ⟨(zA3 (i := 227) rfl rfl), (zA1 (i := 8) rfl rfl), by show "PostIndexModel" ≠ _; decide +kernel, by show "PostIndexModel" ≠ _; decide +kernel, by show (parseMethodDescriptor "(IIIII)Z").map _ = _; decide +kernel⟩
theorem dM_stands_0 : decode cM_stands 0 = .ok (.iload 5, 2) := by decide +kernel
theorem dM_stands_2 : decode cM_stands 2 = .ok (.istore 6, 2) := by decide +kernel
theorem dM_stands_4 : decode cM_stands 4 = .ok (.iload 6, 2) := by decide +kernel
theorem dM_stands_6 : decode cM_stands 6 = .ok (.aload_n 0, 1) := by decide +kernel
theorem dM_stands_7 : decode cM_stands 7 = .ok (.getfield 29, 3) := by decide +kernel
theorem dM_stands_10 : decode cM_stands 10 = .ok (.iload 4, 2) := by decide +kernel
theorem dM_stands_12 : decode cM_stands 12 = .ok (.iaload, 1) := by decide +kernel
theorem dM_stands_13 : decode cM_stands 13 = .ok (.if_icmp .ge 130, 3) := by decide +kernel
theorem dM_stands_16 : decode cM_stands 16 = .ok (.iload 6, 2) := by decide +kernel
theorem dM_stands_18 : decode cM_stands 18 = .ok (.iload 5, 2) := by decide +kernel
theorem dM_stands_20 : decode cM_stands 20 = .ok (.if_icmp .eq 10, 3) := by decide +kernel
theorem dM_stands_23 : decode cM_stands 23 = .ok (.iload 5, 2) := by decide +kernel
theorem dM_stands_25 : decode cM_stands 25 = .ok (.bipush 7, 2) := by decide +kernel
theorem dM_stands_27 : decode cM_stands 27 = .ok (.if_icmp .ne 116, 3) := by decide +kernel
theorem dM_stands_30 : decode cM_stands 30 = .ok (.bipush 12, 2) := by decide +kernel
theorem dM_stands_32 : decode cM_stands 32 = .ok (.iload 4, 2) := by decide +kernel
theorem dM_stands_34 : decode cM_stands 34 = .ok (.imul, 1) := by decide +kernel
theorem dM_stands_35 : decode cM_stands 35 = .ok (.iload 6, 2) := by decide +kernel
theorem dM_stands_37 : decode cM_stands 37 = .ok (.iadd, 1) := by decide +kernel
theorem dM_stands_38 : decode cM_stands 38 = .ok (.istore 7, 2) := by decide +kernel
theorem dM_stands_40 : decode cM_stands 40 = .ok (.aload_n 0, 1) := by decide +kernel
theorem dM_stands_41 : decode cM_stands 41 = .ok (.getfield 35, 3) := by decide +kernel
theorem dM_stands_44 : decode cM_stands 44 = .ok (.iload 7, 2) := by decide +kernel
theorem dM_stands_46 : decode cM_stands 46 = .ok (.iaload, 1) := by decide +kernel
theorem dM_stands_47 : decode cM_stands 47 = .ok (.aload_n 0, 1) := by decide +kernel
theorem dM_stands_48 : decode cM_stands 48 = .ok (.getfield 32, 3) := by decide +kernel
theorem dM_stands_51 : decode cM_stands 51 = .ok (.iload 7, 2) := by decide +kernel
theorem dM_stands_53 : decode cM_stands 53 = .ok (.iaload, 1) := by decide +kernel
theorem dM_stands_54 : decode cM_stands 54 = .ok (.isub, 1) := by decide +kernel
theorem dM_stands_55 : decode cM_stands 55 = .ok (.iload_n 3, 1) := by decide +kernel
theorem dM_stands_56 : decode cM_stands 56 = .ok (.iload_n 2, 1) := by decide +kernel
theorem dM_stands_57 : decode cM_stands 57 = .ok (.isub, 1) := by decide +kernel
theorem dM_stands_58 : decode cM_stands 58 = .ok (.if_icmp .ne 7, 3) := by decide +kernel
theorem dM_stands_61 : decode cM_stands 61 = .ok (.iconst 1, 1) := by decide +kernel
theorem dM_stands_62 : decode cM_stands 62 = .ok (.goto 4, 3) := by decide +kernel
theorem dM_stands_65 : decode cM_stands 65 = .ok (.iconst 0, 1) := by decide +kernel
theorem dM_stands_66 : decode cM_stands 66 = .ok (.istore 8, 2) := by decide +kernel
theorem dM_stands_68 : decode cM_stands 68 = .ok (.iconst 0, 1) := by decide +kernel
theorem dM_stands_69 : decode cM_stands 69 = .ok (.istore 9, 2) := by decide +kernel
theorem dM_stands_71 : decode cM_stands 71 = .ok (.iload 9, 2) := by decide +kernel
theorem dM_stands_73 : decode cM_stands 73 = .ok (.iload_n 3, 1) := by decide +kernel
theorem dM_stands_74 : decode cM_stands 74 = .ok (.iload_n 2, 1) := by decide +kernel
theorem dM_stands_75 : decode cM_stands 75 = .ok (.isub, 1) := by decide +kernel
theorem dM_stands_76 : decode cM_stands 76 = .ok (.if_icmp .ge 54, 3) := by decide +kernel
theorem dM_stands_79 : decode cM_stands 79 = .ok (.iload 8, 2) := by decide +kernel
theorem dM_stands_81 : decode cM_stands 81 = .ok (.ifCond .eq 49, 3) := by decide +kernel
theorem dM_stands_84 : decode cM_stands 84 = .ok (.aload_n 0, 1) := by decide +kernel
theorem dM_stands_85 : decode cM_stands 85 = .ok (.getfield 26, 3) := by decide +kernel
theorem dM_stands_88 : decode cM_stands 88 = .ok (.aload_n 0, 1) := by decide +kernel
theorem dM_stands_89 : decode cM_stands 89 = .ok (.getfield 32, 3) := by decide +kernel
theorem dM_stands_92 : decode cM_stands 92 = .ok (.iload 7, 2) := by decide +kernel
theorem dM_stands_94 : decode cM_stands 94 = .ok (.iaload, 1) := by decide +kernel
theorem dM_stands_95 : decode cM_stands 95 = .ok (.iload 9, 2) := by decide +kernel
theorem dM_stands_97 : decode cM_stands 97 = .ok (.iadd, 1) := by decide +kernel
theorem dM_stands_98 : decode cM_stands 98 = .ok (.iaload, 1) := by decide +kernel
theorem dM_stands_99 : decode cM_stands 99 = .ok (.invokestatic 107, 3) := by decide +kernel
theorem dM_stands_102 : decode cM_stands 102 = .ok (.aload_n 0, 1) := by decide +kernel
theorem dM_stands_103 : decode cM_stands 103 = .ok (.iload_n 1, 1) := by decide +kernel
theorem dM_stands_104 : decode cM_stands 104 = .ok (.iload_n 2, 1) := by decide +kernel
theorem dM_stands_105 : decode cM_stands 105 = .ok (.iload 9, 2) := by decide +kernel
theorem dM_stands_107 : decode cM_stands 107 = .ok (.iadd, 1) := by decide +kernel
theorem dM_stands_108 : decode cM_stands 108 = .ok (.invokevirtual 139, 3) := by decide +kernel
theorem dM_stands_111 : decode cM_stands 111 = .ok (.invokestatic 107, 3) := by decide +kernel
theorem dM_stands_114 : decode cM_stands 114 = .ok (.if_icmp .ne 7, 3) := by decide +kernel
theorem dM_stands_117 : decode cM_stands 117 = .ok (.iconst 1, 1) := by decide +kernel
theorem dM_stands_118 : decode cM_stands 118 = .ok (.goto 4, 3) := by decide +kernel
theorem dM_stands_121 : decode cM_stands 121 = .ok (.iconst 0, 1) := by decide +kernel
theorem dM_stands_122 : decode cM_stands 122 = .ok (.istore 8, 2) := by decide +kernel
theorem dM_stands_124 : decode cM_stands 124 = .ok (.iinc 9 1, 3) := by decide +kernel
theorem dM_stands_127 : decode cM_stands 127 = .ok (.goto (-56), 3) := by decide +kernel
theorem dM_stands_130 : decode cM_stands 130 = .ok (.iload 8, 2) := by decide +kernel
theorem dM_stands_132 : decode cM_stands 132 = .ok (.ifCond .eq 5, 3) := by decide +kernel
theorem dM_stands_135 : decode cM_stands 135 = .ok (.iconst 1, 1) := by decide +kernel
theorem dM_stands_136 : decode cM_stands 136 = .ok (.ireturn, 1) := by decide +kernel
theorem dM_stands_137 : decode cM_stands 137 = .ok (.iinc 6 1, 3) := by decide +kernel
theorem dM_stands_140 : decode cM_stands 140 = .ok (.goto (-136), 3) := by decide +kernel
theorem dM_stands_143 : decode cM_stands 143 = .ok (.iconst 0, 1) := by decide +kernel
theorem dM_stands_144 : decode cM_stands 144 = .ok (.ireturn, 1) := by decide +kernel
abbrev cM_row : ByteArray := prog_9_method_28_code
def yM_row : MethodName := ⟨"PostIndexModel", "row", "(II)Z"⟩
def fM_row (d : Nat) : zF := (cM_row, 6, yM_row, (some .boolean), d, 0, 0)
theorem meM_row (d : Nat) : zMe (fM_row d) 2 := ⟨(zA3 (i := 223) rfl rfl), (zA1 (i := 8) rfl rfl), by show "PostIndexModel" ≠ _; decide +kernel, by show "PostIndexModel" ≠ _; decide +kernel, by show (parseMethodDescriptor "(II)Z").map _ = _; decide +kernel⟩
theorem dM_row_0 : decode cM_row 0 = .ok (.iconst 0, 1) := by decide +kernel
theorem dM_row_1 : decode cM_row 1 = .ok (.istore_n 3, 1) := by decide +kernel
theorem dM_row_2 : decode cM_row 2 = .ok (.iload_n 3, 1) := by decide +kernel
theorem dM_row_3 : decode cM_row 3 = .ok (.aload_n 0, 1) := by decide +kernel
theorem dM_row_4 : decode cM_row 4 = .ok (.getfield 148, 3) := by decide +kernel
theorem flM_148 : zFld "PostIndexModel" 148 7 28 31 := ⟨RM, TM, rfl, by decide, inM, (zA3 (i := 32) rfl rfl)⟩
theorem dM_row_7 : decode cM_row 7 = .ok (.iadd, 1) := by decide +kernel
theorem dM_row_8 : decode cM_row 8 = .ok (.bipush 8, 2) := by decide +kernel
theorem dM_row_10 : decode cM_row 10 = .ok (.if_icmp .gt 72, 3) := by decide +kernel
theorem dM_row_13 : decode cM_row 13 = .ok (.iload_n 2, 1) := by decide +kernel
theorem dM_row_14 : decode cM_row 14 = .ok (.ifCond .lt 68, 3) := by decide +kernel
theorem dM_row_17 : decode cM_row 17 = .ok (.iconst 1, 1) := by decide +kernel
theorem dM_row_18 : decode cM_row 18 = .ok (.istore 4, 2) := by decide +kernel
theorem dM_row_20 : decode cM_row 20 = .ok (.iconst 0, 1) := by decide +kernel
theorem dM_row_21 : decode cM_row 21 = .ok (.istore 5, 2) := by decide +kernel
theorem dM_row_23 : decode cM_row 23 = .ok (.iload 5, 2) := by decide +kernel
theorem dM_row_25 : decode cM_row 25 = .ok (.aload_n 0, 1) := by decide +kernel
theorem dM_row_26 : decode cM_row 26 = .ok (.getfield 148, 3) := by decide +kernel
theorem dM_row_29 : decode cM_row 29 = .ok (.if_icmp .ge 40, 3) := by decide +kernel
theorem dM_row_32 : decode cM_row 32 = .ok (.iload 4, 2) := by decide +kernel
theorem dM_row_34 : decode cM_row 34 = .ok (.ifCond .eq 35, 3) := by decide +kernel
theorem dM_row_37 : decode cM_row 37 = .ok (.aload_n 0, 1) := by decide +kernel
theorem dM_row_38 : decode cM_row 38 = .ok (.iload_n 1, 1) := by decide +kernel
theorem dM_row_39 : decode cM_row 39 = .ok (.aload_n 0, 1) := by decide +kernel
theorem dM_row_40 : decode cM_row 40 = .ok (.getfield 68, 3) := by decide +kernel
theorem dM_row_43 : decode cM_row 43 = .ok (.iload 5, 2) := by decide +kernel
theorem dM_row_45 : decode cM_row 45 = .ok (.iaload, 1) := by decide +kernel
theorem dM_row_46 : decode cM_row 46 = .ok (.aload_n 0, 1) := by decide +kernel
theorem dM_row_47 : decode cM_row 47 = .ok (.getfield 71, 3) := by decide +kernel
theorem dM_row_50 : decode cM_row 50 = .ok (.iload 5, 2) := by decide +kernel
theorem dM_row_52 : decode cM_row 52 = .ok (.iaload, 1) := by decide +kernel
theorem dM_row_53 : decode cM_row 53 = .ok (.iload_n 2, 1) := by decide +kernel
theorem dM_row_54 : decode cM_row 54 = .ok (.iload_n 3, 1) := by decide +kernel
theorem dM_row_55 : decode cM_row 55 = .ok (.iload 5, 2) := by decide +kernel
theorem dM_row_57 : decode cM_row 57 = .ok (.iadd, 1) := by decide +kernel
theorem dM_row_58 : decode cM_row 58 = .ok (.invokevirtual 151, 3) := by decide +kernel
theorem dM_row_61 : decode cM_row 61 = .ok (.istore 4, 2) := by decide +kernel
theorem dM_row_63 : decode cM_row 63 = .ok (.iinc 5 1, 3) := by decide +kernel
theorem dM_row_66 : decode cM_row 66 = .ok (.goto (-43), 3) := by decide +kernel
theorem dM_row_69 : decode cM_row 69 = .ok (.iload 4, 2) := by decide +kernel
theorem dM_row_71 : decode cM_row 71 = .ok (.ifCond .eq 5, 3) := by decide +kernel
theorem dM_row_74 : decode cM_row 74 = .ok (.iconst 1, 1) := by decide +kernel
theorem dM_row_75 : decode cM_row 75 = .ok (.ireturn, 1) := by decide +kernel
theorem dM_row_76 : decode cM_row 76 = .ok (.iinc 3 1, 3) := by decide +kernel
theorem dM_row_79 : decode cM_row 79 = .ok (.goto (-77), 3) := by decide +kernel
theorem dM_row_82 : decode cM_row 82 = .ok (.iconst 0, 1) := by decide +kernel
theorem dM_row_83 : decode cM_row 83 = .ok (.ireturn, 1) := by decide +kernel
abbrev cM_filter : ByteArray := prog_9_method_29_code
def yM_filter : MethodName := ⟨"PostIndexModel", "filter", "(II)Z"⟩
def fM_filter (d : Nat) : zF := (cM_filter, 5, yM_filter, (some .boolean), d, 0, 0)
theorem meM_filter (d : Nat) : zMe (fM_filter d) 2 := ⟨(zA3 (i := 235) rfl rfl), (zA1 (i := 8) rfl rfl), by show "PostIndexModel" ≠ _; decide +kernel, by show "PostIndexModel" ≠ _; decide +kernel, by show (parseMethodDescriptor "(II)Z").map _ = _; decide +kernel⟩
theorem dM_filter_0 : decode cM_filter 0 = .ok (.iload_n 2, 1) := by decide +kernel
theorem dM_filter_1 : decode cM_filter 1 = .ok (.ifCond .ge 5, 3) := by decide +kernel
theorem dM_filter_4 : decode cM_filter 4 = .ok (.iconst 0, 1) := by decide +kernel
theorem dM_filter_5 : decode cM_filter 5 = .ok (.ireturn, 1) := by decide +kernel
theorem dM_filter_6 : decode cM_filter 6 = .ok (.iconst 0, 1) := by decide +kernel
theorem dM_filter_7 : decode cM_filter 7 = .ok (.istore_n 3, 1) := by decide +kernel
theorem dM_filter_8 : decode cM_filter 8 = .ok (.aload_n 0, 1) := by decide +kernel
theorem dM_filter_9 : decode cM_filter 9 = .ok (.getfield 142, 3) := by decide +kernel
theorem dM_filter_12 : decode cM_filter 12 = .ok (.iconst 1, 1) := by decide +kernel
theorem dM_filter_13 : decode cM_filter 13 = .ok (.iadd, 1) := by decide +kernel
theorem dM_filter_14 : decode cM_filter 14 = .ok (.istore 4, 2) := by decide +kernel
theorem dM_filter_16 : decode cM_filter 16 = .ok (.iload 4, 2) := by decide +kernel
theorem dM_filter_18 : decode cM_filter 18 = .ok (.aload_n 0, 1) := by decide +kernel
theorem dM_filter_19 : decode cM_filter 19 = .ok (.getfield 136, 3) := by decide +kernel
theorem dM_filter_22 : decode cM_filter 22 = .ok (.if_icmp .ge 25, 3) := by decide +kernel
theorem dM_filter_25 : decode cM_filter 25 = .ok (.bipush 10, 2) := by decide +kernel
theorem dM_filter_27 : decode cM_filter 27 = .ok (.iload_n 3, 1) := by decide +kernel
theorem dM_filter_28 : decode cM_filter 28 = .ok (.imul, 1) := by decide +kernel
theorem dM_filter_29 : decode cM_filter 29 = .ok (.aload_n 0, 1) := by decide +kernel
theorem dM_filter_30 : decode cM_filter 30 = .ok (.iload_n 1, 1) := by decide +kernel
theorem dM_filter_31 : decode cM_filter 31 = .ok (.iload 4, 2) := by decide +kernel
theorem dM_filter_33 : decode cM_filter 33 = .ok (.invokevirtual 139, 3) := by decide +kernel
theorem dM_filter_36 : decode cM_filter 36 = .ok (.iadd, 1) := by decide +kernel
theorem dM_filter_37 : decode cM_filter 37 = .ok (.bipush 48, 2) := by decide +kernel
theorem dM_filter_39 : decode cM_filter 39 = .ok (.isub, 1) := by decide +kernel
theorem dM_filter_40 : decode cM_filter 40 = .ok (.istore_n 3, 1) := by decide +kernel
theorem dM_filter_41 : decode cM_filter 41 = .ok (.iinc 4 1, 3) := by decide +kernel
theorem dM_filter_44 : decode cM_filter 44 = .ok (.goto (-28), 3) := by decide +kernel
theorem dM_filter_47 : decode cM_filter 47 = .ok (.aload_n 0, 1) := by decide +kernel
theorem dM_filter_48 : decode cM_filter 48 = .ok (.iload_n 1, 1) := by decide +kernel
theorem dM_filter_49 : decode cM_filter 49 = .ok (.aload_n 0, 1) := by decide +kernel
theorem dM_filter_50 : decode cM_filter 50 = .ok (.getfield 142, 3) := by decide +kernel
theorem dM_filter_53 : decode cM_filter 53 = .ok (.invokevirtual 139, 3) := by decide +kernel
theorem dM_filter_56 : decode cM_filter 56 = .ok (.istore 4, 2) := by decide +kernel
theorem dM_filter_58 : decode cM_filter 58 = .ok (.iload 4, 2) := by decide +kernel
theorem dM_filter_60 : decode cM_filter 60 = .ok (.bipush 61, 2) := by decide +kernel
theorem dM_filter_62 : decode cM_filter 62 = .ok (.if_icmp .ne 21, 3) := by decide +kernel
theorem dM_filter_65 : decode cM_filter 65 = .ok (.aload_n 0, 1) := by decide +kernel
theorem dM_filter_66 : decode cM_filter 66 = .ok (.getfield 13, 3) := by decide +kernel
theorem dM_filter_69 : decode cM_filter 69 = .ok (.iload_n 2, 1) := by decide +kernel
theorem dM_filter_70 : decode cM_filter 70 = .ok (.iaload, 1) := by decide +kernel
theorem dM_filter_71 : decode cM_filter 71 = .ok (.iload_n 3, 1) := by decide +kernel
theorem dM_filter_72 : decode cM_filter 72 = .ok (.if_icmp .ne 7, 3) := by decide +kernel
theorem dM_filter_75 : decode cM_filter 75 = .ok (.iconst 1, 1) := by decide +kernel
theorem dM_filter_76 : decode cM_filter 76 = .ok (.goto 47, 3) := by decide +kernel
theorem dM_filter_79 : decode cM_filter 79 = .ok (.iconst 0, 1) := by decide +kernel
theorem dM_filter_80 : decode cM_filter 80 = .ok (.goto 43, 3) := by decide +kernel
theorem dM_filter_83 : decode cM_filter 83 = .ok (.iload 4, 2) := by decide +kernel
theorem dM_filter_85 : decode cM_filter 85 = .ok (.bipush 60, 2) := by decide +kernel
theorem dM_filter_87 : decode cM_filter 87 = .ok (.if_icmp .ne 21, 3) := by decide +kernel
theorem dM_filter_90 : decode cM_filter 90 = .ok (.aload_n 0, 1) := by decide +kernel
theorem dM_filter_91 : decode cM_filter 91 = .ok (.getfield 16, 3) := by decide +kernel
theorem dM_filter_94 : decode cM_filter 94 = .ok (.iload_n 2, 1) := by decide +kernel
theorem dM_filter_95 : decode cM_filter 95 = .ok (.iaload, 1) := by decide +kernel
theorem dM_filter_96 : decode cM_filter 96 = .ok (.iload_n 3, 1) := by decide +kernel
theorem dM_filter_97 : decode cM_filter 97 = .ok (.if_icmp .ge 7, 3) := by decide +kernel
theorem dM_filter_100 : decode cM_filter 100 = .ok (.iconst 1, 1) := by decide +kernel
theorem dM_filter_101 : decode cM_filter 101 = .ok (.goto 22, 3) := by decide +kernel
theorem dM_filter_104 : decode cM_filter 104 = .ok (.iconst 0, 1) := by decide +kernel
theorem dM_filter_105 : decode cM_filter 105 = .ok (.goto 18, 3) := by decide +kernel
theorem dM_filter_108 : decode cM_filter 108 = .ok (.aload_n 0, 1) := by decide +kernel
theorem dM_filter_109 : decode cM_filter 109 = .ok (.getfield 16, 3) := by decide +kernel
theorem dM_filter_112 : decode cM_filter 112 = .ok (.iload_n 2, 1) := by decide +kernel
theorem dM_filter_113 : decode cM_filter 113 = .ok (.iaload, 1) := by decide +kernel
theorem dM_filter_114 : decode cM_filter 114 = .ok (.iload_n 3, 1) := by decide +kernel
theorem dM_filter_115 : decode cM_filter 115 = .ok (.if_icmp .le 7, 3) := by decide +kernel
theorem dM_filter_118 : decode cM_filter 118 = .ok (.iconst 1, 1) := by decide +kernel
theorem dM_filter_119 : decode cM_filter 119 = .ok (.goto 4, 3) := by decide +kernel
theorem dM_filter_122 : decode cM_filter 122 = .ok (.iconst 0, 1) := by decide +kernel
theorem dM_filter_123 : decode cM_filter 123 = .ok (.ireturn, 1) := by decide +kernel
abbrev cM_keepWord : ByteArray := prog_9_method_30_code
def yM_keepWord : MethodName := ⟨"PostIndexModel", "keepWord", "()V"⟩
def fM_keepWord (d : Nat) : zF := (cM_keepWord, 1, yM_keepWord, none, d, 0, 0)
theorem meM_keepWord (d : Nat) : zMe (fM_keepWord d) 0 := ⟨(zA3 (i := 219) rfl rfl), (zA1 (i := 8) rfl rfl), by show "PostIndexModel" ≠ _; decide +kernel, by show "PostIndexModel" ≠ _; decide +kernel, by show (parseMethodDescriptor "()V").map _ = _; decide +kernel⟩
theorem dM_keepWord_0 : decode cM_keepWord 0 = .ok (.aload_n 0, 1) := by decide +kernel
end
section
theorem dM_keepWord_1 : decode cM_keepWord 1 = .ok (.getfield 68, 3) := by decide +kernel
theorem dM_keepWord_4 : decode cM_keepWord 4 = .ok (.aload_n 0, 1) := by decide +kernel
theorem dM_keepWord_5 : decode cM_keepWord 5 = .ok (.getfield 148, 3) := by decide +kernel
theorem dM_keepWord_8 : decode cM_keepWord 8 = .ok (.aload_n 0, 1) := by decide +kernel
theorem dM_keepWord_9 : decode cM_keepWord 9 = .ok (.getfield 142, 3) := by decide +kernel
theorem dM_keepWord_12 : decode cM_keepWord 12 = .ok (.iastore, 1) := by decide +kernel
theorem dM_keepWord_13 : decode cM_keepWord 13 = .ok (.aload_n 0, 1) := by decide +kernel
theorem dM_keepWord_14 : decode cM_keepWord 14 = .ok (.getfield 71, 3) := by decide +kernel
theorem dM_keepWord_17 : decode cM_keepWord 17 = .ok (.aload_n 0, 1) := by decide +kernel
theorem dM_keepWord_18 : decode cM_keepWord 18 = .ok (.getfield 148, 3) := by decide +kernel
theorem dM_keepWord_21 : decode cM_keepWord 21 = .ok (.aload_n 0, 1) := by decide +kernel
theorem dM_keepWord_22 : decode cM_keepWord 22 = .ok (.getfield 136, 3) := by decide +kernel
theorem dM_keepWord_25 : decode cM_keepWord 25 = .ok (.iastore, 1) := by decide +kernel
theorem dM_keepWord_26 : decode cM_keepWord 26 = .ok (.aload_n 0, 1) := by decide +kernel
theorem dM_keepWord_27 : decode cM_keepWord 27 = .ok (.dup, 1) := by decide +kernel
theorem dM_keepWord_28 : decode cM_keepWord 28 = .ok (.getfield 148, 3) := by decide +kernel
theorem dM_keepWord_31 : decode cM_keepWord 31 = .ok (.iconst 1, 1) := by decide +kernel
theorem dM_keepWord_32 : decode cM_keepWord 32 = .ok (.iadd, 1) := by decide +kernel
theorem dM_keepWord_33 : decode cM_keepWord 33 = .ok (.putfield 148, 3) := by decide +kernel
theorem dM_keepWord_36 : decode cM_keepWord 36 = .ok (.return_, 1) := by decide +kernel
abbrev cM_open : ByteArray := prog_9_method_31_code
def yM_open : MethodName := ⟨"PostIndexModel", "open", "(I)V"⟩
def fM_open (d : Nat) : zF := (cM_open, 2, yM_open, none, d, 0, 0)
theorem meM_open (d : Nat) : zMe (fM_open d) 1 := ⟨(zA3 (i := 203) rfl rfl), (zA1 (i := 8) rfl rfl), by show "PostIndexModel" ≠ _; decide +kernel, by show "PostIndexModel" ≠ _; decide +kernel, by show (parseMethodDescriptor "(I)V").map _ = _; decide +kernel⟩
theorem dM_open_0 : decode cM_open 0 = .ok (.aload_n 0, 1) := by decide +kernel
theorem dM_open_1 : decode cM_open 1 = .ok (.iload_n 1, 1) := by decide +kernel
theorem dM_open_2 : decode cM_open 2 = .ok (.putfield 155, 3) := by decide +kernel
theorem flM_155 : zFld "PostIndexModel" 155 7 23 31 := ⟨RM, TM, rfl, by decide, inM, (zA3 (i := 27) rfl rfl)⟩
theorem dM_open_5 : decode cM_open 5 = .ok (.aload_n 0, 1) := by decide +kernel
theorem dM_open_6 : decode cM_open 6 = .ok (.getfield 56, 3) := by decide +kernel
theorem dM_open_9 : decode cM_open 9 = .ok (.iload_n 1, 1) := by decide +kernel
theorem dM_open_10 : decode cM_open 10 = .ok (.iconst 0, 1) := by decide +kernel
theorem dM_open_11 : decode cM_open 11 = .ok (.bastore, 1) := by decide +kernel
theorem dM_open_12 : decode cM_open 12 = .ok (.aload_n 0, 1) := by decide +kernel
theorem dM_open_13 : decode cM_open 13 = .ok (.getfield 59, 3) := by decide +kernel
theorem dM_open_16 : decode cM_open 16 = .ok (.iload_n 1, 1) := by decide +kernel
theorem dM_open_17 : decode cM_open 17 = .ok (.iconst 1, 1) := by decide +kernel
theorem dM_open_18 : decode cM_open 18 = .ok (.bastore, 1) := by decide +kernel
theorem dM_open_19 : decode cM_open 19 = .ok (.aload_n 0, 1) := by decide +kernel
theorem dM_open_20 : decode cM_open 20 = .ok (.getfield 62, 3) := by decide +kernel
theorem dM_open_23 : decode cM_open 23 = .ok (.iload_n 1, 1) := by decide +kernel
theorem dM_open_24 : decode cM_open 24 = .ok (.iconst 0, 1) := by decide +kernel
theorem dM_open_25 : decode cM_open 25 = .ok (.iastore, 1) := by decide +kernel
theorem dM_open_26 : decode cM_open 26 = .ok (.aload_n 0, 1) := by decide +kernel
theorem dM_open_27 : decode cM_open 27 = .ok (.getfield 65, 3) := by decide +kernel
theorem dM_open_30 : decode cM_open 30 = .ok (.iload_n 1, 1) := by decide +kernel
theorem dM_open_31 : decode cM_open 31 = .ok (.iconst 0, 1) := by decide +kernel
theorem dM_open_32 : decode cM_open 32 = .ok (.iastore, 1) := by decide +kernel
theorem dM_open_33 : decode cM_open 33 = .ok (.return_, 1) := by decide +kernel
abbrev cM_part : ByteArray := prog_9_method_32_code
def yM_part : MethodName := ⟨"PostIndexModel", "part", "(Z)V"⟩
def fM_part (d : Nat) : zF := (cM_part, 3, yM_part, none, d, 0, 0)
theorem meM_part (d : Nat) : zMe (fM_part d) 1 := ⟨(zA3 (i := 231) rfl rfl), (zA1 (i := 8) rfl rfl), by show "PostIndexModel" ≠ _; decide +kernel, by show "PostIndexModel" ≠ _; decide +kernel, by show (parseMethodDescriptor "(Z)V").map _ = _; decide +kernel⟩
theorem dM_part_0 : decode cM_part 0 = .ok (.aload_n 0, 1) := by decide +kernel
theorem dM_part_1 : decode cM_part 1 = .ok (.getfield 65, 3) := by decide +kernel
theorem dM_part_4 : decode cM_part 4 = .ok (.aload_n 0, 1) := by decide +kernel
theorem dM_part_5 : decode cM_part 5 = .ok (.getfield 155, 3) := by decide +kernel
theorem dM_part_8 : decode cM_part 8 = .ok (.iaload, 1) := by decide +kernel
theorem dM_part_9 : decode cM_part 9 = .ok (.iconst 1, 1) := by decide +kernel
theorem dM_part_10 : decode cM_part 10 = .ok (.if_icmp .ne 15, 3) := by decide +kernel
theorem dM_part_13 : decode cM_part 13 = .ok (.iload_n 1, 1) := by decide +kernel
theorem dM_part_14 : decode cM_part 14 = .ok (.ifCond .ne 7, 3) := by decide +kernel
theorem dM_part_17 : decode cM_part 17 = .ok (.iconst 1, 1) := by decide +kernel
theorem dM_part_18 : decode cM_part 18 = .ok (.goto 8, 3) := by decide +kernel
theorem dM_part_21 : decode cM_part 21 = .ok (.iconst 0, 1) := by decide +kernel
theorem dM_part_22 : decode cM_part 22 = .ok (.goto 4, 3) := by decide +kernel
theorem dM_part_25 : decode cM_part 25 = .ok (.iload_n 1, 1) := by decide +kernel
theorem dM_part_26 : decode cM_part 26 = .ok (.istore_n 2, 1) := by decide +kernel
theorem dM_part_27 : decode cM_part 27 = .ok (.aload_n 0, 1) := by decide +kernel
theorem dM_part_28 : decode cM_part 28 = .ok (.getfield 59, 3) := by decide +kernel
theorem dM_part_31 : decode cM_part 31 = .ok (.aload_n 0, 1) := by decide +kernel
theorem dM_part_32 : decode cM_part 32 = .ok (.getfield 155, 3) := by decide +kernel
theorem dM_part_35 : decode cM_part 35 = .ok (.aload_n 0, 1) := by decide +kernel
theorem dM_part_36 : decode cM_part 36 = .ok (.getfield 59, 3) := by decide +kernel
theorem dM_part_39 : decode cM_part 39 = .ok (.aload_n 0, 1) := by decide +kernel
theorem dM_part_40 : decode cM_part 40 = .ok (.getfield 155, 3) := by decide +kernel
theorem dM_part_43 : decode cM_part 43 = .ok (.baload, 1) := by decide +kernel
theorem dM_part_44 : decode cM_part 44 = .ok (.ifCond .eq 11, 3) := by decide +kernel
theorem dM_part_47 : decode cM_part 47 = .ok (.iload_n 2, 1) := by decide +kernel
theorem dM_part_48 : decode cM_part 48 = .ok (.ifCond .eq 7, 3) := by decide +kernel
theorem dM_part_51 : decode cM_part 51 = .ok (.iconst 1, 1) := by decide +kernel
theorem dM_part_52 : decode cM_part 52 = .ok (.goto 4, 3) := by decide +kernel
theorem dM_part_55 : decode cM_part 55 = .ok (.iconst 0, 1) := by decide +kernel
theorem dM_part_56 : decode cM_part 56 = .ok (.bastore, 1) := by decide +kernel
theorem dM_part_57 : decode cM_part 57 = .ok (.aload_n 0, 1) := by decide +kernel
theorem dM_part_58 : decode cM_part 58 = .ok (.getfield 62, 3) := by decide +kernel
theorem dM_part_61 : decode cM_part 61 = .ok (.aload_n 0, 1) := by decide +kernel
theorem dM_part_62 : decode cM_part 62 = .ok (.getfield 155, 3) := by decide +kernel
theorem dM_part_65 : decode cM_part 65 = .ok (.dup2, 1) := by decide +kernel
theorem dM_part_66 : decode cM_part 66 = .ok (.iaload, 1) := by decide +kernel
theorem dM_part_67 : decode cM_part 67 = .ok (.iconst 1, 1) := by decide +kernel
theorem dM_part_68 : decode cM_part 68 = .ok (.iadd, 1) := by decide +kernel
theorem dM_part_69 : decode cM_part 69 = .ok (.iastore, 1) := by decide +kernel
theorem dM_part_70 : decode cM_part 70 = .ok (.aload_n 0, 1) := by decide +kernel
theorem dM_part_71 : decode cM_part 71 = .ok (.getfield 65, 3) := by decide +kernel
theorem dM_part_74 : decode cM_part 74 = .ok (.aload_n 0, 1) := by decide +kernel
theorem dM_part_75 : decode cM_part 75 = .ok (.getfield 155, 3) := by decide +kernel
theorem dM_part_78 : decode cM_part 78 = .ok (.iconst 0, 1) := by decide +kernel
theorem dM_part_79 : decode cM_part 79 = .ok (.iastore, 1) := by decide +kernel
theorem dM_part_80 : decode cM_part 80 = .ok (.return_, 1) := by decide +kernel
abbrev cM_step : ByteArray := prog_9_method_33_code
def yM_step : MethodName := ⟨"PostIndexModel", "step", "(II)Z"⟩
def fM_step (d : Nat) : zF := (cM_step, 5, yM_step, (some .boolean), d, 0, 0)
theorem meM_step (d : Nat) : zMe (fM_step d) 2 := ⟨(zA3 (i := 215) rfl rfl), (zA1 (i := 8) rfl rfl), by show "PostIndexModel" ≠ _; decide +kernel, by show "PostIndexModel" ≠ _; decide +kernel, by show (parseMethodDescriptor "(II)Z").map _ = _; decide +kernel⟩
theorem dM_step_0 : decode cM_step 0 = .ok (.aload_n 0, 1) := by decide +kernel
theorem dM_step_1 : decode cM_step 1 = .ok (.getfield 62, 3) := by decide +kernel
theorem dM_step_4 : decode cM_step 4 = .ok (.aload_n 0, 1) := by decide +kernel
theorem dM_step_5 : decode cM_step 5 = .ok (.getfield 155, 3) := by decide +kernel
theorem dM_step_8 : decode cM_step 8 = .ok (.iaload, 1) := by decide +kernel
theorem dM_step_9 : decode cM_step 9 = .ok (.ifCond .le 19, 3) := by decide +kernel
theorem dM_step_12 : decode cM_step 12 = .ok (.aload_n 0, 1) := by decide +kernel
theorem dM_step_13 : decode cM_step 13 = .ok (.getfield 65, 3) := by decide +kernel
theorem dM_step_16 : decode cM_step 16 = .ok (.aload_n 0, 1) := by decide +kernel
theorem dM_step_17 : decode cM_step 17 = .ok (.getfield 155, 3) := by decide +kernel
theorem dM_step_20 : decode cM_step 20 = .ok (.iaload, 1) := by decide +kernel
theorem dM_step_21 : decode cM_step 21 = .ok (.ifCond .ne 7, 3) := by decide +kernel
theorem dM_step_24 : decode cM_step 24 = .ok (.iconst 1, 1) := by decide +kernel
theorem dM_step_25 : decode cM_step 25 = .ok (.goto 4, 3) := by decide +kernel
theorem dM_step_28 : decode cM_step 28 = .ok (.iconst 0, 1) := by decide +kernel
theorem dM_step_29 : decode cM_step 29 = .ok (.istore_n 3, 1) := by decide +kernel
theorem dM_step_30 : decode cM_step 30 = .ok (.aload_n 0, 1) := by decide +kernel
theorem dM_step_31 : decode cM_step 31 = .ok (.iconst 0, 1) := by decide +kernel
theorem dM_step_32 : decode cM_step 32 = .ok (.putfield 148, 3) := by decide +kernel
theorem dM_step_35 : decode cM_step 35 = .ok (.aload_n 0, 1) := by decide +kernel
theorem dM_step_36 : decode cM_step 36 = .ok (.getfield 145, 3) := by decide +kernel
theorem dM_step_39 : decode cM_step 39 = .ok (.iconst 1, 1) := by decide +kernel
theorem dM_step_40 : decode cM_step 40 = .ok (.if_icmp .ne 20, 3) := by decide +kernel
theorem dM_step_43 : decode cM_step 43 = .ok (.aload_n 0, 1) := by decide +kernel
theorem dM_step_44 : decode cM_step 44 = .ok (.invokevirtual 158, 3) := by decide +kernel
theorem dM_step_47 : decode cM_step 47 = .ok (.aload_n 0, 1) := by decide +kernel
theorem dM_step_48 : decode cM_step 48 = .ok (.aload_n 0, 1) := by decide +kernel
theorem dM_step_49 : decode cM_step 49 = .ok (.iload_n 1, 1) := by decide +kernel
theorem dM_step_50 : decode cM_step 50 = .ok (.iload_n 2, 1) := by decide +kernel
theorem dM_step_51 : decode cM_step 51 = .ok (.invokevirtual 161, 3) := by decide +kernel
theorem dM_step_54 : decode cM_step 54 = .ok (.invokevirtual 164, 3) := by decide +kernel
theorem dM_step_57 : decode cM_step 57 = .ok (.goto 306, 3) := by decide +kernel
theorem dM_step_60 : decode cM_step 60 = .ok (.aload_n 0, 1) := by decide +kernel
theorem dM_step_61 : decode cM_step 61 = .ok (.getfield 145, 3) := by decide +kernel
theorem dM_step_64 : decode cM_step 64 = .ok (.iconst 2, 1) := by decide +kernel
theorem dM_step_65 : decode cM_step 65 = .ok (.if_icmp .ne 16, 3) := by decide +kernel
theorem dM_step_68 : decode cM_step 68 = .ok (.aload_n 0, 1) := by decide +kernel
theorem dM_step_69 : decode cM_step 69 = .ok (.aload_n 0, 1) := by decide +kernel
theorem dM_step_70 : decode cM_step 70 = .ok (.iload_n 1, 1) := by decide +kernel
theorem dM_step_71 : decode cM_step 71 = .ok (.iload_n 2, 1) := by decide +kernel
theorem dM_step_72 : decode cM_step 72 = .ok (.invokevirtual 168, 3) := by decide +kernel
theorem dM_step_75 : decode cM_step 75 = .ok (.invokevirtual 164, 3) := by decide +kernel
theorem dM_step_78 : decode cM_step 78 = .ok (.goto 285, 3) := by decide +kernel
theorem dM_step_81 : decode cM_step 81 = .ok (.aload_n 0, 1) := by decide +kernel
theorem dM_step_82 : decode cM_step 82 = .ok (.getfield 145, 3) := by decide +kernel
theorem dM_step_85 : decode cM_step 85 = .ok (.bipush 34, 2) := by decide +kernel
theorem dM_step_87 : decode cM_step 87 = .ok (.if_icmp .ne 59, 3) := by decide +kernel
theorem dM_step_90 : decode cM_step 90 = .ok (.aload_n 0, 1) := by decide +kernel
theorem dM_step_91 : decode cM_step 91 = .ok (.iload_n 1, 1) := by decide +kernel
theorem dM_step_92 : decode cM_step 92 = .ok (.invokevirtual 171, 3) := by decide +kernel
theorem dM_step_95 : decode cM_step 95 = .ok (.aload_n 0, 1) := by decide +kernel
theorem dM_step_96 : decode cM_step 96 = .ok (.getfield 145, 3) := by decide +kernel
theorem dM_step_99 : decode cM_step 99 = .ok (.iconst 1, 1) := by decide +kernel
theorem dM_step_100 : decode cM_step 100 = .ok (.if_icmp .ne 15, 3) := by decide +kernel
theorem dM_step_103 : decode cM_step 103 = .ok (.aload_n 0, 1) := by decide +kernel
theorem dM_step_104 : decode cM_step 104 = .ok (.invokevirtual 158, 3) := by decide +kernel
theorem dM_step_107 : decode cM_step 107 = .ok (.aload_n 0, 1) := by decide +kernel
theorem dM_step_108 : decode cM_step 108 = .ok (.iload_n 1, 1) := by decide +kernel
theorem dM_step_109 : decode cM_step 109 = .ok (.invokevirtual 171, 3) := by decide +kernel
theorem dM_step_112 : decode cM_step 112 = .ok (.goto (-17), 3) := by decide +kernel
theorem dM_step_115 : decode cM_step 115 = .ok (.aload_n 0, 1) := by decide +kernel
theorem dM_step_116 : decode cM_step 116 = .ok (.getfield 145, 3) := by decide +kernel
theorem dM_step_119 : decode cM_step 119 = .ok (.bipush 34, 2) := by decide +kernel
theorem dM_step_121 : decode cM_step 121 = .ok (.if_icmp .ne 10, 3) := by decide +kernel
theorem dM_step_124 : decode cM_step 124 = .ok (.aload_n 0, 1) := by decide +kernel
theorem dM_step_125 : decode cM_step 125 = .ok (.getfield 148, 3) := by decide +kernel
theorem dM_step_128 : decode cM_step 128 = .ok (.ifCond .ne 5, 3) := by decide +kernel
theorem dM_step_131 : decode cM_step 131 = .ok (.iconst 0, 1) := by decide +kernel
theorem dM_step_132 : decode cM_step 132 = .ok (.ireturn, 1) := by decide +kernel
theorem dM_step_133 : decode cM_step 133 = .ok (.aload_n 0, 1) := by decide +kernel
theorem dM_step_134 : decode cM_step 134 = .ok (.aload_n 0, 1) := by decide +kernel
theorem dM_step_135 : decode cM_step 135 = .ok (.iload_n 1, 1) := by decide +kernel
theorem dM_step_136 : decode cM_step 136 = .ok (.iload_n 2, 1) := by decide +kernel
theorem dM_step_137 : decode cM_step 137 = .ok (.invokevirtual 161, 3) := by decide +kernel
theorem dM_step_140 : decode cM_step 140 = .ok (.invokevirtual 164, 3) := by decide +kernel
theorem dM_step_143 : decode cM_step 143 = .ok (.goto 220, 3) := by decide +kernel
theorem dM_step_146 : decode cM_step 146 = .ok (.aload_n 0, 1) := by decide +kernel
theorem dM_step_147 : decode cM_step 147 = .ok (.getfield 145, 3) := by decide +kernel
theorem dM_step_150 : decode cM_step 150 = .ok (.bipush 45, 2) := by decide +kernel
theorem dM_step_152 : decode cM_step 152 = .ok (.if_icmp .ne 33, 3) := by decide +kernel
theorem dM_step_155 : decode cM_step 155 = .ok (.aload_n 0, 1) := by decide +kernel
theorem dM_step_156 : decode cM_step 156 = .ok (.getfield 65, 3) := by decide +kernel
theorem dM_step_159 : decode cM_step 159 = .ok (.aload_n 0, 1) := by decide +kernel
theorem dM_step_160 : decode cM_step 160 = .ok (.getfield 155, 3) := by decide +kernel
theorem dM_step_163 : decode cM_step 163 = .ok (.aload_n 0, 1) := by decide +kernel
theorem dM_step_164 : decode cM_step 164 = .ok (.getfield 65, 3) := by decide +kernel
theorem dM_step_167 : decode cM_step 167 = .ok (.aload_n 0, 1) := by decide +kernel
theorem dM_step_168 : decode cM_step 168 = .ok (.getfield 155, 3) := by decide +kernel
theorem dM_step_171 : decode cM_step 171 = .ok (.iaload, 1) := by decide +kernel
theorem dM_step_172 : decode cM_step 172 = .ok (.iconst 1, 1) := by decide +kernel
theorem dM_step_173 : decode cM_step 173 = .ok (.if_icmp .ne 7, 3) := by decide +kernel
theorem dM_step_176 : decode cM_step 176 = .ok (.iconst 2, 1) := by decide +kernel
theorem dM_step_177 : decode cM_step 177 = .ok (.goto 4, 3) := by decide +kernel
theorem dM_step_180 : decode cM_step 180 = .ok (.iconst 1, 1) := by decide +kernel
theorem dM_step_181 : decode cM_step 181 = .ok (.iastore, 1) := by decide +kernel
theorem dM_step_182 : decode cM_step 182 = .ok (.goto 181, 3) := by decide +kernel
theorem dM_step_185 : decode cM_step 185 = .ok (.aload_n 0, 1) := by decide +kernel
theorem dM_step_186 : decode cM_step 186 = .ok (.getfield 145, 3) := by decide +kernel
theorem dM_step_189 : decode cM_step 189 = .ok (.bipush 40, 2) := by decide +kernel
theorem dM_step_191 : decode cM_step 191 = .ok (.if_icmp .ne 27, 3) := by decide +kernel
theorem dM_step_194 : decode cM_step 194 = .ok (.aload_n 0, 1) := by decide +kernel
theorem dM_step_195 : decode cM_step 195 = .ok (.getfield 155, 3) := by decide +kernel
theorem dM_step_198 : decode cM_step 198 = .ok (.bipush 6, 2) := by decide +kernel
theorem dM_step_200 : decode cM_step 200 = .ok (.if_icmp .lt 5, 3) := by decide +kernel
theorem dM_step_203 : decode cM_step 203 = .ok (.iconst 0, 1) := by decide +kernel
theorem dM_step_204 : decode cM_step 204 = .ok (.ireturn, 1) := by decide +kernel
theorem dM_step_205 : decode cM_step 205 = .ok (.aload_n 0, 1) := by decide +kernel
theorem dM_step_206 : decode cM_step 206 = .ok (.aload_n 0, 1) := by decide +kernel
theorem dM_step_207 : decode cM_step 207 = .ok (.getfield 155, 3) := by decide +kernel
theorem dM_step_210 : decode cM_step 210 = .ok (.iconst 1, 1) := by decide +kernel
theorem dM_step_211 : decode cM_step 211 = .ok (.iadd, 1) := by decide +kernel
theorem dM_step_212 : decode cM_step 212 = .ok (.invokevirtual 174, 3) := by decide +kernel
theorem dM_step_215 : decode cM_step 215 = .ok (.goto 148, 3) := by decide +kernel
theorem dM_step_218 : decode cM_step 218 = .ok (.aload_n 0, 1) := by decide +kernel
theorem dM_step_219 : decode cM_step 219 = .ok (.getfield 145, 3) := by decide +kernel
theorem dM_step_222 : decode cM_step 222 = .ok (.bipush 41, 2) := by decide +kernel
theorem dM_step_224 : decode cM_step 224 = .ok (.if_icmp .ne 66, 3) := by decide +kernel
theorem dM_step_227 : decode cM_step 227 = .ok (.aload_n 0, 1) := by decide +kernel
theorem dM_step_228 : decode cM_step 228 = .ok (.getfield 155, 3) := by decide +kernel
theorem dM_step_231 : decode cM_step 231 = .ok (.ifCond .eq 7, 3) := by decide +kernel
theorem dM_step_234 : decode cM_step 234 = .ok (.iload_n 3, 1) := by decide +kernel
theorem dM_step_235 : decode cM_step 235 = .ok (.ifCond .ne 5, 3) := by decide +kernel
theorem dM_step_238 : decode cM_step 238 = .ok (.iconst 0, 1) := by decide +kernel
theorem dM_step_239 : decode cM_step 239 = .ok (.ireturn, 1) := by decide +kernel
theorem dM_step_240 : decode cM_step 240 = .ok (.aload_n 0, 1) := by decide +kernel
theorem dM_step_241 : decode cM_step 241 = .ok (.getfield 56, 3) := by decide +kernel
theorem dM_step_244 : decode cM_step 244 = .ok (.aload_n 0, 1) := by decide +kernel
theorem dM_step_245 : decode cM_step 245 = .ok (.getfield 155, 3) := by decide +kernel
theorem dM_step_248 : decode cM_step 248 = .ok (.baload, 1) := by decide +kernel
theorem dM_step_249 : decode cM_step 249 = .ok (.ifCond .ne 15, 3) := by decide +kernel
theorem dM_step_252 : decode cM_step 252 = .ok (.aload_n 0, 1) := by decide +kernel
theorem dM_step_253 : decode cM_step 253 = .ok (.getfield 59, 3) := by decide +kernel
theorem dM_step_256 : decode cM_step 256 = .ok (.aload_n 0, 1) := by decide +kernel
theorem dM_step_257 : decode cM_step 257 = .ok (.getfield 155, 3) := by decide +kernel
theorem dM_step_260 : decode cM_step 260 = .ok (.baload, 1) := by decide +kernel
theorem dM_step_261 : decode cM_step 261 = .ok (.ifCond .eq 7, 3) := by decide +kernel
theorem dM_step_264 : decode cM_step 264 = .ok (.iconst 1, 1) := by decide +kernel
theorem dM_step_265 : decode cM_step 265 = .ok (.goto 4, 3) := by decide +kernel
theorem dM_step_268 : decode cM_step 268 = .ok (.iconst 0, 1) := by decide +kernel
theorem dM_step_269 : decode cM_step 269 = .ok (.istore 4, 2) := by decide +kernel
theorem dM_step_271 : decode cM_step 271 = .ok (.aload_n 0, 1) := by decide +kernel
theorem dM_step_272 : decode cM_step 272 = .ok (.dup, 1) := by decide +kernel
theorem dM_step_273 : decode cM_step 273 = .ok (.getfield 155, 3) := by decide +kernel
theorem dM_step_276 : decode cM_step 276 = .ok (.iconst 1, 1) := by decide +kernel
theorem dM_step_277 : decode cM_step 277 = .ok (.isub, 1) := by decide +kernel
theorem dM_step_278 : decode cM_step 278 = .ok (.putfield 155, 3) := by decide +kernel
theorem dM_step_281 : decode cM_step 281 = .ok (.aload_n 0, 1) := by decide +kernel
theorem dM_step_282 : decode cM_step 282 = .ok (.iload 4, 2) := by decide +kernel
theorem dM_step_284 : decode cM_step 284 = .ok (.invokevirtual 164, 3) := by decide +kernel
theorem dM_step_287 : decode cM_step 287 = .ok (.goto 76, 3) := by decide +kernel
theorem dM_step_290 : decode cM_step 290 = .ok (.aload_n 0, 1) := by decide +kernel
theorem dM_step_291 : decode cM_step 291 = .ok (.getfield 145, 3) := by decide +kernel
theorem dM_step_294 : decode cM_step 294 = .ok (.bipush 124, 2) := by decide +kernel
theorem dM_step_296 : decode cM_step 296 = .ok (.if_icmp .ne 7, 3) := by decide +kernel
theorem dM_step_299 : decode cM_step 299 = .ok (.iload_n 3, 1) := by decide +kernel
theorem dM_step_300 : decode cM_step 300 = .ok (.ifCond .ne 5, 3) := by decide +kernel
theorem dM_step_303 : decode cM_step 303 = .ok (.iconst 0, 1) := by decide +kernel
theorem dM_step_304 : decode cM_step 304 = .ok (.ireturn, 1) := by decide +kernel
theorem dM_step_305 : decode cM_step 305 = .ok (.aload_n 0, 1) := by decide +kernel
theorem dM_step_306 : decode cM_step 306 = .ok (.getfield 56, 3) := by decide +kernel
theorem dM_step_309 : decode cM_step 309 = .ok (.aload_n 0, 1) := by decide +kernel
theorem dM_step_310 : decode cM_step 310 = .ok (.getfield 155, 3) := by decide +kernel
theorem dM_step_313 : decode cM_step 313 = .ok (.aload_n 0, 1) := by decide +kernel
theorem dM_step_314 : decode cM_step 314 = .ok (.getfield 56, 3) := by decide +kernel
theorem dM_step_317 : decode cM_step 317 = .ok (.aload_n 0, 1) := by decide +kernel
theorem dM_step_318 : decode cM_step 318 = .ok (.getfield 155, 3) := by decide +kernel
theorem dM_step_321 : decode cM_step 321 = .ok (.baload, 1) := by decide +kernel
theorem dM_step_322 : decode cM_step 322 = .ok (.ifCond .ne 15, 3) := by decide +kernel
theorem dM_step_325 : decode cM_step 325 = .ok (.aload_n 0, 1) := by decide +kernel
theorem dM_step_326 : decode cM_step 326 = .ok (.getfield 59, 3) := by decide +kernel
theorem dM_step_329 : decode cM_step 329 = .ok (.aload_n 0, 1) := by decide +kernel
theorem dM_step_330 : decode cM_step 330 = .ok (.getfield 155, 3) := by decide +kernel
theorem dM_step_333 : decode cM_step 333 = .ok (.baload, 1) := by decide +kernel
theorem dM_step_334 : decode cM_step 334 = .ok (.ifCond .eq 7, 3) := by decide +kernel
theorem dM_step_337 : decode cM_step 337 = .ok (.iconst 1, 1) := by decide +kernel
theorem dM_step_338 : decode cM_step 338 = .ok (.goto 4, 3) := by decide +kernel
theorem dM_step_341 : decode cM_step 341 = .ok (.iconst 0, 1) := by decide +kernel
theorem dM_step_342 : decode cM_step 342 = .ok (.bastore, 1) := by decide +kernel
theorem dM_step_343 : decode cM_step 343 = .ok (.aload_n 0, 1) := by decide +kernel
theorem dM_step_344 : decode cM_step 344 = .ok (.getfield 59, 3) := by decide +kernel
theorem dM_step_347 : decode cM_step 347 = .ok (.aload_n 0, 1) := by decide +kernel
theorem dM_step_348 : decode cM_step 348 = .ok (.getfield 155, 3) := by decide +kernel
theorem dM_step_351 : decode cM_step 351 = .ok (.iconst 1, 1) := by decide +kernel
theorem dM_step_352 : decode cM_step 352 = .ok (.bastore, 1) := by decide +kernel
theorem dM_step_353 : decode cM_step 353 = .ok (.aload_n 0, 1) := by decide +kernel
theorem dM_step_354 : decode cM_step 354 = .ok (.getfield 62, 3) := by decide +kernel
theorem dM_step_357 : decode cM_step 357 = .ok (.aload_n 0, 1) := by decide +kernel
theorem dM_step_358 : decode cM_step 358 = .ok (.getfield 155, 3) := by decide +kernel
theorem dM_step_361 : decode cM_step 361 = .ok (.iconst 0, 1) := by decide +kernel
theorem dM_step_362 : decode cM_step 362 = .ok (.iastore, 1) := by decide +kernel
theorem dM_step_363 : decode cM_step 363 = .ok (.iconst 1, 1) := by decide +kernel
theorem dM_step_364 : decode cM_step 364 = .ok (.ireturn, 1) := by decide +kernel
abbrev cM_judge : ByteArray := prog_9_method_34_code
def yM_judge : MethodName := ⟨"PostIndexModel", "judge", "(II)I"⟩
def fM_judge (d : Nat) : zF := (cM_judge, 3, yM_judge, (some .int), d, 0, 0)
theorem meM_judge (d : Nat) : zMe (fM_judge d) 2 := ⟨(zA3 (i := 199) rfl rfl), (zA1 (i := 8) rfl rfl), by show "PostIndexModel" ≠ _; decide +kernel, by show "PostIndexModel" ≠ _; decide +kernel, by show (parseMethodDescriptor "(II)I").map _ = _; decide +kernel⟩
theorem dM_judge_0 : decode cM_judge 0 = .ok (.aload_n 0, 1) := by decide +kernel
theorem dM_judge_1 : decode cM_judge 1 = .ok (.iconst 0, 1) := by decide +kernel
theorem dM_judge_2 : decode cM_judge 2 = .ok (.putfield 136, 3) := by decide +kernel
theorem dM_judge_5 : decode cM_judge 5 = .ok (.aload_n 0, 1) := by decide +kernel
theorem dM_judge_6 : decode cM_judge 6 = .ok (.iconst 0, 1) := by decide +kernel
theorem dM_judge_7 : decode cM_judge 7 = .ok (.invokevirtual 174, 3) := by decide +kernel
theorem dM_judge_10 : decode cM_judge 10 = .ok (.aload_n 0, 1) := by decide +kernel
theorem dM_judge_11 : decode cM_judge 11 = .ok (.iload_n 1, 1) := by decide +kernel
theorem dM_judge_12 : decode cM_judge 12 = .ok (.invokevirtual 171, 3) := by decide +kernel
theorem dM_judge_15 : decode cM_judge 15 = .ok (.aload_n 0, 1) := by decide +kernel
theorem dM_judge_16 : decode cM_judge 16 = .ok (.getfield 145, 3) := by decide +kernel
theorem dM_judge_19 : decode cM_judge 19 = .ok (.ifCond .eq 22, 3) := by decide +kernel
theorem dM_judge_22 : decode cM_judge 22 = .ok (.aload_n 0, 1) := by decide +kernel
theorem dM_judge_23 : decode cM_judge 23 = .ok (.iload_n 1, 1) := by decide +kernel
theorem dM_judge_24 : decode cM_judge 24 = .ok (.iload_n 2, 1) := by decide +kernel
theorem dM_judge_25 : decode cM_judge 25 = .ok (.invokevirtual 177, 3) := by decide +kernel
theorem dM_judge_28 : decode cM_judge 28 = .ok (.ifCond .ne 5, 3) := by decide +kernel
theorem dM_judge_31 : decode cM_judge 31 = .ok (.iconst (-1), 1) := by decide +kernel
theorem dM_judge_32 : decode cM_judge 32 = .ok (.ireturn, 1) := by decide +kernel
theorem dM_judge_33 : decode cM_judge 33 = .ok (.aload_n 0, 1) := by decide +kernel
theorem dM_judge_34 : decode cM_judge 34 = .ok (.iload_n 1, 1) := by decide +kernel
theorem dM_judge_35 : decode cM_judge 35 = .ok (.invokevirtual 171, 3) := by decide +kernel
theorem dM_judge_38 : decode cM_judge 38 = .ok (.goto (-23), 3) := by decide +kernel
theorem dM_judge_41 : decode cM_judge 41 = .ok (.aload_n 0, 1) := by decide +kernel
theorem dM_judge_42 : decode cM_judge 42 = .ok (.getfield 155, 3) := by decide +kernel
theorem dM_judge_45 : decode cM_judge 45 = .ok (.ifCond .gt 21, 3) := by decide +kernel
theorem dM_judge_48 : decode cM_judge 48 = .ok (.aload_n 0, 1) := by decide +kernel
theorem dM_judge_49 : decode cM_judge 49 = .ok (.getfield 62, 3) := by decide +kernel
theorem dM_judge_52 : decode cM_judge 52 = .ok (.iconst 0, 1) := by decide +kernel
theorem dM_judge_53 : decode cM_judge 53 = .ok (.iaload, 1) := by decide +kernel
theorem dM_judge_54 : decode cM_judge 54 = .ok (.ifCond .eq 12, 3) := by decide +kernel
theorem dM_judge_57 : decode cM_judge 57 = .ok (.aload_n 0, 1) := by decide +kernel
theorem dM_judge_58 : decode cM_judge 58 = .ok (.getfield 65, 3) := by decide +kernel
theorem dM_judge_61 : decode cM_judge 61 = .ok (.iconst 0, 1) := by decide +kernel
theorem dM_judge_62 : decode cM_judge 62 = .ok (.iaload, 1) := by decide +kernel
theorem dM_judge_63 : decode cM_judge 63 = .ok (.ifCond .eq 5, 3) := by decide +kernel
theorem dM_judge_66 : decode cM_judge 66 = .ok (.iconst (-1), 1) := by decide +kernel
theorem dM_judge_67 : decode cM_judge 67 = .ok (.ireturn, 1) := by decide +kernel
theorem dM_judge_68 : decode cM_judge 68 = .ok (.aload_n 0, 1) := by decide +kernel
theorem dM_judge_69 : decode cM_judge 69 = .ok (.getfield 56, 3) := by decide +kernel
theorem dM_judge_72 : decode cM_judge 72 = .ok (.iconst 0, 1) := by decide +kernel
theorem dM_judge_73 : decode cM_judge 73 = .ok (.baload, 1) := by decide +kernel
theorem dM_judge_74 : decode cM_judge 74 = .ok (.ifCond .ne 12, 3) := by decide +kernel
theorem dM_judge_77 : decode cM_judge 77 = .ok (.aload_n 0, 1) := by decide +kernel
theorem dM_judge_78 : decode cM_judge 78 = .ok (.getfield 59, 3) := by decide +kernel
theorem dM_judge_81 : decode cM_judge 81 = .ok (.iconst 0, 1) := by decide +kernel
theorem dM_judge_82 : decode cM_judge 82 = .ok (.baload, 1) := by decide +kernel
theorem dM_judge_83 : decode cM_judge 83 = .ok (.ifCond .eq 7, 3) := by decide +kernel
theorem dM_judge_86 : decode cM_judge 86 = .ok (.iconst 1, 1) := by decide +kernel
theorem dM_judge_87 : decode cM_judge 87 = .ok (.goto 4, 3) := by decide +kernel
theorem dM_judge_90 : decode cM_judge 90 = .ok (.iconst 0, 1) := by decide +kernel
theorem dM_judge_91 : decode cM_judge 91 = .ok (.ireturn, 1) := by decide +kernel
abbrev cM_copy : ByteArray := prog_9_method_35_code
def yM_copy : MethodName := ⟨"PostIndexModel", "copy", "(I)V"⟩
def fM_copy (d : Nat) : zF := (cM_copy, 3, yM_copy, none, d, 0, 0)
theorem meM_copy (d : Nat) : zMe (fM_copy d) 1 := ⟨(zA3 (i := 195) rfl rfl), (zA1 (i := 8) rfl rfl), by show "PostIndexModel" ≠ _; decide +kernel, by show "PostIndexModel" ≠ _; decide +kernel, by show (parseMethodDescriptor "(I)V").map _ = _; decide +kernel⟩
theorem dM_copy_0 : decode cM_copy 0 = .ok (.aload_n 0, 1) := by decide +kernel
theorem dM_copy_1 : decode cM_copy 1 = .ok (.getfield 50, 3) := by decide +kernel
theorem dM_copy_4 : decode cM_copy 4 = .ok (.iload_n 1, 1) := by decide +kernel
theorem dM_copy_5 : decode cM_copy 5 = .ok (.aload_n 0, 1) := by decide +kernel
theorem dM_copy_6 : decode cM_copy 6 = .ok (.getfield 78, 3) := by decide +kernel
theorem dM_copy_9 : decode cM_copy 9 = .ok (.iastore, 1) := by decide +kernel
theorem dM_copy_10 : decode cM_copy 10 = .ok (.iconst 0, 1) := by decide +kernel
theorem dM_copy_11 : decode cM_copy 11 = .ok (.istore_n 2, 1) := by decide +kernel
theorem dM_copy_12 : decode cM_copy 12 = .ok (.iload_n 2, 1) := by decide +kernel
theorem dM_copy_13 : decode cM_copy 13 = .ok (.aload_n 0, 1) := by decide +kernel
theorem dM_copy_14 : decode cM_copy 14 = .ok (.getfield 78, 3) := by decide +kernel
theorem dM_copy_17 : decode cM_copy 17 = .ok (.if_icmp .ge 26, 3) := by decide +kernel
theorem dM_copy_20 : decode cM_copy 20 = .ok (.aload_n 0, 1) := by decide +kernel
theorem dM_copy_21 : decode cM_copy 21 = .ok (.getfield 53, 3) := by decide +kernel
theorem dM_copy_24 : decode cM_copy 24 = .ok (.bipush 24, 2) := by decide +kernel
theorem dM_copy_26 : decode cM_copy 26 = .ok (.iload_n 1, 1) := by decide +kernel
theorem dM_copy_27 : decode cM_copy 27 = .ok (.imul, 1) := by decide +kernel
theorem dM_copy_28 : decode cM_copy 28 = .ok (.iload_n 2, 1) := by decide +kernel
theorem dM_copy_29 : decode cM_copy 29 = .ok (.iadd, 1) := by decide +kernel
theorem dM_copy_30 : decode cM_copy 30 = .ok (.aload_n 0, 1) := by decide +kernel
theorem dM_copy_31 : decode cM_copy 31 = .ok (.getfield 7, 3) := by decide +kernel
theorem dM_copy_34 : decode cM_copy 34 = .ok (.iload_n 2, 1) := by decide +kernel
theorem dM_copy_35 : decode cM_copy 35 = .ok (.iaload, 1) := by decide +kernel
theorem dM_copy_36 : decode cM_copy 36 = .ok (.iastore, 1) := by decide +kernel
theorem dM_copy_37 : decode cM_copy 37 = .ok (.iinc 2 1, 3) := by decide +kernel
theorem dM_copy_40 : decode cM_copy 40 = .ok (.goto (-28), 3) := by decide +kernel
theorem dM_copy_43 : decode cM_copy 43 = .ok (.return_, 1) := by decide +kernel
abbrev cM_search : ByteArray := prog_9_method_36_code
def yM_search : MethodName := ⟨"PostIndexModel", "search", "()I"⟩
def fM_search (d : Nat) : zF := (cM_search, 2, yM_search, (some .int), d, 0, 0)
theorem meM_search (d : Nat) : zMe (fM_search d) 0 := ⟨(zA3 (i := 191) rfl rfl), (zA1 (i := 8) rfl rfl), by show "PostIndexModel" ≠ _; decide +kernel, by show "PostIndexModel" ≠ _; decide +kernel, by show (parseMethodDescriptor "()I").map _ = _; decide +kernel⟩
theorem dM_search_0 : decode cM_search 0 = .ok (.aload_n 0, 1) := by decide +kernel
theorem dM_search_1 : decode cM_search 1 = .ok (.iconst 3, 1) := by decide +kernel
theorem dM_search_2 : decode cM_search 2 = .ok (.invokevirtual 180, 3) := by decide +kernel
theorem dM_search_5 : decode cM_search 5 = .ok (.aload_n 0, 1) := by decide +kernel
theorem dM_search_6 : decode cM_search 6 = .ok (.iconst 3, 1) := by decide +kernel
theorem dM_search_7 : decode cM_search 7 = .ok (.iconst (-1), 1) := by decide +kernel
theorem dM_search_8 : decode cM_search 8 = .ok (.invokevirtual 183, 3) := by decide +kernel
theorem dM_search_11 : decode cM_search 11 = .ok (.ifCond .ge 5, 3) := by decide +kernel
theorem dM_search_14 : decode cM_search 14 = .ok (.iconst (-1), 1) := by decide +kernel
theorem dM_search_15 : decode cM_search 15 = .ok (.ireturn, 1) := by decide +kernel
theorem dM_search_16 : decode cM_search 16 = .ok (.iconst 0, 1) := by decide +kernel
theorem dM_search_17 : decode cM_search 17 = .ok (.istore_n 1, 1) := by decide +kernel
theorem dM_search_18 : decode cM_search 18 = .ok (.iload_n 1, 1) := by decide +kernel
theorem dM_search_19 : decode cM_search 19 = .ok (.iconst 3, 1) := by decide +kernel
theorem dM_search_20 : decode cM_search 20 = .ok (.if_icmp .ge 66, 3) := by decide +kernel
theorem dM_search_23 : decode cM_search 23 = .ok (.aload_n 0, 1) := by decide +kernel
theorem dM_search_24 : decode cM_search 24 = .ok (.getfield 44, 3) := by decide +kernel
theorem dM_search_27 : decode cM_search 27 = .ok (.iload_n 1, 1) := by decide +kernel
theorem dM_search_28 : decode cM_search 28 = .ok (.baload, 1) := by decide +kernel
theorem dM_search_29 : decode cM_search 29 = .ok (.ifCond .ne 51, 3) := by decide +kernel
theorem dM_search_32 : decode cM_search 32 = .ok (.aload_n 0, 1) := by decide +kernel
theorem dM_search_33 : decode cM_search 33 = .ok (.getfield 186, 3) := by decide +kernel
theorem flM_186 : zFld "PostIndexModel" 186 7 15 31 := ⟨RM, TM, rfl, by decide, inM, (zA3 (i := 19) rfl rfl)⟩
theorem dM_search_36 : decode cM_search 36 = .ok (.bipush 24, 2) := by decide +kernel
theorem dM_search_38 : decode cM_search 38 = .ok (.if_icmp .ge 42, 3) := by decide +kernel
theorem dM_search_41 : decode cM_search 41 = .ok (.aload_n 0, 1) := by decide +kernel
theorem dM_search_42 : decode cM_search 42 = .ok (.iload_n 1, 1) := by decide +kernel
theorem dM_search_43 : decode cM_search 43 = .ok (.invokevirtual 180, 3) := by decide +kernel
theorem dM_search_46 : decode cM_search 46 = .ok (.aload_n 0, 1) := by decide +kernel
theorem dM_search_47 : decode cM_search 47 = .ok (.getfield 44, 3) := by decide +kernel
theorem dM_search_50 : decode cM_search 50 = .ok (.iload_n 1, 1) := by decide +kernel
theorem dM_search_51 : decode cM_search 51 = .ok (.iconst 1, 1) := by decide +kernel
theorem dM_search_52 : decode cM_search 52 = .ok (.bastore, 1) := by decide +kernel
theorem dM_search_53 : decode cM_search 53 = .ok (.aload_n 0, 1) := by decide +kernel
theorem dM_search_54 : decode cM_search 54 = .ok (.dup, 1) := by decide +kernel
theorem dM_search_55 : decode cM_search 55 = .ok (.getfield 186, 3) := by decide +kernel
theorem dM_search_58 : decode cM_search 58 = .ok (.iconst 1, 1) := by decide +kernel
theorem dM_search_59 : decode cM_search 59 = .ok (.iadd, 1) := by decide +kernel
theorem dM_search_60 : decode cM_search 60 = .ok (.putfield 186, 3) := by decide +kernel
theorem dM_search_63 : decode cM_search 63 = .ok (.aload_n 0, 1) := by decide +kernel
theorem dM_search_64 : decode cM_search 64 = .ok (.getfield 47, 3) := by decide +kernel
theorem dM_search_67 : decode cM_search 67 = .ok (.iload_n 1, 1) := by decide +kernel
theorem dM_search_68 : decode cM_search 68 = .ok (.aload_n 0, 1) := by decide +kernel
theorem dM_search_69 : decode cM_search 69 = .ok (.getfield 82, 3) := by decide +kernel
theorem dM_search_72 : decode cM_search 72 = .ok (.iastore, 1) := by decide +kernel
theorem dM_search_73 : decode cM_search 73 = .ok (.aload_n 0, 1) := by decide +kernel
theorem dM_search_74 : decode cM_search 74 = .ok (.iconst 0, 1) := by decide +kernel
theorem dM_search_75 : decode cM_search 75 = .ok (.putfield 78, 3) := by decide +kernel
theorem dM_search_78 : decode cM_search 78 = .ok (.iload_n 1, 1) := by decide +kernel
theorem dM_search_79 : decode cM_search 79 = .ok (.ireturn, 1) := by decide +kernel
theorem dM_search_80 : decode cM_search 80 = .ok (.iinc 1 1, 3) := by decide +kernel
theorem dM_search_83 : decode cM_search 83 = .ok (.goto (-65), 3) := by decide +kernel
theorem dM_search_86 : decode cM_search 86 = .ok (.bipush (-2), 2) := by decide +kernel
theorem dM_search_88 : decode cM_search 88 = .ok (.ireturn, 1) := by decide +kernel
abbrev cM_searching : ByteArray := prog_9_method_37_code
def yM_searching : MethodName := ⟨"PostIndexModel", "searching", "(I)Z"⟩
def fM_searching (d : Nat) : zF := (cM_searching, 2, yM_searching, (some .boolean), d, 0, 0)
theorem meM_searching (d : Nat) : zMe (fM_searching d) 1 := ⟨(zA4 (i := 3) rfl rfl), (zA1 (i := 8) rfl rfl), by show "PostIndexModel" ≠ _; decide +kernel, by show "PostIndexModel" ≠ _; decide +kernel, by show (parseMethodDescriptor "(I)Z").map _ = _; decide +kernel⟩
theorem dM_searching_0 : decode cM_searching 0 = .ok (.iload_n 1, 1) := by decide +kernel
theorem dM_searching_1 : decode cM_searching 1 = .ok (.ifCond .lt 21, 3) := by decide +kernel
theorem dM_searching_4 : decode cM_searching 4 = .ok (.iload_n 1, 1) := by decide +kernel
theorem dM_searching_5 : decode cM_searching 5 = .ok (.iconst 3, 1) := by decide +kernel
theorem dM_searching_6 : decode cM_searching 6 = .ok (.if_icmp .ge 16, 3) := by decide +kernel
theorem dM_searching_9 : decode cM_searching 9 = .ok (.aload_n 0, 1) := by decide +kernel
theorem dM_searching_10 : decode cM_searching 10 = .ok (.getfield 44, 3) := by decide +kernel
theorem dM_searching_13 : decode cM_searching 13 = .ok (.iload_n 1, 1) := by decide +kernel
theorem dM_searching_14 : decode cM_searching 14 = .ok (.baload, 1) := by decide +kernel
theorem dM_searching_15 : decode cM_searching 15 = .ok (.ifCond .eq 7, 3) := by decide +kernel
theorem dM_searching_18 : decode cM_searching 18 = .ok (.iconst 1, 1) := by decide +kernel
theorem dM_searching_19 : decode cM_searching 19 = .ok (.goto 4, 3) := by decide +kernel
theorem dM_searching_22 : decode cM_searching 22 = .ok (.iconst 0, 1) := by decide +kernel
theorem dM_searching_23 : decode cM_searching 23 = .ok (.ireturn, 1) := by decide +kernel
abbrev cM_next : ByteArray := prog_9_method_38_code
def yM_next : MethodName := ⟨"PostIndexModel", "next", "(I)I"⟩
def fM_next (d : Nat) : zF := (cM_next, 3, yM_next, (some .int), d, 0, 0)
theorem meM_next (d : Nat) : zMe (fM_next d) 1 := ⟨(zA3 (i := 239) rfl rfl), (zA1 (i := 8) rfl rfl), by show "PostIndexModel" ≠ _; decide +kernel, by show "PostIndexModel" ≠ _; decide +kernel, by show (parseMethodDescriptor "(I)I").map _ = _; decide +kernel⟩
theorem dM_next_0 : decode cM_next 0 = .ok (.aload_n 0, 1) := by decide +kernel
theorem dM_next_1 : decode cM_next 1 = .ok (.iload_n 1, 1) := by decide +kernel
theorem dM_next_2 : decode cM_next 2 = .ok (.invokevirtual 189, 3) := by decide +kernel
theorem dM_next_5 : decode cM_next 5 = .ok (.ifCond .ne 5, 3) := by decide +kernel
theorem dM_next_8 : decode cM_next 8 = .ok (.iconst (-1), 1) := by decide +kernel
theorem dM_next_9 : decode cM_next 9 = .ok (.ireturn, 1) := by decide +kernel
theorem dM_next_10 : decode cM_next 10 = .ok (.aload_n 0, 1) := by decide +kernel
theorem dM_next_11 : decode cM_next 11 = .ok (.getfield 47, 3) := by decide +kernel
theorem dM_next_14 : decode cM_next 14 = .ok (.iload_n 1, 1) := by decide +kernel
theorem dM_next_15 : decode cM_next 15 = .ok (.iaload, 1) := by decide +kernel
theorem dM_next_16 : decode cM_next 16 = .ok (.iconst 1, 1) := by decide +kernel
theorem dM_next_17 : decode cM_next 17 = .ok (.isub, 1) := by decide +kernel
theorem dM_next_18 : decode cM_next 18 = .ok (.istore_n 2, 1) := by decide +kernel
theorem dM_next_19 : decode cM_next 19 = .ok (.iload_n 2, 1) := by decide +kernel
theorem dM_next_20 : decode cM_next 20 = .ok (.ifCond .lt 36, 3) := by decide +kernel
theorem dM_next_23 : decode cM_next 23 = .ok (.aload_n 0, 1) := by decide +kernel
theorem dM_next_24 : decode cM_next 24 = .ok (.iload_n 2, 1) := by decide +kernel
theorem dM_next_25 : decode cM_next 25 = .ok (.invokevirtual 88, 3) := by decide +kernel
theorem dM_next_28 : decode cM_next 28 = .ok (.ifCond .eq 22, 3) := by decide +kernel
theorem dM_next_31 : decode cM_next 31 = .ok (.aload_n 0, 1) := by decide +kernel
theorem dM_next_32 : decode cM_next 32 = .ok (.iload_n 1, 1) := by decide +kernel
theorem dM_next_33 : decode cM_next 33 = .ok (.iload_n 2, 1) := by decide +kernel
theorem dM_next_34 : decode cM_next 34 = .ok (.invokevirtual 183, 3) := by decide +kernel
theorem dM_next_37 : decode cM_next 37 = .ok (.iconst 1, 1) := by decide +kernel
theorem dM_next_38 : decode cM_next 38 = .ok (.if_icmp .ne 12, 3) := by decide +kernel
theorem dM_next_41 : decode cM_next 41 = .ok (.aload_n 0, 1) := by decide +kernel
theorem dM_next_42 : decode cM_next 42 = .ok (.getfield 47, 3) := by decide +kernel
theorem dM_next_45 : decode cM_next 45 = .ok (.iload_n 1, 1) := by decide +kernel
theorem dM_next_46 : decode cM_next 46 = .ok (.iload_n 2, 1) := by decide +kernel
theorem dM_next_47 : decode cM_next 47 = .ok (.iastore, 1) := by decide +kernel
theorem dM_next_48 : decode cM_next 48 = .ok (.iload_n 2, 1) := by decide +kernel
theorem dM_next_49 : decode cM_next 49 = .ok (.ireturn, 1) := by decide +kernel
theorem dM_next_50 : decode cM_next 50 = .ok (.iinc 2 (-1), 3) := by decide +kernel
theorem dM_next_53 : decode cM_next 53 = .ok (.goto (-34), 3) := by decide +kernel
theorem dM_next_56 : decode cM_next 56 = .ok (.iconst (-1), 1) := by decide +kernel
theorem dM_next_57 : decode cM_next 57 = .ok (.ireturn, 1) := by decide +kernel
abbrev cM_left : ByteArray := prog_9_method_39_code
def yM_left : MethodName := ⟨"PostIndexModel", "left", "(I)I"⟩
def fM_left (d : Nat) : zF := (cM_left, 4, yM_left, (some .int), d, 0, 0)
theorem meM_left (d : Nat) : zMe (fM_left d) 1 := ⟨(zA4 (i := 7) rfl rfl), (zA1 (i := 8) rfl rfl), by show "PostIndexModel" ≠ _; decide +kernel, by show "PostIndexModel" ≠ _; decide +kernel, by show (parseMethodDescriptor "(I)I").map _ = _; decide +kernel⟩
theorem dM_left_0 : decode cM_left 0 = .ok (.aload_n 0, 1) := by decide +kernel
theorem dM_left_1 : decode cM_left 1 = .ok (.iload_n 1, 1) := by decide +kernel
theorem dM_left_2 : decode cM_left 2 = .ok (.invokevirtual 189, 3) := by decide +kernel
theorem dM_left_5 : decode cM_left 5 = .ok (.ifCond .ne 5, 3) := by decide +kernel
theorem dM_left_8 : decode cM_left 8 = .ok (.iconst (-1), 1) := by decide +kernel
theorem dM_left_9 : decode cM_left 9 = .ok (.ireturn, 1) := by decide +kernel
theorem dM_left_10 : decode cM_left 10 = .ok (.iconst 0, 1) := by decide +kernel
theorem dM_left_11 : decode cM_left 11 = .ok (.istore_n 2, 1) := by decide +kernel
theorem dM_left_12 : decode cM_left 12 = .ok (.iconst 0, 1) := by decide +kernel
theorem dM_left_13 : decode cM_left 13 = .ok (.istore_n 3, 1) := by decide +kernel
theorem dM_left_14 : decode cM_left 14 = .ok (.iload_n 3, 1) := by decide +kernel
theorem dM_left_15 : decode cM_left 15 = .ok (.aload_n 0, 1) := by decide +kernel
theorem dM_left_16 : decode cM_left 16 = .ok (.getfield 47, 3) := by decide +kernel
theorem dM_left_19 : decode cM_left 19 = .ok (.iload_n 1, 1) := by decide +kernel
theorem dM_left_20 : decode cM_left 20 = .ok (.iaload, 1) := by decide +kernel
theorem dM_left_21 : decode cM_left 21 = .ok (.if_icmp .ge 35, 3) := by decide +kernel
theorem dM_left_24 : decode cM_left 24 = .ok (.iload_n 2, 1) := by decide +kernel
theorem dM_left_25 : decode cM_left 25 = .ok (.aload_n 0, 1) := by decide +kernel
theorem dM_left_26 : decode cM_left 26 = .ok (.iload_n 3, 1) := by decide +kernel
theorem dM_left_27 : decode cM_left 27 = .ok (.invokevirtual 88, 3) := by decide +kernel
theorem dM_left_30 : decode cM_left 30 = .ok (.ifCond .eq 17, 3) := by decide +kernel
theorem dM_left_33 : decode cM_left 33 = .ok (.aload_n 0, 1) := by decide +kernel
theorem dM_left_34 : decode cM_left 34 = .ok (.iload_n 1, 1) := by decide +kernel
theorem dM_left_35 : decode cM_left 35 = .ok (.iload_n 3, 1) := by decide +kernel
theorem dM_left_36 : decode cM_left 36 = .ok (.invokevirtual 183, 3) := by decide +kernel
theorem dM_left_39 : decode cM_left 39 = .ok (.iconst 1, 1) := by decide +kernel
theorem dM_left_40 : decode cM_left 40 = .ok (.if_icmp .ne 7, 3) := by decide +kernel
theorem dM_left_43 : decode cM_left 43 = .ok (.iconst 1, 1) := by decide +kernel
theorem dM_left_44 : decode cM_left 44 = .ok (.goto 4, 3) := by decide +kernel
theorem dM_left_47 : decode cM_left 47 = .ok (.iconst 0, 1) := by decide +kernel
theorem dM_left_48 : decode cM_left 48 = .ok (.iadd, 1) := by decide +kernel
theorem dM_left_49 : decode cM_left 49 = .ok (.istore_n 2, 1) := by decide +kernel
theorem dM_left_50 : decode cM_left 50 = .ok (.iinc 3 1, 3) := by decide +kernel
theorem dM_left_53 : decode cM_left 53 = .ok (.goto (-39), 3) := by decide +kernel
theorem dM_left_56 : decode cM_left 56 = .ok (.iload_n 2, 1) := by decide +kernel
theorem dM_left_57 : decode cM_left 57 = .ok (.ireturn, 1) := by decide +kernel
abbrev cM_close : ByteArray := prog_9_method_40_code
def yM_close : MethodName := ⟨"PostIndexModel", "close", "(I)Z"⟩
def fM_close (d : Nat) : zF := (cM_close, 2, yM_close, (some .boolean), d, 0, 0)
theorem meM_close (d : Nat) : zMe (fM_close d) 1 := ⟨(zA4 (i := 11) rfl rfl), (zA1 (i := 8) rfl rfl), by show "PostIndexModel" ≠ _; decide +kernel, by show "PostIndexModel" ≠ _; decide +kernel, by show (parseMethodDescriptor "(I)Z").map _ = _; decide +kernel⟩
theorem dM_close_0 : decode cM_close 0 = .ok (.aload_n 0, 1) := by decide +kernel
theorem dM_close_1 : decode cM_close 1 = .ok (.iload_n 1, 1) := by decide +kernel
theorem dM_close_2 : decode cM_close 2 = .ok (.invokevirtual 189, 3) := by decide +kernel
theorem dM_close_5 : decode cM_close 5 = .ok (.ifCond .ne 5, 3) := by decide +kernel
theorem dM_close_8 : decode cM_close 8 = .ok (.iconst 0, 1) := by decide +kernel
theorem dM_close_9 : decode cM_close 9 = .ok (.ireturn, 1) := by decide +kernel
theorem dM_close_10 : decode cM_close 10 = .ok (.aload_n 0, 1) := by decide +kernel
theorem dM_close_11 : decode cM_close 11 = .ok (.getfield 44, 3) := by decide +kernel
theorem dM_close_14 : decode cM_close 14 = .ok (.iload_n 1, 1) := by decide +kernel
theorem dM_close_15 : decode cM_close 15 = .ok (.iconst 0, 1) := by decide +kernel
theorem dM_close_16 : decode cM_close 16 = .ok (.bastore, 1) := by decide +kernel
theorem dM_close_17 : decode cM_close 17 = .ok (.iconst 1, 1) := by decide +kernel
theorem dM_close_18 : decode cM_close 18 = .ok (.ireturn, 1) := by decide +kernel
abbrev cM_form : ByteArray := prog_9_method_41_code
def yM_form : MethodName := ⟨"PostIndexModel", "form", "(I)I"⟩
def fM_form (d : Nat) : zF := (cM_form, 2, yM_form, (some .int), d, 0, 0)
theorem meM_form (d : Nat) : zMe (fM_form d) 1 := ⟨(zA4 (i := 15) rfl rfl), (zA1 (i := 8) rfl rfl), by show "PostIndexModel" ≠ _; decide +kernel, by show "PostIndexModel" ≠ _; decide +kernel, by show (parseMethodDescriptor "(I)I").map _ = _; decide +kernel⟩
theorem dM_form_0 : decode cM_form 0 = .ok (.iload_n 1, 1) := by decide +kernel
theorem dM_form_1 : decode cM_form 1 = .ok (.ifCond .lt 16, 3) := by decide +kernel
theorem dM_form_4 : decode cM_form 4 = .ok (.iload_n 1, 1) := by decide +kernel
theorem dM_form_5 : decode cM_form 5 = .ok (.iconst 5, 1) := by decide +kernel
theorem dM_form_6 : decode cM_form 6 = .ok (.if_icmp .gt 11, 3) := by decide +kernel
theorem dM_form_9 : decode cM_form 9 = .ok (.aload_n 0, 1) := by decide +kernel
theorem dM_form_10 : decode cM_form 10 = .ok (.iload_n 1, 1) := by decide +kernel
theorem dM_form_11 : decode cM_form 11 = .ok (.invokevirtual 104, 3) := by decide +kernel
theorem dM_form_14 : decode cM_form 14 = .ok (.ifCond .ne 5, 3) := by decide +kernel
theorem dM_form_17 : decode cM_form 17 = .ok (.iconst (-1), 1) := by decide +kernel
theorem dM_form_18 : decode cM_form 18 = .ok (.ireturn, 1) := by decide +kernel
theorem dM_form_19 : decode cM_form 19 = .ok (.aload_n 0, 1) := by decide +kernel
theorem dM_form_20 : decode cM_form 20 = .ok (.iload_n 1, 1) := by decide +kernel
theorem dM_form_21 : decode cM_form 21 = .ok (.invokevirtual 85, 3) := by decide +kernel
theorem dM_form_24 : decode cM_form 24 = .ok (.ifCond .ne 5, 3) := by decide +kernel
theorem dM_form_27 : decode cM_form 27 = .ok (.iconst 4, 1) := by decide +kernel
theorem dM_form_28 : decode cM_form 28 = .ok (.ireturn, 1) := by decide +kernel
theorem dM_form_29 : decode cM_form 29 = .ok (.aload_n 0, 1) := by decide +kernel
theorem dM_form_30 : decode cM_form 30 = .ok (.iload_n 1, 1) := by decide +kernel
theorem dM_form_31 : decode cM_form 31 = .ok (.invokevirtual 129, 3) := by decide +kernel
theorem dM_form_34 : decode cM_form 34 = .ok (.ifCond .ne 7, 3) := by decide +kernel
theorem dM_form_37 : decode cM_form 37 = .ok (.iconst 0, 1) := by decide +kernel
theorem dM_form_38 : decode cM_form 38 = .ok (.goto 30, 3) := by decide +kernel
theorem dM_form_41 : decode cM_form 41 = .ok (.aload_n 0, 1) := by decide +kernel
theorem dM_form_42 : decode cM_form 42 = .ok (.getfield 41, 3) := by decide +kernel
theorem dM_form_45 : decode cM_form 45 = .ok (.iload_n 1, 1) := by decide +kernel
theorem dM_form_46 : decode cM_form 46 = .ok (.baload, 1) := by decide +kernel
theorem dM_form_47 : decode cM_form 47 = .ok (.ifCond .eq 7, 3) := by decide +kernel
theorem dM_form_50 : decode cM_form 50 = .ok (.iconst 3, 1) := by decide +kernel
theorem dM_form_51 : decode cM_form 51 = .ok (.goto 17, 3) := by decide +kernel
theorem dM_form_54 : decode cM_form 54 = .ok (.aload_n 0, 1) := by decide +kernel
theorem dM_form_55 : decode cM_form 55 = .ok (.getfield 38, 3) := by decide +kernel
theorem dM_form_58 : decode cM_form 58 = .ok (.iload_n 1, 1) := by decide +kernel
theorem dM_form_59 : decode cM_form 59 = .ok (.iaload, 1) := by decide +kernel
theorem dM_form_60 : decode cM_form 60 = .ok (.ifCond .le 7, 3) := by decide +kernel
theorem dM_form_63 : decode cM_form 63 = .ok (.iconst 2, 1) := by decide +kernel
theorem dM_form_64 : decode cM_form 64 = .ok (.goto 4, 3) := by decide +kernel
theorem dM_form_67 : decode cM_form 67 = .ok (.iconst 1, 1) := by decide +kernel
theorem dM_form_68 : decode cM_form 68 = .ok (.ireturn, 1) := by decide +kernel
abbrev cM_lives : ByteArray := prog_9_method_42_code
def yM_lives : MethodName := ⟨"PostIndexModel", "lives", "(I)Z"⟩
def fM_lives (d : Nat) : zF := (cM_lives, 2, yM_lives, (some .boolean), d, 0, 0)
theorem meM_lives (d : Nat) : zMe (fM_lives d) 1 := ⟨(zA4 (i := 23) rfl rfl), (zA1 (i := 8) rfl rfl), by show "PostIndexModel" ≠ _; decide +kernel, by show "PostIndexModel" ≠ _; decide +kernel, by show (parseMethodDescriptor "(I)Z").map _ = _; decide +kernel⟩
theorem dM_lives_0 : decode cM_lives 0 = .ok (.iload_n 1, 1) := by decide +kernel
theorem dM_lives_1 : decode cM_lives 1 = .ok (.ifCond .lt 20, 3) := by decide +kernel
theorem dM_lives_4 : decode cM_lives 4 = .ok (.iload_n 1, 1) := by decide +kernel
theorem dM_lives_5 : decode cM_lives 5 = .ok (.iconst 5, 1) := by decide +kernel
theorem dM_lives_6 : decode cM_lives 6 = .ok (.if_icmp .gt 15, 3) := by decide +kernel
theorem dM_lives_9 : decode cM_lives 9 = .ok (.aload_n 0, 1) := by decide +kernel
theorem dM_lives_10 : decode cM_lives 10 = .ok (.iload_n 1, 1) := by decide +kernel
theorem dM_lives_11 : decode cM_lives 11 = .ok (.invokevirtual 85, 3) := by decide +kernel
theorem dM_lives_14 : decode cM_lives 14 = .ok (.ifCond .eq 7, 3) := by decide +kernel
theorem dM_lives_17 : decode cM_lives 17 = .ok (.iconst 1, 1) := by decide +kernel
theorem dM_lives_18 : decode cM_lives 18 = .ok (.goto 4, 3) := by decide +kernel
theorem dM_lives_21 : decode cM_lives 21 = .ok (.iconst 0, 1) := by decide +kernel
theorem dM_lives_22 : decode cM_lives 22 = .ok (.ireturn, 1) := by decide +kernel
abbrev cM_size : ByteArray := prog_9_method_43_code
def yM_size : MethodName := ⟨"PostIndexModel", "size", "(I)I"⟩
def fM_size (d : Nat) : zF := (cM_size, 2, yM_size, (some .int), d, 0, 0)
theorem meM_size (d : Nat) : zMe (fM_size d) 1 := ⟨(zA4 (i := 19) rfl rfl), (zA1 (i := 8) rfl rfl), by show "PostIndexModel" ≠ _; decide +kernel, by show "PostIndexModel" ≠ _; decide +kernel, by show (parseMethodDescriptor "(I)I").map _ = _; decide +kernel⟩
theorem dM_size_0 : decode cM_size 0 = .ok (.aload_n 0, 1) := by decide +kernel
theorem dM_size_1 : decode cM_size 1 = .ok (.iload_n 1, 1) := by decide +kernel
theorem dM_size_2 : decode cM_size 2 = .ok (.invokevirtual 192, 3) := by decide +kernel
theorem dM_size_5 : decode cM_size 5 = .ok (.ifCond .ne 7, 3) := by decide +kernel
theorem dM_size_8 : decode cM_size 8 = .ok (.iconst (-1), 1) := by decide +kernel
theorem dM_size_9 : decode cM_size 9 = .ok (.goto 22, 3) := by decide +kernel
theorem dM_size_12 : decode cM_size 12 = .ok (.aload_n 0, 1) := by decide +kernel
theorem dM_size_13 : decode cM_size 13 = .ok (.iload_n 1, 1) := by decide +kernel
theorem dM_size_14 : decode cM_size 14 = .ok (.aload_n 0, 1) := by decide +kernel
theorem dM_size_15 : decode cM_size 15 = .ok (.getfield 41, 3) := by decide +kernel
theorem dM_size_18 : decode cM_size 18 = .ok (.iload_n 1, 1) := by decide +kernel
theorem dM_size_19 : decode cM_size 19 = .ok (.baload, 1) := by decide +kernel
theorem dM_size_20 : decode cM_size 20 = .ok (.ifCond .eq 7, 3) := by decide +kernel
theorem dM_size_23 : decode cM_size 23 = .ok (.iconst 2, 1) := by decide +kernel
theorem dM_size_24 : decode cM_size 24 = .ok (.goto 4, 3) := by decide +kernel
theorem dM_size_27 : decode cM_size 27 = .ok (.iconst 1, 1) := by decide +kernel
theorem dM_size_28 : decode cM_size 28 = .ok (.invokevirtual 132, 3) := by decide +kernel
theorem dM_size_31 : decode cM_size 31 = .ok (.ireturn, 1) := by decide +kernel
abbrev cM_terms : ByteArray := prog_9_method_44_code
def yM_terms : MethodName := ⟨"PostIndexModel", "terms", "(I)I"⟩
def fM_terms (d : Nat) : zF := (cM_terms, 2, yM_terms, (some .int), d, 0, 0)
theorem meM_terms (d : Nat) : zMe (fM_terms d) 1 := ⟨(zA4 (i := 27) rfl rfl), (zA1 (i := 8) rfl rfl), by show "PostIndexModel" ≠ _; decide +kernel, by show "PostIndexModel" ≠ _; decide +kernel, by show (parseMethodDescriptor "(I)I").map _ = _; decide +kernel⟩
theorem dM_terms_0 : decode cM_terms 0 = .ok (.aload_n 0, 1) := by decide +kernel
theorem dM_terms_1 : decode cM_terms 1 = .ok (.iload_n 1, 1) := by decide +kernel
theorem dM_terms_2 : decode cM_terms 2 = .ok (.invokevirtual 192, 3) := by decide +kernel
theorem dM_terms_5 : decode cM_terms 5 = .ok (.ifCond .ne 7, 3) := by decide +kernel
theorem dM_terms_8 : decode cM_terms 8 = .ok (.iconst (-1), 1) := by decide +kernel
theorem dM_terms_9 : decode cM_terms 9 = .ok (.goto 9, 3) := by decide +kernel
theorem dM_terms_12 : decode cM_terms 12 = .ok (.aload_n 0, 1) := by decide +kernel
theorem dM_terms_13 : decode cM_terms 13 = .ok (.iload_n 1, 1) := by decide +kernel
theorem dM_terms_14 : decode cM_terms 14 = .ok (.iconst 3, 1) := by decide +kernel
theorem dM_terms_15 : decode cM_terms 15 = .ok (.invokevirtual 132, 3) := by decide +kernel
theorem dM_terms_18 : decode cM_terms 18 = .ok (.ireturn, 1) := by decide +kernel
abbrev cM_postings : ByteArray := prog_9_method_45_code
def yM_postings : MethodName := ⟨"PostIndexModel", "postings", "(I)I"⟩
def fM_postings (d : Nat) : zF := (cM_postings, 2, yM_postings, (some .int), d, 0, 0)
theorem meM_postings (d : Nat) : zMe (fM_postings d) 1 := ⟨(zA4 (i := 31) rfl rfl), (zA1 (i := 8) rfl rfl), by show "PostIndexModel" ≠ _; decide +kernel, by show "PostIndexModel" ≠ _; decide +kernel, by show (parseMethodDescriptor "(I)I").map _ = _; decide +kernel⟩
theorem dM_postings_0 : decode cM_postings 0 = .ok (.aload_n 0, 1) := by decide +kernel
theorem dM_postings_1 : decode cM_postings 1 = .ok (.iload_n 1, 1) := by decide +kernel
theorem dM_postings_2 : decode cM_postings 2 = .ok (.invokevirtual 192, 3) := by decide +kernel
theorem dM_postings_5 : decode cM_postings 5 = .ok (.ifCond .ne 7, 3) := by decide +kernel
theorem dM_postings_8 : decode cM_postings 8 = .ok (.iconst (-1), 1) := by decide +kernel
theorem dM_postings_9 : decode cM_postings 9 = .ok (.goto 9, 3) := by decide +kernel
theorem dM_postings_12 : decode cM_postings 12 = .ok (.aload_n 0, 1) := by decide +kernel
theorem dM_postings_13 : decode cM_postings 13 = .ok (.iload_n 1, 1) := by decide +kernel
theorem dM_postings_14 : decode cM_postings 14 = .ok (.iconst 0, 1) := by decide +kernel
theorem dM_postings_15 : decode cM_postings 15 = .ok (.invokevirtual 132, 3) := by decide +kernel
theorem dM_postings_18 : decode cM_postings 18 = .ok (.ireturn, 1) := by decide +kernel
theorem lkM_74 : zLs "PostIndexModel" 74 yM_digit := ⟨(zA3 (i := 138) rfl rfl), (zA3 (i := 139) rfl rfl)⟩
theorem lkM_85 : zLv "PostIndexModel" 85 yM_live := ⟨(zA3 (i := 111) rfl rfl), (zA3 (i := 113) rfl rfl), (zA0 (i := 23) (q := (yM_live, 31)) rfl rfl)⟩
theorem lkM_88 : zLv "PostIndexModel" 88 yM_shown := ⟨(zA3 (i := 107) rfl rfl), (zA3 (i := 109) rfl rfl), (zA0 (i := 22) (q := (yM_shown, 31)) rfl rfl)⟩
theorem lkM_94 : zLv "PostIndexModel" 94 yM_cut := ⟨(zA3 (i := 131) rfl rfl), (zA3 (i := 133) rfl rfl), (zA0 (i := 25) (q := (yM_cut, 31)) rfl rfl)⟩
theorem lkM_98 : zLs "PostIndexModel" 98 yM_wordy := ⟨(zA3 (i := 135) rfl rfl), (zA3 (i := 136) rfl rfl)⟩
theorem lkM_104 : zLv "PostIndexModel" 104 yM_begun := ⟨(zA3 (i := 115) rfl rfl), (zA3 (i := 117) rfl rfl), (zA0 (i := 24) (q := (yM_begun, 31)) rfl rfl)⟩
theorem lkM_107 : zLs "PostIndexModel" 107 yM_small := ⟨(zA3 (i := 177) rfl rfl), (zA3 (i := 178) rfl rfl)⟩
theorem lkM_111 : zLv "PostIndexModel" 111 yM_indexed := ⟨(zA3 (i := 165) rfl rfl), (zA3 (i := 167) rfl rfl), (zA0 (i := 28) (q := (yM_indexed, 31)) rfl rfl)⟩
theorem lkM_114 : zLv "PostIndexModel" 114 yM_same := ⟨(zA3 (i := 173) rfl rfl), (zA3 (i := 175) rfl rfl), (zA0 (i := 30) (q := (yM_same, 31)) rfl rfl)⟩
theorem lkM_118 : zLv "PostIndexModel" 118 yM_posted := ⟨(zA3 (i := 184) rfl rfl), (zA3 (i := 186) rfl rfl), (zA0 (i := 32) (q := (yM_posted, 31)) rfl rfl)⟩
theorem lkM_122 : zLv "PostIndexModel" 122 yM_isFirst := ⟨(zA3 (i := 169) rfl rfl), (zA3 (i := 171) rfl rfl), (zA0 (i := 29) (q := (yM_isFirst, 31)) rfl rfl)⟩
theorem lkM_125 : zLv "PostIndexModel" 125 yM_measure := ⟨(zA3 (i := 180) rfl rfl), (zA3 (i := 182) rfl rfl), (zA0 (i := 31) (q := (yM_measure, 31)) rfl rfl)⟩
theorem lkM_129 : zLv "PostIndexModel" 129 yM_full := ⟨(zA3 (i := 157) rfl rfl), (zA3 (i := 159) rfl rfl), (zA0 (i := 26) (q := (yM_full, 31)) rfl rfl)⟩
theorem lkM_132 : zLv "PostIndexModel" 132 yM_sum := ⟨(zA3 (i := 161) rfl rfl), (zA3 (i := 163) rfl rfl), (zA0 (i := 27) (q := (yM_sum, 31)) rfl rfl)⟩
theorem lkM_139 : zLv "PostIndexModel" 139 yM_at := ⟨(zA3 (i := 208) rfl rfl), (zA3 (i := 210) rfl rfl), (zA0 (i := 37) (q := (yM_at, 31)) rfl rfl)⟩
theorem lkM_151 : zLv "PostIndexModel" 151 yM_stands := ⟨(zA3 (i := 224) rfl rfl), (zA3 (i := 226) rfl rfl), (zA0 (i := 41) (q := (yM_stands, 31)) rfl rfl)⟩
theorem lkM_158 : zLv "PostIndexModel" 158 yM_keepWord := ⟨(zA3 (i := 216) rfl rfl), (zA3 (i := 218) rfl rfl), (zA0 (i := 39) (q := (yM_keepWord, 31)) rfl rfl)⟩
theorem lkM_161 : zLv "PostIndexModel" 161 yM_row := ⟨(zA3 (i := 220) rfl rfl), (zA3 (i := 222) rfl rfl), (zA0 (i := 40) (q := (yM_row, 31)) rfl rfl)⟩
theorem lkM_164 : zLv "PostIndexModel" 164 yM_part := ⟨(zA3 (i := 228) rfl rfl), (zA3 (i := 230) rfl rfl), (zA0 (i := 42) (q := (yM_part, 31)) rfl rfl)⟩
theorem lkM_168 : zLv "PostIndexModel" 168 yM_filter := ⟨(zA3 (i := 232) rfl rfl), (zA3 (i := 234) rfl rfl), (zA0 (i := 43) (q := (yM_filter, 31)) rfl rfl)⟩
theorem lkM_171 : zLv "PostIndexModel" 171 yM_read := ⟨(zA3 (i := 204) rfl rfl), (zA3 (i := 206) rfl rfl), (zA0 (i := 36) (q := (yM_read, 31)) rfl rfl)⟩
theorem lkM_174 : zLv "PostIndexModel" 174 yM_open := ⟨(zA3 (i := 200) rfl rfl), (zA3 (i := 202) rfl rfl), (zA0 (i := 35) (q := (yM_open, 31)) rfl rfl)⟩
theorem lkM_177 : zLv "PostIndexModel" 177 yM_step := ⟨(zA3 (i := 212) rfl rfl), (zA3 (i := 214) rfl rfl), (zA0 (i := 38) (q := (yM_step, 31)) rfl rfl)⟩
theorem lkM_180 : zLv "PostIndexModel" 180 yM_copy := ⟨(zA3 (i := 192) rfl rfl), (zA3 (i := 194) rfl rfl), (zA0 (i := 33) (q := (yM_copy, 31)) rfl rfl)⟩
theorem lkM_183 : zLv "PostIndexModel" 183 yM_judge := ⟨(zA3 (i := 196) rfl rfl), (zA3 (i := 198) rfl rfl), (zA0 (i := 34) (q := (yM_judge, 31)) rfl rfl)⟩
theorem lkM_189 : zLv "PostIndexModel" 189 yM_searching := ⟨(zA4 (i := 0) rfl rfl), (zA4 (i := 2) rfl rfl), (zA0 (i := 44) (q := (yM_searching, 31)) rfl rfl)⟩
theorem lkM_192 : zLv "PostIndexModel" 192 yM_lives := ⟨(zA4 (i := 20) rfl rfl), (zA4 (i := 22) rfl rfl), (zA0 (i := 45) (q := (yM_lives, 31)) rfl rfl)⟩
end
section
abbrev cL_law : ByteArray := code
def yL_law : MethodName := ⟨"PostIndexLaw", "law", "([I)Z"⟩
def fL_law (d : Nat) : zF := (cL_law, 4, yL_law, (some .boolean), d, 0, 0)
theorem dL_law_0 : decode cL_law 0 = .ok (.new 7, 3) := by decide +kernel
theorem nwL_7 : zNew "PostIndexLaw" 7 6 12 (fun k => defaultValue (tyX k)) := ⟨RX, TX, tyX, rfl, inX, tyX_ok, (zA1 (i := 12) rfl rfl), (zA1 (i := 13) rfl rfl), (zA1 (i := 1) rfl rfl), fun _ _ => rfl⟩
theorem dL_law_3 : decode cL_law 3 = .ok (.dup, 1) := by decide +kernel
theorem dL_law_4 : decode cL_law 4 = .ok (.invokespecial 9, 3) := by decide +kernel
theorem dL_law_7 : decode cL_law 7 = .ok (.astore_n 1, 1) := by decide +kernel
theorem dL_law_8 : decode cL_law 8 = .ok (.new 10, 3) := by decide +kernel
theorem nwL_10 : zNew "PostIndexLaw" 10 7 31 (fun k => defaultValue (tyM k)) := ⟨RM, TM, tyM, rfl, inM, tyM_ok, (zA2 (i := 238) rfl rfl), (zA2 (i := 239) rfl rfl), (zA1 (i := 8) rfl rfl), fun _ _ => rfl⟩
theorem dL_law_11 : decode cL_law 11 = .ok (.dup, 1) := by decide +kernel
theorem dL_law_12 : decode cL_law 12 = .ok (.invokespecial 12, 3) := by decide +kernel
theorem dL_law_15 : decode cL_law 15 = .ok (.astore_n 2, 1) := by decide +kernel
theorem dL_law_16 : decode cL_law 16 = .ok (.iconst 0, 1) := by decide +kernel
theorem dL_law_17 : decode cL_law 17 = .ok (.istore_n 3, 1) := by decide +kernel
theorem dL_law_18 : decode cL_law 18 = .ok (.iload_n 3, 1) := by decide +kernel
theorem dL_law_19 : decode cL_law 19 = .ok (.aload_n 0, 1) := by decide +kernel
theorem dL_law_20 : decode cL_law 20 = .ok (.arraylength, 1) := by decide +kernel
theorem dL_law_21 : decode cL_law 21 = .ok (.iconst 3, 1) := by decide +kernel
theorem dL_law_22 : decode cL_law 22 = .ok (.isub, 1) := by decide +kernel
theorem dL_law_23 : decode cL_law 23 = .ok (.if_icmp .gt 460, 3) := by decide +kernel
theorem dL_law_26 : decode cL_law 26 = .ok (.aload_n 0, 1) := by decide +kernel
theorem dL_law_27 : decode cL_law 27 = .ok (.iload_n 3, 1) := by decide +kernel
theorem dL_law_28 : decode cL_law 28 = .ok (.iaload, 1) := by decide +kernel
theorem dL_law_29 : decode cL_law 29 = .ok (.bipush 31, 2) := by decide +kernel
theorem dL_law_31 : decode cL_law 31 = .ok (.iand, 1) := by decide +kernel
theorem dL_law_32 : decode cL_law 32 = .ok (.tableswitch 445 0 16 #[84, 109, 132, 143, 156, 189, 212, 225, 248, 271, 284, 307, 330, 353, 376, 399, 422], 84) := by decide +kernel
theorem dL_law_116 : decode cL_law 116 = .ok (.aload_n 1, 1) := by decide +kernel
theorem dL_law_117 : decode cL_law 117 = .ok (.aload_n 0, 1) := by decide +kernel
theorem dL_law_118 : decode cL_law 118 = .ok (.iload_n 3, 1) := by decide +kernel
theorem dL_law_119 : decode cL_law 119 = .ok (.iconst 1, 1) := by decide +kernel
theorem dL_law_120 : decode cL_law 120 = .ok (.iadd, 1) := by decide +kernel
theorem dL_law_121 : decode cL_law 121 = .ok (.iaload, 1) := by decide +kernel
theorem dL_law_122 : decode cL_law 122 = .ok (.i2c, 1) := by decide +kernel
theorem dL_law_123 : decode cL_law 123 = .ok (.invokevirtual 13, 3) := by decide +kernel
theorem dL_law_126 : decode cL_law 126 = .ok (.aload_n 2, 1) := by decide +kernel
theorem dL_law_127 : decode cL_law 127 = .ok (.aload_n 0, 1) := by decide +kernel
theorem dL_law_128 : decode cL_law 128 = .ok (.iload_n 3, 1) := by decide +kernel
theorem dL_law_129 : decode cL_law 129 = .ok (.iconst 1, 1) := by decide +kernel
theorem dL_law_130 : decode cL_law 130 = .ok (.iadd, 1) := by decide +kernel
theorem dL_law_131 : decode cL_law 131 = .ok (.iaload, 1) := by decide +kernel
theorem dL_law_132 : decode cL_law 132 = .ok (.i2c, 1) := by decide +kernel
theorem dL_law_133 : decode cL_law 133 = .ok (.invokevirtual 17, 3) := by decide +kernel
theorem dL_law_136 : decode cL_law 136 = .ok (.if_icmp .eq 341, 3) := by decide +kernel
theorem dL_law_139 : decode cL_law 139 = .ok (.iconst 0, 1) := by decide +kernel
theorem dL_law_140 : decode cL_law 140 = .ok (.ireturn, 1) := by decide +kernel
theorem dL_law_141 : decode cL_law 141 = .ok (.aload_n 1, 1) := by decide +kernel
theorem dL_law_142 : decode cL_law 142 = .ok (.aload_n 0, 1) := by decide +kernel
theorem dL_law_143 : decode cL_law 143 = .ok (.iload_n 3, 1) := by decide +kernel
theorem dL_law_144 : decode cL_law 144 = .ok (.iconst 1, 1) := by decide +kernel
theorem dL_law_145 : decode cL_law 145 = .ok (.iadd, 1) := by decide +kernel
theorem dL_law_146 : decode cL_law 146 = .ok (.iaload, 1) := by decide +kernel
theorem dL_law_147 : decode cL_law 147 = .ok (.invokevirtual 18, 3) := by decide +kernel
theorem dL_law_150 : decode cL_law 150 = .ok (.aload_n 2, 1) := by decide +kernel
theorem dL_law_151 : decode cL_law 151 = .ok (.aload_n 0, 1) := by decide +kernel
theorem dL_law_152 : decode cL_law 152 = .ok (.iload_n 3, 1) := by decide +kernel
theorem dL_law_153 : decode cL_law 153 = .ok (.iconst 1, 1) := by decide +kernel
theorem dL_law_154 : decode cL_law 154 = .ok (.iadd, 1) := by decide +kernel
theorem dL_law_155 : decode cL_law 155 = .ok (.iaload, 1) := by decide +kernel
theorem dL_law_156 : decode cL_law 156 = .ok (.invokevirtual 22, 3) := by decide +kernel
theorem dL_law_159 : decode cL_law 159 = .ok (.if_icmp .eq 318, 3) := by decide +kernel
theorem dL_law_162 : decode cL_law 162 = .ok (.iconst 0, 1) := by decide +kernel
theorem dL_law_163 : decode cL_law 163 = .ok (.ireturn, 1) := by decide +kernel
theorem dL_law_164 : decode cL_law 164 = .ok (.aload_n 1, 1) := by decide +kernel
theorem dL_law_165 : decode cL_law 165 = .ok (.invokevirtual 23, 3) := by decide +kernel
theorem dL_law_168 : decode cL_law 168 = .ok (.aload_n 2, 1) := by decide +kernel
theorem dL_law_169 : decode cL_law 169 = .ok (.invokevirtual 26, 3) := by decide +kernel
theorem dL_law_172 : decode cL_law 172 = .ok (.goto 305, 3) := by decide +kernel
theorem dL_law_175 : decode cL_law 175 = .ok (.aload_n 1, 1) := by decide +kernel
theorem dL_law_176 : decode cL_law 176 = .ok (.invokevirtual 27, 3) := by decide +kernel
theorem dL_law_179 : decode cL_law 179 = .ok (.aload_n 2, 1) := by decide +kernel
theorem dL_law_180 : decode cL_law 180 = .ok (.invokevirtual 31, 3) := by decide +kernel
theorem dL_law_183 : decode cL_law 183 = .ok (.if_icmp .eq 294, 3) := by decide +kernel
theorem dL_law_186 : decode cL_law 186 = .ok (.iconst 0, 1) := by decide +kernel
theorem dL_law_187 : decode cL_law 187 = .ok (.ireturn, 1) := by decide +kernel
theorem dL_law_188 : decode cL_law 188 = .ok (.aload_n 1, 1) := by decide +kernel
theorem dL_law_189 : decode cL_law 189 = .ok (.aload_n 0, 1) := by decide +kernel
theorem dL_law_190 : decode cL_law 190 = .ok (.iload_n 3, 1) := by decide +kernel
theorem dL_law_191 : decode cL_law 191 = .ok (.iconst 1, 1) := by decide +kernel
theorem dL_law_192 : decode cL_law 192 = .ok (.iadd, 1) := by decide +kernel
theorem dL_law_193 : decode cL_law 193 = .ok (.iaload, 1) := by decide +kernel
theorem dL_law_194 : decode cL_law 194 = .ok (.aload_n 0, 1) := by decide +kernel
theorem dL_law_195 : decode cL_law 195 = .ok (.iload_n 3, 1) := by decide +kernel
theorem dL_law_196 : decode cL_law 196 = .ok (.iconst 2, 1) := by decide +kernel
theorem dL_law_197 : decode cL_law 197 = .ok (.iadd, 1) := by decide +kernel
theorem dL_law_198 : decode cL_law 198 = .ok (.iaload, 1) := by decide +kernel
theorem dL_law_199 : decode cL_law 199 = .ok (.invokevirtual 32, 3) := by decide +kernel
theorem dL_law_202 : decode cL_law 202 = .ok (.aload_n 2, 1) := by decide +kernel
theorem dL_law_203 : decode cL_law 203 = .ok (.aload_n 0, 1) := by decide +kernel
theorem dL_law_204 : decode cL_law 204 = .ok (.iload_n 3, 1) := by decide +kernel
theorem dL_law_205 : decode cL_law 205 = .ok (.iconst 1, 1) := by decide +kernel
theorem dL_law_206 : decode cL_law 206 = .ok (.iadd, 1) := by decide +kernel
theorem dL_law_207 : decode cL_law 207 = .ok (.iaload, 1) := by decide +kernel
theorem dL_law_208 : decode cL_law 208 = .ok (.aload_n 0, 1) := by decide +kernel
theorem dL_law_209 : decode cL_law 209 = .ok (.iload_n 3, 1) := by decide +kernel
theorem dL_law_210 : decode cL_law 210 = .ok (.iconst 2, 1) := by decide +kernel
theorem dL_law_211 : decode cL_law 211 = .ok (.iadd, 1) := by decide +kernel
theorem dL_law_212 : decode cL_law 212 = .ok (.iaload, 1) := by decide +kernel
theorem dL_law_213 : decode cL_law 213 = .ok (.invokevirtual 36, 3) := by decide +kernel
theorem dL_law_216 : decode cL_law 216 = .ok (.if_icmp .eq 261, 3) := by decide +kernel
theorem dL_law_219 : decode cL_law 219 = .ok (.iconst 0, 1) := by decide +kernel
theorem dL_law_220 : decode cL_law 220 = .ok (.ireturn, 1) := by decide +kernel
theorem dL_law_221 : decode cL_law 221 = .ok (.aload_n 1, 1) := by decide +kernel
theorem dL_law_222 : decode cL_law 222 = .ok (.aload_n 0, 1) := by decide +kernel
theorem dL_law_223 : decode cL_law 223 = .ok (.iload_n 3, 1) := by decide +kernel
theorem dL_law_224 : decode cL_law 224 = .ok (.iconst 1, 1) := by decide +kernel
theorem dL_law_225 : decode cL_law 225 = .ok (.iadd, 1) := by decide +kernel
theorem dL_law_226 : decode cL_law 226 = .ok (.iaload, 1) := by decide +kernel
theorem dL_law_227 : decode cL_law 227 = .ok (.invokevirtual 37, 3) := by decide +kernel
theorem dL_law_230 : decode cL_law 230 = .ok (.aload_n 2, 1) := by decide +kernel
theorem dL_law_231 : decode cL_law 231 = .ok (.aload_n 0, 1) := by decide +kernel
theorem dL_law_232 : decode cL_law 232 = .ok (.iload_n 3, 1) := by decide +kernel
theorem dL_law_233 : decode cL_law 233 = .ok (.iconst 1, 1) := by decide +kernel
theorem dL_law_234 : decode cL_law 234 = .ok (.iadd, 1) := by decide +kernel
theorem dL_law_235 : decode cL_law 235 = .ok (.iaload, 1) := by decide +kernel
theorem dL_law_236 : decode cL_law 236 = .ok (.invokevirtual 40, 3) := by decide +kernel
theorem dL_law_239 : decode cL_law 239 = .ok (.if_icmp .eq 238, 3) := by decide +kernel
theorem dL_law_242 : decode cL_law 242 = .ok (.iconst 0, 1) := by decide +kernel
theorem dL_law_243 : decode cL_law 243 = .ok (.ireturn, 1) := by decide +kernel
theorem dL_law_244 : decode cL_law 244 = .ok (.aload_n 1, 1) := by decide +kernel
theorem dL_law_245 : decode cL_law 245 = .ok (.invokevirtual 41, 3) := by decide +kernel
theorem dL_law_248 : decode cL_law 248 = .ok (.aload_n 2, 1) := by decide +kernel
theorem dL_law_249 : decode cL_law 249 = .ok (.invokevirtual 44, 3) := by decide +kernel
theorem dL_law_252 : decode cL_law 252 = .ok (.if_icmp .eq 225, 3) := by decide +kernel
theorem dL_law_255 : decode cL_law 255 = .ok (.iconst 0, 1) := by decide +kernel
theorem dL_law_256 : decode cL_law 256 = .ok (.ireturn, 1) := by decide +kernel
theorem dL_law_257 : decode cL_law 257 = .ok (.aload_n 1, 1) := by decide +kernel
theorem dL_law_258 : decode cL_law 258 = .ok (.aload_n 0, 1) := by decide +kernel
theorem dL_law_259 : decode cL_law 259 = .ok (.iload_n 3, 1) := by decide +kernel
theorem dL_law_260 : decode cL_law 260 = .ok (.iconst 1, 1) := by decide +kernel
theorem dL_law_261 : decode cL_law 261 = .ok (.iadd, 1) := by decide +kernel
theorem dL_law_262 : decode cL_law 262 = .ok (.iaload, 1) := by decide +kernel
theorem dL_law_263 : decode cL_law 263 = .ok (.invokevirtual 45, 3) := by decide +kernel
theorem dL_law_266 : decode cL_law 266 = .ok (.aload_n 2, 1) := by decide +kernel
theorem dL_law_267 : decode cL_law 267 = .ok (.aload_n 0, 1) := by decide +kernel
theorem dL_law_268 : decode cL_law 268 = .ok (.iload_n 3, 1) := by decide +kernel
theorem dL_law_269 : decode cL_law 269 = .ok (.iconst 1, 1) := by decide +kernel
theorem dL_law_270 : decode cL_law 270 = .ok (.iadd, 1) := by decide +kernel
theorem dL_law_271 : decode cL_law 271 = .ok (.iaload, 1) := by decide +kernel
theorem dL_law_272 : decode cL_law 272 = .ok (.invokevirtual 49, 3) := by decide +kernel
theorem dL_law_275 : decode cL_law 275 = .ok (.if_icmp .eq 202, 3) := by decide +kernel
theorem dL_law_278 : decode cL_law 278 = .ok (.iconst 0, 1) := by decide +kernel
theorem dL_law_279 : decode cL_law 279 = .ok (.ireturn, 1) := by decide +kernel
theorem dL_law_280 : decode cL_law 280 = .ok (.aload_n 1, 1) := by decide +kernel
theorem dL_law_281 : decode cL_law 281 = .ok (.aload_n 0, 1) := by decide +kernel
theorem dL_law_282 : decode cL_law 282 = .ok (.iload_n 3, 1) := by decide +kernel
theorem dL_law_283 : decode cL_law 283 = .ok (.iconst 1, 1) := by decide +kernel
theorem dL_law_284 : decode cL_law 284 = .ok (.iadd, 1) := by decide +kernel
theorem dL_law_285 : decode cL_law 285 = .ok (.iaload, 1) := by decide +kernel
theorem dL_law_286 : decode cL_law 286 = .ok (.invokevirtual 50, 3) := by decide +kernel
theorem dL_law_289 : decode cL_law 289 = .ok (.aload_n 2, 1) := by decide +kernel
theorem dL_law_290 : decode cL_law 290 = .ok (.aload_n 0, 1) := by decide +kernel
theorem dL_law_291 : decode cL_law 291 = .ok (.iload_n 3, 1) := by decide +kernel
theorem dL_law_292 : decode cL_law 292 = .ok (.iconst 1, 1) := by decide +kernel
theorem dL_law_293 : decode cL_law 293 = .ok (.iadd, 1) := by decide +kernel
theorem dL_law_294 : decode cL_law 294 = .ok (.iaload, 1) := by decide +kernel
theorem dL_law_295 : decode cL_law 295 = .ok (.invokevirtual 53, 3) := by decide +kernel
theorem dL_law_298 : decode cL_law 298 = .ok (.if_icmp .eq 179, 3) := by decide +kernel
theorem dL_law_301 : decode cL_law 301 = .ok (.iconst 0, 1) := by decide +kernel
theorem dL_law_302 : decode cL_law 302 = .ok (.ireturn, 1) := by decide +kernel
theorem dL_law_303 : decode cL_law 303 = .ok (.aload_n 1, 1) := by decide +kernel
theorem dL_law_304 : decode cL_law 304 = .ok (.invokevirtual 54, 3) := by decide +kernel
theorem dL_law_307 : decode cL_law 307 = .ok (.aload_n 2, 1) := by decide +kernel
theorem dL_law_308 : decode cL_law 308 = .ok (.invokevirtual 57, 3) := by decide +kernel
theorem dL_law_311 : decode cL_law 311 = .ok (.if_icmp .eq 166, 3) := by decide +kernel
theorem dL_law_314 : decode cL_law 314 = .ok (.iconst 0, 1) := by decide +kernel
theorem dL_law_315 : decode cL_law 315 = .ok (.ireturn, 1) := by decide +kernel
theorem dL_law_316 : decode cL_law 316 = .ok (.aload_n 1, 1) := by decide +kernel
theorem dL_law_317 : decode cL_law 317 = .ok (.aload_n 0, 1) := by decide +kernel
theorem dL_law_318 : decode cL_law 318 = .ok (.iload_n 3, 1) := by decide +kernel
theorem dL_law_319 : decode cL_law 319 = .ok (.iconst 1, 1) := by decide +kernel
theorem dL_law_320 : decode cL_law 320 = .ok (.iadd, 1) := by decide +kernel
theorem dL_law_321 : decode cL_law 321 = .ok (.iaload, 1) := by decide +kernel
theorem dL_law_322 : decode cL_law 322 = .ok (.invokevirtual 58, 3) := by decide +kernel
theorem dL_law_325 : decode cL_law 325 = .ok (.aload_n 2, 1) := by decide +kernel
theorem dL_law_326 : decode cL_law 326 = .ok (.aload_n 0, 1) := by decide +kernel
theorem dL_law_327 : decode cL_law 327 = .ok (.iload_n 3, 1) := by decide +kernel
theorem dL_law_328 : decode cL_law 328 = .ok (.iconst 1, 1) := by decide +kernel
theorem dL_law_329 : decode cL_law 329 = .ok (.iadd, 1) := by decide +kernel
theorem dL_law_330 : decode cL_law 330 = .ok (.iaload, 1) := by decide +kernel
theorem dL_law_331 : decode cL_law 331 = .ok (.invokevirtual 61, 3) := by decide +kernel
theorem dL_law_334 : decode cL_law 334 = .ok (.if_icmp .eq 143, 3) := by decide +kernel
theorem dL_law_337 : decode cL_law 337 = .ok (.iconst 0, 1) := by decide +kernel
theorem dL_law_338 : decode cL_law 338 = .ok (.ireturn, 1) := by decide +kernel
theorem dL_law_339 : decode cL_law 339 = .ok (.aload_n 1, 1) := by decide +kernel
theorem dL_law_340 : decode cL_law 340 = .ok (.aload_n 0, 1) := by decide +kernel
theorem dL_law_341 : decode cL_law 341 = .ok (.iload_n 3, 1) := by decide +kernel
theorem dL_law_342 : decode cL_law 342 = .ok (.iconst 1, 1) := by decide +kernel
theorem dL_law_343 : decode cL_law 343 = .ok (.iadd, 1) := by decide +kernel
theorem dL_law_344 : decode cL_law 344 = .ok (.iaload, 1) := by decide +kernel
theorem dL_law_345 : decode cL_law 345 = .ok (.invokevirtual 62, 3) := by decide +kernel
theorem dL_law_348 : decode cL_law 348 = .ok (.aload_n 2, 1) := by decide +kernel
theorem dL_law_349 : decode cL_law 349 = .ok (.aload_n 0, 1) := by decide +kernel
theorem dL_law_350 : decode cL_law 350 = .ok (.iload_n 3, 1) := by decide +kernel
theorem dL_law_351 : decode cL_law 351 = .ok (.iconst 1, 1) := by decide +kernel
theorem dL_law_352 : decode cL_law 352 = .ok (.iadd, 1) := by decide +kernel
theorem dL_law_353 : decode cL_law 353 = .ok (.iaload, 1) := by decide +kernel
theorem dL_law_354 : decode cL_law 354 = .ok (.invokevirtual 65, 3) := by decide +kernel
theorem dL_law_357 : decode cL_law 357 = .ok (.if_icmp .eq 120, 3) := by decide +kernel
theorem dL_law_360 : decode cL_law 360 = .ok (.iconst 0, 1) := by decide +kernel
theorem dL_law_361 : decode cL_law 361 = .ok (.ireturn, 1) := by decide +kernel
theorem dL_law_362 : decode cL_law 362 = .ok (.aload_n 1, 1) := by decide +kernel
theorem dL_law_363 : decode cL_law 363 = .ok (.aload_n 0, 1) := by decide +kernel
theorem dL_law_364 : decode cL_law 364 = .ok (.iload_n 3, 1) := by decide +kernel
theorem dL_law_365 : decode cL_law 365 = .ok (.iconst 1, 1) := by decide +kernel
theorem dL_law_366 : decode cL_law 366 = .ok (.iadd, 1) := by decide +kernel
theorem dL_law_367 : decode cL_law 367 = .ok (.iaload, 1) := by decide +kernel
theorem dL_law_368 : decode cL_law 368 = .ok (.invokevirtual 66, 3) := by decide +kernel
theorem dL_law_371 : decode cL_law 371 = .ok (.aload_n 2, 1) := by decide +kernel
theorem dL_law_372 : decode cL_law 372 = .ok (.aload_n 0, 1) := by decide +kernel
theorem dL_law_373 : decode cL_law 373 = .ok (.iload_n 3, 1) := by decide +kernel
theorem dL_law_374 : decode cL_law 374 = .ok (.iconst 1, 1) := by decide +kernel
theorem dL_law_375 : decode cL_law 375 = .ok (.iadd, 1) := by decide +kernel
theorem dL_law_376 : decode cL_law 376 = .ok (.iaload, 1) := by decide +kernel
theorem dL_law_377 : decode cL_law 377 = .ok (.invokevirtual 69, 3) := by decide +kernel
theorem dL_law_380 : decode cL_law 380 = .ok (.if_icmp .eq 97, 3) := by decide +kernel
theorem dL_law_383 : decode cL_law 383 = .ok (.iconst 0, 1) := by decide +kernel
theorem dL_law_384 : decode cL_law 384 = .ok (.ireturn, 1) := by decide +kernel
theorem dL_law_385 : decode cL_law 385 = .ok (.aload_n 1, 1) := by decide +kernel
theorem dL_law_386 : decode cL_law 386 = .ok (.aload_n 0, 1) := by decide +kernel
theorem dL_law_387 : decode cL_law 387 = .ok (.iload_n 3, 1) := by decide +kernel
theorem dL_law_388 : decode cL_law 388 = .ok (.iconst 1, 1) := by decide +kernel
theorem dL_law_389 : decode cL_law 389 = .ok (.iadd, 1) := by decide +kernel
theorem dL_law_390 : decode cL_law 390 = .ok (.iaload, 1) := by decide +kernel
theorem dL_law_391 : decode cL_law 391 = .ok (.invokevirtual 70, 3) := by decide +kernel
theorem dL_law_394 : decode cL_law 394 = .ok (.aload_n 2, 1) := by decide +kernel
theorem dL_law_395 : decode cL_law 395 = .ok (.aload_n 0, 1) := by decide +kernel
theorem dL_law_396 : decode cL_law 396 = .ok (.iload_n 3, 1) := by decide +kernel
theorem dL_law_397 : decode cL_law 397 = .ok (.iconst 1, 1) := by decide +kernel
theorem dL_law_398 : decode cL_law 398 = .ok (.iadd, 1) := by decide +kernel
theorem dL_law_399 : decode cL_law 399 = .ok (.iaload, 1) := by decide +kernel
theorem dL_law_400 : decode cL_law 400 = .ok (.invokevirtual 73, 3) := by decide +kernel
theorem dL_law_403 : decode cL_law 403 = .ok (.if_icmp .eq 74, 3) := by decide +kernel
theorem dL_law_406 : decode cL_law 406 = .ok (.iconst 0, 1) := by decide +kernel
theorem dL_law_407 : decode cL_law 407 = .ok (.ireturn, 1) := by decide +kernel
theorem dL_law_408 : decode cL_law 408 = .ok (.aload_n 1, 1) := by decide +kernel
theorem dL_law_409 : decode cL_law 409 = .ok (.aload_n 0, 1) := by decide +kernel
theorem dL_law_410 : decode cL_law 410 = .ok (.iload_n 3, 1) := by decide +kernel
theorem dL_law_411 : decode cL_law 411 = .ok (.iconst 1, 1) := by decide +kernel
theorem dL_law_412 : decode cL_law 412 = .ok (.iadd, 1) := by decide +kernel
theorem dL_law_413 : decode cL_law 413 = .ok (.iaload, 1) := by decide +kernel
theorem dL_law_414 : decode cL_law 414 = .ok (.invokevirtual 74, 3) := by decide +kernel
theorem dL_law_417 : decode cL_law 417 = .ok (.aload_n 2, 1) := by decide +kernel
theorem dL_law_418 : decode cL_law 418 = .ok (.aload_n 0, 1) := by decide +kernel
theorem dL_law_419 : decode cL_law 419 = .ok (.iload_n 3, 1) := by decide +kernel
theorem dL_law_420 : decode cL_law 420 = .ok (.iconst 1, 1) := by decide +kernel
theorem dL_law_421 : decode cL_law 421 = .ok (.iadd, 1) := by decide +kernel
theorem dL_law_422 : decode cL_law 422 = .ok (.iaload, 1) := by decide +kernel
theorem dL_law_423 : decode cL_law 423 = .ok (.invokevirtual 77, 3) := by decide +kernel
theorem dL_law_426 : decode cL_law 426 = .ok (.if_icmp .eq 51, 3) := by decide +kernel
theorem dL_law_429 : decode cL_law 429 = .ok (.iconst 0, 1) := by decide +kernel
theorem dL_law_430 : decode cL_law 430 = .ok (.ireturn, 1) := by decide +kernel
theorem dL_law_431 : decode cL_law 431 = .ok (.aload_n 1, 1) := by decide +kernel
theorem dL_law_432 : decode cL_law 432 = .ok (.aload_n 0, 1) := by decide +kernel
theorem dL_law_433 : decode cL_law 433 = .ok (.iload_n 3, 1) := by decide +kernel
theorem dL_law_434 : decode cL_law 434 = .ok (.iconst 1, 1) := by decide +kernel
theorem dL_law_435 : decode cL_law 435 = .ok (.iadd, 1) := by decide +kernel
theorem dL_law_436 : decode cL_law 436 = .ok (.iaload, 1) := by decide +kernel
theorem dL_law_437 : decode cL_law 437 = .ok (.invokevirtual 78, 3) := by decide +kernel
theorem dL_law_440 : decode cL_law 440 = .ok (.aload_n 2, 1) := by decide +kernel
theorem dL_law_441 : decode cL_law 441 = .ok (.aload_n 0, 1) := by decide +kernel
theorem dL_law_442 : decode cL_law 442 = .ok (.iload_n 3, 1) := by decide +kernel
theorem dL_law_443 : decode cL_law 443 = .ok (.iconst 1, 1) := by decide +kernel
theorem dL_law_444 : decode cL_law 444 = .ok (.iadd, 1) := by decide +kernel
theorem dL_law_445 : decode cL_law 445 = .ok (.iaload, 1) := by decide +kernel
theorem dL_law_446 : decode cL_law 446 = .ok (.invokevirtual 81, 3) := by decide +kernel
theorem dL_law_449 : decode cL_law 449 = .ok (.if_icmp .eq 28, 3) := by decide +kernel
theorem dL_law_452 : decode cL_law 452 = .ok (.iconst 0, 1) := by decide +kernel
theorem dL_law_453 : decode cL_law 453 = .ok (.ireturn, 1) := by decide +kernel
theorem dL_law_454 : decode cL_law 454 = .ok (.aload_n 1, 1) := by decide +kernel
theorem dL_law_455 : decode cL_law 455 = .ok (.aload_n 0, 1) := by decide +kernel
theorem dL_law_456 : decode cL_law 456 = .ok (.iload_n 3, 1) := by decide +kernel
theorem dL_law_457 : decode cL_law 457 = .ok (.iconst 1, 1) := by decide +kernel
theorem dL_law_458 : decode cL_law 458 = .ok (.iadd, 1) := by decide +kernel
theorem dL_law_459 : decode cL_law 459 = .ok (.iaload, 1) := by decide +kernel
theorem dL_law_460 : decode cL_law 460 = .ok (.invokevirtual 82, 3) := by decide +kernel
theorem dL_law_463 : decode cL_law 463 = .ok (.aload_n 2, 1) := by decide +kernel
theorem dL_law_464 : decode cL_law 464 = .ok (.aload_n 0, 1) := by decide +kernel
theorem dL_law_465 : decode cL_law 465 = .ok (.iload_n 3, 1) := by decide +kernel
theorem dL_law_466 : decode cL_law 466 = .ok (.iconst 1, 1) := by decide +kernel
theorem dL_law_467 : decode cL_law 467 = .ok (.iadd, 1) := by decide +kernel
theorem dL_law_468 : decode cL_law 468 = .ok (.iaload, 1) := by decide +kernel
theorem dL_law_469 : decode cL_law 469 = .ok (.invokevirtual 85, 3) := by decide +kernel
theorem dL_law_472 : decode cL_law 472 = .ok (.if_icmp .eq 5, 3) := by decide +kernel
theorem dL_law_475 : decode cL_law 475 = .ok (.iconst 0, 1) := by decide +kernel
theorem dL_law_476 : decode cL_law 476 = .ok (.ireturn, 1) := by decide +kernel
theorem dL_law_477 : decode cL_law 477 = .ok (.iinc 3 3, 3) := by decide +kernel
theorem dL_law_480 : decode cL_law 480 = .ok (.goto (-462), 3) := by decide +kernel
theorem dL_law_483 : decode cL_law 483 = .ok (.iconst 1, 1) := by decide +kernel
theorem dL_law_484 : decode cL_law 484 = .ok (.ireturn, 1) := by decide +kernel
theorem lkL_9 : zLi "PostIndexLaw" 9 yX_init := ⟨(zA1 (i := 14) rfl rfl), (zA1 (i := 15) rfl rfl), rfl⟩
theorem lkL_12 : zLi "PostIndexLaw" 12 yM_init := ⟨(zA3 (i := 0) rfl rfl), (zA3 (i := 1) rfl rfl), rfl⟩
theorem lkL_13 : zLv "PostIndexLaw" 13 yX_type := ⟨(zA1 (i := 195) rfl rfl), (zA1 (i := 196) rfl rfl), (zA1 (i := 197) rfl rfl)⟩
theorem lkL_17 : zLv "PostIndexLaw" 17 yM_type := ⟨(zA3 (i := 99) rfl rfl), (zA3 (i := 100) rfl rfl), (zA3 (i := 101) rfl rfl)⟩
theorem lkL_18 : zLv "PostIndexLaw" 18 yX_quote := ⟨(zA1 (i := 203) rfl rfl), (zA1 (i := 204) rfl rfl), (zA1 (i := 205) rfl rfl)⟩
theorem lkL_22 : zLv "PostIndexLaw" 22 yM_quote := ⟨(zA3 (i := 103) rfl rfl), (zA3 (i := 104) rfl rfl), (zA3 (i := 105) rfl rfl)⟩
theorem lkL_23 : zLv "PostIndexLaw" 23 yX_clear := ⟨(zA1 (i := 225) rfl rfl), (zA1 (i := 226) rfl rfl), (zA1 (i := 227) rfl rfl)⟩
theorem lkL_26 : zLv "PostIndexLaw" 26 yM_clear := ⟨(zA3 (i := 119) rfl rfl), (zA3 (i := 120) rfl rfl), (zA3 (i := 121) rfl rfl)⟩
theorem lkL_27 : zLv "PostIndexLaw" 27 yX_length := ⟨(zA1 (i := 233) rfl rfl), (zA1 (i := 234) rfl rfl), (zA1 (i := 235) rfl rfl)⟩
theorem lkL_31 : zLv "PostIndexLaw" 31 yM_length := ⟨(zA3 (i := 123) rfl rfl), (zA3 (i := 124) rfl rfl), (zA3 (i := 125) rfl rfl)⟩
theorem lkL_32 : zLv "PostIndexLaw" 32 yX_post := ⟨(zA1 (i := 237) rfl rfl), (zA1 (i := 238) rfl rfl), (zA1 (i := 239) rfl rfl)⟩
theorem lkL_36 : zLv "PostIndexLaw" 36 yM_post := ⟨(zA3 (i := 127) rfl rfl), (zA3 (i := 128) rfl rfl), (zA3 (i := 129) rfl rfl)⟩
theorem lkL_37 : zLv "PostIndexLaw" 37 yX_write := ⟨(zA2 (i := 7) rfl rfl), (zA2 (i := 8) rfl rfl), (zA2 (i := 9) rfl rfl)⟩
theorem lkL_40 : zLv "PostIndexLaw" 40 yM_write := ⟨(zA3 (i := 141) rfl rfl), (zA3 (i := 142) rfl rfl), (zA3 (i := 143) rfl rfl)⟩
theorem lkL_41 : zLv "PostIndexLaw" 41 yX_published := ⟨(zA2 (i := 59) rfl rfl), (zA2 (i := 60) rfl rfl), (zA2 (i := 61) rfl rfl)⟩
theorem lkL_44 : zLv "PostIndexLaw" 44 yM_published := ⟨(zA3 (i := 145) rfl rfl), (zA3 (i := 146) rfl rfl), (zA3 (i := 147) rfl rfl)⟩
theorem lkL_45 : zLv "PostIndexLaw" 45 yX_erase := ⟨(zA2 (i := 63) rfl rfl), (zA2 (i := 64) rfl rfl), (zA2 (i := 65) rfl rfl)⟩
theorem lkL_49 : zLv "PostIndexLaw" 49 yM_erase := ⟨(zA3 (i := 149) rfl rfl), (zA3 (i := 150) rfl rfl), (zA3 (i := 151) rfl rfl)⟩
theorem lkL_50 : zLv "PostIndexLaw" 50 yX_pack := ⟨(zA2 (i := 67) rfl rfl), (zA2 (i := 68) rfl rfl), (zA2 (i := 69) rfl rfl)⟩
theorem lkL_53 : zLv "PostIndexLaw" 53 yM_pack := ⟨(zA3 (i := 153) rfl rfl), (zA3 (i := 154) rfl rfl), (zA3 (i := 155) rfl rfl)⟩
theorem lkL_54 : zLv "PostIndexLaw" 54 yX_search := ⟨(zA2 (i := 83) rfl rfl), (zA2 (i := 84) rfl rfl), (zA2 (i := 85) rfl rfl)⟩
theorem lkL_57 : zLv "PostIndexLaw" 57 yM_search := ⟨(zA3 (i := 188) rfl rfl), (zA3 (i := 189) rfl rfl), (zA3 (i := 190) rfl rfl)⟩
theorem lkL_58 : zLv "PostIndexLaw" 58 yX_next := ⟨(zA2 (i := 166) rfl rfl), (zA2 (i := 167) rfl rfl), (zA2 (i := 168) rfl rfl)⟩
theorem lkL_61 : zLv "PostIndexLaw" 61 yM_next := ⟨(zA3 (i := 236) rfl rfl), (zA3 (i := 237) rfl rfl), (zA3 (i := 238) rfl rfl)⟩
theorem lkL_62 : zLv "PostIndexLaw" 62 yX_left := ⟨(zA2 (i := 194) rfl rfl), (zA2 (i := 195) rfl rfl), (zA2 (i := 196) rfl rfl)⟩
theorem lkL_65 : zLv "PostIndexLaw" 65 yM_left := ⟨(zA4 (i := 4) rfl rfl), (zA4 (i := 5) rfl rfl), (zA4 (i := 6) rfl rfl)⟩
theorem lkL_66 : zLv "PostIndexLaw" 66 yX_close := ⟨(zA2 (i := 198) rfl rfl), (zA2 (i := 199) rfl rfl), (zA2 (i := 200) rfl rfl)⟩
theorem lkL_69 : zLv "PostIndexLaw" 69 yM_close := ⟨(zA4 (i := 8) rfl rfl), (zA4 (i := 9) rfl rfl), (zA4 (i := 10) rfl rfl)⟩
theorem lkL_70 : zLv "PostIndexLaw" 70 yX_form := ⟨(zA2 (i := 202) rfl rfl), (zA2 (i := 203) rfl rfl), (zA2 (i := 204) rfl rfl)⟩
theorem lkL_73 : zLv "PostIndexLaw" 73 yM_form := ⟨(zA4 (i := 12) rfl rfl), (zA4 (i := 13) rfl rfl), (zA4 (i := 14) rfl rfl)⟩
theorem lkL_74 : zLv "PostIndexLaw" 74 yX_size := ⟨(zA2 (i := 206) rfl rfl), (zA2 (i := 207) rfl rfl), (zA2 (i := 208) rfl rfl)⟩
theorem lkL_77 : zLv "PostIndexLaw" 77 yM_size := ⟨(zA4 (i := 16) rfl rfl), (zA4 (i := 17) rfl rfl), (zA4 (i := 18) rfl rfl)⟩
theorem lkL_78 : zLv "PostIndexLaw" 78 yX_terms := ⟨(zA2 (i := 226) rfl rfl), (zA2 (i := 227) rfl rfl), (zA2 (i := 228) rfl rfl)⟩
theorem lkL_81 : zLv "PostIndexLaw" 81 yM_terms := ⟨(zA4 (i := 24) rfl rfl), (zA4 (i := 25) rfl rfl), (zA4 (i := 26) rfl rfl)⟩
theorem lkL_82 : zLv "PostIndexLaw" 82 yX_postings := ⟨(zA2 (i := 230) rfl rfl), (zA2 (i := 231) rfl rfl), (zA2 (i := 232) rfl rfl)⟩
theorem lkL_85 : zLv "PostIndexLaw" 85 yM_postings := ⟨(zA4 (i := 28) rfl rfl), (zA4 (i := 29) rfl rfl), (zA4 (i := 30) rfl rfl)⟩
end
section
section ZNat
variable {G : zG} {K : zK} {F : zF} {n0 ce sl : Nat} {sh : zSh} {row : zRw} {pc : Nat} {ls st : List Value}
/-- a truth value as the machine has it -/
def bI (b : Bool) : Int32 := if b = true then nI 1 else nI 0
theorem bI_t : bI true = nI 1 := rfl
theorem bI_f : bI false = nI 0 := rfl
theorem bI_nar (b : Bool) : narrow .boolean (.int (bI b)) = .int (bI b) := by cases b <;> decide
theorem bI_fit (b : Bool) : fits .boolean (.int (bI b)) = true := by cases b <;> decide
theorem zL31 {a : Nat} (h : a < 2147483648) : a < 2 ^ 31 := h
theorem cI_nar {c : Nat} (h : c < 65536) : narrow .char (.int (nI c)) = .int (nI c) := (pk_charN h).1
theorem cI_vp {c : Nat} (h : c < 65536) : vp_nar .char (nI c) = nI c := by
  have := cI_nar h
  unfold vp_nar
  rw [this]
theorem nI_cl {c : Nat} (h : c < 2147483648) : (nI c).toNatClampNeg = c := nI_clamp (zL31 h)
/-- the end of a method that changes nothing and answers v -/
abbrev zP (sh : zSh) (row : zRw) (v : Value) : Option Value → zSh → zRw → Prop := fun r sh' row' => r = some v ∧ sh' = sh ∧ row' = row

theorem zn_icmp_eq {a b : Nat} {off : Int} {tgt : Nat} (hd : decode (zcc F) pc = .ok (.if_icmp .eq off, 3)) (ht : (pc : Int) + off = (tgt : Int)) (ha : a < 2147483648) (hb : b < 2147483648) (kt : a = b → zX G K F n0 ce sl sh row tgt ls st) (kf : ¬ a = b → zX G K F n0 ce sl sh row (pc + 3) ls st) : zX G K F n0 ce sl sh row pc ls (.int (nI b) :: .int (nI a) :: st) :=
  zx_icmp_eq hd ht (fun h => kt ((nI_eq (zL31 ha) (zL31 hb)).mp h)) (fun h => kf (fun g => h ((nI_eq (zL31 ha) (zL31 hb)).mpr g)))
theorem zn_icmp_lt {a b : Nat} {off : Int} {tgt : Nat} (hd : decode (zcc F) pc = .ok (.if_icmp .lt off, 3)) (ht : (pc : Int) + off = (tgt : Int)) (ha : a < 2147483648) (hb : b < 2147483648) (kt : a < b → zX G K F n0 ce sl sh row tgt ls st) (kf : ¬ a < b → zX G K F n0 ce sl sh row (pc + 3) ls st) : zX G K F n0 ce sl sh row pc ls (.int (nI b) :: .int (nI a) :: st) :=
  zx_icmp_lt hd ht (fun h => kt ((nI_ltI (zL31 ha) (zL31 hb)).mp h)) (fun h => kf (fun g => h ((nI_ltI (zL31 ha) (zL31 hb)).mpr g)))
theorem zn_icmp_le {a b : Nat} {off : Int} {tgt : Nat} (hd : decode (zcc F) pc = .ok (.if_icmp .le off, 3)) (ht : (pc : Int) + off = (tgt : Int)) (ha : a < 2147483648) (hb : b < 2147483648) (kt : a ≤ b → zX G K F n0 ce sl sh row tgt ls st) (kf : ¬ a ≤ b → zX G K F n0 ce sl sh row (pc + 3) ls st) : zX G K F n0 ce sl sh row pc ls (.int (nI b) :: .int (nI a) :: st) :=
  zx_icmp_le hd ht (fun h => kt ((nI_leI (zL31 ha) (zL31 hb)).mp h)) (fun h => kf (fun g => h ((nI_leI (zL31 ha) (zL31 hb)).mpr g)))
theorem zn_icmp_ne {a b : Nat} {off : Int} {tgt : Nat} (hd : decode (zcc F) pc = .ok (.if_icmp .ne off, 3)) (ht : (pc : Int) + off = (tgt : Int)) (ha : a < 2147483648) (hb : b < 2147483648) (kt : ¬ a = b → zX G K F n0 ce sl sh row tgt ls st) (kf : a = b → zX G K F n0 ce sl sh row (pc + 3) ls st) : zX G K F n0 ce sl sh row pc ls (.int (nI b) :: .int (nI a) :: st) :=
  zx_icmp_ne hd ht (fun h => kt (fun g => h (congrArg nI g))) (fun h => kf ((nI_eq (zL31 ha) (zL31 hb)).mp h))
theorem zn_icmp_ge {a b : Nat} {off : Int} {tgt : Nat} (hd : decode (zcc F) pc = .ok (.if_icmp .ge off, 3)) (ht : (pc : Int) + off = (tgt : Int)) (ha : a < 2147483648) (hb : b < 2147483648) (kt : b ≤ a → zX G K F n0 ce sl sh row tgt ls st) (kf : ¬ b ≤ a → zX G K F n0 ce sl sh row (pc + 3) ls st) : zX G K F n0 ce sl sh row pc ls (.int (nI b) :: .int (nI a) :: st) :=
  zx_icmp_ge hd ht (fun h => kt ((nI_leI (zL31 hb) (zL31 ha)).mp h)) (fun h => kf (fun g => h ((nI_leI (zL31 hb) (zL31 ha)).mpr g)))
theorem zn_icmp_gt {a b : Nat} {off : Int} {tgt : Nat} (hd : decode (zcc F) pc = .ok (.if_icmp .gt off, 3)) (ht : (pc : Int) + off = (tgt : Int)) (ha : a < 2147483648) (hb : b < 2147483648) (kt : b < a → zX G K F n0 ce sl sh row tgt ls st) (kf : ¬ b < a → zX G K F n0 ce sl sh row (pc + 3) ls st) : zX G K F n0 ce sl sh row pc ls (.int (nI b) :: .int (nI a) :: st) :=
  zx_icmp_gt hd ht (fun h => kt ((nI_ltI (zL31 hb) (zL31 ha)).mp h)) (fun h => kf (fun g => h ((nI_ltI (zL31 hb) (zL31 ha)).mpr g)))
theorem zn_if_eq {a : Nat} {off : Int} {tgt : Nat} (hd : decode (zcc F) pc = .ok (.ifCond .eq off, 3)) (ht : (pc : Int) + off = (tgt : Int)) (ha : a < 2147483648) (kt : a = 0 → zX G K F n0 ce sl sh row tgt ls st) (kf : ¬ a = 0 → zX G K F n0 ce sl sh row (pc + 3) ls st) : zX G K F n0 ce sl sh row pc ls (.int (nI a) :: st) :=
  zx_if_eq hd ht (fun h => kt ((nI_eq (zL31 ha) (by decide)).mp h)) (fun h => kf (fun g => h (congrArg nI g)))
theorem zn_if_ne {a : Nat} {off : Int} {tgt : Nat} (hd : decode (zcc F) pc = .ok (.ifCond .ne off, 3)) (ht : (pc : Int) + off = (tgt : Int)) (ha : a < 2147483648) (kt : ¬ a = 0 → zX G K F n0 ce sl sh row tgt ls st) (kf : a = 0 → zX G K F n0 ce sl sh row (pc + 3) ls st) : zX G K F n0 ce sl sh row pc ls (.int (nI a) :: st) :=
  zx_if_ne hd ht (fun h => kt (fun g => h (congrArg nI g))) (fun h => kf ((nI_eq (zL31 ha) (by decide)).mp h))
theorem zn_if_lt {a : Nat} {off : Int} {tgt : Nat} (hd : decode (zcc F) pc = .ok (.ifCond .lt off, 3)) (ht : (pc : Int) + off = (tgt : Int)) (ha : a < 2147483648) (kf : zX G K F n0 ce sl sh row (pc + 3) ls st) : zX G K F n0 ce sl sh row pc ls (.int (nI a) :: st) :=
  zx_if_lt hd ht (fun h => absurd h (nI_pos (zL31 ha))) (fun _ => kf)
theorem zn_if_ge {a : Nat} {off : Int} {tgt : Nat} (hd : decode (zcc F) pc = .ok (.ifCond .ge off, 3)) (ht : (pc : Int) + off = (tgt : Int)) (ha : a < 2147483648) (kt : zX G K F n0 ce sl sh row tgt ls st) : zX G K F n0 ce sl sh row pc ls (.int (nI a) :: st) :=
  zx_if_ge hd ht (fun _ => kt) (fun h => absurd (nI_pos' (zL31 ha)) h)
theorem zn_if_gt {a : Nat} {off : Int} {tgt : Nat} (hd : decode (zcc F) pc = .ok (.ifCond .gt off, 3)) (ht : (pc : Int) + off = (tgt : Int)) (ha : a < 2147483648) (kt : 0 < a → zX G K F n0 ce sl sh row tgt ls st) (kf : ¬ 0 < a → zX G K F n0 ce sl sh row (pc + 3) ls st) : zX G K F n0 ce sl sh row pc ls (.int (nI a) :: st) :=
  zx_if_gt hd ht (fun h => kt ((nI_ltI (by decide) (zL31 ha)).mp h)) (fun h => kf (fun g => h ((nI_ltI (by decide) (zL31 ha)).mpr g)))
theorem zn_if_le {a : Nat} {off : Int} {tgt : Nat} (hd : decode (zcc F) pc = .ok (.ifCond .le off, 3)) (ht : (pc : Int) + off = (tgt : Int)) (ha : a < 2147483648) (kt : a = 0 → zX G K F n0 ce sl sh row tgt ls st) (kf : 0 < a → zX G K F n0 ce sl sh row (pc + 3) ls st) : zX G K F n0 ce sl sh row pc ls (.int (nI a) :: st) :=
  zx_if_le hd ht (fun h => kt (by have := (nI_leI (a := a) (b := 0) (zL31 ha) (by decide)).mp h; omega)) (fun h => kf (Nat.pos_of_ne_zero (fun g => h ((nI_leI (a := a) (b := 0) (zL31 ha) (by decide)).mpr (by omega)))))
theorem zb_if_eq {b : Bool} {off : Int} {tgt : Nat} (hd : decode (zcc F) pc = .ok (.ifCond .eq off, 3)) (ht : (pc : Int) + off = (tgt : Int)) (kt : b = false → zX G K F n0 ce sl sh row tgt ls st) (kf : b = true → zX G K F n0 ce sl sh row (pc + 3) ls st) : zX G K F n0 ce sl sh row pc ls (.int (bI b) :: st) := by
  cases b
  · exact zx_if_eq hd ht (fun _ => kt rfl) (fun h => absurd (by decide) h)
  · exact zx_if_eq hd ht (fun h => absurd h (by decide)) (fun _ => kf rfl)
theorem zb_if_ne {b : Bool} {off : Int} {tgt : Nat} (hd : decode (zcc F) pc = .ok (.ifCond .ne off, 3)) (ht : (pc : Int) + off = (tgt : Int)) (kt : b = true → zX G K F n0 ce sl sh row tgt ls st) (kf : b = false → zX G K F n0 ce sl sh row (pc + 3) ls st) : zX G K F n0 ce sl sh row pc ls (.int (bI b) :: st) := by
  cases b
  · exact zx_if_ne hd ht (fun h => absurd (by decide) h) (fun _ => kf rfl)
  · exact zx_if_ne hd ht (fun _ => kt rfl) (fun h => absurd h (by decide))
theorem zn_iadd {a b : Nat} (hd : decode (zcc F) pc = .ok (.iadd, 1)) (k : zX G K F n0 ce sl sh row (pc + 1) ls (.int (nI (a + b)) :: st)) : zX G K F n0 ce sl sh row pc ls (.int (nI b) :: .int (nI a) :: st) := by
  refine zx_iadd hd ?_
  rw [nI_add]
  exact k
theorem zn_isub {a b : Nat} (hd : decode (zcc F) pc = .ok (.isub, 1)) (h : b ≤ a) (k : zX G K F n0 ce sl sh row (pc + 1) ls (.int (nI (a - b)) :: st)) : zX G K F n0 ce sl sh row pc ls (.int (nI b) :: .int (nI a) :: st) := by
  refine zx_isub hd ?_
  rw [pk_sub h]
  exact k
theorem zn_imul {a b : Nat} (hd : decode (zcc F) pc = .ok (.imul, 1)) (k : zX G K F n0 ce sl sh row (pc + 1) ls (.int (nI (a * b)) :: st)) : zX G K F n0 ce sl sh row pc ls (.int (nI b) :: .int (nI a) :: st) := by
  refine zx_imul hd ?_
  rw [pk_mul]
  exact k
theorem zn_idiv {a b : Nat} (hd : decode (zcc F) pc = .ok (.idiv, 1)) (ha : a < 2147483648) (h0 : 0 < b) (hb : b < 2147483648) (k : zX G K F n0 ce sl sh row (pc + 1) ls (.int (nI (a / b)) :: st)) : zX G K F n0 ce sl sh row pc ls (.int (nI b) :: .int (nI a) :: st) := by
  refine zx_idiv hd (nI_ne0 h0 (zL31 hb)) ?_
  rw [pk_div (zL31 ha) h0 (zL31 hb)]
  exact k
theorem zn_irem {a b : Nat} (hd : decode (zcc F) pc = .ok (.irem, 1)) (ha : a < 2147483648) (h0 : 0 < b) (hb : b < 2147483648) (k : zX G K F n0 ce sl sh row (pc + 1) ls (.int (nI (a % b)) :: st)) : zX G K F n0 ce sl sh row pc ls (.int (nI b) :: .int (nI a) :: st) := by
  refine zx_irem hd (nI_ne0 h0 (zL31 hb)) ?_
  rw [pk_rem (zL31 ha) h0 (zL31 hb)]
  exact k
theorem zn_i2c {a : Nat} (hd : decode (zcc F) pc = .ok (.i2c, 1)) (ha : a < 65536) (k : zX G K F n0 ce sl sh row (pc + 1) ls (.int (nI a) :: st)) : zX G K F n0 ce sl sh row pc ls (.int (nI a) :: st) := by
  refine zx_i2c (v := nI a) hd ?_ k
  rw [pk_char, pk_tn (by omega), Nat.mod_eq_of_lt ha]
theorem zn_iinc {i c a : Nat} (hd : decode (zcc F) pc = .ok (.iinc i (c : Int), 3)) (hn : i < znL F) (ho : (List.all ls (fun w => w.category == 1)) = true) (hx : ls[i]? = some (.int (nI a))) (k : zX G K F n0 ce sl sh row (pc + 3) (ls.set i (.int (nI (a + c)))) st) : zX G K F n0 ce sl sh row pc ls st :=
  zx_iinc hd hn ho hx (by rw [← nI_add]; rfl) rfl k
theorem zn_idec {i a : Nat} (hd : decode (zcc F) pc = .ok (.iinc i (-1), 3)) (hn : i < znL F) (ho : (List.all ls (fun w => w.category == 1)) = true) (hx : ls[i]? = some (.int (nI (a + 1)))) (k : zX G K F n0 ce sl sh row (pc + 3) (ls.set i (.int (nI a))) st) : zX G K F n0 ce sl sh row pc ls st :=
  zx_iinc (v := nI a) hd hn ho hx (pk_m1 a) rfl k
/-- arrays, by a natural place -/
theorem zn_iald {a t N i : Nat} {x : Int32} (hd : decode (zcc F) pc = .ok (.iaload, 1)) (hs : sh a = some (1, t, N)) (ht : zTy[t]? = some .int) (hi : i < N) (hN : N < 2147483648) (hv : row a i = .int x) (kk : zX G K F n0 ce sl sh row (pc + 1) ls (.int x :: st)) : zX G K F n0 ce sl sh row pc ls (.int (nI i) :: .ref a :: st) :=
  zx_iald hd hs ht (vp_in_nI hi (zL31 hN)) (by rw [nI_cl (by omega)]; exact hv) kk
theorem zn_cald {a t N i : Nat} {x : Int32} (hd : decode (zcc F) pc = .ok (.caload, 1)) (hs : sh a = some (1, t, N)) (ht : zTy[t]? = some .char) (hi : i < N) (hN : N < 2147483648) (hv : row a i = .int x) (kk : zX G K F n0 ce sl sh row (pc + 1) ls (.int x :: st)) : zX G K F n0 ce sl sh row pc ls (.int (nI i) :: .ref a :: st) :=
  zx_cald hd hs ht (vp_in_nI hi (zL31 hN)) (by rw [nI_cl (by omega)]; exact hv) kk
theorem zn_zald {a t N i : Nat} {x : Int32} (hd : decode (zcc F) pc = .ok (.baload, 1)) (hs : sh a = some (1, t, N)) (ht : zTy[t]? = some .boolean) (hi : i < N) (hN : N < 2147483648) (hv : row a i = .int x) (kk : zX G K F n0 ce sl sh row (pc + 1) ls (.int x :: st)) : zX G K F n0 ce sl sh row pc ls (.int (nI i) :: .ref a :: st) :=
  zx_zald hd hs ht (vp_in_nI hi (zL31 hN)) (by rw [nI_cl (by omega)]; exact hv) kk
theorem zn_aald {a t N b i : Nat} {C : String} (hd : decode (zcc F) pc = .ok (.aaload, 1)) (hs : sh a = some (2, t, N)) (ht : zTy[t]? = some (.object C)) (hi : i < N) (hN : N < 2147483648) (hv : row a i = .ref b) (kk : zX G K F n0 ce sl sh row (pc + 1) ls (.ref b :: st)) : zX G K F n0 ce sl sh row pc ls (.int (nI i) :: .ref a :: st) :=
  zx_aald hd hs ht (vp_in_nI hi (zL31 hN)) (by rw [nI_cl (by omega)]; exact hv) kk
theorem zn_iast {a t N i : Nat} {x : Int32} (hd : decode (zcc F) pc = .ok (.iastore, 1)) (hs : sh a = some (1, t, N)) (ht : zTy[t]? = some .int) (hi : i < N) (hN : N < 2147483648) (kk : zX G K F n0 ce sl sh (zup row a i (.int x)) (pc + 1) ls st) : zX G K F n0 ce sl sh row pc ls (.int x :: .int (nI i) :: .ref a :: st) :=
  zx_iast hd hs ht (vp_in_nI hi (zL31 hN)) (by rw [nI_cl (by omega)]; exact kk)
theorem zn_cast {a t N i c : Nat} (hd : decode (zcc F) pc = .ok (.castore, 1)) (hs : sh a = some (1, t, N)) (ht : zTy[t]? = some .char) (hi : i < N) (hN : N < 2147483648) (hc : c < 65536) (kk : zX G K F n0 ce sl sh (zup row a i (.int (nI c))) (pc + 1) ls st) : zX G K F n0 ce sl sh row pc ls (.int (nI c) :: .int (nI i) :: .ref a :: st) :=
  zx_cast hd hs ht (vp_in_nI hi (zL31 hN)) (cI_vp hc) (by rw [nI_cl (by omega)]; exact kk)
theorem zn_zast {a t N i : Nat} {b : Bool} (hd : decode (zcc F) pc = .ok (.bastore, 1)) (hs : sh a = some (1, t, N)) (ht : zTy[t]? = some .boolean) (hi : i < N) (hN : N < 2147483648) (kk : zX G K F n0 ce sl sh (zup row a i (.int (bI b))) (pc + 1) ls st) : zX G K F n0 ce sl sh row pc ls (.int (bI b) :: .int (nI i) :: .ref a :: st) :=
  zx_zast hd hs ht (vp_in_nI hi (zL31 hN)) (by cases b <;> decide) (by rw [nI_cl (by omega)]; exact kk)
theorem zn_aast {a t N b ci M i : Nat} {r : vw_C} (hd : decode (zcc F) pc = .ok (.aastore, 1)) (hs : sh a = some (2, t, N)) (ht : zTy[t]? = some (.object r.1)) (hb : sh b = some (0, ci, M)) (hc : vwCl[ci]? = some r) (hi : i < N) (hN : N < 2147483648) (kk : zX G K F n0 ce sl sh (zup row a i (.ref b)) (pc + 1) ls st) : zX G K F n0 ce sl sh row pc ls (.ref b :: .int (nI i) :: .ref a :: st) :=
  zx_aast hd hs ht hb hc (vp_in_nI hi (zL31 hN)) (by rw [nI_cl (by omega)]; exact kk)
theorem zx_ldcw {idx : Nat} {v : Int32} (hd : decode (zcc F) pc = .ok (.ldc_w idx, 3)) (hc : Cond.constant (zow F) idx v ∈ zAll) (k : zX G K F n0 ce sl sh row (pc + 3) ls (.int v :: st)) : zX G K F n0 ce sl sh row pc ls st :=
  fun hF H locs lsA hR hL => lv_ldcw hF.1 hF.2.1 hF.2.2.2.1 (hF.2.2.2.2.1 _ hc) hd (k hF H locs lsA hR hL)
/-- the room of a call -/
theorem zro {F' : zF} (h1 : zd F' + 1 ≤ zd F) (h2 : znL F' ≤ 21) (h3 : ce + zmc F' ≤ zmc F) (h4 : sl + zms F' ≤ zms F) (h5 : (st.map fun v => v.category).sum ≤ 8) : zRo F F' ce sl st := ⟨h1, h2, h3, h4, h5⟩
end ZNat
end
section
section ZCall2
variable {G : zG} {K : zK} {F : zF} {n0 ce sl : Nat} {sh : zSh} {row : zRw} {pc : Nat} {ls st : List Value}
/-- ends of methods: nothing answered, or a value -/
abbrev zpV (sh : zSh) (q : zRw → Prop) : Option Value → zSh → zRw → Prop := fun r sh' row' => r = none ∧ sh' = sh ∧ q row'
abbrev zpR (sh : zSh) (q : Value → zRw → Prop) : Option Value → zSh → zRw → Prop := fun r sh' row' => ∃ v, r = some v ∧ sh' = sh ∧ q v row'
variable {F' : zF} {idx nA b ci N : Nat} {As : List Value} {T0 : u_T}
theorem zc_S {v : Value} (hM : zM G F' As (n0 + ce) sh row (zP sh row v)) (hC : zMe F' nA) (hl : zLs (zow F) idx (zy F')) (hn : As.length = nA) (hdp : zd F' + 1 ≤ zd F) (hnl : znL F' ≤ 21) (h0 : zmc F' = 0) (h1 : zms F' = 0) (hce : ce ≤ zmc F) (hsl : sl ≤ zms F) (hst : (st.map fun v => v.category).sum ≤ 8) (hd : decode (zcc F) pc = .ok (.invokestatic idx, 3)) (kk : zX G K F n0 ce sl sh row (pc + 3) ls (v :: st)) : zX G K F n0 ce sl sh row pc ls (As.reverse ++ st) := by
  refine zx_callS hM hC hl hn (zro hdp hnl (by rw [h0]; exact hce) (by rw [h1]; exact hsl) hst) hd ?_
  rintro _ _ _ ⟨rfl, rfl, rfl⟩
  rw [h0, h1]
  exact kk
theorem zc_Sv {q : zRw → Prop} (hM : zM G F' As (n0 + ce) sh row (zpV sh q)) (hC : zMe F' nA) (hl : zLs (zow F) idx (zy F')) (hn : As.length = nA) (hdp : zd F' + 1 ≤ zd F) (hnl : znL F' ≤ 21) (h0 : zmc F' = 0) (h1 : zms F' = 0) (hce : ce ≤ zmc F) (hsl : sl ≤ zms F) (hst : (st.map fun v => v.category).sum ≤ 8) (hd : decode (zcc F) pc = .ok (.invokestatic idx, 3)) (kk : ∀ row', q row' → zX G K F n0 ce sl sh row' (pc + 3) ls st) : zX G K F n0 ce sl sh row pc ls (As.reverse ++ st) := by
  refine zx_callS hM hC hl hn (zro hdp hnl (by rw [h0]; exact hce) (by rw [h1]; exact hsl) hst) hd ?_
  rintro _ _ row' ⟨rfl, rfl, hq⟩
  rw [h0, h1]
  exact kk row' hq
theorem zc_Sr {q : Value → zRw → Prop} (hM : zM G F' As (n0 + ce) sh row (zpR sh q)) (hC : zMe F' nA) (hl : zLs (zow F) idx (zy F')) (hn : As.length = nA) (hdp : zd F' + 1 ≤ zd F) (hnl : znL F' ≤ 21) (h0 : zmc F' = 0) (h1 : zms F' = 0) (hce : ce ≤ zmc F) (hsl : sl ≤ zms F) (hst : (st.map fun v => v.category).sum ≤ 8) (hd : decode (zcc F) pc = .ok (.invokestatic idx, 3)) (kk : ∀ v row', q v row' → zX G K F n0 ce sl sh row' (pc + 3) ls (v :: st)) : zX G K F n0 ce sl sh row pc ls (As.reverse ++ st) := by
  refine zx_callS hM hC hl hn (zro hdp hnl (by rw [h0]; exact hce) (by rw [h1]; exact hsl) hst) hd ?_
  rintro _ _ row' ⟨v, rfl, rfl, hq⟩
  rw [h0, h1]
  exact kk v row' hq
theorem zc_V {v : Value} (hM : zM G F' (.ref b :: As) (n0 + ce) sh row (zP sh row v)) (hC : zMe F' nA) (hl : zLv (zow F) idx (zy F')) (hb : sh b = some (0, ci, N)) (hcl : vwCl[ci]? = some (zow F', T0, N)) (hn : As.length = nA) (hdp : zd F' + 1 ≤ zd F) (hnl : znL F' ≤ 21) (h0 : zmc F' = 0) (h1 : zms F' = 0) (hce : ce ≤ zmc F) (hsl : sl ≤ zms F) (hst : (st.map fun v => v.category).sum ≤ 8) (hd : decode (zcc F) pc = .ok (.invokevirtual idx, 3)) (kk : zX G K F n0 ce sl sh row (pc + 3) ls (v :: st)) : zX G K F n0 ce sl sh row pc ls (As.reverse ++ .ref b :: st) := by
  refine zx_callV hM hC hl hb hcl hn (zro hdp hnl (by rw [h0]; exact hce) (by rw [h1]; exact hsl) hst) hd ?_
  rintro _ _ _ ⟨rfl, rfl, rfl⟩
  rw [h0, h1]
  exact kk
theorem zc_Vv {q : zRw → Prop} (hM : zM G F' (.ref b :: As) (n0 + ce) sh row (zpV sh q)) (hC : zMe F' nA) (hl : zLv (zow F) idx (zy F')) (hb : sh b = some (0, ci, N)) (hcl : vwCl[ci]? = some (zow F', T0, N)) (hn : As.length = nA) (hdp : zd F' + 1 ≤ zd F) (hnl : znL F' ≤ 21) (h0 : zmc F' = 0) (h1 : zms F' = 0) (hce : ce ≤ zmc F) (hsl : sl ≤ zms F) (hst : (st.map fun v => v.category).sum ≤ 8) (hd : decode (zcc F) pc = .ok (.invokevirtual idx, 3)) (kk : ∀ row', q row' → zX G K F n0 ce sl sh row' (pc + 3) ls st) : zX G K F n0 ce sl sh row pc ls (As.reverse ++ .ref b :: st) := by
  refine zx_callV hM hC hl hb hcl hn (zro hdp hnl (by rw [h0]; exact hce) (by rw [h1]; exact hsl) hst) hd ?_
  rintro _ _ row' ⟨rfl, rfl, hq⟩
  rw [h0, h1]
  exact kk row' hq
theorem zc_Vr {q : Value → zRw → Prop} (hM : zM G F' (.ref b :: As) (n0 + ce) sh row (zpR sh q)) (hC : zMe F' nA) (hl : zLv (zow F) idx (zy F')) (hb : sh b = some (0, ci, N)) (hcl : vwCl[ci]? = some (zow F', T0, N)) (hn : As.length = nA) (hdp : zd F' + 1 ≤ zd F) (hnl : znL F' ≤ 21) (h0 : zmc F' = 0) (h1 : zms F' = 0) (hce : ce ≤ zmc F) (hsl : sl ≤ zms F) (hst : (st.map fun v => v.category).sum ≤ 8) (hd : decode (zcc F) pc = .ok (.invokevirtual idx, 3)) (kk : ∀ v row', q v row' → zX G K F n0 ce sl sh row' (pc + 3) ls (v :: st)) : zX G K F n0 ce sl sh row pc ls (As.reverse ++ .ref b :: st) := by
  refine zx_callV hM hC hl hb hcl hn (zro hdp hnl (by rw [h0]; exact hce) (by rw [h1]; exact hsl) hst) hd ?_
  rintro _ _ row' ⟨v, rfl, rfl, hq⟩
  rw [h0, h1]
  exact kk v row' hq
end ZCall2
end
section
/-- the characters, as numbers -/
def fold1 (c : Nat) : Nat := if 65 ≤ c ∧ c ≤ 90 then c + 32 else c
def isDg (c : Nat) : Bool := decide (48 ≤ c ∧ c ≤ 57)
def isWd (c : Nat) : Bool := decide (97 ≤ fold1 c ∧ fold1 c ≤ 122) || isDg c || decide (c = 95)
def at0 (xs : List Nat) (i : Nat) : Nat := xs.getD i 0
theorem fold1_lt {c : Nat} (h : c < 65000) : fold1 c < 65536 := by unfold fold1; split <;> omega
/-- a text at the cell t, its row at t + 1 -/
def Txt (sh : zSh) (row : zRw) (t : Nat) (xs : List Nat) : Prop := sh t = some (0, 5, 2) ∧ sh (t + 1) = some (1, 1, 24) ∧ row t 0 = .ref (t + 1) ∧ row t 1 = .int (nI xs.length) ∧ xs.length ≤ 24 ∧ ∀ i, i < 24 → ∃ z, z < 127 ∧ row (t + 1) i = .int (nI z) ∧ (i < xs.length → xs[i]? = some z)

set_option maxHeartbeats 4000000 in
set_option maxRecDepth 100000 in
theorem kT_isDigit (G : zG) (d : Nat) (hd : 0 ≤ d) {n : Nat} {sh : zSh} {row : zRw} {c : Nat} (hc : c < 65536) : zM G (fT_isDigit d) [.int (nI c)] n sh row (zP sh row (.int (bI (isDg c)))) := by
  refine zM.of (by show plainName "PostIndex$Text" = true; decide +kernel) (Nat.le_of_ble_eq_true rfl) (by intro v hv; simp at hv; rcases hv with rfl <;> rfl) ?_
  intro K hE
  show zX G K (fT_isDigit d) n 0 0 sh row 0 [.int (nI c)] []
  refine zx_iload_n dT_isDigit_0 rfl ?_
  refine zx_bipush (v := nI 48) dT_isDigit_1 (by decide) ?_
  refine zn_icmp_lt (tgt := 16) dT_isDigit_3 rfl (by omega) (by omega) (fun h3 => ?_) (fun h3 => ?_)
  · refine zx_iconst (v := nI 0) dT_isDigit_16 (by decide) ?_
    exact zx_zret hE rfl (by first | decide | exact bI_nar _) dT_isDigit_17 rfl (Nat.le_of_ble_eq_true rfl) ⟨by rw [show isDg c = decide (48 ≤ c ∧ c ≤ 57) from rfl]; first | (rw [decide_eq_false (by omega)]; rfl) | (rw [decide_eq_true (by omega)]; rfl), rfl, rfl⟩
  · refine zx_iload_n dT_isDigit_6 rfl ?_
    refine zx_bipush (v := nI 57) dT_isDigit_7 (by decide) ?_
    refine zn_icmp_gt (tgt := 16) dT_isDigit_9 rfl (by omega) (by omega) (fun h9 => ?_) (fun h9 => ?_)
    · refine zx_iconst (v := nI 0) dT_isDigit_16 (by decide) ?_
      exact zx_zret hE rfl (by first | decide | exact bI_nar _) dT_isDigit_17 rfl (Nat.le_of_ble_eq_true rfl) ⟨by rw [show isDg c = decide (48 ≤ c ∧ c ≤ 57) from rfl]; first | (rw [decide_eq_false (by omega)]; rfl) | (rw [decide_eq_true (by omega)]; rfl), rfl, rfl⟩
    · refine zx_iconst (v := nI 1) dT_isDigit_12 (by decide) ?_
      refine zx_goto (tgt := 17) dT_isDigit_13 rfl ?_
      exact zx_zret hE rfl (by first | decide | exact bI_nar _) dT_isDigit_17 rfl (Nat.le_of_ble_eq_true rfl) ⟨by rw [show isDg c = decide (48 ≤ c ∧ c ≤ 57) from rfl]; first | (rw [decide_eq_false (by omega)]; rfl) | (rw [decide_eq_true (by omega)]; rfl), rfl, rfl⟩

set_option maxHeartbeats 4000000 in
set_option maxRecDepth 100000 in
theorem kT_folded (G : zG) (d : Nat) (hd : 0 ≤ d) {n : Nat} {sh : zSh} {row : zRw} {c : Nat} (hc : c < 65000) : zM G (fT_folded d) [.int (nI c)] n sh row (zP sh row (.int (nI (fold1 c)))) := by
  refine zM.of (by show plainName "PostIndex$Text" = true; decide +kernel) (Nat.le_of_ble_eq_true rfl) (by intro v hv; simp at hv; rcases hv with rfl <;> rfl) ?_
  intro K hE
  show zX G K (fT_folded d) n 0 0 sh row 0 [.int (nI c)] []
  refine zx_iload_n dT_folded_0 rfl ?_
  refine zx_bipush (v := nI 65) dT_folded_1 (by decide) ?_
  refine zn_icmp_lt (tgt := 23) dT_folded_3 rfl (by omega) (by omega) (fun h3 => ?_) (fun h3 => ?_)
  · refine zx_iload_n dT_folded_23 rfl ?_
    exact zx_zret hE rfl (by first | decide | exact cI_nar (by omega)) dT_folded_24 rfl (Nat.le_of_ble_eq_true rfl) ⟨by unfold fold1; first | rw [if_neg (by omega)] | (rw [if_pos (by omega)]; exact congrArg (fun z => some (Value.int (nI z))) (by omega)), rfl, rfl⟩
  · refine zx_iload_n dT_folded_6 rfl ?_
    refine zx_bipush (v := nI 90) dT_folded_7 (by decide) ?_
    refine zn_icmp_gt (tgt := 23) dT_folded_9 rfl (by omega) (by omega) (fun h9 => ?_) (fun h9 => ?_)
    · refine zx_iload_n dT_folded_23 rfl ?_
      exact zx_zret hE rfl (by first | decide | exact cI_nar (by omega)) dT_folded_24 rfl (Nat.le_of_ble_eq_true rfl) ⟨by unfold fold1; first | rw [if_neg (by omega)] | (rw [if_pos (by omega)]; exact congrArg (fun z => some (Value.int (nI z))) (by omega)), rfl, rfl⟩
    · refine zx_iload_n dT_folded_12 rfl ?_
      refine zx_bipush (v := nI 65) dT_folded_13 (by decide) ?_
      refine zn_isub dT_folded_15 (by omega) ?_
      refine zx_bipush (v := nI 97) dT_folded_16 (by decide) ?_
      refine zn_iadd dT_folded_18 ?_
      refine zn_i2c dT_folded_19 (by omega) ?_
      refine zx_goto (tgt := 24) dT_folded_20 rfl ?_
      exact zx_zret hE rfl (by first | decide | exact cI_nar (by omega)) dT_folded_24 rfl (Nat.le_of_ble_eq_true rfl) ⟨by unfold fold1; first | rw [if_neg (by omega)] | (rw [if_pos (by omega)]; exact congrArg (fun z => some (Value.int (nI z))) (by omega)), rfl, rfl⟩

set_option maxHeartbeats 4000000 in
set_option maxRecDepth 100000 in
theorem kT_isWordCharacter (G : zG) (d : Nat) (hd : 1 ≤ d) {n : Nat} {sh : zSh} {row : zRw} {c : Nat} (hc : c < 65000) : zM G (fT_isWordCharacter d) [.int (nI c)] n sh row (zP sh row (.int (bI (isWd c)))) := by
  refine zM.of (by show plainName "PostIndex$Text" = true; decide +kernel) (Nat.le_of_ble_eq_true rfl) (by intro v hv; simp at hv; rcases hv with rfl <;> rfl) ?_
  intro K hE
  show zX G K (fT_isWordCharacter d) n 0 0 sh row 0 [.int (nI c), .retAddr 0] []
  have hD : d - 1 + 1 ≤ d := by omega
  have hf : fold1 c < 65536 := fold1_lt hc
  refine zx_iload_n dT_isWordCharacter_0 rfl ?_
  refine zc_S (kT_folded G (d - 1) (by omega) hc) (meT_folded _) lkT_35 rfl hD (Nat.le_of_ble_eq_true rfl) rfl rfl (Nat.le_of_ble_eq_true rfl) (Nat.le_of_ble_eq_true rfl) (Nat.le_of_ble_eq_true rfl) dT_isWordCharacter_1 ?_
  refine zx_istore_n dT_isWordCharacter_4 (Nat.le_of_ble_eq_true rfl) rfl rfl ?_
  refine zx_iload_n dT_isWordCharacter_5 rfl ?_
  refine zx_bipush (v := nI 97) dT_isWordCharacter_6 (by decide) ?_
  refine zn_icmp_lt (tgt := 17) dT_isWordCharacter_8 rfl (by omega) (by omega) (fun h8 => ?_) (fun h8 => ?_)
  · refine zx_iload_n dT_isWordCharacter_17 rfl ?_
    refine zc_S (kT_isDigit G (d - 1) (by omega) (c := c) (by omega)) (meT_isDigit _) lkT_50 rfl hD (Nat.le_of_ble_eq_true rfl) rfl rfl (Nat.le_of_ble_eq_true rfl) (Nat.le_of_ble_eq_true rfl) (Nat.le_of_ble_eq_true rfl) dT_isWordCharacter_18 ?_
    refine zb_if_ne (tgt := 30) dT_isWordCharacter_21 rfl (fun h21 => ?_) (fun h21 => ?_)
    · refine zx_iconst (v := nI 1) dT_isWordCharacter_30 (by decide) ?_
      refine zx_goto (tgt := 35) dT_isWordCharacter_31 rfl ?_
      exact zx_zret hE rfl (by first | decide | exact bI_nar _) dT_isWordCharacter_35 rfl (Nat.le_of_ble_eq_true rfl) ⟨by simp only [isWd]; first | (rw [decide_eq_true (show 97 ≤ fold1 c ∧ fold1 c ≤ 122 by omega)]; rfl) | (rw [decide_eq_false (show ¬ (97 ≤ fold1 c ∧ fold1 c ≤ 122) by omega)]; first | (rw [h21]; rfl) | (rw [h21, decide_eq_true (show c = 95 by omega)]; rfl) | (rw [h21, decide_eq_false (show ¬ c = 95 by omega)]; rfl)), rfl, rfl⟩
    · refine zx_iload_n dT_isWordCharacter_24 rfl ?_
      refine zx_bipush (v := nI 95) dT_isWordCharacter_25 (by decide) ?_
      refine zn_icmp_ne (tgt := 34) dT_isWordCharacter_27 rfl (by omega) (by omega) (fun h27 => ?_) (fun h27 => ?_)
      · refine zx_iconst (v := nI 0) dT_isWordCharacter_34 (by decide) ?_
        exact zx_zret hE rfl (by first | decide | exact bI_nar _) dT_isWordCharacter_35 rfl (Nat.le_of_ble_eq_true rfl) ⟨by simp only [isWd]; first | (rw [decide_eq_true (show 97 ≤ fold1 c ∧ fold1 c ≤ 122 by omega)]; rfl) | (rw [decide_eq_false (show ¬ (97 ≤ fold1 c ∧ fold1 c ≤ 122) by omega)]; first | (rw [h21]; rfl) | (rw [h21, decide_eq_true (show c = 95 by omega)]; rfl) | (rw [h21, decide_eq_false (show ¬ c = 95 by omega)]; rfl)), rfl, rfl⟩
      · refine zx_iconst (v := nI 1) dT_isWordCharacter_30 (by decide) ?_
        refine zx_goto (tgt := 35) dT_isWordCharacter_31 rfl ?_
        exact zx_zret hE rfl (by first | decide | exact bI_nar _) dT_isWordCharacter_35 rfl (Nat.le_of_ble_eq_true rfl) ⟨by simp only [isWd]; first | (rw [decide_eq_true (show 97 ≤ fold1 c ∧ fold1 c ≤ 122 by omega)]; rfl) | (rw [decide_eq_false (show ¬ (97 ≤ fold1 c ∧ fold1 c ≤ 122) by omega)]; first | (rw [h21]; rfl) | (rw [h21, decide_eq_true (show c = 95 by omega)]; rfl) | (rw [h21, decide_eq_false (show ¬ c = 95 by omega)]; rfl)), rfl, rfl⟩
  · refine zx_iload_n dT_isWordCharacter_11 rfl ?_
    refine zx_bipush (v := nI 122) dT_isWordCharacter_12 (by decide) ?_
    refine zn_icmp_le (tgt := 30) dT_isWordCharacter_14 rfl (by omega) (by omega) (fun h14 => ?_) (fun h14 => ?_)
    · refine zx_iconst (v := nI 1) dT_isWordCharacter_30 (by decide) ?_
      refine zx_goto (tgt := 35) dT_isWordCharacter_31 rfl ?_
      exact zx_zret hE rfl (by first | decide | exact bI_nar _) dT_isWordCharacter_35 rfl (Nat.le_of_ble_eq_true rfl) ⟨by simp only [isWd]; first | (rw [decide_eq_true (show 97 ≤ fold1 c ∧ fold1 c ≤ 122 by omega)]; rfl) | (rw [decide_eq_false (show ¬ (97 ≤ fold1 c ∧ fold1 c ≤ 122) by omega)]; first | (rw [h21]; rfl) | (rw [h21, decide_eq_true (show c = 95 by omega)]; rfl) | (rw [h21, decide_eq_false (show ¬ c = 95 by omega)]; rfl)), rfl, rfl⟩
    · refine zx_iload_n dT_isWordCharacter_17 rfl ?_
      refine zc_S (kT_isDigit G (d - 1) (by omega) (c := c) (by omega)) (meT_isDigit _) lkT_50 rfl hD (Nat.le_of_ble_eq_true rfl) rfl rfl (Nat.le_of_ble_eq_true rfl) (Nat.le_of_ble_eq_true rfl) (Nat.le_of_ble_eq_true rfl) dT_isWordCharacter_18 ?_
      refine zb_if_ne (tgt := 30) dT_isWordCharacter_21 rfl (fun h21 => ?_) (fun h21 => ?_)
      · refine zx_iconst (v := nI 1) dT_isWordCharacter_30 (by decide) ?_
        refine zx_goto (tgt := 35) dT_isWordCharacter_31 rfl ?_
        exact zx_zret hE rfl (by first | decide | exact bI_nar _) dT_isWordCharacter_35 rfl (Nat.le_of_ble_eq_true rfl) ⟨by simp only [isWd]; first | (rw [decide_eq_true (show 97 ≤ fold1 c ∧ fold1 c ≤ 122 by omega)]; rfl) | (rw [decide_eq_false (show ¬ (97 ≤ fold1 c ∧ fold1 c ≤ 122) by omega)]; first | (rw [h21]; rfl) | (rw [h21, decide_eq_true (show c = 95 by omega)]; rfl) | (rw [h21, decide_eq_false (show ¬ c = 95 by omega)]; rfl)), rfl, rfl⟩
      · refine zx_iload_n dT_isWordCharacter_24 rfl ?_
        refine zx_bipush (v := nI 95) dT_isWordCharacter_25 (by decide) ?_
        refine zn_icmp_ne (tgt := 34) dT_isWordCharacter_27 rfl (by omega) (by omega) (fun h27 => ?_) (fun h27 => ?_)
        · refine zx_iconst (v := nI 0) dT_isWordCharacter_34 (by decide) ?_
          exact zx_zret hE rfl (by first | decide | exact bI_nar _) dT_isWordCharacter_35 rfl (Nat.le_of_ble_eq_true rfl) ⟨by simp only [isWd]; first | (rw [decide_eq_true (show 97 ≤ fold1 c ∧ fold1 c ≤ 122 by omega)]; rfl) | (rw [decide_eq_false (show ¬ (97 ≤ fold1 c ∧ fold1 c ≤ 122) by omega)]; first | (rw [h21]; rfl) | (rw [h21, decide_eq_true (show c = 95 by omega)]; rfl) | (rw [h21, decide_eq_false (show ¬ c = 95 by omega)]; rfl)), rfl, rfl⟩
        · refine zx_iconst (v := nI 1) dT_isWordCharacter_30 (by decide) ?_
          refine zx_goto (tgt := 35) dT_isWordCharacter_31 rfl ?_
          exact zx_zret hE rfl (by first | decide | exact bI_nar _) dT_isWordCharacter_35 rfl (Nat.le_of_ble_eq_true rfl) ⟨by simp only [isWd]; first | (rw [decide_eq_true (show 97 ≤ fold1 c ∧ fold1 c ≤ 122 by omega)]; rfl) | (rw [decide_eq_false (show ¬ (97 ≤ fold1 c ∧ fold1 c ≤ 122) by omega)]; first | (rw [h21]; rfl) | (rw [h21, decide_eq_true (show c = 95 by omega)]; rfl) | (rw [h21, decide_eq_false (show ¬ c = 95 by omega)]; rfl)), rfl, rfl⟩

set_option maxHeartbeats 4000000 in
set_option maxRecDepth 100000 in
theorem kT_charOr0 (G : zG) (d : Nat) (hd : 0 ≤ d) {n : Nat} {sh : zSh} {row : zRw} {t i : Nat} {xs : List Nat} (hT : Txt sh row t xs) (hi : i < 2147483648) : zM G (fT_charOr0 d) [.ref t, .int (nI i)] n sh row (zP sh row (.int (nI (at0 xs i)))) := by
  refine zM.of (by show plainName "PostIndex$Text" = true; decide +kernel) (Nat.le_of_ble_eq_true rfl) (by intro v hv; simp at hv; rcases hv with rfl | rfl <;> rfl) ?_
  intro K hE
  show zX G K (fT_charOr0 d) n 0 0 sh row 0 [.ref t, .int (nI i)] []
  obtain ⟨hs1, hs2, hp, hct, hl, hch⟩ := hT
  refine zx_iload_n dT_charOr0_0 rfl ?_
  refine zn_if_lt (tgt := 21) dT_charOr0_1 rfl (by omega) ?_
  refine zx_iload_n dT_charOr0_4 rfl ?_
  refine zx_aload_n dT_charOr0_5 rfl ?_
  refine zx_get dT_charOr0_6 flT_15 (by assumption) (by assumption) ?_
  refine zn_icmp_ge (tgt := 21) dT_charOr0_9 rfl (by omega) (by omega) (fun h9 => ?_) (fun h9 => ?_)
  · refine zx_iconst (v := nI 0) dT_charOr0_21 (by decide) ?_
    exact zx_zret hE rfl (by first | decide | exact cI_nar (by omega)) dT_charOr0_22 rfl (Nat.le_of_ble_eq_true rfl) ⟨by unfold at0; rw [List.getD_eq_getElem?_getD]; first | (rw [List.getElem?_eq_none (by omega)]; rfl) | (rw [hz2 (by omega)]; rfl), rfl, rfl⟩
  · refine zx_aload_n dT_charOr0_12 rfl ?_
    refine zx_get dT_charOr0_13 flT_9 (by assumption) (by assumption) ?_
    refine zx_iload_n dT_charOr0_16 rfl ?_
    obtain ⟨z, hz, hz1, hz2⟩ := hch i (by omega)
    refine zn_cald dT_charOr0_17 hs2 rfl (by omega) (by decide) hz1 ?_
    refine zx_goto (tgt := 22) dT_charOr0_18 rfl ?_
    exact zx_zret hE rfl (by first | decide | exact cI_nar (by omega)) dT_charOr0_22 rfl (Nat.le_of_ble_eq_true rfl) ⟨by unfold at0; rw [List.getD_eq_getElem?_getD]; first | (rw [List.getElem?_eq_none (by omega)]; rfl) | (rw [hz2 (by omega)]; rfl), rfl, rfl⟩

set_option maxHeartbeats 4000000 in
set_option maxRecDepth 100000 in
theorem kT_makeEmpty (G : zG) (d : Nat) (hd : 0 ≤ d) {n : Nat} {sh : zSh} {row : zRw} {t : Nat} (hs : sh t = some (0, 5, 2)) : zM G (fT_makeEmpty d) [.ref t] n sh row (zpV sh (fun row' => row' = zup row t 1 (.int (nI 0)))) := by
  refine zM.of (by show plainName "PostIndex$Text" = true; decide +kernel) (Nat.le_of_ble_eq_true rfl) (by intro v hv; simp at hv; rcases hv with rfl <;> rfl) ?_
  intro K hE
  show zX G K (fT_makeEmpty d) n 0 0 sh row 0 [.ref t] []
  refine zx_aload_n dT_makeEmpty_0 rfl ?_
  refine zx_iconst (v := nI 0) dT_makeEmpty_1 (by decide) ?_
  refine zx_put dT_makeEmpty_2 flT_15 tpT_1 (by assumption) rfl rfl ?_
  exact zx_vret hE rfl dT_makeEmpty_5 rfl (Nat.le_of_ble_eq_true rfl) ⟨rfl, rfl, rfl⟩
end
section
section ZT2
variable {G : zG} {K : zK} {F : zF} {n0 ce sl : Nat} {sh : zSh} {row : zRw} {pc : Nat} {ls st : List Value}
theorem zn_min {a b idx : Nat} (hd : decode (zcc F) pc = .ok (.invokestatic idx, 3)) (hl : Cond.methodLink (zow F) idx Lib.Math.min.name ∈ zAll ∧ Cond.static Lib.Math.min.name ∈ zAll ∧ Cond.initialized "java/lang/Math" ∈ zAll ∧ Cond.code Lib.Math.min.name Lib.Math.min.code 2 (some .int) ∈ zAll) (hz : 1 ≤ zd F) (hs : (st.map fun v => v.category).sum ≤ 8) (hce : ce ≤ zmc F) (hsl : sl ≤ zms F) (ha : a < 2147483648) (hb : b < 2147483648) (kk : zX G K F n0 ce sl sh row (pc + 3) ls (.int (nI (min a b)) :: st)) : zX G K F n0 ce sl sh row pc ls (.int (nI b) :: .int (nI a) :: st) := by
  refine zx_min hd hl hz hs hce hsl ?_
  have e : (if nI b < nI a then nI b else nI a) = nI (min a b) := by
    by_cases h : b < a
    · rw [if_pos ((nI_ltI (zL31 hb) (zL31 ha)).mpr h), Nat.min_eq_right (by omega)]
    · rw [if_neg (fun g => h ((nI_ltI (zL31 hb) (zL31 ha)).mp g)), Nat.min_eq_left (by omega)]
  rw [e]
  exact kk
end ZT2
/-- nothing but the text at t has changed -/
def fr2 (t : Nat) (row row' : zRw) : Prop := ∀ b, b ≠ t → b ≠ t + 1 → row' b = row b
theorem fr2.rf {t : Nat} {row : zRw} : fr2 t row row := fun _ _ _ => rfl
theorem fr2.tr {t : Nat} {r1 r2 r3 : zRw} (h : fr2 t r1 r2) (g : fr2 t r2 r3) : fr2 t r1 r3 := fun b h1 h2 => (g b h1 h2).trans (h b h1 h2)
theorem Txt.keep {sh : zSh} {row row' : zRw} {t : Nat} {xs : List Nat} (h : Txt sh row t xs) (h1 : row' t = row t) (h2 : row' (t + 1) = row (t + 1)) : Txt sh row' t xs := by
  unfold Txt at h ⊢
  rw [h1, h2]
  exact h
/-- another text than t keeps what it has -/
theorem Txt.other {sh : zSh} {row row' : zRw} {t o : Nat} {ys : List Nat} (h : Txt sh row o ys) (hf : fr2 t row row') (hn : o ≠ t) (hs : sh t = some (0, 5, 2)) (hs2 : sh (t + 1) = some (1, 1, 24)) : Txt sh row' o ys := by
  have a1 : o ≠ t + 1 := fun e => by rw [e] at h; have := h.1; rw [hs2] at this; cases this
  have a2 : o + 1 ≠ t := fun e => by have := h.2.1; rw [e, hs] at this; cases this
  exact h.keep (hf o hn a1) (hf (o + 1) a2 (by omega))
theorem Txt.push {sh : zSh} {row : zRw} {t c : Nat} {xs : List Nat} (h : Txt sh row t xs) (hl : xs.length < 24) (hc : c < 127) : Txt sh (zup (zup row (t + 1) xs.length (.int (nI c))) t 1 (.int (nI (xs.length + 1)))) t (xs ++ [c]) := by
  obtain ⟨h1, h2, h3, h4, h5, h6⟩ := h
  refine ⟨h1, h2, ?_, ?_, by simp; omega, fun i hi => ?_⟩
  · rw [zup_k (Or.inr (by decide)), zup_k (Or.inl (by omega))]; exact h3
  · rw [zup_same]; simp
  · rw [zup_k (Or.inl (by omega))]
    by_cases hx : i = xs.length
    · subst hx
      exact ⟨c, hc, zup_same _ _ _, fun _ => by simp⟩
    · obtain ⟨z, a, b, e⟩ := h6 i hi
      refine ⟨z, a, by rw [zup_k (Or.inr hx)]; exact b, fun hl2 => ?_⟩
      have : i < xs.length := by simp at hl2; omega
      rw [List.getElem?_append_left this]
      exact e this
theorem Txt.empty {sh : zSh} {row : zRw} {t : Nat} {xs : List Nat} (h : Txt sh row t xs) : Txt sh (zup row t 1 (.int (nI 0))) t [] := by
  obtain ⟨h1, h2, h3, h4, h5, h6⟩ := h
  refine ⟨h1, h2, ?_, zup_same _ _ _, by simp, fun i hi => ?_⟩
  · rw [zup_k (Or.inr (by decide))]; exact h3
  · obtain ⟨z, a, b, e⟩ := h6 i hi
    exact ⟨z, a, by rw [zup_k (Or.inl (by omega))]; exact b, fun h => by simp at h⟩
theorem fr2_up {row : zRw} {t k : Nat} {v : Value} : fr2 t row (zup row t k v) := fun b h1 _ => zup_ne h1
theorem fr2_up1 {row : zRw} {t k : Nat} {v : Value} : fr2 t row (zup row (t + 1) k v) := fun b _ h2 => zup_ne h2
theorem Txt.lt {sh : zSh} {row : zRw} {t i : Nat} {xs : List Nat} (h : Txt sh row t xs) : at0 xs i < 127 := by
  unfold at0
  rw [List.getD_eq_getElem?_getD]
  by_cases hi : i < xs.length
  · obtain ⟨z, a, b, e⟩ := h.2.2.2.2.2 i (by have := h.2.2.2.2.1; omega)
    rw [e hi]; exact a
  · rw [List.getElem?_eq_none (by omega)]; decide
theorem fold1_127 {c : Nat} (h : c < 127) : fold1 c < 127 := by unfold fold1; split <;> omega
/-- where a word ends; a token's end; a token's beginning -/
def scanW (xs : List Nat) (i : Nat) : Nat := i + ((xs.drop i).takeWhile isWd).length
def tokS (xs : List Nat) (f : Nat) : Nat := if at0 xs f = 35 ∨ at0 xs f = 64 then f + 1 else f
def tokEnd (xs : List Nat) (f : Nat) : Nat := if tokS xs f < scanW xs (tokS xs f) then scanW xs (tokS xs f) else f
def tokStart (xs : List Nat) (f : Nat) : Nat := if f < xs.length then (if f < tokEnd xs f then f else tokStart xs (f + 1)) else xs.length
termination_by xs.length - f
theorem drop_at0 {xs : List Nat} {i : Nat} (h : i < xs.length) : xs.drop i = at0 xs i :: xs.drop (i + 1) := by
  rw [List.drop_eq_getElem_cons h]
  unfold at0
  rw [List.getD_eq_getElem?_getD, List.getElem?_eq_getElem h]
  rfl
theorem scanW_s {xs : List Nat} {i : Nat} (h : i < xs.length) (hw : isWd (at0 xs i) = true) : scanW xs i = scanW xs (i + 1) := by
  unfold scanW
  rw [drop_at0 h, List.takeWhile_cons_of_pos hw]
  simp only [List.length_cons]
  omega
theorem scanW_e {xs : List Nat} {i : Nat} (h : xs.length ≤ i ∨ isWd (at0 xs i) = false) : scanW xs i = i := by
  unfold scanW
  by_cases hl : i < xs.length
  · rw [drop_at0 hl, List.takeWhile_cons_of_neg (by rcases h with h | h; omega; rw [h]; decide)]
    rfl
  · rw [List.drop_eq_nil_of_le (by omega)]
    rfl
theorem scanW_ge {xs : List Nat} {i : Nat} : i ≤ scanW xs i := by unfold scanW; omega
theorem scanW_le {xs : List Nat} {i : Nat} (h : i ≤ xs.length) : scanW xs i ≤ xs.length := by
  unfold scanW
  have := (List.takeWhile_sublist (l := xs.drop i) isWd).length_le
  rw [List.length_drop] at this
  omega
theorem at0_big {xs : List Nat} {f : Nat} (h : xs.length ≤ f) : at0 xs f = 0 := by
  unfold at0; rw [List.getD_eq_getElem?_getD, List.getElem?_eq_none h]; rfl
theorem tokEnd_ge {xs : List Nat} {f : Nat} : f ≤ tokEnd xs f := by
  unfold tokEnd
  have h1 : f ≤ tokS xs f := by unfold tokS; split <;> omega
  have h2 := @scanW_ge xs (tokS xs f)
  split <;> omega
theorem tokEnd_le {xs : List Nat} {f : Nat} (h : f ≤ xs.length) : tokEnd xs f ≤ xs.length := by
  unfold tokEnd
  split
  · refine scanW_le ?_
    unfold tokS
    split
    · next hq =>
      by_cases hf : f < xs.length
      · omega
      · rw [at0_big (by omega)] at hq; omega
    · exact h
  · exact h
theorem tokStart_le {xs : List Nat} {f : Nat} (h : f ≤ xs.length) : f ≤ tokStart xs f ∧ tokStart xs f ≤ xs.length := by
  generalize hm : xs.length - f = m
  induction m generalizing f with
  | zero =>
    rw [tokStart, if_neg (by omega)]
    omega
  | succ m ih =>
    rw [tokStart, if_pos (by omega)]
    split
    · omega
    · have := ih (f := f + 1) (by omega) (by omega)
      omega

set_option maxHeartbeats 4000000 in
set_option maxRecDepth 100000 in
theorem kT_init (G : zG) (d : Nat) (hd : 1 ≤ d) {n : Nat} {sh : zSh} {row : zRw} {t : Nat} (hs : sh t = some (0, 5, 2)) (ht : t ≤ n) : zM G (fT_init d) [.ref t] n sh row (fun r sh' row' => r = none ∧ sh' = zps sh (n + 1) (1, 1, 24) ∧ row' = zup (zpr row (n + 1) (fun _ => .int 0)) t 0 (.ref (n + 1))) := by
  refine zM.of (by show plainName "PostIndex$Text" = true; decide +kernel) (Nat.le_of_ble_eq_true rfl) (by intro v hv; simp at hv; rcases hv with rfl <;> rfl) ?_
  intro K hE
  show zX G K (fT_init d) n 0 0 sh row 0 [.ref t] []
  have hD : d - 1 + 1 ≤ d := by omega
  refine zx_aload_n dT_init_0 rfl ?_
  refine zx_obj dT_init_1 lkT_3 (by show 1 ≤ d; omega) (Nat.le_of_ble_eq_true rfl) ?_
  refine zx_aload_n dT_init_4 rfl ?_
  refine zx_bipush (v := nI 24) dT_init_5 (by decide) ?_
  refine zx_newa (N := 24) dT_init_7 arC rfl rfl (by decide) (by decide) (by decide) (Nat.le_of_ble_eq_true rfl) (Nat.le_of_ble_eq_true rfl) ?_
  refine zx_putF hE rfl (fun C T h => by cases h; rfl) dT_init_9 flT_9 tpT_0 (by rw [zps_ne (by omega)]; exact hs) rfl rfl ?_
  exact zx_vret hE rfl dT_init_12 rfl (Nat.le_of_ble_eq_true rfl) ⟨rfl, rfl, rfl⟩

set_option maxHeartbeats 4000000 in
set_option maxRecDepth 100000 in
theorem kT_append (G : zG) (d : Nat) (hd : 0 ≤ d) {n : Nat} {sh : zSh} {row : zRw} {t c : Nat} {xs : List Nat} (hT : Txt sh row t xs) (hc : c < 127) : zM G (fT_append d) [.ref t, .int (nI c)] n sh row (zpR sh (fun v row' => v = .int (bI (decide (xs.length < 24))) ∧ fr2 t row row' ∧ Txt sh row' t (if xs.length < 24 then xs ++ [c] else xs))) := by
  refine zM.of (by show plainName "PostIndex$Text" = true; decide +kernel) (Nat.le_of_ble_eq_true rfl) (by intro v hv; simp at hv; rcases hv with rfl | rfl <;> rfl) ?_
  intro K hE
  show zX G K (fT_append d) n 0 0 sh row 0 [.ref t, .int (nI c)] []
  obtain ⟨hs1, hs2, hp, hct, hl, hch⟩ := id hT
  refine zx_aload_n dT_append_0 rfl ?_
  refine zx_get dT_append_1 flT_15 (by assumption) (by assumption) ?_
  refine zx_bipush (v := nI 24) dT_append_4 (by decide) ?_
  refine zn_icmp_lt (tgt := 11) dT_append_6 rfl (by omega) (by omega) (fun h6 => ?_) (fun h6 => ?_)
  · refine zx_aload_n dT_append_11 rfl ?_
    refine zx_get dT_append_12 flT_9 (by assumption) (by assumption) ?_
    refine zx_aload_n dT_append_15 rfl ?_
    refine zx_get dT_append_16 flT_15 (by assumption) (by assumption) ?_
    refine zx_iload_n dT_append_19 rfl ?_
    refine zn_cast dT_append_20 hs2 rfl (by omega) (by decide) (by omega) ?_
    have hct1 : zup row (t + 1) xs.length (.int (nI c)) t 1 = .int (nI xs.length) := by rw [zup_k (Or.inl (by omega))]; exact hct
    refine zx_aload_n dT_append_21 rfl ?_
    refine zx_dup dT_append_22 rfl ?_
    refine zx_get dT_append_23 flT_15 (by assumption) (by assumption) ?_
    refine zx_iconst (v := nI 1) dT_append_26 (by decide) ?_
    refine zn_iadd dT_append_27 ?_
    refine zx_put dT_append_28 flT_15 tpT_1 (by assumption) rfl rfl ?_
    refine zx_iconst (v := nI 1) dT_append_31 (by decide) ?_
    exact zx_zret hE rfl (by first | decide | exact bI_nar _) dT_append_32 rfl (Nat.le_of_ble_eq_true rfl) (by first | exact ⟨_, rfl, rfl, by rw [decide_eq_true h6]; rfl, fr2.tr fr2_up1 fr2_up, by rw [if_pos h6]; exact hT.push h6 hc⟩ | exact ⟨_, rfl, rfl, by rw [decide_eq_false h6]; rfl, fr2.rf, by rw [if_neg h6]; exact hT⟩)
  · refine zx_iconst (v := nI 0) dT_append_9 (by decide) ?_
    exact zx_zret hE rfl (by first | decide | exact bI_nar _) dT_append_10 rfl (Nat.le_of_ble_eq_true rfl) (by first | exact ⟨_, rfl, rfl, by rw [decide_eq_true h6]; rfl, fr2.tr fr2_up1 fr2_up, by rw [if_pos h6]; exact hT.push h6 hc⟩ | exact ⟨_, rfl, rfl, by rw [decide_eq_false h6]; rfl, fr2.rf, by rw [if_neg h6]; exact hT⟩)

theorem sfstep {sh : zSh} {r : zRw} {t fr i : Nat} {ys : List Nat} (h : Txt sh r t (((ys.drop fr).take (i - fr)).map fold1 ++ [fold1 (at0 ys i)])) (h1 : fr ≤ i) (h2 : i < ys.length) : Txt sh r t (((ys.drop fr).take (i + 1 - fr)).map fold1) := by
  have e : (ys.drop fr).take (i + 1 - fr) = (ys.drop fr).take (i - fr) ++ [at0 ys i] := by
    rw [show i + 1 - fr = i - fr + 1 by omega, List.take_add_one, List.getElem?_drop, show fr + (i - fr) = i by omega]
    unfold at0
    rw [List.getD_eq_getElem?_getD, List.getElem?_eq_getElem h2]
    rfl
  rw [e, List.map_append]
  exact h

set_option maxHeartbeats 4000000 in
set_option maxRecDepth 100000 in
theorem kT_setFolded (G : zG) (d : Nat) (hd : 2 ≤ d) {n : Nat} {sh : zSh} {row : zRw} {t o fr to : Nat} {xs ys : List Nat} (hT : Txt sh row t xs) (hO : Txt sh row o ys) (hn : o ≠ t) (h1 : fr ≤ to) (h2 : to ≤ ys.length) : zM G (fT_setFolded d) [.ref t, .ref o, .int (nI fr), .int (nI to)] n sh row (zpV sh (fun row' => fr2 t row row' ∧ Txt sh row' t (((ys.drop fr).take (to - fr)).map fold1))) := by
  refine zM.of (by show plainName "PostIndex$Text" = true; decide +kernel) (Nat.le_of_ble_eq_true rfl) (by intro v hv; simp at hv; rcases hv with rfl | rfl | rfl | rfl <;> rfl) ?_
  intro K hE
  show zX G K (fT_setFolded d) n 0 0 sh row 0 [.ref t, .ref o, .int (nI fr), .int (nI to), .retAddr 0] []
  have hD : d - 1 + 1 ≤ d := by omega
  obtain ⟨hs1, hs2, hp, hct, hl, hch⟩ := id hT
  have hyl := hO.2.2.2.2.1
  have loop : ∀ (k : Nat) (i : Nat) (r2 : zRw), to - i < k → fr ≤ i → i ≤ to → fr2 t row r2 → Txt sh r2 t (((ys.drop fr).take (i - fr)).map fold1) → zX G K (fT_setFolded d) n 0 0 sh r2 8 [.ref t, .ref o, .int (nI fr), .int (nI to), .int (nI i)] [] := by
    intro k
    induction k with
    | zero => intro i r2 hk; exact absurd hk (Nat.not_lt_zero _)
    | succ k ih =>
      intro i r2 hk h3 h4 h5 h6
      have hO2 := hO.other h5 hn hs1 hs2
      have hz := hO2.lt (i := i)
      have hf := fold1_127 hz
      refine zx_iload dT_setFolded_8 rfl ?_
      refine zx_iload_n dT_setFolded_10 rfl ?_
      refine zn_icmp_ge (tgt := 34) dT_setFolded_11 rfl (by omega) (by omega) (fun h11 => ?_) (fun h11 => ?_)
      · exact zx_vret hE rfl dT_setFolded_34 rfl (Nat.le_of_ble_eq_true rfl) (by obtain rfl : i = to := (by omega); exact ⟨rfl, rfl, h5, h6⟩)
      · refine zx_aload_n dT_setFolded_14 rfl ?_
        refine zx_aload_n dT_setFolded_15 rfl ?_
        refine zx_iload dT_setFolded_16 rfl ?_
        refine zc_V (kT_charOr0 G (d - 1) (by omega) hO2 (by omega)) (meT_charOr0 _) lkT_31 hO2.1 rfl rfl hD (Nat.le_of_ble_eq_true rfl) rfl rfl (Nat.le_of_ble_eq_true rfl) (Nat.le_of_ble_eq_true rfl) (Nat.le_of_ble_eq_true rfl) dT_setFolded_18 ?_
        refine zc_S (kT_folded G (d - 1) (by omega) (by omega)) (meT_folded _) lkT_35 rfl hD (Nat.le_of_ble_eq_true rfl) rfl rfl (Nat.le_of_ble_eq_true rfl) (Nat.le_of_ble_eq_true rfl) (Nat.le_of_ble_eq_true rfl) dT_setFolded_21 ?_
        refine zc_Vr (kT_append G (d - 1) (by omega) h6 hf) (meT_append _) lkT_39 hs1 rfl rfl hD (Nat.le_of_ble_eq_true rfl) rfl rfl (Nat.le_of_ble_eq_true rfl) (Nat.le_of_ble_eq_true rfl) (Nat.le_of_ble_eq_true rfl) dT_setFolded_24 (fun v r3 h7 => ?_)
        obtain ⟨rfl, h8, h9⟩ := h7
        refine zx_pop dT_setFolded_27 rfl ?_
        refine zn_iinc (c := 1) dT_setFolded_28 (Nat.le_of_ble_eq_true rfl) rfl rfl ?_
        refine zx_goto (tgt := 8) dT_setFolded_31 rfl ?_
        refine ih (i + 1) r3 (by omega) (by omega) (by omega) (h5.tr h8) ?_
        rw [if_pos (by simp; omega)] at h9
        exact sfstep h9 (by omega) (by omega)
  refine zx_aload_n dT_setFolded_0 rfl ?_
  refine zx_iconst (v := nI 0) dT_setFolded_1 (by decide) ?_
  refine zx_put dT_setFolded_2 flT_15 tpT_1 (by assumption) rfl rfl ?_
  refine zx_iload_n dT_setFolded_5 rfl ?_
  refine zx_istore dT_setFolded_6 (Nat.le_of_ble_eq_true rfl) rfl rfl ?_
  exact loop (to - fr + 1) fr _ (by omega) (Nat.le_refl _) h1 fr2_up (by rw [Nat.sub_self]; exact hT.empty)
end
section
section ZT3
variable {G : zG} {K : zK} {F : zF} {n0 ce sl : Nat} {sh : zSh} {row : zRw} {pc : Nat} {ls st : List Value}
theorem zn_copy {a a' t N N' idx sp dp w : Nat} {ty : FieldType} (hd : decode (zcc F) pc = .ok (.invokestatic idx, 3)) (hl : Cond.methodLink (zow F) idx arraycopyName ∈ zAll ∧ Cond.native arraycopyName ∈ zAll ∧ Cond.static arraycopyName ∈ zAll ∧ Cond.initialized "java/lang/System" ∈ zAll) (hs : sh a = some (1, t, N)) (hs' : sh a' = some (1, t, N')) (ht : zTy[t]? = some ty) (hp : refKind ty = false) (hN : N < 2147483648) (hN' : N' < 2147483648) (h4 : sp + w ≤ N) (h5 : dp + w ≤ N') (hfit : ∀ i, i < w → fits ty (.int (zi (row a (sp + i)))) = true) (hz : 2 ≤ zd F) (hst : (st.map fun v => v.category).sum ≤ 8)
    (kk : zX G K F n0 ce sl sh (zpr row a' (fun k => .int (va_cpy (fun k => zi (row a k)) (fun k => zi (row a' k)) sp dp w k))) (pc + 3) ls st) : zX G K F n0 ce sl sh row pc ls (.int (nI w) :: .int (nI dp) :: .ref a' :: .int (nI sp) :: .ref a :: st) := by
  have e1 : (nI sp).toNatClampNeg = sp := nI_cl (by omega)
  have e2 : (nI dp).toNatClampNeg = dp := nI_cl (by omega)
  have e3 : (nI w).toNatClampNeg = w := nI_cl (by omega)
  refine zx_copy hd hl hs hs' ht hp (nI_pos (zL31 (by omega))) (nI_pos (zL31 (by omega))) (nI_pos (zL31 (by omega))) (by rw [e1, e3]; exact h4) (by rw [e2, e3]; exact h5) (by rw [e1, e3]; exact hfit) hz hst ?_
  rw [e1, e2, e3]
  exact kk
end ZT3
theorem Txt.copy {sh : zSh} {row : zRw} {t o k : Nat} {xs ys : List Nat} (hT : Txt sh row t xs) (hO : Txt sh row o ys) (hk : k ≤ ys.length) (hx : xs.length + k ≤ 24) : Txt sh (zup (zpr row (t + 1) (fun j => .int (va_cpy (fun k => zi (row (o + 1) k)) (fun k => zi (row (t + 1) k)) 0 xs.length k j))) t 1 (.int (nI (xs.length + k)))) t (xs ++ ys.take k) := by
  obtain ⟨h1, h2, h3, h4, h5, h6⟩ := hT
  have hlen : (xs ++ ys.take k).length = xs.length + k := by simp; omega
  refine ⟨h1, h2, ?_, ?_, by rw [hlen]; exact hx, fun i hi => ?_⟩
  · rw [zup_k (Or.inr (by decide)), zpr_ne (by omega)]; exact h3
  · rw [zup_same, hlen]
  · rw [zup_k (Or.inl (by omega)), zpr_self, hlen]
    by_cases hq : xs.length ≤ i ∧ i < xs.length + k
    · obtain ⟨z, a, b, e⟩ := hO.2.2.2.2.2 (i - xs.length) (by omega)
      refine ⟨z, a, ?_, fun _ => ?_⟩
      · show Value.int (va_cpy _ _ 0 xs.length k i) = _
        unfold va_cpy
        rw [if_pos hq, Nat.zero_add]
        show Value.int (zi (row (o + 1) (i - xs.length))) = _
        rw [b]
        rfl
      · rw [List.getElem?_append_right hq.1, List.getElem?_take_of_lt (by omega)]
        exact e (by omega)
    · obtain ⟨z, a, b, e⟩ := h6 i hi
      refine ⟨z, a, ?_, fun hl => ?_⟩
      · show Value.int (va_cpy _ _ 0 xs.length k i) = _
        unfold va_cpy
        rw [if_neg hq]
        show Value.int (zi (row (t + 1) i)) = _
        rw [b]
        rfl
      · have : i < xs.length := by omega
        rw [List.getElem?_append_left this]
        exact e this

set_option maxHeartbeats 4000000 in
set_option maxRecDepth 100000 in
theorem kT_appendBeginning (G : zG) (d : Nat) (hd : 2 ≤ d) {n : Nat} {sh : zSh} {row : zRw} {t o : Nat} {xs ys : List Nat} (hT : Txt sh row t xs) (hO : Txt sh row o ys) : zM G (fT_appendBeginning d) [.ref t, .ref o] n sh row (zpR sh (fun v row' => v = .int (nI (min ys.length (24 - xs.length))) ∧ fr2 t row row' ∧ Txt sh row' t (xs ++ ys.take (min ys.length (24 - xs.length))))) := by
  refine zM.of (by show plainName "PostIndex$Text" = true; decide +kernel) (Nat.le_of_ble_eq_true rfl) (by intro v hv; simp at hv; rcases hv with rfl | rfl <;> rfl) ?_
  intro K hE
  show zX G K (fT_appendBeginning d) n 0 0 sh row 0 [.ref t, .ref o, .retAddr 0] []
  have hD : d - 1 + 1 ≤ d := by omega
  obtain ⟨hs1, hs2, hp, hct, hl, hch⟩ := id hT
  obtain ⟨ho1, ho2, hop, hoc, hol, hoh⟩ := id hO
  refine zx_aload_n dT_appendBeginning_0 rfl ?_
  refine zx_get dT_appendBeginning_1 flT_15 (by assumption) (by assumption) ?_
  refine zx_bipush (v := nI 24) dT_appendBeginning_4 (by decide) ?_
  refine zx_aload_n dT_appendBeginning_6 rfl ?_
  refine zx_get dT_appendBeginning_7 flT_15 (by assumption) (by assumption) ?_
  refine zn_isub dT_appendBeginning_10 (by omega) ?_
  refine zn_min dT_appendBeginning_11 lkT_19 (by show 1 ≤ d; omega) (Nat.le_of_ble_eq_true rfl) (Nat.le_of_ble_eq_true rfl) (Nat.le_of_ble_eq_true rfl) (by omega) (by omega) ?_
  refine zx_istore_n dT_appendBeginning_14 (Nat.le_of_ble_eq_true rfl) rfl rfl ?_
  refine zx_aload_n dT_appendBeginning_15 rfl ?_
  refine zx_get dT_appendBeginning_16 flT_9 (by assumption) (by assumption) ?_
  refine zx_iconst (v := nI 0) dT_appendBeginning_19 (by decide) ?_
  refine zx_aload_n dT_appendBeginning_20 rfl ?_
  refine zx_get dT_appendBeginning_21 flT_9 (by assumption) (by assumption) ?_
  refine zx_aload_n dT_appendBeginning_24 rfl ?_
  refine zx_get dT_appendBeginning_25 flT_15 (by assumption) (by assumption) ?_
  refine zx_iload_n dT_appendBeginning_28 rfl ?_
  refine zn_copy (ty := .char) dT_appendBeginning_29 lkT_25 ho2 hs2 rfl rfl (by decide) (by decide) (by omega) (by omega) (fun i hi => ?_) (by show 2 ≤ d; omega) (Nat.le_of_ble_eq_true rfl) ?_
  · obtain ⟨z, hz, hz1, -⟩ := hoh (0 + i) (by omega)
    rw [hz1]
    exact (pk_charN (by omega)).2
  have hc2 : zpr row (t + 1) (fun j => .int (va_cpy (fun k => zi (row (o + 1) k)) (fun k => zi (row (t + 1) k)) 0 xs.length (min ys.length (24 - xs.length)) j)) t 1 = .int (nI xs.length) := by rw [zpr_ne (by omega)]; exact hct
  refine zx_aload_n dT_appendBeginning_32 rfl ?_
  refine zx_dup dT_appendBeginning_33 rfl ?_
  refine zx_get dT_appendBeginning_34 flT_15 (by assumption) (by assumption) ?_
  refine zx_iload_n dT_appendBeginning_37 rfl ?_
  refine zn_iadd dT_appendBeginning_38 ?_
  refine zx_put dT_appendBeginning_39 flT_15 tpT_1 (by assumption) rfl rfl ?_
  refine zx_iload_n dT_appendBeginning_42 rfl ?_
  exact zx_iret hE rfl dT_appendBeginning_43 rfl (Nat.le_of_ble_eq_true rfl) ⟨_, rfl, rfl, rfl, fun b b1 b2 => by rw [zup_ne b1, zpr_ne b2], hT.copy hO (by omega) (by omega)⟩

set_option maxHeartbeats 4000000 in
set_option maxRecDepth 100000 in
theorem kT_isSame (G : zG) (d : Nat) (hd : 0 ≤ d) {n : Nat} {sh : zSh} {row : zRw} {t o : Nat} {xs ys : List Nat} (hT : Txt sh row t xs) (hO : Txt sh row o ys) : zM G (fT_isSame d) [.ref t, .ref o] n sh row (zP sh row (.int (bI (decide (xs = ys))))) := by
  refine zM.of (by show plainName "PostIndex$Text" = true; decide +kernel) (Nat.le_of_ble_eq_true rfl) (by intro v hv; simp at hv; rcases hv with rfl | rfl <;> rfl) ?_
  intro K hE
  show zX G K (fT_isSame d) n 0 0 sh row 0 [.ref t, .ref o, .retAddr 0] []
  obtain ⟨hs1, hs2, hp, hct, hl, hch⟩ := id hT
  obtain ⟨ho1, ho2, hop, hoc, hol, hoh⟩ := id hO
  refine zx_aload_n dT_isSame_0 rfl ?_
  refine zx_get dT_isSame_1 flT_15 (by assumption) (by assumption) ?_
  refine zx_aload_n dT_isSame_4 rfl ?_
  refine zx_get dT_isSame_5 flT_15 (by assumption) (by assumption) ?_
  refine zn_icmp_eq (tgt := 13) dT_isSame_8 rfl (by omega) (by omega) (fun h8 => ?_) (fun h8 => ?_)
  · have hle : xs.length = ys.length := h8
    have loop : ∀ (k : Nat) (i : Nat), xs.length - i < k → i ≤ xs.length → (∀ j, j < i → xs[j]? = ys[j]?) → zX G K (fT_isSame d) n 0 0 sh row 15 [.ref t, .ref o, .int (nI i)] [] := by
      intro k
      induction k with
      | zero => intro i hk; exact absurd hk (Nat.not_lt_zero _)
      | succ k ih =>
        intro i hk h3 h4
        refine zx_iload_n dT_isSame_15 rfl ?_
        refine zx_aload_n dT_isSame_16 rfl ?_
        refine zx_get dT_isSame_17 flT_15 (by assumption) (by assumption) ?_
        refine zn_icmp_ge (tgt := 46) dT_isSame_20 rfl (by omega) (by omega) (fun h20 => ?_) (fun h20 => ?_)
        · refine zx_iconst (v := nI 1) dT_isSame_46 (by decide) ?_
          exact zx_zret hE rfl (by first | decide | exact bI_nar _) dT_isSame_47 rfl (Nat.le_of_ble_eq_true rfl) (by first | (refine ⟨?_, rfl, rfl⟩; rw [decide_eq_true]; rfl; apply List.ext_getElem?; intro j; by_cases hj : j < xs.length; exact h4 j (by omega); rw [List.getElem?_eq_none (by omega), List.getElem?_eq_none (by omega)]) | (refine ⟨?_, rfl, rfl⟩; rw [decide_eq_false]; rfl; intro e; have e1 := hz2 (by omega); have e2 := hw2 (by omega); rw [e, e2] at e1; exact h35 (Option.some.inj e1).symm))
        · refine zx_aload_n dT_isSame_23 rfl ?_
          refine zx_get dT_isSame_24 flT_9 (by assumption) (by assumption) ?_
          refine zx_iload_n dT_isSame_27 rfl ?_
          obtain ⟨z, hz, hz1, hz2⟩ := hch i (by omega)
          refine zn_cald dT_isSame_28 hs2 rfl (by omega) (by decide) hz1 ?_
          refine zx_aload_n dT_isSame_29 rfl ?_
          refine zx_get dT_isSame_30 flT_9 (by assumption) (by assumption) ?_
          refine zx_iload_n dT_isSame_33 rfl ?_
          obtain ⟨w, hw, hw1, hw2⟩ := hoh i (by omega)
          refine zn_cald dT_isSame_34 ho2 rfl (by omega) (by decide) hw1 ?_
          refine zn_icmp_eq (tgt := 40) dT_isSame_35 rfl (by omega) (by omega) (fun h35 => ?_) (fun h35 => ?_)
          · refine zn_iinc (c := 1) dT_isSame_40 (Nat.le_of_ble_eq_true rfl) rfl rfl ?_
            refine zx_goto (tgt := 15) dT_isSame_43 rfl ?_
            refine ih (i + 1) (by omega) (by omega) (fun j hj => ?_)
            by_cases hji : j = i
            · rw [hji, hz2 (by omega), hw2 (by omega), h35]
            · exact h4 j (by omega)
          · refine zx_iconst (v := nI 0) dT_isSame_38 (by decide) ?_
            exact zx_zret hE rfl (by first | decide | exact bI_nar _) dT_isSame_39 rfl (Nat.le_of_ble_eq_true rfl) (by first | (refine ⟨?_, rfl, rfl⟩; rw [decide_eq_true]; rfl; apply List.ext_getElem?; intro j; by_cases hj : j < xs.length; exact h4 j (by omega); rw [List.getElem?_eq_none (by omega), List.getElem?_eq_none (by omega)]) | (refine ⟨?_, rfl, rfl⟩; rw [decide_eq_false]; rfl; intro e; have e1 := hz2 (by omega); have e2 := hw2 (by omega); rw [e, e2] at e1; exact h35 (Option.some.inj e1).symm))
    refine zx_iconst (v := nI 0) dT_isSame_13 (by decide) ?_
    refine zx_istore_n dT_isSame_14 (Nat.le_of_ble_eq_true rfl) rfl rfl ?_
    exact loop (xs.length + 1) 0 (by omega) (by omega) (fun j hj => absurd hj (Nat.not_lt_zero _))
  · refine zx_iconst (v := nI 0) dT_isSame_11 (by decide) ?_
    exact zx_zret hE rfl (by first | decide | exact bI_nar _) dT_isSame_12 rfl (Nat.le_of_ble_eq_true rfl) (by refine ⟨?_, rfl, rfl⟩; rw [decide_eq_false (fun e => h8 (by rw [e]))]; rfl)

set_option maxHeartbeats 4000000 in
set_option maxRecDepth 100000 in
theorem kT_tokenEnd (G : zG) (d : Nat) (hd : 2 ≤ d) {n : Nat} {sh : zSh} {row : zRw} {t f : Nat} {xs : List Nat} (hT : Txt sh row t xs) (hf : f < 1000000) : zM G (fT_tokenEnd d) [.ref t, .int (nI f)] n sh row (zP sh row (.int (nI (tokEnd xs f)))) := by
  refine zM.of (by show plainName "PostIndex$Text" = true; decide +kernel) (Nat.le_of_ble_eq_true rfl) (by intro v hv; simp at hv; rcases hv with rfl | rfl <;> rfl) ?_
  intro K hE
  show zX G K (fT_tokenEnd d) n 0 0 sh row 0 [.ref t, .int (nI f), .retAddr 0, .retAddr 0, .retAddr 0] []
  have hD : d - 1 + 1 ≤ d := by omega
  obtain ⟨hs1, hs2, hp, hct, hl, hch⟩ := id hT
  have loop : ∀ (k : Nat) (s e : Nat), xs.length - e < k → tokS xs f = s → s ≤ e → scanW xs e = scanW xs s → (e ≤ f + 1 ∨ e ≤ xs.length) → zX G K (fT_tokenEnd d) n 0 0 sh row 29 [.ref t, .int (nI f), .int (nI (at0 xs f)), .int (nI s), .int (nI e)] [] := by
    intro k
    induction k with
    | zero => intro s e hk; exact absurd hk (Nat.not_lt_zero _)
    | succ k ih =>
      intro s e hk h3 h4 h5 h6
      refine zx_iload dT_tokenEnd_29 rfl ?_
      refine zx_aload_n dT_tokenEnd_31 rfl ?_
      refine zx_get dT_tokenEnd_32 flT_15 (by assumption) (by assumption) ?_
      refine zn_icmp_ge (tgt := 56) dT_tokenEnd_35 rfl (by omega) (by omega) (fun h35 => ?_) (fun h35 => ?_)
      · have he : e = scanW xs s := by rw [← h5]; exact (scanW_e (by first | exact Or.inl (by omega) | exact Or.inr h47)).symm
        refine zx_iload dT_tokenEnd_56 rfl ?_
        refine zx_iload_n dT_tokenEnd_58 rfl ?_
        refine zn_icmp_le (tgt := 67) dT_tokenEnd_59 rfl (by omega) (by omega) (fun h59 => ?_) (fun h59 => ?_)
        · refine zx_iload_n dT_tokenEnd_67 rfl ?_
          exact zx_iret hE rfl dT_tokenEnd_68 rfl (Nat.le_of_ble_eq_true rfl) (by refine ⟨?_, rfl, rfl⟩; unfold tokEnd; rw [h3, ← he]; first | rw [if_pos (by omega)] | rw [if_neg (by omega)])
        · refine zx_iload dT_tokenEnd_62 rfl ?_
          refine zx_goto (tgt := 68) dT_tokenEnd_64 rfl ?_
          exact zx_iret hE rfl dT_tokenEnd_68 rfl (Nat.le_of_ble_eq_true rfl) (by refine ⟨?_, rfl, rfl⟩; unfold tokEnd; rw [h3, ← he]; first | rw [if_pos (by omega)] | rw [if_neg (by omega)])
      · refine zx_aload_n dT_tokenEnd_38 rfl ?_
        refine zx_iload dT_tokenEnd_39 rfl ?_
        refine zc_V (kT_charOr0 G (d - 1) (by omega) hT (by omega)) (meT_charOr0 _) lkT_31 hs1 rfl rfl hD (Nat.le_of_ble_eq_true rfl) rfl rfl (Nat.le_of_ble_eq_true rfl) (Nat.le_of_ble_eq_true rfl) (Nat.le_of_ble_eq_true rfl) dT_tokenEnd_41 ?_
        refine zc_S (kT_isWordCharacter G (d - 1) (by omega) (by have := hT.lt (i := e); omega)) (meT_isWordCharacter _) lkT_43 rfl hD (Nat.le_of_ble_eq_true rfl) rfl rfl (Nat.le_of_ble_eq_true rfl) (Nat.le_of_ble_eq_true rfl) (Nat.le_of_ble_eq_true rfl) dT_tokenEnd_44 ?_
        refine zb_if_eq (tgt := 56) dT_tokenEnd_47 rfl (fun h47 => ?_) (fun h47 => ?_)
        · have he : e = scanW xs s := by rw [← h5]; exact (scanW_e (by first | exact Or.inl (by omega) | exact Or.inr h47)).symm
          refine zx_iload dT_tokenEnd_56 rfl ?_
          refine zx_iload_n dT_tokenEnd_58 rfl ?_
          refine zn_icmp_le (tgt := 67) dT_tokenEnd_59 rfl (by omega) (by omega) (fun h59 => ?_) (fun h59 => ?_)
          · refine zx_iload_n dT_tokenEnd_67 rfl ?_
            exact zx_iret hE rfl dT_tokenEnd_68 rfl (Nat.le_of_ble_eq_true rfl) (by refine ⟨?_, rfl, rfl⟩; unfold tokEnd; rw [h3, ← he]; first | rw [if_pos (by omega)] | rw [if_neg (by omega)])
          · refine zx_iload dT_tokenEnd_62 rfl ?_
            refine zx_goto (tgt := 68) dT_tokenEnd_64 rfl ?_
            exact zx_iret hE rfl dT_tokenEnd_68 rfl (Nat.le_of_ble_eq_true rfl) (by refine ⟨?_, rfl, rfl⟩; unfold tokEnd; rw [h3, ← he]; first | rw [if_pos (by omega)] | rw [if_neg (by omega)])
        · refine zn_iinc (c := 1) dT_tokenEnd_50 (Nat.le_of_ble_eq_true rfl) rfl rfl ?_
          refine zx_goto (tgt := 29) dT_tokenEnd_53 rfl ?_
          exact ih s (e + 1) (by omega) h3 (by omega) (by rw [← h5, scanW_s (by omega) h47]) (by omega)
  refine zx_aload_n dT_tokenEnd_0 rfl ?_
  refine zx_iload_n dT_tokenEnd_1 rfl ?_
  refine zc_V (kT_charOr0 G (d - 1) (by omega) hT (by omega)) (meT_charOr0 _) lkT_31 hs1 rfl rfl hD (Nat.le_of_ble_eq_true rfl) rfl rfl (Nat.le_of_ble_eq_true rfl) (Nat.le_of_ble_eq_true rfl) (Nat.le_of_ble_eq_true rfl) dT_tokenEnd_2 ?_
  have hz := hT.lt (i := f)
  refine zx_istore_n dT_tokenEnd_5 (Nat.le_of_ble_eq_true rfl) rfl rfl ?_
  refine zx_iload_n dT_tokenEnd_6 rfl ?_
  refine zx_bipush (v := nI 35) dT_tokenEnd_7 (by decide) ?_
  refine zn_icmp_eq (tgt := 18) dT_tokenEnd_9 rfl (by omega) (by omega) (fun h9 => ?_) (fun h9 => ?_)
  · refine zx_iload_n dT_tokenEnd_18 rfl ?_
    refine zx_iconst (v := nI 1) dT_tokenEnd_19 (by decide) ?_
    refine zn_iadd dT_tokenEnd_20 ?_
    refine zx_goto (tgt := 25) dT_tokenEnd_21 rfl ?_
    refine zx_istore_n dT_tokenEnd_25 (Nat.le_of_ble_eq_true rfl) rfl rfl ?_
    refine zx_iload_n dT_tokenEnd_26 rfl ?_
    refine zx_istore dT_tokenEnd_27 (Nat.le_of_ble_eq_true rfl) rfl rfl ?_
    exact loop _ _ _ (Nat.lt_succ_self _) (by unfold tokS; first | rw [if_pos (by omega)] | rw [if_neg (by omega)]) (Nat.le_refl _) rfl (by omega)
  · refine zx_iload_n dT_tokenEnd_12 rfl ?_
    refine zx_bipush (v := nI 64) dT_tokenEnd_13 (by decide) ?_
    refine zn_icmp_ne (tgt := 24) dT_tokenEnd_15 rfl (by omega) (by omega) (fun h15 => ?_) (fun h15 => ?_)
    · refine zx_iload_n dT_tokenEnd_24 rfl ?_
      refine zx_istore_n dT_tokenEnd_25 (Nat.le_of_ble_eq_true rfl) rfl rfl ?_
      refine zx_iload_n dT_tokenEnd_26 rfl ?_
      refine zx_istore dT_tokenEnd_27 (Nat.le_of_ble_eq_true rfl) rfl rfl ?_
      exact loop _ _ _ (Nat.lt_succ_self _) (by unfold tokS; first | rw [if_pos (by omega)] | rw [if_neg (by omega)]) (Nat.le_refl _) rfl (by omega)
    · refine zx_iload_n dT_tokenEnd_18 rfl ?_
      refine zx_iconst (v := nI 1) dT_tokenEnd_19 (by decide) ?_
      refine zn_iadd dT_tokenEnd_20 ?_
      refine zx_goto (tgt := 25) dT_tokenEnd_21 rfl ?_
      refine zx_istore_n dT_tokenEnd_25 (Nat.le_of_ble_eq_true rfl) rfl rfl ?_
      refine zx_iload_n dT_tokenEnd_26 rfl ?_
      refine zx_istore dT_tokenEnd_27 (Nat.le_of_ble_eq_true rfl) rfl rfl ?_
      exact loop _ _ _ (Nat.lt_succ_self _) (by unfold tokS; first | rw [if_pos (by omega)] | rw [if_neg (by omega)]) (Nat.le_refl _) rfl (by omega)

theorem tokStart_s {xs : List Nat} {i : Nat} (h : i < xs.length) (h2 : ¬ i < tokEnd xs i) : tokStart xs i = tokStart xs (i + 1) := by
  rw [tokStart, if_pos h, if_neg h2]
theorem tokStart_b {xs : List Nat} {i : Nat} (h : i < xs.length) (h2 : i < tokEnd xs i) : tokStart xs i = i := by
  rw [tokStart, if_pos h, if_pos h2]
theorem tokStart_e {xs : List Nat} {i : Nat} (h : xs.length ≤ i) : tokStart xs i = xs.length := by
  rw [tokStart, if_neg (by omega)]

set_option maxHeartbeats 4000000 in
set_option maxRecDepth 100000 in
theorem kT_tokenStart (G : zG) (d : Nat) (hd : 3 ≤ d) {n : Nat} {sh : zSh} {row : zRw} {t f : Nat} {xs : List Nat} (hT : Txt sh row t xs) (hf : f ≤ xs.length) : zM G (fT_tokenStart d) [.ref t, .int (nI f)] n sh row (zP sh row (.int (nI (tokStart xs f)))) := by
  refine zM.of (by show plainName "PostIndex$Text" = true; decide +kernel) (Nat.le_of_ble_eq_true rfl) (by intro v hv; simp at hv; rcases hv with rfl | rfl <;> rfl) ?_
  intro K hE
  show zX G K (fT_tokenStart d) n 0 0 sh row 0 [.ref t, .int (nI f), .retAddr 0] []
  have hD : d - 1 + 1 ≤ d := by omega
  obtain ⟨hs1, hs2, hp, hct, hl, hch⟩ := id hT
  have loop : ∀ (k : Nat) (i : Nat), xs.length - i < k → tokStart xs f = tokStart xs i → i ≤ xs.length → zX G K (fT_tokenStart d) n 0 0 sh row 2 [.ref t, .int (nI f), .int (nI i)] [] := by
    intro k
    induction k with
    | zero => intro i hk; exact absurd hk (Nat.not_lt_zero _)
    | succ k ih =>
      intro i hk h3 h4
      have hte := tokEnd_le (xs := xs) (f := i) h4
      refine zx_iload_n dT_tokenStart_2 rfl ?_
      refine zx_aload_n dT_tokenStart_3 rfl ?_
      refine zx_get dT_tokenStart_4 flT_15 (by assumption) (by assumption) ?_
      refine zn_icmp_ge (tgt := 27) dT_tokenStart_7 rfl (by omega) (by omega) (fun h7 => ?_) (fun h7 => ?_)
      · refine zx_aload_n dT_tokenStart_27 rfl ?_
        refine zx_get dT_tokenStart_28 flT_15 (by assumption) (by assumption) ?_
        exact zx_iret hE rfl dT_tokenStart_31 rfl (Nat.le_of_ble_eq_true rfl) ⟨by rw [h3]; first | rw [tokStart_b (by omega) (by omega)] | rw [tokStart_e (by omega)], rfl, rfl⟩
      · refine zx_aload_n dT_tokenStart_10 rfl ?_
        refine zx_iload_n dT_tokenStart_11 rfl ?_
        refine zc_V (kT_tokenEnd G (d - 1) (by omega) hT (by omega)) (meT_tokenEnd _) lkT_46 hs1 rfl rfl hD (Nat.le_of_ble_eq_true rfl) rfl rfl (Nat.le_of_ble_eq_true rfl) (Nat.le_of_ble_eq_true rfl) (Nat.le_of_ble_eq_true rfl) dT_tokenStart_12 ?_
        refine zx_iload_n dT_tokenStart_15 rfl ?_
        refine zn_icmp_le (tgt := 21) dT_tokenStart_16 rfl (by omega) (by omega) (fun h16 => ?_) (fun h16 => ?_)
        · refine zn_iinc (c := 1) dT_tokenStart_21 (Nat.le_of_ble_eq_true rfl) rfl rfl ?_
          refine zx_goto (tgt := 2) dT_tokenStart_24 rfl ?_
          exact ih (i + 1) (by omega) (by rw [h3]; exact tokStart_s (by omega) (by omega)) (by omega)
        · refine zx_iload_n dT_tokenStart_19 rfl ?_
          exact zx_iret hE rfl dT_tokenStart_20 rfl (Nat.le_of_ble_eq_true rfl) ⟨by rw [h3]; first | rw [tokStart_b (by omega) (by omega)] | rw [tokStart_e (by omega)], rfl, rfl⟩
  refine zx_iload_n dT_tokenStart_0 rfl ?_
  refine zx_istore_n dT_tokenStart_1 (Nat.le_of_ble_eq_true rfl) rfl rfl ?_
  exact loop _ f (Nat.lt_succ_self _) rfl hf
end
section
def bt (x : Int32) (i : Nat) : Bool := x.toBitVec.getLsbD i
theorem b_ext {x y : Int32} (h : ∀ i, i < 32 → bt x i = bt y i) : x = y := Int32.toBitVec_inj.mp (BitVec.eq_of_getLsbD_eq (fun i hi => h i hi))
theorem b_or (x y : Int32) (i : Nat) : bt (x ||| y) i = (bt x i || bt y i) := by unfold bt; rw [Int32.toBitVec_or, BitVec.getLsbD_or]
theorem b_and (x y : Int32) (i : Nat) : bt (x &&& y) i = (bt x i && bt y i) := by unfold bt; rw [Int32.toBitVec_and, BitVec.getLsbD_and]
theorem b_xor (x y : Int32) (i : Nat) : bt (x ^^^ y) i = (bt x i ^^ bt y i) := by unfold bt; rw [Int32.toBitVec_xor, BitVec.getLsbD_xor]
theorem b_big {x : Int32} {i : Nat} (h : 32 ≤ i) : bt x i = false := BitVec.getLsbD_of_ge _ _ h
theorem b_255 (i : Nat) : bt 255 i = decide (i < 8) := by
  rcases Nat.lt_or_ge i 32 with h | h
  · exact (by decide +kernel : ∀ i, i < 32 → bt 255 i = decide (i < 8)) i h
  · rw [b_big h, decide_eq_false (by omega)]
theorem b_65535 (i : Nat) : bt 65535 i = decide (i < 16) := by
  rcases Nat.lt_or_ge i 32 with h | h
  · exact (by decide +kernel : ∀ i, i < 32 → bt 65535 i = decide (i < 16)) i h
  · rw [b_big h, decide_eq_false (by omega)]
theorem b_m1 : ∀ i, i < 32 → bt (-1) i = true := by decide +kernel
theorem b_0 (i : Nat) : bt 0 i = false := BitVec.getLsbD_zero
theorem s_l : ∀ n, n < 32 → ((nI n &&& 31).toBitVec.smod 32).toNat = n := by decide +kernel
theorem s_u : ∀ n, n < 32 → (((nI n).toUInt32 &&& Int32.toUInt32 31).toBitVec % 32).toNat = n := by decide +kernel
theorem b_shl (n : Nat) (hn : n < 32) (x : Int32) {i : Nat} (hi : i < 32) : bt (x <<< (nI n &&& 31)) i = (decide (n ≤ i) && bt x (i - n)) := by
  unfold bt
  rw [Int32.toBitVec_shiftLeft]
  show (x.toBitVec <<< ((nI n &&& 31).toBitVec.smod 32).toNat).getLsbD i = _
  rw [s_l n hn, BitVec.getLsbD_shiftLeft]
  rcases Nat.lt_or_ge i n with h | h
  · simp [h, Nat.not_le.mpr h]
  · simp [hi, h, Nat.not_lt.mpr h]
theorem b_ushr (n : Nat) (hn : n < 32) (x : Int32) (i : Nat) : bt ((x.toUInt32 >>> ((nI n).toUInt32 &&& Int32.toUInt32 31)).toInt32) i = bt x (n + i) := by
  show (x.toUInt32 >>> ((nI n).toUInt32 &&& Int32.toUInt32 31)).toBitVec.getLsbD i = x.toUInt32.toBitVec.getLsbD (n + i)
  rw [UInt32.toBitVec_shiftRight]
  show (x.toUInt32.toBitVec >>> (((nI n).toUInt32 &&& Int32.toUInt32 31).toBitVec % 32).toNat).getLsbD i = _
  rw [s_u n hn, BitVec.getLsbD_ushiftRight]
theorem b_sshr (n : Nat) (hn : n < 32) (x : Int32) {i : Nat} (hi : i < 32) : bt (x >>> (nI n &&& 31)) i = if n + i < 32 then bt x (n + i) else bt x 31 := by
  unfold bt
  rw [Int32.toBitVec_shiftRight]
  show (x.toBitVec.sshiftRight ((nI n &&& 31).toBitVec.smod 32).toNat).getLsbD i = _
  rw [s_l n hn, BitVec.getLsbD_sshiftRight, BitVec.msb_eq_getLsbD_last]
  simp [hi]
theorem b_shl8 (x : Int32) {i : Nat} (hi : i < 32) : bt (x <<< ((8 : Int32) &&& 31)) i = (decide (8 ≤ i) && bt x (i - 8)) := b_shl 8 (by omega) x hi
theorem b_shl16 (x : Int32) {i : Nat} (hi : i < 32) : bt (x <<< ((16 : Int32) &&& 31)) i = (decide (16 ≤ i) && bt x (i - 16)) := b_shl 16 (by omega) x hi
theorem b_shl24 (x : Int32) {i : Nat} (hi : i < 32) : bt (x <<< ((24 : Int32) &&& 31)) i = (decide (24 ≤ i) && bt x (i - 24)) := b_shl 24 (by omega) x hi
theorem b_sshr8 (x : Int32) {i : Nat} (hi : i < 32) : bt (x >>> ((8 : Int32) &&& 31)) i = if 8 + i < 32 then bt x (8 + i) else bt x 31 := b_sshr 8 (by omega) x hi
/-- how many of the numbers below m have it -/
def cnt (f : Nat → Bool) : Nat → Nat
  | 0 => 0
  | m + 1 => cnt f m + (if f m = true then 1 else 0)
theorem cnt_congr {f g : Nat → Bool} {m : Nat} (h : ∀ i, i < m → f i = g i) : cnt f m = cnt g m := by
  induction m with
  | zero => rfl
  | succ m ih => unfold cnt; rw [ih (fun i hi => h i (by omega)), h m (by omega)]
theorem cnt_add (f : Nat → Bool) (a b : Nat) : cnt f (a + b) = cnt f a + cnt (fun i => f (a + i)) b := by
  induction b with
  | zero => rfl
  | succ b ih =>
    show cnt f (a + b) + (if f (a + b) = true then 1 else 0) = cnt f a + (cnt (fun i => f (a + i)) b + (if f (a + b) = true then 1 else 0))
    rw [ih]; omega
theorem cnt_le (f : Nat → Bool) (m : Nat) : cnt f m ≤ m := by
  induction m with
  | zero => exact Nat.le_refl _
  | succ m ih => unfold cnt; split <;> omega
def popc (x : Int32) : Nat := cnt (bt x) 32
theorem land_d {w a d M m : Nat} (hd : d < 2 ^ w) (hm : m < 2 ^ w) : (2 ^ w * a + d) &&& (2 ^ w * M + m) = 2 ^ w * (a &&& M) + (d &&& m) := by
  apply Nat.eq_of_testBit_eq
  intro i
  have hdm : d &&& m < 2 ^ w := Nat.and_lt_two_pow d hm
  rw [Nat.testBit_and, Nat.testBit_two_pow_mul_add _ hd, Nat.testBit_two_pow_mul_add _ hm, Nat.testBit_two_pow_mul_add _ hdm]
  by_cases h : i < w
  · rw [if_pos h, if_pos h, if_pos h, Nat.testBit_and]
  · rw [if_neg h, if_neg h, if_neg h, Nat.testBit_and]
def bf1 (b : Nat) : Nat := b - (b / 2 &&& 85)
def bf2 (b : Nat) : Nat := (b &&& 51) + (b / 4 &&& 51)
def bf3 (b : Nat) : Nat := (b + b / 16) &&& 15
theorem bf_a : ∀ b, b < 256 → ∀ c, c < 2 → (b / 2 + 128 * c) &&& 85 = b / 2 &&& 85 ∧ (b / 2 &&& 85) ≤ b := by decide +kernel
theorem bf_b : ∀ b, b < 256 → ∀ c, c < 4 → (b / 4 + 64 * c) &&& 51 = b / 4 &&& 51 := by decide +kernel
theorem bf_c : ∀ b, b < 256 → bf2 (bf1 b) % 16 ≤ 4 ∧ bf2 (bf1 b) / 16 ≤ 4 ∧ bf1 b < 256 ∧ bf3 (bf2 (bf1 b)) = cnt (fun i => b.testBit i) 8 := by decide +kernel
theorem bf_d : ∀ b, b < 5 → ∀ e, e < 5 → ∀ c, c < 5 → (e * 16 + b + (e * 16 + b) / 16 + 16 * c) &&& 15 = bf3 (e * 16 + b) := by decide +kernel
theorem land8 {a d M m : Nat} (hd : d < 256) (hm : m < 256) : (256 * a + d) &&& (256 * M + m) = 256 * (a &&& M) + (d &&& m) := land_d (w := 8) hd hm
theorem and_le2 (a b : Nat) : a &&& b ≤ a := Nat.and_le_left
theorem bs1 {b a M : Nat} (hb : b < 256) : (256 * a + b) - ((256 * a + b) / 2 &&& (256 * M + 85)) = 256 * (a - (a / 2 &&& M)) + bf1 b := by
  have e : (256 * a + b) / 2 = 256 * (a / 2) + (b / 2 + 128 * (a % 2)) := by omega
  rw [e, land8 (by omega) (by decide), (bf_a b hb (a % 2) (by omega)).1]
  have h1 := (bf_a b hb 0 (by omega)).2
  have h2 := and_le2 (a / 2) M
  unfold bf1
  omega
theorem bs2 {b a M : Nat} (hb : b < 256) : ((256 * a + b) &&& (256 * M + 51)) + ((256 * a + b) / 4 &&& (256 * M + 51)) = 256 * ((a &&& M) + (a / 4 &&& M)) + bf2 b := by
  have e : (256 * a + b) / 4 = 256 * (a / 4) + (b / 4 + 64 * (a % 4)) := by omega
  rw [e, land8 hb (by decide), land8 (by omega) (by decide), bf_b b hb (a % 4) (by omega)]
  unfold bf2
  omega
theorem bs3 {b a M : Nat} (hb : b < 256) (h1 : bf2 (bf1 b) % 16 ≤ 4) (h2 : bf2 (bf1 b) / 16 ≤ 4) (ha : a % 16 ≤ 4) : ((256 * a + bf2 (bf1 b)) + (256 * a + bf2 (bf1 b)) / 16) &&& (256 * M + 15) = 256 * ((a + a / 16) &&& M) + bf3 (bf2 (bf1 b)) := by
  generalize hz : bf2 (bf1 b) = z at h1 h2 ⊢
  have e : 256 * a + z + (256 * a + z) / 16 = 256 * (a + a / 16) + (z + z / 16 + 16 * (a % 16)) := by omega
  have hlt : z + z / 16 + 16 * (a % 16) < 256 := by omega
  rw [e, land8 hlt (by decide)]
  have := bf_d (z % 16) (by omega) (z / 16) (by omega) (a % 16) (by omega)
  rw [show z / 16 * 16 + z % 16 = z by omega] at this
  rw [this]
/-- the whole, over the naturals -/
def bcN (x : Nat) : Nat :=
  let y := x - (x / 2 &&& 1431655765)
  let z := (y &&& 858993459) + (y / 4 &&& 858993459)
  let u := (z + z / 16) &&& 252645135
  let v := u + u / 256
  let w := v + v / 65536
  w &&& 63
theorem bcN_ok (x : Nat) (hx : x < 4294967296) : bcN x = cnt (fun i => x.testBit i) 32 := by
  obtain ⟨b0, b1, b2, b3, h0, h1, h2, h3, rfl⟩ : ∃ b0 b1 b2 b3 : Nat, b0 < 256 ∧ b1 < 256 ∧ b2 < 256 ∧ b3 < 256 ∧ x = 256 * (256 * (256 * (256 * 0 + b3) + b2) + b1) + b0 :=
    ⟨x % 256, x / 256 % 256, x / 65536 % 256, x / 16777216, by omega, by omega, by omega, by omega, by omega⟩
  have c0 := bf_c b0 h0
  have c1 := bf_c b1 h1
  have c2 := bf_c b2 h2
  have c3 := bf_c b3 h3
  have ey : (256 * (256 * (256 * (256 * 0 + b3) + b2) + b1) + b0) - ((256 * (256 * (256 * (256 * 0 + b3) + b2) + b1) + b0) / 2 &&& 1431655765) = 256 * (256 * (256 * (256 * 0 + bf1 b3) + bf1 b2) + bf1 b1) + bf1 b0 := by
    rw [show (1431655765 : Nat) = 256 * (256 * (256 * (256 * 0 + 85) + 85) + 85) + 85 from rfl, bs1 h0, bs1 h1, bs1 h2, bs1 h3]
    rfl
  have ez : ∀ q, q = 256 * (256 * (256 * (256 * 0 + bf1 b3) + bf1 b2) + bf1 b1) + bf1 b0 → (q &&& 858993459) + (q / 4 &&& 858993459) = 256 * (256 * (256 * (256 * 0 + bf2 (bf1 b3)) + bf2 (bf1 b2)) + bf2 (bf1 b1)) + bf2 (bf1 b0) := by
    intro q hq
    subst hq
    rw [show (858993459 : Nat) = 256 * (256 * (256 * (256 * 0 + 51) + 51) + 51) + 51 from rfl, bs2 c0.2.2.1, bs2 c1.2.2.1, bs2 c2.2.2.1, bs2 c3.2.2.1]
    rfl
  have eu : ∀ q, q = 256 * (256 * (256 * (256 * 0 + bf2 (bf1 b3)) + bf2 (bf1 b2)) + bf2 (bf1 b1)) + bf2 (bf1 b0) → (q + q / 16) &&& 252645135 = 256 * (256 * (256 * (256 * 0 + bf3 (bf2 (bf1 b3))) + bf3 (bf2 (bf1 b2))) + bf3 (bf2 (bf1 b1))) + bf3 (bf2 (bf1 b0)) := by
    intro q hq
    subst hq
    rw [show (252645135 : Nat) = 256 * (256 * (256 * (256 * 0 + 15) + 15) + 15) + 15 from rfl, bs3 h0 c0.1 c0.2.1 (by omega), bs3 h1 c1.1 c1.2.1 (by omega), bs3 h2 c2.1 c2.2.1 (by omega), bs3 h3 c3.1 c3.2.1 (by omega)]
    rfl
  unfold bcN
  simp only
  rw [eu _ (ez _ ey), c0.2.2.2, c1.2.2.2, c2.2.2.2, c3.2.2.2]
  have t0 := cnt_le (fun i => b0.testBit i) 8
  have t1 := cnt_le (fun i => b1.testBit i) 8
  have t2 := cnt_le (fun i => b2.testBit i) 8
  have t3 := cnt_le (fun i => b3.testBit i) 8
  have hs : cnt (fun i => (256 * (256 * (256 * (256 * 0 + b3) + b2) + b1) + b0).testBit i) 32 = cnt (fun i => b0.testBit i) 8 + cnt (fun i => b1.testBit i) 8 + cnt (fun i => b2.testBit i) 8 + cnt (fun i => b3.testBit i) 8 := by
    have key : ∀ (a b i : Nat), b < 256 → (256 * a + b).testBit i = if i < 8 then b.testBit i else a.testBit (i - 8) := fun a b i hb => Nat.testBit_two_pow_mul_add (i := 8) a hb i
    rw [show (32 : Nat) = 8 + (8 + (8 + 8)) from rfl, cnt_add, cnt_add, cnt_add]
    generalize hX : 256 * (256 * (256 * (256 * 0 + b3) + b2) + b1) + b0 = X
    have g0 : cnt (fun i => X.testBit i) 8 = cnt (fun i => b0.testBit i) 8 := cnt_congr (fun i hi => by show X.testBit i = b0.testBit i; rw [← hX, key _ _ _ h0, if_pos hi])
    have g1 : cnt (fun i => X.testBit (8 + i)) 8 = cnt (fun i => b1.testBit i) 8 := cnt_congr (fun i hi => by show X.testBit (8 + i) = b1.testBit i; rw [← hX, key _ _ _ h0, if_neg (by omega), key _ _ _ h1, if_pos (by omega), show 8 + i - 8 = i by omega])
    have g2 : cnt (fun i => X.testBit (8 + (8 + i))) 8 = cnt (fun i => b2.testBit i) 8 := cnt_congr (fun i hi => by show X.testBit (8 + (8 + i)) = b2.testBit i; rw [← hX, key _ _ _ h0, if_neg (by omega), key _ _ _ h1, if_neg (by omega), key _ _ _ h2, if_pos (by omega), show 8 + (8 + i) - 8 - 8 = i by omega])
    have g3 : cnt (fun i => X.testBit (8 + (8 + (8 + i)))) 8 = cnt (fun i => b3.testBit i) 8 := cnt_congr (fun i hi => by show X.testBit (8 + (8 + (8 + i))) = b3.testBit i; rw [← hX, key _ _ _ h0, if_neg (by omega), key _ _ _ h1, if_neg (by omega), key _ _ _ h2, if_neg (by omega), key _ _ _ h3, if_pos (by omega), show 8 + (8 + (8 + i)) - 8 - 8 - 8 = i by omega])
    rw [g0, g1, g2, g3]
    omega
  rw [hs]
  generalize cnt (fun i => b0.testBit i) 8 = p0 at *
  generalize cnt (fun i => b1.testBit i) 8 = p1 at *
  generalize cnt (fun i => b2.testBit i) 8 = p2 at *
  generalize cnt (fun i => b3.testBit i) 8 = p3 at *
  rw [show (63 : Nat) = 2 ^ 6 - 1 from rfl, Nat.and_two_pow_sub_one_eq_mod]
  clear ey ez eu hs c0 c1 c2 c3 hx h0 h1 h2 h3
  have e1 : (256 * (256 * (256 * (256 * 0 + p3) + p2) + p1) + p0) / 256 = 65536 * p3 + 256 * p2 + p1 := by omega
  rw [e1]
  have e2 : (256 * (256 * (256 * (256 * 0 + p3) + p2) + p1) + p0 + (65536 * p3 + 256 * p2 + p1)) / 65536 = 256 * p3 + (p3 + p2) := by omega
  rw [e2]
  omega
end
section
def ush (x : Int32) (k : Nat) : Int32 := (x.toUInt32 >>> ((nI k).toUInt32 &&& Int32.toUInt32 31)).toInt32
def bN (x : Int32) : Nat := x.toBitVec.toNat
theorem bN_lt (x : Int32) : bN x < 4294967296 := x.toBitVec.isLt
theorem bN_and (x y : Int32) : bN (x &&& y) = bN x &&& bN y := by unfold bN; rw [Int32.toBitVec_and, BitVec.toNat_and]
theorem bN_ush (x : Int32) {k : Nat} (hk : k < 32) : bN (ush x k) = bN x / 2 ^ k := pk_ushr x (nI k) k (s_u k hk)
theorem bN_add {x y : Int32} (h : bN x + bN y < 4294967296) : bN (x + y) = bN x + bN y := by
  unfold bN at *
  rw [Int32.toBitVec_add, BitVec.toNat_add]
  exact Nat.mod_eq_of_lt h
theorem bN_sub {x y : Int32} (h : bN y ≤ bN x) : bN (x - y) = bN x - bN y := by
  have h1 := bN_lt x
  unfold bN at *
  rw [Int32.toBitVec_sub, BitVec.toNat_sub]
  omega
theorem bN_inj {x y : Int32} (h : bN x = bN y) : x = y := Int32.toBitVec_inj.mp (BitVec.eq_of_toNat_eq h)
theorem bN_nI {k : Nat} (h : k < 4294967296) : bN (nI k) = k := pk_tn h
def bcI (x : Int32) : Int32 :=
  let y := x - (ush x 1 &&& 1431655765)
  let z := (y &&& 858993459) + (ush y 2 &&& 858993459)
  let u := (z + ush z 4) &&& 252645135
  let v := u + ush u 8
  let w := v + ush v 16
  w &&& nI 63
theorem bcI_ok (x : Int32) : bcI x = nI (popc x) := by
  apply bN_inj
  have hp : popc x ≤ 32 := cnt_le _ _
  rw [bN_nI (by omega)]
  have hx := bN_lt x
  have e : popc x = cnt (fun i => (bN x).testBit i) 32 := cnt_congr (fun i _ => by show x.toBitVec.getLsbD i = _; unfold bN; rw [BitVec.testBit_toNat])
  rw [e, ← bcN_ok _ hx]
  unfold bcI bcN
  simp only
  have a1 : bN (ush x 1 &&& 1431655765) = bN x / 2 &&& 1431655765 := by rw [bN_and, bN_ush x (by decide)]; rfl
  have l1 : bN x / 2 &&& 1431655765 ≤ bN x := Nat.le_trans Nat.and_le_left (by omega)
  generalize hy : x - (ush x 1 &&& 1431655765) = y
  have ey : bN y = bN x - (bN x / 2 &&& 1431655765) := by rw [← hy, bN_sub (by rw [a1]; exact l1), a1]
  rw [← ey]
  have a2 : bN (y &&& 858993459) = bN y &&& 858993459 := by rw [bN_and]; rfl
  have a3 : bN (ush y 2 &&& 858993459) = bN y / 4 &&& 858993459 := by rw [bN_and, bN_ush y (by decide)]; rfl
  have l2 : bN y &&& 858993459 ≤ 858993459 := Nat.and_le_right
  have l3 : bN y / 4 &&& 858993459 ≤ 858993459 := Nat.and_le_right
  generalize hz : (y &&& 858993459) + (ush y 2 &&& 858993459) = z
  have ez : bN z = (bN y &&& 858993459) + (bN y / 4 &&& 858993459) := by rw [← hz, bN_add (by rw [a2, a3]; omega), a2, a3]
  rw [← ez]
  have lz : bN z ≤ 1717986918 := by omega
  have a4 : bN (ush z 4) = bN z / 16 := by rw [bN_ush z (by decide)]
  have a5 : bN (z + ush z 4) = bN z + bN z / 16 := by rw [bN_add (by rw [a4]; omega), a4]
  generalize hu : (z + ush z 4) &&& 252645135 = u
  have eu : bN u = (bN z + bN z / 16) &&& 252645135 := by rw [← hu, bN_and, a5]; rfl
  rw [← eu]
  have lu : bN u ≤ 252645135 := by rw [eu]; exact Nat.and_le_right
  have a6 : bN (u + ush u 8) = bN u + bN u / 256 := by rw [bN_add (by rw [bN_ush u (by decide)]; omega), bN_ush u (by decide)]
  generalize hv : u + ush u 8 = v at a6 ⊢
  have a7 : bN (v + ush v 16) = bN v + bN v / 65536 := by rw [bN_add (by rw [bN_ush v (by decide)]; omega), bN_ush v (by decide)]
  rw [bN_and, a7, ← a6]
  rfl

set_option maxHeartbeats 4000000 in
set_option maxRecDepth 100000 in
theorem kI_bitCount (G : zG) (d : Nat) (hd : 0 ≤ d) {n : Nat} {sh : zSh} {row : zRw} {x : Int32} : zM G (fI_bitCount d) [.int x] n sh row (zP sh row (.int (nI (popc x)))) := by
  refine zM.of (by show plainName "java/lang/Integer" = true; decide +kernel) (Nat.le_of_ble_eq_true rfl) (by intro v hv; simp at hv; rcases hv with rfl <;> rfl) ?_
  intro K hE
  show zX G K (fI_bitCount d) n 0 0 sh row 0 [.int x] []
  refine zx_iload_n dI_bitCount_0 rfl ?_
  refine zx_iload_n dI_bitCount_1 rfl ?_
  refine zx_iconst (v := nI 1) dI_bitCount_2 (by decide) ?_
  refine zx_iushr dI_bitCount_3 rfl ?_
  refine zx_ldcw (v := 1431655765) dI_bitCount_4 (zA2 (i := 220) rfl rfl) ?_
  refine zx_iand dI_bitCount_7 ?_
  refine zx_isub dI_bitCount_8 ?_
  refine zx_istore_n dI_bitCount_9 (Nat.le_of_ble_eq_true rfl) rfl rfl ?_
  refine zx_iload_n dI_bitCount_10 rfl ?_
  refine zx_ldcw (v := 858993459) dI_bitCount_11 (zA2 (i := 221) rfl rfl) ?_
  refine zx_iand dI_bitCount_14 ?_
  refine zx_iload_n dI_bitCount_15 rfl ?_
  refine zx_iconst (v := nI 2) dI_bitCount_16 (by decide) ?_
  refine zx_iushr dI_bitCount_17 rfl ?_
  refine zx_ldcw (v := 858993459) dI_bitCount_18 (zA2 (i := 221) rfl rfl) ?_
  refine zx_iand dI_bitCount_21 ?_
  refine zx_iadd dI_bitCount_22 ?_
  refine zx_istore_n dI_bitCount_23 (Nat.le_of_ble_eq_true rfl) rfl rfl ?_
  refine zx_iload_n dI_bitCount_24 rfl ?_
  refine zx_iload_n dI_bitCount_25 rfl ?_
  refine zx_iconst (v := nI 4) dI_bitCount_26 (by decide) ?_
  refine zx_iushr dI_bitCount_27 rfl ?_
  refine zx_iadd dI_bitCount_28 ?_
  refine zx_ldcw (v := 252645135) dI_bitCount_29 (zA2 (i := 222) rfl rfl) ?_
  refine zx_iand dI_bitCount_32 ?_
  refine zx_istore_n dI_bitCount_33 (Nat.le_of_ble_eq_true rfl) rfl rfl ?_
  refine zx_iload_n dI_bitCount_34 rfl ?_
  refine zx_iload_n dI_bitCount_35 rfl ?_
  refine zx_bipush (v := nI 8) dI_bitCount_36 (by decide) ?_
  refine zx_iushr dI_bitCount_38 rfl ?_
  refine zx_iadd dI_bitCount_39 ?_
  refine zx_istore_n dI_bitCount_40 (Nat.le_of_ble_eq_true rfl) rfl rfl ?_
  refine zx_iload_n dI_bitCount_41 rfl ?_
  refine zx_iload_n dI_bitCount_42 rfl ?_
  refine zx_bipush (v := nI 16) dI_bitCount_43 (by decide) ?_
  refine zx_iushr dI_bitCount_45 rfl ?_
  refine zx_iadd dI_bitCount_46 ?_
  refine zx_istore_n dI_bitCount_47 (Nat.le_of_ble_eq_true rfl) rfl rfl ?_
  refine zx_iload_n dI_bitCount_48 rfl ?_
  refine zx_bipush (v := nI 63) dI_bitCount_49 (by decide) ?_
  refine zx_iand dI_bitCount_51 ?_
  exact zx_iret hE rfl dI_bitCount_52 rfl (Nat.le_of_ble_eq_true rfl) ⟨by rw [← bcI_ok]; rfl, rfl, rfl⟩
end
section
def frI (lo hi : Nat) (row row' : zRw) : Prop := ∀ b, ¬ (lo ≤ b ∧ b ≤ hi) → row' b = row b
theorem frI.rf {lo hi : Nat} {row : zRw} : frI lo hi row row := fun _ _ => rfl
theorem frI.tr {lo hi : Nat} {r1 r2 r3 : zRw} (h : frI lo hi r1 r2) (g : frI lo hi r2 r3) : frI lo hi r1 r3 := fun b hb => (g b hb).trans (h b hb)
theorem frI.wide {lo hi l2 h2 : Nat} {r1 r2 : zRw} (h : frI lo hi r1 r2) (a : l2 ≤ lo) (b : hi ≤ h2) : frI l2 h2 r1 r2 := fun c hc => h c (by omega)
theorem frI_up {lo hi a k : Nat} {v : Value} {row : zRw} (h1 : lo ≤ a) (h2 : a ≤ hi) : frI lo hi row (zup row a k v) := fun b hb => zup_ne (fun e => hb (by omega))
theorem fr2.I {t : Nat} {r1 r2 : zRw} (h : fr2 t r1 r2) : frI t (t + 1) r1 r2 := fun b hb => h b (by omega) (by omega)
theorem frI.f2 {t : Nat} {r1 r2 : zRw} (h : frI t (t + 1) r1 r2) : fr2 t r1 r2 := fun b h1 h2 => h b (by omega)
theorem Txt.keepI {sh : zSh} {row row' : zRw} {t lo hi : Nat} {xs : List Nat} (h : Txt sh row t xs) (hf : frI lo hi row row') (hn : t + 1 < lo ∨ hi < t) : Txt sh row' t xs := h.keep (hf t (by omega)) (hf (t + 1) (by omega))
/-- the first place of a term among the terms, or their number -/
def fT : List (List Nat × Int32) → List Nat → Nat
  | [], _ => 0
  | p :: ts, w => if p.1 = w then 0 else fT ts w + 1
theorem fT_le (ts : List (List Nat × Int32)) (w : List Nat) : fT ts w ≤ ts.length := by
  induction ts with
  | nil => exact Nat.le_refl _
  | cons p ts ih => unfold fT; split <;> simp only [List.length_cons] <;> omega
theorem fT_hit {ts : List (List Nat × Int32)} {w : List Nat} {i : Nat} {p : List Nat × Int32} (h : ∀ j, j < i → ∀ p, ts[j]? = some p → p.1 ≠ w) (hi : ts[i]? = some p) (hp : p.1 = w) : fT ts w = i := by
  induction ts generalizing i with
  | nil => cases hi
  | cons q ts ih =>
    unfold fT
    cases i with
    | zero => cases hi; rw [if_pos hp]
    | succ i => rw [if_neg (h 0 (by omega) q rfl), ih (fun j hj p hp => h (j + 1) (by omega) p hp) hi]
theorem fT_miss {ts : List (List Nat × Int32)} {w : List Nat} (h : ∀ j, j < ts.length → ∀ p, ts[j]? = some p → p.1 ≠ w) : fT ts w = ts.length := by
  induction ts with
  | nil => rfl
  | cons q ts ih =>
    unfold fT
    rw [if_neg (h 0 (by simp) q rfl), ih (fun j hj p hp => h (j + 1) (by simp; omega) p hp)]
    rfl
theorem fT_get {ts : List (List Nat × Int32)} {w : List Nat} (h : fT ts w < ts.length) : ∃ b, ts[fT ts w]? = some (w, b) := by
  induction ts with
  | nil => cases h
  | cons q ts ih =>
    unfold fT at h ⊢
    by_cases hq : q.1 = w
    · rw [if_pos hq]; exact ⟨q.2, by rw [← hq]; rfl⟩
    · rw [if_neg hq] at h ⊢
      exact ih (by simpa using h)
def bitI (k : Nat) : Int32 := nI 1 <<< (nI k &&& 31)
def bAt (ts : List (List Nat × Int32)) (i : Nat) : Int32 := (ts[i]?.map Prod.snd).getD 0
def addP (ts : List (List Nat × Int32)) (w : List Nat) (k : Nat) : List (List Nat × Int32) := if fT ts w < ts.length then ts.set (fT ts w) (w, bAt ts (fT ts w) ||| bitI k) else ts ++ [(w, bitI k)]
def plc (ts : List (List Nat × Int32)) (w : List Nat) (slot : Nat) : Int32 := if fT ts w < ts.length then ush (bAt ts (fT ts w)) (8 * slot) &&& nI 255 else nI 0
def SegA (sh : zSh) (row : zRw) (s : Nat) (ts : List (List Nat × Int32)) (rw : Nat) (pk : Bool) : Prop :=
  (sh s = some (0, 4, 5) ∧ sh (s + 1) = some (1, 0, 48) ∧ sh (s + 2) = some (2, 3, 48)) ∧
  (row s 0 = .ref (s + 2) ∧ row s 1 = .ref (s + 1) ∧ row s 2 = .int (nI ts.length) ∧ row s 3 = .int (nI rw) ∧ row s 4 = .int (bI pk)) ∧
  (ts.length ≤ 48 ∧ rw ≤ 48) ∧
  (∀ i, i < 48 → row (s + 2) i = .ref (s + 3 + 2 * i)) ∧
  (∀ i, i < 48 → ∃ xs, Txt sh row (s + 3 + 2 * i) xs ∧ ∀ p, ts[i]? = some p → p.1 = xs) ∧
  (∀ i, i < 48 → row (s + 1) i = .int (bAt ts i))
theorem SegA.keep {sh : zSh} {row row' : zRw} {s lo hi rw : Nat} {ts : List (List Nat × Int32)} {pk : Bool} (h : SegA sh row s ts rw pk) (hf : frI lo hi row row') (hn : s + 98 < lo ∨ hi < s) : SegA sh row' s ts rw pk := by
  obtain ⟨h1, h2, h3, h4, h5, h6⟩ := h
  have e0 : row' s = row s := hf s (by omega)
  have e1 : row' (s + 1) = row (s + 1) := hf _ (by omega)
  have e2 : row' (s + 2) = row (s + 2) := hf _ (by omega)
  refine ⟨h1, by rw [e0]; exact h2, h3, by rw [e2]; exact h4, fun i hi => ?_, by rw [e1]; exact h6⟩
  obtain ⟨xs, a, b⟩ := h5 i hi
  exact ⟨xs, a.keepI hf (by omega), b⟩
theorem bAt_set {ts : List (List Nat × Int32)} {i j : Nat} {p : List Nat × Int32} (h : i < ts.length) : bAt (ts.set i p) j = if j = i then p.2 else bAt ts j := by
  unfold bAt
  rw [List.getElem?_set]
  by_cases hj : i = j
  · subst hj; rw [if_pos rfl, if_pos h, if_pos rfl]; rfl
  · rw [if_neg hj, if_neg (fun e => hj e.symm)]
theorem SegA.set {sh : zSh} {row : zRw} {s rw k : Nat} {ts : List (List Nat × Int32)} {pk : Bool} {w : List Nat} (h : SegA sh row s ts rw pk) (hf : fT ts w < ts.length) : SegA sh (zup row (s + 1) (fT ts w) (.int (bAt ts (fT ts w) ||| bitI k))) s (addP ts w k) rw pk := by
  obtain ⟨h1, h2, h3, h4, h5, h6⟩ := h
  unfold addP
  rw [if_pos hf]
  obtain ⟨b, hb⟩ := fT_get hf
  refine ⟨h1, by rw [zup_ne (by omega), List.length_set]; exact h2, by rw [List.length_set]; exact h3, by rw [zup_ne (by omega)]; exact h4, fun i hi => ?_, fun i hi => ?_⟩
  · obtain ⟨xs, a, c⟩ := h5 i hi
    refine ⟨xs, a.keep (zup_ne (by omega)) (zup_ne (by omega)), fun p hp => ?_⟩
    rw [List.getElem?_set] at hp
    by_cases hj : fT ts w = i
    · rw [if_pos hj, if_pos hf] at hp
      cases hp
      rw [← hj] at c
      exact (c (w, b) hb : w = xs)
    · rw [if_neg hj] at hp
      exact c p hp
  · rw [bAt_set hf]
    by_cases hj : i = fT ts w
    · rw [if_pos hj, hj, zup_same]
    · rw [if_neg hj, zup_k (Or.inr hj)]
      exact h6 i hi
theorem SegA.add {sh : zSh} {row r3 : zRw} {s rw k : Nat} {ts : List (List Nat × Int32)} {pk : Bool} {w : List Nat} (h : SegA sh row s ts rw pk) (hf : fT ts w = ts.length) (hl : ts.length < 48) (hr : fr2 (s + 3 + 2 * ts.length) row r3) (hT : Txt sh r3 (s + 3 + 2 * ts.length) w) : SegA sh (zup (zup r3 s 2 (.int (nI (ts.length + 1)))) (s + 1) (fT ts w) (.int (nI 0 ||| bitI k))) s (addP ts w k) rw pk := by
  have hk := h
  obtain ⟨h1, h2, h3, h4, h5, h6⟩ := h
  unfold addP
  rw [if_neg (by omega), hf]
  have e0 : r3 s = row s := hr s (by omega) (by omega)
  have e1 : r3 (s + 1) = row (s + 1) := hr _ (by omega) (by omega)
  have e2 : r3 (s + 2) = row (s + 2) := hr _ (by omega) (by omega)
  have hlen : (ts ++ [(w, bitI k)]).length = ts.length + 1 := by simp
  refine ⟨h1, ?_, by rw [hlen]; omega, ?_, fun i hi => ?_, fun i hi => ?_⟩
  · rw [zup_ne (by omega), hlen]
    refine ⟨?_, ?_, zup_same _ _ _, ?_, ?_⟩
    · rw [zup_k (Or.inr (by decide)), e0]; exact h2.1
    · rw [zup_k (Or.inr (by decide)), e0]; exact h2.2.1
    · rw [zup_k (Or.inr (by decide)), e0]; exact h2.2.2.2.1
    · rw [zup_k (Or.inr (by decide)), e0]; exact h2.2.2.2.2
  · rw [zup_ne (by omega), zup_ne (by omega), e2]; exact h4
  · by_cases hj : i = ts.length
    · subst hj
      refine ⟨w, hT.keep (by rw [zup_ne (by omega), zup_ne (by omega)]) (by rw [zup_ne (by omega), zup_ne (by omega)]), fun p hp => ?_⟩
      rw [List.getElem?_append_right (Nat.le_refl _), Nat.sub_self] at hp
      cases hp
      rfl
    · obtain ⟨xs, a, c⟩ := h5 i hi
      refine ⟨xs, (a.keep (hr _ (by omega) (by omega)) (hr _ (by omega) (by omega))).keep (by rw [zup_ne (by omega), zup_ne (by omega)]) (by rw [zup_ne (by omega), zup_ne (by omega)]), fun p hp => ?_⟩
      by_cases hl2 : i < ts.length
      · rw [List.getElem?_append_left hl2] at hp
        exact c p hp
      · rw [List.getElem?_eq_none (by rw [hlen]; omega)] at hp
        cases hp
  · by_cases hj : i = ts.length
    · subst hj
      rw [zup_same]
      unfold bAt
      rw [List.getElem?_append_right (Nat.le_refl _), Nat.sub_self]
      congr 1
      exact b_ext (fun j _ => by rw [b_or]; show (bt (nI 0) j || bt (bitI k) j) = _; rw [show bt (nI 0) j = false from b_0 j, Bool.false_or]; rfl)
    · rw [zup_k (Or.inr hj), zup_ne (by omega), e1, h6 i hi]
      unfold bAt
      by_cases hl2 : i < ts.length
      · rw [List.getElem?_append_left hl2]
      · rw [List.getElem?_eq_none (by omega), List.getElem?_eq_none (by rw [hlen]; omega)]
/-- a sum over the terms; the pieces of a term; the cells of its slices -/
def sumT (f : Int32 → Nat) : List (List Nat × Int32) → Nat
  | [] => 0
  | p :: ts => f p.2 + sumT f ts
theorem sumT_take (f : Int32 → Nat) {ts : List (List Nat × Int32)} {i : Nat} (h : i < ts.length) : sumT f (ts.take (i + 1)) = sumT f (ts.take i) + f (bAt ts i) := by
  induction ts generalizing i with
  | nil => cases h
  | cons p ts ih =>
    cases i with
    | zero => simp [sumT, bAt]
    | succ i =>
      have := ih (i := i) (by simpa using h)
      simp only [List.take_succ_cons, sumT, this]
      have e : bAt (p :: ts) (i + 1) = bAt ts i := rfl
      rw [e]; omega
theorem sumT_bd (f : Int32 → Nat) {c : Nat} (hf : ∀ b, f b ≤ c) (ts : List (List Nat × Int32)) : sumT f ts ≤ ts.length * c := by
  induction ts with
  | nil => exact Nat.zero_le _
  | cons p ts ih =>
    have := hf p.2
    show f p.2 + sumT f ts ≤ (ts.length + 1) * c
    rw [Nat.add_mul]; omega
def cost (d : Nat) : Nat := if d < 4 then 1 else if d < 16 then 2 else 3
def pcs (f : Nat → Bool) : Nat → Nat → Nat
  | 0, _ => 0
  | m + 1, b => if f m = true then cost (b - m) + pcs f m m else pcs f m b
theorem pcs_le (f : Nat → Bool) (m b : Nat) : pcs f m b ≤ 3 * m := by
  induction m generalizing b with
  | zero => exact Nat.le_refl _
  | succ m ih =>
    unfold pcs
    have h1 := ih m
    have h2 := ih b
    have h3 : cost (b - m) ≤ 3 := by unfold cost; split; omega; split <;> omega
    split <;> omega
def slc (n : Nat) : Nat := if n ≤ 2 then 2 else 6 + 8 * ((n + 1) / 7)
def cellsOf (pk : Bool) (b : Int32) : Nat := if pk = true then pcs (bt b) 32 32 else slc (popc b)
def dI (m : Nat) : Int32 := nI m + Int32.ofInt (-1)
theorem dI_s (m : Nat) : dI (m + 1) = nI m := by unfold dI; rw [show Int32.ofInt (-1) = -1 by decide]; exact pk_m1 m
theorem nI1_bits : ∀ i, i < 32 → bt (nI 1) i = decide (i = 0) := by decide +kernel
theorem ush1 {x : Int32} {m : Nat} (hm : m < 32) : (ush x m &&& nI 1 = nI 1) ↔ bt x m = true := by
  constructor
  · intro h
    have h1 : bt (ush x m &&& nI 1) 0 = bt (nI 1) 0 := by rw [h]
    rw [b_and, nI1_bits 0 (by omega)] at h1
    have h2 : bt (ush x m) 0 = bt x (m + 0) := b_ushr m hm x 0
    rw [h2] at h1
    simpa using h1
  · intro h
    refine b_ext (fun i hi => ?_)
    rw [b_and, nI1_bits i hi]
    have h2 : bt (ush x m) i = bt x (m + i) := b_ushr m hm x i
    rw [h2]
    by_cases h0 : i = 0
    · subst h0; simp [h]
    · simp [h0]

set_option maxHeartbeats 4000000 in
set_option maxRecDepth 100000 in
theorem kS_findTerm (G : zG) (d : Nat) (hd : 1 ≤ d) {n : Nat} {sh : zSh} {row : zRw} {s rw : Nat} {ts : List (List Nat × Int32)} {pk : Bool} (hS : SegA sh row s ts rw pk) {o : Nat} {ws : List Nat} (hO : Txt sh row o ws) : zM G (fS_findTerm d) [.ref s, .ref o] n sh row (zP sh row (.int (nI (fT ts ws)))) := by
  refine zM.of (by show plainName "PostIndex$Segment" = true; decide +kernel) (Nat.le_of_ble_eq_true rfl) (by intro v hv; simp at hv; rcases hv with rfl | rfl <;> rfl) ?_
  intro K hE
  show zX G K (fS_findTerm d) n 0 0 sh row 0 [.ref s, .ref o, .retAddr 0] []
  have hD : d - 1 + 1 ≤ d := by omega
  obtain ⟨⟨hs1, hs2, hs3⟩, ⟨hp0, hp1, hp2, hp3, hp4⟩, ⟨hl1, hl2⟩, hrf, htx, hbt⟩ := id hS
  have loop : ∀ (k : Nat) (i : Nat), ts.length - i < k → i ≤ ts.length → (∀ j, j < i → ∀ p, ts[j]? = some p → p.1 ≠ ws) → zX G K (fS_findTerm d) n 0 0 sh row 2 [.ref s, .ref o, .int (nI i)] [] := by
    intro k
    induction k with
    | zero => intro i hk; exact absurd hk (Nat.not_lt_zero _)
    | succ k ih =>
      intro i hk h3 h4
      refine zx_iload_n dS_findTerm_2 rfl ?_
      refine zx_aload_n dS_findTerm_3 rfl ?_
      refine zx_get dS_findTerm_4 flS_26 (by assumption) (by assumption) ?_
      refine zn_icmp_ge (tgt := 31) dS_findTerm_7 rfl (by omega) (by omega) (fun h7 => ?_) (fun h7 => ?_)
      · refine zx_aload_n dS_findTerm_31 rfl ?_
        refine zx_get dS_findTerm_32 flS_26 (by assumption) (by assumption) ?_
        exact zx_iret hE rfl dS_findTerm_35 rfl (Nat.le_of_ble_eq_true rfl) ⟨by first | rw [fT_hit h4 hq (hq1.trans (of_decide_eq_true h20))] | rw [fT_miss (fun j hj => h4 j (by omega))], rfl, rfl⟩
      · refine zx_aload_n dS_findTerm_10 rfl ?_
        refine zx_get dS_findTerm_11 flS_17 (by assumption) (by assumption) ?_
        refine zx_iload_n dS_findTerm_14 rfl ?_
        obtain ⟨xs, hx, hx2⟩ := htx i (by omega)
        obtain ⟨q, hq⟩ : ∃ q, ts[i]? = some q := ⟨_, List.getElem?_eq_getElem (by omega)⟩
        have hq1 := hx2 q hq
        refine zn_aald dS_findTerm_15 hs3 rfl (by omega) (by decide) (hrf i (by omega)) ?_
        refine zx_aload_n dS_findTerm_16 rfl ?_
        refine zc_V (kT_isSame G (d - 1) (by omega) hx hO) (meT_isSame _) lkS_37 hx.1 rfl rfl hD (Nat.le_of_ble_eq_true rfl) rfl rfl (Nat.le_of_ble_eq_true rfl) (Nat.le_of_ble_eq_true rfl) (Nat.le_of_ble_eq_true rfl) dS_findTerm_17 ?_
        refine zb_if_eq (tgt := 25) dS_findTerm_20 rfl (fun h20 => ?_) (fun h20 => ?_)
        · refine zn_iinc (c := 1) dS_findTerm_25 (Nat.le_of_ble_eq_true rfl) rfl rfl ?_
          refine zx_goto (tgt := 2) dS_findTerm_28 rfl ?_
          refine ih (i + 1) (by omega) (by omega) (fun j hj p hp => ?_)
          by_cases hji : j = i
          · rw [hji, hq] at hp
            cases hp
            rw [hq1]
            exact of_decide_eq_false h20
          · exact h4 j (by omega) p hp
        · refine zx_iload_n dS_findTerm_23 rfl ?_
          exact zx_iret hE rfl dS_findTerm_24 rfl (Nat.le_of_ble_eq_true rfl) ⟨by first | rw [fT_hit h4 hq (hq1.trans (of_decide_eq_true h20))] | rw [fT_miss (fun j hj => h4 j (by omega))], rfl, rfl⟩
  refine zx_iconst (v := nI 0) dS_findTerm_0 (by decide) ?_
  refine zx_istore_n dS_findTerm_1 (Nat.le_of_ble_eq_true rfl) rfl rfl ?_
  exact loop _ 0 (Nat.lt_succ_self _) (Nat.zero_le _) (fun j hj => absurd hj (Nat.not_lt_zero _))

set_option maxHeartbeats 4000000 in
set_option maxRecDepth 100000 in
theorem kS_placesOf (G : zG) (d : Nat) (hd : 2 ≤ d) {n : Nat} {sh : zSh} {row : zRw} {s rw : Nat} {ts : List (List Nat × Int32)} {pk : Bool} (hS : SegA sh row s ts rw pk) {o slot : Nat} {ws : List Nat} (hO : Txt sh row o ws) (hsl : slot < 4) : zM G (fS_placesOf d) [.ref s, .ref o, .int (nI slot)] n sh row (zP sh row (.int (plc ts ws slot))) := by
  refine zM.of (by show plainName "PostIndex$Segment" = true; decide +kernel) (Nat.le_of_ble_eq_true rfl) (by intro v hv; simp at hv; rcases hv with rfl | rfl | rfl <;> rfl) ?_
  intro K hE
  show zX G K (fS_placesOf d) n 0 0 sh row 0 [.ref s, .ref o, .int (nI slot), .retAddr 0] []
  have hD : d - 1 + 1 ≤ d := by omega
  obtain ⟨⟨hs1, hs2, hs3⟩, ⟨hp0, hp1, hp2, hp3, hp4⟩, ⟨hl1, hl2⟩, hrf, htx, hbt⟩ := id hS
  refine zx_aload_n dS_placesOf_0 rfl ?_
  refine zx_aload_n dS_placesOf_1 rfl ?_
  refine zc_V (kS_findTerm G (d - 1) (by omega) hS hO) (meS_findTerm _) lkS_22 hs1 rfl rfl hD (Nat.le_of_ble_eq_true rfl) rfl rfl (Nat.le_of_ble_eq_true rfl) (Nat.le_of_ble_eq_true rfl) (Nat.le_of_ble_eq_true rfl) dS_placesOf_2 ?_
  have hfl := fT_le ts ws
  refine zx_istore_n dS_placesOf_5 (Nat.le_of_ble_eq_true rfl) rfl rfl ?_
  refine zx_iload_n dS_placesOf_6 rfl ?_
  refine zx_aload_n dS_placesOf_7 rfl ?_
  refine zx_get dS_placesOf_8 flS_26 (by assumption) (by assumption) ?_
  refine zn_icmp_ge (tgt := 32) dS_placesOf_11 rfl (by omega) (by omega) (fun h11 => ?_) (fun h11 => ?_)
  · refine zx_iconst (v := nI 0) dS_placesOf_32 (by decide) ?_
    exact zx_iret hE rfl dS_placesOf_33 rfl (Nat.le_of_ble_eq_true rfl) ⟨by unfold plc; first | (rw [if_pos (by omega)]; rfl) | rw [if_neg (by omega)], rfl, rfl⟩
  · refine zx_aload_n dS_placesOf_14 rfl ?_
    refine zx_get dS_placesOf_15 flS_9 (by assumption) (by assumption) ?_
    refine zx_iload_n dS_placesOf_18 rfl ?_
    refine zn_iald dS_placesOf_19 hs2 rfl (by omega) (by decide) (hbt _ (by omega)) ?_
    refine zx_bipush (v := nI 8) dS_placesOf_20 (by decide) ?_
    refine zx_iload_n dS_placesOf_22 rfl ?_
    refine zn_imul dS_placesOf_23 ?_
    refine zx_iushr dS_placesOf_24 rfl ?_
    refine zx_sipush (v := nI 255) dS_placesOf_25 (by decide) ?_
    refine zx_iand dS_placesOf_28 ?_
    refine zx_goto (tgt := 33) dS_placesOf_29 rfl ?_
    exact zx_iret hE rfl dS_placesOf_33 rfl (Nat.le_of_ble_eq_true rfl) ⟨by unfold plc; first | (rw [if_pos (by omega)]; rfl) | rw [if_neg (by omega)], rfl, rfl⟩

set_option maxHeartbeats 4000000 in
set_option maxRecDepth 100000 in
theorem kS_rewriteUnit (G : zG) (d : Nat) (hd : 0 ≤ d) {n : Nat} {sh : zSh} {row : zRw} {s rw : Nat} {ts : List (List Nat × Int32)} {pk : Bool} (hS : SegA sh row s ts rw pk) : zM G (fS_rewriteUnit d) [.ref s] n sh row (zpV sh (fun row' => frI s s row row' ∧ SegA sh row' s ts (if rw < ts.length then rw + 1 else rw) (if rw < ts.length then pk else true))) := by
  refine zM.of (by show plainName "PostIndex$Segment" = true; decide +kernel) (Nat.le_of_ble_eq_true rfl) (by intro v hv; simp at hv; rcases hv with rfl <;> rfl) ?_
  intro K hE
  show zX G K (fS_rewriteUnit d) n 0 0 sh row 0 [.ref s] []
  obtain ⟨⟨hs1, hs2, hs3⟩, ⟨hp0, hp1, hp2, hp3, hp4⟩, ⟨hl1, hl2⟩, hrf, htx, hbt⟩ := id hS
  refine zx_aload_n dS_rewriteUnit_0 rfl ?_
  refine zx_get dS_rewriteUnit_1 flS_41 (by assumption) (by assumption) ?_
  refine zx_aload_n dS_rewriteUnit_4 rfl ?_
  refine zx_get dS_rewriteUnit_5 flS_26 (by assumption) (by assumption) ?_
  refine zn_icmp_ge (tgt := 24) dS_rewriteUnit_8 rfl (by omega) (by omega) (fun h8 => ?_) (fun h8 => ?_)
  · refine zx_aload_n dS_rewriteUnit_24 rfl ?_
    refine zx_iconst (v := nI 1) dS_rewriteUnit_25 (by decide) ?_
    refine zx_put dS_rewriteUnit_26 flS_44 tpS_4 (by assumption) rfl rfl ?_
    exact zx_vret hE rfl dS_rewriteUnit_29 rfl (Nat.le_of_ble_eq_true rfl) (by refine ⟨rfl, rfl, frI_up (Nat.le_refl _) (Nat.le_refl _), ?_⟩; (first | rw [if_pos (by omega), if_pos (by omega)] | rw [if_neg (by omega), if_neg (by omega)]); refine ⟨⟨hs1, hs2, hs3⟩, ⟨?_, ?_, ?_, ?_, ?_⟩, ⟨hl1, by omega⟩, fun i hi => by rw [zup_ne (by omega)]; exact hrf i hi, fun i hi => ?_, fun i hi => by rw [zup_ne (by omega)]; exact hbt i hi⟩ <;> first | exact (zup_same _ _ _).trans rfl | (rw [zup_k (Or.inr (by decide))]; assumption) | (obtain ⟨xs, a, c⟩ := htx i hi; exact ⟨xs, a.keep (zup_ne (by omega)) (zup_ne (by omega)), c⟩))
  · refine zx_aload_n dS_rewriteUnit_11 rfl ?_
    refine zx_dup dS_rewriteUnit_12 rfl ?_
    refine zx_get dS_rewriteUnit_13 flS_41 (by assumption) (by assumption) ?_
    refine zx_iconst (v := nI 1) dS_rewriteUnit_16 (by decide) ?_
    refine zn_iadd dS_rewriteUnit_17 ?_
    refine zx_put dS_rewriteUnit_18 flS_41 tpS_3 (by assumption) rfl rfl ?_
    refine zx_goto (tgt := 29) dS_rewriteUnit_21 rfl ?_
    exact zx_vret hE rfl dS_rewriteUnit_29 rfl (Nat.le_of_ble_eq_true rfl) (by refine ⟨rfl, rfl, frI_up (Nat.le_refl _) (Nat.le_refl _), ?_⟩; (first | rw [if_pos (by omega), if_pos (by omega)] | rw [if_neg (by omega), if_neg (by omega)]); refine ⟨⟨hs1, hs2, hs3⟩, ⟨?_, ?_, ?_, ?_, ?_⟩, ⟨hl1, by omega⟩, fun i hi => by rw [zup_ne (by omega)]; exact hrf i hi, fun i hi => ?_, fun i hi => by rw [zup_ne (by omega)]; exact hbt i hi⟩ <;> first | exact (zup_same _ _ _).trans rfl | (rw [zup_k (Or.inr (by decide))]; assumption) | (obtain ⟨xs, a, c⟩ := htx i hi; exact ⟨xs, a.keep (zup_ne (by omega)) (zup_ne (by omega)), c⟩))
end
section
set_option maxHeartbeats 4000000 in
set_option maxRecDepth 100000 in
theorem kS_addPosting (G : zG) (d : Nat) (hd : 3 ≤ d) {n : Nat} {sh : zSh} {row : zRw} {s rw : Nat} {ts : List (List Nat × Int32)} {pk : Bool} (hS : SegA sh row s ts rw pk) {o slot pl : Nat} {ws : List Nat} (hO : Txt sh row o ws) (ho : o + 1 < s ∨ s + 98 < o) (hw : ws.map fold1 = ws) (hsl : slot < 4) (hpl : pl < 8) (hf : fT ts ws < 48) : zM G (fS_addPosting d) [.ref s, .ref o, .int (nI slot), .int (nI pl)] n sh row (zpV sh (fun row' => frI s (s + 98) row row' ∧ SegA sh row' s (addP ts ws (8 * slot + pl)) rw pk)) := by
  refine zM.of (by show plainName "PostIndex$Segment" = true; decide +kernel) (Nat.le_of_ble_eq_true rfl) (by intro v hv; simp at hv; rcases hv with rfl | rfl | rfl | rfl <;> rfl) ?_
  intro K hE
  show zX G K (fS_addPosting d) n 0 0 sh row 0 [.ref s, .ref o, .int (nI slot), .int (nI pl), .retAddr 0] []
  have hD : d - 1 + 1 ≤ d := by omega
  obtain ⟨⟨hs1, hs2, hs3⟩, ⟨hp0, hp1, hp2, hp3, hp4⟩, ⟨hl1, hl2⟩, hrf, htx, hbt⟩ := id hS
  refine zx_aload_n dS_addPosting_0 rfl ?_
  refine zx_aload_n dS_addPosting_1 rfl ?_
  refine zc_V (kS_findTerm G (d - 1) (by omega) hS hO) (meS_findTerm _) lkS_22 hs1 rfl rfl hD (Nat.le_of_ble_eq_true rfl) rfl rfl (Nat.le_of_ble_eq_true rfl) (Nat.le_of_ble_eq_true rfl) (Nat.le_of_ble_eq_true rfl) dS_addPosting_2 ?_
  have hfl := fT_le ts ws
  refine zx_istore dS_addPosting_5 (Nat.le_of_ble_eq_true rfl) rfl rfl ?_
  refine zx_iload dS_addPosting_7 rfl ?_
  refine zx_bipush (v := nI 48) dS_addPosting_9 (by decide) ?_
  refine zn_icmp_lt (tgt := 15) dS_addPosting_11 rfl (by omega) (by omega) (fun h11 => ?_) (fun h11 => ?_)
  · refine zx_iload dS_addPosting_15 rfl ?_
    refine zx_aload_n dS_addPosting_17 rfl ?_
    refine zx_get dS_addPosting_18 flS_26 (by assumption) (by assumption) ?_
    refine zn_icmp_ne (tgt := 50) dS_addPosting_21 rfl (by omega) (by omega) (fun h21 => ?_) (fun h21 => ?_)
    · refine zx_aload_n dS_addPosting_50 rfl ?_
      refine zx_get dS_addPosting_51 flS_9 (by assumption) (by assumption) ?_
      refine zx_iload dS_addPosting_54 rfl ?_
      refine zx_dup2 dS_addPosting_56 rfl rfl ?_
      refine zn_iald dS_addPosting_57 hs2 rfl (by omega) (by decide) (by first | exact hbt' | exact hbt _ (by omega)) ?_
      refine zx_iconst (v := nI 1) dS_addPosting_58 (by decide) ?_
      refine zx_bipush (v := nI 8) dS_addPosting_59 (by decide) ?_
      refine zx_iload_n dS_addPosting_61 rfl ?_
      refine zn_imul dS_addPosting_62 ?_
      refine zx_iload_n dS_addPosting_63 rfl ?_
      refine zn_iadd dS_addPosting_64 ?_
      refine zx_ishl dS_addPosting_65 ?_
      refine zx_ior dS_addPosting_66 ?_
      refine zn_iast dS_addPosting_67 hs2 rfl (by omega) (by decide) ?_
      exact zx_vret hE rfl dS_addPosting_68 rfl (Nat.le_of_ble_eq_true rfl) (by first | exact ⟨rfl, rfl, frI_up (by omega) (by omega), hS.set (by omega)⟩ | exact ⟨rfl, rfl, (((fr2.I h8).wide (by omega) (by omega)).tr (frI_up (by omega) (by omega))).tr (frI_up (by omega) (by omega)), hS.add hfe (by omega) (by rw [← hfe]; exact h8) (by rw [← hfe]; exact h9)⟩)
    · refine zx_aload_n dS_addPosting_24 rfl ?_
      refine zx_get dS_addPosting_25 flS_17 (by assumption) (by assumption) ?_
      refine zx_iload dS_addPosting_28 rfl ?_
      obtain ⟨xs, hx, hx2⟩ := htx (fT ts ws) (by omega)
      have hol := hO.2.2.2.2.1
      have hoc := hO.2.2.2.1
      refine zn_aald dS_addPosting_30 hs3 rfl (by omega) (by decide) (hrf _ (by omega)) ?_
      refine zx_aload_n dS_addPosting_31 rfl ?_
      refine zx_iconst (v := nI 0) dS_addPosting_32 (by decide) ?_
      refine zx_aload_n dS_addPosting_33 rfl ?_
      refine zx_getN dS_addPosting_34 flS_30 hO.1 hoc ?_
      refine zc_Vv (kT_setFolded G (d - 1) (by omega) hx hO (by omega) (Nat.zero_le _) (Nat.le_refl _)) (meT_setFolded _) lkS_33 hx.1 rfl rfl hD (Nat.le_of_ble_eq_true rfl) rfl rfl (Nat.le_of_ble_eq_true rfl) (Nat.le_of_ble_eq_true rfl) (Nat.le_of_ble_eq_true rfl) dS_addPosting_37 (fun r3 h7 => ?_)
      obtain ⟨h8, h9⟩ := h7
      rw [List.drop_zero, Nat.sub_zero, List.take_length, hw] at h9
      have hfe : fT ts ws = ts.length := h21
      have q0 : r3 s = row s := h8 s (by omega) (by omega)
      have q1 : r3 (s + 1) = row (s + 1) := h8 _ (by omega) (by omega)
      have hp2' : r3 s 2 = .int (nI ts.length) := by rw [q0]; exact hp2
      refine zx_aload_n dS_addPosting_40 rfl ?_
      refine zx_dup dS_addPosting_41 rfl ?_
      refine zx_get dS_addPosting_42 flS_26 (by assumption) (by assumption) ?_
      refine zx_iconst (v := nI 1) dS_addPosting_45 (by decide) ?_
      refine zn_iadd dS_addPosting_46 ?_
      refine zx_put dS_addPosting_47 flS_26 tpS_2 hs1 rfl rfl ?_
      have hp1' : zup r3 s 2 (.int (nI (ts.length + 1))) s 1 = .ref (s + 1) := by rw [zup_k (Or.inr (by decide)), q0]; exact hp1
      have hbt' : zup r3 s 2 (.int (nI (ts.length + 1))) (s + 1) (fT ts ws) = .int (nI 0) := by
        rw [zup_ne (by omega), q1, hbt _ (by omega), hfe]
        unfold bAt
        rw [List.getElem?_eq_none (Nat.le_refl _)]
        rfl
      refine zx_aload_n dS_addPosting_50 rfl ?_
      refine zx_get dS_addPosting_51 flS_9 (by assumption) (by assumption) ?_
      refine zx_iload dS_addPosting_54 rfl ?_
      refine zx_dup2 dS_addPosting_56 rfl rfl ?_
      refine zn_iald dS_addPosting_57 hs2 rfl (by omega) (by decide) (by first | exact hbt' | exact hbt _ (by omega)) ?_
      refine zx_iconst (v := nI 1) dS_addPosting_58 (by decide) ?_
      refine zx_bipush (v := nI 8) dS_addPosting_59 (by decide) ?_
      refine zx_iload_n dS_addPosting_61 rfl ?_
      refine zn_imul dS_addPosting_62 ?_
      refine zx_iload_n dS_addPosting_63 rfl ?_
      refine zn_iadd dS_addPosting_64 ?_
      refine zx_ishl dS_addPosting_65 ?_
      refine zx_ior dS_addPosting_66 ?_
      refine zn_iast dS_addPosting_67 hs2 rfl (by omega) (by decide) ?_
      exact zx_vret hE rfl dS_addPosting_68 rfl (Nat.le_of_ble_eq_true rfl) (by first | exact ⟨rfl, rfl, frI_up (by omega) (by omega), hS.set (by omega)⟩ | exact ⟨rfl, rfl, (((fr2.I h8).wide (by omega) (by omega)).tr (frI_up (by omega) (by omega))).tr (frI_up (by omega) (by omega)), hS.add hfe (by omega) (by rw [← hfe]; exact h8) (by rw [← hfe]; exact h9)⟩)
  · exact absurd h11 (by omega)

set_option maxHeartbeats 4000000 in
set_option maxRecDepth 100000 in
theorem kS_countPostings (G : zG) (d : Nat) (hd : 1 ≤ d) {n : Nat} {sh : zSh} {row : zRw} {s rw : Nat} {ts : List (List Nat × Int32)} {pk : Bool} (hS : SegA sh row s ts rw pk) : zM G (fS_countPostings d) [.ref s] n sh row (zP sh row (.int (nI (sumT popc ts)))) := by
  refine zM.of (by show plainName "PostIndex$Segment" = true; decide +kernel) (Nat.le_of_ble_eq_true rfl) (by intro v hv; simp at hv; rcases hv with rfl <;> rfl) ?_
  intro K hE
  show zX G K (fS_countPostings d) n 0 0 sh row 0 [.ref s, .retAddr 0, .retAddr 0] []
  have hD : d - 1 + 1 ≤ d := by omega
  obtain ⟨⟨hs1, hs2, hs3⟩, ⟨hp0, hp1, hp2, hp3, hp4⟩, ⟨hl1, hl2⟩, hrf, htx, hbt⟩ := id hS
  have loop : ∀ (k : Nat) (a i : Nat), ts.length - i < k → i ≤ ts.length → a = sumT popc (ts.take i) → zX G K (fS_countPostings d) n 0 0 sh row 4 [.ref s, .int (nI a), .int (nI i)] [] := by
    intro k
    induction k with
    | zero => intro a i hk; exact absurd hk (Nat.not_lt_zero _)
    | succ k ih =>
      intro a i hk h3 h4
      refine zx_iload_n dS_countPostings_4 rfl ?_
      refine zx_aload_n dS_countPostings_5 rfl ?_
      refine zx_get dS_countPostings_6 flS_26 (by assumption) (by assumption) ?_
      refine zn_icmp_ge (tgt := 30) dS_countPostings_9 rfl (by omega) (by omega) (fun h9 => ?_) (fun h9 => ?_)
      · refine zx_iload_n dS_countPostings_30 rfl ?_
        exact zx_iret hE rfl dS_countPostings_31 rfl (Nat.le_of_ble_eq_true rfl) ⟨by rw [h4, List.take_of_length_le (by omega)], rfl, rfl⟩
      · refine zx_iload_n dS_countPostings_12 rfl ?_
        refine zx_aload_n dS_countPostings_13 rfl ?_
        refine zx_get dS_countPostings_14 flS_9 (by assumption) (by assumption) ?_
        refine zx_iload_n dS_countPostings_17 rfl ?_
        refine zn_iald dS_countPostings_18 hs2 rfl (by omega) (by decide) (hbt _ (by omega)) ?_
        refine zc_S (kI_bitCount G (d - 1) (by omega)) (meI_bitCount _) lkS_48 rfl hD (Nat.le_of_ble_eq_true rfl) rfl rfl (Nat.le_of_ble_eq_true rfl) (Nat.le_of_ble_eq_true rfl) (Nat.le_of_ble_eq_true rfl) dS_countPostings_19 ?_
        refine zn_iadd dS_countPostings_22 ?_
        refine zx_istore_n dS_countPostings_23 (Nat.le_of_ble_eq_true rfl) rfl rfl ?_
        refine zn_iinc (c := 1) dS_countPostings_24 (Nat.le_of_ble_eq_true rfl) rfl rfl ?_
        refine zx_goto (tgt := 4) dS_countPostings_27 rfl ?_
        exact ih _ (i + 1) (by omega) (by omega) (by rw [sumT_take popc (by omega), h4])
  refine zx_iconst (v := nI 0) dS_countPostings_0 (by decide) ?_
  refine zx_istore_n dS_countPostings_1 (Nat.le_of_ble_eq_true rfl) rfl rfl ?_
  refine zx_iconst (v := nI 0) dS_countPostings_2 (by decide) ?_
  refine zx_istore_n dS_countPostings_3 (Nat.le_of_ble_eq_true rfl) rfl rfl ?_
  exact loop _ 0 0 (Nat.lt_succ_self _) (Nat.zero_le _) rfl

def slI (m c sl r : Nat) : Prop := (c = 2 ∧ sl = 4 ∧ r = 2) ∨ ∃ j, c = 6 + 8 * j ∧ sl = 8 ∧ r = 5 + 7 * j ∧ 2 < m ∧ 7 * j < m + 2

set_option maxHeartbeats 4000000 in
set_option maxRecDepth 100000 in
theorem kS_sliceCellsFor (G : zG) (d : Nat) (hd : 0 ≤ d) {n : Nat} {sh : zSh} {row : zRw} {m : Nat} (hm : m ≤ 32) : zM G (fS_sliceCellsFor d) [.int (nI m)] n sh row (zP sh row (.int (nI (slc m)))) := by
  refine zM.of (by show plainName "PostIndex$Segment" = true; decide +kernel) (Nat.le_of_ble_eq_true rfl) (by intro v hv; simp at hv; rcases hv with rfl <;> rfl) ?_
  intro K hE
  show zX G K (fS_sliceCellsFor d) n 0 0 sh row 0 [.int (nI m), .retAddr 0, .retAddr 0, .retAddr 0] []
  have loop : ∀ (k : Nat) (c sl r : Nat), m - r < k → slI m c sl r → zX G K (fS_sliceCellsFor d) n 0 0 sh row 6 [.int (nI m), .int (nI c), .int (nI sl), .int (nI r)] [] := by
    intro k
    induction k with
    | zero => intro c sl r hk; exact absurd hk (Nat.not_lt_zero _)
    | succ k ih =>
      intro c sl r hk h3
      have hb1 : 4 ≤ sl ∧ sl ≤ 8 ∧ r < 100 ∧ c < 200 := by
        rcases h3 with ⟨h4, h5, h6⟩ | ⟨j, h4, h5, h6, h7, h9⟩ <;> omega
      refine zx_iload_n dS_sliceCellsFor_6 rfl ?_
      refine zx_iload_n dS_sliceCellsFor_7 rfl ?_
      refine zn_icmp_ge (tgt := 27) dS_sliceCellsFor_8 rfl (by omega) (by omega) (fun h8 => ?_) (fun h8 => ?_)
      · refine zx_iload_n dS_sliceCellsFor_27 rfl ?_
        exact zx_iret hE rfl dS_sliceCellsFor_28 rfl (Nat.le_of_ble_eq_true rfl) (by refine ⟨?_, rfl, rfl⟩; unfold slc; rcases h3 with ⟨h4, h5, h6⟩ | ⟨j, h4, h5, h6, h7, h9⟩; rw [if_pos (by omega), h4]; rw [if_neg (by omega), show (m + 1) / 7 = j by omega, h4])
      · refine zx_iload_n dS_sliceCellsFor_11 rfl ?_
        refine zx_iload_n dS_sliceCellsFor_12 rfl ?_
        refine zn_iadd dS_sliceCellsFor_13 ?_
        refine zx_istore_n dS_sliceCellsFor_14 (Nat.le_of_ble_eq_true rfl) rfl rfl ?_
        refine zx_iload_n dS_sliceCellsFor_15 rfl ?_
        refine zx_iload_n dS_sliceCellsFor_16 rfl ?_
        refine zx_iconst (v := nI 1) dS_sliceCellsFor_17 (by decide) ?_
        refine zn_isub dS_sliceCellsFor_18 (by omega) ?_
        refine zn_iadd dS_sliceCellsFor_19 ?_
        refine zx_istore_n dS_sliceCellsFor_20 (Nat.le_of_ble_eq_true rfl) rfl rfl ?_
        refine zx_bipush (v := nI 8) dS_sliceCellsFor_21 (by decide) ?_
        refine zx_istore_n dS_sliceCellsFor_23 (Nat.le_of_ble_eq_true rfl) rfl rfl ?_
        refine zx_goto (tgt := 6) dS_sliceCellsFor_24 rfl ?_
        refine ih (c + sl) 8 (r + (sl - 1)) (by omega) (Or.inr ?_)
        rcases h3 with ⟨h4, h5, h6⟩ | ⟨j, h4, h5, h6, h7, h9⟩
        · exact ⟨0, by omega, rfl, by omega, by omega, by omega⟩
        · exact ⟨j + 1, by omega, rfl, by omega, by omega, by omega⟩
  refine zx_iconst (v := nI 2) dS_sliceCellsFor_0 (by decide) ?_
  refine zx_istore_n dS_sliceCellsFor_1 (Nat.le_of_ble_eq_true rfl) rfl rfl ?_
  refine zx_iconst (v := nI 4) dS_sliceCellsFor_2 (by decide) ?_
  refine zx_istore_n dS_sliceCellsFor_3 (Nat.le_of_ble_eq_true rfl) rfl rfl ?_
  refine zx_iconst (v := nI 2) dS_sliceCellsFor_4 (by decide) ?_
  refine zx_istore_n dS_sliceCellsFor_5 (Nat.le_of_ble_eq_true rfl) rfl rfl ?_
  exact loop _ 2 4 2 (Nat.lt_succ_self _) (Or.inl ⟨rfl, rfl, rfl⟩)

theorem pcs_t {f : Nat → Bool} {m b : Nat} (h : f m = true) : pcs f (m + 1) b = cost (b - m) + pcs f m m := by
  show (if f m = true then _ else _) = _
  rw [if_pos h]
theorem pcs_f {f : Nat → Bool} {m b : Nat} (h : ¬ f m = true) : pcs f (m + 1) b = pcs f m b := by
  show (if f m = true then _ else _) = _
  rw [if_neg h]

set_option maxHeartbeats 4000000 in
set_option maxRecDepth 100000 in
theorem kS_piecesFor (G : zG) (d : Nat) {n : Nat} {sh : zSh} {row : zRw} {x : Int32} : zM G (fS_piecesFor d) [.int x] n sh row (zP sh row (.int (nI (pcs (bt x) 32 32)))) := by
  refine zM.of (by show plainName "PostIndex$Segment" = true; decide +kernel) (Nat.le_of_ble_eq_true rfl) (by intro v hv; simp at hv; rcases hv with rfl <;> rfl) ?_
  intro K hE
  show zX G K (fS_piecesFor d) n 0 0 sh row 0 [.int x, .retAddr 0, .retAddr 0, .retAddr 0, .retAddr 0] []
  have loop : ∀ (k p b m : Nat) (v : Value), m < k → (m ≤ b ∧ b ≤ 32) → v.category = 1 → p + pcs (bt x) m b = pcs (bt x) 32 32 → zX G K (fS_piecesFor d) n 0 0 sh row 8 [.int x, .int (nI p), .int (nI b), .int (dI m), v] [] := by
    intro k
    induction k with
    | zero => intro p b m v hk; exact absurd hk (Nat.not_lt_zero _)
    | succ k ih =>
      intro p b m v hk h3 hv h4
      have hpl := pcs_le (bt x) 32 32
      cases m with
      | zero =>
        refine zx_iload_n dS_piecesFor_8 rfl ?_
        refine zx_if_lt (tgt := 59) dS_piecesFor_9 rfl (fun _ => ?_) (fun h => absurd (by decide) h)
        refine zx_iload_n dS_piecesFor_59 rfl ?_
        exact zx_iret hE rfl dS_piecesFor_60 rfl (Nat.le_of_ble_eq_true rfl) ⟨by rw [← h4]; rfl, rfl, rfl⟩
      | succ m =>
        rw [dI_s]
        refine zx_iload_n dS_piecesFor_8 rfl ?_
        refine zn_if_lt (tgt := 59) dS_piecesFor_9 rfl (by omega) ?_
        refine zx_iload_n dS_piecesFor_12 rfl ?_
        refine zx_iload_n dS_piecesFor_13 rfl ?_
        refine zx_iushr (v := ush x m) dS_piecesFor_14 rfl ?_
        refine zx_iconst (v := nI 1) dS_piecesFor_15 (by decide) ?_
        refine zx_iand dS_piecesFor_16 ?_
        refine zx_iconst (v := nI 1) dS_piecesFor_17 (by decide) ?_
        refine zx_icmp_ne (tgt := 53) dS_piecesFor_18 rfl (fun h18 => ?_) (fun h18 => ?_)
        · refine zx_iinc (v := dI m) dS_piecesFor_53 (Nat.le_of_ble_eq_true rfl) (by first | rfl | (simp only [List.all_cons, List.all_nil, hv]; rfl)) rfl rfl rfl ?_
          refine zx_goto (tgt := 8) dS_piecesFor_56 rfl ?_
          refine ih _ _ m _ (by omega) ⟨by omega, by omega⟩ (by first | exact hv | rfl) ?_
          first | (rw [pcs_f (fun h => h18 ((ush1 (by omega)).mpr h))] at h4; exact h4) | (rw [pcs_t ((ush1 (by omega)).mp h18)] at h4; have hc : cost (b - m) = _ := (by unfold cost; first | rw [if_pos (by omega)] | rw [if_neg (by omega), if_pos (by omega)] | rw [if_neg (by omega), if_neg (by omega)]); omega)
        · refine zx_iload_n dS_piecesFor_21 rfl ?_
          refine zx_iload_n dS_piecesFor_22 rfl ?_
          refine zn_isub dS_piecesFor_23 (by omega) ?_
          refine zx_istore dS_piecesFor_24 (Nat.le_of_ble_eq_true rfl) (by simp only [List.all_cons, List.all_nil, hv]; rfl) rfl ?_
          refine zx_iload_n dS_piecesFor_26 rfl ?_
          refine zx_iload dS_piecesFor_27 rfl ?_
          refine zx_iconst (v := nI 4) dS_piecesFor_29 (by decide) ?_
          refine zn_icmp_ge (tgt := 37) dS_piecesFor_30 rfl (by omega) (by omega) (fun h30 => ?_) (fun h30 => ?_)
          · refine zx_iload dS_piecesFor_37 rfl ?_
            refine zx_bipush (v := nI 16) dS_piecesFor_39 (by decide) ?_
            refine zn_icmp_ge (tgt := 48) dS_piecesFor_41 rfl (by omega) (by omega) (fun h41 => ?_) (fun h41 => ?_)
            · refine zx_iconst (v := nI 3) dS_piecesFor_48 (by decide) ?_
              refine zn_iadd dS_piecesFor_49 ?_
              refine zx_istore_n dS_piecesFor_50 (Nat.le_of_ble_eq_true rfl) rfl rfl ?_
              refine zx_iload_n dS_piecesFor_51 rfl ?_
              refine zx_istore_n dS_piecesFor_52 (Nat.le_of_ble_eq_true rfl) rfl rfl ?_
              refine zx_iinc (v := dI m) dS_piecesFor_53 (Nat.le_of_ble_eq_true rfl) (by first | rfl | (simp only [List.all_cons, List.all_nil, hv]; rfl)) rfl rfl rfl ?_
              refine zx_goto (tgt := 8) dS_piecesFor_56 rfl ?_
              refine ih _ _ m _ (by omega) ⟨by omega, by omega⟩ (by first | exact hv | rfl) ?_
              first | (rw [pcs_f (fun h => h18 ((ush1 (by omega)).mpr h))] at h4; exact h4) | (rw [pcs_t ((ush1 (by omega)).mp h18)] at h4; have hc : cost (b - m) = _ := (by unfold cost; first | rw [if_pos (by omega)] | rw [if_neg (by omega), if_pos (by omega)] | rw [if_neg (by omega), if_neg (by omega)]); omega)
            · refine zx_iconst (v := nI 2) dS_piecesFor_44 (by decide) ?_
              refine zx_goto (tgt := 49) dS_piecesFor_45 rfl ?_
              refine zn_iadd dS_piecesFor_49 ?_
              refine zx_istore_n dS_piecesFor_50 (Nat.le_of_ble_eq_true rfl) rfl rfl ?_
              refine zx_iload_n dS_piecesFor_51 rfl ?_
              refine zx_istore_n dS_piecesFor_52 (Nat.le_of_ble_eq_true rfl) rfl rfl ?_
              refine zx_iinc (v := dI m) dS_piecesFor_53 (Nat.le_of_ble_eq_true rfl) (by first | rfl | (simp only [List.all_cons, List.all_nil, hv]; rfl)) rfl rfl rfl ?_
              refine zx_goto (tgt := 8) dS_piecesFor_56 rfl ?_
              refine ih _ _ m _ (by omega) ⟨by omega, by omega⟩ (by first | exact hv | rfl) ?_
              first | (rw [pcs_f (fun h => h18 ((ush1 (by omega)).mpr h))] at h4; exact h4) | (rw [pcs_t ((ush1 (by omega)).mp h18)] at h4; have hc : cost (b - m) = _ := (by unfold cost; first | rw [if_pos (by omega)] | rw [if_neg (by omega), if_pos (by omega)] | rw [if_neg (by omega), if_neg (by omega)]); omega)
          · refine zx_iconst (v := nI 1) dS_piecesFor_33 (by decide) ?_
            refine zx_goto (tgt := 49) dS_piecesFor_34 rfl ?_
            refine zn_iadd dS_piecesFor_49 ?_
            refine zx_istore_n dS_piecesFor_50 (Nat.le_of_ble_eq_true rfl) rfl rfl ?_
            refine zx_iload_n dS_piecesFor_51 rfl ?_
            refine zx_istore_n dS_piecesFor_52 (Nat.le_of_ble_eq_true rfl) rfl rfl ?_
            refine zx_iinc (v := dI m) dS_piecesFor_53 (Nat.le_of_ble_eq_true rfl) (by first | rfl | (simp only [List.all_cons, List.all_nil, hv]; rfl)) rfl rfl rfl ?_
            refine zx_goto (tgt := 8) dS_piecesFor_56 rfl ?_
            refine ih _ _ m _ (by omega) ⟨by omega, by omega⟩ (by first | exact hv | rfl) ?_
            first | (rw [pcs_f (fun h => h18 ((ush1 (by omega)).mpr h))] at h4; exact h4) | (rw [pcs_t ((ush1 (by omega)).mp h18)] at h4; have hc : cost (b - m) = _ := (by unfold cost; first | rw [if_pos (by omega)] | rw [if_neg (by omega), if_pos (by omega)] | rw [if_neg (by omega), if_neg (by omega)]); omega)
  refine zx_iconst (v := nI 0) dS_piecesFor_0 (by decide) ?_
  refine zx_istore_n dS_piecesFor_1 (Nat.le_of_ble_eq_true rfl) rfl rfl ?_
  refine zx_bipush (v := nI 32) dS_piecesFor_2 (by decide) ?_
  refine zx_istore_n dS_piecesFor_4 (Nat.le_of_ble_eq_true rfl) rfl rfl ?_
  refine zx_bipush (v := nI 31) dS_piecesFor_5 (by decide) ?_
  refine zx_istore_n dS_piecesFor_7 (Nat.le_of_ble_eq_true rfl) rfl rfl ?_
  exact loop _ 0 32 32 _ (Nat.lt_succ_self _) ⟨by omega, by omega⟩ rfl (Nat.zero_add _)

set_option maxHeartbeats 4000000 in
set_option maxRecDepth 100000 in
theorem kS_countCells (G : zG) (d : Nat) (hd : 1 ≤ d) {n : Nat} {sh : zSh} {row : zRw} {s rw : Nat} {ts : List (List Nat × Int32)} {pk : Bool} (hS : SegA sh row s ts rw pk) : zM G (fS_countCells d) [.ref s] n sh row (zP sh row (.int (nI (sumT (cellsOf pk) ts)))) := by
  refine zM.of (by show plainName "PostIndex$Segment" = true; decide +kernel) (Nat.le_of_ble_eq_true rfl) (by intro v hv; simp at hv; rcases hv with rfl <;> rfl) ?_
  intro K hE
  show zX G K (fS_countCells d) n 0 0 sh row 0 [.ref s, .retAddr 0, .retAddr 0] []
  have hD : d - 1 + 1 ≤ d := by omega
  obtain ⟨⟨hs1, hs2, hs3⟩, ⟨hp0, hp1, hp2, hp3, hp4⟩, ⟨hl1, hl2⟩, hrf, htx, hbt⟩ := id hS
  have loop : ∀ (k : Nat) (a i : Nat), ts.length - i < k → i ≤ ts.length → a = sumT (cellsOf pk) (ts.take i) → zX G K (fS_countCells d) n 0 0 sh row 4 [.ref s, .int (nI a), .int (nI i)] [] := by
    intro k
    induction k with
    | zero => intro a i hk; exact absurd hk (Nat.not_lt_zero _)
    | succ k ih =>
      intro a i hk h3 h4
      refine zx_iload_n dS_countCells_4 rfl ?_
      refine zx_aload_n dS_countCells_5 rfl ?_
      refine zx_get dS_countCells_6 flS_26 (by assumption) (by assumption) ?_
      refine zn_icmp_ge (tgt := 52) dS_countCells_9 rfl (by omega) (by omega) (fun h9 => ?_) (fun h9 => ?_)
      · refine zx_iload_n dS_countCells_52 rfl ?_
        exact zx_iret hE rfl dS_countCells_53 rfl (Nat.le_of_ble_eq_true rfl) ⟨by rw [h4, List.take_of_length_le (by omega)], rfl, rfl⟩
      · refine zx_iload_n dS_countCells_12 rfl ?_
        refine zx_aload_n dS_countCells_13 rfl ?_
        refine zx_get dS_countCells_14 flS_44 (by assumption) (by assumption) ?_
        refine zb_if_eq (tgt := 32) dS_countCells_17 rfl (fun h17 => ?_) (fun h17 => ?_)
        · refine zx_aload_n dS_countCells_32 rfl ?_
          refine zx_get dS_countCells_33 flS_9 (by assumption) (by assumption) ?_
          refine zx_iload_n dS_countCells_36 rfl ?_
          refine zn_iald dS_countCells_37 hs2 rfl (by omega) (by decide) (hbt _ (by omega)) ?_
          refine zc_S (kI_bitCount G (d - 1) (by omega)) (meI_bitCount _) lkS_48 rfl hD (Nat.le_of_ble_eq_true rfl) rfl rfl (Nat.le_of_ble_eq_true rfl) (Nat.le_of_ble_eq_true rfl) (Nat.le_of_ble_eq_true rfl) dS_countCells_38 ?_
          refine zc_S (kS_sliceCellsFor G (d - 1) (by omega) (cnt_le _ _)) (meS_sliceCellsFor _) lkS_57 rfl hD (Nat.le_of_ble_eq_true rfl) rfl rfl (Nat.le_of_ble_eq_true rfl) (Nat.le_of_ble_eq_true rfl) (Nat.le_of_ble_eq_true rfl) dS_countCells_41 ?_
          refine zn_iadd dS_countCells_44 ?_
          refine zx_istore_n dS_countCells_45 (Nat.le_of_ble_eq_true rfl) rfl rfl ?_
          refine zn_iinc (c := 1) dS_countCells_46 (Nat.le_of_ble_eq_true rfl) rfl rfl ?_
          refine zx_goto (tgt := 4) dS_countCells_49 rfl ?_
          exact ih _ (i + 1) (by omega) (by omega) (by rw [sumT_take (cellsOf pk) (by omega), h4]; unfold cellsOf; rw [h17]; rfl)
        · refine zx_aload_n dS_countCells_20 rfl ?_
          refine zx_get dS_countCells_21 flS_9 (by assumption) (by assumption) ?_
          refine zx_iload_n dS_countCells_24 rfl ?_
          refine zn_iald dS_countCells_25 hs2 rfl (by omega) (by decide) (hbt _ (by omega)) ?_
          refine zc_S (kS_piecesFor G (d - 1)) (meS_piecesFor _) lkS_54 rfl hD (Nat.le_of_ble_eq_true rfl) rfl rfl (Nat.le_of_ble_eq_true rfl) (Nat.le_of_ble_eq_true rfl) (Nat.le_of_ble_eq_true rfl) dS_countCells_26 ?_
          refine zx_goto (tgt := 44) dS_countCells_29 rfl ?_
          refine zn_iadd dS_countCells_44 ?_
          refine zx_istore_n dS_countCells_45 (Nat.le_of_ble_eq_true rfl) rfl rfl ?_
          refine zn_iinc (c := 1) dS_countCells_46 (Nat.le_of_ble_eq_true rfl) rfl rfl ?_
          refine zx_goto (tgt := 4) dS_countCells_49 rfl ?_
          exact ih _ (i + 1) (by omega) (by omega) (by rw [sumT_take (cellsOf pk) (by omega), h4]; unfold cellsOf; rw [h17]; rfl)
  refine zx_iconst (v := nI 0) dS_countCells_0 (by decide) ?_
  refine zx_istore_n dS_countCells_1 (Nat.le_of_ble_eq_true rfl) rfl rfl ?_
  refine zx_iconst (v := nI 0) dS_countCells_2 (by decide) ?_
  refine zx_istore_n dS_countCells_3 (Nat.le_of_ble_eq_true rfl) rfl rfl ?_
  exact loop _ 0 0 (Nat.lt_succ_self _) (Nat.zero_le _) rfl
end
section
/-- a post at the cell p: its text at p + 1 -/
def PostA (sh : zSh) (row : zRw) (p : Nat) (au ti : Int32) (xs : List Nat) (er : Bool) : Prop := sh p = some (0, 0, 4) ∧ row p 0 = .ref (p + 1) ∧ row p 1 = .int au ∧ row p 2 = .int ti ∧ row p 3 = .int (bI er) ∧ Txt sh row (p + 1) xs
theorem PostA.keep {sh : zSh} {row row' : zRw} {p lo hi : Nat} {au ti : Int32} {xs : List Nat} {er : Bool} (h : PostA sh row p au ti xs er) (hf : frI lo hi row row') (hn : p + 2 < lo ∨ hi < p) : PostA sh row' p au ti xs er := by
  obtain ⟨h1, h2, h3, h4, h5, h6⟩ := h
  have e : row' p = row p := hf p (by omega)
  refine ⟨h1, ?_, ?_, ?_, ?_, h6.keepI hf (by omega)⟩ <;> (rw [e]; assumption)

set_option maxHeartbeats 4000000 in
set_option maxRecDepth 100000 in
theorem kP_fill (G : zG) (d : Nat) (hd : 3 ≤ d) {n : Nat} {sh : zSh} {row : zRw} {p : Nat} {au ti au2 ti2 : Int32} {xs : List Nat} {er : Bool} (hP : PostA sh row p au ti xs er) {o : Nat} {ys : List Nat} (hO : Txt sh row o ys) (ho : o + 1 < p ∨ p + 2 < o) : zM G (fP_fill d) [.ref p, .int au2, .int ti2, .ref o] n sh row (zpV sh (fun row' => frI p (p + 2) row row' ∧ PostA sh row' p au2 ti2 ys er)) := by
  refine zM.of (by show plainName "PostIndex$Post" = true; decide +kernel) (Nat.le_of_ble_eq_true rfl) (by intro v hv; simp at hv; rcases hv with rfl | rfl | rfl | rfl <;> rfl) ?_
  intro K hE
  show zX G K (fP_fill d) n 0 0 sh row 0 [.ref p, .int au2, .int ti2, .ref o] []
  have hD : d - 1 + 1 ≤ d := by omega
  obtain ⟨hs, hp0, hp1, hp2, hp3, hT⟩ := id hP
  refine zx_aload_n dP_fill_0 rfl ?_
  refine zx_iload_n dP_fill_1 rfl ?_
  refine zx_put dP_fill_2 flP_16 tpP_1 (by assumption) rfl rfl ?_
  refine zx_aload_n dP_fill_5 rfl ?_
  refine zx_iload_n dP_fill_6 rfl ?_
  refine zx_put dP_fill_7 flP_20 tpP_2 hs rfl rfl ?_
  have q0 : zup (zup row p 1 (.int au2)) p 2 (.int ti2) p 0 = .ref (p + 1) := by rw [zup_k (Or.inr (by decide)), zup_k (Or.inr (by decide))]; exact hp0
  have hT2 : Txt sh (zup (zup row p 1 (.int au2)) p 2 (.int ti2)) (p + 1) xs := hT.keep (by rw [zup_ne (by omega), zup_ne (by omega)]) (by rw [zup_ne (by omega), zup_ne (by omega)])
  refine zx_aload_n dP_fill_10 rfl ?_
  refine zx_get dP_fill_11 flP_10 (by assumption) (by assumption) ?_
  refine zc_Vv (kT_makeEmpty G (d - 1) (by omega) hT.1) (meT_makeEmpty _) lkP_23 hT.1 rfl rfl hD (Nat.le_of_ble_eq_true rfl) rfl rfl (Nat.le_of_ble_eq_true rfl) (Nat.le_of_ble_eq_true rfl) (Nat.le_of_ble_eq_true rfl) dP_fill_14 (fun r3 hr3 => ?_)
  have q1 : r3 p 0 = .ref (p + 1) := by rw [hr3, zup_ne (by omega)]; exact q0
  have hT3 : Txt sh r3 (p + 1) [] := by rw [hr3]; exact hT2.empty
  have hO3 : Txt sh r3 o ys := hO.keep (by rw [hr3, zup_ne (by omega), zup_ne (by omega), zup_ne (by omega)]) (by rw [hr3, zup_ne (by omega), zup_ne (by omega), zup_ne (by omega)])
  refine zx_aload_n dP_fill_17 rfl ?_
  refine zx_get dP_fill_18 flP_10 (by assumption) (by assumption) ?_
  refine zx_aload_n dP_fill_21 rfl ?_
  refine zc_Vr (kT_appendBeginning G (d - 1) (by omega) hT3 hO3) (meT_appendBeginning _) lkP_26 hT3.1 rfl rfl hD (Nat.le_of_ble_eq_true rfl) rfl rfl (Nat.le_of_ble_eq_true rfl) (Nat.le_of_ble_eq_true rfl) (Nat.le_of_ble_eq_true rfl) dP_fill_22 (fun v r4 h6 => ?_)
  obtain ⟨rfl, h7, h8⟩ := h6
  refine zx_pop dP_fill_25 rfl ?_
  exact zx_vret hE rfl dP_fill_26 rfl (Nat.le_of_ble_eq_true rfl) (by
      have hmin : min ys.length (24 - ([] : List Nat).length) = ys.length := by have := hO.2.2.2.2.1; simp; omega
      rw [hmin, List.take_length, List.nil_append] at h8
      have e : r4 p = r3 p := h7 p (by omega) (by omega)
      refine ⟨rfl, rfl, ?_, hs, ?_, ?_, ?_, ?_, h8⟩
      · exact (((frI_up (by omega) (by omega)).tr (frI_up (by omega) (by omega))).tr (hr3 ▸ frI_up (by omega) (by omega))).tr ((fr2.I h7).wide (by omega) (by omega))
      · rw [e, hr3, zup_ne (by omega), zup_k (Or.inr (by decide)), zup_k (Or.inr (by decide))]; exact hp0
      · rw [e, hr3, zup_ne (by omega), zup_k (Or.inr (by decide)), zup_same]
      · rw [e, hr3, zup_ne (by omega), zup_same]
      · rw [e, hr3, zup_ne (by omega), zup_k (Or.inr (by decide)), zup_k (Or.inr (by decide))]; exact hp3)

/-- a query at the cell q: kinds q + 1, numbers q + 2, wordEnds q + 3, words q + 4 -/
abbrev qStep : Type := Nat × Int32 × Nat
def QryA (sh : zSh) (row : zRw) (q : Nat) (ks : List qStep) (wds : List (List Nat)) : Prop :=
  (sh q = some (0, 1, 6) ∧ sh (q + 1) = some (1, 0, 48) ∧ sh (q + 2) = some (1, 0, 48) ∧ sh (q + 3) = some (1, 0, 48) ∧ sh (q + 4) = some (2, 3, 12)) ∧
  (row q 0 = .ref (q + 1) ∧ row q 1 = .ref (q + 2) ∧ row q 2 = .ref (q + 3) ∧ row q 3 = .int (nI ks.length) ∧ row q 4 = .ref (q + 4) ∧ row q 5 = .int (nI wds.length)) ∧
  (ks.length ≤ 48 ∧ wds.length ≤ 12) ∧
  (∀ i, i < 12 → row (q + 4) i = .ref (q + 5 + 2 * i)) ∧
  (∀ i, i < 12 → ∃ xs, Txt sh row (q + 5 + 2 * i) xs ∧ ∀ w, wds[i]? = some w → w = xs) ∧
  (∀ i k, ks[i]? = some k → row (q + 1) i = .int (nI k.1) ∧ row (q + 2) i = .int k.2.1 ∧ row (q + 3) i = .int (nI k.2.2))
theorem QryA.keep {sh : zSh} {row row' : zRw} {q lo hi : Nat} {ks : List qStep} {wds : List (List Nat)} (h : QryA sh row q ks wds) (hf : frI lo hi row row') (hn : q + 28 < lo ∨ hi < q) : QryA sh row' q ks wds := by
  obtain ⟨h1, h2, h3, h4, h5, h6⟩ := h
  have e0 : row' q = row q := hf _ (by omega)
  have e1 : row' (q + 1) = row (q + 1) := hf _ (by omega)
  have e2 : row' (q + 2) = row (q + 2) := hf _ (by omega)
  have e3 : row' (q + 3) = row (q + 3) := hf _ (by omega)
  have e4 : row' (q + 4) = row (q + 4) := hf _ (by omega)
  refine ⟨h1, by rw [e0]; exact h2, h3, by rw [e4]; exact h4, fun i hi => ?_, by rw [e1, e2, e3]; exact h6⟩
  obtain ⟨xs, a, b⟩ := h5 i hi
  exact ⟨xs, a.keepI hf (by omega), b⟩
theorem QryA.step {sh : zSh} {row : zRw} {q kd : Nat} {nu : Int32} {ks : List qStep} {wds : List (List Nat)} (h : QryA sh row q ks wds) (hl : ks.length < 48) : QryA sh (zup (zup (zup (zup row (q + 1) ks.length (.int (nI kd))) (q + 2) ks.length (.int nu)) (q + 3) ks.length (.int (nI wds.length))) q 3 (.int (nI (ks.length + 1)))) q (ks ++ [(kd, nu, wds.length)]) wds := by
  obtain ⟨h1, h2, h3, h4, h5, h6⟩ := h
  have hlen : (ks ++ [(kd, nu, wds.length)]).length = ks.length + 1 := by simp
  refine ⟨h1, ?_, by rw [hlen]; omega, ?_, fun i hi => ?_, fun i k hk => ?_⟩
  · rw [hlen]
    refine ⟨?_, ?_, ?_, zup_same _ _ _, ?_, ?_⟩ <;> rw [zup_k (Or.inr (by decide)), zup_ne (by omega), zup_ne (by omega), zup_ne (by omega)]
    · exact h2.1
    · exact h2.2.1
    · exact h2.2.2.1
    · exact h2.2.2.2.2.1
    · exact h2.2.2.2.2.2
  · rw [zup_ne (by omega), zup_ne (by omega), zup_ne (by omega), zup_ne (by omega)]; exact h4
  · obtain ⟨xs, a, b⟩ := h5 i hi
    exact ⟨xs, a.keep (by rw [zup_ne (by omega), zup_ne (by omega), zup_ne (by omega), zup_ne (by omega)]) (by rw [zup_ne (by omega), zup_ne (by omega), zup_ne (by omega), zup_ne (by omega)]), b⟩
  · rw [zup_ne (show q + 1 ≠ q by omega), zup_ne (show q + 1 ≠ q + 3 by omega), zup_ne (show q + 1 ≠ q + 2 by omega), zup_ne (show q + 2 ≠ q by omega), zup_ne (show q + 2 ≠ q + 3 by omega), zup_ne (show q + 3 ≠ q by omega)]
    by_cases hi : i = ks.length
    · subst hi
      rw [List.getElem?_append_right (Nat.le_refl _), Nat.sub_self] at hk
      cases hk
      exact ⟨zup_same _ _ _, zup_same _ _ _, zup_same _ _ _⟩
    · by_cases hl2 : i < ks.length
      · rw [List.getElem?_append_left hl2] at hk
        obtain ⟨a, b, c⟩ := h6 i k hk
        exact ⟨by rw [zup_k (Or.inr hi)]; exact a, by rw [zup_k (Or.inr hi), zup_ne (by omega)]; exact b, by rw [zup_k (Or.inr hi), zup_ne (by omega), zup_ne (by omega)]; exact c⟩
      · rw [List.getElem?_eq_none (by rw [hlen]; omega)] at hk
        cases hk
theorem QryA.word {sh : zSh} {row r3 : zRw} {q : Nat} {ks : List qStep} {wds : List (List Nat)} {w : List Nat} (h : QryA sh row q ks wds) (hl : wds.length < 12) (hr : fr2 (q + 5 + 2 * wds.length) row r3) (hT : Txt sh r3 (q + 5 + 2 * wds.length) w) : QryA sh (zup r3 q 5 (.int (nI (wds.length + 1)))) q ks (wds ++ [w]) := by
  obtain ⟨h1, h2, h3, h4, h5, h6⟩ := h
  have hlen : (wds ++ [w]).length = wds.length + 1 := by simp
  have e0 : r3 q = row q := hr _ (by omega) (by omega)
  have e1 : r3 (q + 1) = row (q + 1) := hr _ (by omega) (by omega)
  have e2 : r3 (q + 2) = row (q + 2) := hr _ (by omega) (by omega)
  have e3 : r3 (q + 3) = row (q + 3) := hr _ (by omega) (by omega)
  have e4 : r3 (q + 4) = row (q + 4) := hr _ (by omega) (by omega)
  refine ⟨h1, ?_, by rw [hlen]; omega, ?_, fun i hi => ?_, fun i k hk => ?_⟩
  · rw [hlen]
    refine ⟨?_, ?_, ?_, ?_, ?_, zup_same _ _ _⟩ <;> rw [zup_k (Or.inr (by decide)), e0]
    · exact h2.1
    · exact h2.2.1
    · exact h2.2.2.1
    · exact h2.2.2.2.1
    · exact h2.2.2.2.2.1
  · rw [zup_ne (by omega), e4]; exact h4
  · by_cases hj : i = wds.length
    · subst hj
      refine ⟨w, hT.keep (zup_ne (by omega)) (zup_ne (by omega)), fun p hp => ?_⟩
      rw [List.getElem?_append_right (Nat.le_refl _), Nat.sub_self] at hp
      cases hp
      rfl
    · obtain ⟨xs, a, c⟩ := h5 i hi
      refine ⟨xs, (a.keep (hr _ (by omega) (by omega)) (hr _ (by omega) (by omega))).keep (zup_ne (by omega)) (zup_ne (by omega)), fun p hp => ?_⟩
      by_cases hl2 : i < wds.length
      · rw [List.getElem?_append_left hl2] at hp
        exact c p hp
      · rw [List.getElem?_eq_none (by rw [hlen]; omega)] at hp
        cases hp
  · rw [zup_ne (show q + 1 ≠ q by omega), zup_ne (show q + 2 ≠ q by omega), zup_ne (show q + 3 ≠ q by omega), e1, e2, e3]
    exact h6 i k hk

set_option maxHeartbeats 4000000 in
set_option maxRecDepth 100000 in
theorem kQ_makeEmpty (G : zG) (d : Nat) (hd : 0 ≤ d) {n : Nat} {sh : zSh} {row : zRw} {q : Nat} {ks : List qStep} {wds : List (List Nat)} (hQ : QryA sh row q ks wds) : zM G (fQ_makeEmpty d) [.ref q] n sh row (zpV sh (fun row' => frI q q row row' ∧ QryA sh row' q [] [])) := by
  refine zM.of (by show plainName "PostIndex$Query" = true; decide +kernel) (Nat.le_of_ble_eq_true rfl) (by intro v hv; simp at hv; rcases hv with rfl <;> rfl) ?_
  intro K hE
  show zX G K (fQ_makeEmpty d) n 0 0 sh row 0 [.ref q] []
  obtain ⟨⟨hs0, hs1, hs2, hs3, hs4⟩, ⟨hp0, hp1, hp2, hp3, hp4, hp5⟩, ⟨hl1, hl2⟩, hrf, htx, hst⟩ := id hQ
  refine zx_aload_n dQ_makeEmpty_0 rfl ?_
  refine zx_iconst (v := nI 0) dQ_makeEmpty_1 (by decide) ?_
  refine zx_put dQ_makeEmpty_2 flQ_28 tpQ_3 (by assumption) rfl rfl ?_
  refine zx_aload_n dQ_makeEmpty_5 rfl ?_
  refine zx_iconst (v := nI 0) dQ_makeEmpty_6 (by decide) ?_
  refine zx_put dQ_makeEmpty_7 flQ_32 tpQ_5 (by assumption) rfl rfl ?_
  exact zx_vret hE rfl dQ_makeEmpty_10 rfl (Nat.le_of_ble_eq_true rfl) (by
    refine ⟨rfl, rfl, (frI_up (by omega) (by omega)).tr (frI_up (by omega) (by omega)), ⟨hs0, hs1, hs2, hs3, hs4⟩, ⟨?_, ?_, ?_, ?_, ?_, zup_same _ _ _⟩, ⟨by simp, by simp⟩, fun i hi => ?_, fun i hi => ?_, fun i k hk => by cases hk⟩
    · rw [zup_k (Or.inr (by decide)), zup_k (Or.inr (by decide))]; exact hp0
    · rw [zup_k (Or.inr (by decide)), zup_k (Or.inr (by decide))]; exact hp1
    · rw [zup_k (Or.inr (by decide)), zup_k (Or.inr (by decide))]; exact hp2
    · rw [zup_k (Or.inr (by decide)), zup_same]; rfl
    · rw [zup_k (Or.inr (by decide)), zup_k (Or.inr (by decide))]; exact hp4
    · rw [zup_ne (by omega), zup_ne (by omega)]; exact hrf i hi
    · obtain ⟨xs, a, c⟩ := htx i hi
      exact ⟨xs, a.keep (by rw [zup_ne (by omega), zup_ne (by omega)]) (by rw [zup_ne (by omega), zup_ne (by omega)]), fun w hw => by cases hw⟩)

set_option maxHeartbeats 4000000 in
set_option maxRecDepth 100000 in
theorem kQ_addStep (G : zG) (d : Nat) (hd : 0 ≤ d) {n : Nat} {sh : zSh} {row : zRw} {q : Nat} {ks : List qStep} {wds : List (List Nat)} (hQ : QryA sh row q ks wds) {kd : Nat} {nu : Int32} : zM G (fQ_addStep d) [.ref q, .int (nI kd), .int nu] n sh row (zpR sh (fun v row' => v = .int (bI (decide (ks.length < 48))) ∧ frI q (q + 28) row row' ∧ QryA sh row' q (if ks.length < 48 then ks ++ [(kd, nu, wds.length)] else ks) wds)) := by
  refine zM.of (by show plainName "PostIndex$Query" = true; decide +kernel) (Nat.le_of_ble_eq_true rfl) (by intro v hv; simp at hv; rcases hv with rfl | rfl | rfl <;> rfl) ?_
  intro K hE
  show zX G K (fQ_addStep d) n 0 0 sh row 0 [.ref q, .int (nI kd), .int nu] []
  obtain ⟨⟨hs0, hs1, hs2, hs3, hs4⟩, ⟨hp0, hp1, hp2, hp3, hp4, hp5⟩, ⟨hl1, hl2⟩, hrf, htx, hst⟩ := id hQ
  refine zx_aload_n dQ_addStep_0 rfl ?_
  refine zx_get dQ_addStep_1 flQ_28 (by assumption) (by assumption) ?_
  refine zx_bipush (v := nI 48) dQ_addStep_4 (by decide) ?_
  refine zn_icmp_lt (tgt := 11) dQ_addStep_6 rfl (by omega) (by omega) (fun h6 => ?_) (fun h6 => ?_)
  · refine zx_aload_n dQ_addStep_11 rfl ?_
    refine zx_get dQ_addStep_12 flQ_9 (by assumption) (by assumption) ?_
    refine zx_aload_n dQ_addStep_15 rfl ?_
    refine zx_get dQ_addStep_16 flQ_28 (by assumption) (by assumption) ?_
    refine zx_iload_n dQ_addStep_19 rfl ?_
    refine zn_iast dQ_addStep_20 hs1 rfl (by omega) (by decide) ?_
    have a1 : (zup row (q + 1) ks.length (.int (nI kd))) q 1 = .ref (q + 2) := by rw [zup_ne (by omega)]; exact hp1
    have a2 : (zup row (q + 1) ks.length (.int (nI kd))) q 2 = .ref (q + 3) := by rw [zup_ne (by omega)]; exact hp2
    have a3 : (zup row (q + 1) ks.length (.int (nI kd))) q 3 = .int (nI ks.length) := by rw [zup_ne (by omega)]; exact hp3
    have a5 : (zup row (q + 1) ks.length (.int (nI kd))) q 5 = .int (nI wds.length) := by rw [zup_ne (by omega)]; exact hp5
    refine zx_aload_n dQ_addStep_21 rfl ?_
    refine zx_get dQ_addStep_22 flQ_15 (by assumption) (by assumption) ?_
    refine zx_aload_n dQ_addStep_25 rfl ?_
    refine zx_get dQ_addStep_26 flQ_28 (by assumption) (by assumption) ?_
    refine zx_iload_n dQ_addStep_29 rfl ?_
    refine zn_iast dQ_addStep_30 hs2 rfl (by omega) (by decide) ?_
    have b1 : (zup (zup row (q + 1) ks.length (.int (nI kd))) (q + 2) ks.length (.int nu)) q 1 = .ref (q + 2) := by rw [zup_ne (by omega), zup_ne (by omega)]; exact hp1
    have b2 : (zup (zup row (q + 1) ks.length (.int (nI kd))) (q + 2) ks.length (.int nu)) q 2 = .ref (q + 3) := by rw [zup_ne (by omega), zup_ne (by omega)]; exact hp2
    have b3 : (zup (zup row (q + 1) ks.length (.int (nI kd))) (q + 2) ks.length (.int nu)) q 3 = .int (nI ks.length) := by rw [zup_ne (by omega), zup_ne (by omega)]; exact hp3
    have b5 : (zup (zup row (q + 1) ks.length (.int (nI kd))) (q + 2) ks.length (.int nu)) q 5 = .int (nI wds.length) := by rw [zup_ne (by omega), zup_ne (by omega)]; exact hp5
    refine zx_aload_n dQ_addStep_31 rfl ?_
    refine zx_get dQ_addStep_32 flQ_18 (by assumption) (by assumption) ?_
    refine zx_aload_n dQ_addStep_35 rfl ?_
    refine zx_get dQ_addStep_36 flQ_28 (by assumption) (by assumption) ?_
    refine zx_aload_n dQ_addStep_39 rfl ?_
    refine zx_get dQ_addStep_40 flQ_32 (by assumption) (by assumption) ?_
    refine zn_iast dQ_addStep_43 hs3 rfl (by omega) (by decide) ?_
    have c1 : (zup (zup (zup row (q + 1) ks.length (.int (nI kd))) (q + 2) ks.length (.int nu)) (q + 3) ks.length (.int (nI wds.length))) q 1 = .ref (q + 2) := by rw [zup_ne (by omega), zup_ne (by omega), zup_ne (by omega)]; exact hp1
    have c2 : (zup (zup (zup row (q + 1) ks.length (.int (nI kd))) (q + 2) ks.length (.int nu)) (q + 3) ks.length (.int (nI wds.length))) q 2 = .ref (q + 3) := by rw [zup_ne (by omega), zup_ne (by omega), zup_ne (by omega)]; exact hp2
    have c3 : (zup (zup (zup row (q + 1) ks.length (.int (nI kd))) (q + 2) ks.length (.int nu)) (q + 3) ks.length (.int (nI wds.length))) q 3 = .int (nI ks.length) := by rw [zup_ne (by omega), zup_ne (by omega), zup_ne (by omega)]; exact hp3
    have c5 : (zup (zup (zup row (q + 1) ks.length (.int (nI kd))) (q + 2) ks.length (.int nu)) (q + 3) ks.length (.int (nI wds.length))) q 5 = .int (nI wds.length) := by rw [zup_ne (by omega), zup_ne (by omega), zup_ne (by omega)]; exact hp5
    refine zx_aload_n dQ_addStep_44 rfl ?_
    refine zx_dup dQ_addStep_45 rfl ?_
    refine zx_get dQ_addStep_46 flQ_28 (by assumption) (by assumption) ?_
    refine zx_iconst (v := nI 1) dQ_addStep_49 (by decide) ?_
    refine zn_iadd dQ_addStep_50 ?_
    refine zx_put dQ_addStep_51 flQ_28 tpQ_3 (by assumption) rfl rfl ?_
    refine zx_iconst (v := nI 1) dQ_addStep_54 (by decide) ?_
    exact zx_zret hE rfl (by first | decide | exact bI_nar _) dQ_addStep_55 rfl (Nat.le_of_ble_eq_true rfl) (by first | exact ⟨_, rfl, rfl, by rw [decide_eq_true h6]; rfl, ((((frI_up (by omega) (by omega)).tr (frI_up (by omega) (by omega))).tr (frI_up (by omega) (by omega))).tr (frI_up (by omega) (by omega))), by rw [if_pos h6]; exact hQ.step h6⟩ | exact ⟨_, rfl, rfl, by rw [decide_eq_false h6]; rfl, frI.rf, by rw [if_neg h6]; exact hQ⟩)
  · refine zx_iconst (v := nI 0) dQ_addStep_9 (by decide) ?_
    exact zx_zret hE rfl (by first | decide | exact bI_nar _) dQ_addStep_10 rfl (Nat.le_of_ble_eq_true rfl) (by first | exact ⟨_, rfl, rfl, by rw [decide_eq_true h6]; rfl, ((((frI_up (by omega) (by omega)).tr (frI_up (by omega) (by omega))).tr (frI_up (by omega) (by omega))).tr (frI_up (by omega) (by omega))), by rw [if_pos h6]; exact hQ.step h6⟩ | exact ⟨_, rfl, rfl, by rw [decide_eq_false h6]; rfl, frI.rf, by rw [if_neg h6]; exact hQ⟩)

set_option maxHeartbeats 4000000 in
set_option maxRecDepth 100000 in
theorem kQ_addWordsStep (G : zG) (d : Nat) (hd : 1 ≤ d) {n : Nat} {sh : zSh} {row : zRw} {q : Nat} {ks : List qStep} {wds : List (List Nat)} (hQ : QryA sh row q ks wds) {nu : Int32} : zM G (fQ_addWordsStep d) [.ref q, .int nu] n sh row (zpR sh (fun v row' => v = .int (bI (decide (ks.length < 48))) ∧ frI q (q + 28) row row' ∧ QryA sh row' q (if ks.length < 48 then ks ++ [(0, nu, wds.length)] else ks) wds)) := by
  refine zM.of (by show plainName "PostIndex$Query" = true; decide +kernel) (Nat.le_of_ble_eq_true rfl) (by intro v hv; simp at hv; rcases hv with rfl | rfl <;> rfl) ?_
  intro K hE
  show zX G K (fQ_addWordsStep d) n 0 0 sh row 0 [.ref q, .int nu] []
  have hD : d - 1 + 1 ≤ d := by omega
  obtain ⟨⟨hs0, hs1, hs2, hs3, hs4⟩, ⟨hp0, hp1, hp2, hp3, hp4, hp5⟩, ⟨hl1, hl2⟩, hrf, htx, hst⟩ := id hQ
  refine zx_aload_n dQ_addWordsStep_0 rfl ?_
  refine zx_iconst (v := nI 0) dQ_addWordsStep_1 (by decide) ?_
  refine zx_iload_n dQ_addWordsStep_2 rfl ?_
  refine zc_Vr (kQ_addStep G (d - 1) (by omega) (kd := 0) hQ) (meQ_addStep _) lkQ_39 hs0 rfl rfl hD (Nat.le_of_ble_eq_true rfl) rfl rfl (Nat.le_of_ble_eq_true rfl) (Nat.le_of_ble_eq_true rfl) (Nat.le_of_ble_eq_true rfl) dQ_addWordsStep_3 (fun v r3 h7 => ?_)
  have hv := h7.1
  subst hv
  exact zx_zret hE rfl (by first | decide | exact bI_nar _) dQ_addWordsStep_6 rfl (Nat.le_of_ble_eq_true rfl) ⟨_, rfl, rfl, h7⟩

set_option maxHeartbeats 4000000 in
set_option maxRecDepth 100000 in
theorem kQ_addWord (G : zG) (d : Nat) (hd : 3 ≤ d) {n : Nat} {sh : zSh} {row : zRw} {q : Nat} {ks : List qStep} {wds : List (List Nat)} (hQ : QryA sh row q ks wds) {o fr to : Nat} {ys : List Nat} (hO : Txt sh row o ys) (ho : o + 1 < q ∨ q + 28 < o) (h1 : fr ≤ to) (h2 : to ≤ ys.length) : zM G (fQ_addWord d) [.ref q, .ref o, .int (nI fr), .int (nI to)] n sh row (zpR sh (fun v row' => v = .int (bI (decide (wds.length < 12))) ∧ frI q (q + 28) row row' ∧ QryA sh row' q ks (if wds.length < 12 then wds ++ [((ys.drop fr).take (to - fr)).map fold1] else wds))) := by
  refine zM.of (by show plainName "PostIndex$Query" = true; decide +kernel) (Nat.le_of_ble_eq_true rfl) (by intro v hv; simp at hv; rcases hv with rfl | rfl | rfl | rfl <;> rfl) ?_
  intro K hE
  show zX G K (fQ_addWord d) n 0 0 sh row 0 [.ref q, .ref o, .int (nI fr), .int (nI to)] []
  have hD : d - 1 + 1 ≤ d := by omega
  obtain ⟨⟨hs0, hs1, hs2, hs3, hs4⟩, ⟨hp0, hp1, hp2, hp3, hp4, hp5⟩, ⟨hl1, hl2⟩, hrf, htx, hst⟩ := id hQ
  refine zx_aload_n dQ_addWord_0 rfl ?_
  refine zx_get dQ_addWord_1 flQ_32 (by assumption) (by assumption) ?_
  refine zx_bipush (v := nI 12) dQ_addWord_4 (by decide) ?_
  refine zn_icmp_lt (tgt := 11) dQ_addWord_6 rfl (by omega) (by omega) (fun h6 => ?_) (fun h6 => ?_)
  · refine zx_aload_n dQ_addWord_11 rfl ?_
    refine zx_get dQ_addWord_12 flQ_23 (by assumption) (by assumption) ?_
    refine zx_aload_n dQ_addWord_15 rfl ?_
    refine zx_get dQ_addWord_16 flQ_32 (by assumption) (by assumption) ?_
    obtain ⟨xs, hx, hx2⟩ := htx wds.length (by omega)
    refine zn_aald dQ_addWord_19 hs4 rfl (by omega) (by decide) (hrf _ (by omega)) ?_
    refine zx_aload_n dQ_addWord_20 rfl ?_
    refine zx_iload_n dQ_addWord_21 rfl ?_
    refine zx_iload_n dQ_addWord_22 rfl ?_
    refine zc_Vv (kT_setFolded G (d - 1) (by omega) hx hO (by omega) h1 h2) (meT_setFolded _) lkQ_35 hx.1 rfl rfl hD (Nat.le_of_ble_eq_true rfl) rfl rfl (Nat.le_of_ble_eq_true rfl) (Nat.le_of_ble_eq_true rfl) (Nat.le_of_ble_eq_true rfl) dQ_addWord_23 (fun r3 h7 => ?_)
    obtain ⟨h8, h9⟩ := h7
    have hp5' : r3 q 5 = .int (nI wds.length) := by rw [h8 q (by omega) (by omega)]; exact hp5
    refine zx_aload_n dQ_addWord_26 rfl ?_
    refine zx_dup dQ_addWord_27 rfl ?_
    refine zx_get dQ_addWord_28 flQ_32 (by assumption) (by assumption) ?_
    refine zx_iconst (v := nI 1) dQ_addWord_31 (by decide) ?_
    refine zn_iadd dQ_addWord_32 ?_
    refine zx_put dQ_addWord_33 flQ_32 tpQ_5 (by assumption) rfl rfl ?_
    refine zx_iconst (v := nI 1) dQ_addWord_36 (by decide) ?_
    exact zx_zret hE rfl (by first | decide | exact bI_nar _) dQ_addWord_37 rfl (Nat.le_of_ble_eq_true rfl) (by first | exact ⟨_, rfl, rfl, by rw [decide_eq_true h6]; rfl, ((fr2.I h8).wide (by omega) (by omega)).tr (frI_up (by omega) (by omega)), by rw [if_pos h6]; exact hQ.word h6 h8 h9⟩ | exact ⟨_, rfl, rfl, by rw [decide_eq_false h6]; rfl, frI.rf, by rw [if_neg h6]; exact hQ⟩)
  · refine zx_iconst (v := nI 0) dQ_addWord_9 (by decide) ?_
    exact zx_zret hE rfl (by first | decide | exact bI_nar _) dQ_addWord_10 rfl (Nat.le_of_ble_eq_true rfl) (by first | exact ⟨_, rfl, rfl, by rw [decide_eq_true h6]; rfl, ((fr2.I h8).wide (by omega) (by omega)).tr (frI_up (by omega) (by omega)), by rw [if_pos h6]; exact hQ.word h6 h8 h9⟩ | exact ⟨_, rfl, rfl, by rw [decide_eq_false h6]; rfl, frI.rf, by rw [if_neg h6]; exact hQ⟩)
end
section
/-- the places where a row of words could begin -/
def stI (f : Nat → Int32) : Nat → Int32
  | 0 => nI 255
  | j + 1 => stI f j &&& ush (f j) j
def rowI (wds : List (List Nat)) (ts : List (List Nat × Int32)) (slot f e : Nat) : Bool := decide (¬ stI (fun j => plc ts (wds.getD (f + j) []) slot) (e - f) = nI 0)
def envI (au ti : Int32) (wds : List (List Nat)) (ts : List (List Nat × Int32)) (slot : Nat) (k : qStep) : Bool :=
  if k.1 = 1 then decide (au = k.2.1) else if k.1 = 2 then decide (ti < k.2.1) else if k.1 = 3 then decide (k.2.1 < ti) else rowI wds ts slot k.2.1.toNatClampNeg k.2.2
/-- a step on what is worked out and not yet joined -/
def stp (env : qStep → Bool) (k : qStep) (st : List Bool) : Option (List Bool) :=
  if k.1 = 4 then (match st with | a :: r => some ((!a) :: r) | [] => none)
  else if k.1 = 5 then (match st with | a :: b :: r => some ((b && a) :: r) | _ => none)
  else if k.1 = 6 then (match st with | a :: b :: r => some ((b || a) :: r) | _ => none)
  else if st.length < 31 then some (env k :: st) else none
def evalS (env : qStep → Bool) : List qStep → List Bool → Option (List Bool)
  | [], st => some st
  | k :: ks, st => match stp env k st with
    | some st' => evalS env ks st'
    | none => none
/-- its bits are the list -/
def RepB (r : Int32) (st : List Bool) : Prop := st.length ≤ 31 ∧ ∀ i, i < st.length → st[i]? = some (bt r i)
theorem RepB.nil (r : Int32) : RepB r [] := ⟨by simp, fun i hi => by cases hi⟩
theorem RepB.top {r : Int32} {a : Bool} {st : List Bool} (h : RepB r (a :: st)) : bt r 0 = a := by
  have := h.2 0 (by simp)
  exact (Option.some.inj this).symm
theorem RepB.notB {r : Int32} {a : Bool} {st : List Bool} (h : RepB r (a :: st)) : RepB (r ^^^ nI 1) ((!a) :: st) := by
  refine ⟨h.1, fun i hi => ?_⟩
  have hl := h.1
  have hi32 : i < 32 := by simp at hi hl; omega
  rw [b_xor, nI1_bits i hi32]
  cases i with
  | zero => rw [h.top]; cases a <;> rfl
  | succ i =>
    have := h.2 (i + 1) (by simpa using hi)
    simpa using this
theorem m2_bits : ∀ i, i < 32 → bt (-2) i = decide (¬ i = 0) := by decide +kernel
theorem RepB.andB {r : Int32} {a b : Bool} {st : List Bool} (h : RepB r (a :: b :: st)) : RepB (ush r 1 &&& (r ||| -2)) ((b && a) :: st) := by
  have hl := h.1
  refine ⟨by simp at hl ⊢; omega, fun i hi => ?_⟩
  have hi32 : i < 32 := by simp at hi hl; omega
  have hu : bt (ush r 1) i = bt r (1 + i) := b_ushr 1 (by decide) r i
  rw [b_and, b_or, m2_bits i hi32, hu]
  cases i with
  | zero =>
    have h1 := h.2 1 (by simp)
    have : bt r 1 = b := (Option.some.inj h1).symm
    rw [h.top, this]; cases a <;> cases b <;> rfl
  | succ i =>
    have := h.2 (i + 2) (by simp at hi ⊢; omega)
    rw [show 1 + (i + 1) = i + 2 by omega]
    simpa using this
theorem RepB.orB {r : Int32} {a b : Bool} {st : List Bool} (h : RepB r (a :: b :: st)) : RepB (ush r 1 ||| (r &&& nI 1)) ((b || a) :: st) := by
  have hl := h.1
  refine ⟨by simp at hl ⊢; omega, fun i hi => ?_⟩
  have hi32 : i < 32 := by simp at hi hl; omega
  have hu : bt (ush r 1) i = bt r (1 + i) := b_ushr 1 (by decide) r i
  rw [b_or, b_and, nI1_bits i hi32, hu]
  cases i with
  | zero =>
    have h1 := h.2 1 (by simp)
    have : bt r 1 = b := (Option.some.inj h1).symm
    rw [h.top, this]; cases a <;> cases b <;> rfl
  | succ i =>
    have := h.2 (i + 2) (by simp at hi ⊢; omega)
    rw [show 1 + (i + 1) = i + 2 by omega]
    simpa using this
theorem RepB.push {r : Int32} {st : List Bool} (h : RepB r st) (hl : st.length < 31) (v : Bool) : RepB (r <<< (nI 1 &&& 31) ||| bI v) (v :: st) := by
  refine ⟨by simp; omega, fun i hi => ?_⟩
  have hi32 : i < 32 := by simp at hi; omega
  have hb : bt (bI v) i = (decide (i = 0) && v) := by
    cases v
    · rw [show bt (bI false) i = false from b_0 i]; simp
    · rw [show bt (bI true) i = _ from nI1_bits i hi32]; simp
  rw [b_or, b_shl 1 (by decide) r hi32, hb]
  cases i with
  | zero => simp
  | succ i =>
    have := h.2 i (by simpa using hi)
    rw [show i + 1 - 1 = i by omega]
    simpa using this
theorem and1 {r : Int32} : (r &&& nI 1 = nI 1) ↔ bt r 0 = true := by
  have h := ush1 (x := r) (m := 0) (by decide)
  have e : ush r 0 = r := b_ext (fun i _ => by have := b_ushr 0 (by decide) r i; rw [Nat.zero_add] at this; exact this)
  rw [e] at h
  exact h
theorem drop_step {α : Type} {ks : List α} {i : Nat} {k : α} (h : ks[i]? = some k) : ks.drop i = k :: ks.drop (i + 1) := by
  have hl := (List.getElem?_eq_some_iff.mp h).1
  rw [List.drop_eq_getElem_cons hl]
  congr 1
  rw [List.getElem?_eq_getElem hl] at h
  exact Option.some.inj h
/-- a leaf of kind 0 names words that are there -/
def leafOk (wds : List (List Nat)) (k : qStep) : Prop := k.1 < 7 ∧ (k.1 = 0 → ∃ f, k.2.1 = nI f ∧ f ≤ k.2.2 ∧ k.2.2 ≤ wds.length)

set_option maxHeartbeats 4000000 in
set_option maxRecDepth 100000 in
theorem kQ_standInRow (G : zG) (d : Nat) (hd : 3 ≤ d) {n : Nat} {sh : zSh} {row : zRw} {q : Nat} {ks : List qStep} {wds : List (List Nat)} (hQ : QryA sh row q ks wds) {s rw : Nat} {ts : List (List Nat × Int32)} {pk : Bool} (hS : SegA sh row s ts rw pk) {slot : Nat} (hsl : slot < 4) {f e : Nat} (hfe : f ≤ e) (he : e ≤ wds.length) : zM G (fQ_standInRow d) [.ref q, .int (nI f), .int (nI e), .ref s, .int (nI slot)] n sh row (zP sh row (.int (bI (rowI wds ts slot f e)))) := by
  refine zM.of (by show plainName "PostIndex$Query" = true; decide +kernel) (Nat.le_of_ble_eq_true rfl) (by intro v hv; simp at hv; rcases hv with rfl | rfl | rfl | rfl | rfl <;> rfl) ?_
  intro K hE
  show zX G K (fQ_standInRow d) n 0 0 sh row 0 [.ref q, .int (nI f), .int (nI e), .ref s, .int (nI slot), .retAddr 0, .retAddr 0] []
  have hD : d - 1 + 1 ≤ d := by omega
  obtain ⟨⟨hs0, hs1, hs2, hs3, hs4⟩, ⟨hp0, hp1, hp2, hp3, hp4, hp5⟩, ⟨hl1, hl2⟩, hrf, htx, hst⟩ := id hQ
  have loop : ∀ (k : Nat) (a : Int32) (i : Nat), e - i < k → f ≤ i → i ≤ e → a = stI (fun j => plc ts (wds.getD (f + j) []) slot) (i - f) → zX G K (fQ_standInRow d) n 0 0 sh row 8 [.ref q, .int (nI f), .int (nI e), .ref s, .int (nI slot), .int a, .int (nI i)] [] := by
    intro k
    induction k with
    | zero => intro a i hk; exact absurd hk (Nat.not_lt_zero _)
    | succ k ih =>
      intro a i hk h3 h4 h5
      refine zx_iload dQ_standInRow_8 rfl ?_
      refine zx_iload_n dQ_standInRow_10 rfl ?_
      refine zn_icmp_ge (tgt := 43) dQ_standInRow_11 rfl (by omega) (by omega) (fun h11 => ?_) (fun h11 => ?_)
      · refine zx_iload dQ_standInRow_43 rfl ?_
        refine zx_if_eq (tgt := 52) dQ_standInRow_45 rfl (fun h45 => ?_) (fun h45 => ?_)
        · refine zx_iconst (v := nI 0) dQ_standInRow_52 (by decide) ?_
          exact zx_zret hE rfl (by first | decide | exact bI_nar _) dQ_standInRow_53 rfl (Nat.le_of_ble_eq_true rfl) (by refine ⟨?_, rfl, rfl⟩; have hie : i = e := (by omega); subst hie; unfold rowI; rw [← h5]; first | (rw [decide_eq_false (fun h => h (show a = nI 0 from h45))]; rfl) | (rw [decide_eq_true (show ¬ a = nI 0 from h45)]; rfl))
        · refine zx_iconst (v := nI 1) dQ_standInRow_48 (by decide) ?_
          refine zx_goto (tgt := 53) dQ_standInRow_49 rfl ?_
          exact zx_zret hE rfl (by first | decide | exact bI_nar _) dQ_standInRow_53 rfl (Nat.le_of_ble_eq_true rfl) (by refine ⟨?_, rfl, rfl⟩; have hie : i = e := (by omega); subst hie; unfold rowI; rw [← h5]; first | (rw [decide_eq_false (fun h => h (show a = nI 0 from h45))]; rfl) | (rw [decide_eq_true (show ¬ a = nI 0 from h45)]; rfl))
      · refine zx_iload dQ_standInRow_14 rfl ?_
        refine zx_aload_n dQ_standInRow_16 rfl ?_
        refine zx_aload_n dQ_standInRow_17 rfl ?_
        refine zx_get dQ_standInRow_18 flQ_23 (by assumption) (by assumption) ?_
        refine zx_iload dQ_standInRow_21 rfl ?_
        obtain ⟨xs, hx, hx2⟩ := htx i (by omega)
        have hw : wds.getD i [] = xs := by
          rw [List.getD_eq_getElem?_getD]
          obtain ⟨w, hw⟩ : ∃ w, wds[i]? = some w := ⟨_, List.getElem?_eq_getElem (by omega)⟩
          rw [hw]; exact hx2 w hw
        refine zn_aald dQ_standInRow_23 hs4 rfl (by omega) (by decide) (hrf i (by omega)) ?_
        refine zx_iload dQ_standInRow_24 rfl ?_
        refine zc_V (kS_placesOf G (d - 1) (by omega) hS hx hsl) (meS_placesOf _) lkQ_59 hS.1.1 rfl rfl hD (Nat.le_of_ble_eq_true rfl) rfl rfl (Nat.le_of_ble_eq_true rfl) (Nat.le_of_ble_eq_true rfl) (Nat.le_of_ble_eq_true rfl) dQ_standInRow_26 ?_
        refine zx_iload dQ_standInRow_29 rfl ?_
        refine zx_iload_n dQ_standInRow_31 rfl ?_
        refine zn_isub dQ_standInRow_32 (by omega) ?_
        refine zx_iushr (v := ush (plc ts xs slot) (i - f)) dQ_standInRow_33 rfl ?_
        refine zx_iand dQ_standInRow_34 ?_
        refine zx_istore dQ_standInRow_35 (Nat.le_of_ble_eq_true rfl) rfl rfl ?_
        refine zn_iinc (c := 1) dQ_standInRow_37 (Nat.le_of_ble_eq_true rfl) rfl rfl ?_
        refine zx_goto (tgt := 8) dQ_standInRow_40 rfl ?_
        refine ih _ (i + 1) (by omega) (by omega) (by omega) ?_
        rw [show i + 1 - f = i - f + 1 by omega]
        show _ = stI _ (i - f) &&& ush (plc ts (wds.getD (f + (i - f)) []) slot) (i - f)
        rw [show f + (i - f) = i by omega, hw, h5]
  refine zx_sipush (v := nI 255) dQ_standInRow_0 (by decide) ?_
  refine zx_istore dQ_standInRow_3 (Nat.le_of_ble_eq_true rfl) rfl rfl ?_
  refine zx_iload_n dQ_standInRow_5 rfl ?_
  refine zx_istore dQ_standInRow_6 (Nat.le_of_ble_eq_true rfl) rfl rfl ?_
  exact loop _ _ f (Nat.lt_succ_self _) (Nat.le_refl _) hfe (by rw [Nat.sub_self]; rfl)

set_option maxHeartbeats 4000000 in
set_option maxRecDepth 100000 in
theorem kQ_isTrue (G : zG) (d : Nat) (hd : 4 ≤ d) {n : Nat} {sh : zSh} {row : zRw} {q : Nat} {ks : List qStep} {wds : List (List Nat)} (hQ : QryA sh row q ks wds) {s rw : Nat} {ts : List (List Nat × Int32)} {pk : Bool} (hS : SegA sh row s ts rw pk) {slot : Nat} (hsl : slot < 4) {p : Nat} {au ti : Int32} {xs : List Nat} {er : Bool} (hP : PostA sh row p au ti xs er) {i kd we : Nat} {nu : Int32} (hk : ks[i]? = some (kd, nu, we)) (hkd : kd < 4) (hlf : leafOk wds (kd, nu, we)) : zM G (fQ_isTrue d) [.ref q, .int (nI i), .ref p, .ref s, .int (nI slot)] n sh row (zP sh row (.int (bI (envI au ti wds ts slot (kd, nu, we))))) := by
  refine zM.of (by show plainName "PostIndex$Query" = true; decide +kernel) (Nat.le_of_ble_eq_true rfl) (by intro v hv; simp at hv; rcases hv with rfl | rfl | rfl | rfl | rfl <;> rfl) ?_
  intro K hE
  show zX G K (fQ_isTrue d) n 0 0 sh row 0 [.ref q, .int (nI i), .ref p, .ref s, .int (nI slot), .retAddr 0] []
  have hD : d - 1 + 1 ≤ d := by omega
  obtain ⟨⟨hs0, hs1, hs2, hs3, hs4⟩, ⟨hp0, hp1, hp2, hp3, hp4, hp5⟩, ⟨hl1, hl2⟩, hrf, htx, hst⟩ := id hQ
  obtain ⟨hst1, hst2, hst3⟩ := hst i _ hk
  have hst1 : row (q + 1) i = .int (nI kd) := hst1
  have hst2 : row (q + 2) i = .int nu := hst2
  have hst3 : row (q + 3) i = .int (nI we) := hst3
  have hil := (List.getElem?_eq_some_iff.mp hk).1
  refine zx_aload_n dQ_isTrue_0 rfl ?_
  refine zx_get dQ_isTrue_1 flQ_15 (by assumption) (by assumption) ?_
  refine zx_iload_n dQ_isTrue_4 rfl ?_
  refine zn_iald dQ_isTrue_5 hs2 rfl (by omega) (by decide) hst2 ?_
  refine zx_istore dQ_isTrue_6 (Nat.le_of_ble_eq_true rfl) rfl rfl ?_
  refine zx_aload_n dQ_isTrue_8 rfl ?_
  refine zx_get dQ_isTrue_9 flQ_9 (by assumption) (by assumption) ?_
  refine zx_iload_n dQ_isTrue_12 rfl ?_
  refine zn_iald dQ_isTrue_13 hs1 rfl (by omega) (by decide) hst1 ?_
  skip
  by_cases hk1 : kd = 1
  · subst hk1
    refine zx_tabI (tgt := 40) (off := 26) dQ_isTrue_14 (by decide) (by decide) (by decide) rfl ?_
    refine zx_aload_n dQ_isTrue_40 rfl ?_
    refine zx_getN dQ_isTrue_41 flQ_47 hP.1 hP.2.2.1 ?_
    refine zx_iload dQ_isTrue_44 rfl ?_
    refine zx_icmp_ne (tgt := 53) dQ_isTrue_46 rfl (fun h46 => ?_) (fun h46 => ?_)
    · refine zx_iconst (v := nI 0) dQ_isTrue_53 (by decide) ?_
      exact zx_zret hE rfl (by first | decide | exact bI_nar _) dQ_isTrue_54 rfl (Nat.le_of_ble_eq_true rfl) ⟨by unfold envI; show _ = some (Value.int (bI (if (1 : Nat) = 1 then _ else _))); exact congrArg (fun z => some (Value.int z)) (by rw [if_pos rfl]; first | (rw [decide_eq_true h46]; rfl) | (rw [decide_eq_false h46]; rfl)), rfl, rfl⟩
    · refine zx_iconst (v := nI 1) dQ_isTrue_49 (by decide) ?_
      refine zx_goto (tgt := 54) dQ_isTrue_50 rfl ?_
      exact zx_zret hE rfl (by first | decide | exact bI_nar _) dQ_isTrue_54 rfl (Nat.le_of_ble_eq_true rfl) ⟨by unfold envI; show _ = some (Value.int (bI (if (1 : Nat) = 1 then _ else _))); exact congrArg (fun z => some (Value.int z)) (by rw [if_pos rfl]; first | (rw [decide_eq_true h46]; rfl) | (rw [decide_eq_false h46]; rfl)), rfl, rfl⟩
  by_cases hk2 : kd = 2
  · subst hk2
    refine zx_tabI (tgt := 55) (off := 41) dQ_isTrue_14 (by decide) (by decide) (by decide) rfl ?_
    refine zx_aload_n dQ_isTrue_55 rfl ?_
    refine zx_getN dQ_isTrue_56 flQ_52 hP.1 hP.2.2.2.1 ?_
    refine zx_iload dQ_isTrue_59 rfl ?_
    refine zx_icmp_ge (tgt := 68) dQ_isTrue_61 rfl (fun h61 => ?_) (fun h61 => ?_)
    · refine zx_iconst (v := nI 0) dQ_isTrue_68 (by decide) ?_
      exact zx_zret hE rfl (by first | decide | exact bI_nar _) dQ_isTrue_69 rfl (Nat.le_of_ble_eq_true rfl) ⟨by unfold envI; show _ = some (Value.int (bI (if (2 : Nat) = 1 then _ else _))); exact congrArg (fun z => some (Value.int z)) (by rw [if_neg (by decide), if_pos rfl]; first | (rw [decide_eq_true (Int32.not_le.mp h61)]; rfl) | (rw [decide_eq_false (Int32.not_lt.mpr h61)]; rfl)), rfl, rfl⟩
    · refine zx_iconst (v := nI 1) dQ_isTrue_64 (by decide) ?_
      refine zx_goto (tgt := 69) dQ_isTrue_65 rfl ?_
      exact zx_zret hE rfl (by first | decide | exact bI_nar _) dQ_isTrue_69 rfl (Nat.le_of_ble_eq_true rfl) ⟨by unfold envI; show _ = some (Value.int (bI (if (2 : Nat) = 1 then _ else _))); exact congrArg (fun z => some (Value.int z)) (by rw [if_neg (by decide), if_pos rfl]; first | (rw [decide_eq_true (Int32.not_le.mp h61)]; rfl) | (rw [decide_eq_false (Int32.not_lt.mpr h61)]; rfl)), rfl, rfl⟩
  by_cases hk3 : kd = 3
  · subst hk3
    refine zx_tabI (tgt := 70) (off := 56) dQ_isTrue_14 (by decide) (by decide) (by decide) rfl ?_
    refine zx_aload_n dQ_isTrue_70 rfl ?_
    refine zx_getN dQ_isTrue_71 flQ_52 hP.1 hP.2.2.2.1 ?_
    refine zx_iload dQ_isTrue_74 rfl ?_
    refine zx_icmp_le (tgt := 83) dQ_isTrue_76 rfl (fun h76 => ?_) (fun h76 => ?_)
    · refine zx_iconst (v := nI 0) dQ_isTrue_83 (by decide) ?_
      exact zx_zret hE rfl (by first | decide | exact bI_nar _) dQ_isTrue_84 rfl (Nat.le_of_ble_eq_true rfl) ⟨by unfold envI; show _ = some (Value.int (bI (if (3 : Nat) = 1 then _ else _))); exact congrArg (fun z => some (Value.int z)) (by rw [if_neg (by decide), if_neg (show ¬ (3 : Nat) = 2 by decide), if_pos rfl]; first | (rw [decide_eq_true (Int32.not_le.mp h76)]; rfl) | (rw [decide_eq_false (Int32.not_lt.mpr h76)]; rfl)), rfl, rfl⟩
    · refine zx_iconst (v := nI 1) dQ_isTrue_79 (by decide) ?_
      refine zx_goto (tgt := 84) dQ_isTrue_80 rfl ?_
      exact zx_zret hE rfl (by first | decide | exact bI_nar _) dQ_isTrue_84 rfl (Nat.le_of_ble_eq_true rfl) ⟨by unfold envI; show _ = some (Value.int (bI (if (3 : Nat) = 1 then _ else _))); exact congrArg (fun z => some (Value.int z)) (by rw [if_neg (by decide), if_neg (show ¬ (3 : Nat) = 2 by decide), if_pos rfl]; first | (rw [decide_eq_true (Int32.not_le.mp h76)]; rfl) | (rw [decide_eq_false (Int32.not_lt.mpr h76)]; rfl)), rfl, rfl⟩
  refine zx_tabO (tgt := 85) dQ_isTrue_14 (by rw [nI_toInt (zL31 (by omega))]; omega) rfl ?_
  obtain ⟨f, hf1, hf2, hf3⟩ := hlf.2 (by show kd = 0; omega)
  have hf1 : nu = nI f := hf1
  subst hf1
  refine zx_aload_n dQ_isTrue_85 rfl ?_
  refine zx_iload dQ_isTrue_86 rfl ?_
  refine zx_aload_n dQ_isTrue_88 rfl ?_
  refine zx_get dQ_isTrue_89 flQ_18 (by assumption) (by assumption) ?_
  refine zx_iload_n dQ_isTrue_92 rfl ?_
  refine zn_iald dQ_isTrue_93 hs3 rfl (by omega) (by decide) hst3 ?_
  refine zx_aload_n dQ_isTrue_94 rfl ?_
  refine zx_iload dQ_isTrue_95 rfl ?_
  refine zc_V (kQ_standInRow G (d - 1) (by omega) hQ hS hsl hf2 hf3) (meQ_standInRow _) lkQ_55 hs0 rfl rfl hD (Nat.le_of_ble_eq_true rfl) rfl rfl (Nat.le_of_ble_eq_true rfl) (Nat.le_of_ble_eq_true rfl) (Nat.le_of_ble_eq_true rfl) dQ_isTrue_97 ?_
  exact zx_zret hE rfl (by first | decide | exact bI_nar _) dQ_isTrue_100 rfl (Nat.le_of_ble_eq_true rfl) ⟨by unfold envI; rw [if_neg hk1, if_neg hk2, if_neg hk3, nI_cl (show f < 2147483648 by have := hl2; have : f ≤ we := hf2; have : we ≤ wds.length := hf3; omega)], rfl, rfl⟩

set_option maxHeartbeats 4000000 in
set_option maxRecDepth 100000 in
theorem kQ_matches (G : zG) (d : Nat) (hd : 5 ≤ d) {n : Nat} {sh : zSh} {row : zRw} {q : Nat} {ks : List qStep} {wds : List (List Nat)} (hQ : QryA sh row q ks wds) {s rw : Nat} {ts : List (List Nat × Int32)} {pk : Bool} (hS : SegA sh row s ts rw pk) {slot : Nat} (hsl : slot < 4) {p : Nat} {au ti : Int32} {xs : List Nat} {er : Bool} (hP : PostA sh row p au ti xs er) (hlf : ∀ k ∈ ks, leafOk wds k) {b0 : Bool} {fin : List Bool} (hev : evalS (envI au ti wds ts slot) ks [] = some (b0 :: fin)) : zM G (fQ_matches d) [.ref q, .ref p, .ref s, .int (nI slot)] n sh row (zP sh row (.int (bI b0))) := by
  refine zM.of (by show plainName "PostIndex$Query" = true; decide +kernel) (Nat.le_of_ble_eq_true rfl) (by intro v hv; simp at hv; rcases hv with rfl | rfl | rfl | rfl <;> rfl) ?_
  intro K hE
  show zX G K (fQ_matches d) n 0 0 sh row 0 [.ref q, .ref p, .ref s, .int (nI slot), .retAddr 0, .retAddr 0] []
  have hD : d - 1 + 1 ≤ d := by omega
  obtain ⟨⟨hs0, hs1, hs2, hs3, hs4⟩, ⟨hp0, hp1, hp2, hp3, hp4, hp5⟩, ⟨hl1, hl2⟩, hrf, htx, hst⟩ := id hQ
  have loop : ∀ (k : Nat) (a : Int32) (i : Nat) (st : List Bool), ks.length - i < k → i ≤ ks.length → RepB a st → evalS (envI au ti wds ts slot) (ks.drop i) st = some (b0 :: fin) → zX G K (fQ_matches d) n 0 0 sh row 6 [.ref q, .ref p, .ref s, .int (nI slot), .int a, .int (nI i)] [] := by
    intro k
    induction k with
    | zero => intro a i st hk; exact absurd hk (Nat.not_lt_zero _)
    | succ k ih =>
      intro a i st hk hi hrep hev
      refine zx_iload dQ_matches_6 rfl ?_
      refine zx_aload_n dQ_matches_8 rfl ?_
      refine zx_get dQ_matches_9 flQ_28 (by assumption) (by assumption) ?_
      refine zn_icmp_ge (tgt := 116) dQ_matches_12 rfl (by omega) (by omega) (fun h12 => ?_) (fun h12 => ?_)
      · refine zx_iload dQ_matches_116 rfl ?_
        refine zx_iconst (v := nI 1) dQ_matches_118 (by decide) ?_
        refine zx_iand dQ_matches_119 ?_
        refine zx_iconst (v := nI 1) dQ_matches_120 (by decide) ?_
        refine zx_icmp_ne (tgt := 128) dQ_matches_121 rfl (fun h121 => ?_) (fun h121 => ?_)
        · refine zx_iconst (v := nI 0) dQ_matches_128 (by decide) ?_
          exact zx_zret hE rfl (by first | decide | exact bI_nar _) dQ_matches_129 rfl (Nat.le_of_ble_eq_true rfl) (by
            refine ⟨?_, rfl, rfl⟩
            rw [List.drop_eq_nil_of_le (by omega)] at hev
            cases hev
            have ht := hrep.top
            first | (have h1 := and1.mp h121; rw [ht] at h1; rw [h1]; rfl) | (have h1 : ¬ bt a 0 = true := (fun h => h121 (and1.mpr h)); rw [ht] at h1; cases b0; rfl; exact absurd rfl h1))
        · refine zx_iconst (v := nI 1) dQ_matches_124 (by decide) ?_
          refine zx_goto (tgt := 129) dQ_matches_125 rfl ?_
          exact zx_zret hE rfl (by first | decide | exact bI_nar _) dQ_matches_129 rfl (Nat.le_of_ble_eq_true rfl) (by
            refine ⟨?_, rfl, rfl⟩
            rw [List.drop_eq_nil_of_le (by omega)] at hev
            cases hev
            have ht := hrep.top
            first | (have h1 := and1.mp h121; rw [ht] at h1; rw [h1]; rfl) | (have h1 : ¬ bt a 0 = true := (fun h => h121 (and1.mpr h)); rw [ht] at h1; cases b0; rfl; exact absurd rfl h1))
      · refine zx_aload_n dQ_matches_15 rfl ?_
        refine zx_get dQ_matches_16 flQ_9 (by assumption) (by assumption) ?_
        refine zx_iload dQ_matches_19 rfl ?_
        obtain ⟨⟨kd, nu, we⟩, hk⟩ : ∃ q, ks[i]? = some q := ⟨_, List.getElem?_eq_getElem (by omega)⟩
        have hlk := hlf _ (List.mem_of_getElem? hk)
        have hkd : kd < 7 := hlk.1
        obtain ⟨hst1, hst2, hst3⟩ := hst i _ hk
        have hst1 : row (q + 1) i = .int (nI kd) := hst1
        have hst2 : row (q + 2) i = .int nu := hst2
        have hst3 : row (q + 3) i = .int (nI we) := hst3
        refine zn_iald dQ_matches_21 hs1 rfl (by omega) (by decide) hst1 ?_
        by_cases hk4 : kd = 4
        · subst hk4
          obtain ⟨st', hs', hev'⟩ : ∃ st', stp (envI au ti wds ts slot) (4, nu, we) st = some st' ∧ evalS (envI au ti wds ts slot) (ks.drop (i + 1)) st' = some (b0 :: fin) := by
            rw [drop_step hk] at hev
            unfold evalS at hev
            cases hx : stp (envI au ti wds ts slot) (4, nu, we) st with
            | none => rw [hx] at hev; cases hev
            | some st' => rw [hx] at hev; exact ⟨st', rfl, hev⟩
          have hrep' : RepB (a ^^^ nI 1) st' := by
            cases st with
            | nil => cases hs'
            | cons x r => cases hs'; exact hrep.notB
          refine zx_tabI (tgt := 48) (off := 26) dQ_matches_22 (by decide) (by decide) (by decide) rfl ?_
          refine zx_iload dQ_matches_48 rfl ?_
          refine zx_iconst (v := nI 1) dQ_matches_50 (by decide) ?_
          refine zx_ixor dQ_matches_51 ?_
          refine zx_istore dQ_matches_52 (Nat.le_of_ble_eq_true rfl) rfl rfl ?_
          refine zx_goto (tgt := 110) dQ_matches_54 rfl ?_
          refine zn_iinc (c := 1) dQ_matches_110 (Nat.le_of_ble_eq_true rfl) rfl rfl ?_
          refine zx_goto (tgt := 6) dQ_matches_113 rfl ?_
          exact ih _ (i + 1) _ (by omega) (by omega) hrep' hev'
        by_cases hk5 : kd = 5
        · subst hk5
          obtain ⟨st', hs', hev'⟩ : ∃ st', stp (envI au ti wds ts slot) (5, nu, we) st = some st' ∧ evalS (envI au ti wds ts slot) (ks.drop (i + 1)) st' = some (b0 :: fin) := by
            rw [drop_step hk] at hev
            unfold evalS at hev
            cases hx : stp (envI au ti wds ts slot) (5, nu, we) st with
            | none => rw [hx] at hev; cases hev
            | some st' => rw [hx] at hev; exact ⟨st', rfl, hev⟩
          have hrep' : RepB (ush a 1 &&& (a ||| -2)) st' := by
            cases st with
            | nil => cases hs'
            | cons x r => cases r with
              | nil => cases hs'
              | cons y r => cases hs'; exact hrep.andB
          refine zx_tabI (tgt := 57) (off := 35) dQ_matches_22 (by decide) (by decide) (by decide) rfl ?_
          refine zx_iload dQ_matches_57 rfl ?_
          refine zx_iconst (v := nI 1) dQ_matches_59 (by decide) ?_
          refine zx_iushr (v := ush a 1) dQ_matches_60 rfl ?_
          refine zx_iload dQ_matches_61 rfl ?_
          refine zx_bipush (v := -2) dQ_matches_63 (by decide) ?_
          refine zx_ior dQ_matches_65 ?_
          refine zx_iand dQ_matches_66 ?_
          refine zx_istore dQ_matches_67 (Nat.le_of_ble_eq_true rfl) rfl rfl ?_
          refine zx_goto (tgt := 110) dQ_matches_69 rfl ?_
          refine zn_iinc (c := 1) dQ_matches_110 (Nat.le_of_ble_eq_true rfl) rfl rfl ?_
          refine zx_goto (tgt := 6) dQ_matches_113 rfl ?_
          exact ih _ (i + 1) _ (by omega) (by omega) hrep' hev'
        by_cases hk6 : kd = 6
        · subst hk6
          obtain ⟨st', hs', hev'⟩ : ∃ st', stp (envI au ti wds ts slot) (6, nu, we) st = some st' ∧ evalS (envI au ti wds ts slot) (ks.drop (i + 1)) st' = some (b0 :: fin) := by
            rw [drop_step hk] at hev
            unfold evalS at hev
            cases hx : stp (envI au ti wds ts slot) (6, nu, we) st with
            | none => rw [hx] at hev; cases hev
            | some st' => rw [hx] at hev; exact ⟨st', rfl, hev⟩
          have hrep' : RepB (ush a 1 ||| (a &&& nI 1)) st' := by
            cases st with
            | nil => cases hs'
            | cons x r => cases r with
              | nil => cases hs'
              | cons y r => cases hs'; exact hrep.orB
          refine zx_tabI (tgt := 72) (off := 50) dQ_matches_22 (by decide) (by decide) (by decide) rfl ?_
          refine zx_iload dQ_matches_72 rfl ?_
          refine zx_iconst (v := nI 1) dQ_matches_74 (by decide) ?_
          refine zx_iushr (v := ush a 1) dQ_matches_75 rfl ?_
          refine zx_iload dQ_matches_76 rfl ?_
          refine zx_iconst (v := nI 1) dQ_matches_78 (by decide) ?_
          refine zx_iand dQ_matches_79 ?_
          refine zx_ior dQ_matches_80 ?_
          refine zx_istore dQ_matches_81 (Nat.le_of_ble_eq_true rfl) rfl rfl ?_
          refine zx_goto (tgt := 110) dQ_matches_83 rfl ?_
          refine zn_iinc (c := 1) dQ_matches_110 (Nat.le_of_ble_eq_true rfl) rfl rfl ?_
          refine zx_goto (tgt := 6) dQ_matches_113 rfl ?_
          exact ih _ (i + 1) _ (by omega) (by omega) hrep' hev'
        obtain ⟨st', hs', hev'⟩ : ∃ st', stp (envI au ti wds ts slot) (kd, nu, we) st = some st' ∧ evalS (envI au ti wds ts slot) (ks.drop (i + 1)) st' = some (b0 :: fin) := by
          rw [drop_step hk] at hev
          unfold evalS at hev
          cases hx : stp (envI au ti wds ts slot) (kd, nu, we) st with
          | none => rw [hx] at hev; cases hev
          | some st' => rw [hx] at hev; exact ⟨st', rfl, hev⟩
        have hsl' : st.length < 31 ∧ st' = envI au ti wds ts slot (kd, nu, we) :: st := by
          unfold stp at hs'
          rw [if_neg hk4, if_neg hk5, if_neg hk6] at hs'
          by_cases hl : st.length < 31
          · rw [if_pos hl] at hs'; exact ⟨hl, (Option.some.inj hs').symm⟩
          · rw [if_neg hl] at hs'; cases hs'
        obtain ⟨hl31, rfl⟩ := hsl'
        refine zx_tabO (tgt := 86) dQ_matches_22 (by rw [nI_toInt (zL31 (by omega))]; omega) rfl ?_
        refine zx_iload dQ_matches_86 rfl ?_
        refine zx_iconst (v := nI 1) dQ_matches_88 (by decide) ?_
        refine zx_ishl dQ_matches_89 ?_
        refine zx_aload_n dQ_matches_90 rfl ?_
        refine zx_iload dQ_matches_91 rfl ?_
        refine zx_aload_n dQ_matches_93 rfl ?_
        refine zx_aload_n dQ_matches_94 rfl ?_
        refine zx_iload_n dQ_matches_95 rfl ?_
        refine zc_V (kQ_isTrue G (d - 1) (by omega) hQ hS hsl hP hk (by omega) hlk) (meQ_isTrue _) lkQ_43 hs0 rfl rfl hD (Nat.le_of_ble_eq_true rfl) rfl rfl (Nat.le_of_ble_eq_true rfl) (Nat.le_of_ble_eq_true rfl) (Nat.le_of_ble_eq_true rfl) dQ_matches_96 ?_
        refine zb_if_eq (tgt := 106) dQ_matches_99 rfl (fun h99 => ?_) (fun h99 => ?_)
        · refine zx_iconst (v := nI 0) dQ_matches_106 (by decide) ?_
          refine zx_ior dQ_matches_107 ?_
          refine zx_istore dQ_matches_108 (Nat.le_of_ble_eq_true rfl) rfl rfl ?_
          refine zn_iinc (c := 1) dQ_matches_110 (Nat.le_of_ble_eq_true rfl) rfl rfl ?_
          refine zx_goto (tgt := 6) dQ_matches_113 rfl ?_
          refine ih _ (i + 1) _ (by omega) (by omega) ?_ hev'
          have hpu := hrep.push hl31 (envI au ti wds ts slot (kd, nu, we))
          rw [h99] at hpu ⊢
          exact hpu
        · refine zx_iconst (v := nI 1) dQ_matches_102 (by decide) ?_
          refine zx_goto (tgt := 107) dQ_matches_103 rfl ?_
          refine zx_ior dQ_matches_107 ?_
          refine zx_istore dQ_matches_108 (Nat.le_of_ble_eq_true rfl) rfl rfl ?_
          refine zn_iinc (c := 1) dQ_matches_110 (Nat.le_of_ble_eq_true rfl) rfl rfl ?_
          refine zx_goto (tgt := 6) dQ_matches_113 rfl ?_
          refine ih _ (i + 1) _ (by omega) (by omega) ?_ hev'
          have hpu := hrep.push hl31 (envI au ti wds ts slot (kd, nu, we))
          rw [h99] at hpu ⊢
          exact hpu
  refine zx_iconst (v := nI 0) dQ_matches_0 (by decide) ?_
  refine zx_istore dQ_matches_1 (Nat.le_of_ble_eq_true rfl) rfl rfl ?_
  refine zx_iconst (v := nI 0) dQ_matches_3 (by decide) ?_
  refine zx_istore dQ_matches_4 (Nat.le_of_ble_eq_true rfl) rfl rfl ?_
  exact loop _ _ 0 [] (Nat.lt_succ_self _) (Nat.zero_le _) (RepB.nil _) hev
end
section
/-- the reader's state, as a value: where it is, the steps, the words -/
abbrev PS : Type := Nat × List qStep × List (List Nat)
def RdA (sh : zSh) (row : zRw) (r q : Nat) (xs : List Nat) (s : PS) : Prop := sh r = some (0, 2, 3) ∧ row r 0 = .ref (r + 1) ∧ row r 1 = .ref q ∧ row r 2 = .int (nI s.1) ∧ Txt sh row (r + 1) xs ∧ QryA sh row q s.2.1 s.2.2 ∧ s.1 ≤ xs.length ∧ (q + 28 < r ∨ r + 2 < q)
def frR (r q : Nat) (row row' : zRw) : Prop := ∀ b, b ≠ r → ¬ (q ≤ b ∧ b ≤ q + 28) → row' b = row b
theorem frR.rf {r q : Nat} {row : zRw} : frR r q row row := fun _ _ _ => rfl
theorem frR.tr {r q : Nat} {r1 r2 r3 : zRw} (h : frR r q r1 r2) (g : frR r q r2 r3) : frR r q r1 r3 := fun b h1 h2 => (g b h1 h2).trans (h b h1 h2)
theorem frR_up {r q k : Nat} {row : zRw} {v : Value} : frR r q row (zup row r k v) := fun b h1 _ => zup_ne h1
theorem frI.R {r q : Nat} {r1 r2 : zRw} (h : frI q (q + 28) r1 r2) : frR r q r1 r2 := fun b _ h2 => h b h2
theorem RdA.at {sh : zSh} {row : zRw} {r q a : Nat} {xs : List Nat} {s : PS} (h : RdA sh row r q xs s) (ha : a ≤ xs.length) : RdA sh (zup row r 2 (.int (nI a))) r q xs (a, s.2) := by
  obtain ⟨h1, h2, h3, h4, h5, h6, h7, h8⟩ := h
  refine ⟨h1, ?_, ?_, zup_same _ _ _, h5.keep (zup_ne (by omega)) (zup_ne (by omega)), h6.keep (lo := r) (hi := r) (frI_up (by omega) (by omega)) (by omega), ha, h8⟩
  · rw [zup_k (Or.inr (by decide))]; exact h2
  · rw [zup_k (Or.inr (by decide))]; exact h3
theorem RdA.qry {sh : zSh} {row row' : zRw} {r q : Nat} {xs : List Nat} {s : PS} {ks : List qStep} {wds : List (List Nat)} (h : RdA sh row r q xs s) (hf : frI q (q + 28) row row') (hq : QryA sh row' q ks wds) : RdA sh row' r q xs (s.1, ks, wds) := by
  obtain ⟨h1, h2, h3, h4, h5, h6, h7, h8⟩ := h
  have e : row' r = row r := hf r (by omega)
  refine ⟨h1, by rw [e]; exact h2, by rw [e]; exact h3, by rw [e]; exact h4, h5.keepI hf (by omega), hq, h7, h8⟩
/-- spaces left out -/
def skp (xs : List Nat) (a : Nat) : Nat := a + ((xs.drop a).takeWhile (fun c => decide (c = 32))).length
theorem skp_s {xs : List Nat} {i : Nat} (h : i < xs.length) (hw : at0 xs i = 32) : skp xs i = skp xs (i + 1) := by
  unfold skp
  rw [drop_at0 h, List.takeWhile_cons_of_pos (by simp [hw])]
  simp only [List.length_cons]
  omega
theorem skp_e {xs : List Nat} {i : Nat} (h : xs.length ≤ i ∨ ¬ at0 xs i = 32) : skp xs i = i := by
  unfold skp
  by_cases hl : i < xs.length
  · rw [drop_at0 hl, List.takeWhile_cons_of_neg (by rcases h with h | h; omega; simp [h])]
    rfl
  · rw [List.drop_eq_nil_of_le (by omega)]
    rfl
theorem skp_ge {xs : List Nat} {i : Nat} : i ≤ skp xs i := by unfold skp; omega
theorem skp_le {xs : List Nat} {i : Nat} (h : i ≤ xs.length) : skp xs i ≤ xs.length := by
  unfold skp
  have := (List.takeWhile_sublist (l := xs.drop i) (fun c => decide (c = 32))).length_le
  rw [List.length_drop] at this
  omega
/-- the reader's methods, as functions -/
abbrev PR : Type := Bool × PS
def pTake (xs : List Nat) (c : Nat) (s : PS) : PR := if at0 xs (skp xs s.1) = c then (true, (skp xs s.1 + 1, s.2)) else (false, (skp xs s.1, s.2))
def pStep (kd : Nat) (nu : Int32) (s : PS) : PR := (decide (s.2.1.length < 48), (s.1, (if s.2.1.length < 48 then s.2.1 ++ [(kd, nu, s.2.2.length)] else s.2.1), s.2.2))
def pWord (xs : List Nat) (s : PS) : PR :=
  if skp xs s.1 < tokEnd xs (skp xs s.1) then (decide (s.2.2.length < 12), (tokEnd xs (skp xs s.1), s.2.1, (if s.2.2.length < 12 then s.2.2 ++ [((xs.drop (skp xs s.1)).take (tokEnd xs (skp xs s.1) - skp xs s.1)).map fold1] else s.2.2)))
  else (false, (tokEnd xs (skp xs s.1), s.2))
def filL (xs : List Nat) : Nat → Nat → Nat → Nat × Nat
  | 0, a, n => (a, n)
  | j + 1, a, n => if a < xs.length ∧ isDg (at0 xs a) = true then filL xs j (a + 1) (10 * n + (at0 xs a - 48)) else (a, n)
def pFilter (xs : List Nat) (kd : Nat) (s : PS) : PR :=
  if s.1 + 1 < (filL xs 9 (s.1 + 1) 0).1 ∧ isDg (at0 xs (filL xs 9 (s.1 + 1) 0).1) = false then pStep kd (nI (filL xs 9 (s.1 + 1) 0).2) ((filL xs 9 (s.1 + 1) 0).1, s.2)
  else (false, ((filL xs 9 (s.1 + 1) 0).1, s.2))
theorem filL_ge {xs : List Nat} {j a n : Nat} : a ≤ (filL xs j a n).1 := by
  induction j generalizing a n with
  | zero => exact Nat.le_refl _
  | succ j ih =>
    unfold filL
    split
    · have := ih (a := a + 1) (n := 10 * n + (at0 xs a - 48)); omega
    · exact Nat.le_refl _
theorem filL_le {xs : List Nat} {j a n : Nat} (h : a ≤ xs.length) : (filL xs j a n).1 ≤ xs.length := by
  induction j generalizing a n with
  | zero => exact h
  | succ j ih =>
    unfold filL
    split
    · next hq => exact ih hq.1
    · exact h

set_option maxHeartbeats 4000000 in
set_option maxRecDepth 100000 in
theorem kR_skipSpaces (G : zG) (d : Nat) (hd : 1 ≤ d) {n : Nat} {sh : zSh} {row : zRw} {r q : Nat} {xs : List Nat} {s : PS} (hR : RdA sh row r q xs s) : zM G (fR_skipSpaces d) [.ref r] n sh row (zpV sh (fun row' => frR r q row row' ∧ RdA sh row' r q xs (skp xs s.1, s.2))) := by
  refine zM.of (by show plainName "PostIndex$QueryReader" = true; decide +kernel) (Nat.le_of_ble_eq_true rfl) (by intro v hv; simp at hv; rcases hv with rfl <;> rfl) ?_
  intro K hE
  show zX G K (fR_skipSpaces d) n 0 0 sh row 0 [.ref r] []
  have hD : d - 1 + 1 ≤ d := by omega
  obtain ⟨hs, hp0, hp1, hp2, hT, hQ, hat, hdj⟩ := id hR
  have hxl := hT.2.2.2.2.1
  have loop : ∀ (k : Nat) (a : Nat) (r2 : zRw), xs.length - a < k → frR r q row r2 → RdA sh r2 r q xs (a, s.2) → skp xs a = skp xs s.1 → zX G K (fR_skipSpaces d) n 0 0 sh r2 0 [.ref r] [] := by
    intro k
    induction k with
    | zero => intro a r2 hk; exact absurd hk (Nat.not_lt_zero _)
    | succ k ih =>
      intro a r2 hk h3 h4 h5
      obtain ⟨gs, gp0, gp1, gp2, gT, gQ, gat, gdj⟩ := id h4
      have gct := gT.2.2.2.1
      have gat : a ≤ xs.length := gat
      have gp2 : r2 r 2 = .int (nI a) := gp2
      refine zx_aload_n dR_skipSpaces_0 rfl ?_
      refine zx_get dR_skipSpaces_1 flR_33 (by assumption) (by assumption) ?_
      refine zx_aload_n dR_skipSpaces_4 rfl ?_
      refine zx_get dR_skipSpaces_5 flR_12 (by assumption) (by assumption) ?_
      refine zx_getN dR_skipSpaces_8 flR_92 gT.1 gct ?_
      refine zn_icmp_ge (tgt := 43) dR_skipSpaces_11 rfl (by omega) (by omega) (fun h11 => ?_) (fun h11 => ?_)
      · exact zx_vret hE rfl dR_skipSpaces_43 rfl (Nat.le_of_ble_eq_true rfl) (by refine ⟨rfl, rfl, h3, ?_⟩; rw [← h5, skp_e (by first | exact Or.inl (by omega) | exact Or.inr (by omega))]; exact h4)
      · refine zx_aload_n dR_skipSpaces_14 rfl ?_
        refine zx_get dR_skipSpaces_15 flR_12 (by assumption) (by assumption) ?_
        refine zx_aload_n dR_skipSpaces_18 rfl ?_
        refine zx_get dR_skipSpaces_19 flR_33 (by assumption) (by assumption) ?_
        refine zc_V (kT_charOr0 G (d - 1) (by omega) gT (by omega)) (meT_charOr0 _) lkR_95 gT.1 rfl rfl hD (Nat.le_of_ble_eq_true rfl) rfl rfl (Nat.le_of_ble_eq_true rfl) (Nat.le_of_ble_eq_true rfl) (Nat.le_of_ble_eq_true rfl) dR_skipSpaces_22 ?_
        have hz := gT.lt (i := a)
        refine zx_bipush (v := nI 32) dR_skipSpaces_25 (by decide) ?_
        refine zn_icmp_ne (tgt := 43) dR_skipSpaces_27 rfl (by omega) (by omega) (fun h27 => ?_) (fun h27 => ?_)
        · exact zx_vret hE rfl dR_skipSpaces_43 rfl (Nat.le_of_ble_eq_true rfl) (by refine ⟨rfl, rfl, h3, ?_⟩; rw [← h5, skp_e (by first | exact Or.inl (by omega) | exact Or.inr (by omega))]; exact h4)
        · refine zx_aload_n dR_skipSpaces_30 rfl ?_
          refine zx_dup dR_skipSpaces_31 rfl ?_
          refine zx_get dR_skipSpaces_32 flR_33 (by assumption) (by assumption) ?_
          refine zx_iconst (v := nI 1) dR_skipSpaces_35 (by decide) ?_
          refine zn_iadd dR_skipSpaces_36 ?_
          refine zx_put dR_skipSpaces_37 flR_33 tpR_2 (by assumption) rfl rfl ?_
          refine zx_goto (tgt := 0) dR_skipSpaces_40 rfl ?_
          exact ih (a + 1) _ (by omega) (h3.tr frR_up) (h4.at (by omega)) (by rw [← h5]; exact (skp_s (by omega) (by omega)).symm)
  exact loop _ s.1 row (Nat.lt_succ_self _) frR.rf hR rfl

set_option maxHeartbeats 4000000 in
set_option maxRecDepth 100000 in
theorem kR_peekPiece (G : zG) (d : Nat) (hd : 2 ≤ d) {n : Nat} {sh : zSh} {row : zRw} {r q : Nat} {xs : List Nat} {s : PS} (hR : RdA sh row r q xs s) : zM G (fR_peekPiece d) [.ref r] n sh row (zpR sh (fun v row' => v = .int (nI (at0 xs (skp xs s.1))) ∧ frR r q row row' ∧ RdA sh row' r q xs (skp xs s.1, s.2))) := by
  refine zM.of (by show plainName "PostIndex$QueryReader" = true; decide +kernel) (Nat.le_of_ble_eq_true rfl) (by intro v hv; simp at hv; rcases hv with rfl <;> rfl) ?_
  intro K hE
  show zX G K (fR_peekPiece d) n 0 0 sh row 0 [.ref r] []
  have hD : d - 1 + 1 ≤ d := by omega
  obtain ⟨hs, hp0, hp1, hp2, hT, hQ, hat, hdj⟩ := id hR
  have hxl := hT.2.2.2.2.1
  refine zx_aload_n dR_peekPiece_0 rfl ?_
  refine zc_Vv (kR_skipSpaces G (d - 1) (by omega) hR) (meR_skipSpaces _) lkR_81 hs rfl rfl hD (Nat.le_of_ble_eq_true rfl) rfl rfl (Nat.le_of_ble_eq_true rfl) (Nat.le_of_ble_eq_true rfl) (Nat.le_of_ble_eq_true rfl) dR_peekPiece_1 (fun r2 h2 => ?_)
  obtain ⟨h3, h4⟩ := h2
  obtain ⟨gs, gp0, gp1, gp2, gT, gQ, gat, gdj⟩ := id h4
  have gct := gT.2.2.2.1
  have gat : skp xs s.1 ≤ xs.length := gat
  have gp2 : r2 r 2 = .int (nI (skp xs s.1)) := gp2
  have hz := gT.lt (i := skp xs s.1)
  refine zx_aload_n dR_peekPiece_4 rfl ?_
  refine zx_get dR_peekPiece_5 flR_12 (by assumption) (by assumption) ?_
  refine zx_aload_n dR_peekPiece_8 rfl ?_
  refine zx_get dR_peekPiece_9 flR_33 (by assumption) (by assumption) ?_
  refine zc_V (kT_charOr0 G (d - 1) (by omega) gT (by omega)) (meT_charOr0 _) lkR_95 gT.1 rfl rfl hD (Nat.le_of_ble_eq_true rfl) rfl rfl (Nat.le_of_ble_eq_true rfl) (Nat.le_of_ble_eq_true rfl) (Nat.le_of_ble_eq_true rfl) dR_peekPiece_12 ?_
  exact zx_zret hE rfl (by first | decide | exact cI_nar (by omega)) dR_peekPiece_15 rfl (Nat.le_of_ble_eq_true rfl) ⟨_, rfl, rfl, rfl, h3, h4⟩

set_option maxHeartbeats 4000000 in
set_option maxRecDepth 100000 in
theorem kR_take (G : zG) (d : Nat) (hd : 3 ≤ d) {n : Nat} {sh : zSh} {row : zRw} {r q : Nat} {xs : List Nat} {s : PS} (hR : RdA sh row r q xs s) {c : Nat} (hc : c < 127) (hc0 : 0 < c) : zM G (fR_take d) [.ref r, .int (nI c)] n sh row (zpR sh (fun v row' => v = .int (bI (pTake xs c s).1) ∧ frR r q row row' ∧ RdA sh row' r q xs (pTake xs c s).2)) := by
  refine zM.of (by show plainName "PostIndex$QueryReader" = true; decide +kernel) (Nat.le_of_ble_eq_true rfl) (by intro v hv; simp at hv; rcases hv with rfl | rfl <;> rfl) ?_
  intro K hE
  show zX G K (fR_take d) n 0 0 sh row 0 [.ref r, .int (nI c)] []
  have hD : d - 1 + 1 ≤ d := by omega
  obtain ⟨hs, hp0, hp1, hp2, hT, hQ, hat, hdj⟩ := id hR
  have hxl := hT.2.2.2.2.1
  refine zx_aload_n dR_take_0 rfl ?_
  refine zc_Vr (kR_peekPiece G (d - 1) (by omega) hR) (meR_peekPiece _) lkR_41 hs rfl rfl hD (Nat.le_of_ble_eq_true rfl) rfl rfl (Nat.le_of_ble_eq_true rfl) (Nat.le_of_ble_eq_true rfl) (Nat.le_of_ble_eq_true rfl) dR_take_1 (fun v r2 h2 => ?_)
  obtain ⟨rfl, h3, h4⟩ := h2
  obtain ⟨gs, gp0, gp1, gp2, gT, gQ, gat, gdj⟩ := id h4
  have gct := gT.2.2.2.1
  have gat : skp xs s.1 ≤ xs.length := gat
  have gp2 : r2 r 2 = .int (nI (skp xs s.1)) := gp2
  have hz := gT.lt (i := skp xs s.1)
  refine zx_iload_n dR_take_4 rfl ?_
  refine zn_icmp_eq (tgt := 10) dR_take_5 rfl (by omega) (by omega) (fun h5 => ?_) (fun h5 => ?_)
  · refine zx_aload_n dR_take_10 rfl ?_
    refine zx_dup dR_take_11 rfl ?_
    refine zx_get dR_take_12 flR_33 (by assumption) (by assumption) ?_
    refine zx_iconst (v := nI 1) dR_take_15 (by decide) ?_
    refine zn_iadd dR_take_16 ?_
    refine zx_put dR_take_17 flR_33 tpR_2 (by assumption) rfl rfl ?_
    refine zx_iconst (v := nI 1) dR_take_20 (by decide) ?_
    exact zx_zret hE rfl (by first | decide | exact bI_nar _) dR_take_21 rfl (Nat.le_of_ble_eq_true rfl) (by
      first
      | (have hlt : skp xs s.1 < xs.length := Nat.lt_of_not_le (fun h => by rw [at0_big h] at h5; omega)
         refine ⟨_, rfl, rfl, ?_, h3.tr frR_up, ?_⟩
         · unfold pTake; rw [if_pos h5]; rfl
         · unfold pTake; rw [if_pos h5]; exact h4.at (by omega))
      | (refine ⟨_, rfl, rfl, ?_, h3, ?_⟩
         · unfold pTake; rw [if_neg h5]; rfl
         · unfold pTake; rw [if_neg h5]; exact h4))
  · refine zx_iconst (v := nI 0) dR_take_8 (by decide) ?_
    exact zx_zret hE rfl (by first | decide | exact bI_nar _) dR_take_9 rfl (Nat.le_of_ble_eq_true rfl) (by
      first
      | (have hlt : skp xs s.1 < xs.length := Nat.lt_of_not_le (fun h => by rw [at0_big h] at h5; omega)
         refine ⟨_, rfl, rfl, ?_, h3.tr frR_up, ?_⟩
         · unfold pTake; rw [if_pos h5]; rfl
         · unfold pTake; rw [if_pos h5]; exact h4.at (by omega))
      | (refine ⟨_, rfl, rfl, ?_, h3, ?_⟩
         · unfold pTake; rw [if_neg h5]; rfl
         · unfold pTake; rw [if_neg h5]; exact h4))

def pFol (xs : List Nat) (s : PS) : PR := (decide (¬ at0 xs (skp xs s.1) = 0 ∧ ¬ at0 xs (skp xs s.1) = 124 ∧ ¬ at0 xs (skp xs s.1) = 41), (skp xs s.1, s.2))

set_option maxHeartbeats 4000000 in
set_option maxRecDepth 100000 in
theorem kR_partFollows (G : zG) (d : Nat) (hd : 3 ≤ d) {n : Nat} {sh : zSh} {row : zRw} {r q : Nat} {xs : List Nat} {s : PS} (hR : RdA sh row r q xs s) : zM G (fR_partFollows d) [.ref r] n sh row (zpR sh (fun v row' => v = .int (bI (pFol xs s).1) ∧ frR r q row row' ∧ RdA sh row' r q xs (pFol xs s).2)) := by
  refine zM.of (by show plainName "PostIndex$QueryReader" = true; decide +kernel) (Nat.le_of_ble_eq_true rfl) (by intro v hv; simp at hv; rcases hv with rfl <;> rfl) ?_
  intro K hE
  show zX G K (fR_partFollows d) n 0 0 sh row 0 [.ref r, .retAddr 0] []
  have hD : d - 1 + 1 ≤ d := by omega
  obtain ⟨hs, hp0, hp1, hp2, hT, hQ, hat, hdj⟩ := id hR
  have hxl := hT.2.2.2.2.1
  refine zx_aload_n dR_partFollows_0 rfl ?_
  refine zc_Vr (kR_peekPiece G (d - 1) (by omega) hR) (meR_peekPiece _) lkR_41 hs rfl rfl hD (Nat.le_of_ble_eq_true rfl) rfl rfl (Nat.le_of_ble_eq_true rfl) (Nat.le_of_ble_eq_true rfl) (Nat.le_of_ble_eq_true rfl) dR_partFollows_1 (fun v r2 h2 => ?_)
  obtain ⟨rfl, h3, h4⟩ := h2
  obtain ⟨gs, gp0, gp1, gp2, gT, gQ, gat, gdj⟩ := id h4
  have gct := gT.2.2.2.1
  have gat : skp xs s.1 ≤ xs.length := gat
  have gp2 : r2 r 2 = .int (nI (skp xs s.1)) := gp2
  have hz := gT.lt (i := skp xs s.1)
  refine zx_istore_n dR_partFollows_4 (Nat.le_of_ble_eq_true rfl) rfl rfl ?_
  refine zx_iload_n dR_partFollows_5 rfl ?_
  refine zn_if_eq (tgt := 25) dR_partFollows_6 rfl (by omega) (fun h6 => ?_) (fun h6 => ?_)
  · refine zx_iconst (v := nI 0) dR_partFollows_25 (by decide) ?_
    exact zx_zret hE rfl (by first | decide | exact bI_nar _) dR_partFollows_26 rfl (Nat.le_of_ble_eq_true rfl) (by refine ⟨_, rfl, rfl, ?_, h3, h4⟩; unfold pFol; first | (rw [decide_eq_true (by omega)]; rfl) | (rw [decide_eq_false (by omega)]; rfl))
  · refine zx_iload_n dR_partFollows_9 rfl ?_
    refine zx_bipush (v := nI 124) dR_partFollows_10 (by decide) ?_
    refine zn_icmp_eq (tgt := 25) dR_partFollows_12 rfl (by omega) (by omega) (fun h12 => ?_) (fun h12 => ?_)
    · refine zx_iconst (v := nI 0) dR_partFollows_25 (by decide) ?_
      exact zx_zret hE rfl (by first | decide | exact bI_nar _) dR_partFollows_26 rfl (Nat.le_of_ble_eq_true rfl) (by refine ⟨_, rfl, rfl, ?_, h3, h4⟩; unfold pFol; first | (rw [decide_eq_true (by omega)]; rfl) | (rw [decide_eq_false (by omega)]; rfl))
    · refine zx_iload_n dR_partFollows_15 rfl ?_
      refine zx_bipush (v := nI 41) dR_partFollows_16 (by decide) ?_
      refine zn_icmp_eq (tgt := 25) dR_partFollows_18 rfl (by omega) (by omega) (fun h18 => ?_) (fun h18 => ?_)
      · refine zx_iconst (v := nI 0) dR_partFollows_25 (by decide) ?_
        exact zx_zret hE rfl (by first | decide | exact bI_nar _) dR_partFollows_26 rfl (Nat.le_of_ble_eq_true rfl) (by refine ⟨_, rfl, rfl, ?_, h3, h4⟩; unfold pFol; first | (rw [decide_eq_true (by omega)]; rfl) | (rw [decide_eq_false (by omega)]; rfl))
      · refine zx_iconst (v := nI 1) dR_partFollows_21 (by decide) ?_
        refine zx_goto (tgt := 26) dR_partFollows_22 rfl ?_
        exact zx_zret hE rfl (by first | decide | exact bI_nar _) dR_partFollows_26 rfl (Nat.le_of_ble_eq_true rfl) (by refine ⟨_, rfl, rfl, ?_, h3, h4⟩; unfold pFol; first | (rw [decide_eq_true (by omega)]; rfl) | (rw [decide_eq_false (by omega)]; rfl))

set_option maxHeartbeats 4000000 in
set_option maxRecDepth 100000 in
theorem kR_readWord (G : zG) (d : Nat) (hd : 4 ≤ d) {n : Nat} {sh : zSh} {row : zRw} {r q : Nat} {xs : List Nat} {s : PS} (hR : RdA sh row r q xs s) : zM G (fR_readWord d) [.ref r] n sh row (zpR sh (fun v row' => v = .int (bI (pWord xs s).1) ∧ frR r q row row' ∧ RdA sh row' r q xs (pWord xs s).2)) := by
  refine zM.of (by show plainName "PostIndex$QueryReader" = true; decide +kernel) (Nat.le_of_ble_eq_true rfl) (by intro v hv; simp at hv; rcases hv with rfl <;> rfl) ?_
  intro K hE
  show zX G K (fR_readWord d) n 0 0 sh row 0 [.ref r, .retAddr 0] []
  have hD : d - 1 + 1 ≤ d := by omega
  obtain ⟨hs, hp0, hp1, hp2, hT, hQ, hat, hdj⟩ := id hR
  have hxl := hT.2.2.2.2.1
  refine zx_aload_n dR_readWord_0 rfl ?_
  refine zc_Vv (kR_skipSpaces G (d - 1) (by omega) hR) (meR_skipSpaces _) lkR_81 hs rfl rfl hD (Nat.le_of_ble_eq_true rfl) rfl rfl (Nat.le_of_ble_eq_true rfl) (Nat.le_of_ble_eq_true rfl) (Nat.le_of_ble_eq_true rfl) dR_readWord_1 (fun r2 h2 => ?_)
  obtain ⟨h3, h4⟩ := h2
  obtain ⟨gs, gp0, gp1, gp2, gT, gQ, gat, gdj⟩ := id h4
  have gct := gT.2.2.2.1
  have gat : skp xs s.1 ≤ xs.length := gat
  have gp2 : r2 r 2 = .int (nI (skp xs s.1)) := gp2
  have hte := tokEnd_le (xs := xs) gat
  have htg := tokEnd_ge (xs := xs) (f := skp xs s.1)
  refine zx_aload_n dR_readWord_4 rfl ?_
  refine zx_get dR_readWord_5 flR_33 (by assumption) (by assumption) ?_
  refine zx_istore_n dR_readWord_8 (Nat.le_of_ble_eq_true rfl) rfl rfl ?_
  refine zx_aload_n dR_readWord_9 rfl ?_
  refine zx_aload_n dR_readWord_10 rfl ?_
  refine zx_get dR_readWord_11 flR_12 (by assumption) (by assumption) ?_
  refine zx_iload_n dR_readWord_14 rfl ?_
  refine zc_V (kT_tokenEnd G (d - 1) (by omega) gT (by omega)) (meT_tokenEnd _) lkR_84 gT.1 rfl rfl hD (Nat.le_of_ble_eq_true rfl) rfl rfl (Nat.le_of_ble_eq_true rfl) (Nat.le_of_ble_eq_true rfl) (Nat.le_of_ble_eq_true rfl) dR_readWord_15 ?_
  refine zx_put dR_readWord_18 flR_33 tpR_2 hs rfl rfl ?_
  have h6 := h4.at hte
  obtain ⟨ks0, kp0, kp1, kp2, kT, kQ, kat, kdj⟩ := id h6
  refine zx_aload_n dR_readWord_21 rfl ?_
  refine zx_get dR_readWord_22 flR_33 (by assumption) (by assumption) ?_
  refine zx_iload_n dR_readWord_25 rfl ?_
  refine zn_icmp_le (tgt := 52) dR_readWord_26 rfl (by omega) (by omega) (fun h26 => ?_) (fun h26 => ?_)
  · refine zx_iconst (v := nI 0) dR_readWord_52 (by decide) ?_
    exact zx_zret hE rfl (by first | decide | exact bI_nar _) dR_readWord_53 rfl (Nat.le_of_ble_eq_true rfl) (by
      unfold pWord
      first
      | (rw [if_pos (by omega)]
         have h7 := hq7.2.1
         have h8 := hq7.2.2
         refine ⟨_, rfl, rfl, ?_, (h3.tr frR_up).tr h7.R, (h6.qry h7 h8)⟩
         rw [h45]; rfl)
      | (rw [if_neg (by omega)]
         exact ⟨_, rfl, rfl, rfl, h3.tr frR_up, h6⟩))
  · refine zx_aload_n dR_readWord_29 rfl ?_
    refine zx_get dR_readWord_30 flR_21 (by assumption) (by assumption) ?_
    refine zx_aload_n dR_readWord_33 rfl ?_
    refine zx_get dR_readWord_34 flR_12 (by assumption) (by assumption) ?_
    refine zx_iload_n dR_readWord_37 rfl ?_
    refine zx_aload_n dR_readWord_38 rfl ?_
    refine zx_get dR_readWord_39 flR_33 (by assumption) (by assumption) ?_
    refine zc_Vr (kQ_addWord G (d - 1) (by omega) kQ kT (by omega) htg hte) (meQ_addWord _) lkR_88 kQ.1.1 rfl rfl hD (Nat.le_of_ble_eq_true rfl) rfl rfl (Nat.le_of_ble_eq_true rfl) (Nat.le_of_ble_eq_true rfl) (Nat.le_of_ble_eq_true rfl) dR_readWord_42 (fun v r4 hq7 => ?_)
    have hv := hq7.1
    subst hv
    refine zb_if_eq (tgt := 52) dR_readWord_45 rfl (fun h45 => ?_) (fun h45 => ?_)
    · refine zx_iconst (v := nI 0) dR_readWord_52 (by decide) ?_
      exact zx_zret hE rfl (by first | decide | exact bI_nar _) dR_readWord_53 rfl (Nat.le_of_ble_eq_true rfl) (by
      unfold pWord
      first
      | (rw [if_pos (by omega)]
         have h7 := hq7.2.1
         have h8 := hq7.2.2
         refine ⟨_, rfl, rfl, ?_, (h3.tr frR_up).tr h7.R, (h6.qry h7 h8)⟩
         rw [h45]; rfl)
      | (rw [if_neg (by omega)]
         exact ⟨_, rfl, rfl, rfl, h3.tr frR_up, h6⟩))
    · refine zx_iconst (v := nI 1) dR_readWord_48 (by decide) ?_
      refine zx_goto (tgt := 53) dR_readWord_49 rfl ?_
      exact zx_zret hE rfl (by first | decide | exact bI_nar _) dR_readWord_53 rfl (Nat.le_of_ble_eq_true rfl) (by
      unfold pWord
      first
      | (rw [if_pos (by omega)]
         have h7 := hq7.2.1
         have h8 := hq7.2.2
         refine ⟨_, rfl, rfl, ?_, (h3.tr frR_up).tr h7.R, (h6.qry h7 h8)⟩
         rw [h45]; rfl)
      | (rw [if_neg (by omega)]
         exact ⟨_, rfl, rfl, rfl, h3.tr frR_up, h6⟩))
end
section
def pThen (a : PR) (f : PS → PR) : PR := if a.1 = true then f a.2 else (false, a.2)
theorem pThen_t {a : PR} {f : PS → PR} (h : a.1 = true) : pThen a f = f a.2 := by unfold pThen; rw [if_pos h]
theorem pThen_f {a : PR} {f : PS → PR} (h : a.1 = false) : pThen a f = (false, a.2) := by unfold pThen; rw [if_neg (by rw [h]; decide)]
def rowL (xs : List Nat) : Nat → PR → PR
  | 0, g => g
  | j + 1, g => if g.1 = true then (if at0 xs (skp xs g.2.1) = 34 then (true, (skp xs g.2.1, g.2.2)) else rowL xs j (pWord xs (skp xs g.2.1, g.2.2))) else g
theorem rowL_f {xs : List Nat} {j : Nat} {g : PR} (h : g.1 = false) : rowL xs j g = g := by
  cases j with
  | zero => rfl
  | succ j => show (if g.1 = true then _ else _) = _; rw [if_neg (by rw [h]; decide)]
theorem rowL_q {xs : List Nat} {j : Nat} {g : PR} (hj : 0 < j) (h : g.1 = true) (h2 : at0 xs (skp xs g.2.1) = 34) : rowL xs j g = (true, (skp xs g.2.1, g.2.2)) := by
  cases j with
  | zero => omega
  | succ j => show (if g.1 = true then _ else _) = _; rw [if_pos h, if_pos h2]
def pRow (xs : List Nat) (s : PS) : PR := pThen (rowL xs 24 (pThen (pTake xs 34 s) (pWord xs))) (fun s1 => pThen (pTake xs 34 s1) (pStep 0 (nI s.2.2.length)))
def partL (xs : List Nat) : Nat → PR → PR
  | 0, g => g
  | j + 1, g => if (pTake xs 45 g.2).1 = true then partL xs j (!g.1, (pTake xs 45 g.2).2) else (g.1, (pTake xs 45 g.2).2)
def gOne (xs : List Nat) (nest : PS → PR) (can : Bool) (s : PS) : PR :=
  if at0 xs (skp xs s.1) = 40 then (if can = true then pThen (pTake xs 40 (skp xs s.1, s.2)) (fun s2 => pThen (nest s2) (pTake xs 41)) else (false, (skp xs s.1, s.2)))
  else if at0 xs (skp xs s.1) = 34 then pRow xs (skp xs s.1, s.2)
  else if at0 xs (skp xs s.1) = 61 then pFilter xs 1 (skp xs s.1, s.2)
  else if at0 xs (skp xs s.1) = 60 then pFilter xs 2 (skp xs s.1, s.2)
  else if at0 xs (skp xs s.1) = 62 then pFilter xs 3 (skp xs s.1, s.2)
  else pThen (pWord xs (skp xs s.1, s.2)) (fun s2 => pStep 0 (nI (s2.2.2.length - 1)) s2)
def denF (b : Bool) (s2 : PS) : PR := if b = true then pStep 4 (nI 0) s2 else (true, s2)
theorem denF_t {b : Bool} {s2 : PS} (h : b = true) : denF b s2 = pStep 4 (nI 0) s2 := by unfold denF; rw [if_pos h]
theorem denF_f {b : Bool} {s2 : PS} (h : b = false) : denF b s2 = (true, s2) := by unfold denF; rw [if_neg (by rw [h]; decide)]
def gPart (xs : List Nat) (nest : PS → PR) (can : Bool) (s : PS) : PR := pThen (gOne xs nest can (partL xs 24 (false, s)).2) (denF (partL xs 24 (false, s)).1)
def allL (xs : List Nat) (part : PS → PR) : Nat → PR → PR
  | 0, g => g
  | j + 1, g => if g.1 = true then (if (pFol xs g.2).1 = true then allL xs part j (pThen (part (pFol xs g.2).2) (pStep 5 (nI 0))) else (true, (pFol xs g.2).2)) else g
def gAll (xs : List Nat) (nest : PS → PR) (can : Bool) (s : PS) : PR := allL xs (gPart xs nest can) 24 (gPart xs nest can s)
def anyL (xs : List Nat) (all : PS → PR) : Nat → PR → PR
  | 0, g => g
  | j + 1, g => if g.1 = true then (if (pTake xs 124 g.2).1 = true then anyL xs all j (pThen (all (pTake xs 124 g.2).2) (pStep 6 (nI 0))) else (true, (pTake xs 124 g.2).2)) else g
def gAny (xs : List Nat) (nest : PS → PR) (can : Bool) (s : PS) : PR := anyL xs (gAll xs nest can) 24 (gAll xs nest can s)
/-- m: how many brackets may still be opened -/
def pAny (xs : List Nat) : Nat → PS → PR
  | 0 => gAny xs (fun s => (false, s)) false
  | m + 1 => gAny xs (pAny xs m) true
/-- what a reader's method does: the function's answer and state -/
abbrev zRd (sh : zSh) (row : zRw) (r q : Nat) (xs : List Nat) (a : PR) : Option Value → zSh → zRw → Prop := zpR sh (fun v row' => v = .int (bI a.1) ∧ frR r q row row' ∧ RdA sh row' r q xs a.2)
theorem pWord_pos {xs : List Nat} {s : PS} (h : (pWord xs s).1 = true) : 1 ≤ (pWord xs s).2.2.2.length := by
  unfold pWord at h ⊢
  split
  · next hq =>
    rw [if_pos hq] at h
    have hl := of_decide_eq_true h
    show 1 ≤ (if s.2.2.length < 12 then _ else _ : List (List Nat)).length
    rw [if_pos hl]; simp
  · next hq => rw [if_neg hq] at h; cases h
theorem rd_step {sh : zSh} {row row' : zRw} {r q kd : Nat} {nu : Int32} {xs : List Nat} {s : PS} {v : Value} (h : RdA sh row r q xs s) (h7 : v = .int (bI (decide (s.2.1.length < 48))) ∧ frI q (q + 28) row row' ∧ QryA sh row' q (if s.2.1.length < 48 then s.2.1 ++ [(kd, nu, s.2.2.length)] else s.2.1) s.2.2) : v = .int (bI (pStep kd nu s).1) ∧ frR r q row row' ∧ RdA sh row' r q xs (pStep kd nu s).2 := ⟨h7.1, h7.2.1.R, h.qry h7.2.1 h7.2.2⟩

set_option maxHeartbeats 4000000 in
set_option maxRecDepth 100000 in
theorem kR_readFilter (G : zG) (d : Nat) (hd : 3 ≤ d) {n : Nat} {sh : zSh} {row : zRw} {r q : Nat} {xs : List Nat} {s : PS} (hR : RdA sh row r q xs s) {kd : Nat} (hlt : s.1 < xs.length) : zM G (fR_readFilter d) [.ref r, .int (nI kd)] n sh row (zRd sh row r q xs (pFilter xs kd s)) := by
  refine zM.of (by show plainName "PostIndex$QueryReader" = true; decide +kernel) (Nat.le_of_ble_eq_true rfl) (by intro v hv; simp at hv; rcases hv with rfl | rfl <;> rfl) ?_
  intro K hE
  show zX G K (fR_readFilter d) n 0 0 sh row 0 [.ref r, .int (nI kd), .retAddr 0, .retAddr 0] []
  have hD : d - 1 + 1 ≤ d := by omega
  obtain ⟨hs, hp0, hp1, hp2, hT, hQ, hat, hdj⟩ := id hR
  have hxl := hT.2.2.2.2.1
  have loop : ∀ (k : Nat) (a m j : Nat) (r2 : zRw), xs.length - a < k → frR r q row r2 → RdA sh r2 r q xs (a, s.2) → filL xs 9 (s.1 + 1) 0 = filL xs j a m → a + j = s.1 + 1 + 9 → s.1 + 1 ≤ a → zX G K (fR_readFilter d) n 0 0 sh r2 17 [.ref r, .int (nI kd), .int (nI (s.1 + 1)), .int (nI m)] [] := by
    intro k
    induction k with
    | zero => intro a m j r2 hk; exact absurd hk (Nat.not_lt_zero _)
    | succ k ih =>
      intro a m j r2 hk h3 h4 h5 h6 h7
      obtain ⟨gs, gp0, gp1, gp2, gT, gQ, gat, gdj⟩ := id h4
      have gct := gT.2.2.2.1
      have gat : a ≤ xs.length := gat
      have gp2 : r2 r 2 = .int (nI a) := gp2
      refine zx_aload_n dR_readFilter_17 rfl ?_
      refine zx_get dR_readFilter_18 flR_33 (by assumption) (by assumption) ?_
      refine zx_aload_n dR_readFilter_21 rfl ?_
      refine zx_get dR_readFilter_22 flR_12 (by assumption) (by assumption) ?_
      refine zx_getN dR_readFilter_25 flR_92 gT.1 gct ?_
      refine zn_icmp_ge (tgt := 92) dR_readFilter_28 rfl (by omega) (by omega) (fun h28 => ?_) (fun h28 => ?_)
      · have hfx : filL xs 9 (s.1 + 1) 0 = (a, m) := by
          rw [h5]
          cases j with
          | zero => rfl
          | succ j => rw [filL, if_neg (by first | (intro hh; omega) | (intro hh; rw [h56] at hh; exact absurd hh.2 (by decide)))]
        have hz2 := gT.lt (i := a)
        refine zx_aload_n dR_readFilter_92 rfl ?_
        refine zx_get dR_readFilter_93 flR_33 (by assumption) (by assumption) ?_
        refine zx_iload_n dR_readFilter_96 rfl ?_
        refine zn_icmp_le (tgt := 133) dR_readFilter_97 rfl (by omega) (by omega) (fun h97 => ?_) (fun h97 => ?_)
        · refine zx_iconst (v := nI 0) dR_readFilter_133 (by decide) ?_
          exact zx_zret hE rfl (by first | decide | exact bI_nar _) dR_readFilter_134 rfl (Nat.le_of_ble_eq_true rfl) (by
              unfold pFilter
              rw [hfx]
              first
              | (rw [if_pos ⟨by omega, h114⟩]; exact ⟨_, rfl, rfl, by rw [h126]; rfl, h3.tr hf4, hR4⟩)
              | (rw [if_neg (by first | (intro hh; omega) | (intro hh; rw [h114] at hh; exact absurd hh.2 (by decide)))]; exact ⟨_, rfl, rfl, rfl, h3, h4⟩))
        · refine zx_aload_n dR_readFilter_100 rfl ?_
          refine zx_get dR_readFilter_101 flR_12 (by assumption) (by assumption) ?_
          refine zx_aload_n dR_readFilter_104 rfl ?_
          refine zx_get dR_readFilter_105 flR_33 (by assumption) (by assumption) ?_
          refine zc_V (kT_charOr0 G (d - 1) (by omega) gT (by omega)) (meT_charOr0 _) lkR_95 gT.1 rfl rfl hD (Nat.le_of_ble_eq_true rfl) rfl rfl (Nat.le_of_ble_eq_true rfl) (Nat.le_of_ble_eq_true rfl) (Nat.le_of_ble_eq_true rfl) dR_readFilter_108 ?_
          refine zc_S (kT_isDigit G (d - 1) (by omega) (by omega)) (meT_isDigit _) lkR_99 rfl hD (Nat.le_of_ble_eq_true rfl) rfl rfl (Nat.le_of_ble_eq_true rfl) (Nat.le_of_ble_eq_true rfl) (Nat.le_of_ble_eq_true rfl) dR_readFilter_111 ?_
          refine zb_if_ne (tgt := 133) dR_readFilter_114 rfl (fun h114 => ?_) (fun h114 => ?_)
          · refine zx_iconst (v := nI 0) dR_readFilter_133 (by decide) ?_
            exact zx_zret hE rfl (by first | decide | exact bI_nar _) dR_readFilter_134 rfl (Nat.le_of_ble_eq_true rfl) (by
              unfold pFilter
              rw [hfx]
              first
              | (rw [if_pos ⟨by omega, h114⟩]; exact ⟨_, rfl, rfl, by rw [h126]; rfl, h3.tr hf4, hR4⟩)
              | (rw [if_neg (by first | (intro hh; omega) | (intro hh; rw [h114] at hh; exact absurd hh.2 (by decide)))]; exact ⟨_, rfl, rfl, rfl, h3, h4⟩))
          · refine zx_aload_n dR_readFilter_117 rfl ?_
            refine zx_get dR_readFilter_118 flR_21 (by assumption) (by assumption) ?_
            refine zx_iload_n dR_readFilter_121 rfl ?_
            refine zx_iload_n dR_readFilter_122 rfl ?_
            refine zc_Vr (kQ_addStep G (d - 1) (by omega) (kd := kd) (nu := nI m) gQ) (meQ_addStep _) lkR_52 gQ.1.1 rfl rfl hD (Nat.le_of_ble_eq_true rfl) rfl rfl (Nat.le_of_ble_eq_true rfl) (Nat.le_of_ble_eq_true rfl) (Nat.le_of_ble_eq_true rfl) dR_readFilter_123 (fun v r4 hq7 => ?_)
            obtain ⟨hv, hf4, hR4⟩ := rd_step h4 hq7
            subst hv
            refine zb_if_eq (tgt := 133) dR_readFilter_126 rfl (fun h126 => ?_) (fun h126 => ?_)
            · refine zx_iconst (v := nI 0) dR_readFilter_133 (by decide) ?_
              exact zx_zret hE rfl (by first | decide | exact bI_nar _) dR_readFilter_134 rfl (Nat.le_of_ble_eq_true rfl) (by
              unfold pFilter
              rw [hfx]
              first
              | (rw [if_pos ⟨by omega, h114⟩]; exact ⟨_, rfl, rfl, by rw [h126]; rfl, h3.tr hf4, hR4⟩)
              | (rw [if_neg (by first | (intro hh; omega) | (intro hh; rw [h114] at hh; exact absurd hh.2 (by decide)))]; exact ⟨_, rfl, rfl, rfl, h3, h4⟩))
            · refine zx_iconst (v := nI 1) dR_readFilter_129 (by decide) ?_
              refine zx_goto (tgt := 134) dR_readFilter_130 rfl ?_
              exact zx_zret hE rfl (by first | decide | exact bI_nar _) dR_readFilter_134 rfl (Nat.le_of_ble_eq_true rfl) (by
              unfold pFilter
              rw [hfx]
              first
              | (rw [if_pos ⟨by omega, h114⟩]; exact ⟨_, rfl, rfl, by rw [h126]; rfl, h3.tr hf4, hR4⟩)
              | (rw [if_neg (by first | (intro hh; omega) | (intro hh; rw [h114] at hh; exact absurd hh.2 (by decide)))]; exact ⟨_, rfl, rfl, rfl, h3, h4⟩))
      · refine zx_aload_n dR_readFilter_31 rfl ?_
        refine zx_get dR_readFilter_32 flR_33 (by assumption) (by assumption) ?_
        refine zx_iload_n dR_readFilter_35 rfl ?_
        refine zn_isub dR_readFilter_36 (by omega) ?_
        refine zx_bipush (v := nI 9) dR_readFilter_37 (by decide) ?_
        refine zn_icmp_ge (tgt := 92) dR_readFilter_39 rfl (by omega) (by omega) (fun h39 => ?_) (fun h39 => ?_)
        · have hfx : filL xs 9 (s.1 + 1) 0 = (a, m) := by
            rw [h5]
            cases j with
            | zero => rfl
            | succ j => rw [filL, if_neg (by first | (intro hh; omega) | (intro hh; rw [h56] at hh; exact absurd hh.2 (by decide)))]
          have hz2 := gT.lt (i := a)
          refine zx_aload_n dR_readFilter_92 rfl ?_
          refine zx_get dR_readFilter_93 flR_33 (by assumption) (by assumption) ?_
          refine zx_iload_n dR_readFilter_96 rfl ?_
          refine zn_icmp_le (tgt := 133) dR_readFilter_97 rfl (by omega) (by omega) (fun h97 => ?_) (fun h97 => ?_)
          · refine zx_iconst (v := nI 0) dR_readFilter_133 (by decide) ?_
            exact zx_zret hE rfl (by first | decide | exact bI_nar _) dR_readFilter_134 rfl (Nat.le_of_ble_eq_true rfl) (by
                unfold pFilter
                rw [hfx]
                first
                | (rw [if_pos ⟨by omega, h114⟩]; exact ⟨_, rfl, rfl, by rw [h126]; rfl, h3.tr hf4, hR4⟩)
                | (rw [if_neg (by first | (intro hh; omega) | (intro hh; rw [h114] at hh; exact absurd hh.2 (by decide)))]; exact ⟨_, rfl, rfl, rfl, h3, h4⟩))
          · refine zx_aload_n dR_readFilter_100 rfl ?_
            refine zx_get dR_readFilter_101 flR_12 (by assumption) (by assumption) ?_
            refine zx_aload_n dR_readFilter_104 rfl ?_
            refine zx_get dR_readFilter_105 flR_33 (by assumption) (by assumption) ?_
            refine zc_V (kT_charOr0 G (d - 1) (by omega) gT (by omega)) (meT_charOr0 _) lkR_95 gT.1 rfl rfl hD (Nat.le_of_ble_eq_true rfl) rfl rfl (Nat.le_of_ble_eq_true rfl) (Nat.le_of_ble_eq_true rfl) (Nat.le_of_ble_eq_true rfl) dR_readFilter_108 ?_
            refine zc_S (kT_isDigit G (d - 1) (by omega) (by omega)) (meT_isDigit _) lkR_99 rfl hD (Nat.le_of_ble_eq_true rfl) rfl rfl (Nat.le_of_ble_eq_true rfl) (Nat.le_of_ble_eq_true rfl) (Nat.le_of_ble_eq_true rfl) dR_readFilter_111 ?_
            refine zb_if_ne (tgt := 133) dR_readFilter_114 rfl (fun h114 => ?_) (fun h114 => ?_)
            · refine zx_iconst (v := nI 0) dR_readFilter_133 (by decide) ?_
              exact zx_zret hE rfl (by first | decide | exact bI_nar _) dR_readFilter_134 rfl (Nat.le_of_ble_eq_true rfl) (by
                unfold pFilter
                rw [hfx]
                first
                | (rw [if_pos ⟨by omega, h114⟩]; exact ⟨_, rfl, rfl, by rw [h126]; rfl, h3.tr hf4, hR4⟩)
                | (rw [if_neg (by first | (intro hh; omega) | (intro hh; rw [h114] at hh; exact absurd hh.2 (by decide)))]; exact ⟨_, rfl, rfl, rfl, h3, h4⟩))
            · refine zx_aload_n dR_readFilter_117 rfl ?_
              refine zx_get dR_readFilter_118 flR_21 (by assumption) (by assumption) ?_
              refine zx_iload_n dR_readFilter_121 rfl ?_
              refine zx_iload_n dR_readFilter_122 rfl ?_
              refine zc_Vr (kQ_addStep G (d - 1) (by omega) (kd := kd) (nu := nI m) gQ) (meQ_addStep _) lkR_52 gQ.1.1 rfl rfl hD (Nat.le_of_ble_eq_true rfl) rfl rfl (Nat.le_of_ble_eq_true rfl) (Nat.le_of_ble_eq_true rfl) (Nat.le_of_ble_eq_true rfl) dR_readFilter_123 (fun v r4 hq7 => ?_)
              obtain ⟨hv, hf4, hR4⟩ := rd_step h4 hq7
              subst hv
              refine zb_if_eq (tgt := 133) dR_readFilter_126 rfl (fun h126 => ?_) (fun h126 => ?_)
              · refine zx_iconst (v := nI 0) dR_readFilter_133 (by decide) ?_
                exact zx_zret hE rfl (by first | decide | exact bI_nar _) dR_readFilter_134 rfl (Nat.le_of_ble_eq_true rfl) (by
                unfold pFilter
                rw [hfx]
                first
                | (rw [if_pos ⟨by omega, h114⟩]; exact ⟨_, rfl, rfl, by rw [h126]; rfl, h3.tr hf4, hR4⟩)
                | (rw [if_neg (by first | (intro hh; omega) | (intro hh; rw [h114] at hh; exact absurd hh.2 (by decide)))]; exact ⟨_, rfl, rfl, rfl, h3, h4⟩))
              · refine zx_iconst (v := nI 1) dR_readFilter_129 (by decide) ?_
                refine zx_goto (tgt := 134) dR_readFilter_130 rfl ?_
                exact zx_zret hE rfl (by first | decide | exact bI_nar _) dR_readFilter_134 rfl (Nat.le_of_ble_eq_true rfl) (by
                unfold pFilter
                rw [hfx]
                first
                | (rw [if_pos ⟨by omega, h114⟩]; exact ⟨_, rfl, rfl, by rw [h126]; rfl, h3.tr hf4, hR4⟩)
                | (rw [if_neg (by first | (intro hh; omega) | (intro hh; rw [h114] at hh; exact absurd hh.2 (by decide)))]; exact ⟨_, rfl, rfl, rfl, h3, h4⟩))
        · refine zx_aload_n dR_readFilter_42 rfl ?_
          refine zx_get dR_readFilter_43 flR_12 (by assumption) (by assumption) ?_
          refine zx_aload_n dR_readFilter_46 rfl ?_
          refine zx_get dR_readFilter_47 flR_33 (by assumption) (by assumption) ?_
          refine zc_V (kT_charOr0 G (d - 1) (by omega) gT (by omega)) (meT_charOr0 _) lkR_95 gT.1 rfl rfl hD (Nat.le_of_ble_eq_true rfl) rfl rfl (Nat.le_of_ble_eq_true rfl) (Nat.le_of_ble_eq_true rfl) (Nat.le_of_ble_eq_true rfl) dR_readFilter_50 ?_
          have hz := gT.lt (i := a)
          refine zc_S (kT_isDigit G (d - 1) (by omega) (by omega)) (meT_isDigit _) lkR_99 rfl hD (Nat.le_of_ble_eq_true rfl) rfl rfl (Nat.le_of_ble_eq_true rfl) (Nat.le_of_ble_eq_true rfl) (Nat.le_of_ble_eq_true rfl) dR_readFilter_53 ?_
          refine zb_if_eq (tgt := 92) dR_readFilter_56 rfl (fun h56 => ?_) (fun h56 => ?_)
          · have hfx : filL xs 9 (s.1 + 1) 0 = (a, m) := by
              rw [h5]
              cases j with
              | zero => rfl
              | succ j => rw [filL, if_neg (by first | (intro hh; omega) | (intro hh; rw [h56] at hh; exact absurd hh.2 (by decide)))]
            have hz2 := gT.lt (i := a)
            refine zx_aload_n dR_readFilter_92 rfl ?_
            refine zx_get dR_readFilter_93 flR_33 (by assumption) (by assumption) ?_
            refine zx_iload_n dR_readFilter_96 rfl ?_
            refine zn_icmp_le (tgt := 133) dR_readFilter_97 rfl (by omega) (by omega) (fun h97 => ?_) (fun h97 => ?_)
            · refine zx_iconst (v := nI 0) dR_readFilter_133 (by decide) ?_
              exact zx_zret hE rfl (by first | decide | exact bI_nar _) dR_readFilter_134 rfl (Nat.le_of_ble_eq_true rfl) (by
                  unfold pFilter
                  rw [hfx]
                  first
                  | (rw [if_pos ⟨by omega, h114⟩]; exact ⟨_, rfl, rfl, by rw [h126]; rfl, h3.tr hf4, hR4⟩)
                  | (rw [if_neg (by first | (intro hh; omega) | (intro hh; rw [h114] at hh; exact absurd hh.2 (by decide)))]; exact ⟨_, rfl, rfl, rfl, h3, h4⟩))
            · refine zx_aload_n dR_readFilter_100 rfl ?_
              refine zx_get dR_readFilter_101 flR_12 (by assumption) (by assumption) ?_
              refine zx_aload_n dR_readFilter_104 rfl ?_
              refine zx_get dR_readFilter_105 flR_33 (by assumption) (by assumption) ?_
              refine zc_V (kT_charOr0 G (d - 1) (by omega) gT (by omega)) (meT_charOr0 _) lkR_95 gT.1 rfl rfl hD (Nat.le_of_ble_eq_true rfl) rfl rfl (Nat.le_of_ble_eq_true rfl) (Nat.le_of_ble_eq_true rfl) (Nat.le_of_ble_eq_true rfl) dR_readFilter_108 ?_
              refine zc_S (kT_isDigit G (d - 1) (by omega) (by omega)) (meT_isDigit _) lkR_99 rfl hD (Nat.le_of_ble_eq_true rfl) rfl rfl (Nat.le_of_ble_eq_true rfl) (Nat.le_of_ble_eq_true rfl) (Nat.le_of_ble_eq_true rfl) dR_readFilter_111 ?_
              refine zb_if_ne (tgt := 133) dR_readFilter_114 rfl (fun h114 => ?_) (fun h114 => ?_)
              · refine zx_iconst (v := nI 0) dR_readFilter_133 (by decide) ?_
                exact zx_zret hE rfl (by first | decide | exact bI_nar _) dR_readFilter_134 rfl (Nat.le_of_ble_eq_true rfl) (by
                  unfold pFilter
                  rw [hfx]
                  first
                  | (rw [if_pos ⟨by omega, h114⟩]; exact ⟨_, rfl, rfl, by rw [h126]; rfl, h3.tr hf4, hR4⟩)
                  | (rw [if_neg (by first | (intro hh; omega) | (intro hh; rw [h114] at hh; exact absurd hh.2 (by decide)))]; exact ⟨_, rfl, rfl, rfl, h3, h4⟩))
              · refine zx_aload_n dR_readFilter_117 rfl ?_
                refine zx_get dR_readFilter_118 flR_21 (by assumption) (by assumption) ?_
                refine zx_iload_n dR_readFilter_121 rfl ?_
                refine zx_iload_n dR_readFilter_122 rfl ?_
                refine zc_Vr (kQ_addStep G (d - 1) (by omega) (kd := kd) (nu := nI m) gQ) (meQ_addStep _) lkR_52 gQ.1.1 rfl rfl hD (Nat.le_of_ble_eq_true rfl) rfl rfl (Nat.le_of_ble_eq_true rfl) (Nat.le_of_ble_eq_true rfl) (Nat.le_of_ble_eq_true rfl) dR_readFilter_123 (fun v r4 hq7 => ?_)
                obtain ⟨hv, hf4, hR4⟩ := rd_step h4 hq7
                subst hv
                refine zb_if_eq (tgt := 133) dR_readFilter_126 rfl (fun h126 => ?_) (fun h126 => ?_)
                · refine zx_iconst (v := nI 0) dR_readFilter_133 (by decide) ?_
                  exact zx_zret hE rfl (by first | decide | exact bI_nar _) dR_readFilter_134 rfl (Nat.le_of_ble_eq_true rfl) (by
                  unfold pFilter
                  rw [hfx]
                  first
                  | (rw [if_pos ⟨by omega, h114⟩]; exact ⟨_, rfl, rfl, by rw [h126]; rfl, h3.tr hf4, hR4⟩)
                  | (rw [if_neg (by first | (intro hh; omega) | (intro hh; rw [h114] at hh; exact absurd hh.2 (by decide)))]; exact ⟨_, rfl, rfl, rfl, h3, h4⟩))
                · refine zx_iconst (v := nI 1) dR_readFilter_129 (by decide) ?_
                  refine zx_goto (tgt := 134) dR_readFilter_130 rfl ?_
                  exact zx_zret hE rfl (by first | decide | exact bI_nar _) dR_readFilter_134 rfl (Nat.le_of_ble_eq_true rfl) (by
                  unfold pFilter
                  rw [hfx]
                  first
                  | (rw [if_pos ⟨by omega, h114⟩]; exact ⟨_, rfl, rfl, by rw [h126]; rfl, h3.tr hf4, hR4⟩)
                  | (rw [if_neg (by first | (intro hh; omega) | (intro hh; rw [h114] at hh; exact absurd hh.2 (by decide)))]; exact ⟨_, rfl, rfl, rfl, h3, h4⟩))
          · have hdg : 48 ≤ at0 xs a := (of_decide_eq_true h56).1
            refine zx_bipush (v := nI 10) dR_readFilter_59 (by decide) ?_
            refine zx_iload_n dR_readFilter_61 rfl ?_
            refine zn_imul dR_readFilter_62 ?_
            refine zx_aload_n dR_readFilter_63 rfl ?_
            refine zx_get dR_readFilter_64 flR_12 (by assumption) (by assumption) ?_
            refine zx_aload_n dR_readFilter_67 rfl ?_
            refine zx_get dR_readFilter_68 flR_33 (by assumption) (by assumption) ?_
            refine zc_V (kT_charOr0 G (d - 1) (by omega) gT (by omega)) (meT_charOr0 _) lkR_95 gT.1 rfl rfl hD (Nat.le_of_ble_eq_true rfl) rfl rfl (Nat.le_of_ble_eq_true rfl) (Nat.le_of_ble_eq_true rfl) (Nat.le_of_ble_eq_true rfl) dR_readFilter_71 ?_
            refine zx_bipush (v := nI 48) dR_readFilter_74 (by decide) ?_
            refine zn_isub dR_readFilter_76 (by omega) ?_
            refine zn_iadd dR_readFilter_77 ?_
            refine zx_istore_n dR_readFilter_78 (Nat.le_of_ble_eq_true rfl) rfl rfl ?_
            refine zx_aload_n dR_readFilter_79 rfl ?_
            refine zx_dup dR_readFilter_80 rfl ?_
            refine zx_get dR_readFilter_81 flR_33 (by assumption) (by assumption) ?_
            refine zx_iconst (v := nI 1) dR_readFilter_84 (by decide) ?_
            refine zn_iadd dR_readFilter_85 ?_
            refine zx_put dR_readFilter_86 flR_33 tpR_2 (by assumption) rfl rfl ?_
            refine zx_goto (tgt := 17) dR_readFilter_89 rfl ?_
            obtain ⟨j, rfl⟩ : ∃ j1, j = j1 + 1 := ⟨j - 1, by omega⟩
            refine ih (a + 1) _ j _ (by omega) (h3.tr frR_up) (h4.at (by omega)) ?_ (by omega) (by omega)
            rw [h5, filL, if_pos ⟨by omega, h56⟩]
  refine zx_aload_n dR_readFilter_0 rfl ?_
  refine zx_dup dR_readFilter_1 rfl ?_
  refine zx_get dR_readFilter_2 flR_33 (by assumption) (by assumption) ?_
  refine zx_iconst (v := nI 1) dR_readFilter_5 (by decide) ?_
  refine zn_iadd dR_readFilter_6 ?_
  refine zx_put dR_readFilter_7 flR_33 tpR_2 hs rfl rfl ?_
  have hR1 := hR.at (a := s.1 + 1) (by omega)
  have kp2 := hR1.2.2.2.1
  refine zx_aload_n dR_readFilter_10 rfl ?_
  refine zx_get dR_readFilter_11 flR_33 (by assumption) (by assumption) ?_
  refine zx_istore_n dR_readFilter_14 (Nat.le_of_ble_eq_true rfl) rfl rfl ?_
  refine zx_iconst (v := nI 0) dR_readFilter_15 (by decide) ?_
  refine zx_istore_n dR_readFilter_16 (Nat.le_of_ble_eq_true rfl) rfl rfl ?_
  exact loop _ (s.1 + 1) 0 9 _ (Nat.lt_succ_self _) frR_up hR1 rfl rfl (Nat.le_refl _)

set_option maxHeartbeats 4000000 in
set_option maxRecDepth 100000 in
theorem kR_readRow (G : zG) (d : Nat) (hd : 5 ≤ d) {n : Nat} {sh : zSh} {row : zRw} {r q : Nat} {xs : List Nat} {s : PS} (hR : RdA sh row r q xs s) : zM G (fR_readRow d) [.ref r] n sh row (zRd sh row r q xs (pRow xs s)) := by
  refine zM.of (by show plainName "PostIndex$QueryReader" = true; decide +kernel) (Nat.le_of_ble_eq_true rfl) (by intro v hv; simp at hv; rcases hv with rfl <;> rfl) ?_
  intro K hE
  show zX G K (fR_readRow d) n 0 0 sh row 0 [.ref r, .retAddr 0, .retAddr 0, .retAddr 0] []
  have hD : d - 1 + 1 ≤ d := by omega
  obtain ⟨hs, hp0, hp1, hp2, hT, hQ, hat, hdj⟩ := id hR
  have hxl := hT.2.2.2.2.1
  have exit : ∀ (l : PR) (v3 : Value) (rX : zRw), l = rowL xs 24 (pThen (pTake xs 34 s) (pWord xs)) → frR r q row rX → RdA sh rX r q xs l.2 → zX G K (fR_readRow d) n 0 0 sh rX 62 [.ref r, .int (nI s.2.2.length), .int (bI l.1), v3] [] := by
    intro l v3 rX hL hXf hX
    refine zx_iload_n dR_readRow_62 rfl ?_
    refine zb_if_eq (tgt := 90) dR_readRow_63 rfl (fun h63 => ?_) (fun h63 => ?_)
    · refine zx_iconst (v := nI 0) dR_readRow_90 (by decide) ?_
      exact zx_zret hE rfl (by first | decide | exact bI_nar _) dR_readRow_91 rfl (Nat.le_of_ble_eq_true rfl) (by
      unfold pRow
      rw [← hL]
      first
      | (rw [pThen_t h63, pThen_t h72]; exact ⟨_, rfl, rfl, by rw [h83]; rfl, (hXf.tr h14).tr hf6, hR6⟩)
      | (rw [pThen_t h63, pThen_f h72]; exact ⟨_, rfl, rfl, rfl, hXf.tr h14, h15⟩)
      | (rw [pThen_f h63]; exact ⟨_, rfl, rfl, rfl, hXf, hX⟩))
    · refine zx_aload_n dR_readRow_66 rfl ?_
      refine zx_bipush (v := nI 34) dR_readRow_67 (by decide) ?_
      refine zc_Vr (kR_take G (d - 1) (by omega) hX (c := 34) (by decide) (by decide)) (meR_take _) lkR_48 hs rfl rfl hD (Nat.le_of_ble_eq_true rfl) rfl rfl (Nat.le_of_ble_eq_true rfl) (Nat.le_of_ble_eq_true rfl) (Nat.le_of_ble_eq_true rfl) dR_readRow_69 (fun v r5 h13 => ?_)
      obtain ⟨rfl, h14, h15⟩ := h13
      refine zb_if_eq (tgt := 90) dR_readRow_72 rfl (fun h72 => ?_) (fun h72 => ?_)
      · refine zx_iconst (v := nI 0) dR_readRow_90 (by decide) ?_
        exact zx_zret hE rfl (by first | decide | exact bI_nar _) dR_readRow_91 rfl (Nat.le_of_ble_eq_true rfl) (by
      unfold pRow
      rw [← hL]
      first
      | (rw [pThen_t h63, pThen_t h72]; exact ⟨_, rfl, rfl, by rw [h83]; rfl, (hXf.tr h14).tr hf6, hR6⟩)
      | (rw [pThen_t h63, pThen_f h72]; exact ⟨_, rfl, rfl, rfl, hXf.tr h14, h15⟩)
      | (rw [pThen_f h63]; exact ⟨_, rfl, rfl, rfl, hXf, hX⟩))
      · refine zx_aload_n dR_readRow_75 rfl ?_
        refine zx_get dR_readRow_76 flR_21 hs h15.2.2.1 ?_
        refine zx_iload_n dR_readRow_79 rfl ?_
        refine zc_Vr (kQ_addWordsStep G (d - 1) (by omega) (nu := nI s.2.2.length) h15.2.2.2.2.2.1) (meQ_addWordsStep _) lkR_78 h15.2.2.2.2.2.1.1.1 rfl rfl hD (Nat.le_of_ble_eq_true rfl) rfl rfl (Nat.le_of_ble_eq_true rfl) (Nat.le_of_ble_eq_true rfl) (Nat.le_of_ble_eq_true rfl) dR_readRow_80 (fun v r6 hq7 => ?_)
        obtain ⟨hv, hf6, hR6⟩ := rd_step h15 hq7
        subst hv
        refine zb_if_eq (tgt := 90) dR_readRow_83 rfl (fun h83 => ?_) (fun h83 => ?_)
        · refine zx_iconst (v := nI 0) dR_readRow_90 (by decide) ?_
          exact zx_zret hE rfl (by first | decide | exact bI_nar _) dR_readRow_91 rfl (Nat.le_of_ble_eq_true rfl) (by
      unfold pRow
      rw [← hL]
      first
      | (rw [pThen_t h63, pThen_t h72]; exact ⟨_, rfl, rfl, by rw [h83]; rfl, (hXf.tr h14).tr hf6, hR6⟩)
      | (rw [pThen_t h63, pThen_f h72]; exact ⟨_, rfl, rfl, rfl, hXf.tr h14, h15⟩)
      | (rw [pThen_f h63]; exact ⟨_, rfl, rfl, rfl, hXf, hX⟩))
        · refine zx_iconst (v := nI 1) dR_readRow_86 (by decide) ?_
          refine zx_goto (tgt := 91) dR_readRow_87 rfl ?_
          exact zx_zret hE rfl (by first | decide | exact bI_nar _) dR_readRow_91 rfl (Nat.le_of_ble_eq_true rfl) (by
      unfold pRow
      rw [← hL]
      first
      | (rw [pThen_t h63, pThen_t h72]; exact ⟨_, rfl, rfl, by rw [h83]; rfl, (hXf.tr h14).tr hf6, hR6⟩)
      | (rw [pThen_t h63, pThen_f h72]; exact ⟨_, rfl, rfl, rfl, hXf.tr h14, h15⟩)
      | (rw [pThen_f h63]; exact ⟨_, rfl, rfl, rfl, hXf, hX⟩))
  have loop : ∀ (k : Nat) (g : PR) (i j : Nat) (r2 : zRw), 24 - i < k → frR r q row r2 → RdA sh r2 r q xs g.2 → rowL xs j g = rowL xs 24 (pThen (pTake xs 34 s) (pWord xs)) → j + i = 24 → zX G K (fR_readRow d) n 0 0 sh r2 32 [.ref r, .int (nI s.2.2.length), .int (bI g.1), .int (nI i)] [] := by
    intro k
    induction k with
    | zero => intro g i j r2 hk; exact absurd hk (Nat.not_lt_zero _)
    | succ k ih =>
      intro g i j r2 hk h3 h4 h5 h6
      refine zx_iload_n dR_readRow_32 rfl ?_
      refine zx_bipush (v := nI 24) dR_readRow_33 (by decide) ?_
      refine zn_icmp_ge (tgt := 62) dR_readRow_35 rfl (by omega) (by omega) (fun h35 => ?_) (fun h35 => ?_)
      · first | exact exit (g.1, (skp xs g.2.1, g.2.2)) _ r3 (by rw [h39, ← h5, rowL_q (by omega) h39 (by omega)]) (h3.tr h8) h9 | exact exit g _ r2 (by rw [← h5, rowL_f h39]) h3 h4 | exact exit g _ r2 (by rw [← h5, show j = 0 by omega]; rfl) h3 h4
      · refine zx_iload_n dR_readRow_38 rfl ?_
        refine zb_if_eq (tgt := 62) dR_readRow_39 rfl (fun h39 => ?_) (fun h39 => ?_)
        · first | exact exit (g.1, (skp xs g.2.1, g.2.2)) _ r3 (by rw [h39, ← h5, rowL_q (by omega) h39 (by omega)]) (h3.tr h8) h9 | exact exit g _ r2 (by rw [← h5, rowL_f h39]) h3 h4 | exact exit g _ r2 (by rw [← h5, show j = 0 by omega]; rfl) h3 h4
        · refine zx_aload_n dR_readRow_42 rfl ?_
          refine zc_Vr (kR_peekPiece G (d - 1) (by omega) h4) (meR_peekPiece _) lkR_41 hs rfl rfl hD (Nat.le_of_ble_eq_true rfl) rfl rfl (Nat.le_of_ble_eq_true rfl) (Nat.le_of_ble_eq_true rfl) (Nat.le_of_ble_eq_true rfl) dR_readRow_43 (fun v r3 h7 => ?_)
          obtain ⟨rfl, h8, h9⟩ := h7
          have hz := h4.2.2.2.2.1.lt (i := skp xs g.2.1)
          refine zx_bipush (v := nI 34) dR_readRow_46 (by decide) ?_
          refine zn_icmp_eq (tgt := 62) dR_readRow_48 rfl (by omega) (by omega) (fun h48 => ?_) (fun h48 => ?_)
          · first | exact exit (g.1, (skp xs g.2.1, g.2.2)) _ r3 (by rw [h39, ← h5, rowL_q (by omega) h39 (by omega)]) (h3.tr h8) h9 | exact exit g _ r2 (by rw [← h5, rowL_f h39]) h3 h4 | exact exit g _ r2 (by rw [← h5, show j = 0 by omega]; rfl) h3 h4
          · refine zx_aload_n dR_readRow_51 rfl ?_
            refine zc_Vr (kR_readWord G (d - 1) (by omega) h9) (meR_readWord _) lkR_72 hs rfl rfl hD (Nat.le_of_ble_eq_true rfl) rfl rfl (Nat.le_of_ble_eq_true rfl) (Nat.le_of_ble_eq_true rfl) (Nat.le_of_ble_eq_true rfl) dR_readRow_52 (fun v r4 h10 => ?_)
            obtain ⟨rfl, h11, h12⟩ := h10
            refine zx_istore_n dR_readRow_55 (Nat.le_of_ble_eq_true rfl) rfl rfl ?_
            refine zn_iinc (c := 1) dR_readRow_56 (Nat.le_of_ble_eq_true rfl) rfl rfl ?_
            refine zx_goto (tgt := 32) dR_readRow_59 rfl ?_
            obtain ⟨j, rfl⟩ : ∃ j1, j = j1 + 1 := ⟨j - 1, by omega⟩
            refine ih (pWord xs (skp xs g.2.1, g.2.2)) (i + 1) j _ (by omega) ((h3.tr h8).tr h11) h12 ?_ (by omega)
            rw [← h5]
            show _ = if g.1 = true then _ else _
            rw [if_pos h39, if_neg (by omega)]
  refine zx_aload_n dR_readRow_0 rfl ?_
  refine zx_get dR_readRow_1 flR_21 (by assumption) (by assumption) ?_
  refine zx_getN dR_readRow_4 flR_75 hQ.1.1 hQ.2.1.2.2.2.2.2 ?_
  refine zx_istore_n dR_readRow_7 (Nat.le_of_ble_eq_true rfl) rfl rfl ?_
  refine zx_aload_n dR_readRow_8 rfl ?_
  refine zx_bipush (v := nI 34) dR_readRow_9 (by decide) ?_
  refine zc_Vr (kR_take G (d - 1) (by omega) hR (c := 34) (by decide) (by decide)) (meR_take _) lkR_48 hs rfl rfl hD (Nat.le_of_ble_eq_true rfl) rfl rfl (Nat.le_of_ble_eq_true rfl) (Nat.le_of_ble_eq_true rfl) (Nat.le_of_ble_eq_true rfl) dR_readRow_11 (fun v r1 h1 => ?_)
  obtain ⟨rfl, h2, h3⟩ := h1
  refine zb_if_eq (tgt := 28) dR_readRow_14 rfl (fun h14 => ?_) (fun h14 => ?_)
  · refine zx_iconst (v := nI 0) dR_readRow_28 (by decide) ?_
    first
    | (have e : pThen (pTake xs 34 s) (pWord xs) = pWord xs (pTake xs 34 s).2 := pThen_t h14
       have eb : bI (pThen (pTake xs 34 s) (pWord xs)).1 = bI (pWord xs (pTake xs 34 s).2).1 := by rw [e]
       rw [h21] at eb
       refine zx_istore_n dR_readRow_29 (Nat.le_of_ble_eq_true rfl) rfl rfl ?_
       refine zx_iconst (v := nI 0) dR_readRow_30 (by decide) ?_
       refine zx_istore_n dR_readRow_31 (Nat.le_of_ble_eq_true rfl) rfl rfl ?_
       have hh := loop _ (pThen (pTake xs 34 s) (pWord xs)) 0 24 r2 (Nat.lt_succ_self _) (h2.tr h5) (by rw [e]; exact h6) rfl rfl
       rw [eb] at hh
       exact hh)
    | (have e : pThen (pTake xs 34 s) (pWord xs) = (false, (pTake xs 34 s).2) := pThen_f h14
       refine zx_istore_n dR_readRow_29 (Nat.le_of_ble_eq_true rfl) rfl rfl ?_
       refine zx_iconst (v := nI 0) dR_readRow_30 (by decide) ?_
       refine zx_istore_n dR_readRow_31 (Nat.le_of_ble_eq_true rfl) rfl rfl ?_
       have hh := loop _ (pThen (pTake xs 34 s) (pWord xs)) 0 24 r1 (Nat.lt_succ_self _) h2 (by rw [e]; exact h3) rfl rfl
       have eb : bI (pThen (pTake xs 34 s) (pWord xs)).1 = nI 0 := by rw [e]; rfl
       rw [eb] at hh
       exact hh)
  · refine zx_aload_n dR_readRow_17 rfl ?_
    refine zc_Vr (kR_readWord G (d - 1) (by omega) h3) (meR_readWord _) lkR_72 hs rfl rfl hD (Nat.le_of_ble_eq_true rfl) rfl rfl (Nat.le_of_ble_eq_true rfl) (Nat.le_of_ble_eq_true rfl) (Nat.le_of_ble_eq_true rfl) dR_readRow_18 (fun v r2 h4 => ?_)
    obtain ⟨rfl, h5, h6⟩ := h4
    refine zb_if_eq (tgt := 28) dR_readRow_21 rfl (fun h21 => ?_) (fun h21 => ?_)
    · refine zx_iconst (v := nI 0) dR_readRow_28 (by decide) ?_
      first
      | (have e : pThen (pTake xs 34 s) (pWord xs) = pWord xs (pTake xs 34 s).2 := pThen_t h14
         have eb : bI (pThen (pTake xs 34 s) (pWord xs)).1 = bI (pWord xs (pTake xs 34 s).2).1 := by rw [e]
         rw [h21] at eb
         refine zx_istore_n dR_readRow_29 (Nat.le_of_ble_eq_true rfl) rfl rfl ?_
         refine zx_iconst (v := nI 0) dR_readRow_30 (by decide) ?_
         refine zx_istore_n dR_readRow_31 (Nat.le_of_ble_eq_true rfl) rfl rfl ?_
         have hh := loop _ (pThen (pTake xs 34 s) (pWord xs)) 0 24 r2 (Nat.lt_succ_self _) (h2.tr h5) (by rw [e]; exact h6) rfl rfl
         rw [eb] at hh
         exact hh)
      | (have e : pThen (pTake xs 34 s) (pWord xs) = (false, (pTake xs 34 s).2) := pThen_f h14
         refine zx_istore_n dR_readRow_29 (Nat.le_of_ble_eq_true rfl) rfl rfl ?_
         refine zx_iconst (v := nI 0) dR_readRow_30 (by decide) ?_
         refine zx_istore_n dR_readRow_31 (Nat.le_of_ble_eq_true rfl) rfl rfl ?_
         have hh := loop _ (pThen (pTake xs 34 s) (pWord xs)) 0 24 r1 (Nat.lt_succ_self _) h2 (by rw [e]; exact h3) rfl rfl
         have eb : bI (pThen (pTake xs 34 s) (pWord xs)).1 = nI 0 := by rw [e]; rfl
         rw [eb] at hh
         exact hh)
    · refine zx_iconst (v := nI 1) dR_readRow_24 (by decide) ?_
      refine zx_goto (tgt := 29) dR_readRow_25 rfl ?_
      first
      | (have e : pThen (pTake xs 34 s) (pWord xs) = pWord xs (pTake xs 34 s).2 := pThen_t h14
         have eb : bI (pThen (pTake xs 34 s) (pWord xs)).1 = bI (pWord xs (pTake xs 34 s).2).1 := by rw [e]
         rw [h21] at eb
         refine zx_istore_n dR_readRow_29 (Nat.le_of_ble_eq_true rfl) rfl rfl ?_
         refine zx_iconst (v := nI 0) dR_readRow_30 (by decide) ?_
         refine zx_istore_n dR_readRow_31 (Nat.le_of_ble_eq_true rfl) rfl rfl ?_
         have hh := loop _ (pThen (pTake xs 34 s) (pWord xs)) 0 24 r2 (Nat.lt_succ_self _) (h2.tr h5) (by rw [e]; exact h6) rfl rfl
         rw [eb] at hh
         exact hh)
      | (have e : pThen (pTake xs 34 s) (pWord xs) = (false, (pTake xs 34 s).2) := pThen_f h14
         refine zx_istore_n dR_readRow_29 (Nat.le_of_ble_eq_true rfl) rfl rfl ?_
         refine zx_iconst (v := nI 0) dR_readRow_30 (by decide) ?_
         refine zx_istore_n dR_readRow_31 (Nat.le_of_ble_eq_true rfl) rfl rfl ?_
         have hh := loop _ (pThen (pTake xs 34 s) (pWord xs)) 0 24 r1 (Nat.lt_succ_self _) h2 (by rw [e]; exact h3) rfl rfl
         have eb : bI (pThen (pTake xs 34 s) (pWord xs)).1 = nI 0 := by rw [e]; rfl
         rw [eb] at hh
         exact hh)
end
section
set_option maxHeartbeats 4000000 in
set_option maxRecDepth 100000 in
theorem kR_readOne (G : zG) (d : Nat) (hd : 6 ≤ d) {n : Nat} {sh : zSh} {row : zRw} {r q : Nat} {xs : List Nat} {s : PS} (hR : RdA sh row r q xs s) {op : Nat} (hop : op ≤ 6) {nest : PS → PR} (hN : op < 6 → ∀ (row' : zRw) (s' : PS), RdA sh row' r q xs s' → zM G (fR_readAny (d - 1)) [.ref r, .int (nI (op + 1))] n sh row' (zRd sh row' r q xs (nest s'))) : zM G (fR_readOne d) [.ref r, .int (nI op)] n sh row (zRd sh row r q xs (gOne xs nest (decide (op < 6)) s)) := by
  refine zM.of (by show plainName "PostIndex$QueryReader" = true; decide +kernel) (Nat.le_of_ble_eq_true rfl) (by intro v hv; simp at hv; rcases hv with rfl | rfl <;> rfl) ?_
  intro K hE
  show zX G K (fR_readOne d) n 0 0 sh row 0 [.ref r, .int (nI op)] []
  have hD : d - 1 + 1 ≤ d := by omega
  obtain ⟨hs, hp0, hp1, hp2, hT, hQ, hat, hdj⟩ := id hR
  have hxl := hT.2.2.2.2.1
  refine zx_aload_n dR_readOne_0 rfl ?_
  refine zc_Vr (n0 := n) (ce := 0) (kR_peekPiece G (d - 1) (by omega) hR) (meR_peekPiece _) lkR_41 hs rfl rfl hD (Nat.le_of_ble_eq_true rfl) rfl rfl (Nat.le_of_ble_eq_true rfl) (Nat.le_of_ble_eq_true rfl) (Nat.le_of_ble_eq_true rfl) dR_readOne_1 (fun v r2 h2 => ?_)
  obtain ⟨rfl, h3, h4⟩ := h2
  have hz := hT.lt (i := skp xs s.1)
  have hlt0 : ¬ at0 xs (skp xs s.1) = 0 → skp xs s.1 < xs.length := fun h => Nat.lt_of_not_le (fun g => h (at0_big g))
  skip
  by_cases h40 : at0 xs (skp xs s.1) = 40
  · rw [h40]
    have hlt : skp xs s.1 < xs.length := hlt0 (by omega)
    refine zx_look (tgt := 56) (off := 52) dR_readOne_4 (by decide) (by decide) rfl ?_
    refine zx_iload_n dR_readOne_56 rfl ?_
    refine zx_bipush (v := nI 6) dR_readOne_57 (by decide) ?_
    refine zn_icmp_ge (tgt := 94) dR_readOne_59 rfl (by omega) (by omega) (fun h59 => ?_) (fun h59 => ?_)
    · refine zx_iconst (v := nI 0) dR_readOne_94 (by decide) ?_
      exact zx_zret hE rfl (by first | decide | exact bI_nar _) dR_readOne_95 rfl (Nat.le_of_ble_eq_true rfl) (by
        unfold gOne
        rw [if_pos h40]
        first
        | (rw [if_neg (by rw [decide_eq_false (by omega)]; decide)]; exact ⟨_, rfl, rfl, rfl, h3, h4⟩)
        | (rw [if_pos (decide_eq_true (by omega)), pThen_t h68, pThen_t h78]; exact ⟨_, rfl, rfl, by rw [h87]; rfl, ((h3.tr h6).tr h9).tr h12, h13⟩)
        | (rw [if_pos (decide_eq_true (by omega)), pThen_t h68, pThen_f h78]; exact ⟨_, rfl, rfl, rfl, (h3.tr h6).tr h9, h10⟩)
        | (rw [if_pos (decide_eq_true (by omega)), pThen_f h68]; exact ⟨_, rfl, rfl, rfl, h3.tr h6, h7⟩))
    · refine zx_aload_n dR_readOne_62 rfl ?_
      refine zx_bipush (v := nI 40) dR_readOne_63 (by decide) ?_
      refine zc_Vr (n0 := n) (ce := 0) (kR_take G (d - 1) (by omega) h4 (c := 40) (by decide) (by decide)) (meR_take _) lkR_48 hs rfl rfl hD (Nat.le_of_ble_eq_true rfl) rfl rfl (Nat.le_of_ble_eq_true rfl) (Nat.le_of_ble_eq_true rfl) (Nat.le_of_ble_eq_true rfl) dR_readOne_65 (fun v r3 h5 => ?_)
      obtain ⟨rfl, h6, h7⟩ := h5
      refine zb_if_eq (tgt := 94) dR_readOne_68 rfl (fun h68 => ?_) (fun h68 => ?_)
      · refine zx_iconst (v := nI 0) dR_readOne_94 (by decide) ?_
        exact zx_zret hE rfl (by first | decide | exact bI_nar _) dR_readOne_95 rfl (Nat.le_of_ble_eq_true rfl) (by
        unfold gOne
        rw [if_pos h40]
        first
        | (rw [if_neg (by rw [decide_eq_false (by omega)]; decide)]; exact ⟨_, rfl, rfl, rfl, h3, h4⟩)
        | (rw [if_pos (decide_eq_true (by omega)), pThen_t h68, pThen_t h78]; exact ⟨_, rfl, rfl, by rw [h87]; rfl, ((h3.tr h6).tr h9).tr h12, h13⟩)
        | (rw [if_pos (decide_eq_true (by omega)), pThen_t h68, pThen_f h78]; exact ⟨_, rfl, rfl, rfl, (h3.tr h6).tr h9, h10⟩)
        | (rw [if_pos (decide_eq_true (by omega)), pThen_f h68]; exact ⟨_, rfl, rfl, rfl, h3.tr h6, h7⟩))
      · refine zx_aload_n dR_readOne_71 rfl ?_
        refine zx_iload_n dR_readOne_72 rfl ?_
        refine zx_iconst (v := nI 1) dR_readOne_73 (by decide) ?_
        refine zn_iadd dR_readOne_74 ?_
        refine zc_Vr (n0 := n) (ce := 0) (hN (by omega) r3 _ h7) (meR_readAny _) lkR_37 hs rfl rfl hD (Nat.le_of_ble_eq_true rfl) rfl rfl (Nat.le_of_ble_eq_true rfl) (Nat.le_of_ble_eq_true rfl) (Nat.le_of_ble_eq_true rfl) dR_readOne_75 (fun v r4 h8 => ?_)
        obtain ⟨rfl, h9, h10⟩ := h8
        refine zb_if_eq (tgt := 94) dR_readOne_78 rfl (fun h78 => ?_) (fun h78 => ?_)
        · refine zx_iconst (v := nI 0) dR_readOne_94 (by decide) ?_
          exact zx_zret hE rfl (by first | decide | exact bI_nar _) dR_readOne_95 rfl (Nat.le_of_ble_eq_true rfl) (by
        unfold gOne
        rw [if_pos h40]
        first
        | (rw [if_neg (by rw [decide_eq_false (by omega)]; decide)]; exact ⟨_, rfl, rfl, rfl, h3, h4⟩)
        | (rw [if_pos (decide_eq_true (by omega)), pThen_t h68, pThen_t h78]; exact ⟨_, rfl, rfl, by rw [h87]; rfl, ((h3.tr h6).tr h9).tr h12, h13⟩)
        | (rw [if_pos (decide_eq_true (by omega)), pThen_t h68, pThen_f h78]; exact ⟨_, rfl, rfl, rfl, (h3.tr h6).tr h9, h10⟩)
        | (rw [if_pos (decide_eq_true (by omega)), pThen_f h68]; exact ⟨_, rfl, rfl, rfl, h3.tr h6, h7⟩))
        · refine zx_aload_n dR_readOne_81 rfl ?_
          refine zx_bipush (v := nI 41) dR_readOne_82 (by decide) ?_
          refine zc_Vr (n0 := n) (ce := 0) (kR_take G (d - 1) (by omega) h10 (c := 41) (by decide) (by decide)) (meR_take _) lkR_48 hs rfl rfl hD (Nat.le_of_ble_eq_true rfl) rfl rfl (Nat.le_of_ble_eq_true rfl) (Nat.le_of_ble_eq_true rfl) (Nat.le_of_ble_eq_true rfl) dR_readOne_84 (fun v r5 h11 => ?_)
          obtain ⟨rfl, h12, h13⟩ := h11
          refine zb_if_eq (tgt := 94) dR_readOne_87 rfl (fun h87 => ?_) (fun h87 => ?_)
          · refine zx_iconst (v := nI 0) dR_readOne_94 (by decide) ?_
            exact zx_zret hE rfl (by first | decide | exact bI_nar _) dR_readOne_95 rfl (Nat.le_of_ble_eq_true rfl) (by
        unfold gOne
        rw [if_pos h40]
        first
        | (rw [if_neg (by rw [decide_eq_false (by omega)]; decide)]; exact ⟨_, rfl, rfl, rfl, h3, h4⟩)
        | (rw [if_pos (decide_eq_true (by omega)), pThen_t h68, pThen_t h78]; exact ⟨_, rfl, rfl, by rw [h87]; rfl, ((h3.tr h6).tr h9).tr h12, h13⟩)
        | (rw [if_pos (decide_eq_true (by omega)), pThen_t h68, pThen_f h78]; exact ⟨_, rfl, rfl, rfl, (h3.tr h6).tr h9, h10⟩)
        | (rw [if_pos (decide_eq_true (by omega)), pThen_f h68]; exact ⟨_, rfl, rfl, rfl, h3.tr h6, h7⟩))
          · refine zx_iconst (v := nI 1) dR_readOne_90 (by decide) ?_
            refine zx_goto (tgt := 95) dR_readOne_91 rfl ?_
            exact zx_zret hE rfl (by first | decide | exact bI_nar _) dR_readOne_95 rfl (Nat.le_of_ble_eq_true rfl) (by
        unfold gOne
        rw [if_pos h40]
        first
        | (rw [if_neg (by rw [decide_eq_false (by omega)]; decide)]; exact ⟨_, rfl, rfl, rfl, h3, h4⟩)
        | (rw [if_pos (decide_eq_true (by omega)), pThen_t h68, pThen_t h78]; exact ⟨_, rfl, rfl, by rw [h87]; rfl, ((h3.tr h6).tr h9).tr h12, h13⟩)
        | (rw [if_pos (decide_eq_true (by omega)), pThen_t h68, pThen_f h78]; exact ⟨_, rfl, rfl, rfl, (h3.tr h6).tr h9, h10⟩)
        | (rw [if_pos (decide_eq_true (by omega)), pThen_f h68]; exact ⟨_, rfl, rfl, rfl, h3.tr h6, h7⟩))
  by_cases h34 : at0 xs (skp xs s.1) = 34
  · rw [h34]
    have hlt : skp xs s.1 < xs.length := hlt0 (by omega)
    refine zx_look (tgt := 96) (off := 92) dR_readOne_4 (by decide) (by decide) rfl ?_
    refine zx_aload_n dR_readOne_96 rfl ?_
    refine zc_Vr (n0 := n) (ce := 0) (kR_readRow G (d - 1) (by omega) h4) (meR_readRow _) lkR_66 hs rfl rfl hD (Nat.le_of_ble_eq_true rfl) rfl rfl (Nat.le_of_ble_eq_true rfl) (Nat.le_of_ble_eq_true rfl) (Nat.le_of_ble_eq_true rfl) dR_readOne_97 (fun v r3 h5 => ?_)
    obtain ⟨rfl, h6, h7⟩ := h5
    exact zx_zret hE rfl (by first | decide | exact bI_nar _) dR_readOne_100 rfl (Nat.le_of_ble_eq_true rfl) (by unfold gOne; rw [if_neg (by omega), if_pos h34]; exact ⟨_, rfl, rfl, rfl, h3.tr h6, h7⟩)
  by_cases h61 : at0 xs (skp xs s.1) = 61
  · rw [h61]
    have hlt : skp xs s.1 < xs.length := hlt0 (by omega)
    refine zx_look (tgt := 101) (off := 97) dR_readOne_4 (by decide) (by decide) rfl ?_
    refine zx_aload_n dR_readOne_101 rfl ?_
    refine zx_iconst (v := nI 1) dR_readOne_102 (by decide) ?_
    refine zc_Vr (n0 := n) (ce := 0) (kR_readFilter G (d - 1) (by omega) h4 (kd := 1) hlt) (meR_readFilter _) lkR_69 hs rfl rfl hD (Nat.le_of_ble_eq_true rfl) rfl rfl (Nat.le_of_ble_eq_true rfl) (Nat.le_of_ble_eq_true rfl) (Nat.le_of_ble_eq_true rfl) dR_readOne_103 (fun v r3 h5 => ?_)
    obtain ⟨rfl, h6, h7⟩ := h5
    exact zx_zret hE rfl (by first | decide | exact bI_nar _) dR_readOne_106 rfl (Nat.le_of_ble_eq_true rfl) (by unfold gOne; rw [if_neg (by omega), if_neg (by omega), if_pos h61]; exact ⟨_, rfl, rfl, rfl, h3.tr h6, h7⟩)
  by_cases h60 : at0 xs (skp xs s.1) = 60
  · rw [h60]
    have hlt : skp xs s.1 < xs.length := hlt0 (by omega)
    refine zx_look (tgt := 107) (off := 103) dR_readOne_4 (by decide) (by decide) rfl ?_
    refine zx_aload_n dR_readOne_107 rfl ?_
    refine zx_iconst (v := nI 2) dR_readOne_108 (by decide) ?_
    refine zc_Vr (n0 := n) (ce := 0) (kR_readFilter G (d - 1) (by omega) h4 (kd := 2) hlt) (meR_readFilter _) lkR_69 hs rfl rfl hD (Nat.le_of_ble_eq_true rfl) rfl rfl (Nat.le_of_ble_eq_true rfl) (Nat.le_of_ble_eq_true rfl) (Nat.le_of_ble_eq_true rfl) dR_readOne_109 (fun v r3 h5 => ?_)
    obtain ⟨rfl, h6, h7⟩ := h5
    exact zx_zret hE rfl (by first | decide | exact bI_nar _) dR_readOne_112 rfl (Nat.le_of_ble_eq_true rfl) (by unfold gOne; rw [if_neg (by omega), if_neg (by omega), if_neg (by omega), if_pos h60]; exact ⟨_, rfl, rfl, rfl, h3.tr h6, h7⟩)
  by_cases h62 : at0 xs (skp xs s.1) = 62
  · rw [h62]
    have hlt : skp xs s.1 < xs.length := hlt0 (by omega)
    refine zx_look (tgt := 113) (off := 109) dR_readOne_4 (by decide) (by decide) rfl ?_
    refine zx_aload_n dR_readOne_113 rfl ?_
    refine zx_iconst (v := nI 3) dR_readOne_114 (by decide) ?_
    refine zc_Vr (n0 := n) (ce := 0) (kR_readFilter G (d - 1) (by omega) h4 (kd := 3) hlt) (meR_readFilter _) lkR_69 hs rfl rfl hD (Nat.le_of_ble_eq_true rfl) rfl rfl (Nat.le_of_ble_eq_true rfl) (Nat.le_of_ble_eq_true rfl) (Nat.le_of_ble_eq_true rfl) dR_readOne_115 (fun v r3 h5 => ?_)
    obtain ⟨rfl, h6, h7⟩ := h5
    exact zx_zret hE rfl (by first | decide | exact bI_nar _) dR_readOne_118 rfl (Nat.le_of_ble_eq_true rfl) (by unfold gOne; rw [if_neg (by omega), if_neg (by omega), if_neg (by omega), if_neg (by omega), if_pos h62]; exact ⟨_, rfl, rfl, rfl, h3.tr h6, h7⟩)
  have hne : ∀ k : Nat, k < 127 → ¬ at0 xs (skp xs s.1) = k → ¬ nI (at0 xs (skp xs s.1)) = nI k := fun k hk h g => h ((nI_eq (zL31 (by omega)) (zL31 (by omega))).mp g)
  refine zx_look (tgt := 119) (off := 115) dR_readOne_4 (by decide) (by
    show Op.lookupswitch.offset [(34, 92), (40, 52), (60, 103), (61, 97), (62, 109)] 115 _ = 115
    rw [lv_osw (hne 34 (by decide) h34) (by decide), lv_osw (hne 40 (by decide) h40) (by decide), lv_osw (hne 60 (by decide) h60) (by decide), lv_osw (hne 61 (by decide) h61) (by decide), lv_osw (hne 62 (by decide) h62) (by decide)]
    rfl) rfl ?_
  refine zx_aload_n dR_readOne_119 rfl ?_
  refine zc_Vr (n0 := n) (ce := 0) (kR_readWord G (d - 1) (by omega) h4) (meR_readWord _) lkR_72 hs rfl rfl hD (Nat.le_of_ble_eq_true rfl) rfl rfl (Nat.le_of_ble_eq_true rfl) (Nat.le_of_ble_eq_true rfl) (Nat.le_of_ble_eq_true rfl) dR_readOne_120 (fun v r3 h5 => ?_)
  obtain ⟨rfl, h6, h7⟩ := h5
  refine zb_if_eq (tgt := 149) dR_readOne_123 rfl (fun h123 => ?_) (fun h123 => ?_)
  · refine zx_iconst (v := nI 0) dR_readOne_149 (by decide) ?_
    exact zx_zret hE rfl (by first | decide | exact bI_nar _) dR_readOne_150 rfl (Nat.le_of_ble_eq_true rfl) (by
      unfold gOne
      rw [if_neg (by omega), if_neg (by omega), if_neg (by omega), if_neg (by omega), if_neg (by omega)]
      first
      | (rw [pThen_t h123]; exact ⟨_, rfl, rfl, by rw [h142]; rfl, (h3.tr h6).tr h8, h9⟩)
      | (rw [pThen_f h123]; exact ⟨_, rfl, rfl, rfl, h3.tr h6, h7⟩))
  · refine zx_aload_n dR_readOne_126 rfl ?_
    refine zx_get dR_readOne_127 flR_21 hs h7.2.2.1 ?_
    refine zx_aload_n dR_readOne_130 rfl ?_
    refine zx_get dR_readOne_131 flR_21 hs h7.2.2.1 ?_
    have hwp := pWord_pos h123
    refine zx_getN dR_readOne_134 flR_75 h7.2.2.2.2.2.1.1.1 h7.2.2.2.2.2.1.2.1.2.2.2.2.2 ?_
    refine zx_iconst (v := nI 1) dR_readOne_137 (by decide) ?_
    refine zn_isub dR_readOne_138 (by omega) ?_
    refine zc_Vr (n0 := n) (ce := 0) (kQ_addWordsStep G (d - 1) (by omega) (nu := nI ((pWord xs (skp xs s.1, s.2)).2.2.2.length - 1)) h7.2.2.2.2.2.1) (meQ_addWordsStep _) lkR_78 h7.2.2.2.2.2.1.1.1 rfl rfl hD (Nat.le_of_ble_eq_true rfl) rfl rfl (Nat.le_of_ble_eq_true rfl) (Nat.le_of_ble_eq_true rfl) (Nat.le_of_ble_eq_true rfl) dR_readOne_139 (fun v r4 hq7 => ?_)
    obtain ⟨hv, h8, h9⟩ := rd_step h7 hq7
    subst hv
    refine zb_if_eq (tgt := 149) dR_readOne_142 rfl (fun h142 => ?_) (fun h142 => ?_)
    · refine zx_iconst (v := nI 0) dR_readOne_149 (by decide) ?_
      exact zx_zret hE rfl (by first | decide | exact bI_nar _) dR_readOne_150 rfl (Nat.le_of_ble_eq_true rfl) (by
      unfold gOne
      rw [if_neg (by omega), if_neg (by omega), if_neg (by omega), if_neg (by omega), if_neg (by omega)]
      first
      | (rw [pThen_t h123]; exact ⟨_, rfl, rfl, by rw [h142]; rfl, (h3.tr h6).tr h8, h9⟩)
      | (rw [pThen_f h123]; exact ⟨_, rfl, rfl, rfl, h3.tr h6, h7⟩))
    · refine zx_iconst (v := nI 1) dR_readOne_145 (by decide) ?_
      refine zx_goto (tgt := 150) dR_readOne_146 rfl ?_
      exact zx_zret hE rfl (by first | decide | exact bI_nar _) dR_readOne_150 rfl (Nat.le_of_ble_eq_true rfl) (by
      unfold gOne
      rw [if_neg (by omega), if_neg (by omega), if_neg (by omega), if_neg (by omega), if_neg (by omega)]
      first
      | (rw [pThen_t h123]; exact ⟨_, rfl, rfl, by rw [h142]; rfl, (h3.tr h6).tr h8, h9⟩)
      | (rw [pThen_f h123]; exact ⟨_, rfl, rfl, rfl, h3.tr h6, h7⟩))

theorem bI_not {b : Bool} : bI (!b) = if b = true then nI 0 else nI 1 := by cases b <;> rfl

theorem partL_f {xs : List Nat} {j : Nat} {g : PR} (hj : 0 < j) (h : (pTake xs 45 g.2).1 = false) : partL xs j g = (g.1, (pTake xs 45 g.2).2) := by
  cases j with
  | zero => omega
  | succ j => show (if (pTake xs 45 g.2).1 = true then _ else _) = _; rw [if_neg (by rw [h]; decide)]

set_option maxHeartbeats 4000000 in
set_option maxRecDepth 100000 in
theorem kR_readPart (G : zG) (d : Nat) (hd : 7 ≤ d) {n : Nat} {sh : zSh} {row : zRw} {r q : Nat} {xs : List Nat} {s : PS} (hR : RdA sh row r q xs s) {op : Nat} (hop : op ≤ 6) {nest : PS → PR} (hN : op < 6 → ∀ (row' : zRw) (s' : PS), RdA sh row' r q xs s' → zM G (fR_readAny (d - 2)) [.ref r, .int (nI (op + 1))] n sh row' (zRd sh row' r q xs (nest s'))) : zM G (fR_readPart d) [.ref r, .int (nI op)] n sh row (zRd sh row r q xs (gPart xs nest (decide (op < 6)) s)) := by
  refine zM.of (by show plainName "PostIndex$QueryReader" = true; decide +kernel) (Nat.le_of_ble_eq_true rfl) (by intro v hv; simp at hv; rcases hv with rfl | rfl <;> rfl) ?_
  intro K hE
  show zX G K (fR_readPart d) n 0 0 sh row 0 [.ref r, .int (nI op), .retAddr 0, .retAddr 0] []
  have hD : d - 1 + 1 ≤ d := by omega
  obtain ⟨hs, hp0, hp1, hp2, hT, hQ, hat, hdj⟩ := id hR
  have hxl := hT.2.2.2.2.1
  have hN : op < 6 → ∀ (row' : zRw) (s' : PS), RdA sh row' r q xs s' → zM G (fR_readAny (d - 1 - 1)) [.ref r, .int (nI (op + 1))] n sh row' (zRd sh row' r q xs (nest s')) := hN
  have exit : ∀ (l : PR) (v3 : Value) (rX : zRw), l = partL xs 24 (false, s) → frR r q row rX → RdA sh rX r q xs l.2 → zX G K (fR_readPart d) n 0 0 sh rX 35 [.ref r, .int (nI op), .int (bI l.1), v3] [] := by
    intro l v3 rX hL hXf hX
    refine zx_aload_n dR_readPart_35 rfl ?_
    refine zx_iload_n dR_readPart_36 rfl ?_
    refine zc_Vr (n0 := n) (ce := 0) (kR_readOne G (d - 1) (by omega) hX hop (by first | exact hN)) (meR_readOne _) lkR_63 hs rfl rfl hD (Nat.le_of_ble_eq_true rfl) rfl rfl (Nat.le_of_ble_eq_true rfl) (Nat.le_of_ble_eq_true rfl) (Nat.le_of_ble_eq_true rfl) dR_readPart_37 (fun v r3 h5 => ?_)
    obtain ⟨rfl, h6, h7⟩ := h5
    refine zb_if_eq (tgt := 63) dR_readPart_40 rfl (fun h40 => ?_) (fun h40 => ?_)
    · refine zx_iconst (v := nI 0) dR_readPart_63 (by decide) ?_
      exact zx_zret hE rfl (by first | decide | exact bI_nar _) dR_readPart_64 rfl (Nat.le_of_ble_eq_true rfl) (by
      unfold gPart
      rw [← hL]
      first
      | (rw [pThen_t h40, denF_t h44]; exact ⟨_, rfl, rfl, by rw [h56]; rfl, (hXf.tr h6).tr h8, h9⟩)
      | (rw [pThen_t h40, denF_f h44]; exact ⟨_, rfl, rfl, rfl, hXf.tr h6, h7⟩)
      | (rw [pThen_f h40]; exact ⟨_, rfl, rfl, rfl, hXf.tr h6, h7⟩))
    · refine zx_iload_n dR_readPart_43 rfl ?_
      refine zb_if_eq (tgt := 59) dR_readPart_44 rfl (fun h44 => ?_) (fun h44 => ?_)
      · refine zx_iconst (v := nI 1) dR_readPart_59 (by decide) ?_
        refine zx_goto (tgt := 64) dR_readPart_60 rfl ?_
        exact zx_zret hE rfl (by first | decide | exact bI_nar _) dR_readPart_64 rfl (Nat.le_of_ble_eq_true rfl) (by
      unfold gPart
      rw [← hL]
      first
      | (rw [pThen_t h40, denF_t h44]; exact ⟨_, rfl, rfl, by rw [h56]; rfl, (hXf.tr h6).tr h8, h9⟩)
      | (rw [pThen_t h40, denF_f h44]; exact ⟨_, rfl, rfl, rfl, hXf.tr h6, h7⟩)
      | (rw [pThen_f h40]; exact ⟨_, rfl, rfl, rfl, hXf.tr h6, h7⟩))
      · refine zx_aload_n dR_readPart_47 rfl ?_
        refine zx_get dR_readPart_48 flR_21 hs h7.2.2.1 ?_
        refine zx_iconst (v := nI 4) dR_readPart_51 (by decide) ?_
        refine zx_iconst (v := nI 0) dR_readPart_52 (by decide) ?_
        refine zc_Vr (n0 := n) (ce := 0) (kQ_addStep G (d - 1) (by omega) (kd := 4) (nu := nI 0) h7.2.2.2.2.2.1) (meQ_addStep _) lkR_52 h7.2.2.2.2.2.1.1.1 rfl rfl hD (Nat.le_of_ble_eq_true rfl) rfl rfl (Nat.le_of_ble_eq_true rfl) (Nat.le_of_ble_eq_true rfl) (Nat.le_of_ble_eq_true rfl) dR_readPart_53 (fun v r4 hq7 => ?_)
        obtain ⟨hv, h8, h9⟩ := rd_step h7 hq7
        subst hv
        refine zb_if_eq (tgt := 63) dR_readPart_56 rfl (fun h56 => ?_) (fun h56 => ?_)
        · refine zx_iconst (v := nI 0) dR_readPart_63 (by decide) ?_
          exact zx_zret hE rfl (by first | decide | exact bI_nar _) dR_readPart_64 rfl (Nat.le_of_ble_eq_true rfl) (by
      unfold gPart
      rw [← hL]
      first
      | (rw [pThen_t h40, denF_t h44]; exact ⟨_, rfl, rfl, by rw [h56]; rfl, (hXf.tr h6).tr h8, h9⟩)
      | (rw [pThen_t h40, denF_f h44]; exact ⟨_, rfl, rfl, rfl, hXf.tr h6, h7⟩)
      | (rw [pThen_f h40]; exact ⟨_, rfl, rfl, rfl, hXf.tr h6, h7⟩))
        · refine zx_iconst (v := nI 1) dR_readPart_59 (by decide) ?_
          refine zx_goto (tgt := 64) dR_readPart_60 rfl ?_
          exact zx_zret hE rfl (by first | decide | exact bI_nar _) dR_readPart_64 rfl (Nat.le_of_ble_eq_true rfl) (by
      unfold gPart
      rw [← hL]
      first
      | (rw [pThen_t h40, denF_t h44]; exact ⟨_, rfl, rfl, by rw [h56]; rfl, (hXf.tr h6).tr h8, h9⟩)
      | (rw [pThen_t h40, denF_f h44]; exact ⟨_, rfl, rfl, rfl, hXf.tr h6, h7⟩)
      | (rw [pThen_f h40]; exact ⟨_, rfl, rfl, rfl, hXf.tr h6, h7⟩))
  have loop : ∀ (k : Nat) (g : PR) (i j : Nat) (r2 : zRw), 24 - i < k → frR r q row r2 → RdA sh r2 r q xs g.2 → partL xs j g = partL xs 24 (false, s) → j + i = 24 → zX G K (fR_readPart d) n 0 0 sh r2 4 [.ref r, .int (nI op), .int (bI g.1), .int (nI i)] [] := by
    intro k
    induction k with
    | zero => intro g i j r2 hk; exact absurd hk (Nat.not_lt_zero _)
    | succ k ih =>
      intro g i j r2 hk h3 h4 h5 h6
      refine zx_iload_n dR_readPart_4 rfl ?_
      refine zx_bipush (v := nI 24) dR_readPart_5 (by decide) ?_
      refine zn_icmp_ge (tgt := 35) dR_readPart_7 rfl (by omega) (by omega) (fun h7 => ?_) (fun h7 => ?_)
      · first | exact exit (g.1, (pTake xs 45 g.2).2) _ r3 (by rw [← h5, partL_f (by omega) h16]) (h3.tr h8) h9 | exact exit g _ r2 (by rw [← h5, show j = 0 by omega]; rfl) h3 h4
      · refine zx_aload_n dR_readPart_10 rfl ?_
        refine zx_bipush (v := nI 45) dR_readPart_11 (by decide) ?_
        refine zc_Vr (n0 := n) (ce := 0) (kR_take G (d - 1) (by omega) h4 (c := 45) (by decide) (by decide)) (meR_take _) lkR_48 hs rfl rfl hD (Nat.le_of_ble_eq_true rfl) rfl rfl (Nat.le_of_ble_eq_true rfl) (Nat.le_of_ble_eq_true rfl) (Nat.le_of_ble_eq_true rfl) dR_readPart_13 (fun v r3 h7 => ?_)
        obtain ⟨rfl, h8, h9⟩ := h7
        refine zb_if_eq (tgt := 35) dR_readPart_16 rfl (fun h16 => ?_) (fun h16 => ?_)
        · first | exact exit (g.1, (pTake xs 45 g.2).2) _ r3 (by rw [← h5, partL_f (by omega) h16]) (h3.tr h8) h9 | exact exit g _ r2 (by rw [← h5, show j = 0 by omega]; rfl) h3 h4
        · refine zx_iload_n dR_readPart_19 rfl ?_
          refine zb_if_ne (tgt := 27) dR_readPart_20 rfl (fun h20 => ?_) (fun h20 => ?_)
          · refine zx_iconst (v := nI 0) dR_readPart_27 (by decide) ?_
            obtain ⟨j, rfl⟩ : ∃ j1, j = j1 + 1 := ⟨j - 1, by omega⟩
            have hh := ih (!g.1, (pTake xs 45 g.2).2) (i + 1) j r3 (by omega) (h3.tr h8) h9 (by rw [← h5]; show _ = (if (pTake xs 45 g.2).1 = true then _ else _); rw [if_pos h16]) (by omega)
            rw [show bI ((!g.1, (pTake xs 45 g.2).2) : PR).1 = (if g.1 = true then nI 0 else nI 1) from bI_not] at hh
            first | rw [if_pos h20] at hh | rw [if_neg (by rw [h20]; decide)] at hh
            refine zx_istore_n dR_readPart_28 (Nat.le_of_ble_eq_true rfl) rfl rfl ?_
            refine zn_iinc (c := 1) dR_readPart_29 (Nat.le_of_ble_eq_true rfl) rfl rfl ?_
            refine zx_goto (tgt := 4) dR_readPart_32 rfl ?_
            exact hh
          · refine zx_iconst (v := nI 1) dR_readPart_23 (by decide) ?_
            refine zx_goto (tgt := 28) dR_readPart_24 rfl ?_
            obtain ⟨j, rfl⟩ : ∃ j1, j = j1 + 1 := ⟨j - 1, by omega⟩
            have hh := ih (!g.1, (pTake xs 45 g.2).2) (i + 1) j r3 (by omega) (h3.tr h8) h9 (by rw [← h5]; show _ = (if (pTake xs 45 g.2).1 = true then _ else _); rw [if_pos h16]) (by omega)
            rw [show bI ((!g.1, (pTake xs 45 g.2).2) : PR).1 = (if g.1 = true then nI 0 else nI 1) from bI_not] at hh
            first | rw [if_pos h20] at hh | rw [if_neg (by rw [h20]; decide)] at hh
            refine zx_istore_n dR_readPart_28 (Nat.le_of_ble_eq_true rfl) rfl rfl ?_
            refine zn_iinc (c := 1) dR_readPart_29 (Nat.le_of_ble_eq_true rfl) rfl rfl ?_
            refine zx_goto (tgt := 4) dR_readPart_32 rfl ?_
            exact hh
  refine zx_iconst (v := nI 0) dR_readPart_0 (by decide) ?_
  refine zx_istore_n dR_readPart_1 (Nat.le_of_ble_eq_true rfl) rfl rfl ?_
  refine zx_iconst (v := nI 0) dR_readPart_2 (by decide) ?_
  refine zx_istore_n dR_readPart_3 (Nat.le_of_ble_eq_true rfl) rfl rfl ?_
  exact loop _ (false, s) 0 24 row (Nat.lt_succ_self _) frR.rf hR rfl rfl

theorem allL_f {xs : List Nat} {p : PS → PR} {j : Nat} {g : PR} (h : g.1 = false) : allL xs p j g = g := by
  cases j with
  | zero => rfl
  | succ j => show (if g.1 = true then _ else _) = _; rw [if_neg (by rw [h]; decide)]
theorem allL_t {xs : List Nat} {p : PS → PR} {j : Nat} {g : PR} (hj : 0 < j) (h : g.1 = true) (h2 : (pFol xs g.2).1 = false) : allL xs p j g = (true, (pFol xs g.2).2) := by
  cases j with
  | zero => omega
  | succ j => show (if g.1 = true then _ else _) = _; rw [if_pos h, if_neg (by rw [h2]; decide)]
theorem anyL_f {xs : List Nat} {p : PS → PR} {j : Nat} {g : PR} (h : g.1 = false) : anyL xs p j g = g := by
  cases j with
  | zero => rfl
  | succ j => show (if g.1 = true then _ else _) = _; rw [if_neg (by rw [h]; decide)]
theorem anyL_t {xs : List Nat} {p : PS → PR} {j : Nat} {g : PR} (hj : 0 < j) (h : g.1 = true) (h2 : (pTake xs 124 g.2).1 = false) : anyL xs p j g = (true, (pTake xs 124 g.2).2) := by
  cases j with
  | zero => omega
  | succ j => show (if g.1 = true then _ else _) = _; rw [if_pos h, if_neg (by rw [h2]; decide)]

set_option maxHeartbeats 4000000 in
set_option maxRecDepth 100000 in
theorem kR_readAll (G : zG) (d : Nat) (hd : 8 ≤ d) {n : Nat} {sh : zSh} {row : zRw} {r q : Nat} {xs : List Nat} {s : PS} (hR : RdA sh row r q xs s) {op : Nat} (hop : op ≤ 6) {nest : PS → PR} (hN : op < 6 → ∀ (row' : zRw) (s' : PS), RdA sh row' r q xs s' → zM G (fR_readAny (d - 3)) [.ref r, .int (nI (op + 1))] n sh row' (zRd sh row' r q xs (nest s'))) : zM G (fR_readAll d) [.ref r, .int (nI op)] n sh row (zRd sh row r q xs (gAll xs nest (decide (op < 6)) s)) := by
  refine zM.of (by show plainName "PostIndex$QueryReader" = true; decide +kernel) (Nat.le_of_ble_eq_true rfl) (by intro v hv; simp at hv; rcases hv with rfl | rfl <;> rfl) ?_
  intro K hE
  show zX G K (fR_readAll d) n 0 0 sh row 0 [.ref r, .int (nI op), .retAddr 0, .retAddr 0] []
  have hD : d - 1 + 1 ≤ d := by omega
  obtain ⟨hs, hp0, hp1, hp2, hT, hQ, hat, hdj⟩ := id hR
  have hxl := hT.2.2.2.2.1
  have hN : op < 6 → ∀ (row' : zRw) (s' : PS), RdA sh row' r q xs s' → zM G (fR_readAny (d - 1 - 2)) [.ref r, .int (nI (op + 1))] n sh row' (zRd sh row' r q xs (nest s')) := hN
  have loop : ∀ (k : Nat) (g : PR) (i j : Nat) (r2 : zRw), 24 - i < k → frR r q row r2 → RdA sh r2 r q xs g.2 → allL xs (gPart xs nest (decide (op < 6))) j g = allL xs (gPart xs nest (decide (op < 6))) 24 (gPart xs nest (decide (op < 6)) s) → j + i = 24 → zX G K (fR_readAll d) n 0 0 sh r2 8 [.ref r, .int (nI op), .int (bI g.1), .int (nI i)] [] := by
    intro k
    induction k with
    | zero => intro g i j r2 hk; exact absurd hk (Nat.not_lt_zero _)
    | succ k ih =>
      intro g i j r2 hk h3 h4 h5 h6
      refine zx_iload_n dR_readAll_8 rfl ?_
      refine zx_bipush (v := nI 24) dR_readAll_9 (by decide) ?_
      refine zn_icmp_ge (tgt := 57) dR_readAll_11 rfl (by omega) (by omega) (fun h11 => ?_) (fun h11 => ?_)
      · first
        | (have hL : allL xs (gPart xs nest (decide (op < 6))) 24 (gPart xs nest (decide (op < 6)) s) = (g.1, (pFol xs g.2).2) := by rw [← h5, allL_t (by omega) h15 h22, h15]
           refine zx_iload_n dR_readAll_57 rfl ?_
           exact zx_zret hE rfl (by first | decide | exact bI_nar _) dR_readAll_58 rfl (Nat.le_of_ble_eq_true rfl) (by refine ⟨_, rfl, rfl, ?_, h3.tr h8, ?_⟩ <;> (unfold gAll; rw [hL]); exact h9))
        | (have hL : allL xs (gPart xs nest (decide (op < 6))) 24 (gPart xs nest (decide (op < 6)) s) = g := by rw [← h5]; first | rw [allL_f h15] | (rw [show j = 0 by omega]; rfl)
           refine zx_iload_n dR_readAll_57 rfl ?_
           exact zx_zret hE rfl (by first | decide | exact bI_nar _) dR_readAll_58 rfl (Nat.le_of_ble_eq_true rfl) (by refine ⟨_, rfl, rfl, ?_, h3, ?_⟩ <;> (unfold gAll; rw [hL]); exact h4))
      · refine zx_iload_n dR_readAll_14 rfl ?_
        refine zb_if_eq (tgt := 57) dR_readAll_15 rfl (fun h15 => ?_) (fun h15 => ?_)
        · first
          | (have hL : allL xs (gPart xs nest (decide (op < 6))) 24 (gPart xs nest (decide (op < 6)) s) = (g.1, (pFol xs g.2).2) := by rw [← h5, allL_t (by omega) h15 h22, h15]
             refine zx_iload_n dR_readAll_57 rfl ?_
             exact zx_zret hE rfl (by first | decide | exact bI_nar _) dR_readAll_58 rfl (Nat.le_of_ble_eq_true rfl) (by refine ⟨_, rfl, rfl, ?_, h3.tr h8, ?_⟩ <;> (unfold gAll; rw [hL]); exact h9))
          | (have hL : allL xs (gPart xs nest (decide (op < 6))) 24 (gPart xs nest (decide (op < 6)) s) = g := by rw [← h5]; first | rw [allL_f h15] | (rw [show j = 0 by omega]; rfl)
             refine zx_iload_n dR_readAll_57 rfl ?_
             exact zx_zret hE rfl (by first | decide | exact bI_nar _) dR_readAll_58 rfl (Nat.le_of_ble_eq_true rfl) (by refine ⟨_, rfl, rfl, ?_, h3, ?_⟩ <;> (unfold gAll; rw [hL]); exact h4))
        · refine zx_aload_n dR_readAll_18 rfl ?_
          refine zc_Vr (n0 := n) (ce := 0) (kR_partFollows G (d - 1) (by omega) h4) (meR_partFollows _) lkR_59 hs rfl rfl hD (Nat.le_of_ble_eq_true rfl) rfl rfl (Nat.le_of_ble_eq_true rfl) (Nat.le_of_ble_eq_true rfl) (Nat.le_of_ble_eq_true rfl) dR_readAll_19 (fun v r3 h7 => ?_)
          obtain ⟨rfl, h8, h9⟩ := h7
          refine zb_if_eq (tgt := 57) dR_readAll_22 rfl (fun h22 => ?_) (fun h22 => ?_)
          · first
            | (have hL : allL xs (gPart xs nest (decide (op < 6))) 24 (gPart xs nest (decide (op < 6)) s) = (g.1, (pFol xs g.2).2) := by rw [← h5, allL_t (by omega) h15 h22, h15]
               refine zx_iload_n dR_readAll_57 rfl ?_
               exact zx_zret hE rfl (by first | decide | exact bI_nar _) dR_readAll_58 rfl (Nat.le_of_ble_eq_true rfl) (by refine ⟨_, rfl, rfl, ?_, h3.tr h8, ?_⟩ <;> (unfold gAll; rw [hL]); exact h9))
            | (have hL : allL xs (gPart xs nest (decide (op < 6))) 24 (gPart xs nest (decide (op < 6)) s) = g := by rw [← h5]; first | rw [allL_f h15] | (rw [show j = 0 by omega]; rfl)
               refine zx_iload_n dR_readAll_57 rfl ?_
               exact zx_zret hE rfl (by first | decide | exact bI_nar _) dR_readAll_58 rfl (Nat.le_of_ble_eq_true rfl) (by refine ⟨_, rfl, rfl, ?_, h3, ?_⟩ <;> (unfold gAll; rw [hL]); exact h4))
          · refine zx_aload_n dR_readAll_25 rfl ?_
            refine zx_iload_n dR_readAll_26 rfl ?_
            refine zc_Vr (n0 := n) (ce := 0) (kR_readPart G (d - 1) (by omega) h9 hop hN) (meR_readPart _) lkR_56 hs rfl rfl hD (Nat.le_of_ble_eq_true rfl) rfl rfl (Nat.le_of_ble_eq_true rfl) (Nat.le_of_ble_eq_true rfl) (Nat.le_of_ble_eq_true rfl) dR_readAll_27 (fun v r4 h10 => ?_)
            obtain ⟨rfl, h11, h12⟩ := h10
            refine zb_if_eq (tgt := 49) dR_readAll_30 rfl (fun h30 => ?_) (fun h30 => ?_)
            · refine zx_iconst (v := nI 0) dR_readAll_49 (by decide) ?_
              obtain ⟨j, rfl⟩ : ∃ j1, j = j1 + 1 := ⟨j - 1, by omega⟩
              have h5 : allL xs (gPart xs nest (decide (op < 6))) j (pThen (gPart xs nest (decide (op < 6)) (pFol xs g.2).2) (pStep 5 (nI 0))) = allL xs (gPart xs nest (decide (op < 6))) 24 (gPart xs nest (decide (op < 6)) s) := by rw [← h5]; show _ = (if g.1 = true then (if (pFol xs g.2).1 = true then _ else _) else _); rw [if_pos h15, if_pos h22]
              first
              | (have e : pThen (gPart xs nest (decide (op < 6)) (pFol xs g.2).2) (pStep 5 (nI 0)) = pStep 5 (nI 0) (gPart xs nest (decide (op < 6)) (pFol xs g.2).2).2 := pThen_t h30
                 rw [e] at h5
                 have hh := ih _ (i + 1) j r5 (by omega) (((h3.tr h8).tr h11).tr h13) h14 h5 (by omega)
                 rw [h42] at hh
                 refine zx_istore_n dR_readAll_50 (Nat.le_of_ble_eq_true rfl) rfl rfl ?_
                 refine zn_iinc (c := 1) dR_readAll_51 (Nat.le_of_ble_eq_true rfl) rfl rfl ?_
                 refine zx_goto (tgt := 8) dR_readAll_54 rfl ?_
                 exact hh)
              | (have e : pThen (gPart xs nest (decide (op < 6)) (pFol xs g.2).2) (pStep 5 (nI 0)) = (false, (gPart xs nest (decide (op < 6)) (pFol xs g.2).2).2) := pThen_f h30
                 rw [e] at h5
                 have hh := ih (false, (gPart xs nest (decide (op < 6)) (pFol xs g.2).2).2) (i + 1) j r4 (by omega) ((h3.tr h8).tr h11) h12 h5 (by omega)
                 refine zx_istore_n dR_readAll_50 (Nat.le_of_ble_eq_true rfl) rfl rfl ?_
                 refine zn_iinc (c := 1) dR_readAll_51 (Nat.le_of_ble_eq_true rfl) rfl rfl ?_
                 refine zx_goto (tgt := 8) dR_readAll_54 rfl ?_
                 exact hh)
            · refine zx_aload_n dR_readAll_33 rfl ?_
              refine zx_get dR_readAll_34 flR_21 hs h12.2.2.1 ?_
              refine zx_iconst (v := nI 5) dR_readAll_37 (by decide) ?_
              refine zx_iconst (v := nI 0) dR_readAll_38 (by decide) ?_
              refine zc_Vr (n0 := n) (ce := 0) (kQ_addStep G (d - 1) (by omega) (kd := 5) (nu := nI 0) h12.2.2.2.2.2.1) (meQ_addStep _) lkR_52 h12.2.2.2.2.2.1.1.1 rfl rfl hD (Nat.le_of_ble_eq_true rfl) rfl rfl (Nat.le_of_ble_eq_true rfl) (Nat.le_of_ble_eq_true rfl) (Nat.le_of_ble_eq_true rfl) dR_readAll_39 (fun v r5 hq7 => ?_)
              obtain ⟨hv, h13, h14⟩ := rd_step h12 hq7
              subst hv
              refine zb_if_eq (tgt := 49) dR_readAll_42 rfl (fun h42 => ?_) (fun h42 => ?_)
              · refine zx_iconst (v := nI 0) dR_readAll_49 (by decide) ?_
                obtain ⟨j, rfl⟩ : ∃ j1, j = j1 + 1 := ⟨j - 1, by omega⟩
                have h5 : allL xs (gPart xs nest (decide (op < 6))) j (pThen (gPart xs nest (decide (op < 6)) (pFol xs g.2).2) (pStep 5 (nI 0))) = allL xs (gPart xs nest (decide (op < 6))) 24 (gPart xs nest (decide (op < 6)) s) := by rw [← h5]; show _ = (if g.1 = true then (if (pFol xs g.2).1 = true then _ else _) else _); rw [if_pos h15, if_pos h22]
                first
                | (have e : pThen (gPart xs nest (decide (op < 6)) (pFol xs g.2).2) (pStep 5 (nI 0)) = pStep 5 (nI 0) (gPart xs nest (decide (op < 6)) (pFol xs g.2).2).2 := pThen_t h30
                   rw [e] at h5
                   have hh := ih _ (i + 1) j r5 (by omega) (((h3.tr h8).tr h11).tr h13) h14 h5 (by omega)
                   rw [h42] at hh
                   refine zx_istore_n dR_readAll_50 (Nat.le_of_ble_eq_true rfl) rfl rfl ?_
                   refine zn_iinc (c := 1) dR_readAll_51 (Nat.le_of_ble_eq_true rfl) rfl rfl ?_
                   refine zx_goto (tgt := 8) dR_readAll_54 rfl ?_
                   exact hh)
                | (have e : pThen (gPart xs nest (decide (op < 6)) (pFol xs g.2).2) (pStep 5 (nI 0)) = (false, (gPart xs nest (decide (op < 6)) (pFol xs g.2).2).2) := pThen_f h30
                   rw [e] at h5
                   have hh := ih (false, (gPart xs nest (decide (op < 6)) (pFol xs g.2).2).2) (i + 1) j r4 (by omega) ((h3.tr h8).tr h11) h12 h5 (by omega)
                   refine zx_istore_n dR_readAll_50 (Nat.le_of_ble_eq_true rfl) rfl rfl ?_
                   refine zn_iinc (c := 1) dR_readAll_51 (Nat.le_of_ble_eq_true rfl) rfl rfl ?_
                   refine zx_goto (tgt := 8) dR_readAll_54 rfl ?_
                   exact hh)
              · refine zx_iconst (v := nI 1) dR_readAll_45 (by decide) ?_
                refine zx_goto (tgt := 50) dR_readAll_46 rfl ?_
                obtain ⟨j, rfl⟩ : ∃ j1, j = j1 + 1 := ⟨j - 1, by omega⟩
                have h5 : allL xs (gPart xs nest (decide (op < 6))) j (pThen (gPart xs nest (decide (op < 6)) (pFol xs g.2).2) (pStep 5 (nI 0))) = allL xs (gPart xs nest (decide (op < 6))) 24 (gPart xs nest (decide (op < 6)) s) := by rw [← h5]; show _ = (if g.1 = true then (if (pFol xs g.2).1 = true then _ else _) else _); rw [if_pos h15, if_pos h22]
                first
                | (have e : pThen (gPart xs nest (decide (op < 6)) (pFol xs g.2).2) (pStep 5 (nI 0)) = pStep 5 (nI 0) (gPart xs nest (decide (op < 6)) (pFol xs g.2).2).2 := pThen_t h30
                   rw [e] at h5
                   have hh := ih _ (i + 1) j r5 (by omega) (((h3.tr h8).tr h11).tr h13) h14 h5 (by omega)
                   rw [h42] at hh
                   refine zx_istore_n dR_readAll_50 (Nat.le_of_ble_eq_true rfl) rfl rfl ?_
                   refine zn_iinc (c := 1) dR_readAll_51 (Nat.le_of_ble_eq_true rfl) rfl rfl ?_
                   refine zx_goto (tgt := 8) dR_readAll_54 rfl ?_
                   exact hh)
                | (have e : pThen (gPart xs nest (decide (op < 6)) (pFol xs g.2).2) (pStep 5 (nI 0)) = (false, (gPart xs nest (decide (op < 6)) (pFol xs g.2).2).2) := pThen_f h30
                   rw [e] at h5
                   have hh := ih (false, (gPart xs nest (decide (op < 6)) (pFol xs g.2).2).2) (i + 1) j r4 (by omega) ((h3.tr h8).tr h11) h12 h5 (by omega)
                   refine zx_istore_n dR_readAll_50 (Nat.le_of_ble_eq_true rfl) rfl rfl ?_
                   refine zn_iinc (c := 1) dR_readAll_51 (Nat.le_of_ble_eq_true rfl) rfl rfl ?_
                   refine zx_goto (tgt := 8) dR_readAll_54 rfl ?_
                   exact hh)
  refine zx_aload_n dR_readAll_0 rfl ?_
  refine zx_iload_n dR_readAll_1 rfl ?_
  refine zc_Vr (n0 := n) (ce := 0) (kR_readPart G (d - 1) (by omega) hR hop hN) (meR_readPart _) lkR_56 hs rfl rfl hD (Nat.le_of_ble_eq_true rfl) rfl rfl (Nat.le_of_ble_eq_true rfl) (Nat.le_of_ble_eq_true rfl) (Nat.le_of_ble_eq_true rfl) dR_readAll_2 (fun v r1 h1 => ?_)
  obtain ⟨rfl, h2, h3⟩ := h1
  refine zx_istore_n dR_readAll_5 (Nat.le_of_ble_eq_true rfl) rfl rfl ?_
  refine zx_iconst (v := nI 0) dR_readAll_6 (by decide) ?_
  refine zx_istore_n dR_readAll_7 (Nat.le_of_ble_eq_true rfl) rfl rfl ?_
  exact loop _ _ 0 24 r1 (Nat.lt_succ_self _) h2 h3 rfl rfl

set_option maxHeartbeats 4000000 in
set_option maxRecDepth 100000 in
theorem kR_readAny0 (G : zG) (d : Nat) (hd : 9 ≤ d) {n : Nat} {sh : zSh} {row : zRw} {r q : Nat} {xs : List Nat} {s : PS} (hR : RdA sh row r q xs s) {op : Nat} (hop : op ≤ 6) {nest : PS → PR} (hN : op < 6 → ∀ (row' : zRw) (s' : PS), RdA sh row' r q xs s' → zM G (fR_readAny (d - 4)) [.ref r, .int (nI (op + 1))] n sh row' (zRd sh row' r q xs (nest s'))) : zM G (fR_readAny d) [.ref r, .int (nI op)] n sh row (zRd sh row r q xs (gAny xs nest (decide (op < 6)) s)) := by
  refine zM.of (by show plainName "PostIndex$QueryReader" = true; decide +kernel) (Nat.le_of_ble_eq_true rfl) (by intro v hv; simp at hv; rcases hv with rfl | rfl <;> rfl) ?_
  intro K hE
  show zX G K (fR_readAny d) n 0 0 sh row 0 [.ref r, .int (nI op), .retAddr 0, .retAddr 0] []
  have hD : d - 1 + 1 ≤ d := by omega
  obtain ⟨hs, hp0, hp1, hp2, hT, hQ, hat, hdj⟩ := id hR
  have hxl := hT.2.2.2.2.1
  have hN : op < 6 → ∀ (row' : zRw) (s' : PS), RdA sh row' r q xs s' → zM G (fR_readAny (d - 1 - 3)) [.ref r, .int (nI (op + 1))] n sh row' (zRd sh row' r q xs (nest s')) := hN
  have loop : ∀ (k : Nat) (g : PR) (i j : Nat) (r2 : zRw), 24 - i < k → frR r q row r2 → RdA sh r2 r q xs g.2 → anyL xs (gAll xs nest (decide (op < 6))) j g = anyL xs (gAll xs nest (decide (op < 6))) 24 (gAll xs nest (decide (op < 6)) s) → j + i = 24 → zX G K (fR_readAny d) n 0 0 sh r2 8 [.ref r, .int (nI op), .int (bI g.1), .int (nI i)] [] := by
    intro k
    induction k with
    | zero => intro g i j r2 hk; exact absurd hk (Nat.not_lt_zero _)
    | succ k ih =>
      intro g i j r2 hk h3 h4 h5 h6
      refine zx_iload_n dR_readAny_8 rfl ?_
      refine zx_bipush (v := nI 24) dR_readAny_9 (by decide) ?_
      refine zn_icmp_ge (tgt := 60) dR_readAny_11 rfl (by omega) (by omega) (fun h11 => ?_) (fun h11 => ?_)
      · first
        | (have hL : anyL xs (gAll xs nest (decide (op < 6))) 24 (gAll xs nest (decide (op < 6)) s) = (g.1, (pTake xs 124 g.2).2) := by rw [← h5, anyL_t (by omega) h15 h24, h15]
           refine zx_iload_n dR_readAny_60 rfl ?_
           exact zx_zret hE rfl (by first | decide | exact bI_nar _) dR_readAny_61 rfl (Nat.le_of_ble_eq_true rfl) (by refine ⟨_, rfl, rfl, ?_, h3.tr h8, ?_⟩ <;> (unfold gAny; rw [hL]); exact h9))
        | (have hL : anyL xs (gAll xs nest (decide (op < 6))) 24 (gAll xs nest (decide (op < 6)) s) = g := by rw [← h5]; first | rw [anyL_f h15] | (rw [show j = 0 by omega]; rfl)
           refine zx_iload_n dR_readAny_60 rfl ?_
           exact zx_zret hE rfl (by first | decide | exact bI_nar _) dR_readAny_61 rfl (Nat.le_of_ble_eq_true rfl) (by refine ⟨_, rfl, rfl, ?_, h3, ?_⟩ <;> (unfold gAny; rw [hL]); exact h4))
      · refine zx_iload_n dR_readAny_14 rfl ?_
        refine zb_if_eq (tgt := 60) dR_readAny_15 rfl (fun h15 => ?_) (fun h15 => ?_)
        · first
          | (have hL : anyL xs (gAll xs nest (decide (op < 6))) 24 (gAll xs nest (decide (op < 6)) s) = (g.1, (pTake xs 124 g.2).2) := by rw [← h5, anyL_t (by omega) h15 h24, h15]
             refine zx_iload_n dR_readAny_60 rfl ?_
             exact zx_zret hE rfl (by first | decide | exact bI_nar _) dR_readAny_61 rfl (Nat.le_of_ble_eq_true rfl) (by refine ⟨_, rfl, rfl, ?_, h3.tr h8, ?_⟩ <;> (unfold gAny; rw [hL]); exact h9))
          | (have hL : anyL xs (gAll xs nest (decide (op < 6))) 24 (gAll xs nest (decide (op < 6)) s) = g := by rw [← h5]; first | rw [anyL_f h15] | (rw [show j = 0 by omega]; rfl)
             refine zx_iload_n dR_readAny_60 rfl ?_
             exact zx_zret hE rfl (by first | decide | exact bI_nar _) dR_readAny_61 rfl (Nat.le_of_ble_eq_true rfl) (by refine ⟨_, rfl, rfl, ?_, h3, ?_⟩ <;> (unfold gAny; rw [hL]); exact h4))
        · refine zx_aload_n dR_readAny_18 rfl ?_
          refine zx_bipush (v := nI 124) dR_readAny_19 (by decide) ?_
          refine zc_Vr (n0 := n) (ce := 0) (kR_take G (d - 1) (by omega) h4 (c := 124) (by decide) (by decide)) (meR_take _) lkR_48 hs rfl rfl hD (Nat.le_of_ble_eq_true rfl) rfl rfl (Nat.le_of_ble_eq_true rfl) (Nat.le_of_ble_eq_true rfl) (Nat.le_of_ble_eq_true rfl) dR_readAny_21 (fun v r3 h7 => ?_)
          obtain ⟨rfl, h8, h9⟩ := h7
          refine zb_if_eq (tgt := 60) dR_readAny_24 rfl (fun h24 => ?_) (fun h24 => ?_)
          · first
            | (have hL : anyL xs (gAll xs nest (decide (op < 6))) 24 (gAll xs nest (decide (op < 6)) s) = (g.1, (pTake xs 124 g.2).2) := by rw [← h5, anyL_t (by omega) h15 h24, h15]
               refine zx_iload_n dR_readAny_60 rfl ?_
               exact zx_zret hE rfl (by first | decide | exact bI_nar _) dR_readAny_61 rfl (Nat.le_of_ble_eq_true rfl) (by refine ⟨_, rfl, rfl, ?_, h3.tr h8, ?_⟩ <;> (unfold gAny; rw [hL]); exact h9))
            | (have hL : anyL xs (gAll xs nest (decide (op < 6))) 24 (gAll xs nest (decide (op < 6)) s) = g := by rw [← h5]; first | rw [anyL_f h15] | (rw [show j = 0 by omega]; rfl)
               refine zx_iload_n dR_readAny_60 rfl ?_
               exact zx_zret hE rfl (by first | decide | exact bI_nar _) dR_readAny_61 rfl (Nat.le_of_ble_eq_true rfl) (by refine ⟨_, rfl, rfl, ?_, h3, ?_⟩ <;> (unfold gAny; rw [hL]); exact h4))
          · refine zx_aload_n dR_readAny_27 rfl ?_
            refine zx_iload_n dR_readAny_28 rfl ?_
            refine zc_Vr (n0 := n) (ce := 0) (kR_readAll G (d - 1) (by omega) h9 hop hN) (meR_readAll _) lkR_45 hs rfl rfl hD (Nat.le_of_ble_eq_true rfl) rfl rfl (Nat.le_of_ble_eq_true rfl) (Nat.le_of_ble_eq_true rfl) (Nat.le_of_ble_eq_true rfl) dR_readAny_29 (fun v r4 h10 => ?_)
            obtain ⟨rfl, h11, h12⟩ := h10
            refine zb_if_eq (tgt := 52) dR_readAny_32 rfl (fun h32 => ?_) (fun h32 => ?_)
            · refine zx_iconst (v := nI 0) dR_readAny_52 (by decide) ?_
              obtain ⟨j, rfl⟩ : ∃ j1, j = j1 + 1 := ⟨j - 1, by omega⟩
              have h5 : anyL xs (gAll xs nest (decide (op < 6))) j (pThen (gAll xs nest (decide (op < 6)) (pTake xs 124 g.2).2) (pStep 6 (nI 0))) = anyL xs (gAll xs nest (decide (op < 6))) 24 (gAll xs nest (decide (op < 6)) s) := by rw [← h5]; show _ = (if g.1 = true then (if (pTake xs 124 g.2).1 = true then _ else _) else _); rw [if_pos h15, if_pos h24]
              first
              | (have e : pThen (gAll xs nest (decide (op < 6)) (pTake xs 124 g.2).2) (pStep 6 (nI 0)) = pStep 6 (nI 0) (gAll xs nest (decide (op < 6)) (pTake xs 124 g.2).2).2 := pThen_t h32
                 rw [e] at h5
                 have hh := ih _ (i + 1) j r5 (by omega) (((h3.tr h8).tr h11).tr h13) h14 h5 (by omega)
                 rw [h45] at hh
                 refine zx_istore_n dR_readAny_53 (Nat.le_of_ble_eq_true rfl) rfl rfl ?_
                 refine zn_iinc (c := 1) dR_readAny_54 (Nat.le_of_ble_eq_true rfl) rfl rfl ?_
                 refine zx_goto (tgt := 8) dR_readAny_57 rfl ?_
                 exact hh)
              | (have e : pThen (gAll xs nest (decide (op < 6)) (pTake xs 124 g.2).2) (pStep 6 (nI 0)) = (false, (gAll xs nest (decide (op < 6)) (pTake xs 124 g.2).2).2) := pThen_f h32
                 rw [e] at h5
                 have hh := ih (false, (gAll xs nest (decide (op < 6)) (pTake xs 124 g.2).2).2) (i + 1) j r4 (by omega) ((h3.tr h8).tr h11) h12 h5 (by omega)
                 refine zx_istore_n dR_readAny_53 (Nat.le_of_ble_eq_true rfl) rfl rfl ?_
                 refine zn_iinc (c := 1) dR_readAny_54 (Nat.le_of_ble_eq_true rfl) rfl rfl ?_
                 refine zx_goto (tgt := 8) dR_readAny_57 rfl ?_
                 exact hh)
            · refine zx_aload_n dR_readAny_35 rfl ?_
              refine zx_get dR_readAny_36 flR_21 hs h12.2.2.1 ?_
              refine zx_bipush (v := nI 6) dR_readAny_39 (by decide) ?_
              refine zx_iconst (v := nI 0) dR_readAny_41 (by decide) ?_
              refine zc_Vr (n0 := n) (ce := 0) (kQ_addStep G (d - 1) (by omega) (kd := 6) (nu := nI 0) h12.2.2.2.2.2.1) (meQ_addStep _) lkR_52 h12.2.2.2.2.2.1.1.1 rfl rfl hD (Nat.le_of_ble_eq_true rfl) rfl rfl (Nat.le_of_ble_eq_true rfl) (Nat.le_of_ble_eq_true rfl) (Nat.le_of_ble_eq_true rfl) dR_readAny_42 (fun v r5 hq7 => ?_)
              obtain ⟨hv, h13, h14⟩ := rd_step h12 hq7
              subst hv
              refine zb_if_eq (tgt := 52) dR_readAny_45 rfl (fun h45 => ?_) (fun h45 => ?_)
              · refine zx_iconst (v := nI 0) dR_readAny_52 (by decide) ?_
                obtain ⟨j, rfl⟩ : ∃ j1, j = j1 + 1 := ⟨j - 1, by omega⟩
                have h5 : anyL xs (gAll xs nest (decide (op < 6))) j (pThen (gAll xs nest (decide (op < 6)) (pTake xs 124 g.2).2) (pStep 6 (nI 0))) = anyL xs (gAll xs nest (decide (op < 6))) 24 (gAll xs nest (decide (op < 6)) s) := by rw [← h5]; show _ = (if g.1 = true then (if (pTake xs 124 g.2).1 = true then _ else _) else _); rw [if_pos h15, if_pos h24]
                first
                | (have e : pThen (gAll xs nest (decide (op < 6)) (pTake xs 124 g.2).2) (pStep 6 (nI 0)) = pStep 6 (nI 0) (gAll xs nest (decide (op < 6)) (pTake xs 124 g.2).2).2 := pThen_t h32
                   rw [e] at h5
                   have hh := ih _ (i + 1) j r5 (by omega) (((h3.tr h8).tr h11).tr h13) h14 h5 (by omega)
                   rw [h45] at hh
                   refine zx_istore_n dR_readAny_53 (Nat.le_of_ble_eq_true rfl) rfl rfl ?_
                   refine zn_iinc (c := 1) dR_readAny_54 (Nat.le_of_ble_eq_true rfl) rfl rfl ?_
                   refine zx_goto (tgt := 8) dR_readAny_57 rfl ?_
                   exact hh)
                | (have e : pThen (gAll xs nest (decide (op < 6)) (pTake xs 124 g.2).2) (pStep 6 (nI 0)) = (false, (gAll xs nest (decide (op < 6)) (pTake xs 124 g.2).2).2) := pThen_f h32
                   rw [e] at h5
                   have hh := ih (false, (gAll xs nest (decide (op < 6)) (pTake xs 124 g.2).2).2) (i + 1) j r4 (by omega) ((h3.tr h8).tr h11) h12 h5 (by omega)
                   refine zx_istore_n dR_readAny_53 (Nat.le_of_ble_eq_true rfl) rfl rfl ?_
                   refine zn_iinc (c := 1) dR_readAny_54 (Nat.le_of_ble_eq_true rfl) rfl rfl ?_
                   refine zx_goto (tgt := 8) dR_readAny_57 rfl ?_
                   exact hh)
              · refine zx_iconst (v := nI 1) dR_readAny_48 (by decide) ?_
                refine zx_goto (tgt := 53) dR_readAny_49 rfl ?_
                obtain ⟨j, rfl⟩ : ∃ j1, j = j1 + 1 := ⟨j - 1, by omega⟩
                have h5 : anyL xs (gAll xs nest (decide (op < 6))) j (pThen (gAll xs nest (decide (op < 6)) (pTake xs 124 g.2).2) (pStep 6 (nI 0))) = anyL xs (gAll xs nest (decide (op < 6))) 24 (gAll xs nest (decide (op < 6)) s) := by rw [← h5]; show _ = (if g.1 = true then (if (pTake xs 124 g.2).1 = true then _ else _) else _); rw [if_pos h15, if_pos h24]
                first
                | (have e : pThen (gAll xs nest (decide (op < 6)) (pTake xs 124 g.2).2) (pStep 6 (nI 0)) = pStep 6 (nI 0) (gAll xs nest (decide (op < 6)) (pTake xs 124 g.2).2).2 := pThen_t h32
                   rw [e] at h5
                   have hh := ih _ (i + 1) j r5 (by omega) (((h3.tr h8).tr h11).tr h13) h14 h5 (by omega)
                   rw [h45] at hh
                   refine zx_istore_n dR_readAny_53 (Nat.le_of_ble_eq_true rfl) rfl rfl ?_
                   refine zn_iinc (c := 1) dR_readAny_54 (Nat.le_of_ble_eq_true rfl) rfl rfl ?_
                   refine zx_goto (tgt := 8) dR_readAny_57 rfl ?_
                   exact hh)
                | (have e : pThen (gAll xs nest (decide (op < 6)) (pTake xs 124 g.2).2) (pStep 6 (nI 0)) = (false, (gAll xs nest (decide (op < 6)) (pTake xs 124 g.2).2).2) := pThen_f h32
                   rw [e] at h5
                   have hh := ih (false, (gAll xs nest (decide (op < 6)) (pTake xs 124 g.2).2).2) (i + 1) j r4 (by omega) ((h3.tr h8).tr h11) h12 h5 (by omega)
                   refine zx_istore_n dR_readAny_53 (Nat.le_of_ble_eq_true rfl) rfl rfl ?_
                   refine zn_iinc (c := 1) dR_readAny_54 (Nat.le_of_ble_eq_true rfl) rfl rfl ?_
                   refine zx_goto (tgt := 8) dR_readAny_57 rfl ?_
                   exact hh)
  refine zx_aload_n dR_readAny_0 rfl ?_
  refine zx_iload_n dR_readAny_1 rfl ?_
  refine zc_Vr (n0 := n) (ce := 0) (kR_readAll G (d - 1) (by omega) hR hop hN) (meR_readAll _) lkR_45 hs rfl rfl hD (Nat.le_of_ble_eq_true rfl) rfl rfl (Nat.le_of_ble_eq_true rfl) (Nat.le_of_ble_eq_true rfl) (Nat.le_of_ble_eq_true rfl) dR_readAny_2 (fun v r1 h1 => ?_)
  obtain ⟨rfl, h2, h3⟩ := h1
  refine zx_istore_n dR_readAny_5 (Nat.le_of_ble_eq_true rfl) rfl rfl ?_
  refine zx_iconst (v := nI 0) dR_readAny_6 (by decide) ?_
  refine zx_istore_n dR_readAny_7 (Nat.le_of_ble_eq_true rfl) rfl rfl ?_
  exact loop _ _ 0 24 r1 (Nat.lt_succ_self _) h2 h3 rfl rfl

/-- the recursion: m brackets may still be opened -/
theorem kR_readAny (G : zG) {n : Nat} {sh : zSh} {r q : Nat} {xs : List Nat} : ∀ (m d : Nat), m ≤ 6 → 9 + 4 * m ≤ d → ∀ (row : zRw) (s : PS), RdA sh row r q xs s → zM G (fR_readAny d) [.ref r, .int (nI (6 - m))] n sh row (zRd sh row r q xs (pAny xs m s)) := by
  intro m
  induction m with
  | zero =>
    intro d _ hd row s hR
    have h := kR_readAny0 G d (by omega) (n := n) hR (op := 6) (by omega) (nest := fun s => (false, s)) (fun h => absurd h (by omega))
    exact h
  | succ m ih =>
    intro d hm hd row s hR
    have h := kR_readAny0 G d (by omega) (n := n) hR (op := 6 - (m + 1)) (by omega) (nest := pAny xs m) (fun _ row' s' hR' => by
      have := ih (d - 4) (by omega) (by omega) row' s' hR'
      rw [show 6 - (m + 1) + 1 = 6 - m by omega]
      exact this)
    rw [decide_eq_true (show 6 - (m + 1) < 6 by omega)] at h
    exact h
end
section
def pRead (xs : List Nat) : PR := ((pAny xs 6 (0, [], [])).1 && decide (at0 xs (skp xs (pAny xs 6 (0, [], [])).2.1) = 0), (pAny xs 6 (0, [], [])).2)
/-- a reader between two readings -/
def RdI (sh : zSh) (row : zRw) (r q : Nat) : Prop := (∃ (a : Int32) (ys : List Nat) (ks : List qStep) (wds : List (List Nat)), row r 2 = .int a ∧ Txt sh row (r + 1) ys ∧ QryA sh row q ks wds) ∧ sh r = some (0, 2, 3) ∧ row r 0 = .ref (r + 1) ∧ row r 1 = .ref q ∧ (q + 28 < r ∨ r + 2 < q)
theorem RdA.I {sh : zSh} {row : zRw} {r q : Nat} {xs : List Nat} {s : PS} (h : RdA sh row r q xs s) : RdI sh row r q := ⟨⟨_, _, _, _, h.2.2.2.1, h.2.2.2.2.1, h.2.2.2.2.2.1⟩, h.1, h.2.1, h.2.2.1, h.2.2.2.2.2.2.2⟩
/-- the reader's cells, and its query's -/
def frQ (r q : Nat) (row row' : zRw) : Prop := ∀ b, ¬ (r ≤ b ∧ b ≤ r + 2) → ¬ (q ≤ b ∧ b ≤ q + 28) → row' b = row b
theorem frQ.tr {r q : Nat} {r1 r2 r3 : zRw} (h : frQ r q r1 r2) (g : frQ r q r2 r3) : frQ r q r1 r3 := fun b h1 h2 => (g b h1 h2).trans (h b h1 h2)
theorem frR.Q {r q : Nat} {r1 r2 : zRw} (h : frR r q r1 r2) : frQ r q r1 r2 := fun b h1 h2 => h b (by omega) h2
theorem Txt.keepQ {sh : zSh} {row row' : zRw} {r q t : Nat} {xs : List Nat} (h : Txt sh row t xs) (hf : frQ r q row row') (h1 : t + 1 < r ∨ r + 2 < t) (h2 : t + 1 < q ∨ q + 28 < t) : Txt sh row' t xs := h.keep (hf t (by omega) (by omega)) (hf (t + 1) (by omega) (by omega))

set_option maxHeartbeats 4000000 in
set_option maxRecDepth 100000 in
theorem kR_read (G : zG) (d : Nat) (hd : 34 ≤ d) {n : Nat} {sh : zSh} {row : zRw} {r q : Nat} (hI : RdI sh row r q) {o : Nat} {xs : List Nat} (hO : Txt sh row o xs) (ho1 : o + 1 < r ∨ r + 2 < o) (ho2 : o + 1 < q ∨ q + 28 < o) : zM G (fR_read d) [.ref r, .ref o] n sh row (zpR sh (fun v row' => v = .int (bI (pRead xs).1) ∧ frQ r q row row' ∧ RdI sh row' r q ∧ QryA sh row' q (pRead xs).2.2.1 (pRead xs).2.2.2)) := by
  refine zM.of (by show plainName "PostIndex$QueryReader" = true; decide +kernel) (Nat.le_of_ble_eq_true rfl) (by intro v hv; simp at hv; rcases hv with rfl | rfl <;> rfl) ?_
  intro K hE
  show zX G K (fR_read d) n 0 0 sh row 0 [.ref r, .ref o] []
  have hD : d - 1 + 1 ≤ d := by omega
  obtain ⟨⟨a0, ys, ks, wds, hp2, hT, hQ⟩, hs, hp0, hp1, hdj⟩ := id hI
  refine zx_aload_n dR_read_0 rfl ?_
  refine zx_get dR_read_1 flR_12 (by assumption) (by assumption) ?_
  refine zc_Vv (n0 := n) (ce := 0) (kT_makeEmpty G (d - 1) (by omega) hT.1) (meT_makeEmpty _) lkR_25 hT.1 rfl rfl hD (Nat.le_of_ble_eq_true rfl) rfl rfl (Nat.le_of_ble_eq_true rfl) (Nat.le_of_ble_eq_true rfl) (Nat.le_of_ble_eq_true rfl) dR_read_4 (fun r1 hr1 => ?_)
  have hT1 : Txt sh r1 (r + 1) [] := by rw [hr1]; exact hT.empty
  have hO1 : Txt sh r1 o xs := hO.keep (by rw [hr1, zup_ne (by omega)]) (by rw [hr1, zup_ne (by omega)])
  have e1 : r1 r = row r := by rw [hr1, zup_ne (by omega)]
  have q1 : r1 r 0 = .ref (r + 1) := by rw [e1]; exact hp0
  have hQ1 : QryA sh r1 q ks wds := hQ.keep (lo := r + 1) (hi := r + 1) (by rw [hr1]; exact frI_up (by omega) (by omega)) (by omega)
  have hf1 : frQ r q row r1 := fun b h1 _ => by rw [hr1]; exact zup_ne (by omega)
  refine zx_aload_n dR_read_7 rfl ?_
  refine zx_get dR_read_8 flR_12 (by assumption) (by assumption) ?_
  refine zx_aload_n dR_read_11 rfl ?_
  refine zc_Vr (n0 := n) (ce := 0) (kT_appendBeginning G (d - 1) (by omega) hT1 hO1) (meT_appendBeginning _) lkR_28 hT.1 rfl rfl hD (Nat.le_of_ble_eq_true rfl) rfl rfl (Nat.le_of_ble_eq_true rfl) (Nat.le_of_ble_eq_true rfl) (Nat.le_of_ble_eq_true rfl) dR_read_12 (fun v r2 h6 => ?_)
  obtain ⟨rfl, hfr, hT2⟩ := h6
  have hmin : min xs.length (24 - ([] : List Nat).length) = xs.length := by have := hO.2.2.2.2.1; simp; omega
  rw [hmin, List.take_length, List.nil_append] at hT2
  have e2 : r2 r = r1 r := hfr r (by omega) (by omega)
  have q2 : r2 r 1 = .ref q := by rw [e2, e1]; exact hp1
  have hQ2 : QryA sh r2 q ks wds := hQ1.keep (fr2.I hfr) (by omega)
  have hf2 : frQ r q r1 r2 := fun b h1 _ => hfr b (by omega) (by omega)
  refine zx_pop dR_read_15 rfl ?_
  refine zx_aload_n dR_read_16 rfl ?_
  refine zx_get dR_read_17 flR_21 (by assumption) (by assumption) ?_
  refine zc_Vv (n0 := n) (ce := 0) (kQ_makeEmpty G (d - 1) (by omega) hQ2) (meQ_makeEmpty _) lkR_32 hQ2.1.1 rfl rfl hD (Nat.le_of_ble_eq_true rfl) rfl rfl (Nat.le_of_ble_eq_true rfl) (Nat.le_of_ble_eq_true rfl) (Nat.le_of_ble_eq_true rfl) dR_read_20 (fun r3 h7 => ?_)
  obtain ⟨hfq, hQ3⟩ := h7
  have e3 : r3 r = r2 r := hfq r (by omega)
  have hT3 : Txt sh r3 (r + 1) xs := hT2.keepI hfq (by omega)
  have hf3a : frQ r q r2 r3 := fun b _ h2 => hfq b (by omega)
  refine zx_aload_n dR_read_23 rfl ?_
  refine zx_iconst (v := nI 0) dR_read_24 (by decide) ?_
  refine zx_put dR_read_25 flR_33 tpR_2 hs rfl rfl ?_
  have hf3 : frQ r q r2 (zup r3 r 2 (.int (nI 0))) := hf3a.tr (fun b h1 _ => zup_ne (by omega))
  have hR0 : RdA sh (zup r3 r 2 (.int (nI 0))) r q xs (0, [], []) := by
    refine ⟨hs, ?_, ?_, zup_same _ _ _, hT3.keep (zup_ne (by omega)) (zup_ne (by omega)), hQ3.keep (lo := r) (hi := r) (frI_up (by omega) (by omega)) (by omega), Nat.zero_le _, hdj⟩
    · rw [zup_k (Or.inr (by decide)), e3, e2, e1]; exact hp0
    · rw [zup_k (Or.inr (by decide)), e3, e2, e1]; exact hp1
  refine zx_aload_n dR_read_28 rfl ?_
  refine zx_iconst (v := nI 0) dR_read_29 (by decide) ?_
  refine zc_Vr (n0 := n) (ce := 0) (kR_readAny G 6 (d - 1) (by omega) (by omega) _ _ hR0) (meR_readAny _) lkR_37 hs rfl rfl hD (Nat.le_of_ble_eq_true rfl) rfl rfl (Nat.le_of_ble_eq_true rfl) (Nat.le_of_ble_eq_true rfl) (Nat.le_of_ble_eq_true rfl) dR_read_30 (fun v r4 h7 => ?_)
  obtain ⟨rfl, h8, h9⟩ := h7
  have hz := hT.lt (i := 0)
  refine zb_if_eq (tgt := 47) dR_read_33 rfl (fun h33 => ?_) (fun h33 => ?_)
  · refine zx_iconst (v := nI 0) dR_read_47 (by decide) ?_
    exact zx_zret hE rfl (by first | decide | exact bI_nar _) dR_read_48 rfl (Nat.le_of_ble_eq_true rfl) (by
      unfold pRead
      first
      | (rw [h33, Bool.true_and]
         refine ⟨_, rfl, rfl, ?_, ((hf1.tr hf2).tr hf3).tr ((frR.Q h8).tr (frR.Q h11)), h12.I, h12.2.2.2.2.2.1⟩
         first | (rw [decide_eq_true (by omega)]; rfl) | (rw [decide_eq_false (by omega)]; rfl))
      | (rw [h33, Bool.false_and]
         exact ⟨_, rfl, rfl, rfl, ((hf1.tr hf2).tr hf3).tr (frR.Q h8), h9.I, h9.2.2.2.2.2.1⟩))
  · refine zx_aload_n dR_read_36 rfl ?_
    refine zc_Vr (n0 := n) (ce := 0) (kR_peekPiece G (d - 1) (by omega) h9) (meR_peekPiece _) lkR_41 hs rfl rfl hD (Nat.le_of_ble_eq_true rfl) rfl rfl (Nat.le_of_ble_eq_true rfl) (Nat.le_of_ble_eq_true rfl) (Nat.le_of_ble_eq_true rfl) dR_read_37 (fun v r5 h10 => ?_)
    obtain ⟨rfl, h11, h12⟩ := h10
    have hz := hT3.lt (i := skp xs (pAny xs 6 (0, [], [])).2.1)
    refine zn_if_ne (tgt := 47) dR_read_40 rfl (by omega) (fun h40 => ?_) (fun h40 => ?_)
    · refine zx_iconst (v := nI 0) dR_read_47 (by decide) ?_
      exact zx_zret hE rfl (by first | decide | exact bI_nar _) dR_read_48 rfl (Nat.le_of_ble_eq_true rfl) (by
      unfold pRead
      first
      | (rw [h33, Bool.true_and]
         refine ⟨_, rfl, rfl, ?_, ((hf1.tr hf2).tr hf3).tr ((frR.Q h8).tr (frR.Q h11)), h12.I, h12.2.2.2.2.2.1⟩
         first | (rw [decide_eq_true (by omega)]; rfl) | (rw [decide_eq_false (by omega)]; rfl))
      | (rw [h33, Bool.false_and]
         exact ⟨_, rfl, rfl, rfl, ((hf1.tr hf2).tr hf3).tr (frR.Q h8), h9.I, h9.2.2.2.2.2.1⟩))
    · refine zx_iconst (v := nI 1) dR_read_43 (by decide) ?_
      refine zx_goto (tgt := 48) dR_read_44 rfl ?_
      exact zx_zret hE rfl (by first | decide | exact bI_nar _) dR_read_48 rfl (Nat.le_of_ble_eq_true rfl) (by
      unfold pRead
      first
      | (rw [h33, Bool.true_and]
         refine ⟨_, rfl, rfl, ?_, ((hf1.tr hf2).tr hf3).tr ((frR.Q h8).tr (frR.Q h11)), h12.I, h12.2.2.2.2.2.1⟩
         first | (rw [decide_eq_true (by omega)]; rfl) | (rw [decide_eq_false (by omega)]; rfl))
      | (rw [h33, Bool.false_and]
         exact ⟨_, rfl, rfl, rfl, ((hf1.tr hf2).tr hf3).tr (frR.Q h8), h9.I, h9.2.2.2.2.2.1⟩))

set_option maxHeartbeats 4000000 in
set_option maxRecDepth 100000 in
theorem kR_exchange (G : zG) (d : Nat) (hd : 0 ≤ d) {n : Nat} {sh : zSh} {row : zRw} {r q u : Nat} (hs : sh r = some (0, 2, 3)) (hp1 : row r 1 = .ref q) : zM G (fR_exchange d) [.ref r, .ref u] n sh row (zpR sh (fun v row' => v = .ref q ∧ row' = zup row r 1 (.ref u))) := by
  refine zM.of (by show plainName "PostIndex$QueryReader" = true; decide +kernel) (Nat.le_of_ble_eq_true rfl) (by intro v hv; simp at hv; rcases hv with rfl | rfl <;> rfl) ?_
  intro K hE
  show zX G K (fR_exchange d) n 0 0 sh row 0 [.ref r, .ref u, .retAddr 0] []
  refine zx_aload_n dR_exchange_0 rfl ?_
  refine zx_get dR_exchange_1 flR_21 (by assumption) (by assumption) ?_
  refine zx_astore_n dR_exchange_4 (Nat.le_of_ble_eq_true rfl) rfl rfl ?_
  refine zx_aload_n dR_exchange_5 rfl ?_
  refine zx_aload_n dR_exchange_6 rfl ?_
  refine zx_put dR_exchange_7 flR_21 tpR_1 (by assumption) rfl rfl ?_
  refine zx_aload_n dR_exchange_10 rfl ?_
  exact zx_aret hE rfl (Or.inl ⟨_, rfl⟩) dR_exchange_11 rfl (Nat.le_of_ble_eq_true rfl) ⟨_, rfl, rfl, rfl, rfl⟩
end
section
/-- the class's state: counters (made, published, segments begun, searches begun, where the writer is, its tokens), posts, segments, searches (open, bound, query's cell, steps, words) -/
abbrev CT : Type := Nat × Nat × Nat × Nat × Nat × Nat
abbrev PF : Type := Nat → Int32 × Int32 × List Nat × Bool
abbrev SF : Type := Nat → List (List Nat × Int32) × Nat × Bool
abbrev HF : Type := Nat → Bool × Nat × Nat × List qStep × List (List Nat)
def isQ (x q : Nat) : Prop := q = x + 8 ∨ q = x + 707 ∨ q = x + 737 ∨ q = x + 767
def XObj (sh : zSh) (row : zRw) (x : Nat) (c : CT) : Prop := sh x = some (0, 6, 12) ∧ row x 0 = .ref (x + 1) ∧ row x 1 = .ref (x + 37) ∧ row x 2 = .ref (x + 110) ∧ row x 3 = .ref (x + 705) ∧ row x 4 = .ref (x + 5) ∧ row x 5 = .int (nI c.1) ∧ row x 6 = .int (nI c.2.1) ∧ row x 7 = .int (nI c.2.2.1) ∧ row x 8 = .int (nI c.2.2.2.1) ∧ row x 9 = .ref (x + 3) ∧ row x 10 = .int (nI c.2.2.2.2.1) ∧ row x 11 = .int (nI c.2.2.2.2.2)
def XPs (sh : zSh) (row : zRw) (x : Nat) (pf : PF) : Prop := sh (x + 37) = some (2, 4, 24) ∧ ∀ i, i < 24 → row (x + 37) i = .ref (x + 38 + 3 * i) ∧ PostA sh row (x + 38 + 3 * i) (pf i).1 (pf i).2.1 (pf i).2.2.1 (pf i).2.2.2
def XSg (sh : zSh) (row : zRw) (x : Nat) (sf : SF) : Prop := sh (x + 110) = some (2, 5, 6) ∧ ∀ g, g < 6 → row (x + 110) g = .ref (x + 111 + 99 * g) ∧ SegA sh row (x + 111 + 99 * g) (sf g).1 (sf g).2.1 (sf g).2.2
def XSe (sh : zSh) (row : zRw) (x : Nat) (hf : HF) : Prop := sh (x + 705) = some (2, 6, 3) ∧ ∀ j, j < 3 → row (x + 705) j = .ref (x + 706 + 30 * j) ∧ sh (x + 706 + 30 * j) = some (0, 3, 3) ∧ row (x + 706 + 30 * j) 0 = .ref (hf j).2.2.1 ∧ row (x + 706 + 30 * j) 1 = .int (nI (hf j).2.1) ∧ row (x + 706 + 30 * j) 2 = .int (bI (hf j).1) ∧ isQ x (hf j).2.2.1 ∧ QryA sh row (hf j).2.2.1 (hf j).2.2.2.1 (hf j).2.2.2.2
def XRd (sh : zSh) (row : zRw) (x qr : Nat) : Prop := RdI sh row (x + 5) qr ∧ isQ x qr
def XDj (hf : HF) (qr : Nat) : Prop := (∀ j, j < 3 → (hf j).2.2.1 ≠ qr) ∧ ∀ i j, i < 3 → j < 3 → i ≠ j → (hf i).2.2.1 ≠ (hf j).2.2.1
def XA (sh : zSh) (row : zRw) (x : Nat) (D : List Nat) (pf : PF) (sf : SF) (hf : HF) (c : CT) (qr : Nat) : Prop := XObj sh row x c ∧ Txt sh row (x + 1) D ∧ (∃ tk, Txt sh row (x + 3) tk) ∧ XPs sh row x pf ∧ XSg sh row x sf ∧ XSe sh row x hf ∧ XRd sh row x qr ∧ XDj hf qr
/-- what is kept -/
theorem XObj.keep {sh : zSh} {row row' : zRw} {x : Nat} {c : CT} (h : XObj sh row x c) (e : row' x = row x) : XObj sh row' x c := by
  unfold XObj at h ⊢; rw [e]; exact h
theorem XPs.keep {sh : zSh} {row row' : zRw} {x lo hi : Nat} {pf : PF} (h : XPs sh row x pf) (hf : frI lo hi row row') (hn : x + 109 < lo ∨ hi < x + 37) : XPs sh row' x pf := by
  refine ⟨h.1, fun i hi2 => ?_⟩
  obtain ⟨a, b⟩ := h.2 i hi2
  exact ⟨by rw [hf (x + 37) (by omega)]; exact a, b.keep hf (by omega)⟩
theorem XSg.keep {sh : zSh} {row row' : zRw} {x lo hi : Nat} {sf : SF} (h : XSg sh row x sf) (hf : frI lo hi row row') (hn : x + 704 < lo ∨ hi < x + 110) : XSg sh row' x sf := by
  refine ⟨h.1, fun i hi2 => ?_⟩
  obtain ⟨a, b⟩ := h.2 i hi2
  exact ⟨by rw [hf (x + 110) (by omega)]; exact a, b.keep hf (by omega)⟩
theorem isQ.rng {x q : Nat} (h : isQ x q) : (x + 8 ≤ q ∧ q ≤ x + 8) ∨ (x + 707 ≤ q ∧ q + 28 ≤ x + 795) := by
  rcases h with h | h | h | h <;> omega
theorem XSe.keep {sh : zSh} {row row' : zRw} {x lo hi : Nat} {hf : HF} (h : XSe sh row x hf) (hr : frI lo hi row row') (hn : hi < x + 8 ∨ (x + 36 < lo ∧ hi < x + 705)) : XSe sh row' x hf := by
  refine ⟨h.1, fun j hj => ?_⟩
  obtain ⟨a, b, e, f, g, q, k⟩ := h.2 j hj
  have e1 : row' (x + 706 + 30 * j) = row (x + 706 + 30 * j) := hr _ (by omega)
  have hq := q.rng
  exact ⟨by rw [hr (x + 705) (by omega)]; exact a, b, by rw [e1]; exact e, by rw [e1]; exact f, by rw [e1]; exact g, q, k.keep hr (by omega)⟩
theorem RdI.keep {sh : zSh} {row row' : zRw} {r q lo hi : Nat} (h : RdI sh row r q) (hr : frI lo hi row row') (h1 : r + 2 < lo ∨ hi < r) (h2 : q + 28 < lo ∨ hi < q) : RdI sh row' r q := by
  obtain ⟨⟨a, ys, ks, wds, p1, p2, p3⟩, p4, p5, p6, p7⟩ := h
  have e : row' r = row r := hr _ (by omega)
  exact ⟨⟨a, ys, ks, wds, by rw [e]; exact p1, p2.keepI hr (by omega), p3.keep hr h2⟩, p4, by rw [e]; exact p5, by rw [e]; exact p6, p7⟩
theorem XRd.keep {sh : zSh} {row row' : zRw} {x qr lo hi : Nat} (h : XRd sh row x qr) (hr : frI lo hi row row') (hn : hi < x + 5 ∨ (x + 36 < lo ∧ hi < x + 706)) : XRd sh row' x qr := by
  have hq := h.2.rng
  exact ⟨h.1.keep hr (by omega) (by omega), h.2⟩
/-- a change of one part -/
theorem XA.draft {sh : zSh} {row row' : zRw} {x : Nat} {D D' : List Nat} {pf : PF} {sf : SF} {hf : HF} {c : CT} {qr : Nat} (h : XA sh row x D pf sf hf c qr) (hr : fr2 (x + 1) row row') (hT : Txt sh row' (x + 1) D') : XA sh row' x D' pf sf hf c qr := by
  obtain ⟨hO, hD0, ⟨tk, htk⟩, hPs, hSg, hSe, hRd, hDj⟩ := h
  have hI := fr2.I hr
  exact ⟨hO.keep (hr x (by omega) (by omega)), hT, ⟨tk, htk.keepI hI (by omega)⟩, hPs.keep hI (by omega), hSg.keep hI (by omega), hSe.keep hI (by omega), hRd.keep hI (by omega), hDj⟩
theorem XA.ctr {sh : zSh} {row row' : zRw} {x : Nat} {D : List Nat} {pf : PF} {sf : SF} {hf : HF} {c c' : CT} {qr : Nat} (h : XA sh row x D pf sf hf c qr) (hr : frI x x row row') (hO : XObj sh row' x c') : XA sh row' x D pf sf hf c' qr := by
  obtain ⟨_, hD0, ⟨tk, htk⟩, hPs, hSg, hSe, hRd, hDj⟩ := h
  exact ⟨hO, hD0.keepI hr (by omega), ⟨tk, htk.keepI hr (by omega)⟩, hPs.keep hr (by omega), hSg.keep hr (by omega), hSe.keep hr (by omega), hRd.keep hr (by omega), hDj⟩
theorem XA.tok {sh : zSh} {row row' : zRw} {x : Nat} {D tk' : List Nat} {pf : PF} {sf : SF} {hf : HF} {c : CT} {qr : Nat} (h : XA sh row x D pf sf hf c qr) (hr : fr2 (x + 3) row row') (hT : Txt sh row' (x + 3) tk') : XA sh row' x D pf sf hf c qr := by
  obtain ⟨hO, hD0, _, hPs, hSg, hSe, hRd, hDj⟩ := h
  have hI := fr2.I hr
  exact ⟨hO.keep (hr x (by omega) (by omega)), hD0.keepI hI (by omega), ⟨_, hT⟩, hPs.keep hI (by omega), hSg.keep hI (by omega), hSe.keep hI (by omega), hRd.keep hI (by omega), hDj⟩
theorem XA.postU {sh : zSh} {row row' : zRw} {x i : Nat} {D : List Nat} {pf : PF} {sf : SF} {hf : HF} {c : CT} {qr : Nat} {v : Int32 × Int32 × List Nat × Bool} (h : XA sh row x D pf sf hf c qr) (hi : i < 24) (hr : frI (x + 38 + 3 * i) (x + 40 + 3 * i) row row') (hP : PostA sh row' (x + 38 + 3 * i) v.1 v.2.1 v.2.2.1 v.2.2.2) : XA sh row' x D (va_up pf i v) sf hf c qr := by
  obtain ⟨hO, hD0, ⟨tk, htk⟩, hPs, hSg, hSe, hRd, hDj⟩ := h
  refine ⟨hO.keep (hr x (by omega)), hD0.keepI hr (by omega), ⟨tk, htk.keepI hr (by omega)⟩, ⟨hPs.1, fun j hj => ?_⟩, hSg.keep hr (by omega), hSe.keep hr (by omega), hRd.keep hr (by omega), hDj⟩
  obtain ⟨a, b⟩ := hPs.2 j hj
  refine ⟨by rw [hr (x + 37) (by omega)]; exact a, ?_⟩
  by_cases hji : j = i
  · subst hji
    rw [show va_up pf j v j = v by unfold va_up; rw [if_pos rfl]]
    exact hP
  · rw [show va_up pf i v j = pf j by unfold va_up; rw [if_neg hji]]
    exact b.keep hr (by omega)
theorem XA.segU {sh : zSh} {row row' : zRw} {x g : Nat} {D : List Nat} {pf : PF} {sf : SF} {hf : HF} {c : CT} {qr : Nat} {v : List (List Nat × Int32) × Nat × Bool} (h : XA sh row x D pf sf hf c qr) (hg : g < 6) (hr : frI (x + 111 + 99 * g) (x + 111 + 99 * g + 98) row row') (hS : SegA sh row' (x + 111 + 99 * g) v.1 v.2.1 v.2.2) : XA sh row' x D pf (va_up sf g v) hf c qr := by
  obtain ⟨hO, hD0, ⟨tk, htk⟩, hPs, hSg, hSe, hRd, hDj⟩ := h
  refine ⟨hO.keep (hr x (by omega)), hD0.keepI hr (by omega), ⟨tk, htk.keepI hr (by omega)⟩, hPs.keep hr (by omega), ⟨hSg.1, fun j hj => ?_⟩, hSe.keep hr (by omega), hRd.keep hr (by omega), hDj⟩
  obtain ⟨a, b⟩ := hSg.2 j hj
  refine ⟨by rw [hr (x + 110) (by omega)]; exact a, ?_⟩
  by_cases hji : j = g
  · subst hji
    rw [show va_up sf j v j = v by unfold va_up; rw [if_pos rfl]]
    exact hS
  · rw [show va_up sf g v j = sf j by unfold va_up; rw [if_neg hji]]
    exact b.keep hr (by omega)
/-- what is asked of the state -/
def liveB (sb g : Nat) : Bool := decide (g < sb ∧ sb - g ≤ 3)
def fullB (pub g : Nat) : Bool := decide (4 * (g + 1) ≤ pub)
def standB (pf : PF) (c : CT) (j : Nat) : Bool := decide (j < c.2.1) && (liveB c.2.2.1 (j / 4) && !(pf j).2.2.2)
def opB (hf : HF) (j : Nat) : Bool := decide (j < 3) && (hf j).1
theorem nI_m1 {v : Int32} (h : ¬ v < 0) : ∃ j : Nat, j < 2147483648 ∧ v = nI j := nI_of h

set_option maxHeartbeats 4000000 in
set_option maxRecDepth 100000 in
theorem kX_isLive (G : zG) (d : Nat) (hd : 0 ≤ d) {n : Nat} {sh : zSh} {row : zRw} {x : Nat} {D : List Nat} {pf : PF} {sf : SF} {hf : HF} {c : CT} {qr : Nat} (hX : XA sh row x D pf sf hf c qr) {g : Nat} (hg : g < 2147483648) (hsb : c.2.2.1 ≤ 6) : zM G (fX_isLive d) [.ref x, .int (nI g)] n sh row (zP sh row (.int (bI (liveB c.2.2.1 g)))) := by
  refine zM.of (by show plainName "PostIndex" = true; decide +kernel) (Nat.le_of_ble_eq_true rfl) (by intro v hv; simp at hv; rcases hv with rfl | rfl <;> rfl) ?_
  intro K hE
  show zX G K (fX_isLive d) n 0 0 sh row 0 [.ref x, .int (nI g)] []
  obtain ⟨hO, hD0, htk, hPs, hSg, hSe, hRd, hDj⟩ := id hX
  obtain ⟨ho, h_0, h_1, h_2, h_3, h_4, h_5, h_6, h_7, h_8, h_9, h_10, h_11⟩ := id hO
  refine zx_iload_n dX_isLive_0 rfl ?_
  refine zn_if_lt (tgt := 26) dX_isLive_1 rfl (by omega) ?_
  refine zx_iload_n dX_isLive_4 rfl ?_
  refine zx_aload_n dX_isLive_5 rfl ?_
  refine zx_get dX_isLive_6 flX_129 (by assumption) (by assumption) ?_
  refine zn_icmp_ge (tgt := 26) dX_isLive_9 rfl (by omega) (by omega) (fun h9 => ?_) (fun h9 => ?_)
  · refine zx_iconst (v := nI 0) dX_isLive_26 (by decide) ?_
    exact zx_zret hE rfl (by first | decide | exact bI_nar _) dX_isLive_27 rfl (Nat.le_of_ble_eq_true rfl) ⟨by unfold liveB; first | (rw [decide_eq_true (by omega)]; rfl) | (rw [decide_eq_false (by omega)]; rfl), rfl, rfl⟩
  · refine zx_aload_n dX_isLive_12 rfl ?_
    refine zx_get dX_isLive_13 flX_129 (by assumption) (by assumption) ?_
    refine zx_iload_n dX_isLive_16 rfl ?_
    refine zn_isub dX_isLive_17 (by omega) ?_
    refine zx_iconst (v := nI 3) dX_isLive_18 (by decide) ?_
    refine zn_icmp_gt (tgt := 26) dX_isLive_19 rfl (by omega) (by omega) (fun h19 => ?_) (fun h19 => ?_)
    · refine zx_iconst (v := nI 0) dX_isLive_26 (by decide) ?_
      exact zx_zret hE rfl (by first | decide | exact bI_nar _) dX_isLive_27 rfl (Nat.le_of_ble_eq_true rfl) ⟨by unfold liveB; first | (rw [decide_eq_true (by omega)]; rfl) | (rw [decide_eq_false (by omega)]; rfl), rfl, rfl⟩
    · refine zx_iconst (v := nI 1) dX_isLive_22 (by decide) ?_
      refine zx_goto (tgt := 27) dX_isLive_23 rfl ?_
      exact zx_zret hE rfl (by first | decide | exact bI_nar _) dX_isLive_27 rfl (Nat.le_of_ble_eq_true rfl) ⟨by unfold liveB; first | (rw [decide_eq_true (by omega)]; rfl) | (rw [decide_eq_false (by omega)]; rfl), rfl, rfl⟩

set_option maxHeartbeats 4000000 in
set_option maxRecDepth 100000 in
theorem kX_isFull (G : zG) (d : Nat) (hd : 0 ≤ d) {n : Nat} {sh : zSh} {row : zRw} {x : Nat} {D : List Nat} {pf : PF} {sf : SF} {hf : HF} {c : CT} {qr : Nat} (hX : XA sh row x D pf sf hf c qr) {g : Nat} (hg : g < 1000) (hpb : c.2.1 ≤ 24) : zM G (fX_isFull d) [.ref x, .int (nI g)] n sh row (zP sh row (.int (bI (fullB c.2.1 g)))) := by
  refine zM.of (by show plainName "PostIndex" = true; decide +kernel) (Nat.le_of_ble_eq_true rfl) (by intro v hv; simp at hv; rcases hv with rfl | rfl <;> rfl) ?_
  intro K hE
  show zX G K (fX_isFull d) n 0 0 sh row 0 [.ref x, .int (nI g)] []
  obtain ⟨hO, hD0, htk, hPs, hSg, hSe, hRd, hDj⟩ := id hX
  obtain ⟨ho, h_0, h_1, h_2, h_3, h_4, h_5, h_6, h_7, h_8, h_9, h_10, h_11⟩ := id hO
  refine zx_aload_n dX_isFull_0 rfl ?_
  refine zx_get dX_isFull_1 flX_72 (by assumption) (by assumption) ?_
  refine zx_iconst (v := nI 4) dX_isFull_4 (by decide) ?_
  refine zx_iload_n dX_isFull_5 rfl ?_
  refine zx_iconst (v := nI 1) dX_isFull_6 (by decide) ?_
  refine zn_iadd dX_isFull_7 ?_
  refine zn_imul dX_isFull_8 ?_
  refine zn_icmp_lt (tgt := 16) dX_isFull_9 rfl (by omega) (by omega) (fun h9 => ?_) (fun h9 => ?_)
  · refine zx_iconst (v := nI 0) dX_isFull_16 (by decide) ?_
    exact zx_zret hE rfl (by first | decide | exact bI_nar _) dX_isFull_17 rfl (Nat.le_of_ble_eq_true rfl) ⟨by unfold fullB; first | (rw [decide_eq_true (by omega)]; rfl) | (rw [decide_eq_false (by omega)]; rfl), rfl, rfl⟩
  · refine zx_iconst (v := nI 1) dX_isFull_12 (by decide) ?_
    refine zx_goto (tgt := 17) dX_isFull_13 rfl ?_
    exact zx_zret hE rfl (by first | decide | exact bI_nar _) dX_isFull_17 rfl (Nat.le_of_ble_eq_true rfl) ⟨by unfold fullB; first | (rw [decide_eq_true (by omega)]; rfl) | (rw [decide_eq_false (by omega)]; rfl), rfl, rfl⟩

set_option maxHeartbeats 4000000 in
set_option maxRecDepth 100000 in
theorem kX_isLiveN (G : zG) (d : Nat) (hd : 0 ≤ d) {n : Nat} {sh : zSh} {row : zRw} {x : Nat} {D : List Nat} {pf : PF} {sf : SF} {hf : HF} {c : CT} {qr : Nat} (hX : XA sh row x D pf sf hf c qr) {v : Int32} (hv : v < 0) : zM G (fX_isLive d) [.ref x, .int v] n sh row (zP sh row (.int (bI false))) := by
  refine zM.of (by show plainName "PostIndex" = true; decide +kernel) (Nat.le_of_ble_eq_true rfl) (by intro v hv; simp at hv; rcases hv with rfl | rfl <;> rfl) ?_
  intro K hE
  show zX G K (fX_isLive d) n 0 0 sh row 0 [.ref x, .int v] []
  obtain ⟨hO, hD0, htk, hPs, hSg, hSe, hRd, hDj⟩ := id hX
  obtain ⟨ho, h_0, h_1, h_2, h_3, h_4, h_5, h_6, h_7, h_8, h_9, h_10, h_11⟩ := id hO
  refine zx_iload_n dX_isLive_0 rfl ?_
  refine zx_if_lt (tgt := 26) dX_isLive_1 rfl (fun h1 => ?_) (fun h1 => ?_)
  · refine zx_iconst (v := nI 0) dX_isLive_26 (by decide) ?_
    exact zx_zret hE rfl (by first | decide | exact bI_nar _) dX_isLive_27 rfl (Nat.le_of_ble_eq_true rfl) ⟨rfl, rfl, rfl⟩
  · exact absurd hv h1

set_option maxHeartbeats 4000000 in
set_option maxRecDepth 100000 in
theorem kX_standsN (G : zG) (d : Nat) (hd : 1 ≤ d) {n : Nat} {sh : zSh} {row : zRw} {x : Nat} {D : List Nat} {pf : PF} {sf : SF} {hf : HF} {c : CT} {qr : Nat} (hX : XA sh row x D pf sf hf c qr) {v : Int32} (hv : v < 0) : zM G (fX_stands d) [.ref x, .int v] n sh row (zP sh row (.int (bI false))) := by
  refine zM.of (by show plainName "PostIndex" = true; decide +kernel) (Nat.le_of_ble_eq_true rfl) (by intro v hv; simp at hv; rcases hv with rfl | rfl <;> rfl) ?_
  intro K hE
  show zX G K (fX_stands d) n 0 0 sh row 0 [.ref x, .int v] []
  have hD : d - 1 + 1 ≤ d := by omega
  obtain ⟨hO, hD0, htk, hPs, hSg, hSe, hRd, hDj⟩ := id hX
  obtain ⟨ho, h_0, h_1, h_2, h_3, h_4, h_5, h_6, h_7, h_8, h_9, h_10, h_11⟩ := id hO
  refine zx_iload_n dX_stands_0 rfl ?_
  refine zx_if_lt (tgt := 38) dX_stands_1 rfl (fun h1 => ?_) (fun h1 => ?_)
  · refine zx_iconst (v := nI 0) dX_stands_38 (by decide) ?_
    exact zx_zret hE rfl (by first | decide | exact bI_nar _) dX_stands_39 rfl (Nat.le_of_ble_eq_true rfl) ⟨rfl, rfl, rfl⟩
  · exact absurd hv h1

set_option maxHeartbeats 4000000 in
set_option maxRecDepth 100000 in
theorem kX_isOpenN (G : zG) (d : Nat) (hd : 0 ≤ d) {n : Nat} {sh : zSh} {row : zRw} {x : Nat} {D : List Nat} {pf : PF} {sf : SF} {hf : HF} {c : CT} {qr : Nat} (hX : XA sh row x D pf sf hf c qr) {v : Int32} (hv : v < 0) : zM G (fX_isOpen d) [.ref x, .int v] n sh row (zP sh row (.int (bI false))) := by
  refine zM.of (by show plainName "PostIndex" = true; decide +kernel) (Nat.le_of_ble_eq_true rfl) (by intro v hv; simp at hv; rcases hv with rfl | rfl <;> rfl) ?_
  intro K hE
  show zX G K (fX_isOpen d) n 0 0 sh row 0 [.ref x, .int v] []
  obtain ⟨hO, hD0, htk, hPs, hSg, hSe, hRd, hDj⟩ := id hX
  obtain ⟨ho, h_0, h_1, h_2, h_3, h_4, h_5, h_6, h_7, h_8, h_9, h_10, h_11⟩ := id hO
  refine zx_iload_n dX_isOpen_0 rfl ?_
  refine zx_if_lt (tgt := 25) dX_isOpen_1 rfl (fun h1 => ?_) (fun h1 => ?_)
  · refine zx_iconst (v := nI 0) dX_isOpen_25 (by decide) ?_
    exact zx_zret hE rfl (by first | decide | exact bI_nar _) dX_isOpen_26 rfl (Nat.le_of_ble_eq_true rfl) ⟨rfl, rfl, rfl⟩
  · exact absurd hv h1

set_option maxHeartbeats 4000000 in
set_option maxRecDepth 100000 in
theorem kX_stands (G : zG) (d : Nat) (hd : 1 ≤ d) {n : Nat} {sh : zSh} {row : zRw} {x : Nat} {D : List Nat} {pf : PF} {sf : SF} {hf : HF} {c : CT} {qr : Nat} (hX : XA sh row x D pf sf hf c qr) {j : Nat} (hj : j < 2147483648) (hsb : c.2.2.1 ≤ 6) (hpb : c.2.1 ≤ 24) : zM G (fX_stands d) [.ref x, .int (nI j)] n sh row (zP sh row (.int (bI (standB pf c j)))) := by
  refine zM.of (by show plainName "PostIndex" = true; decide +kernel) (Nat.le_of_ble_eq_true rfl) (by intro v hv; simp at hv; rcases hv with rfl | rfl <;> rfl) ?_
  intro K hE
  show zX G K (fX_stands d) n 0 0 sh row 0 [.ref x, .int (nI j)] []
  have hD : d - 1 + 1 ≤ d := by omega
  obtain ⟨hO, hD0, htk, hPs, hSg, hSe, hRd, hDj⟩ := id hX
  obtain ⟨ho, h_0, h_1, h_2, h_3, h_4, h_5, h_6, h_7, h_8, h_9, h_10, h_11⟩ := id hO
  refine zx_iload_n dX_stands_0 rfl ?_
  refine zn_if_lt (tgt := 38) dX_stands_1 rfl (by omega) ?_
  refine zx_iload_n dX_stands_4 rfl ?_
  refine zx_aload_n dX_stands_5 rfl ?_
  refine zx_get dX_stands_6 flX_72 (by assumption) (by assumption) ?_
  refine zn_icmp_ge (tgt := 38) dX_stands_9 rfl (by omega) (by omega) (fun h9 => ?_) (fun h9 => ?_)
  · refine zx_iconst (v := nI 0) dX_stands_38 (by decide) ?_
    exact zx_zret hE rfl (by first | decide | exact bI_nar _) dX_stands_39 rfl (Nat.le_of_ble_eq_true rfl) ⟨by unfold standB; first | (rw [decide_eq_false (by omega)]; rfl) | (rw [decide_eq_true (by omega), h19]; rfl) | (rw [decide_eq_true (by omega), h19, h31]; rfl), rfl, rfl⟩
  · refine zx_aload_n dX_stands_12 rfl ?_
    refine zx_iload_n dX_stands_13 rfl ?_
    refine zx_iconst (v := nI 4) dX_stands_14 (by decide) ?_
    refine zn_idiv dX_stands_15 (by omega) (by omega) (by omega) ?_
    refine zc_V (kX_isLive G (d - 1) (by omega) hX (g := j / 4) (by omega) hsb) (meX_isLive _) lkX_132 ho rfl rfl hD (Nat.le_of_ble_eq_true rfl) rfl rfl (Nat.le_of_ble_eq_true rfl) (Nat.le_of_ble_eq_true rfl) (Nat.le_of_ble_eq_true rfl) dX_stands_16 ?_
    refine zb_if_eq (tgt := 38) dX_stands_19 rfl (fun h19 => ?_) (fun h19 => ?_)
    · refine zx_iconst (v := nI 0) dX_stands_38 (by decide) ?_
      exact zx_zret hE rfl (by first | decide | exact bI_nar _) dX_stands_39 rfl (Nat.le_of_ble_eq_true rfl) ⟨by unfold standB; first | (rw [decide_eq_false (by omega)]; rfl) | (rw [decide_eq_true (by omega), h19]; rfl) | (rw [decide_eq_true (by omega), h19, h31]; rfl), rfl, rfl⟩
    · refine zx_aload_n dX_stands_22 rfl ?_
      refine zx_get dX_stands_23 flX_28 (by assumption) (by assumption) ?_
      refine zx_iload_n dX_stands_26 rfl ?_
      obtain ⟨q1, q2⟩ := hPs.2 j (by omega)
      obtain ⟨u0, u1, u2, u3, u4, u5⟩ := q2
      refine zn_aald dX_stands_27 hPs.1 rfl (by omega) (by decide) q1 ?_
      refine zx_getN dX_stands_28 flX_87 (by assumption) (by assumption) ?_
      refine zb_if_ne (tgt := 38) dX_stands_31 rfl (fun h31 => ?_) (fun h31 => ?_)
      · refine zx_iconst (v := nI 0) dX_stands_38 (by decide) ?_
        exact zx_zret hE rfl (by first | decide | exact bI_nar _) dX_stands_39 rfl (Nat.le_of_ble_eq_true rfl) ⟨by unfold standB; first | (rw [decide_eq_false (by omega)]; rfl) | (rw [decide_eq_true (by omega), h19]; rfl) | (rw [decide_eq_true (by omega), h19, h31]; rfl), rfl, rfl⟩
      · refine zx_iconst (v := nI 1) dX_stands_34 (by decide) ?_
        refine zx_goto (tgt := 39) dX_stands_35 rfl ?_
        exact zx_zret hE rfl (by first | decide | exact bI_nar _) dX_stands_39 rfl (Nat.le_of_ble_eq_true rfl) ⟨by unfold standB; first | (rw [decide_eq_false (by omega)]; rfl) | (rw [decide_eq_true (by omega), h19]; rfl) | (rw [decide_eq_true (by omega), h19, h31]; rfl), rfl, rfl⟩

set_option maxHeartbeats 4000000 in
set_option maxRecDepth 100000 in
theorem kX_isOpen (G : zG) (d : Nat) (hd : 0 ≤ d) {n : Nat} {sh : zSh} {row : zRw} {x : Nat} {D : List Nat} {pf : PF} {sf : SF} {hf : HF} {c : CT} {qr : Nat} (hX : XA sh row x D pf sf hf c qr) {j : Nat} (hj : j < 2147483648) : zM G (fX_isOpen d) [.ref x, .int (nI j)] n sh row (zP sh row (.int (bI (opB hf j)))) := by
  refine zM.of (by show plainName "PostIndex" = true; decide +kernel) (Nat.le_of_ble_eq_true rfl) (by intro v hv; simp at hv; rcases hv with rfl | rfl <;> rfl) ?_
  intro K hE
  show zX G K (fX_isOpen d) n 0 0 sh row 0 [.ref x, .int (nI j)] []
  obtain ⟨hO, hD0, htk, hPs, hSg, hSe, hRd, hDj⟩ := id hX
  obtain ⟨ho, h_0, h_1, h_2, h_3, h_4, h_5, h_6, h_7, h_8, h_9, h_10, h_11⟩ := id hO
  refine zx_iload_n dX_isOpen_0 rfl ?_
  refine zn_if_lt (tgt := 25) dX_isOpen_1 rfl (by omega) ?_
  refine zx_iload_n dX_isOpen_4 rfl ?_
  refine zx_iconst (v := nI 3) dX_isOpen_5 (by decide) ?_
  refine zn_icmp_ge (tgt := 25) dX_isOpen_6 rfl (by omega) (by omega) (fun h6 => ?_) (fun h6 => ?_)
  · refine zx_iconst (v := nI 0) dX_isOpen_25 (by decide) ?_
    exact zx_zret hE rfl (by first | decide | exact bI_nar _) dX_isOpen_26 rfl (Nat.le_of_ble_eq_true rfl) ⟨by unfold opB; first | (rw [decide_eq_false (by omega)]; rfl) | (rw [decide_eq_true (by omega), h18]; rfl), rfl, rfl⟩
  · refine zx_aload_n dX_isOpen_9 rfl ?_
    refine zx_get dX_isOpen_10 flX_42 (by assumption) (by assumption) ?_
    refine zx_iload_n dX_isOpen_13 rfl ?_
    obtain ⟨q1, q2, q3, q4, q5, q6, q7⟩ := hSe.2 j (by omega)
    refine zn_aald dX_isOpen_14 hSe.1 rfl (by omega) (by decide) q1 ?_
    refine zx_getN dX_isOpen_15 flX_119 (by assumption) (by assumption) ?_
    refine zb_if_eq (tgt := 25) dX_isOpen_18 rfl (fun h18 => ?_) (fun h18 => ?_)
    · refine zx_iconst (v := nI 0) dX_isOpen_25 (by decide) ?_
      exact zx_zret hE rfl (by first | decide | exact bI_nar _) dX_isOpen_26 rfl (Nat.le_of_ble_eq_true rfl) ⟨by unfold opB; first | (rw [decide_eq_false (by omega)]; rfl) | (rw [decide_eq_true (by omega), h18]; rfl), rfl, rfl⟩
    · refine zx_iconst (v := nI 1) dX_isOpen_21 (by decide) ?_
      refine zx_goto (tgt := 26) dX_isOpen_22 rfl ?_
      exact zx_zret hE rfl (by first | decide | exact bI_nar _) dX_isOpen_26 rfl (Nat.le_of_ble_eq_true rfl) ⟨by unfold opB; first | (rw [decide_eq_false (by omega)]; rfl) | (rw [decide_eq_true (by omega), h18]; rfl), rfl, rfl⟩

set_option maxHeartbeats 4000000 in
set_option maxRecDepth 100000 in
theorem kX_length (G : zG) (d : Nat) (hd : 0 ≤ d) {n : Nat} {sh : zSh} {row : zRw} {x : Nat} {D : List Nat} {pf : PF} {sf : SF} {hf : HF} {c : CT} {qr : Nat} (hX : XA sh row x D pf sf hf c qr) : zM G (fX_length d) [.ref x] n sh row (zP sh row (.int (nI D.length))) := by
  refine zM.of (by show plainName "PostIndex" = true; decide +kernel) (Nat.le_of_ble_eq_true rfl) (by intro v hv; simp at hv; rcases hv with rfl <;> rfl) ?_
  intro K hE
  show zX G K (fX_length d) n 0 0 sh row 0 [.ref x] []
  obtain ⟨hO, hD0, htk, hPs, hSg, hSe, hRd, hDj⟩ := id hX
  obtain ⟨ho, h_0, h_1, h_2, h_3, h_4, h_5, h_6, h_7, h_8, h_9, h_10, h_11⟩ := id hO
  refine zx_aload_n dX_length_0 rfl ?_
  refine zx_get dX_length_1 flX_12 (by assumption) (by assumption) ?_
  refine zx_getN dX_length_4 flX_65 hD0.1 hD0.2.2.2.1 ?_
  exact zx_iret hE rfl dX_length_7 rfl (Nat.le_of_ble_eq_true rfl) ⟨rfl, rfl, rfl⟩

set_option maxHeartbeats 4000000 in
set_option maxRecDepth 100000 in
theorem kX_published (G : zG) (d : Nat) (hd : 0 ≤ d) {n : Nat} {sh : zSh} {row : zRw} {x : Nat} {D : List Nat} {pf : PF} {sf : SF} {hf : HF} {c : CT} {qr : Nat} (hX : XA sh row x D pf sf hf c qr) : zM G (fX_published d) [.ref x] n sh row (zP sh row (.int (nI c.2.1))) := by
  refine zM.of (by show plainName "PostIndex" = true; decide +kernel) (Nat.le_of_ble_eq_true rfl) (by intro v hv; simp at hv; rcases hv with rfl <;> rfl) ?_
  intro K hE
  show zX G K (fX_published d) n 0 0 sh row 0 [.ref x] []
  obtain ⟨hO, hD0, htk, hPs, hSg, hSe, hRd, hDj⟩ := id hX
  obtain ⟨ho, h_0, h_1, h_2, h_3, h_4, h_5, h_6, h_7, h_8, h_9, h_10, h_11⟩ := id hO
  refine zx_aload_n dX_published_0 rfl ?_
  refine zx_get dX_published_1 flX_72 (by assumption) (by assumption) ?_
  exact zx_iret hE rfl dX_published_4 rfl (Nat.le_of_ble_eq_true rfl) ⟨rfl, rfl, rfl⟩

set_option maxHeartbeats 4000000 in
set_option maxRecDepth 100000 in
theorem kX_clear (G : zG) (d : Nat) (hd : 1 ≤ d) {n : Nat} {sh : zSh} {row : zRw} {x : Nat} {D : List Nat} {pf : PF} {sf : SF} {hf : HF} {c : CT} {qr : Nat} (hX : XA sh row x D pf sf hf c qr) : zM G (fX_clear d) [.ref x] n sh row (zpV sh (fun row' => frI x (x + 795) row row' ∧ XA sh row' x [] pf sf hf c qr)) := by
  refine zM.of (by show plainName "PostIndex" = true; decide +kernel) (Nat.le_of_ble_eq_true rfl) (by intro v hv; simp at hv; rcases hv with rfl <;> rfl) ?_
  intro K hE
  show zX G K (fX_clear d) n 0 0 sh row 0 [.ref x] []
  have hD : d - 1 + 1 ≤ d := by omega
  obtain ⟨hO, hD0, htk, hPs, hSg, hSe, hRd, hDj⟩ := id hX
  obtain ⟨ho, h_0, h_1, h_2, h_3, h_4, h_5, h_6, h_7, h_8, h_9, h_10, h_11⟩ := id hO
  refine zx_aload_n dX_clear_0 rfl ?_
  refine zx_get dX_clear_1 flX_12 (by assumption) (by assumption) ?_
  refine zc_Vv (kT_makeEmpty G (d - 1) (by omega) hD0.1) (meT_makeEmpty _) lkX_62 hD0.1 rfl rfl hD (Nat.le_of_ble_eq_true rfl) rfl rfl (Nat.le_of_ble_eq_true rfl) (Nat.le_of_ble_eq_true rfl) (Nat.le_of_ble_eq_true rfl) dX_clear_4 (fun r1 hr1 => ?_)
  exact zx_vret hE rfl dX_clear_7 rfl (Nat.le_of_ble_eq_true rfl) ⟨rfl, rfl, by rw [hr1]; exact frI_up (by omega) (by omega), hX.draft (by rw [hr1]; exact fr2_up) (by rw [hr1]; exact hD0.empty)⟩

set_option maxHeartbeats 4000000 in
set_option maxRecDepth 100000 in
theorem kX_type (G : zG) (d : Nat) (hd : 1 ≤ d) {n : Nat} {sh : zSh} {row : zRw} {x : Nat} {D : List Nat} {pf : PF} {sf : SF} {hf : HF} {c : CT} {qr : Nat} (hX : XA sh row x D pf sf hf c qr) {k : Nat} (hk : k < 65536) : zM G (fX_type d) [.ref x, .int (nI k)] n sh row (zpR sh (fun v row' => v = .int (bI (decide (32 ≤ k ∧ k ≤ 126 ∧ D.length < 24))) ∧ frI x (x + 795) row row' ∧ XA sh row' x (if 32 ≤ k ∧ k ≤ 126 ∧ D.length < 24 then D ++ [k] else D) pf sf hf c qr)) := by
  refine zM.of (by show plainName "PostIndex" = true; decide +kernel) (Nat.le_of_ble_eq_true rfl) (by intro v hv; simp at hv; rcases hv with rfl | rfl <;> rfl) ?_
  intro K hE
  show zX G K (fX_type d) n 0 0 sh row 0 [.ref x, .int (nI k)] []
  have hD : d - 1 + 1 ≤ d := by omega
  obtain ⟨hO, hD0, htk, hPs, hSg, hSe, hRd, hDj⟩ := id hX
  obtain ⟨ho, h_0, h_1, h_2, h_3, h_4, h_5, h_6, h_7, h_8, h_9, h_10, h_11⟩ := id hO
  refine zx_iload_n dX_type_0 rfl ?_
  refine zx_bipush (v := nI 32) dX_type_1 (by decide) ?_
  refine zn_icmp_lt (tgt := 27) dX_type_3 rfl (by omega) (by omega) (fun h3 => ?_) (fun h3 => ?_)
  · refine zx_iconst (v := nI 0) dX_type_27 (by decide) ?_
    exact zx_zret hE rfl (by first | decide | exact bI_nar _) dX_type_28 rfl (Nat.le_of_ble_eq_true rfl) (by
      first
      | (have hl := of_decide_eq_true h20
         rw [if_pos hl] at h8
         refine ⟨_, rfl, rfl, by rw [decide_eq_true (by omega)]; rfl, (fr2.I h7).wide (by omega) (by omega), ?_⟩
         rw [if_pos (by omega)]
         exact hX.draft h7 h8)
      | (have hl := of_decide_eq_false h20
         rw [if_neg hl] at h8
         refine ⟨_, rfl, rfl, by rw [decide_eq_false (by omega)]; rfl, (fr2.I h7).wide (by omega) (by omega), ?_⟩
         rw [if_neg (by omega)]
         exact hX.draft h7 h8)
      | (refine ⟨_, rfl, rfl, by rw [decide_eq_false (by omega)]; rfl, frI.rf, ?_⟩
         rw [if_neg (by omega)]
         exact hX))
  · refine zx_iload_n dX_type_6 rfl ?_
    refine zx_bipush (v := nI 126) dX_type_7 (by decide) ?_
    refine zn_icmp_gt (tgt := 27) dX_type_9 rfl (by omega) (by omega) (fun h9 => ?_) (fun h9 => ?_)
    · refine zx_iconst (v := nI 0) dX_type_27 (by decide) ?_
      exact zx_zret hE rfl (by first | decide | exact bI_nar _) dX_type_28 rfl (Nat.le_of_ble_eq_true rfl) (by
      first
      | (have hl := of_decide_eq_true h20
         rw [if_pos hl] at h8
         refine ⟨_, rfl, rfl, by rw [decide_eq_true (by omega)]; rfl, (fr2.I h7).wide (by omega) (by omega), ?_⟩
         rw [if_pos (by omega)]
         exact hX.draft h7 h8)
      | (have hl := of_decide_eq_false h20
         rw [if_neg hl] at h8
         refine ⟨_, rfl, rfl, by rw [decide_eq_false (by omega)]; rfl, (fr2.I h7).wide (by omega) (by omega), ?_⟩
         rw [if_neg (by omega)]
         exact hX.draft h7 h8)
      | (refine ⟨_, rfl, rfl, by rw [decide_eq_false (by omega)]; rfl, frI.rf, ?_⟩
         rw [if_neg (by omega)]
         exact hX))
    · refine zx_aload_n dX_type_12 rfl ?_
      refine zx_get dX_type_13 flX_12 (by assumption) (by assumption) ?_
      refine zx_iload_n dX_type_16 rfl ?_
      refine zc_Vr (kT_append G (d - 1) (by omega) hD0 (c := k) (by omega)) (meT_append _) lkX_47 hD0.1 rfl rfl hD (Nat.le_of_ble_eq_true rfl) rfl rfl (Nat.le_of_ble_eq_true rfl) (Nat.le_of_ble_eq_true rfl) (Nat.le_of_ble_eq_true rfl) dX_type_17 (fun v r1 h6 => ?_)
      obtain ⟨rfl, h7, h8⟩ := h6
      refine zb_if_eq (tgt := 27) dX_type_20 rfl (fun h20 => ?_) (fun h20 => ?_)
      · refine zx_iconst (v := nI 0) dX_type_27 (by decide) ?_
        exact zx_zret hE rfl (by first | decide | exact bI_nar _) dX_type_28 rfl (Nat.le_of_ble_eq_true rfl) (by
      first
      | (have hl := of_decide_eq_true h20
         rw [if_pos hl] at h8
         refine ⟨_, rfl, rfl, by rw [decide_eq_true (by omega)]; rfl, (fr2.I h7).wide (by omega) (by omega), ?_⟩
         rw [if_pos (by omega)]
         exact hX.draft h7 h8)
      | (have hl := of_decide_eq_false h20
         rw [if_neg hl] at h8
         refine ⟨_, rfl, rfl, by rw [decide_eq_false (by omega)]; rfl, (fr2.I h7).wide (by omega) (by omega), ?_⟩
         rw [if_neg (by omega)]
         exact hX.draft h7 h8)
      | (refine ⟨_, rfl, rfl, by rw [decide_eq_false (by omega)]; rfl, frI.rf, ?_⟩
         rw [if_neg (by omega)]
         exact hX))
      · refine zx_iconst (v := nI 1) dX_type_23 (by decide) ?_
        refine zx_goto (tgt := 28) dX_type_24 rfl ?_
        exact zx_zret hE rfl (by first | decide | exact bI_nar _) dX_type_28 rfl (Nat.le_of_ble_eq_true rfl) (by
      first
      | (have hl := of_decide_eq_true h20
         rw [if_pos hl] at h8
         refine ⟨_, rfl, rfl, by rw [decide_eq_true (by omega)]; rfl, (fr2.I h7).wide (by omega) (by omega), ?_⟩
         rw [if_pos (by omega)]
         exact hX.draft h7 h8)
      | (have hl := of_decide_eq_false h20
         rw [if_neg hl] at h8
         refine ⟨_, rfl, rfl, by rw [decide_eq_false (by omega)]; rfl, (fr2.I h7).wide (by omega) (by omega), ?_⟩
         rw [if_neg (by omega)]
         exact hX.draft h7 h8)
      | (refine ⟨_, rfl, rfl, by rw [decide_eq_false (by omega)]; rfl, frI.rf, ?_⟩
         rw [if_neg (by omega)]
         exact hX))
end
section
theorem XA.up5 {sh : zSh} {row : zRw} {x m : Nat} {D : List Nat} {pf : PF} {sf : SF} {hf : HF} {c : CT} {qr : Nat} (h : XA sh row x D pf sf hf c qr) : XA sh (zup row x 5 (.int (nI m))) x D pf sf hf (m, c.2) qr := by
  refine h.ctr (frI_up (Nat.le_refl _) (Nat.le_refl _)) ?_
  obtain ⟨ho, h_0, h_1, h_2, h_3, h_4, h_5, h_6, h_7, h_8, h_9, h_10, h_11⟩ := h.1
  refine ⟨ho, ?_, ?_, ?_, ?_, ?_, ?_, ?_, ?_, ?_, ?_, ?_, ?_⟩ <;> first | exact zup_same _ _ _ | (rw [zup_k (Or.inr (by decide))]; assumption)
theorem XA.up6 {sh : zSh} {row : zRw} {x m : Nat} {D : List Nat} {pf : PF} {sf : SF} {hf : HF} {c : CT} {qr : Nat} (h : XA sh row x D pf sf hf c qr) : XA sh (zup row x 6 (.int (nI m))) x D pf sf hf (c.1, m, c.2.2) qr := by
  refine h.ctr (frI_up (Nat.le_refl _) (Nat.le_refl _)) ?_
  obtain ⟨ho, h_0, h_1, h_2, h_3, h_4, h_5, h_6, h_7, h_8, h_9, h_10, h_11⟩ := h.1
  refine ⟨ho, ?_, ?_, ?_, ?_, ?_, ?_, ?_, ?_, ?_, ?_, ?_, ?_⟩ <;> first | exact zup_same _ _ _ | (rw [zup_k (Or.inr (by decide))]; assumption)
theorem XA.up7 {sh : zSh} {row : zRw} {x m : Nat} {D : List Nat} {pf : PF} {sf : SF} {hf : HF} {c : CT} {qr : Nat} (h : XA sh row x D pf sf hf c qr) : XA sh (zup row x 7 (.int (nI m))) x D pf sf hf (c.1, c.2.1, m, c.2.2.2) qr := by
  refine h.ctr (frI_up (Nat.le_refl _) (Nat.le_refl _)) ?_
  obtain ⟨ho, h_0, h_1, h_2, h_3, h_4, h_5, h_6, h_7, h_8, h_9, h_10, h_11⟩ := h.1
  refine ⟨ho, ?_, ?_, ?_, ?_, ?_, ?_, ?_, ?_, ?_, ?_, ?_, ?_⟩ <;> first | exact zup_same _ _ _ | (rw [zup_k (Or.inr (by decide))]; assumption)
theorem XA.up8 {sh : zSh} {row : zRw} {x m : Nat} {D : List Nat} {pf : PF} {sf : SF} {hf : HF} {c : CT} {qr : Nat} (h : XA sh row x D pf sf hf c qr) : XA sh (zup row x 8 (.int (nI m))) x D pf sf hf (c.1, c.2.1, c.2.2.1, m, c.2.2.2.2) qr := by
  refine h.ctr (frI_up (Nat.le_refl _) (Nat.le_refl _)) ?_
  obtain ⟨ho, h_0, h_1, h_2, h_3, h_4, h_5, h_6, h_7, h_8, h_9, h_10, h_11⟩ := h.1
  refine ⟨ho, ?_, ?_, ?_, ?_, ?_, ?_, ?_, ?_, ?_, ?_, ?_, ?_⟩ <;> first | exact zup_same _ _ _ | (rw [zup_k (Or.inr (by decide))]; assumption)
theorem XA.up10 {sh : zSh} {row : zRw} {x m : Nat} {D : List Nat} {pf : PF} {sf : SF} {hf : HF} {c : CT} {qr : Nat} (h : XA sh row x D pf sf hf c qr) : XA sh (zup row x 10 (.int (nI m))) x D pf sf hf (c.1, c.2.1, c.2.2.1, c.2.2.2.1, m, c.2.2.2.2.2) qr := by
  refine h.ctr (frI_up (Nat.le_refl _) (Nat.le_refl _)) ?_
  obtain ⟨ho, h_0, h_1, h_2, h_3, h_4, h_5, h_6, h_7, h_8, h_9, h_10, h_11⟩ := h.1
  refine ⟨ho, ?_, ?_, ?_, ?_, ?_, ?_, ?_, ?_, ?_, ?_, ?_, ?_⟩ <;> first | exact zup_same _ _ _ | (rw [zup_k (Or.inr (by decide))]; assumption)
theorem XA.up11 {sh : zSh} {row : zRw} {x m : Nat} {D : List Nat} {pf : PF} {sf : SF} {hf : HF} {c : CT} {qr : Nat} (h : XA sh row x D pf sf hf c qr) : XA sh (zup row x 11 (.int (nI m))) x D pf sf hf (c.1, c.2.1, c.2.2.1, c.2.2.2.1, c.2.2.2.2.1, m) qr := by
  refine h.ctr (frI_up (Nat.le_refl _) (Nat.le_refl _)) ?_
  obtain ⟨ho, h_0, h_1, h_2, h_3, h_4, h_5, h_6, h_7, h_8, h_9, h_10, h_11⟩ := h.1
  refine ⟨ho, ?_, ?_, ?_, ?_, ?_, ?_, ?_, ?_, ?_, ?_, ?_, ?_⟩ <;> first | exact zup_same _ _ _ | (rw [zup_k (Or.inr (by decide))]; assumption)
theorem fold1_idem (c : Nat) : fold1 (fold1 c) = fold1 c := by unfold fold1; split <;> first | omega | (split <;> omega)
theorem map_idem (ws : List Nat) : (ws.map fold1).map fold1 = ws.map fold1 := by rw [List.map_map]; congr 1; funext c; exact fold1_idem c

set_option maxHeartbeats 4000000 in
set_option maxRecDepth 100000 in
theorem kX_quote (G : zG) (d : Nat) (hd : 3 ≤ d) {n : Nat} {sh : zSh} {row : zRw} {x : Nat} {D : List Nat} {pf : PF} {sf : SF} {hf : HF} {c : CT} {qr : Nat} (hX : XA sh row x D pf sf hf c qr) {j : Nat} (hj : j < 2147483648) (hsb : c.2.2.1 ≤ 6) (hpb : c.2.1 ≤ 24) : zM G (fX_quote d) [.ref x, .int (nI j)] n sh row (zpR sh (fun v row' => v = .int (if standB pf c j = true then nI (min (pf j).2.2.1.length (24 - D.length)) else -1) ∧ frI x (x + 795) row row' ∧ XA sh row' x (if standB pf c j = true then D ++ (pf j).2.2.1.take (min (pf j).2.2.1.length (24 - D.length)) else D) pf sf hf c qr)) := by
  refine zM.of (by show plainName "PostIndex" = true; decide +kernel) (Nat.le_of_ble_eq_true rfl) (by intro v hv; simp at hv; rcases hv with rfl | rfl <;> rfl) ?_
  intro K hE
  show zX G K (fX_quote d) n 0 0 sh row 0 [.ref x, .int (nI j)] []
  have hD : d - 1 + 1 ≤ d := by omega
  obtain ⟨hO, hD0, htk, hPs, hSg, hSe, hRd, hDj⟩ := id hX
  obtain ⟨ho, h_0, h_1, h_2, h_3, h_4, h_5, h_6, h_7, h_8, h_9, h_10, h_11⟩ := id hO
  refine zx_aload_n dX_quote_0 rfl ?_
  refine zx_iload_n dX_quote_1 rfl ?_
  refine zc_V (kX_stands G (d - 1) (by omega) hX hj hsb hpb) (meX_stands _) lkX_51 ho rfl rfl hD (Nat.le_of_ble_eq_true rfl) rfl rfl (Nat.le_of_ble_eq_true rfl) (Nat.le_of_ble_eq_true rfl) (Nat.le_of_ble_eq_true rfl) dX_quote_2 ?_
  refine zb_if_eq (tgt := 27) dX_quote_5 rfl (fun h5 => ?_) (fun h5 => ?_)
  · refine zx_iconst (v := -1) dX_quote_27 (by decide) ?_
    exact zx_iret hE rfl dX_quote_28 rfl (Nat.le_of_ble_eq_true rfl) (by first | exact ⟨_, rfl, rfl, by rw [if_pos h5], (fr2.I h7).wide (by omega) (by omega), by rw [if_pos h5]; exact hX.draft h7 h8⟩ | exact ⟨_, rfl, rfl, by rw [if_neg (by rw [h5]; decide)], frI.rf, by rw [if_neg (by rw [h5]; decide)]; exact hX⟩)
  · refine zx_aload_n dX_quote_8 rfl ?_
    refine zx_get dX_quote_9 flX_12 (by assumption) (by assumption) ?_
    refine zx_aload_n dX_quote_12 rfl ?_
    refine zx_get dX_quote_13 flX_28 (by assumption) (by assumption) ?_
    refine zx_iload_n dX_quote_16 rfl ?_
    have hj24 : j < 24 := by unfold standB at h5; simp at h5; omega
    obtain ⟨q1, q2⟩ := hPs.2 j hj24
    refine zn_aald dX_quote_17 hPs.1 rfl (by omega) (by decide) q1 ?_
    refine zx_getN dX_quote_18 flX_55 q2.1 q2.2.1 ?_
    refine zc_Vr (kT_appendBeginning G (d - 1) (by omega) hD0 q2.2.2.2.2.2) (meT_appendBeginning _) lkX_58 hD0.1 rfl rfl hD (Nat.le_of_ble_eq_true rfl) rfl rfl (Nat.le_of_ble_eq_true rfl) (Nat.le_of_ble_eq_true rfl) (Nat.le_of_ble_eq_true rfl) dX_quote_21 (fun v r1 h6 => ?_)
    obtain ⟨rfl, h7, h8⟩ := h6
    refine zx_goto (tgt := 28) dX_quote_24 rfl ?_
    exact zx_iret hE rfl dX_quote_28 rfl (Nat.le_of_ble_eq_true rfl) (by first | exact ⟨_, rfl, rfl, by rw [if_pos h5], (fr2.I h7).wide (by omega) (by omega), by rw [if_pos h5]; exact hX.draft h7 h8⟩ | exact ⟨_, rfl, rfl, by rw [if_neg (by rw [h5]; decide)], frI.rf, by rw [if_neg (by rw [h5]; decide)]; exact hX⟩)

set_option maxHeartbeats 4000000 in
set_option maxRecDepth 100000 in
theorem kX_quoteN (G : zG) (d : Nat) (hd : 2 ≤ d) {n : Nat} {sh : zSh} {row : zRw} {x : Nat} {D : List Nat} {pf : PF} {sf : SF} {hf : HF} {c : CT} {qr : Nat} (hX : XA sh row x D pf sf hf c qr) {v : Int32} (hv : v < 0) : zM G (fX_quote d) [.ref x, .int v] n sh row (zP sh row (.int (-1))) := by
  refine zM.of (by show plainName "PostIndex" = true; decide +kernel) (Nat.le_of_ble_eq_true rfl) (by intro v hv; simp at hv; rcases hv with rfl | rfl <;> rfl) ?_
  intro K hE
  show zX G K (fX_quote d) n 0 0 sh row 0 [.ref x, .int v] []
  have hD : d - 1 + 1 ≤ d := by omega
  obtain ⟨hO, hD0, htk, hPs, hSg, hSe, hRd, hDj⟩ := id hX
  obtain ⟨ho, h_0, h_1, h_2, h_3, h_4, h_5, h_6, h_7, h_8, h_9, h_10, h_11⟩ := id hO
  refine zx_aload_n dX_quote_0 rfl ?_
  refine zx_iload_n dX_quote_1 rfl ?_
  refine zc_V (kX_standsN G (d - 1) (by omega) hX hv) (meX_stands _) lkX_51 ho rfl rfl hD (Nat.le_of_ble_eq_true rfl) rfl rfl (Nat.le_of_ble_eq_true rfl) (Nat.le_of_ble_eq_true rfl) (Nat.le_of_ble_eq_true rfl) dX_quote_2 ?_
  refine zb_if_eq (tgt := 27) dX_quote_5 rfl (fun h5 => ?_) (fun h5 => ?_)
  · refine zx_iconst (v := -1) dX_quote_27 (by decide) ?_
    exact zx_iret hE rfl dX_quote_28 rfl (Nat.le_of_ble_eq_true rfl) ⟨rfl, rfl, rfl⟩
  · exact absurd h5 (by decide)

theorem PostA.er {sh : zSh} {row : zRw} {p : Nat} {au ti : Int32} {xs : List Nat} {er : Bool} (h : PostA sh row p au ti xs er) : PostA sh (zup row p 3 (.int (nI 1))) p au ti xs true := by
  obtain ⟨h1, h2, h3, h4, h5, h6⟩ := h
  exact ⟨h1, by rw [zup_k (Or.inr (by decide))]; exact h2, by rw [zup_k (Or.inr (by decide))]; exact h3, by rw [zup_k (Or.inr (by decide))]; exact h4, zup_same _ _ _, h6.keep (zup_ne (by omega)) (zup_ne (by omega))⟩

set_option maxHeartbeats 4000000 in
set_option maxRecDepth 100000 in
theorem kX_erase (G : zG) (d : Nat) (hd : 2 ≤ d) {n : Nat} {sh : zSh} {row : zRw} {x : Nat} {D : List Nat} {pf : PF} {sf : SF} {hf : HF} {c : CT} {qr : Nat} (hX : XA sh row x D pf sf hf c qr) {j : Nat} (hj : j < 2147483648) (hsb : c.2.2.1 ≤ 6) (hpb : c.2.1 ≤ 24) : zM G (fX_erase d) [.ref x, .int (nI j)] n sh row (zpR sh (fun v row' => v = .int (bI (standB pf c j)) ∧ frI x (x + 795) row row' ∧ XA sh row' x D (if standB pf c j = true then va_up pf j ((pf j).1, (pf j).2.1, (pf j).2.2.1, true) else pf) sf hf c qr)) := by
  refine zM.of (by show plainName "PostIndex" = true; decide +kernel) (Nat.le_of_ble_eq_true rfl) (by intro v hv; simp at hv; rcases hv with rfl | rfl <;> rfl) ?_
  intro K hE
  show zX G K (fX_erase d) n 0 0 sh row 0 [.ref x, .int (nI j)] []
  have hD : d - 1 + 1 ≤ d := by omega
  obtain ⟨hO, hD0, htk, hPs, hSg, hSe, hRd, hDj⟩ := id hX
  obtain ⟨ho, h_0, h_1, h_2, h_3, h_4, h_5, h_6, h_7, h_8, h_9, h_10, h_11⟩ := id hO
  refine zx_aload_n dX_erase_0 rfl ?_
  refine zx_iload_n dX_erase_1 rfl ?_
  refine zc_V (kX_stands G (d - 1) (by omega) hX hj hsb hpb) (meX_stands _) lkX_51 ho rfl rfl hD (Nat.le_of_ble_eq_true rfl) rfl rfl (Nat.le_of_ble_eq_true rfl) (Nat.le_of_ble_eq_true rfl) (Nat.le_of_ble_eq_true rfl) dX_erase_2 ?_
  refine zb_if_ne (tgt := 10) dX_erase_5 rfl (fun h5 => ?_) (fun h5 => ?_)
  · refine zx_aload_n dX_erase_10 rfl ?_
    refine zx_get dX_erase_11 flX_28 (by assumption) (by assumption) ?_
    refine zx_iload_n dX_erase_14 rfl ?_
    have hj24 : j < 24 := by unfold standB at h5; simp at h5; omega
    obtain ⟨q1, q2⟩ := hPs.2 j hj24
    refine zn_aald dX_erase_15 hPs.1 rfl (by omega) (by decide) q1 ?_
    refine zx_iconst (v := nI 1) dX_erase_16 (by decide) ?_
    refine zx_putN dX_erase_17 flX_87 tpP_3 q2.1 rfl rfl ?_
    refine zx_iconst (v := nI 1) dX_erase_20 (by decide) ?_
    exact zx_zret hE rfl (by first | decide | exact bI_nar _) dX_erase_21 rfl (Nat.le_of_ble_eq_true rfl) (by first | exact ⟨_, rfl, rfl, by rw [h5]; rfl, frI_up (by omega) (by omega), by rw [if_pos h5]; exact hX.postU hj24 (frI_up (by omega) (by omega)) q2.er⟩ | exact ⟨_, rfl, rfl, by rw [h5]; rfl, frI.rf, by rw [if_neg (by rw [h5]; decide)]; exact hX⟩)
  · refine zx_iconst (v := nI 0) dX_erase_8 (by decide) ?_
    exact zx_zret hE rfl (by first | decide | exact bI_nar _) dX_erase_9 rfl (Nat.le_of_ble_eq_true rfl) (by first | exact ⟨_, rfl, rfl, by rw [h5]; rfl, frI_up (by omega) (by omega), by rw [if_pos h5]; exact hX.postU hj24 (frI_up (by omega) (by omega)) q2.er⟩ | exact ⟨_, rfl, rfl, by rw [h5]; rfl, frI.rf, by rw [if_neg (by rw [h5]; decide)]; exact hX⟩)

set_option maxHeartbeats 4000000 in
set_option maxRecDepth 100000 in
theorem kX_eraseN (G : zG) (d : Nat) (hd : 2 ≤ d) {n : Nat} {sh : zSh} {row : zRw} {x : Nat} {D : List Nat} {pf : PF} {sf : SF} {hf : HF} {c : CT} {qr : Nat} (hX : XA sh row x D pf sf hf c qr) {v : Int32} (hv : v < 0) : zM G (fX_erase d) [.ref x, .int v] n sh row (zP sh row (.int (bI false))) := by
  refine zM.of (by show plainName "PostIndex" = true; decide +kernel) (Nat.le_of_ble_eq_true rfl) (by intro v hv; simp at hv; rcases hv with rfl | rfl <;> rfl) ?_
  intro K hE
  show zX G K (fX_erase d) n 0 0 sh row 0 [.ref x, .int v] []
  have hD : d - 1 + 1 ≤ d := by omega
  obtain ⟨hO, hD0, htk, hPs, hSg, hSe, hRd, hDj⟩ := id hX
  obtain ⟨ho, h_0, h_1, h_2, h_3, h_4, h_5, h_6, h_7, h_8, h_9, h_10, h_11⟩ := id hO
  refine zx_aload_n dX_erase_0 rfl ?_
  refine zx_iload_n dX_erase_1 rfl ?_
  refine zc_V (kX_standsN G (d - 1) (by omega) hX hv) (meX_stands _) lkX_51 ho rfl rfl hD (Nat.le_of_ble_eq_true rfl) rfl rfl (Nat.le_of_ble_eq_true rfl) (Nat.le_of_ble_eq_true rfl) (Nat.le_of_ble_eq_true rfl) dX_erase_2 ?_
  refine zb_if_ne (tgt := 10) dX_erase_5 rfl (fun h5 => ?_) (fun h5 => ?_)
  · exact absurd h5 (by decide)
  · refine zx_iconst (v := nI 0) dX_erase_8 (by decide) ?_
    exact zx_zret hE rfl (by first | decide | exact bI_nar _) dX_erase_9 rfl (Nat.le_of_ble_eq_true rfl) ⟨rfl, rfl, rfl⟩

def okP (a : Int32) (c : CT) : Prop := ¬ a < 0 ∧ ¬ nI 10 ≤ a ∧ c.1 < 24 ∧ c.1 - c.2.1 < 4

set_option maxHeartbeats 4000000 in
set_option maxRecDepth 100000 in
theorem kX_post (G : zG) (d : Nat) (hd : 4 ≤ d) {n : Nat} {sh : zSh} {row : zRw} {x : Nat} {D : List Nat} {pf : PF} {sf : SF} {hf : HF} {c : CT} {qr : Nat} (hX : XA sh row x D pf sf hf c qr) {a t : Int32} (hmd : c.1 ≤ 24) (hpm : c.2.1 ≤ c.1) : zM G (fX_post d) [.ref x, .int a, .int t] n sh row (zpR sh (fun v row' => (okP a c ∧ v = .int (nI c.1) ∧ frI x (x + 795) row row' ∧ XA sh row' x [] (va_up pf c.1 (a, t, D, (pf c.1).2.2.2)) sf hf (c.1 + 1, c.2) qr) ∨ (¬ okP a c ∧ v = .int (-1) ∧ frI x (x + 795) row row' ∧ XA sh row' x D pf sf hf c qr))) := by
  refine zM.of (by show plainName "PostIndex" = true; decide +kernel) (Nat.le_of_ble_eq_true rfl) (by intro v hv; simp at hv; rcases hv with rfl | rfl | rfl <;> rfl) ?_
  intro K hE
  show zX G K (fX_post d) n 0 0 sh row 0 [.ref x, .int a, .int t, .retAddr 0] []
  have hD : d - 1 + 1 ≤ d := by omega
  obtain ⟨hO, hD0, htk, hPs, hSg, hSe, hRd, hDj⟩ := id hX
  obtain ⟨ho, h_0, h_1, h_2, h_3, h_4, h_5, h_6, h_7, h_8, h_9, h_10, h_11⟩ := id hO
  refine zx_iload_n dX_post_0 rfl ?_
  refine zx_if_lt (tgt := 36) dX_post_1 rfl (fun h1 => ?_) (fun h1 => ?_)
  · refine zx_iconst (v := nI 0) dX_post_36 (by decide) ?_
    refine zx_istore_n dX_post_37 (Nat.le_of_ble_eq_true rfl) rfl rfl ?_
    refine zx_iload_n dX_post_38 rfl ?_
    refine zx_if_ne (tgt := 44) dX_post_39 rfl (fun h => absurd rfl h) (fun _ => ?_)
    refine zx_iconst (v := -1) dX_post_42 (by decide) ?_
    exact zx_iret hE rfl dX_post_43 rfl (Nat.le_of_ble_eq_true rfl) ⟨_, rfl, rfl, Or.inr ⟨by rintro ⟨k1, k2, k3, k4⟩; first | exact k1 h1 | exact k2 h7 | omega, rfl, frI.rf, hX⟩⟩
  · refine zx_iload_n dX_post_4 rfl ?_
    refine zx_bipush (v := nI 10) dX_post_5 (by decide) ?_
    refine zx_icmp_ge (tgt := 36) dX_post_7 rfl (fun h7 => ?_) (fun h7 => ?_)
    · refine zx_iconst (v := nI 0) dX_post_36 (by decide) ?_
      refine zx_istore_n dX_post_37 (Nat.le_of_ble_eq_true rfl) rfl rfl ?_
      refine zx_iload_n dX_post_38 rfl ?_
      refine zx_if_ne (tgt := 44) dX_post_39 rfl (fun h => absurd rfl h) (fun _ => ?_)
      refine zx_iconst (v := -1) dX_post_42 (by decide) ?_
      exact zx_iret hE rfl dX_post_43 rfl (Nat.le_of_ble_eq_true rfl) ⟨_, rfl, rfl, Or.inr ⟨by rintro ⟨k1, k2, k3, k4⟩; first | exact k1 h1 | exact k2 h7 | omega, rfl, frI.rf, hX⟩⟩
    · refine zx_aload_n dX_post_10 rfl ?_
      refine zx_get dX_post_11 flX_69 (by assumption) (by assumption) ?_
      refine zx_bipush (v := nI 24) dX_post_14 (by decide) ?_
      refine zn_icmp_ge (tgt := 36) dX_post_16 rfl (by omega) (by omega) (fun h16 => ?_) (fun h16 => ?_)
      · refine zx_iconst (v := nI 0) dX_post_36 (by decide) ?_
        refine zx_istore_n dX_post_37 (Nat.le_of_ble_eq_true rfl) rfl rfl ?_
        refine zx_iload_n dX_post_38 rfl ?_
        refine zx_if_ne (tgt := 44) dX_post_39 rfl (fun h => absurd rfl h) (fun _ => ?_)
        refine zx_iconst (v := -1) dX_post_42 (by decide) ?_
        exact zx_iret hE rfl dX_post_43 rfl (Nat.le_of_ble_eq_true rfl) ⟨_, rfl, rfl, Or.inr ⟨by rintro ⟨k1, k2, k3, k4⟩; first | exact k1 h1 | exact k2 h7 | omega, rfl, frI.rf, hX⟩⟩
      · refine zx_aload_n dX_post_19 rfl ?_
        refine zx_get dX_post_20 flX_69 (by assumption) (by assumption) ?_
        refine zx_aload_n dX_post_23 rfl ?_
        refine zx_get dX_post_24 flX_72 (by assumption) (by assumption) ?_
        refine zn_isub dX_post_27 (by omega) ?_
        refine zx_iconst (v := nI 4) dX_post_28 (by decide) ?_
        refine zn_icmp_ge (tgt := 36) dX_post_29 rfl (by omega) (by omega) (fun h29 => ?_) (fun h29 => ?_)
        · refine zx_iconst (v := nI 0) dX_post_36 (by decide) ?_
          refine zx_istore_n dX_post_37 (Nat.le_of_ble_eq_true rfl) rfl rfl ?_
          refine zx_iload_n dX_post_38 rfl ?_
          refine zx_if_ne (tgt := 44) dX_post_39 rfl (fun h => absurd rfl h) (fun _ => ?_)
          refine zx_iconst (v := -1) dX_post_42 (by decide) ?_
          exact zx_iret hE rfl dX_post_43 rfl (Nat.le_of_ble_eq_true rfl) ⟨_, rfl, rfl, Or.inr ⟨by rintro ⟨k1, k2, k3, k4⟩; first | exact k1 h1 | exact k2 h7 | omega, rfl, frI.rf, hX⟩⟩
        · refine zx_iconst (v := nI 1) dX_post_32 (by decide) ?_
          refine zx_goto (tgt := 37) dX_post_33 rfl ?_
          refine zx_istore_n dX_post_37 (Nat.le_of_ble_eq_true rfl) rfl rfl ?_
          refine zx_iload_n dX_post_38 rfl ?_
          refine zx_if_ne (tgt := 44) dX_post_39 rfl (fun _ => ?_) (fun h => absurd h (by decide))
          refine zx_aload_n dX_post_44 rfl ?_
          refine zx_get dX_post_45 flX_28 (by assumption) (by assumption) ?_
          refine zx_aload_n dX_post_48 rfl ?_
          refine zx_get dX_post_49 flX_69 (by assumption) (by assumption) ?_
          obtain ⟨q1, q2⟩ := hPs.2 c.1 (by omega)
          refine zn_aald dX_post_52 hPs.1 rfl (by omega) (by decide) q1 ?_
          refine zx_iload_n dX_post_53 rfl ?_
          refine zx_iload_n dX_post_54 rfl ?_
          refine zx_aload_n dX_post_55 rfl ?_
          refine zx_get dX_post_56 flX_12 (by assumption) (by assumption) ?_
          refine zc_Vv (kP_fill G (d - 1) (by omega) (au2 := a) (ti2 := t) q2 hD0 (by omega)) (meP_fill _) lkX_75 q2.1 rfl rfl hD (Nat.le_of_ble_eq_true rfl) rfl rfl (Nat.le_of_ble_eq_true rfl) (Nat.le_of_ble_eq_true rfl) (Nat.le_of_ble_eq_true rfl) dX_post_59 (fun r1 h6 => ?_)
          obtain ⟨h7', h8⟩ := h6
          have hX1 : XA sh r1 x D (va_up pf c.1 (a, t, D, (pf c.1).2.2.2)) sf hf c qr := hX.postU (by omega) (by rw [show x + 40 + 3 * c.1 = x + 38 + 3 * c.1 + 2 by omega]; exact h7') h8
          have g0 := hX1.1.2.1
          refine zx_aload_n dX_post_62 rfl ?_
          refine zx_get dX_post_63 flX_12 (by assumption) (by assumption) ?_
          refine zc_Vv (kT_makeEmpty G (d - 1) (by omega) hX1.2.1.1) (meT_makeEmpty _) lkX_62 hX1.2.1.1 rfl rfl hD (Nat.le_of_ble_eq_true rfl) rfl rfl (Nat.le_of_ble_eq_true rfl) (Nat.le_of_ble_eq_true rfl) (Nat.le_of_ble_eq_true rfl) dX_post_66 (fun r2 hr2 => ?_)
          have hX2 : XA sh r2 x [] (va_up pf c.1 (a, t, D, (pf c.1).2.2.2)) sf hf c qr := hX1.draft (by rw [hr2]; exact fr2_up) (by rw [hr2]; exact hX1.2.1.empty)
          have g5 := hX2.1.2.2.2.2.2.2.1
          refine zx_aload_n dX_post_69 rfl ?_
          refine zx_dup dX_post_70 rfl ?_
          refine zx_get dX_post_71 flX_69 (by assumption) (by assumption) ?_
          refine zx_iconst (v := nI 1) dX_post_74 (by decide) ?_
          refine zn_iadd dX_post_75 ?_
          refine zx_put dX_post_76 flX_69 tpX_5 ho rfl rfl ?_
          have hX3 := hX2.up5 (m := c.1 + 1)
          have g6 := hX3.1.2.2.2.2.2.2.1
          have g6 : zup r2 x 5 (.int (nI (c.1 + 1))) x 5 = .int (nI (c.1 + 1)) := g6
          refine zx_aload_n dX_post_79 rfl ?_
          refine zx_get dX_post_80 flX_69 (by assumption) (by assumption) ?_
          refine zx_iconst (v := nI 1) dX_post_83 (by decide) ?_
          refine zn_isub dX_post_84 (by omega) ?_
          exact zx_iret hE rfl dX_post_85 rfl (Nat.le_of_ble_eq_true rfl) (by
            refine ⟨_, rfl, rfl, Or.inl ⟨⟨h1, h7, by omega, by omega⟩, ?_, ?_, hX3⟩⟩
            · rw [show c.1 + 1 - 1 = c.1 by omega]
            · exact ((h7'.wide (by omega) (by omega)).tr (by rw [hr2]; exact frI_up (by omega) (by omega))).tr (frI_up (by omega) (by omega)))

set_option maxHeartbeats 4000000 in
set_option maxRecDepth 100000 in
theorem kX_size (G : zG) (d : Nat) (hd : 2 ≤ d) {n : Nat} {sh : zSh} {row : zRw} {x : Nat} {D : List Nat} {pf : PF} {sf : SF} {hf : HF} {c : CT} {qr : Nat} (hX : XA sh row x D pf sf hf c qr) {j : Nat} (hj : j < 2147483648) (hsb : c.2.2.1 ≤ 6) : zM G (fX_size d) [.ref x, .int (nI j)] n sh row (zP sh row (.int (if liveB c.2.2.1 j = true then nI (sumT (cellsOf (sf j).2.2) (sf j).1) else -1))) := by
  refine zM.of (by show plainName "PostIndex" = true; decide +kernel) (Nat.le_of_ble_eq_true rfl) (by intro v hv; simp at hv; rcases hv with rfl | rfl <;> rfl) ?_
  intro K hE
  show zX G K (fX_size d) n 0 0 sh row 0 [.ref x, .int (nI j)] []
  have hD : d - 1 + 1 ≤ d := by omega
  obtain ⟨hO, hD0, htk, hPs, hSg, hSe, hRd, hDj⟩ := id hX
  obtain ⟨ho, h_0, h_1, h_2, h_3, h_4, h_5, h_6, h_7, h_8, h_9, h_10, h_11⟩ := id hO
  refine zx_aload_n dX_size_0 rfl ?_
  refine zx_iload_n dX_size_1 rfl ?_
  refine zc_V (kX_isLive G (d - 1) (by omega) hX hj hsb) (meX_isLive _) lkX_132 ho rfl rfl hD (Nat.le_of_ble_eq_true rfl) rfl rfl (Nat.le_of_ble_eq_true rfl) (Nat.le_of_ble_eq_true rfl) (Nat.le_of_ble_eq_true rfl) dX_size_2 ?_
  refine zb_if_eq (tgt := 20) dX_size_5 rfl (fun h5 => ?_) (fun h5 => ?_)
  · refine zx_iconst (v := -1) dX_size_20 (by decide) ?_
    exact zx_iret hE rfl dX_size_21 rfl (Nat.le_of_ble_eq_true rfl) ⟨by first | rw [if_pos h5] | rw [if_neg (by rw [h5]; decide)], rfl, rfl⟩
  · refine zx_aload_n dX_size_8 rfl ?_
    refine zx_get dX_size_9 flX_35 (by assumption) (by assumption) ?_
    refine zx_iload_n dX_size_12 rfl ?_
    have hj6 : j < 6 := by unfold liveB at h5; simp at h5; omega
    obtain ⟨q1, q2⟩ := hSg.2 j hj6
    refine zn_aald dX_size_13 hSg.1 rfl (by omega) (by decide) q1 ?_
    refine zc_V (kS_countCells G (d - 1) (by omega) q2) (meS_countCells _) lkX_144 q2.1.1 rfl rfl hD (Nat.le_of_ble_eq_true rfl) rfl rfl (Nat.le_of_ble_eq_true rfl) (Nat.le_of_ble_eq_true rfl) (Nat.le_of_ble_eq_true rfl) dX_size_14 ?_
    refine zx_goto (tgt := 21) dX_size_17 rfl ?_
    exact zx_iret hE rfl dX_size_21 rfl (Nat.le_of_ble_eq_true rfl) ⟨by first | rw [if_pos h5] | rw [if_neg (by rw [h5]; decide)], rfl, rfl⟩

set_option maxHeartbeats 4000000 in
set_option maxRecDepth 100000 in
theorem kX_sizeN (G : zG) (d : Nat) (hd : 2 ≤ d) {n : Nat} {sh : zSh} {row : zRw} {x : Nat} {D : List Nat} {pf : PF} {sf : SF} {hf : HF} {c : CT} {qr : Nat} (hX : XA sh row x D pf sf hf c qr) {v : Int32} (hv : v < 0) : zM G (fX_size d) [.ref x, .int v] n sh row (zP sh row (.int (-1))) := by
  refine zM.of (by show plainName "PostIndex" = true; decide +kernel) (Nat.le_of_ble_eq_true rfl) (by intro v hv; simp at hv; rcases hv with rfl | rfl <;> rfl) ?_
  intro K hE
  show zX G K (fX_size d) n 0 0 sh row 0 [.ref x, .int v] []
  have hD : d - 1 + 1 ≤ d := by omega
  obtain ⟨hO, hD0, htk, hPs, hSg, hSe, hRd, hDj⟩ := id hX
  obtain ⟨ho, h_0, h_1, h_2, h_3, h_4, h_5, h_6, h_7, h_8, h_9, h_10, h_11⟩ := id hO
  refine zx_aload_n dX_size_0 rfl ?_
  refine zx_iload_n dX_size_1 rfl ?_
  refine zc_V (kX_isLiveN G (d - 1) (by omega) hX hv) (meX_isLive _) lkX_132 ho rfl rfl hD (Nat.le_of_ble_eq_true rfl) rfl rfl (Nat.le_of_ble_eq_true rfl) (Nat.le_of_ble_eq_true rfl) (Nat.le_of_ble_eq_true rfl) dX_size_2 ?_
  refine zb_if_eq (tgt := 20) dX_size_5 rfl (fun h5 => ?_) (fun h5 => ?_)
  · refine zx_iconst (v := -1) dX_size_20 (by decide) ?_
    exact zx_iret hE rfl dX_size_21 rfl (Nat.le_of_ble_eq_true rfl) ⟨rfl, rfl, rfl⟩
  · exact absurd h5 (by decide)

set_option maxHeartbeats 4000000 in
set_option maxRecDepth 100000 in
theorem kX_terms (G : zG) (d : Nat) (hd : 2 ≤ d) {n : Nat} {sh : zSh} {row : zRw} {x : Nat} {D : List Nat} {pf : PF} {sf : SF} {hf : HF} {c : CT} {qr : Nat} (hX : XA sh row x D pf sf hf c qr) {j : Nat} (hj : j < 2147483648) (hsb : c.2.2.1 ≤ 6) : zM G (fX_terms d) [.ref x, .int (nI j)] n sh row (zP sh row (.int (if liveB c.2.2.1 j = true then nI (sf j).1.length else -1))) := by
  refine zM.of (by show plainName "PostIndex" = true; decide +kernel) (Nat.le_of_ble_eq_true rfl) (by intro v hv; simp at hv; rcases hv with rfl | rfl <;> rfl) ?_
  intro K hE
  show zX G K (fX_terms d) n 0 0 sh row 0 [.ref x, .int (nI j)] []
  have hD : d - 1 + 1 ≤ d := by omega
  obtain ⟨hO, hD0, htk, hPs, hSg, hSe, hRd, hDj⟩ := id hX
  obtain ⟨ho, h_0, h_1, h_2, h_3, h_4, h_5, h_6, h_7, h_8, h_9, h_10, h_11⟩ := id hO
  refine zx_aload_n dX_terms_0 rfl ?_
  refine zx_iload_n dX_terms_1 rfl ?_
  refine zc_V (kX_isLive G (d - 1) (by omega) hX hj hsb) (meX_isLive _) lkX_132 ho rfl rfl hD (Nat.le_of_ble_eq_true rfl) rfl rfl (Nat.le_of_ble_eq_true rfl) (Nat.le_of_ble_eq_true rfl) (Nat.le_of_ble_eq_true rfl) dX_terms_2 ?_
  refine zb_if_eq (tgt := 20) dX_terms_5 rfl (fun h5 => ?_) (fun h5 => ?_)
  · refine zx_iconst (v := -1) dX_terms_20 (by decide) ?_
    exact zx_iret hE rfl dX_terms_21 rfl (Nat.le_of_ble_eq_true rfl) ⟨by first | rw [if_pos h5] | rw [if_neg (by rw [h5]; decide)], rfl, rfl⟩
  · refine zx_aload_n dX_terms_8 rfl ?_
    refine zx_get dX_terms_9 flX_35 (by assumption) (by assumption) ?_
    refine zx_iload_n dX_terms_12 rfl ?_
    have hj6 : j < 6 := by unfold liveB at h5; simp at h5; omega
    obtain ⟨q1, q2⟩ := hSg.2 j hj6
    refine zn_aald dX_terms_13 hSg.1 rfl (by omega) (by decide) q1 ?_
    refine zx_getN dX_terms_14 flX_147 q2.1.1 q2.2.1.2.2.1 ?_
    refine zx_goto (tgt := 21) dX_terms_17 rfl ?_
    exact zx_iret hE rfl dX_terms_21 rfl (Nat.le_of_ble_eq_true rfl) ⟨by first | rw [if_pos h5] | rw [if_neg (by rw [h5]; decide)], rfl, rfl⟩

set_option maxHeartbeats 4000000 in
set_option maxRecDepth 100000 in
theorem kX_termsN (G : zG) (d : Nat) (hd : 2 ≤ d) {n : Nat} {sh : zSh} {row : zRw} {x : Nat} {D : List Nat} {pf : PF} {sf : SF} {hf : HF} {c : CT} {qr : Nat} (hX : XA sh row x D pf sf hf c qr) {v : Int32} (hv : v < 0) : zM G (fX_terms d) [.ref x, .int v] n sh row (zP sh row (.int (-1))) := by
  refine zM.of (by show plainName "PostIndex" = true; decide +kernel) (Nat.le_of_ble_eq_true rfl) (by intro v hv; simp at hv; rcases hv with rfl | rfl <;> rfl) ?_
  intro K hE
  show zX G K (fX_terms d) n 0 0 sh row 0 [.ref x, .int v] []
  have hD : d - 1 + 1 ≤ d := by omega
  obtain ⟨hO, hD0, htk, hPs, hSg, hSe, hRd, hDj⟩ := id hX
  obtain ⟨ho, h_0, h_1, h_2, h_3, h_4, h_5, h_6, h_7, h_8, h_9, h_10, h_11⟩ := id hO
  refine zx_aload_n dX_terms_0 rfl ?_
  refine zx_iload_n dX_terms_1 rfl ?_
  refine zc_V (kX_isLiveN G (d - 1) (by omega) hX hv) (meX_isLive _) lkX_132 ho rfl rfl hD (Nat.le_of_ble_eq_true rfl) rfl rfl (Nat.le_of_ble_eq_true rfl) (Nat.le_of_ble_eq_true rfl) (Nat.le_of_ble_eq_true rfl) dX_terms_2 ?_
  refine zb_if_eq (tgt := 20) dX_terms_5 rfl (fun h5 => ?_) (fun h5 => ?_)
  · refine zx_iconst (v := -1) dX_terms_20 (by decide) ?_
    exact zx_iret hE rfl dX_terms_21 rfl (Nat.le_of_ble_eq_true rfl) ⟨rfl, rfl, rfl⟩
  · exact absurd h5 (by decide)

set_option maxHeartbeats 4000000 in
set_option maxRecDepth 100000 in
theorem kX_postings (G : zG) (d : Nat) (hd : 2 ≤ d) {n : Nat} {sh : zSh} {row : zRw} {x : Nat} {D : List Nat} {pf : PF} {sf : SF} {hf : HF} {c : CT} {qr : Nat} (hX : XA sh row x D pf sf hf c qr) {j : Nat} (hj : j < 2147483648) (hsb : c.2.2.1 ≤ 6) : zM G (fX_postings d) [.ref x, .int (nI j)] n sh row (zP sh row (.int (if liveB c.2.2.1 j = true then nI (sumT popc (sf j).1) else -1))) := by
  refine zM.of (by show plainName "PostIndex" = true; decide +kernel) (Nat.le_of_ble_eq_true rfl) (by intro v hv; simp at hv; rcases hv with rfl | rfl <;> rfl) ?_
  intro K hE
  show zX G K (fX_postings d) n 0 0 sh row 0 [.ref x, .int (nI j)] []
  have hD : d - 1 + 1 ≤ d := by omega
  obtain ⟨hO, hD0, htk, hPs, hSg, hSe, hRd, hDj⟩ := id hX
  obtain ⟨ho, h_0, h_1, h_2, h_3, h_4, h_5, h_6, h_7, h_8, h_9, h_10, h_11⟩ := id hO
  refine zx_aload_n dX_postings_0 rfl ?_
  refine zx_iload_n dX_postings_1 rfl ?_
  refine zc_V (kX_isLive G (d - 1) (by omega) hX hj hsb) (meX_isLive _) lkX_132 ho rfl rfl hD (Nat.le_of_ble_eq_true rfl) rfl rfl (Nat.le_of_ble_eq_true rfl) (Nat.le_of_ble_eq_true rfl) (Nat.le_of_ble_eq_true rfl) dX_postings_2 ?_
  refine zb_if_eq (tgt := 20) dX_postings_5 rfl (fun h5 => ?_) (fun h5 => ?_)
  · refine zx_iconst (v := -1) dX_postings_20 (by decide) ?_
    exact zx_iret hE rfl dX_postings_21 rfl (Nat.le_of_ble_eq_true rfl) ⟨by first | rw [if_pos h5] | rw [if_neg (by rw [h5]; decide)], rfl, rfl⟩
  · refine zx_aload_n dX_postings_8 rfl ?_
    refine zx_get dX_postings_9 flX_35 (by assumption) (by assumption) ?_
    refine zx_iload_n dX_postings_12 rfl ?_
    have hj6 : j < 6 := by unfold liveB at h5; simp at h5; omega
    obtain ⟨q1, q2⟩ := hSg.2 j hj6
    refine zn_aald dX_postings_13 hSg.1 rfl (by omega) (by decide) q1 ?_
    refine zc_V (kS_countPostings G (d - 1) (by omega) q2) (meS_countPostings _) lkX_150 q2.1.1 rfl rfl hD (Nat.le_of_ble_eq_true rfl) rfl rfl (Nat.le_of_ble_eq_true rfl) (Nat.le_of_ble_eq_true rfl) (Nat.le_of_ble_eq_true rfl) dX_postings_14 ?_
    refine zx_goto (tgt := 21) dX_postings_17 rfl ?_
    exact zx_iret hE rfl dX_postings_21 rfl (Nat.le_of_ble_eq_true rfl) ⟨by first | rw [if_pos h5] | rw [if_neg (by rw [h5]; decide)], rfl, rfl⟩

set_option maxHeartbeats 4000000 in
set_option maxRecDepth 100000 in
theorem kX_postingsN (G : zG) (d : Nat) (hd : 2 ≤ d) {n : Nat} {sh : zSh} {row : zRw} {x : Nat} {D : List Nat} {pf : PF} {sf : SF} {hf : HF} {c : CT} {qr : Nat} (hX : XA sh row x D pf sf hf c qr) {v : Int32} (hv : v < 0) : zM G (fX_postings d) [.ref x, .int v] n sh row (zP sh row (.int (-1))) := by
  refine zM.of (by show plainName "PostIndex" = true; decide +kernel) (Nat.le_of_ble_eq_true rfl) (by intro v hv; simp at hv; rcases hv with rfl | rfl <;> rfl) ?_
  intro K hE
  show zX G K (fX_postings d) n 0 0 sh row 0 [.ref x, .int v] []
  have hD : d - 1 + 1 ≤ d := by omega
  obtain ⟨hO, hD0, htk, hPs, hSg, hSe, hRd, hDj⟩ := id hX
  obtain ⟨ho, h_0, h_1, h_2, h_3, h_4, h_5, h_6, h_7, h_8, h_9, h_10, h_11⟩ := id hO
  refine zx_aload_n dX_postings_0 rfl ?_
  refine zx_iload_n dX_postings_1 rfl ?_
  refine zc_V (kX_isLiveN G (d - 1) (by omega) hX hv) (meX_isLive _) lkX_132 ho rfl rfl hD (Nat.le_of_ble_eq_true rfl) rfl rfl (Nat.le_of_ble_eq_true rfl) (Nat.le_of_ble_eq_true rfl) (Nat.le_of_ble_eq_true rfl) dX_postings_2 ?_
  refine zb_if_eq (tgt := 20) dX_postings_5 rfl (fun h5 => ?_) (fun h5 => ?_)
  · refine zx_iconst (v := -1) dX_postings_20 (by decide) ?_
    exact zx_iret hE rfl dX_postings_21 rfl (Nat.le_of_ble_eq_true rfl) ⟨rfl, rfl, rfl⟩
  · exact absurd h5 (by decide)

def formN (sf : SF) (c : CT) (j : Nat) : Int32 := if c.2.2.1 ≤ j then -1 else if liveB c.2.2.1 j = false then nI 4 else if fullB c.2.1 j = false then nI 0 else if (sf j).2.2 = true then nI 3 else if 0 < (sf j).2.1 then nI 2 else nI 1

set_option maxHeartbeats 4000000 in
set_option maxRecDepth 100000 in
theorem kX_form (G : zG) (d : Nat) (hd : 1 ≤ d) {n : Nat} {sh : zSh} {row : zRw} {x : Nat} {D : List Nat} {pf : PF} {sf : SF} {hf : HF} {c : CT} {qr : Nat} (hX : XA sh row x D pf sf hf c qr) {j : Nat} (hj : j < 2147483648) (hsb : c.2.2.1 ≤ 6) (hpb : c.2.1 ≤ 24) : zM G (fX_form d) [.ref x, .int (nI j)] n sh row (zP sh row (.int (formN sf c j))) := by
  refine zM.of (by show plainName "PostIndex" = true; decide +kernel) (Nat.le_of_ble_eq_true rfl) (by intro v hv; simp at hv; rcases hv with rfl | rfl <;> rfl) ?_
  intro K hE
  show zX G K (fX_form d) n 0 0 sh row 0 [.ref x, .int (nI j)] []
  have hD : d - 1 + 1 ≤ d := by omega
  obtain ⟨hO, hD0, htk, hPs, hSg, hSe, hRd, hDj⟩ := id hX
  obtain ⟨ho, h_0, h_1, h_2, h_3, h_4, h_5, h_6, h_7, h_8, h_9, h_10, h_11⟩ := id hO
  refine zx_iload_n dX_form_0 rfl ?_
  refine zn_if_lt (tgt := 12) dX_form_1 rfl (by omega) ?_
  refine zx_iload_n dX_form_4 rfl ?_
  refine zx_aload_n dX_form_5 rfl ?_
  refine zx_get dX_form_6 flX_129 (by assumption) (by assumption) ?_
  refine zn_icmp_lt (tgt := 14) dX_form_9 rfl (by omega) (by omega) (fun h9 => ?_) (fun h9 => ?_)
  · refine zx_aload_n dX_form_14 rfl ?_
    refine zx_iload_n dX_form_15 rfl ?_
    refine zc_V (kX_isLive G (d - 1) (by omega) hX hj hsb) (meX_isLive _) lkX_132 ho rfl rfl hD (Nat.le_of_ble_eq_true rfl) rfl rfl (Nat.le_of_ble_eq_true rfl) (Nat.le_of_ble_eq_true rfl) (Nat.le_of_ble_eq_true rfl) dX_form_16 ?_
    refine zb_if_ne (tgt := 24) dX_form_19 rfl (fun h19 => ?_) (fun h19 => ?_)
    · refine zx_aload_n dX_form_24 rfl ?_
      refine zx_iload_n dX_form_25 rfl ?_
      refine zc_V (kX_isFull G (d - 1) (by omega) hX (by omega) hpb) (meX_isFull _) lkX_135 ho rfl rfl hD (Nat.le_of_ble_eq_true rfl) rfl rfl (Nat.le_of_ble_eq_true rfl) (Nat.le_of_ble_eq_true rfl) (Nat.le_of_ble_eq_true rfl) dX_form_26 ?_
      refine zb_if_ne (tgt := 34) dX_form_29 rfl (fun h29 => ?_) (fun h29 => ?_)
      · refine zx_aload_n dX_form_34 rfl ?_
        refine zx_get dX_form_35 flX_35 (by assumption) (by assumption) ?_
        refine zx_iload_n dX_form_38 rfl ?_
        obtain ⟨q1, q2⟩ := hSg.2 j (by omega)
        obtain ⟨-, ⟨u0, u1, u2, u3, u4⟩, ⟨-, u6⟩, -⟩ := id q2
        refine zn_aald dX_form_39 hSg.1 rfl (by omega) (by decide) q1 ?_
        refine zx_getN dX_form_40 flX_138 q2.1.1 u4 ?_
        refine zb_if_eq (tgt := 48) dX_form_43 rfl (fun h43 => ?_) (fun h43 => ?_)
        · refine zx_aload_n dX_form_48 rfl ?_
          refine zx_get dX_form_49 flX_35 (by assumption) (by assumption) ?_
          refine zx_iload_n dX_form_52 rfl ?_
          refine zn_aald dX_form_53 hSg.1 rfl (by omega) (by decide) q1 ?_
          refine zx_getN dX_form_54 flX_141 q2.1.1 u3 ?_
          refine zn_if_le (tgt := 64) dX_form_57 rfl (by omega) (fun h57 => ?_) (fun h57 => ?_)
          · refine zx_iconst (v := nI 1) dX_form_64 (by decide) ?_
            exact zx_iret hE rfl dX_form_65 rfl (Nat.le_of_ble_eq_true rfl) ⟨by
      unfold formN
      first
      | rw [if_pos (by omega)]
      | (rw [if_neg (by omega), if_pos h19])
      | (rw [if_neg (by omega), if_neg (by rw [h19]; decide), if_pos h29])
      | (rw [if_neg (by omega), if_neg (by rw [h19]; decide), if_neg (by rw [h29]; decide), if_pos h43])
      | (rw [if_neg (by omega), if_neg (by rw [h19]; decide), if_neg (by rw [h29]; decide), if_neg (by rw [h43]; decide), if_pos (by omega)])
      | (rw [if_neg (by omega), if_neg (by rw [h19]; decide), if_neg (by rw [h29]; decide), if_neg (by rw [h43]; decide), if_neg (by omega)]), rfl, rfl⟩
          · refine zx_iconst (v := nI 2) dX_form_60 (by decide) ?_
            refine zx_goto (tgt := 65) dX_form_61 rfl ?_
            exact zx_iret hE rfl dX_form_65 rfl (Nat.le_of_ble_eq_true rfl) ⟨by
      unfold formN
      first
      | rw [if_pos (by omega)]
      | (rw [if_neg (by omega), if_pos h19])
      | (rw [if_neg (by omega), if_neg (by rw [h19]; decide), if_pos h29])
      | (rw [if_neg (by omega), if_neg (by rw [h19]; decide), if_neg (by rw [h29]; decide), if_pos h43])
      | (rw [if_neg (by omega), if_neg (by rw [h19]; decide), if_neg (by rw [h29]; decide), if_neg (by rw [h43]; decide), if_pos (by omega)])
      | (rw [if_neg (by omega), if_neg (by rw [h19]; decide), if_neg (by rw [h29]; decide), if_neg (by rw [h43]; decide), if_neg (by omega)]), rfl, rfl⟩
        · refine zx_iconst (v := nI 3) dX_form_46 (by decide) ?_
          exact zx_iret hE rfl dX_form_47 rfl (Nat.le_of_ble_eq_true rfl) ⟨by
      unfold formN
      first
      | rw [if_pos (by omega)]
      | (rw [if_neg (by omega), if_pos h19])
      | (rw [if_neg (by omega), if_neg (by rw [h19]; decide), if_pos h29])
      | (rw [if_neg (by omega), if_neg (by rw [h19]; decide), if_neg (by rw [h29]; decide), if_pos h43])
      | (rw [if_neg (by omega), if_neg (by rw [h19]; decide), if_neg (by rw [h29]; decide), if_neg (by rw [h43]; decide), if_pos (by omega)])
      | (rw [if_neg (by omega), if_neg (by rw [h19]; decide), if_neg (by rw [h29]; decide), if_neg (by rw [h43]; decide), if_neg (by omega)]), rfl, rfl⟩
      · refine zx_iconst (v := nI 0) dX_form_32 (by decide) ?_
        exact zx_iret hE rfl dX_form_33 rfl (Nat.le_of_ble_eq_true rfl) ⟨by
      unfold formN
      first
      | rw [if_pos (by omega)]
      | (rw [if_neg (by omega), if_pos h19])
      | (rw [if_neg (by omega), if_neg (by rw [h19]; decide), if_pos h29])
      | (rw [if_neg (by omega), if_neg (by rw [h19]; decide), if_neg (by rw [h29]; decide), if_pos h43])
      | (rw [if_neg (by omega), if_neg (by rw [h19]; decide), if_neg (by rw [h29]; decide), if_neg (by rw [h43]; decide), if_pos (by omega)])
      | (rw [if_neg (by omega), if_neg (by rw [h19]; decide), if_neg (by rw [h29]; decide), if_neg (by rw [h43]; decide), if_neg (by omega)]), rfl, rfl⟩
    · refine zx_iconst (v := nI 4) dX_form_22 (by decide) ?_
      exact zx_iret hE rfl dX_form_23 rfl (Nat.le_of_ble_eq_true rfl) ⟨by
      unfold formN
      first
      | rw [if_pos (by omega)]
      | (rw [if_neg (by omega), if_pos h19])
      | (rw [if_neg (by omega), if_neg (by rw [h19]; decide), if_pos h29])
      | (rw [if_neg (by omega), if_neg (by rw [h19]; decide), if_neg (by rw [h29]; decide), if_pos h43])
      | (rw [if_neg (by omega), if_neg (by rw [h19]; decide), if_neg (by rw [h29]; decide), if_neg (by rw [h43]; decide), if_pos (by omega)])
      | (rw [if_neg (by omega), if_neg (by rw [h19]; decide), if_neg (by rw [h29]; decide), if_neg (by rw [h43]; decide), if_neg (by omega)]), rfl, rfl⟩
  · refine zx_iconst (v := -1) dX_form_12 (by decide) ?_
    exact zx_iret hE rfl dX_form_13 rfl (Nat.le_of_ble_eq_true rfl) ⟨by
      unfold formN
      first
      | rw [if_pos (by omega)]
      | (rw [if_neg (by omega), if_pos h19])
      | (rw [if_neg (by omega), if_neg (by rw [h19]; decide), if_pos h29])
      | (rw [if_neg (by omega), if_neg (by rw [h19]; decide), if_neg (by rw [h29]; decide), if_pos h43])
      | (rw [if_neg (by omega), if_neg (by rw [h19]; decide), if_neg (by rw [h29]; decide), if_neg (by rw [h43]; decide), if_pos (by omega)])
      | (rw [if_neg (by omega), if_neg (by rw [h19]; decide), if_neg (by rw [h29]; decide), if_neg (by rw [h43]; decide), if_neg (by omega)]), rfl, rfl⟩

set_option maxHeartbeats 4000000 in
set_option maxRecDepth 100000 in
theorem kX_formN (G : zG) (d : Nat) (hd : 1 ≤ d) {n : Nat} {sh : zSh} {row : zRw} {x : Nat} {D : List Nat} {pf : PF} {sf : SF} {hf : HF} {c : CT} {qr : Nat} (hX : XA sh row x D pf sf hf c qr) {v : Int32} (hv : v < 0) : zM G (fX_form d) [.ref x, .int v] n sh row (zP sh row (.int (-1))) := by
  refine zM.of (by show plainName "PostIndex" = true; decide +kernel) (Nat.le_of_ble_eq_true rfl) (by intro v hv; simp at hv; rcases hv with rfl | rfl <;> rfl) ?_
  intro K hE
  show zX G K (fX_form d) n 0 0 sh row 0 [.ref x, .int v] []
  have hD : d - 1 + 1 ≤ d := by omega
  obtain ⟨hO, hD0, htk, hPs, hSg, hSe, hRd, hDj⟩ := id hX
  obtain ⟨ho, h_0, h_1, h_2, h_3, h_4, h_5, h_6, h_7, h_8, h_9, h_10, h_11⟩ := id hO
  refine zx_iload_n dX_form_0 rfl ?_
  refine zx_if_lt (tgt := 12) dX_form_1 rfl (fun h1 => ?_) (fun h1 => ?_)
  · refine zx_iconst (v := -1) dX_form_12 (by decide) ?_
    exact zx_iret hE rfl dX_form_13 rfl (Nat.le_of_ble_eq_true rfl) ⟨rfl, rfl, rfl⟩
  · exact absurd hv h1

theorem XA.seaU {sh : zSh} {row row' : zRw} {x j : Nat} {D : List Nat} {pf : PF} {sf : SF} {hf : HF} {c : CT} {qr : Nat} {ob : Bool} {bd : Nat} (h : XA sh row x D pf sf hf c qr) (hj : j < 3) (hr : frI (x + 706 + 30 * j) (x + 706 + 30 * j) row row') (h0 : row' (x + 706 + 30 * j) 0 = .ref (hf j).2.2.1) (h1 : row' (x + 706 + 30 * j) 1 = .int (nI bd)) (h2 : row' (x + 706 + 30 * j) 2 = .int (bI ob)) : XA sh row' x D pf sf (va_up hf j (ob, bd, (hf j).2.2)) c qr := by
  obtain ⟨hO, hD0, ⟨tk, htk⟩, hPs, hSg, hSe, hRd, hDj⟩ := h
  have hqr := hRd.2.rng
  have hval : ∀ i, (va_up hf j (ob, bd, (hf j).2.2) i).2.2 = (hf i).2.2 := by
    intro i; unfold va_up; split
    · next e => rw [e]
    · rfl
  refine ⟨hO.keep (hr x (by omega)), hD0.keepI hr (by omega), ⟨tk, htk.keepI hr (by omega)⟩, hPs.keep hr (by omega), hSg.keep hr (by omega), ⟨hSe.1, fun i hi => ?_⟩, ⟨hRd.1.keep hr (by omega) (by rcases hRd.2 with e | e | e | e <;> omega), hRd.2⟩, ⟨fun i hi => by rw [hval]; exact hDj.1 i hi, fun a b ha hb hab => by rw [hval, hval]; exact hDj.2 a b ha hb hab⟩⟩
  obtain ⟨a, b, e, f, g, q, k⟩ := hSe.2 i hi
  rw [hval]
  have hk : QryA sh row' (hf i).2.2.1 (hf i).2.2.2.1 (hf i).2.2.2.2 := k.keep hr (by rcases q with e | e | e | e <;> omega)
  by_cases hij : i = j
  · subst hij
    rw [show va_up hf i (ob, bd, (hf i).2.2) i = (ob, bd, (hf i).2.2) by unfold va_up; rw [if_pos rfl]]
    exact ⟨by rw [hr (x + 705) (by omega)]; exact a, b, h0, h1, h2, q, hk⟩
  · rw [show va_up hf j (ob, bd, (hf j).2.2) i = hf i by unfold va_up; rw [if_neg hij]]
    have e1 : row' (x + 706 + 30 * i) = row (x + 706 + 30 * i) := hr _ (by omega)
    exact ⟨by rw [hr (x + 705) (by omega)]; exact a, b, by rw [e1]; exact e, by rw [e1]; exact f, by rw [e1]; exact g, q, hk⟩

set_option maxHeartbeats 4000000 in
set_option maxRecDepth 100000 in
theorem kX_close (G : zG) (d : Nat) (hd : 1 ≤ d) {n : Nat} {sh : zSh} {row : zRw} {x : Nat} {D : List Nat} {pf : PF} {sf : SF} {hf : HF} {c : CT} {qr : Nat} (hX : XA sh row x D pf sf hf c qr) {j : Nat} (hj : j < 2147483648) : zM G (fX_close d) [.ref x, .int (nI j)] n sh row (zpR sh (fun v row' => v = .int (bI (opB hf j)) ∧ frI x (x + 795) row row' ∧ XA sh row' x D pf sf (if opB hf j = true then va_up hf j (false, (hf j).2.1, (hf j).2.2) else hf) c qr)) := by
  refine zM.of (by show plainName "PostIndex" = true; decide +kernel) (Nat.le_of_ble_eq_true rfl) (by intro v hv; simp at hv; rcases hv with rfl | rfl <;> rfl) ?_
  intro K hE
  show zX G K (fX_close d) n 0 0 sh row 0 [.ref x, .int (nI j)] []
  have hD : d - 1 + 1 ≤ d := by omega
  obtain ⟨hO, hD0, htk, hPs, hSg, hSe, hRd, hDj⟩ := id hX
  obtain ⟨ho, h_0, h_1, h_2, h_3, h_4, h_5, h_6, h_7, h_8, h_9, h_10, h_11⟩ := id hO
  refine zx_aload_n dX_close_0 rfl ?_
  refine zx_iload_n dX_close_1 rfl ?_
  refine zc_V (kX_isOpen G (d - 1) (by omega) hX hj) (meX_isOpen _) lkX_122 ho rfl rfl hD (Nat.le_of_ble_eq_true rfl) rfl rfl (Nat.le_of_ble_eq_true rfl) (Nat.le_of_ble_eq_true rfl) (Nat.le_of_ble_eq_true rfl) dX_close_2 ?_
  refine zb_if_ne (tgt := 10) dX_close_5 rfl (fun h5 => ?_) (fun h5 => ?_)
  · refine zx_aload_n dX_close_10 rfl ?_
    refine zx_get dX_close_11 flX_42 (by assumption) (by assumption) ?_
    refine zx_iload_n dX_close_14 rfl ?_
    have hj3 : j < 3 := by unfold opB at h5; simp at h5; omega
    obtain ⟨q1, q2, q3, q4, q5, q6, q7⟩ := hSe.2 j hj3
    refine zn_aald dX_close_15 hSe.1 rfl (by omega) (by decide) q1 ?_
    refine zx_iconst (v := nI 0) dX_close_16 (by decide) ?_
    refine zx_putN dX_close_17 flX_119 tpH_2 q2 rfl rfl ?_
    refine zx_iconst (v := nI 1) dX_close_20 (by decide) ?_
    exact zx_zret hE rfl (by first | decide | exact bI_nar _) dX_close_21 rfl (Nat.le_of_ble_eq_true rfl) (by first | exact ⟨_, rfl, rfl, by rw [h5]; rfl, frI_up (by omega) (by omega), by rw [if_pos h5]; exact hX.seaU hj3 (frI_up (by omega) (by omega)) (by rw [zup_k (Or.inr (by decide))]; exact q3) (by rw [zup_k (Or.inr (by decide))]; exact q4) (zup_same _ _ _)⟩ | exact ⟨_, rfl, rfl, by rw [h5]; rfl, frI.rf, by rw [if_neg (by rw [h5]; decide)]; exact hX⟩)
  · refine zx_iconst (v := nI 0) dX_close_8 (by decide) ?_
    exact zx_zret hE rfl (by first | decide | exact bI_nar _) dX_close_9 rfl (Nat.le_of_ble_eq_true rfl) (by first | exact ⟨_, rfl, rfl, by rw [h5]; rfl, frI_up (by omega) (by omega), by rw [if_pos h5]; exact hX.seaU hj3 (frI_up (by omega) (by omega)) (by rw [zup_k (Or.inr (by decide))]; exact q3) (by rw [zup_k (Or.inr (by decide))]; exact q4) (zup_same _ _ _)⟩ | exact ⟨_, rfl, rfl, by rw [h5]; rfl, frI.rf, by rw [if_neg (by rw [h5]; decide)]; exact hX⟩)

set_option maxHeartbeats 4000000 in
set_option maxRecDepth 100000 in
theorem kX_closeN (G : zG) (d : Nat) (hd : 1 ≤ d) {n : Nat} {sh : zSh} {row : zRw} {x : Nat} {D : List Nat} {pf : PF} {sf : SF} {hf : HF} {c : CT} {qr : Nat} (hX : XA sh row x D pf sf hf c qr) {v : Int32} (hv : v < 0) : zM G (fX_close d) [.ref x, .int v] n sh row (zP sh row (.int (bI false))) := by
  refine zM.of (by show plainName "PostIndex" = true; decide +kernel) (Nat.le_of_ble_eq_true rfl) (by intro v hv; simp at hv; rcases hv with rfl | rfl <;> rfl) ?_
  intro K hE
  show zX G K (fX_close d) n 0 0 sh row 0 [.ref x, .int v] []
  have hD : d - 1 + 1 ≤ d := by omega
  obtain ⟨hO, hD0, htk, hPs, hSg, hSe, hRd, hDj⟩ := id hX
  obtain ⟨ho, h_0, h_1, h_2, h_3, h_4, h_5, h_6, h_7, h_8, h_9, h_10, h_11⟩ := id hO
  refine zx_aload_n dX_close_0 rfl ?_
  refine zx_iload_n dX_close_1 rfl ?_
  refine zc_V (kX_isOpenN G (d - 1) (by omega) hX hv) (meX_isOpen _) lkX_122 ho rfl rfl hD (Nat.le_of_ble_eq_true rfl) rfl rfl (Nat.le_of_ble_eq_true rfl) (Nat.le_of_ble_eq_true rfl) (Nat.le_of_ble_eq_true rfl) dX_close_2 ?_
  refine zb_if_ne (tgt := 10) dX_close_5 rfl (fun h5 => ?_) (fun h5 => ?_)
  · exact absurd h5 (by decide)
  · refine zx_iconst (v := nI 0) dX_close_8 (by decide) ?_
    exact zx_zret hE rfl (by first | decide | exact bI_nar _) dX_close_9 rfl (Nat.le_of_ble_eq_true rfl) ⟨rfl, rfl, rfl⟩

set_option maxHeartbeats 4000000 in
set_option maxRecDepth 100000 in
theorem kX_nextN (G : zG) (d : Nat) (hd : 1 ≤ d) {n : Nat} {sh : zSh} {row : zRw} {x : Nat} {D : List Nat} {pf : PF} {sf : SF} {hf : HF} {c : CT} {qr : Nat} (hX : XA sh row x D pf sf hf c qr) {v : Int32} (hv : v < 0) : zM G (fX_next d) [.ref x, .int v] n sh row (zP sh row (.int (-1))) := by
  refine zM.of (by show plainName "PostIndex" = true; decide +kernel) (Nat.le_of_ble_eq_true rfl) (by intro v hv; simp at hv; rcases hv with rfl | rfl <;> rfl) ?_
  intro K hE
  show zX G K (fX_next d) n 0 0 sh row 0 [.ref x, .int v, .retAddr 0, .retAddr 0] []
  have hD : d - 1 + 1 ≤ d := by omega
  obtain ⟨hO, hD0, htk, hPs, hSg, hSe, hRd, hDj⟩ := id hX
  obtain ⟨ho, h_0, h_1, h_2, h_3, h_4, h_5, h_6, h_7, h_8, h_9, h_10, h_11⟩ := id hO
  refine zx_aload_n dX_next_0 rfl ?_
  refine zx_iload_n dX_next_1 rfl ?_
  refine zc_V (kX_isOpenN G (d - 1) (by omega) hX hv) (meX_isOpen _) lkX_122 ho rfl rfl hD (Nat.le_of_ble_eq_true rfl) rfl rfl (Nat.le_of_ble_eq_true rfl) (Nat.le_of_ble_eq_true rfl) (Nat.le_of_ble_eq_true rfl) dX_next_2 ?_
  refine zb_if_ne (tgt := 10) dX_next_5 rfl (fun h5 => ?_) (fun h5 => ?_)
  · exact absurd h5 (by decide)
  · refine zx_iconst (v := -1) dX_next_8 (by decide) ?_
    exact zx_iret hE rfl dX_next_9 rfl (Nat.le_of_ble_eq_true rfl) ⟨rfl, rfl, rfl⟩

set_option maxHeartbeats 4000000 in
set_option maxRecDepth 100000 in
theorem kX_leftN (G : zG) (d : Nat) (hd : 1 ≤ d) {n : Nat} {sh : zSh} {row : zRw} {x : Nat} {D : List Nat} {pf : PF} {sf : SF} {hf : HF} {c : CT} {qr : Nat} (hX : XA sh row x D pf sf hf c qr) {v : Int32} (hv : v < 0) : zM G (fX_left d) [.ref x, .int v] n sh row (zP sh row (.int (-1))) := by
  refine zM.of (by show plainName "PostIndex" = true; decide +kernel) (Nat.le_of_ble_eq_true rfl) (by intro v hv; simp at hv; rcases hv with rfl | rfl <;> rfl) ?_
  intro K hE
  show zX G K (fX_left d) n 0 0 sh row 0 [.ref x, .int v, .retAddr 0, .retAddr 0, .retAddr 0] []
  have hD : d - 1 + 1 ≤ d := by omega
  obtain ⟨hO, hD0, htk, hPs, hSg, hSe, hRd, hDj⟩ := id hX
  obtain ⟨ho, h_0, h_1, h_2, h_3, h_4, h_5, h_6, h_7, h_8, h_9, h_10, h_11⟩ := id hO
  refine zx_aload_n dX_left_0 rfl ?_
  refine zx_iload_n dX_left_1 rfl ?_
  refine zc_V (kX_isOpenN G (d - 1) (by omega) hX hv) (meX_isOpen _) lkX_122 ho rfl rfl hD (Nat.le_of_ble_eq_true rfl) rfl rfl (Nat.le_of_ble_eq_true rfl) (Nat.le_of_ble_eq_true rfl) (Nat.le_of_ble_eq_true rfl) dX_left_2 ?_
  refine zb_if_ne (tgt := 10) dX_left_5 rfl (fun h5 => ?_) (fun h5 => ?_)
  · exact absurd h5 (by decide)
  · refine zx_iconst (v := -1) dX_left_8 (by decide) ?_
    exact zx_iret hE rfl dX_left_9 rfl (Nat.le_of_ble_eq_true rfl) ⟨rfl, rfl, rfl⟩
end
section
def unN (v : Int32) : Nat := if v < nI 1 ∨ nI 6 < v then 0 else v.toNatClampNeg
theorem unN_ok {v : Int32} (h1 : ¬ v < nI 1) (h2 : ¬ nI 6 < v) : ∃ j, 1 ≤ j ∧ j ≤ 6 ∧ v = nI j ∧ unN v = j := by
  have h0 : ¬ v < 0 := fun h => h1 (Int32.lt_trans h (by decide))
  obtain ⟨j, hj, rfl⟩ := nI_of h0
  have a : 1 ≤ j := Nat.le_of_not_lt (fun h => h1 ((nI_ltI hj (by decide)).mpr h))
  have b : j ≤ 6 := Nat.le_of_not_lt (fun h => h2 ((nI_ltI (by decide) hj).mpr h))
  refine ⟨j, a, b, rfl, ?_⟩
  unfold unN
  rw [if_neg (fun h => h.elim h1 h2), nI_cl hj]
theorem unN_le (v : Int32) : unN v ≤ 6 := by
  by_cases h : v < nI 1 ∨ nI 6 < v
  · unfold unN; rw [if_pos h]; omega
  · obtain ⟨j, a, b, -, e⟩ := unN_ok (fun g => h (Or.inl g)) (fun g => h (Or.inr g))
    omega

set_option maxHeartbeats 4000000 in
set_option maxRecDepth 100000 in
theorem kX_unitsAsked (G : zG) (d : Nat) (hd : 0 ≤ d) {n : Nat} {sh : zSh} {row : zRw} {v : Int32} : zM G (fX_unitsAsked d) [.int v] n sh row (zP sh row (.int (nI (unN v)))) := by
  refine zM.of (by show plainName "PostIndex" = true; decide +kernel) (Nat.le_of_ble_eq_true rfl) (by intro v hv; simp at hv; rcases hv with rfl <;> rfl) ?_
  intro K hE
  show zX G K (fX_unitsAsked d) n 0 0 sh row 0 [.int v] []
  refine zx_iload_n dX_unitsAsked_0 rfl ?_
  refine zx_iconst (v := nI 1) dX_unitsAsked_1 (by decide) ?_
  refine zx_icmp_lt (tgt := 15) dX_unitsAsked_2 rfl (fun h2 => ?_) (fun h2 => ?_)
  · refine zx_iconst (v := nI 0) dX_unitsAsked_15 (by decide) ?_
    exact zx_iret hE rfl dX_unitsAsked_16 rfl (Nat.le_of_ble_eq_true rfl) ⟨by
      first
      | (unfold unN; rw [if_pos (Or.inl h2)])
      | (unfold unN; rw [if_pos (Or.inr h8)])
      | (obtain ⟨j, a, b, e1, e2⟩ := unN_ok h2 h8; rw [e2]; exact congrArg (fun z => some (Value.int z)) e1), rfl, rfl⟩
  · refine zx_iload_n dX_unitsAsked_5 rfl ?_
    refine zx_bipush (v := nI 6) dX_unitsAsked_6 (by decide) ?_
    refine zx_icmp_gt (tgt := 15) dX_unitsAsked_8 rfl (fun h8 => ?_) (fun h8 => ?_)
    · refine zx_iconst (v := nI 0) dX_unitsAsked_15 (by decide) ?_
      exact zx_iret hE rfl dX_unitsAsked_16 rfl (Nat.le_of_ble_eq_true rfl) ⟨by
      first
      | (unfold unN; rw [if_pos (Or.inl h2)])
      | (unfold unN; rw [if_pos (Or.inr h8)])
      | (obtain ⟨j, a, b, e1, e2⟩ := unN_ok h2 h8; rw [e2]; exact congrArg (fun z => some (Value.int z)) e1), rfl, rfl⟩
    · refine zx_iload_n dX_unitsAsked_11 rfl ?_
      refine zx_goto (tgt := 16) dX_unitsAsked_12 rfl ?_
      exact zx_iret hE rfl dX_unitsAsked_16 rfl (Nat.le_of_ble_eq_true rfl) ⟨by
      first
      | (unfold unN; rw [if_pos (Or.inl h2)])
      | (unfold unN; rw [if_pos (Or.inr h8)])
      | (obtain ⟨j, a, b, e1, e2⟩ := unN_ok h2 h8; rw [e2]; exact congrArg (fun z => some (Value.int z)) e1), rfl, rfl⟩

/-- one unit of the writer's work -/
def wTok (pf : PF) (c : CT) : List Nat := (((pf c.2.1).2.2.1.drop (tokStart (pf c.2.1).2.2.1 c.2.2.2.2.1)).take (tokEnd (pf c.2.1).2.2.1 (tokStart (pf c.2.1).2.2.1 c.2.2.2.2.1) - tokStart (pf c.2.1).2.2.1 c.2.2.2.2.1)).map fold1
def wEnd (pf : PF) (c : CT) : Prop := (pf c.2.1).2.2.1.length ≤ tokStart (pf c.2.1).2.2.1 c.2.2.2.2.1
def wC (pf : PF) (c : CT) : CT := if (pf c.2.1).2.2.1.length ≤ tokStart (pf c.2.1).2.2.1 c.2.2.2.2.1 then (c.1, c.2.1 + 1, c.2.1 / 4 + 1, c.2.2.2.1, 0, 0) else (c.1, c.2.1, c.2.1 / 4 + 1, c.2.2.2.1, tokEnd (pf c.2.1).2.2.1 (tokStart (pf c.2.1).2.2.1 c.2.2.2.2.1), c.2.2.2.2.2 + 1)
def wS (pf : PF) (c : CT) (sf : SF) : SF := if (pf c.2.1).2.2.1.length ≤ tokStart (pf c.2.1).2.2.1 c.2.2.2.2.1 then sf else va_up sf (c.2.1 / 4) (addP (sf (c.2.1 / 4)).1 (wTok pf c) (8 * (c.2.1 % 4) + min c.2.2.2.2.2 7), (sf (c.2.1 / 4)).2)

set_option maxHeartbeats 4000000 in
set_option maxRecDepth 100000 in
theorem kX_writeUnit (G : zG) (d : Nat) (hd : 4 ≤ d) {n : Nat} {sh : zSh} {row : zRw} {x : Nat} {D : List Nat} {pf : PF} {sf : SF} {hf : HF} {c : CT} {qr : Nat} (hX : XA sh row x D pf sf hf c qr) (hp : c.2.1 < 24) (hwa : c.2.2.2.2.1 ≤ (pf c.2.1).2.2.1.length) (hwt : c.2.2.2.2.2 < 100) (hfT : fT (sf (c.2.1 / 4)).1 (wTok pf c) < 48) : zM G (fX_writeUnit d) [.ref x, .int (nI c.2.1)] n sh row (zpV sh (fun row' => frI x (x + 795) row row' ∧ XA sh row' x D pf (wS pf c sf) hf (wC pf c) qr)) := by
  refine zM.of (by show plainName "PostIndex" = true; decide +kernel) (Nat.le_of_ble_eq_true rfl) (by intro v hv; simp at hv; rcases hv with rfl | rfl <;> rfl) ?_
  intro K hE
  show zX G K (fX_writeUnit d) n 0 0 sh row 0 [.ref x, .int (nI c.2.1), .retAddr 0, .retAddr 0, .retAddr 0] []
  have hD : d - 1 + 1 ≤ d := by omega
  obtain ⟨hO, hD0, htk, hPs, hSg, hSe, hRd, hDj⟩ := id hX
  obtain ⟨ho, h_0, h_1, h_2, h_3, h_4, h_5, h_6, h_7, h_8, h_9, h_10, h_11⟩ := id hO
  refine zx_iload_n dX_writeUnit_0 rfl ?_
  refine zx_iconst (v := nI 4) dX_writeUnit_1 (by decide) ?_
  refine zn_idiv dX_writeUnit_2 (by omega) (by omega) (by omega) ?_
  refine zx_istore_n dX_writeUnit_3 (Nat.le_of_ble_eq_true rfl) rfl rfl ?_
  refine zx_aload_n dX_writeUnit_4 rfl ?_
  refine zx_iload_n dX_writeUnit_5 rfl ?_
  refine zx_iconst (v := nI 1) dX_writeUnit_6 (by decide) ?_
  refine zn_iadd dX_writeUnit_7 ?_
  refine zx_put dX_writeUnit_8 flX_129 tpX_7 ho rfl rfl ?_
  have hX1 := hX.up7 (m := c.2.1 / 4 + 1)
  generalize hr1 : zup row x 7 (.int (nI (c.2.1 / 4 + 1))) = r1 at hX1 ⊢
  have hf1 : frI x (x + 795) row r1 := by rw [← hr1]; exact frI_up (by omega) (by omega)
  obtain ⟨gO, gD0, ⟨tk, gtk⟩, gPs, gSg, gSe, gRd, gDj⟩ := id hX1
  obtain ⟨go, g_0, g_1, g_2, g_3, g_4, g_5, g_6, g_7, g_8, g_9, g_10, g_11⟩ := id gO
  have g_6 : r1 x 6 = .int (nI c.2.1) := g_6
  have g_10 : r1 x 10 = .int (nI c.2.2.2.2.1) := g_10
  obtain ⟨q1, q2⟩ := gPs.2 c.2.1 hp
  have hxT := q2.2.2.2.2.2
  have hxl := hxT.2.2.2.2.1
  have hts := tokStart_le hwa
  refine zx_aload_n dX_writeUnit_11 rfl ?_
  refine zx_get dX_writeUnit_12 flX_28 (by assumption) (by assumption) ?_
  refine zx_iload_n dX_writeUnit_15 rfl ?_
  refine zn_aald dX_writeUnit_16 gPs.1 rfl (by omega) (by decide) q1 ?_
  refine zx_getN dX_writeUnit_17 flX_55 q2.1 q2.2.1 ?_
  refine zx_astore_n dX_writeUnit_20 (Nat.le_of_ble_eq_true rfl) rfl rfl ?_
  refine zx_aload_n dX_writeUnit_21 rfl ?_
  refine zx_aload_n dX_writeUnit_22 rfl ?_
  refine zx_get dX_writeUnit_23 flX_153 (by assumption) (by assumption) ?_
  refine zc_V (n0 := n) (ce := 0) (kT_tokenStart G (d - 1) (by omega) hxT hwa) (meT_tokenStart _) lkX_156 hxT.1 rfl rfl hD (Nat.le_of_ble_eq_true rfl) rfl rfl (Nat.le_of_ble_eq_true rfl) (Nat.le_of_ble_eq_true rfl) (Nat.le_of_ble_eq_true rfl) dX_writeUnit_26 ?_
  refine zx_istore dX_writeUnit_29 (Nat.le_of_ble_eq_true rfl) rfl rfl ?_
  refine zx_iload dX_writeUnit_31 rfl ?_
  refine zx_aload_n dX_writeUnit_33 rfl ?_
  refine zx_getN dX_writeUnit_34 flX_65 hxT.1 hxT.2.2.2.1 ?_
  refine zn_icmp_lt (tgt := 61) dX_writeUnit_37 rfl (by omega) (by omega) (fun h37 => ?_) (fun h37 => ?_)
  · refine zx_aload_n dX_writeUnit_61 rfl ?_
    refine zx_aload_n dX_writeUnit_62 rfl ?_
    refine zx_iload dX_writeUnit_63 rfl ?_
    refine zc_V (n0 := n) (ce := 0) (kT_tokenEnd G (d - 1) (by omega) hxT (by omega)) (meT_tokenEnd _) lkX_162 hxT.1 rfl rfl hD (Nat.le_of_ble_eq_true rfl) rfl rfl (Nat.le_of_ble_eq_true rfl) (Nat.le_of_ble_eq_true rfl) (Nat.le_of_ble_eq_true rfl) dX_writeUnit_65 ?_
    have hte := tokEnd_le (xs := (pf c.2.1).2.2.1) (f := tokStart (pf c.2.1).2.2.1 c.2.2.2.2.1) (by omega)
    have htg := tokEnd_ge (xs := (pf c.2.1).2.2.1) (f := tokStart (pf c.2.1).2.2.1 c.2.2.2.2.1)
    refine zx_put dX_writeUnit_68 flX_153 tpX_10 go rfl rfl ?_
    have hX2 := hX1.up10 (m := tokEnd (pf c.2.1).2.2.1 (tokStart (pf c.2.1).2.2.1 c.2.2.2.2.1))
    generalize hr2 : zup r1 x 10 (.int (nI (tokEnd (pf c.2.1).2.2.1 (tokStart (pf c.2.1).2.2.1 c.2.2.2.2.1)))) = r2 at hX2 ⊢
    have hf2 : frI x (x + 795) r1 r2 := by rw [← hr2]; exact frI_up (by omega) (by omega)
    obtain ⟨kO, kD0, ⟨tk2, ktk⟩, kPs, kSg, kSe, kRd, kDj⟩ := id hX2
    obtain ⟨ko, k_0, k_1, k_2, k_3, k_4, k_5, k_6, k_7, k_8, k_9, k_10, k_11⟩ := id kO
    have k_10 : r2 x 10 = .int (nI (tokEnd (pf c.2.1).2.2.1 (tokStart (pf c.2.1).2.2.1 c.2.2.2.2.1))) := k_10
    obtain ⟨q3, q4⟩ := kPs.2 c.2.1 hp
    have hxT2 := q4.2.2.2.2.2
    refine zx_aload_n dX_writeUnit_71 rfl ?_
    refine zx_get dX_writeUnit_72 flX_16 (by assumption) (by assumption) ?_
    refine zx_aload_n dX_writeUnit_75 rfl ?_
    refine zx_iload dX_writeUnit_76 rfl ?_
    refine zx_aload_n dX_writeUnit_78 rfl ?_
    refine zx_get dX_writeUnit_79 flX_153 (by assumption) (by assumption) ?_
    refine zc_Vv (n0 := n) (ce := 0) (kT_setFolded G (d - 1) (by omega) ktk hxT2 (by omega) htg hte) (meT_setFolded _) lkX_165 ktk.1 rfl rfl hD (Nat.le_of_ble_eq_true rfl) rfl rfl (Nat.le_of_ble_eq_true rfl) (Nat.le_of_ble_eq_true rfl) (Nat.le_of_ble_eq_true rfl) dX_writeUnit_82 (fun r3 h7 => ?_)
    obtain ⟨h8, h9⟩ := h7
    have hX3 := hX2.tok h8 h9
    have hf3 : frI x (x + 795) r2 r3 := (fr2.I h8).wide (by omega) (by omega)
    obtain ⟨mO, mD0, mtk, mPs, mSg, mSe, mRd, mDj⟩ := id hX3
    obtain ⟨mo, m_0, m_1, m_2, m_3, m_4, m_5, m_6, m_7, m_8, m_9, m_10, m_11⟩ := id mO
    have m_11 : r3 x 11 = .int (nI c.2.2.2.2.2) := m_11
    obtain ⟨q5, q6⟩ := mSg.2 (c.2.1 / 4) (by omega)
    refine zx_aload_n dX_writeUnit_85 rfl ?_
    refine zx_get dX_writeUnit_86 flX_35 (by assumption) (by assumption) ?_
    refine zx_iload_n dX_writeUnit_89 rfl ?_
    refine zn_aald dX_writeUnit_90 mSg.1 rfl (by omega) (by decide) q5 ?_
    refine zx_aload_n dX_writeUnit_91 rfl ?_
    refine zx_get dX_writeUnit_92 flX_16 (by assumption) (by assumption) ?_
    refine zx_iload_n dX_writeUnit_95 rfl ?_
    refine zx_iconst (v := nI 4) dX_writeUnit_96 (by decide) ?_
    refine zn_irem dX_writeUnit_97 (by omega) (by omega) (by omega) ?_
    refine zx_aload_n dX_writeUnit_98 rfl ?_
    refine zx_get dX_writeUnit_99 flX_159 (by assumption) (by assumption) ?_
    refine zx_bipush (v := nI 7) dX_writeUnit_102 (by decide) ?_
    refine zn_min dX_writeUnit_104 lkX_169 (by show 1 ≤ d; omega) (Nat.le_of_ble_eq_true rfl) (Nat.le_of_ble_eq_true rfl) (Nat.le_of_ble_eq_true rfl) (by omega) (by omega) ?_
    refine zc_Vv (n0 := n) (ce := 0) (kS_addPosting G (d - 1) (by omega) q6 h9 (by omega) (map_idem _) (by omega) (by omega) hfT) (meS_addPosting _) lkX_175 q6.1.1 rfl rfl hD (Nat.le_of_ble_eq_true rfl) rfl rfl (Nat.le_of_ble_eq_true rfl) (Nat.le_of_ble_eq_true rfl) (Nat.le_of_ble_eq_true rfl) dX_writeUnit_107 (fun r4 h7 => ?_)
    obtain ⟨ha, hb⟩ := h7
    have hX4 := hX3.segU (g := c.2.1 / 4) (v := (addP (sf (c.2.1 / 4)).1 (wTok pf c) (8 * (c.2.1 % 4) + min c.2.2.2.2.2 7), (sf (c.2.1 / 4)).2)) (by omega) ha hb
    have hf4 : frI x (x + 795) r3 r4 := ha.wide (by omega) (by omega)
    have m_11' := hX4.1.2.2.2.2.2.2.2.2.2.2.2.2
    have m_11' : r4 x 11 = .int (nI c.2.2.2.2.2) := m_11'
    refine zx_aload_n dX_writeUnit_110 rfl ?_
    refine zx_dup dX_writeUnit_111 rfl ?_
    refine zx_get dX_writeUnit_112 flX_159 (by assumption) (by assumption) ?_
    refine zx_iconst (v := nI 1) dX_writeUnit_115 (by decide) ?_
    refine zn_iadd dX_writeUnit_116 ?_
    refine zx_put dX_writeUnit_117 flX_159 tpX_11 ho rfl rfl ?_
    have hX5 := hX4.up11 (m := c.2.2.2.2.2 + 1)
    exact zx_vret hE rfl dX_writeUnit_120 rfl (Nat.le_of_ble_eq_true rfl) (by
      unfold wS wC
      first
      | (rw [if_pos (by omega), if_pos (by omega)]
         exact ⟨rfl, rfl, (((hf1.tr (frI_up (by omega) (by omega))).tr (frI_up (by omega) (by omega))).tr (frI_up (by omega) (by omega))), hX4⟩)
      | (rw [if_neg (by omega), if_neg (by omega)]
         exact ⟨rfl, rfl, ((((hf1.tr hf2).tr hf3).tr hf4).tr (frI_up (by omega) (by omega))), hX5⟩))
  · refine zx_aload_n dX_writeUnit_40 rfl ?_
    refine zx_dup dX_writeUnit_41 rfl ?_
    refine zx_get dX_writeUnit_42 flX_72 (by assumption) (by assumption) ?_
    refine zx_iconst (v := nI 1) dX_writeUnit_45 (by decide) ?_
    refine zn_iadd dX_writeUnit_46 ?_
    refine zx_put dX_writeUnit_47 flX_72 tpX_6 go rfl rfl ?_
    have hX2 := hX1.up6 (m := c.2.1 + 1)
    refine zx_aload_n dX_writeUnit_50 rfl ?_
    refine zx_iconst (v := nI 0) dX_writeUnit_51 (by decide) ?_
    refine zx_put dX_writeUnit_52 flX_153 tpX_10 go rfl rfl ?_
    have hX3 := hX2.up10 (m := 0)
    refine zx_aload_n dX_writeUnit_55 rfl ?_
    refine zx_iconst (v := nI 0) dX_writeUnit_56 (by decide) ?_
    refine zx_put dX_writeUnit_57 flX_159 tpX_11 go rfl rfl ?_
    have hX4 := hX3.up11 (m := 0)
    exact zx_vret hE rfl dX_writeUnit_60 rfl (Nat.le_of_ble_eq_true rfl) (by
      unfold wS wC
      first
      | (rw [if_pos (by omega), if_pos (by omega)]
         exact ⟨rfl, rfl, (((hf1.tr (frI_up (by omega) (by omega))).tr (frI_up (by omega) (by omega))).tr (frI_up (by omega) (by omega))), hX4⟩)
      | (rw [if_neg (by omega), if_neg (by omega)]
         exact ⟨rfl, rfl, ((((hf1.tr hf2).tr hf3).tr hf4).tr (frI_up (by omega) (by omega))), hX5⟩))
end
section
def wRun (pf : PF) : Nat → CT × SF → Nat × CT × SF
  | 0, s => (0, s)
  | u + 1, s => if s.1.2.1 < s.1.1 then ((wRun pf u (wC pf s.1, wS pf s.1 s.2)).1 + 1, (wRun pf u (wC pf s.1, wS pf s.1 s.2)).2) else (0, s)
/-- what the writer needs of the state -/
def wOk (pf : PF) (s : CT × SF) : Prop := s.1.2.1 < 24 ∧ s.1.2.2.2.2.1 ≤ (pf s.1.2.1).2.2.1.length ∧ s.1.2.2.2.2.2 < 100 ∧ fT (s.2 (s.1.2.1 / 4)).1 (wTok pf s.1) < 48
theorem wRun_s {pf : PF} {u : Nat} {s : CT × SF} (h : s.1.2.1 < s.1.1) : wRun pf (u + 1) s = ((wRun pf u (wC pf s.1, wS pf s.1 s.2)).1 + 1, (wRun pf u (wC pf s.1, wS pf s.1 s.2)).2) := by
  show (if s.1.2.1 < s.1.1 then _ else _) = _; rw [if_pos h]
theorem wRun_e {pf : PF} {u : Nat} {s : CT × SF} (h : u = 0 ∨ ¬ s.1.2.1 < s.1.1) : wRun pf u s = (0, s) := by
  cases u with
  | zero => rfl
  | succ u => show (if s.1.2.1 < s.1.1 then _ else _) = _; rw [if_neg (by rcases h with h | h; omega; exact h)]
theorem wRun_le {pf : PF} {u : Nat} {s : CT × SF} : (wRun pf u s).1 ≤ u := by
  induction u generalizing s with
  | zero => exact Nat.le_refl _
  | succ u ih =>
    by_cases h : s.1.2.1 < s.1.1
    · rw [wRun_s h]; have := ih (s := (wC pf s.1, wS pf s.1 s.2)); show _ + 1 ≤ u + 1; omega
    · rw [wRun_e (Or.inr h)]; omega
/-- the first number from i on, of k, that has it -/
def fst1 (p : Nat → Bool) : Nat → Nat → Option Nat
  | 0, _ => none
  | k + 1, i => if p i = true then some i else fst1 p k (i + 1)
theorem fst1_t {p : Nat → Bool} {k i : Nat} (hk : 0 < k) (h : p i = true) : fst1 p k i = some i := by
  cases k with
  | zero => omega
  | succ k => show (if p i = true then _ else _) = _; rw [if_pos h]
theorem fst1_f {p : Nat → Bool} {k i : Nat} (hk : 0 < k) (h : p i = false) : fst1 p k i = fst1 p (k - 1) (i + 1) := by
  cases k with
  | zero => omega
  | succ k => show (if p i = true then _ else _) = _; rw [if_neg (by rw [h]; decide)]; rfl
theorem fst1_some {p : Nat → Bool} {k i j : Nat} (h : fst1 p k i = some j) : i ≤ j ∧ j < i + k ∧ p j = true := by
  induction k generalizing i with
  | zero => cases h
  | succ k ih =>
    unfold fst1 at h
    split at h
    · next hp => cases h; exact ⟨by omega, by omega, hp⟩
    · have := ih h; exact ⟨by omega, by omega, this.2.2⟩
def oI (o : Option Nat) : Int32 := match o with
  | some j => nI j
  | none => -1
def pkF (sf : SF) (c : CT) (g : Nat) : Bool := liveB c.2.2.1 g && (fullB c.2.1 g && !(sf g).2.2)
def rwU (s : List (List Nat × Int32) × Nat × Bool) : List (List Nat × Int32) × Nat × Bool := (s.1, (if s.2.1 < s.1.length then s.2.1 + 1 else s.2.1), (if s.2.1 < s.1.length then s.2.2 else true))
def pRun (c : CT) : Nat → SF → Nat × SF
  | 0, sf => (0, sf)
  | u + 1, sf => match fst1 (pkF sf c) c.2.2.1 0 with
    | none => (0, sf)
    | some g => ((pRun c u (va_up sf g (rwU (sf g)))).1 + 1, (pRun c u (va_up sf g (rwU (sf g)))).2)
theorem pRun_n {c : CT} {u : Nat} {sf : SF} (h : fst1 (pkF sf c) c.2.2.1 0 = none) : pRun c u sf = (0, sf) := by
  cases u with
  | zero => rfl
  | succ u => unfold pRun; rw [h]
theorem pRun_s {c : CT} {u g : Nat} {sf : SF} (h : fst1 (pkF sf c) c.2.2.1 0 = some g) : pRun c (u + 1) sf = ((pRun c u (va_up sf g (rwU (sf g)))).1 + 1, (pRun c u (va_up sf g (rwU (sf g)))).2) := by
  rw [pRun, h]
def nxt (p : Nat → Bool) : Nat → Option Nat
  | 0 => none
  | m + 1 => if p m = true then some m else nxt p m
theorem nxt_t {p : Nat → Bool} {m : Nat} (h : p m = true) : nxt p (m + 1) = some m := by
  show (if p m = true then _ else _) = _; rw [if_pos h]
theorem nxt_f {p : Nat → Bool} {m : Nat} (h : p m = false) : nxt p (m + 1) = nxt p m := by
  show (if p m = true then _ else _) = _; rw [if_neg (by rw [h]; decide)]
/-- a query is worked out to something, whatever its leaves are -/
def qOk (ks : List qStep) (wds : List (List Nat)) : Prop := (∀ env, ∃ b fin, evalS env ks [] = some (b :: fin)) ∧ ∀ k ∈ ks, leafOk wds k
def qv (pf : PF) (sf : SF) (ks : List qStep) (wds : List (List Nat)) (j : Nat) : Bool := match evalS (envI (pf j).1 (pf j).2.1 wds (sf (j / 4)).1 (j % 4)) ks [] with
  | some (b :: _) => b
  | _ => false
def hitB (pf : PF) (sf : SF) (c : CT) (ks : List qStep) (wds : List (List Nat)) (j : Nat) : Bool := standB pf c j && qv pf sf ks wds j
theorem dI_sub (m : Nat) : nI m - nI 1 = dI m := by
  unfold dI
  apply Int32.toBitVec_inj.mp
  rw [Int32.toBitVec_sub, Int32.toBitVec_add]
  rw [BitVec.sub_eq_add_neg]
  congr 1

set_option maxHeartbeats 4000000 in
set_option maxRecDepth 100000 in
theorem kX_write (G : zG) (d : Nat) (hd : 5 ≤ d) {n : Nat} {sh : zSh} {row : zRw} {x : Nat} {D : List Nat} {pf : PF} {sf : SF} {hf : HF} {c : CT} {qr : Nat} (hX : XA sh row x D pf sf hf c qr) {v : Int32} {I : CT × SF → Prop} (hI0 : I (c, sf)) (hI : (∀ s, I s → s.1.2.1 < s.1.1 → wOk pf s) ∧ (∀ s, I s → s.1.2.1 < s.1.1 → I (wC pf s.1, wS pf s.1 s.2)) ∧ ∀ s, I s → s.1.1 ≤ 24 ∧ s.1.2.1 ≤ 24) : zM G (fX_write d) [.ref x, .int v] n sh row (zpR sh (fun w row' => w = .int (nI (wRun pf (unN v) (c, sf)).1) ∧ frI x (x + 795) row row' ∧ XA sh row' x D pf (wRun pf (unN v) (c, sf)).2.2 hf (wRun pf (unN v) (c, sf)).2.1 qr)) := by
  refine zM.of (by show plainName "PostIndex" = true; decide +kernel) (Nat.le_of_ble_eq_true rfl) (by intro v hv; simp at hv; rcases hv with rfl | rfl <;> rfl) ?_
  intro K hE
  show zX G K (fX_write d) n 0 0 sh row 0 [.ref x, .int v, .retAddr 0, .retAddr 0] []
  have hD : d - 1 + 1 ≤ d := by omega
  obtain ⟨hO, hD0, htk, hPs, hSg, hSe, hRd, hDj⟩ := id hX
  obtain ⟨ho, h_0, h_1, h_2, h_3, h_4, h_5, h_6, h_7, h_8, h_9, h_10, h_11⟩ := id hO
  refine zx_iload_n dX_write_0 rfl ?_
  refine zc_S (n0 := n) (ce := 0) (kX_unitsAsked G (d - 1) (by omega)) (meX_unitsAsked _) lkX_79 rfl hD (Nat.le_of_ble_eq_true rfl) rfl rfl (Nat.le_of_ble_eq_true rfl) (Nat.le_of_ble_eq_true rfl) (Nat.le_of_ble_eq_true rfl) dX_write_1 ?_
  have hul := unN_le v
  generalize unN v = u at *
  have loop : ∀ (k : Nat) (i : Nat) (s1 : CT × SF) (r2 : zRw), u - i < k → i ≤ u → frI x (x + 795) row r2 → XA sh r2 x D pf s1.2 hf s1.1 qr → I s1 → wRun pf u (c, sf) = (i + (wRun pf (u - i) s1).1, (wRun pf (u - i) s1).2) → zX G K (fX_write d) n 0 0 sh r2 7 [.ref x, .int v, .int (nI u), .int (nI i)] [] := by
    intro k
    induction k with
    | zero => intro i s1 r2 hk; exact absurd hk (Nat.not_lt_zero _)
    | succ k ih =>
      intro i s1 r2 hk h3 h4 h5 h6 h7
      have hb := hI.2.2 s1 h6
      obtain ⟨gO, gD0, gtk, gPs, gSg, gSe, gRd, gDj⟩ := id h5
      obtain ⟨go, g_0, g_1, g_2, g_3, g_4, g_5, g_6, g_7, g_8, g_9, g_10, g_11⟩ := id gO
      refine zx_iload_n dX_write_7 rfl ?_
      refine zx_iload_n dX_write_8 rfl ?_
      refine zn_icmp_ge (tgt := 37) dX_write_9 rfl (by omega) (by omega) (fun h9 => ?_) (fun h9 => ?_)
      · refine zx_iload_n dX_write_37 rfl ?_
        exact zx_iret hE rfl dX_write_38 rfl (Nat.le_of_ble_eq_true rfl) (by rw [wRun_e (u := u - i) (s := s1) (by omega)] at h7; rw [h7]; exact ⟨_, rfl, rfl, rfl, h4, h5⟩)
      · refine zx_aload_n dX_write_12 rfl ?_
        refine zx_get dX_write_13 flX_72 (by assumption) (by assumption) ?_
        refine zx_aload_n dX_write_16 rfl ?_
        refine zx_get dX_write_17 flX_69 (by assumption) (by assumption) ?_
        refine zn_icmp_ge (tgt := 37) dX_write_20 rfl (by omega) (by omega) (fun h20 => ?_) (fun h20 => ?_)
        · refine zx_iload_n dX_write_37 rfl ?_
          exact zx_iret hE rfl dX_write_38 rfl (Nat.le_of_ble_eq_true rfl) (by rw [wRun_e (u := u - i) (s := s1) (by omega)] at h7; rw [h7]; exact ⟨_, rfl, rfl, rfl, h4, h5⟩)
        · refine zx_aload_n dX_write_23 rfl ?_
          refine zx_aload_n dX_write_24 rfl ?_
          obtain ⟨hw1, hw2, hw3, hw4⟩ := hI.1 s1 h6 (by omega)
          refine zx_get dX_write_25 flX_72 ho g_6 ?_
          refine zc_Vv (n0 := n) (ce := 0) (kX_writeUnit G (d - 1) (by omega) h5 hw1 hw2 hw3 hw4) (meX_writeUnit _) lkX_83 ho rfl rfl hD (Nat.le_of_ble_eq_true rfl) rfl rfl (Nat.le_of_ble_eq_true rfl) (Nat.le_of_ble_eq_true rfl) (Nat.le_of_ble_eq_true rfl) dX_write_28 (fun r3 h8 => ?_)
          obtain ⟨h9, h10⟩ := h8
          refine zn_iinc (c := 1) dX_write_31 (Nat.le_of_ble_eq_true rfl) rfl rfl ?_
          refine zx_goto (tgt := 7) dX_write_34 rfl ?_
          refine ih (i + 1) (wC pf s1.1, wS pf s1.1 s1.2) r3 (by omega) (by omega) (h4.tr h9) h10 (hI.2.1 s1 h6 (by omega)) ?_
          rw [h7, show u - i = u - (i + 1) + 1 by omega, wRun_s (by omega)]
          show (i + ((wRun pf (u - (i + 1)) (wC pf s1.1, wS pf s1.1 s1.2)).1 + 1), _) = _
          rw [show i + ((wRun pf (u - (i + 1)) (wC pf s1.1, wS pf s1.1 s1.2)).1 + 1) = i + 1 + (wRun pf (u - (i + 1)) (wC pf s1.1, wS pf s1.1 s1.2)).1 by omega]
  refine zx_istore_n dX_write_4 (Nat.le_of_ble_eq_true rfl) rfl rfl ?_
  refine zx_iconst (v := nI 0) dX_write_5 (by decide) ?_
  refine zx_istore_n dX_write_6 (Nat.le_of_ble_eq_true rfl) rfl rfl ?_
  exact loop _ 0 (c, sf) row (Nat.lt_succ_self _) (Nat.zero_le _) frI.rf hX hI0 (by rw [Nat.zero_add]; rfl)

set_option maxHeartbeats 4000000 in
set_option maxRecDepth 100000 in
theorem kX_segmentToPack (G : zG) (d : Nat) (hd : 1 ≤ d) {n : Nat} {sh : zSh} {row : zRw} {x : Nat} {D : List Nat} {pf : PF} {sf : SF} {hf : HF} {c : CT} {qr : Nat} (hX : XA sh row x D pf sf hf c qr) (hsb : c.2.2.1 ≤ 6) (hpb : c.2.1 ≤ 24) : zM G (fX_segmentToPack d) [.ref x] n sh row (zP sh row (.int (oI (fst1 (pkF sf c) c.2.2.1 0)))) := by
  refine zM.of (by show plainName "PostIndex" = true; decide +kernel) (Nat.le_of_ble_eq_true rfl) (by intro v hv; simp at hv; rcases hv with rfl <;> rfl) ?_
  intro K hE
  show zX G K (fX_segmentToPack d) n 0 0 sh row 0 [.ref x, .retAddr 0] []
  have hD : d - 1 + 1 ≤ d := by omega
  obtain ⟨hO, hD0, htk, hPs, hSg, hSe, hRd, hDj⟩ := id hX
  obtain ⟨ho, h_0, h_1, h_2, h_3, h_4, h_5, h_6, h_7, h_8, h_9, h_10, h_11⟩ := id hO
  have loop : ∀ (k : Nat) (i : Nat), c.2.2.1 - i < k → i ≤ c.2.2.1 → fst1 (pkF sf c) (c.2.2.1 - i) i = fst1 (pkF sf c) c.2.2.1 0 → zX G K (fX_segmentToPack d) n 0 0 sh row 2 [.ref x, .int (nI i)] [] := by
    intro k
    induction k with
    | zero => intro i hk; exact absurd hk (Nat.not_lt_zero _)
    | succ k ih =>
      intro i hk h3 h4
      refine zx_iload_n dX_segmentToPack_2 rfl ?_
      refine zx_aload_n dX_segmentToPack_3 rfl ?_
      refine zx_get dX_segmentToPack_4 flX_129 (by assumption) (by assumption) ?_
      refine zn_icmp_ge (tgt := 46) dX_segmentToPack_7 rfl (by omega) (by omega) (fun h7 => ?_) (fun h7 => ?_)
      · refine zx_iconst (v := -1) dX_segmentToPack_46 (by decide) ?_
        exact zx_iret hE rfl dX_segmentToPack_47 rfl (Nat.le_of_ble_eq_true rfl) (by refine ⟨?_, rfl, rfl⟩; rw [← h4]; first | (rw [show c.2.2.1 - i = 0 by omega]; rfl) | (have hp : pkF sf c i = true := (by unfold pkF; rw [h15, h23, h35]; rfl); rw [fst1_t (by omega) hp]; rfl))
      · refine zx_aload_n dX_segmentToPack_10 rfl ?_
        refine zx_iload_n dX_segmentToPack_11 rfl ?_
        refine zc_V (n0 := n) (ce := 0) (kX_isLive G (d - 1) (by omega) hX (by omega) hsb) (meX_isLive _) lkX_132 ho rfl rfl hD (Nat.le_of_ble_eq_true rfl) rfl rfl (Nat.le_of_ble_eq_true rfl) (Nat.le_of_ble_eq_true rfl) (Nat.le_of_ble_eq_true rfl) dX_segmentToPack_12 ?_
        refine zb_if_eq (tgt := 40) dX_segmentToPack_15 rfl (fun h15 => ?_) (fun h15 => ?_)
        · refine zn_iinc (c := 1) dX_segmentToPack_40 (Nat.le_of_ble_eq_true rfl) rfl rfl ?_
          refine zx_goto (tgt := 2) dX_segmentToPack_43 rfl ?_
          have hp : pkF sf c i = false := by unfold pkF; first | (rw [h15]; rfl) | (rw [h15, h23]; rfl) | (rw [h15, h23, h35]; rfl)
          exact ih (i + 1) (by omega) (by omega) (by rw [← h4, fst1_f (by omega) hp, show c.2.2.1 - i - 1 = c.2.2.1 - (i + 1) by omega])
        · refine zx_aload_n dX_segmentToPack_18 rfl ?_
          refine zx_iload_n dX_segmentToPack_19 rfl ?_
          refine zc_V (n0 := n) (ce := 0) (kX_isFull G (d - 1) (by omega) hX (by omega) hpb) (meX_isFull _) lkX_135 ho rfl rfl hD (Nat.le_of_ble_eq_true rfl) rfl rfl (Nat.le_of_ble_eq_true rfl) (Nat.le_of_ble_eq_true rfl) (Nat.le_of_ble_eq_true rfl) dX_segmentToPack_20 ?_
          refine zb_if_eq (tgt := 40) dX_segmentToPack_23 rfl (fun h23 => ?_) (fun h23 => ?_)
          · refine zn_iinc (c := 1) dX_segmentToPack_40 (Nat.le_of_ble_eq_true rfl) rfl rfl ?_
            refine zx_goto (tgt := 2) dX_segmentToPack_43 rfl ?_
            have hp : pkF sf c i = false := by unfold pkF; first | (rw [h15]; rfl) | (rw [h15, h23]; rfl) | (rw [h15, h23, h35]; rfl)
            exact ih (i + 1) (by omega) (by omega) (by rw [← h4, fst1_f (by omega) hp, show c.2.2.1 - i - 1 = c.2.2.1 - (i + 1) by omega])
          · refine zx_aload_n dX_segmentToPack_26 rfl ?_
            refine zx_get dX_segmentToPack_27 flX_35 (by assumption) (by assumption) ?_
            refine zx_iload_n dX_segmentToPack_30 rfl ?_
            obtain ⟨q1, q2⟩ := hSg.2 i (by omega)
            refine zn_aald dX_segmentToPack_31 hSg.1 rfl (by omega) (by decide) q1 ?_
            refine zx_getN dX_segmentToPack_32 flX_138 q2.1.1 q2.2.1.2.2.2.2 ?_
            refine zb_if_ne (tgt := 40) dX_segmentToPack_35 rfl (fun h35 => ?_) (fun h35 => ?_)
            · refine zn_iinc (c := 1) dX_segmentToPack_40 (Nat.le_of_ble_eq_true rfl) rfl rfl ?_
              refine zx_goto (tgt := 2) dX_segmentToPack_43 rfl ?_
              have hp : pkF sf c i = false := by unfold pkF; first | (rw [h15]; rfl) | (rw [h15, h23]; rfl) | (rw [h15, h23, h35]; rfl)
              exact ih (i + 1) (by omega) (by omega) (by rw [← h4, fst1_f (by omega) hp, show c.2.2.1 - i - 1 = c.2.2.1 - (i + 1) by omega])
            · refine zx_iload_n dX_segmentToPack_38 rfl ?_
              exact zx_iret hE rfl dX_segmentToPack_39 rfl (Nat.le_of_ble_eq_true rfl) (by refine ⟨?_, rfl, rfl⟩; rw [← h4]; first | (rw [show c.2.2.1 - i = 0 by omega]; rfl) | (have hp : pkF sf c i = true := (by unfold pkF; rw [h15, h23, h35]; rfl); rw [fst1_t (by omega) hp]; rfl))
  refine zx_iconst (v := nI 0) dX_segmentToPack_0 (by decide) ?_
  refine zx_istore_n dX_segmentToPack_1 (Nat.le_of_ble_eq_true rfl) rfl rfl ?_
  exact loop _ 0 (Nat.lt_succ_self _) (Nat.zero_le _) rfl

set_option maxHeartbeats 4000000 in
set_option maxRecDepth 100000 in
theorem kX_freePlace (G : zG) (d : Nat) (hd : 0 ≤ d) {n : Nat} {sh : zSh} {row : zRw} {x : Nat} {D : List Nat} {pf : PF} {sf : SF} {hf : HF} {c : CT} {qr : Nat} (hX : XA sh row x D pf sf hf c qr) : zM G (fX_freePlace d) [.ref x] n sh row (zP sh row (.int (oI (fst1 (fun j => !(hf j).1) 3 0)))) := by
  refine zM.of (by show plainName "PostIndex" = true; decide +kernel) (Nat.le_of_ble_eq_true rfl) (by intro v hv; simp at hv; rcases hv with rfl <;> rfl) ?_
  intro K hE
  show zX G K (fX_freePlace d) n 0 0 sh row 0 [.ref x, .retAddr 0] []
  obtain ⟨hO, hD0, htk, hPs, hSg, hSe, hRd, hDj⟩ := id hX
  obtain ⟨ho, h_0, h_1, h_2, h_3, h_4, h_5, h_6, h_7, h_8, h_9, h_10, h_11⟩ := id hO
  have loop : ∀ (k : Nat) (i : Nat), 3 - i < k → i ≤ 3 → fst1 (fun j => !(hf j).1) (3 - i) i = fst1 (fun j => !(hf j).1) 3 0 → zX G K (fX_freePlace d) n 0 0 sh row 2 [.ref x, .int (nI i)] [] := by
    intro k
    induction k with
    | zero => intro i hk; exact absurd hk (Nat.not_lt_zero _)
    | succ k ih =>
      intro i hk k3 k4
      refine zx_iload_n dX_freePlace_2 rfl ?_
      refine zx_iconst (v := nI 3) dX_freePlace_3 (by decide) ?_
      refine zn_icmp_ge (tgt := 27) dX_freePlace_4 rfl (by omega) (by omega) (fun h4 => ?_) (fun h4 => ?_)
      · refine zx_iconst (v := -1) dX_freePlace_27 (by decide) ?_
        exact zx_iret hE rfl dX_freePlace_28 rfl (Nat.le_of_ble_eq_true rfl) (by refine ⟨?_, rfl, rfl⟩; rw [← k4]; first | (rw [show 3 - i = 0 by omega]; rfl) | (rw [fst1_t (by omega) (by simp [h16])]; rfl))
      · refine zx_aload_n dX_freePlace_7 rfl ?_
        refine zx_get dX_freePlace_8 flX_42 (by assumption) (by assumption) ?_
        refine zx_iload_n dX_freePlace_11 rfl ?_
        obtain ⟨q1, q2, q3, q4, q5, q6, q7⟩ := hSe.2 i (by omega)
        refine zn_aald dX_freePlace_12 hSe.1 rfl (by omega) (by decide) q1 ?_
        refine zx_getN dX_freePlace_13 flX_119 (by assumption) (by assumption) ?_
        refine zb_if_ne (tgt := 21) dX_freePlace_16 rfl (fun h16 => ?_) (fun h16 => ?_)
        · refine zn_iinc (c := 1) dX_freePlace_21 (Nat.le_of_ble_eq_true rfl) rfl rfl ?_
          refine zx_goto (tgt := 2) dX_freePlace_24 rfl ?_
          exact ih (i + 1) (by omega) (by omega) (by rw [← k4, fst1_f (k := 3 - i) (i := i) (by omega) (by simp [h16]), show 3 - i - 1 = 3 - (i + 1) by omega])
        · refine zx_iload_n dX_freePlace_19 rfl ?_
          exact zx_iret hE rfl dX_freePlace_20 rfl (Nat.le_of_ble_eq_true rfl) (by refine ⟨?_, rfl, rfl⟩; rw [← k4]; first | (rw [show 3 - i = 0 by omega]; rfl) | (rw [fst1_t (by omega) (by simp [h16])]; rfl))
  refine zx_iconst (v := nI 0) dX_freePlace_0 (by decide) ?_
  refine zx_istore_n dX_freePlace_1 (Nat.le_of_ble_eq_true rfl) rfl rfl ?_
  exact loop _ 0 (Nat.lt_succ_self _) (Nat.zero_le _) rfl

theorem hSg' {sh : zSh} {row : zRw} {x g : Nat} {D : List Nat} {pf : PF} {sf : SF} {hf : HF} {c : CT} {qr : Nat} (h : XA sh row x D pf sf hf c qr) (hg : g < 6) : row (x + 110) g = .ref (x + 111 + 99 * g) ∧ SegA sh row (x + 111 + 99 * g) (sf g).1 (sf g).2.1 (sf g).2.2 := h.2.2.2.2.1.2 g hg

set_option maxHeartbeats 4000000 in
set_option maxRecDepth 100000 in
theorem kX_pack (G : zG) (d : Nat) (hd : 2 ≤ d) {n : Nat} {sh : zSh} {row : zRw} {x : Nat} {D : List Nat} {pf : PF} {sf : SF} {hf : HF} {c : CT} {qr : Nat} (hX : XA sh row x D pf sf hf c qr) {v : Int32} (hsb : c.2.2.1 ≤ 6) (hpb : c.2.1 ≤ 24) : zM G (fX_pack d) [.ref x, .int v] n sh row (zpR sh (fun w row' => w = .int (nI (pRun c (unN v) sf).1) ∧ frI x (x + 795) row row' ∧ XA sh row' x D pf (pRun c (unN v) sf).2 hf c qr)) := by
  refine zM.of (by show plainName "PostIndex" = true; decide +kernel) (Nat.le_of_ble_eq_true rfl) (by intro v hv; simp at hv; rcases hv with rfl | rfl <;> rfl) ?_
  intro K hE
  show zX G K (fX_pack d) n 0 0 sh row 0 [.ref x, .int v, .retAddr 0, .retAddr 0, .retAddr 0] []
  have hD : d - 1 + 1 ≤ d := by omega
  obtain ⟨hO, hD0, htk, hPs, hSg, hSe, hRd, hDj⟩ := id hX
  obtain ⟨ho, h_0, h_1, h_2, h_3, h_4, h_5, h_6, h_7, h_8, h_9, h_10, h_11⟩ := id hO

  refine zx_iload_n dX_pack_0 rfl ?_
  refine zc_S (n0 := n) (ce := 0) (kX_unitsAsked G (d - 1) (by omega)) (meX_unitsAsked _) lkX_79 rfl hD (Nat.le_of_ble_eq_true rfl) rfl rfl (Nat.le_of_ble_eq_true rfl) (Nat.le_of_ble_eq_true rfl) (Nat.le_of_ble_eq_true rfl) dX_pack_1 ?_
  have hul := unN_le v
  generalize unN v = u at *
  have loop : ∀ (k : Nat) (i : Nat) (sf1 : SF) (v4 : Value) (r2 : zRw), u - i < k → i ≤ u → v4.category = 1 → frI x (x + 795) row r2 → XA sh r2 x D pf sf1 hf c qr → pRun c u sf = (i + (pRun c (u - i) sf1).1, (pRun c (u - i) sf1).2) → zX G K (fX_pack d) n 0 0 sh r2 7 [.ref x, .int v, .int (nI u), .int (nI i), v4] [] := by
    intro k
    induction k with
    | zero => intro i sf1 v4 r2 hk; exact absurd hk (Nat.not_lt_zero _)
    | succ k ih =>
      intro i sf1 v4 r2 hk h3 hv4 h4 h5 h7
      refine zx_iload_n dX_pack_7 rfl ?_
      refine zx_iload_n dX_pack_8 rfl ?_
      refine zn_icmp_ge (tgt := 41) dX_pack_9 rfl (by omega) (by omega) (fun h9 => ?_) (fun h9 => ?_)
      · refine zx_iload_n dX_pack_41 rfl ?_
        exact zx_iret hE rfl dX_pack_42 rfl (Nat.le_of_ble_eq_true rfl) (by rw [show u - i = 0 by omega] at h7; rw [h7]; exact ⟨_, rfl, rfl, by show Value.int (nI u) = .int (nI (i + 0)); rw [show i + 0 = u by omega], h4, h5⟩)
      · refine zx_aload_n dX_pack_12 rfl ?_
        refine zc_V (n0 := n) (ce := 0) (kX_segmentToPack G (d - 1) (by omega) h5 hsb hpb) (meX_segmentToPack _) lkX_91 ho rfl rfl hD (Nat.le_of_ble_eq_true rfl) rfl rfl (Nat.le_of_ble_eq_true rfl) (Nat.le_of_ble_eq_true rfl) (Nat.le_of_ble_eq_true rfl) dX_pack_13 ?_
        cases hg : fst1 (pkF sf1 c) c.2.2.1 0 with
        | none =>
          show zX G K _ n 0 0 sh r2 _ _ [.int (-1)]
          refine zx_istore dX_pack_16 (Nat.le_of_ble_eq_true rfl) (by simp only [List.all_cons, List.all_nil, hv4]; rfl) rfl ?_
          refine zx_iload dX_pack_18 rfl ?_
          refine zx_if_ge (tgt := 25) dX_pack_20 rfl (fun h => absurd h (by decide)) (fun _ => ?_)
          refine zx_iload_n dX_pack_23 rfl ?_
          exact zx_iret hE rfl dX_pack_24 rfl (Nat.le_of_ble_eq_true rfl) (by rw [pRun_n hg] at h7; rw [h7]; exact ⟨_, rfl, rfl, rfl, h4, h5⟩)
        | some g =>
          obtain ⟨-, hg2, hg3⟩ := fst1_some hg
          obtain ⟨q1, q2⟩ := hSg' h5 (g := g) (by omega)
          show zX G K _ n 0 0 sh r2 _ _ [.int (nI g)]
          refine zx_istore dX_pack_16 (Nat.le_of_ble_eq_true rfl) (by simp only [List.all_cons, List.all_nil, hv4]; rfl) rfl ?_
          refine zx_iload dX_pack_18 rfl ?_
          refine zn_if_ge (tgt := 25) dX_pack_20 rfl (by omega) ?_
          refine zx_aload_n dX_pack_25 rfl ?_
          refine zx_get dX_pack_26 flX_35 ho h5.1.2.2.2.1 ?_
          refine zx_iload dX_pack_29 rfl ?_
          refine zn_aald dX_pack_31 h5.2.2.2.2.1.1 rfl (by omega) (by decide) q1 ?_
          refine zc_Vv (n0 := n) (ce := 0) (kS_rewriteUnit G (d - 1) (by omega) q2) (meS_rewriteUnit _) lkX_95 q2.1.1 rfl rfl hD (Nat.le_of_ble_eq_true rfl) rfl rfl (Nat.le_of_ble_eq_true rfl) (Nat.le_of_ble_eq_true rfl) (Nat.le_of_ble_eq_true rfl) dX_pack_32 (fun r3 h8 => ?_)
          obtain ⟨h9, h10⟩ := h8
          refine zn_iinc (c := 1) dX_pack_35 (Nat.le_of_ble_eq_true rfl) rfl rfl ?_
          refine zx_goto (tgt := 7) dX_pack_38 rfl ?_
          refine ih (i + 1) (va_up sf1 g (rwU (sf1 g))) _ r3 (by omega) (by omega) rfl (h4.tr (h9.wide (by omega) (by omega))) (h5.segU (v := rwU (sf1 g)) (by omega) (h9.wide (by omega) (by omega)) h10) ?_
          rw [h7, show u - i = u - (i + 1) + 1 by omega, pRun_s hg]
          show (i + ((pRun c (u - (i + 1)) (va_up sf1 g (rwU (sf1 g)))).1 + 1), _) = _
          rw [show i + ((pRun c (u - (i + 1)) (va_up sf1 g (rwU (sf1 g)))).1 + 1) = i + 1 + (pRun c (u - (i + 1)) (va_up sf1 g (rwU (sf1 g)))).1 by omega]
  refine zx_istore_n dX_pack_4 (Nat.le_of_ble_eq_true rfl) rfl rfl ?_
  refine zx_iconst (v := nI 0) dX_pack_5 (by decide) ?_
  refine zx_istore_n dX_pack_6 (Nat.le_of_ble_eq_true rfl) rfl rfl ?_
  exact loop _ 0 sf _ row (Nat.lt_succ_self _) (Nat.zero_le _) rfl frI.rf hX (by rw [Nat.zero_add]; rfl)

set_option maxHeartbeats 4000000 in
set_option maxRecDepth 100000 in
theorem kX_isHit (G : zG) (d : Nat) (hd : 6 ≤ d) {n : Nat} {sh : zSh} {row : zRw} {x : Nat} {D : List Nat} {pf : PF} {sf : SF} {hf : HF} {c : CT} {qr : Nat} (hX : XA sh row x D pf sf hf c qr) {q j : Nat} {ks : List qStep} {wds : List (List Nat)} (hQ : QryA sh row q ks wds) (hq : qOk ks wds) (hj : j < 24) (hsb : c.2.2.1 ≤ 6) (hpb : c.2.1 ≤ 24) : zM G (fX_isHit d) [.ref x, .ref q, .int (nI j)] n sh row (zP sh row (.int (bI (hitB pf sf c ks wds j)))) := by
  refine zM.of (by show plainName "PostIndex" = true; decide +kernel) (Nat.le_of_ble_eq_true rfl) (by intro v hv; simp at hv; rcases hv with rfl | rfl | rfl <;> rfl) ?_
  intro K hE
  show zX G K (fX_isHit d) n 0 0 sh row 0 [.ref x, .ref q, .int (nI j)] []
  have hD : d - 1 + 1 ≤ d := by omega
  obtain ⟨hO, hD0, htk, hPs, hSg, hSe, hRd, hDj⟩ := id hX
  obtain ⟨ho, h_0, h_1, h_2, h_3, h_4, h_5, h_6, h_7, h_8, h_9, h_10, h_11⟩ := id hO
  refine zx_aload_n dX_isHit_0 rfl ?_
  refine zx_iload_n dX_isHit_1 rfl ?_
  refine zc_V (n0 := n) (ce := 0) (kX_stands G (d - 1) (by omega) hX (j := j) (by omega) hsb hpb) (meX_stands _) lkX_51 ho rfl rfl hD (Nat.le_of_ble_eq_true rfl) rfl rfl (Nat.le_of_ble_eq_true rfl) (Nat.le_of_ble_eq_true rfl) (Nat.le_of_ble_eq_true rfl) dX_isHit_2 ?_
  refine zb_if_eq (tgt := 36) dX_isHit_5 rfl (fun h5 => ?_) (fun h5 => ?_)
  · refine zx_iconst (v := nI 0) dX_isHit_36 (by decide) ?_
    exact zx_zret hE rfl (by first | decide | exact bI_nar _) dX_isHit_37 rfl (Nat.le_of_ble_eq_true rfl) ⟨by unfold hitB; first | (rw [h5]; rfl) | (rw [h5, hqv, h29]; rfl), rfl, rfl⟩
  · refine zx_aload_n dX_isHit_8 rfl ?_
    refine zx_aload_n dX_isHit_9 rfl ?_
    refine zx_get dX_isHit_10 flX_28 (by assumption) (by assumption) ?_
    refine zx_iload_n dX_isHit_13 rfl ?_
    obtain ⟨q1, q2⟩ := hPs.2 j hj
    obtain ⟨q3, q4⟩ := hSg.2 (j / 4) (by omega)
    obtain ⟨b0, fin, hev⟩ := hq.1 (envI (pf j).1 (pf j).2.1 wds (sf (j / 4)).1 (j % 4))
    have hqv : qv pf sf ks wds j = b0 := by unfold qv; rw [hev]
    refine zn_aald dX_isHit_14 hPs.1 rfl (by omega) (by decide) q1 ?_
    refine zx_aload_n dX_isHit_15 rfl ?_
    refine zx_get dX_isHit_16 flX_35 (by assumption) (by assumption) ?_
    refine zx_iload_n dX_isHit_19 rfl ?_
    refine zx_iconst (v := nI 4) dX_isHit_20 (by decide) ?_
    refine zn_idiv dX_isHit_21 (by omega) (by omega) (by omega) ?_
    refine zn_aald dX_isHit_22 hSg.1 rfl (by omega) (by decide) q3 ?_
    refine zx_iload_n dX_isHit_23 rfl ?_
    refine zx_iconst (v := nI 4) dX_isHit_24 (by decide) ?_
    refine zn_irem dX_isHit_25 (by omega) (by omega) (by omega) ?_
    refine zc_V (n0 := n) (ce := 0) (kQ_matches G (d - 1) (by omega) hQ q4 (slot := j % 4) (by omega) q2 hq.2 hev) (meQ_matches _) lkX_178 hQ.1.1 rfl rfl hD (Nat.le_of_ble_eq_true rfl) rfl rfl (Nat.le_of_ble_eq_true rfl) (Nat.le_of_ble_eq_true rfl) (Nat.le_of_ble_eq_true rfl) dX_isHit_26 ?_
    refine zb_if_eq (tgt := 36) dX_isHit_29 rfl (fun h29 => ?_) (fun h29 => ?_)
    · refine zx_iconst (v := nI 0) dX_isHit_36 (by decide) ?_
      exact zx_zret hE rfl (by first | decide | exact bI_nar _) dX_isHit_37 rfl (Nat.le_of_ble_eq_true rfl) ⟨by unfold hitB; first | (rw [h5]; rfl) | (rw [h5, hqv, h29]; rfl), rfl, rfl⟩
    · refine zx_iconst (v := nI 1) dX_isHit_32 (by decide) ?_
      refine zx_goto (tgt := 37) dX_isHit_33 rfl ?_
      exact zx_zret hE rfl (by first | decide | exact bI_nar _) dX_isHit_37 rfl (Nat.le_of_ble_eq_true rfl) ⟨by unfold hitB; first | (rw [h5]; rfl) | (rw [h5, hqv, h29]; rfl), rfl, rfl⟩
end
section
set_option maxHeartbeats 4000000 in
set_option maxRecDepth 100000 in
theorem kX_left (G : zG) (d : Nat) (hd : 7 ≤ d) {n : Nat} {sh : zSh} {row : zRw} {x : Nat} {D : List Nat} {pf : PF} {sf : SF} {hf : HF} {c : CT} {qr : Nat} (hX : XA sh row x D pf sf hf c qr) {j : Nat} (hj : j < 2147483648) (hsb : c.2.2.1 ≤ 6) (hpb : c.2.1 ≤ 24) (hqs : opB hf j = true → qOk (hf j).2.2.2.1 (hf j).2.2.2.2 ∧ (hf j).2.1 ≤ 24) : zM G (fX_left d) [.ref x, .int (nI j)] n sh row (zP sh row (.int (if opB hf j = true then nI (cnt (hitB pf sf c (hf j).2.2.2.1 (hf j).2.2.2.2) (hf j).2.1) else -1))) := by
  refine zM.of (by show plainName "PostIndex" = true; decide +kernel) (Nat.le_of_ble_eq_true rfl) (by intro v hv; simp at hv; rcases hv with rfl | rfl <;> rfl) ?_
  intro K hE
  show zX G K (fX_left d) n 0 0 sh row 0 [.ref x, .int (nI j), .retAddr 0, .retAddr 0, .retAddr 0] []
  have hD : d - 1 + 1 ≤ d := by omega
  obtain ⟨hO, hD0, htk, hPs, hSg, hSe, hRd, hDj⟩ := id hX
  obtain ⟨ho, h_0, h_1, h_2, h_3, h_4, h_5, h_6, h_7, h_8, h_9, h_10, h_11⟩ := id hO
  refine zx_aload_n dX_left_0 rfl ?_
  refine zx_iload_n dX_left_1 rfl ?_
  refine zc_V (n0 := n) (ce := 0) (kX_isOpen G (d - 1) (by omega) hX hj) (meX_isOpen _) lkX_122 ho rfl rfl hD (Nat.le_of_ble_eq_true rfl) rfl rfl (Nat.le_of_ble_eq_true rfl) (Nat.le_of_ble_eq_true rfl) (Nat.le_of_ble_eq_true rfl) dX_left_2 ?_
  refine zb_if_ne (tgt := 10) dX_left_5 rfl (fun h5 => ?_) (fun h5 => ?_)
  · refine zx_aload_n dX_left_10 rfl ?_
    refine zx_get dX_left_11 flX_42 (by assumption) (by assumption) ?_
    refine zx_iload_n dX_left_14 rfl ?_
    have hj3 : j < 3 := by unfold opB at h5; simp at h5; omega
    obtain ⟨q1, q2, q3, q4, q5, q6, q7⟩ := hSe.2 j hj3
    obtain ⟨hq1, hq2⟩ := hqs h5
    refine zn_aald dX_left_15 hSe.1 rfl (by omega) (by decide) q1 ?_
    have loop : ∀ (k : Nat) (a i : Nat), (hf j).2.1 - i < k → i ≤ (hf j).2.1 → a = cnt (hitB pf sf c (hf j).2.2.2.1 (hf j).2.2.2.2) i → zX G K (fX_left d) n 0 0 sh row 22 [.ref x, .int (nI j), .ref (x + 706 + 30 * j), .int (nI a), .int (nI i)] [] := by
      intro k
      induction k with
      | zero => intro a i hk; exact absurd hk (Nat.not_lt_zero _)
      | succ k ih =>
        intro a i hk h3 h4
        have hcl := cnt_le (hitB pf sf c (hf j).2.2.2.1 (hf j).2.2.2.2) i
        refine zx_iload dX_left_22 rfl ?_
        refine zx_aload_n dX_left_24 rfl ?_
        refine zx_getN dX_left_25 flX_116 q2 q4 ?_
        refine zn_icmp_ge (tgt := 53) dX_left_28 rfl (by omega) (by omega) (fun h28 => ?_) (fun h28 => ?_)
        · refine zx_iload_n dX_left_53 rfl ?_
          exact zx_iret hE rfl dX_left_54 rfl (Nat.le_of_ble_eq_true rfl) ⟨by rw [if_pos h5, h4, show i = (hf j).2.1 by omega], rfl, rfl⟩
        · refine zx_aload_n dX_left_31 rfl ?_
          refine zx_aload_n dX_left_32 rfl ?_
          refine zx_getN dX_left_33 flX_108 q2 q3 ?_
          refine zx_iload dX_left_36 rfl ?_
          refine zc_V (n0 := n) (ce := 0) (kX_isHit G (d - 1) (by omega) hX q7 hq1 (by omega) hsb hpb) (meX_isHit _) lkX_125 ho rfl rfl hD (Nat.le_of_ble_eq_true rfl) rfl rfl (Nat.le_of_ble_eq_true rfl) (Nat.le_of_ble_eq_true rfl) (Nat.le_of_ble_eq_true rfl) dX_left_38 ?_
          refine zb_if_eq (tgt := 47) dX_left_41 rfl (fun h41 => ?_) (fun h41 => ?_)
          · refine zn_iinc (c := 1) dX_left_47 (Nat.le_of_ble_eq_true rfl) rfl rfl ?_
            refine zx_goto (tgt := 22) dX_left_50 rfl ?_
            refine ih _ (i + 1) (by omega) (by omega) ?_
            show _ = cnt _ i + (if (hitB pf sf c (hf j).2.2.2.1 (hf j).2.2.2.2) i = true then 1 else 0)
            first | rw [if_pos h41, h4] | rw [if_neg (by rw [h41]; decide), h4, Nat.add_zero]
          · refine zn_iinc (c := 1) dX_left_44 (Nat.le_of_ble_eq_true rfl) rfl rfl ?_
            refine zn_iinc (c := 1) dX_left_47 (Nat.le_of_ble_eq_true rfl) rfl rfl ?_
            refine zx_goto (tgt := 22) dX_left_50 rfl ?_
            refine ih _ (i + 1) (by omega) (by omega) ?_
            show _ = cnt _ i + (if (hitB pf sf c (hf j).2.2.2.1 (hf j).2.2.2.2) i = true then 1 else 0)
            first | rw [if_pos h41, h4] | rw [if_neg (by rw [h41]; decide), h4, Nat.add_zero]
    refine zx_astore_n dX_left_16 (Nat.le_of_ble_eq_true rfl) rfl rfl ?_
    refine zx_iconst (v := nI 0) dX_left_17 (by decide) ?_
    refine zx_istore_n dX_left_18 (Nat.le_of_ble_eq_true rfl) rfl rfl ?_
    refine zx_iconst (v := nI 0) dX_left_19 (by decide) ?_
    refine zx_istore dX_left_20 (Nat.le_of_ble_eq_true rfl) rfl rfl ?_
    exact loop _ 0 0 (Nat.lt_succ_self _) (Nat.zero_le _) rfl
  · refine zx_iconst (v := -1) dX_left_8 (by decide) ?_
    exact zx_iret hE rfl dX_left_9 rfl (Nat.le_of_ble_eq_true rfl) ⟨by rw [if_neg (by rw [h5]; decide)], rfl, rfl⟩

theorem oI_s (m : Nat) : oI (some m) = nI m := rfl

def nxH (hf : HF) (j : Nat) (o : Option Nat) : HF := match o with
  | some m => va_up hf j ((hf j).1, m, (hf j).2.2)
  | none => hf

set_option maxHeartbeats 4000000 in
set_option maxRecDepth 100000 in
theorem kX_next (G : zG) (d : Nat) (hd : 7 ≤ d) {n : Nat} {sh : zSh} {row : zRw} {x : Nat} {D : List Nat} {pf : PF} {sf : SF} {hf : HF} {c : CT} {qr : Nat} (hX : XA sh row x D pf sf hf c qr) {j : Nat} (hj : j < 2147483648) (hsb : c.2.2.1 ≤ 6) (hpb : c.2.1 ≤ 24) (hqs : opB hf j = true → qOk (hf j).2.2.2.1 (hf j).2.2.2.2 ∧ (hf j).2.1 ≤ 24) : zM G (fX_next d) [.ref x, .int (nI j)] n sh row (zpR sh (fun v row' => v = .int (if opB hf j = true then oI (nxt (hitB pf sf c (hf j).2.2.2.1 (hf j).2.2.2.2) (hf j).2.1) else -1) ∧ frI x (x + 795) row row' ∧ XA sh row' x D pf sf (if opB hf j = true then nxH hf j (nxt (hitB pf sf c (hf j).2.2.2.1 (hf j).2.2.2.2) (hf j).2.1) else hf) c qr)) := by
  refine zM.of (by show plainName "PostIndex" = true; decide +kernel) (Nat.le_of_ble_eq_true rfl) (by intro v hv; simp at hv; rcases hv with rfl | rfl <;> rfl) ?_
  intro K hE
  show zX G K (fX_next d) n 0 0 sh row 0 [.ref x, .int (nI j), .retAddr 0, .retAddr 0] []
  have hD : d - 1 + 1 ≤ d := by omega
  obtain ⟨hO, hD0, htk, hPs, hSg, hSe, hRd, hDj⟩ := id hX
  obtain ⟨ho, h_0, h_1, h_2, h_3, h_4, h_5, h_6, h_7, h_8, h_9, h_10, h_11⟩ := id hO
  refine zx_aload_n dX_next_0 rfl ?_
  refine zx_iload_n dX_next_1 rfl ?_
  refine zc_V (n0 := n) (ce := 0) (kX_isOpen G (d - 1) (by omega) hX hj) (meX_isOpen _) lkX_122 ho rfl rfl hD (Nat.le_of_ble_eq_true rfl) rfl rfl (Nat.le_of_ble_eq_true rfl) (Nat.le_of_ble_eq_true rfl) (Nat.le_of_ble_eq_true rfl) dX_next_2 ?_
  refine zb_if_ne (tgt := 10) dX_next_5 rfl (fun h5 => ?_) (fun h5 => ?_)
  · refine zx_aload_n dX_next_10 rfl ?_
    refine zx_get dX_next_11 flX_42 (by assumption) (by assumption) ?_
    refine zx_iload_n dX_next_14 rfl ?_
    have hj3 : j < 3 := by unfold opB at h5; simp at h5; omega
    obtain ⟨q1, q2, q3, q4, q5, q6, q7⟩ := hSe.2 j hj3
    obtain ⟨hq1, hq2⟩ := hqs h5
    refine zn_aald dX_next_15 hSe.1 rfl (by omega) (by decide) q1 ?_
    have loop : ∀ (k m : Nat), m < k → m ≤ 24 → nxt (hitB pf sf c (hf j).2.2.2.1 (hf j).2.2.2.2) m = nxt (hitB pf sf c (hf j).2.2.2.1 (hf j).2.2.2.2) (hf j).2.1 → zX G K (fX_next d) n 0 0 sh row 24 [.ref x, .int (nI j), .ref (x + 706 + 30 * j), .int (dI m)] [] := by
      intro k
      induction k with
      | zero => intro m hk; exact absurd hk (Nat.not_lt_zero _)
      | succ k ih =>
        intro m hk h3 h4
        cases m with
        | zero =>
          refine zx_iload_n dX_next_24 rfl ?_
          refine zx_if_lt (tgt := 53) dX_next_25 rfl (fun _ => ?_) (fun h => absurd (by decide) h)
          refine zx_iconst (v := -1) dX_next_53 (by decide) ?_
          exact zx_iret hE rfl dX_next_54 rfl (Nat.le_of_ble_eq_true rfl) (by refine ⟨_, rfl, rfl, ?_, frI.rf, ?_⟩ <;> (rw [if_pos h5, ← h4]; first | rfl | exact hX))
        | succ m =>
          rw [dI_s]
          refine zx_iload_n dX_next_24 rfl ?_
          refine zn_if_lt (tgt := 53) dX_next_25 rfl (by omega) ?_
          refine zx_aload_n dX_next_28 rfl ?_
          refine zx_aload_n dX_next_29 rfl ?_
          refine zx_getN dX_next_30 flX_108 q2 q3 ?_
          refine zx_iload_n dX_next_33 rfl ?_
          refine zc_V (n0 := n) (ce := 0) (kX_isHit G (d - 1) (by omega) hX q7 hq1 (by omega) hsb hpb) (meX_isHit _) lkX_125 ho rfl rfl hD (Nat.le_of_ble_eq_true rfl) rfl rfl (Nat.le_of_ble_eq_true rfl) (Nat.le_of_ble_eq_true rfl) (Nat.le_of_ble_eq_true rfl) dX_next_34 ?_
          refine zb_if_eq (tgt := 47) dX_next_37 rfl (fun h37 => ?_) (fun h37 => ?_)
          · refine zx_iinc (v := dI m) dX_next_47 (Nat.le_of_ble_eq_true rfl) rfl rfl rfl rfl ?_
            refine zx_goto (tgt := 24) dX_next_50 rfl ?_
            exact ih m (by omega) (by omega) (by rw [← h4, nxt_f h37])
          · refine zx_aload_n dX_next_40 rfl ?_
            refine zx_iload_n dX_next_41 rfl ?_
            refine zx_putN dX_next_42 flX_116 tpH_1 q2 rfl rfl ?_
            refine zx_iload_n dX_next_45 rfl ?_
            exact zx_iret hE rfl dX_next_46 rfl (Nat.le_of_ble_eq_true rfl) (by rw [nxt_t h37] at h4; refine ⟨_, rfl, rfl, ?_, frI_up (by omega) (by omega), ?_⟩; (rw [if_pos h5, ← h4]; rfl); (rw [if_pos h5, ← h4]; exact hX.seaU hj3 (frI_up (by omega) (by omega)) (by rw [zup_k (Or.inr (by decide))]; exact q3) (zup_same _ _ _) (by rw [zup_k (Or.inr (by decide))]; exact q5)))
    refine zx_astore_n dX_next_16 (Nat.le_of_ble_eq_true rfl) rfl rfl ?_
    refine zx_aload_n dX_next_17 rfl ?_
    refine zx_getN dX_next_18 flX_116 q2 q4 ?_
    refine zx_iconst (v := nI 1) dX_next_21 (by decide) ?_
    refine zx_isub dX_next_22 ?_
    rw [dI_sub]
    refine zx_istore_n dX_next_23 (Nat.le_of_ble_eq_true rfl) rfl rfl ?_
    exact loop _ (hf j).2.1 (Nat.lt_succ_self _) hq2 rfl
  · refine zx_iconst (v := -1) dX_next_8 (by decide) ?_
    exact zx_iret hE rfl dX_next_9 rfl (Nat.le_of_ble_eq_true rfl) (by refine ⟨_, rfl, rfl, ?_, frI.rf, ?_⟩ <;> rw [if_neg (by rw [h5]; decide)]; exact hX)

theorem isQ.dj {x p q : Nat} (hp : isQ x p) (hq : isQ x q) (h : p ≠ q) : p + 28 < q ∨ q + 28 < p := by
  rcases hp with e | e | e | e <;> rcases hq with f | f | f | f <;> omega
theorem XA.rd {sh : zSh} {row row' : zRw} {x : Nat} {D : List Nat} {pf : PF} {sf : SF} {hf : HF} {c : CT} {qr : Nat} (h : XA sh row x D pf sf hf c qr) (hr : frQ (x + 5) qr row row') (hR : RdI sh row' (x + 5) qr) : XA sh row' x D pf sf hf c qr := by
  obtain ⟨hO, hD0, ⟨tk, htk⟩, hPs, hSg, hSe, hRd, hDj⟩ := h
  have hqr := hRd.2.rng
  have kT : ∀ {t : Nat} {xs : List Nat}, Txt sh row t xs → (x + 7 < t ∨ t + 1 < x + 5) → (t + 1 < qr ∨ qr + 28 < t) → Txt sh row' t xs := fun a b e => a.keep (hr _ (by omega) (by omega)) (hr _ (by omega) (by omega))
  have kI : ∀ (lo hi : Nat), x + 37 ≤ lo → hi ≤ x + 704 → frI lo hi row' row' := fun _ _ _ _ => frI.rf
  refine ⟨hO.keep (hr x (by omega) (by omega)), kT hD0 (by omega) (by omega), ⟨tk, kT htk (by omega) (by omega)⟩, ⟨hPs.1, fun i hi => ?_⟩, ⟨hSg.1, fun g hg => ?_⟩, ⟨hSe.1, fun j hj => ?_⟩, ⟨hR, hRd.2⟩, hDj⟩
  · obtain ⟨a, b1, b2, b3, b4, b5, b6⟩ := hPs.2 i hi
    have e1 : row' (x + 38 + 3 * i) = row (x + 38 + 3 * i) := hr _ (by omega) (by omega)
    exact ⟨by rw [hr (x + 37) (by omega) (by omega)]; exact a, b1, by rw [e1]; exact b2, by rw [e1]; exact b3, by rw [e1]; exact b4, by rw [e1]; exact b5, kT b6 (by omega) (by omega)⟩
  · obtain ⟨a, b1, b2, b3, b4, b5, b6⟩ := hSg.2 g hg
    have e0 : row' (x + 111 + 99 * g) = row (x + 111 + 99 * g) := hr _ (by omega) (by omega)
    have e1 : row' (x + 111 + 99 * g + 1) = row (x + 111 + 99 * g + 1) := hr _ (by omega) (by omega)
    have e2 : row' (x + 111 + 99 * g + 2) = row (x + 111 + 99 * g + 2) := hr _ (by omega) (by omega)
    refine ⟨by rw [hr (x + 110) (by omega) (by omega)]; exact a, b1, by rw [e0]; exact b2, b3, by rw [e2]; exact b4, fun i hi => ?_, by rw [e1]; exact b6⟩
    obtain ⟨xs, u, w⟩ := b5 i hi
    exact ⟨xs, kT u (by omega) (by omega), w⟩
  · obtain ⟨a, b, e, f, g, q, k⟩ := hSe.2 j hj
    have e1 : row' (x + 706 + 30 * j) = row (x + 706 + 30 * j) := hr _ (by omega) (by rcases hRd.2 with z | z | z | z <;> omega)
    have hd := q.dj hRd.2 (hDj.1 j hj)
    have hq := q.rng
    refine ⟨by rw [hr (x + 705) (by omega) (by rcases hRd.2 with z | z | z | z <;> omega)]; exact a, b, by rw [e1]; exact e, by rw [e1]; exact f, by rw [e1]; exact g, q, ?_⟩
    obtain ⟨k1, k2, k3, k4, k5, k6⟩ := k
    have z0 : row' (hf j).2.2.1 = row (hf j).2.2.1 := hr _ (by omega) (by omega)
    have z1 : row' ((hf j).2.2.1 + 1) = row ((hf j).2.2.1 + 1) := hr _ (by omega) (by omega)
    have z2 : row' ((hf j).2.2.1 + 2) = row ((hf j).2.2.1 + 2) := hr _ (by omega) (by omega)
    have z3 : row' ((hf j).2.2.1 + 3) = row ((hf j).2.2.1 + 3) := hr _ (by omega) (by omega)
    have z4 : row' ((hf j).2.2.1 + 4) = row ((hf j).2.2.1 + 4) := hr _ (by omega) (by omega)
    refine ⟨k1, by rw [z0]; exact k2, k3, by rw [z4]; exact k4, fun i hi => ?_, by rw [z1, z2, z3]; exact k6⟩
    obtain ⟨xs, u, w⟩ := k5 i hi
    exact ⟨xs, kT u (by omega) (by omega), w⟩
/-- the reader's query goes to a search, the search's to the reader -/
def swp (row : zRw) (x j qr q bd : Nat) : zRw := zup (zup (zup (zup row (x + 5) 1 (.ref q)) (x + 706 + 30 * j) 0 (.ref qr)) (x + 706 + 30 * j) 1 (.int (nI bd))) (x + 706 + 30 * j) 2 (.int (nI 1))
theorem XA.swap {sh : zSh} {row : zRw} {x j bd : Nat} {D : List Nat} {pf : PF} {sf : SF} {hf : HF} {c : CT} {qr : Nat} {ks : List qStep} {wds : List (List Nat)} (h : XA sh row x D pf sf hf c qr) (hQ : QryA sh row qr ks wds) (hj : j < 3) : XA sh (swp row x j qr (hf j).2.2.1 bd) x D pf sf (va_up hf j (true, bd, qr, ks, wds)) c (hf j).2.2.1 := by
  obtain ⟨hO, hD0, ⟨tk, htk⟩, hPs, hSg, hSe, hRd, hDj⟩ := h
  have ho : ∀ b, b ≠ x + 5 → b ≠ x + 706 + 30 * j → swp row x j qr (hf j).2.2.1 bd b = row b := fun b h1 h2 => by unfold swp; rw [zup_ne h2, zup_ne h2, zup_ne h2, zup_ne h1]
  generalize hR : swp row x j qr (hf j).2.2.1 bd = row' at ho ⊢
  have hs5 : row' (x + 5) = fun k => if k = 1 then .ref (hf j).2.2.1 else row (x + 5) k := by
    rw [← hR]; unfold swp; rw [zup_ne (by omega), zup_ne (by omega), zup_ne (by omega), zup_row]
  have kT : ∀ {t : Nat} {xs : List Nat}, Txt sh row t xs → (t + 1 < x + 5 ∨ x + 5 < t) → (t + 1 < x + 706 + 30 * j ∨ x + 706 + 30 * j < t) → Txt sh row' t xs := fun a b e => a.keep (ho _ (by omega) (by omega)) (ho _ (by omega) (by omega))
  have kQ : ∀ {q : Nat} {k2 : List qStep} {w2 : List (List Nat)}, isQ x q → QryA sh row q k2 w2 → QryA sh row' q k2 w2 := by
    intro q k2 w2 hq hk
    have hb : q + 28 < x + 706 + 30 * j ∨ x + 706 + 30 * j < q := by rcases hq with e | e | e | e <;> omega
    have hb2 : x + 5 < q := by rcases hq with e | e | e | e <;> omega
    have f1 : frI (x + 5) (x + 5) row (fun b => if b = x + 5 then row' b else row b) := fun b hb => if_neg (by omega)
    have f2 : frI (x + 706 + 30 * j) (x + 706 + 30 * j) (fun b => if b = x + 5 then row' b else row b) row' := fun b hb => by
      by_cases h5 : b = x + 5
      · exact (if_pos h5).symm
      · exact (ho b h5 (by omega)).trans (if_neg h5).symm
    exact (hk.keep f1 (by omega)).keep f2 (by omega)
  obtain ⟨a0, b0, e0, g0, i0, q0, k0⟩ := hSe.2 j hj
  obtain ⟨⟨ra, rys, rks, rwd, r1, r2, r3⟩, r4, r5, r6, r7⟩ := hRd.1
  have hcell : row' (x + 706 + 30 * j) 0 = .ref qr ∧ row' (x + 706 + 30 * j) 1 = .int (nI bd) ∧ row' (x + 706 + 30 * j) 2 = .int (bI true) := by
    rw [← hR]; unfold swp
    exact ⟨by rw [zup_k (Or.inr (by decide)), zup_k (Or.inr (by decide)), zup_same], by rw [zup_k (Or.inr (by decide)), zup_same], zup_same _ _ _⟩
  refine ⟨hO.keep (ho x (by omega) (by omega)), kT hD0 (by omega) (by omega), ⟨tk, kT htk (by omega) (by omega)⟩, ⟨hPs.1, fun i hi => ?_⟩, ⟨hSg.1, fun g hg => ?_⟩, ⟨hSe.1, fun i hi => ?_⟩, ⟨⟨⟨ra, rys, _, _, ?_, kT r2 (by omega) (by omega), kQ q0 k0⟩, r4, ?_, ?_, ?_⟩, q0⟩, ?_⟩
  · obtain ⟨a, b1, b2, b3, b4, b5, b6⟩ := hPs.2 i hi
    have e1 : row' (x + 38 + 3 * i) = row (x + 38 + 3 * i) := ho _ (by omega) (by omega)
    exact ⟨by rw [ho (x + 37) (by omega) (by omega)]; exact a, b1, by rw [e1]; exact b2, by rw [e1]; exact b3, by rw [e1]; exact b4, by rw [e1]; exact b5, kT b6 (by omega) (by omega)⟩
  · obtain ⟨a, b1, b2, b3, b4, b5, b6⟩ := hSg.2 g hg
    have e0 : row' (x + 111 + 99 * g) = row (x + 111 + 99 * g) := ho _ (by omega) (by omega)
    have e1 : row' (x + 111 + 99 * g + 1) = row (x + 111 + 99 * g + 1) := ho _ (by omega) (by omega)
    have e2 : row' (x + 111 + 99 * g + 2) = row (x + 111 + 99 * g + 2) := ho _ (by omega) (by omega)
    refine ⟨by rw [ho (x + 110) (by omega) (by omega)]; exact a, b1, by rw [e0]; exact b2, b3, by rw [e2]; exact b4, fun i hi => ?_, by rw [e1]; exact b6⟩
    obtain ⟨xs, u, w⟩ := b5 i hi
    exact ⟨xs, kT u (by omega) (by omega), w⟩
  · obtain ⟨a, b, e, f, g, q, k⟩ := hSe.2 i hi
    by_cases hij : i = j
    · subst hij
      rw [show va_up hf i (true, bd, qr, ks, wds) i = (true, bd, qr, ks, wds) by unfold va_up; rw [if_pos rfl]]
      exact ⟨by rw [ho (x + 705) (by omega) (by omega)]; exact a, b, hcell.1, hcell.2.1, hcell.2.2, hRd.2, kQ hRd.2 hQ⟩
    · rw [show va_up hf j (true, bd, qr, ks, wds) i = hf i by unfold va_up; rw [if_neg hij]]
      have e1 : row' (x + 706 + 30 * i) = row (x + 706 + 30 * i) := ho _ (by omega) (by omega)
      exact ⟨by rw [ho (x + 705) (by omega) (by omega)]; exact a, b, by rw [e1]; exact e, by rw [e1]; exact f, by rw [e1]; exact g, q, kQ q k⟩
  · rw [hs5]; exact r1
  · rw [hs5]; exact r5
  · rw [hs5]; rfl
  · rcases q0 with z | z | z | z <;> omega
  · have hv : ∀ i, (va_up hf j (true, bd, qr, ks, wds) i).2.2.1 = if i = j then qr else (hf i).2.2.1 := by
      intro i; unfold va_up; split <;> rfl
    refine ⟨fun i hi => ?_, fun a b ha hb hab => ?_⟩
    · rw [hv]
      split
      · exact (hDj.1 j hj).symm
      · next hij => exact hDj.2 i j hi hj hij
    · rw [hv, hv]
      split
      · next e => rw [if_neg (fun e2 => hab (e.trans e2.symm))]; exact (hDj.1 b hb).symm
      · split
        · exact hDj.1 a ha
        · exact hDj.2 a b ha hb hab

set_option maxHeartbeats 4000000 in
set_option maxRecDepth 100000 in
theorem kX_search (G : zG) (d : Nat) (hd : 35 ≤ d) {n : Nat} {sh : zSh} {row : zRw} {x : Nat} {D : List Nat} {pf : PF} {sf : SF} {hf : HF} {c : CT} {qr : Nat} (hX : XA sh row x D pf sf hf c qr) (hsn : c.2.2.2.1 ≤ 24) : zM G (fX_search d) [.ref x] n sh row (zpR sh (fun v row' => ((pRead D).1 = false ∧ v = .int (-1) ∧ frI x (x + 795) row row' ∧ XA sh row' x D pf sf hf c qr) ∨ ((pRead D).1 = true ∧ (fst1 (fun j => !(hf j).1) 3 0 = none ∨ 24 ≤ c.2.2.2.1) ∧ v = .int (-2) ∧ frI x (x + 795) row row' ∧ XA sh row' x D pf sf hf c qr) ∨ ((pRead D).1 = true ∧ c.2.2.2.1 < 24 ∧ ∃ g, fst1 (fun j => !(hf j).1) 3 0 = some g ∧ v = .int (nI g) ∧ frI x (x + 795) row row' ∧ XA sh row' x [] pf sf (va_up hf g (true, c.2.1, qr, (pRead D).2.2.1, (pRead D).2.2.2)) (c.1, c.2.1, c.2.2.1, c.2.2.2.1 + 1, c.2.2.2.2) (hf g).2.2.1))) := by
  refine zM.of (by show plainName "PostIndex" = true; decide +kernel) (Nat.le_of_ble_eq_true rfl) (by intro v hv; simp at hv; rcases hv with rfl <;> rfl) ?_
  intro K hE
  show zX G K (fX_search d) n 0 0 sh row 0 [.ref x, .retAddr 0, .retAddr 0] []
  have hD : d - 1 + 1 ≤ d := by omega
  obtain ⟨hO, hD0, htk, hPs, hSg, hSe, hRd, hDj⟩ := id hX
  obtain ⟨ho, h_0, h_1, h_2, h_3, h_4, h_5, h_6, h_7, h_8, h_9, h_10, h_11⟩ := id hO
  refine zx_aload_n dX_search_0 rfl ?_
  refine zx_get dX_search_1 flX_22 (by assumption) (by assumption) ?_
  refine zx_aload_n dX_search_4 rfl ?_
  refine zx_get dX_search_5 flX_12 (by assumption) (by assumption) ?_
  refine zc_Vr (n0 := n) (ce := 0) (kR_read G (d - 1) (by omega) hRd.1 hD0 (by omega) (by have := hRd.2.rng; omega)) (meR_read _) lkX_98 hRd.1.2.1 rfl rfl hD (Nat.le_of_ble_eq_true rfl) rfl rfl (Nat.le_of_ble_eq_true rfl) (Nat.le_of_ble_eq_true rfl) (Nat.le_of_ble_eq_true rfl) dX_search_8 (fun v r1 h6 => ?_)
  obtain ⟨rfl, hfq, hRI, hQ1⟩ := h6
  have hX1 := hX.rd hfq hRI
  have hqr := hRd.2.rng
  have hf1 : frI x (x + 795) row r1 := fun b hb => hfq b (by omega) (by omega)
  obtain ⟨gO, gD0, gtk, gPs, gSg, gSe, gRd, gDj⟩ := id hX1
  obtain ⟨go, g_0, g_1, g_2, g_3, g_4, g_5, g_6, g_7, g_8, g_9, g_10, g_11⟩ := id gO
  refine zb_if_ne (tgt := 16) dX_search_11 rfl (fun h11 => ?_) (fun h11 => ?_)
  · refine zx_aload_n dX_search_16 rfl ?_
    refine zc_V (n0 := n) (ce := 0) (kX_freePlace G (d - 1) (by omega) hX1) (meX_freePlace _) lkX_102 ho rfl rfl hD (Nat.le_of_ble_eq_true rfl) rfl rfl (Nat.le_of_ble_eq_true rfl) (Nat.le_of_ble_eq_true rfl) (Nat.le_of_ble_eq_true rfl) dX_search_17 ?_
    cases hg : fst1 (fun j => !(hf j).1) 3 0 with
    | none =>
      show zX G K _ n 0 0 sh r1 _ _ [.int (-1)]
      refine zx_istore_n dX_search_20 (Nat.le_of_ble_eq_true rfl) rfl rfl ?_
      refine zx_iload_n dX_search_21 rfl ?_
      refine zx_if_lt (tgt := 34) dX_search_22 rfl (fun _ => ?_) (fun h => absurd (by decide) h)
      refine zx_bipush (v := -2) dX_search_34 (by decide) ?_
      exact zx_iret hE rfl dX_search_36 rfl (Nat.le_of_ble_eq_true rfl) (by exact ⟨_, rfl, rfl, Or.inr (Or.inl ⟨h11, by first | exact Or.inl hg | exact Or.inr (by omega), rfl, hf1, hX1⟩)⟩)
    | some g =>
      obtain ⟨-, hg3, hg4⟩ := fst1_some hg
      have hg3 : g < 3 := by omega
      obtain ⟨q1, q2, q3, q4, q5, q6, q7⟩ := gSe.2 g hg3
      show zX G K _ n 0 0 sh r1 _ _ [.int (nI g)]
      refine zx_istore_n dX_search_20 (Nat.le_of_ble_eq_true rfl) rfl rfl ?_
      refine zx_iload_n dX_search_21 rfl ?_
      refine zn_if_lt (tgt := 34) dX_search_22 rfl (by omega) ?_
      refine zx_aload_n dX_search_25 rfl ?_
      refine zx_get dX_search_26 flX_105 ho g_8 ?_
      refine zx_bipush (v := nI 24) dX_search_29 (by decide) ?_
      refine zn_icmp_lt (tgt := 37) dX_search_31 rfl (by omega) (by omega) (fun h31 => ?_) (fun h31 => ?_)
      · refine zx_aload_n dX_search_37 rfl ?_
        refine zx_get dX_search_38 flX_42 ho g_3 ?_
        refine zx_iload_n dX_search_41 rfl ?_
        refine zn_aald dX_search_42 gSe.1 rfl (by omega) (by decide) q1 ?_
        refine zx_astore_n dX_search_43 (Nat.le_of_ble_eq_true rfl) rfl rfl ?_
        refine zx_aload_n dX_search_44 rfl ?_
        refine zx_aload_n dX_search_45 rfl ?_
        refine zx_get dX_search_46 flX_22 ho g_4 ?_
        refine zx_aload_n dX_search_49 rfl ?_
        refine zx_getN dX_search_50 flX_108 q2 q3 ?_
        refine zc_Vr (n0 := n) (ce := 0) (kR_exchange G (d - 1) (by omega) (u := (hf g).2.2.1) gRd.1.2.1 gRd.1.2.2.2.1) (meR_exchange _) lkX_112 gRd.1.2.1 rfl rfl hD (Nat.le_of_ble_eq_true rfl) rfl rfl (Nat.le_of_ble_eq_true rfl) (Nat.le_of_ble_eq_true rfl) (Nat.le_of_ble_eq_true rfl) dX_search_53 (fun v r2 h9 => ?_)
        obtain ⟨rfl, hr2⟩ := h9
        refine zx_putN dX_search_56 flX_108 tpH_0 q2 rfl rfl ?_
        refine zx_aload_n dX_search_59 rfl ?_
        refine zx_aload_n dX_search_60 rfl ?_
        refine zx_get dX_search_61 flX_72 ho (v := .int (nI c.2.1)) (by rw [zup_ne (by omega), hr2, zup_ne (by omega)]; exact g_6) ?_
        refine zx_putN dX_search_64 flX_116 tpH_1 q2 rfl rfl ?_
        refine zx_aload_n dX_search_67 rfl ?_
        refine zx_iconst (v := nI 1) dX_search_68 (by decide) ?_
        refine zx_putN dX_search_69 flX_119 tpH_2 q2 rfl rfl ?_
        have hX2 := hX1.swap (bd := c.2.1) hQ1 hg3
        unfold swp at hX2
        rw [hr2]
        generalize hr3 : zup (zup (zup (zup r1 (x + 5) 1 (.ref (hf g).2.2.1)) (x + 706 + 30 * g) 0 (.ref qr)) (x + 706 + 30 * g) 1 (.int (nI c.2.1))) (x + 706 + 30 * g) 2 (.int (nI 1)) = r3 at hX2 ⊢
        have hf3 : frI x (x + 795) r1 r3 := by
          rw [← hr3]
          exact (((frI_up (by omega) (by omega)).tr (frI_up (by omega) (by omega))).tr (frI_up (by omega) (by omega))).tr (frI_up (by omega) (by omega))
        have k_8 := hX2.1.2.2.2.2.2.2.2.2.2.1
        refine zx_aload_n dX_search_72 rfl ?_
        refine zx_dup dX_search_73 rfl ?_
        refine zx_get dX_search_74 flX_105 (by assumption) (by assumption) ?_
        refine zx_iconst (v := nI 1) dX_search_77 (by decide) ?_
        refine zn_iadd dX_search_78 ?_
        refine zx_put dX_search_79 flX_105 tpX_8 ho rfl rfl ?_
        have hX3 := hX2.up8 (m := c.2.2.2.1 + 1)
        generalize hr4 : zup r3 x 8 (.int (nI (c.2.2.2.1 + 1))) = r4 at hX3 ⊢
        have hf4 : frI x (x + 795) r3 r4 := by rw [← hr4]; exact frI_up (by omega) (by omega)
        have k_0 := hX3.1.2.1
        refine zx_aload_n dX_search_82 rfl ?_
        refine zx_get dX_search_83 flX_12 (by assumption) (by assumption) ?_
        refine zc_Vv (n0 := n) (ce := 0) (kT_makeEmpty G (d - 1) (by omega) hX3.2.1.1) (meT_makeEmpty _) lkX_62 hX3.2.1.1 rfl rfl hD (Nat.le_of_ble_eq_true rfl) rfl rfl (Nat.le_of_ble_eq_true rfl) (Nat.le_of_ble_eq_true rfl) (Nat.le_of_ble_eq_true rfl) dX_search_86 (fun r5 hr5 => ?_)
        have hf5 : frI x (x + 795) r4 r5 := by rw [hr5]; exact frI_up (by omega) (by omega)
        have hX4 := hX3.draft (row' := r5) (by rw [hr5]; exact fr2_up) (by rw [hr5]; exact hX3.2.1.empty)
        refine zx_iload_n dX_search_89 rfl ?_
        exact zx_iret hE rfl dX_search_90 rfl (Nat.le_of_ble_eq_true rfl) (by exact ⟨_, rfl, rfl, Or.inr (Or.inr ⟨h11, by omega, g, hg, rfl, ((hf1.tr hf3).tr hf4).tr hf5, hX4⟩)⟩)
      · refine zx_bipush (v := -2) dX_search_34 (by decide) ?_
        exact zx_iret hE rfl dX_search_36 rfl (Nat.le_of_ble_eq_true rfl) (by exact ⟨_, rfl, rfl, Or.inr (Or.inl ⟨h11, by first | exact Or.inl hg | exact Or.inr (by omega), rfl, hf1, hX1⟩)⟩)
  · refine zx_iconst (v := -1) dX_search_14 (by decide) ?_
    exact zx_iret hE rfl dX_search_15 rfl (Nat.le_of_ble_eq_true rfl) (by exact ⟨_, rfl, rfl, Or.inl ⟨h11, rfl, hf1, hX1⟩⟩)
end
