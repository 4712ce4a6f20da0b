section
-- ===== PART A: goes FIRST, ahead of the names: the tables' words, and 'selects' of the private methods out of them =====
/-- a private method of a class that the tables say can be made, by its rows of tables_1 -/
def lw_okq (q : MethodName × Nat) : Prop := (q.1.cls ≠ "java/lang/invoke/MethodHandle" ∧ q.1.cls ≠ "java/lang/invoke/VarHandle") ∧ Cond.instantiable q.1.cls q.2 ∈ tables_1 ∧ Cond.privateMethod q.1 ∈ tables_1 ∧ Cond.instanceMethod q.1 ∈ tables_1
theorem lw_p0 : lw_okq (⟨"PostIndex", "stands", "(I)Z"⟩, 12) := ⟨⟨by decide +kernel, by decide +kernel⟩, List.mem_of_getElem? (i := 13) (by decide +kernel), List.mem_of_getElem? (i := 208) (by decide +kernel), List.mem_of_getElem? (i := 209) (by decide +kernel)⟩
theorem lw_p1 : lw_okq (⟨"PostIndex", "isLive", "(I)Z"⟩, 12) := ⟨⟨by decide +kernel, by decide +kernel⟩, List.mem_of_getElem? (i := 13) (by decide +kernel), List.mem_of_getElem? (i := 212) (by decide +kernel), List.mem_of_getElem? (i := 213) (by decide +kernel)⟩
theorem lw_p2 : lw_okq (⟨"PostIndex", "writeUnit", "(I)V"⟩, 12) := ⟨⟨by decide +kernel, by decide +kernel⟩, List.mem_of_getElem? (i := 13) (by decide +kernel), List.mem_of_getElem? (i := 255) (by decide +kernel), List.mem_of_getElem? (i := 256) (by decide +kernel)⟩
theorem lw_p3 : lw_okq (⟨"PostIndex$Segment", "findTerm", "(LPostIndex$Text;)I"⟩, 5) := ⟨⟨by decide +kernel, by decide +kernel⟩, List.mem_of_getElem? (i := 112) (by decide +kernel), List.mem_of_getElem? (i := 291) (by decide +kernel), List.mem_of_getElem? (i := 292) (by decide +kernel)⟩
theorem lw_p4 : lw_okq (⟨"PostIndex", "segmentToPack", "()I"⟩, 12) := ⟨⟨by decide +kernel, by decide +kernel⟩, List.mem_of_getElem? (i := 13) (by decide +kernel), List.mem_of_getElem? (i := 312) (by decide +kernel), List.mem_of_getElem? (i := 313) (by decide +kernel)⟩
theorem lw_p5 : lw_okq (⟨"PostIndex", "isFull", "(I)Z"⟩, 12) := ⟨⟨by decide +kernel, by decide +kernel⟩, List.mem_of_getElem? (i := 13) (by decide +kernel), List.mem_of_getElem? (i := 316) (by decide +kernel), List.mem_of_getElem? (i := 317) (by decide +kernel)⟩
theorem lw_p6 : lw_okq (⟨"PostIndex$QueryReader", "readAny", "(I)Z"⟩, 3) := ⟨⟨by decide +kernel, by decide +kernel⟩, List.mem_of_getElem? (i := 38) (by decide +kernel), List.mem_of_getElem? (i := 338) (by decide +kernel), List.mem_of_getElem? (i := 339) (by decide +kernel)⟩
theorem lw_p7 : lw_okq (⟨"PostIndex$QueryReader", "readAll", "(I)Z"⟩, 3) := ⟨⟨by decide +kernel, by decide +kernel⟩, List.mem_of_getElem? (i := 38) (by decide +kernel), List.mem_of_getElem? (i := 342) (by decide +kernel), List.mem_of_getElem? (i := 343) (by decide +kernel)⟩
theorem lw_p8 : lw_okq (⟨"PostIndex$QueryReader", "readPart", "(I)Z"⟩, 3) := ⟨⟨by decide +kernel, by decide +kernel⟩, List.mem_of_getElem? (i := 38) (by decide +kernel), List.mem_of_getElem? (i := 346) (by decide +kernel), List.mem_of_getElem? (i := 347) (by decide +kernel)⟩
theorem lw_p9 : lw_okq (⟨"PostIndex$QueryReader", "take", "(C)Z"⟩, 3) := ⟨⟨by decide +kernel, by decide +kernel⟩, List.mem_of_getElem? (i := 38) (by decide +kernel), List.mem_of_getElem? (i := 350) (by decide +kernel), List.mem_of_getElem? (i := 351) (by decide +kernel)⟩
theorem lw_p10 : lw_okq (⟨"PostIndex$QueryReader", "peekPiece", "()C"⟩, 3) := ⟨⟨by decide +kernel, by decide +kernel⟩, List.mem_of_getElem? (i := 38) (by decide +kernel), List.mem_of_getElem? (i := 354) (by decide +kernel), List.mem_of_getElem? (i := 355) (by decide +kernel)⟩
theorem lw_p11 : lw_okq (⟨"PostIndex$QueryReader", "skipSpaces", "()V"⟩, 3) := ⟨⟨by decide +kernel, by decide +kernel⟩, List.mem_of_getElem? (i := 38) (by decide +kernel), List.mem_of_getElem? (i := 358) (by decide +kernel), List.mem_of_getElem? (i := 359) (by decide +kernel)⟩
theorem lw_p12 : lw_okq (⟨"PostIndex$QueryReader", "readOne", "(I)Z"⟩, 3) := ⟨⟨by decide +kernel, by decide +kernel⟩, List.mem_of_getElem? (i := 38) (by decide +kernel), List.mem_of_getElem? (i := 363) (by decide +kernel), List.mem_of_getElem? (i := 364) (by decide +kernel)⟩
theorem lw_p13 : lw_okq (⟨"PostIndex$QueryReader", "readRow", "()Z"⟩, 3) := ⟨⟨by decide +kernel, by decide +kernel⟩, List.mem_of_getElem? (i := 38) (by decide +kernel), List.mem_of_getElem? (i := 367) (by decide +kernel), List.mem_of_getElem? (i := 368) (by decide +kernel)⟩
theorem lw_p14 : lw_okq (⟨"PostIndex$QueryReader", "readWord", "()Z"⟩, 3) := ⟨⟨by decide +kernel, by decide +kernel⟩, List.mem_of_getElem? (i := 38) (by decide +kernel), List.mem_of_getElem? (i := 371) (by decide +kernel), List.mem_of_getElem? (i := 372) (by decide +kernel)⟩
theorem lw_p15 : lw_okq (⟨"PostIndex$QueryReader", "readFilter", "(I)Z"⟩, 3) := ⟨⟨by decide +kernel, by decide +kernel⟩, List.mem_of_getElem? (i := 38) (by decide +kernel), List.mem_of_getElem? (i := 389) (by decide +kernel), List.mem_of_getElem? (i := 390) (by decide +kernel)⟩
def lw_privs_1 : List (MethodName × Nat) := [(⟨"PostIndex", "stands", "(I)Z"⟩, 12), (⟨"PostIndex", "isLive", "(I)Z"⟩, 12), (⟨"PostIndex", "writeUnit", "(I)V"⟩, 12), (⟨"PostIndex$Segment", "findTerm", "(LPostIndex$Text;)I"⟩, 5), (⟨"PostIndex", "segmentToPack", "()I"⟩, 12), (⟨"PostIndex", "isFull", "(I)Z"⟩, 12), (⟨"PostIndex$QueryReader", "readAny", "(I)Z"⟩, 3), (⟨"PostIndex$QueryReader", "readAll", "(I)Z"⟩, 3), (⟨"PostIndex$QueryReader", "readPart", "(I)Z"⟩, 3), (⟨"PostIndex$QueryReader", "take", "(C)Z"⟩, 3), (⟨"PostIndex$QueryReader", "peekPiece", "()C"⟩, 3), (⟨"PostIndex$QueryReader", "skipSpaces", "()V"⟩, 3), (⟨"PostIndex$QueryReader", "readOne", "(I)Z"⟩, 3), (⟨"PostIndex$QueryReader", "readRow", "()Z"⟩, 3), (⟨"PostIndex$QueryReader", "readWord", "()Z"⟩, 3), (⟨"PostIndex$QueryReader", "readFilter", "(I)Z"⟩, 3)]
theorem lw_r1 : ∀ q ∈ lw_privs_1, lw_okq q := List.forall_mem_cons.mpr ⟨lw_p0, List.forall_mem_cons.mpr ⟨lw_p1, List.forall_mem_cons.mpr ⟨lw_p2, List.forall_mem_cons.mpr ⟨lw_p3, List.forall_mem_cons.mpr ⟨lw_p4, List.forall_mem_cons.mpr ⟨lw_p5, List.forall_mem_cons.mpr ⟨lw_p6, List.forall_mem_cons.mpr ⟨lw_p7, List.forall_mem_cons.mpr ⟨lw_p8, List.forall_mem_cons.mpr ⟨lw_p9, List.forall_mem_cons.mpr ⟨lw_p10, List.forall_mem_cons.mpr ⟨lw_p11, List.forall_mem_cons.mpr ⟨lw_p12, List.forall_mem_cons.mpr ⟨lw_p13, List.forall_mem_cons.mpr ⟨lw_p14, List.forall_mem_cons.mpr ⟨lw_p15, fun _ h => absurd h List.not_mem_nil⟩⟩⟩⟩⟩⟩⟩⟩⟩⟩⟩⟩⟩⟩⟩⟩
theorem lw_p16 : lw_okq (⟨"PostIndex$QueryReader", "partFollows", "()Z"⟩, 3) := ⟨⟨by decide +kernel, by decide +kernel⟩, List.mem_of_getElem? (i := 38) (by decide +kernel), List.mem_of_getElem? (i := 395) (by decide +kernel), List.mem_of_getElem? (i := 396) (by decide +kernel)⟩
theorem lw_p17 : lw_okq (⟨"PostIndex", "freePlace", "()I"⟩, 12) := ⟨⟨by decide +kernel, by decide +kernel⟩, List.mem_of_getElem? (i := 13) (by decide +kernel), List.mem_of_getElem? (i := 399) (by decide +kernel), List.mem_of_getElem? (i := 400) (by decide +kernel)⟩
theorem lw_p18 : lw_okq (⟨"PostIndex", "isOpen", "(I)Z"⟩, 12) := ⟨⟨by decide +kernel, by decide +kernel⟩, List.mem_of_getElem? (i := 13) (by decide +kernel), List.mem_of_getElem? (i := 411) (by decide +kernel), List.mem_of_getElem? (i := 412) (by decide +kernel)⟩
theorem lw_p19 : lw_okq (⟨"PostIndex", "isHit", "(LPostIndex$Query;I)Z"⟩, 12) := ⟨⟨by decide +kernel, by decide +kernel⟩, List.mem_of_getElem? (i := 13) (by decide +kernel), List.mem_of_getElem? (i := 415) (by decide +kernel), List.mem_of_getElem? (i := 416) (by decide +kernel)⟩
theorem lw_p20 : lw_okq (⟨"PostIndex$Query", "isTrue", "(ILPostIndex$Post;LPostIndex$Segment;I)Z"⟩, 6) := ⟨⟨by decide +kernel, by decide +kernel⟩, List.mem_of_getElem? (i := 46) (by decide +kernel), List.mem_of_getElem? (i := 423) (by decide +kernel), List.mem_of_getElem? (i := 424) (by decide +kernel)⟩
theorem lw_p21 : lw_okq (⟨"PostIndex$Query", "standInRow", "(IILPostIndex$Segment;I)Z"⟩, 6) := ⟨⟨by decide +kernel, by decide +kernel⟩, List.mem_of_getElem? (i := 46) (by decide +kernel), List.mem_of_getElem? (i := 427) (by decide +kernel), List.mem_of_getElem? (i := 428) (by decide +kernel)⟩
theorem lw_p22 : lw_okq (⟨"PostIndexModel", "shown", "(I)Z"⟩, 31) := ⟨⟨by decide +kernel, by decide +kernel⟩, List.mem_of_getElem? (i := 479) (by decide +kernel), List.mem_of_getElem? (i := 588) (by decide +kernel), List.mem_of_getElem? (i := 589) (by decide +kernel)⟩
theorem lw_p23 : lw_okq (⟨"PostIndexModel", "live", "(I)Z"⟩, 31) := ⟨⟨by decide +kernel, by decide +kernel⟩, List.mem_of_getElem? (i := 479) (by decide +kernel), List.mem_of_getElem? (i := 592) (by decide +kernel), List.mem_of_getElem? (i := 593) (by decide +kernel)⟩
theorem lw_p24 : lw_okq (⟨"PostIndexModel", "begun", "(I)Z"⟩, 31) := ⟨⟨by decide +kernel, by decide +kernel⟩, List.mem_of_getElem? (i := 479) (by decide +kernel), List.mem_of_getElem? (i := 596) (by decide +kernel), List.mem_of_getElem? (i := 597) (by decide +kernel)⟩
theorem lw_p25 : lw_okq (⟨"PostIndexModel", "cut", "(I)V"⟩, 31) := ⟨⟨by decide +kernel, by decide +kernel⟩, List.mem_of_getElem? (i := 479) (by decide +kernel), List.mem_of_getElem? (i := 612) (by decide +kernel), List.mem_of_getElem? (i := 613) (by decide +kernel)⟩
theorem lw_p26 : lw_okq (⟨"PostIndexModel", "full", "(I)Z"⟩, 31) := ⟨⟨by decide +kernel, by decide +kernel⟩, List.mem_of_getElem? (i := 479) (by decide +kernel), List.mem_of_getElem? (i := 638) (by decide +kernel), List.mem_of_getElem? (i := 639) (by decide +kernel)⟩
theorem lw_p27 : lw_okq (⟨"PostIndexModel", "sum", "(II)I"⟩, 31) := ⟨⟨by decide +kernel, by decide +kernel⟩, List.mem_of_getElem? (i := 479) (by decide +kernel), List.mem_of_getElem? (i := 642) (by decide +kernel), List.mem_of_getElem? (i := 643) (by decide +kernel)⟩
theorem lw_p28 : lw_okq (⟨"PostIndexModel", "indexed", "(I)I"⟩, 31) := ⟨⟨by decide +kernel, by decide +kernel⟩, List.mem_of_getElem? (i := 479) (by decide +kernel), List.mem_of_getElem? (i := 646) (by decide +kernel), List.mem_of_getElem? (i := 647) (by decide +kernel)⟩
theorem lw_p29 : lw_okq (⟨"PostIndexModel", "isFirst", "(II)Z"⟩, 31) := ⟨⟨by decide +kernel, by decide +kernel⟩, List.mem_of_getElem? (i := 479) (by decide +kernel), List.mem_of_getElem? (i := 650) (by decide +kernel), List.mem_of_getElem? (i := 651) (by decide +kernel)⟩
theorem lw_p30 : lw_okq (⟨"PostIndexModel", "same", "(II)Z"⟩, 31) := ⟨⟨by decide +kernel, by decide +kernel⟩, List.mem_of_getElem? (i := 479) (by decide +kernel), List.mem_of_getElem? (i := 654) (by decide +kernel), List.mem_of_getElem? (i := 655) (by decide +kernel)⟩
theorem lw_p31 : lw_okq (⟨"PostIndexModel", "measure", "(III)I"⟩, 31) := ⟨⟨by decide +kernel, by decide +kernel⟩, List.mem_of_getElem? (i := 479) (by decide +kernel), List.mem_of_getElem? (i := 661) (by decide +kernel), List.mem_of_getElem? (i := 662) (by decide +kernel)⟩
def lw_privs_2 : List (MethodName × Nat) := [(⟨"PostIndex$QueryReader", "partFollows", "()Z"⟩, 3), (⟨"PostIndex", "freePlace", "()I"⟩, 12), (⟨"PostIndex", "isOpen", "(I)Z"⟩, 12), (⟨"PostIndex", "isHit", "(LPostIndex$Query;I)Z"⟩, 12), (⟨"PostIndex$Query", "isTrue", "(ILPostIndex$Post;LPostIndex$Segment;I)Z"⟩, 6), (⟨"PostIndex$Query", "standInRow", "(IILPostIndex$Segment;I)Z"⟩, 6), (⟨"PostIndexModel", "shown", "(I)Z"⟩, 31), (⟨"PostIndexModel", "live", "(I)Z"⟩, 31), (⟨"PostIndexModel", "begun", "(I)Z"⟩, 31), (⟨"PostIndexModel", "cut", "(I)V"⟩, 31), (⟨"PostIndexModel", "full", "(I)Z"⟩, 31), (⟨"PostIndexModel", "sum", "(II)I"⟩, 31), (⟨"PostIndexModel", "indexed", "(I)I"⟩, 31), (⟨"PostIndexModel", "isFirst", "(II)Z"⟩, 31), (⟨"PostIndexModel", "same", "(II)Z"⟩, 31), (⟨"PostIndexModel", "measure", "(III)I"⟩, 31)]
theorem lw_r2 : ∀ q ∈ lw_privs_2, lw_okq q := List.forall_mem_cons.mpr ⟨lw_p16, List.forall_mem_cons.mpr ⟨lw_p17, List.forall_mem_cons.mpr ⟨lw_p18, List.forall_mem_cons.mpr ⟨lw_p19, List.forall_mem_cons.mpr ⟨lw_p20, List.forall_mem_cons.mpr ⟨lw_p21, List.forall_mem_cons.mpr ⟨lw_p22, List.forall_mem_cons.mpr ⟨lw_p23, List.forall_mem_cons.mpr ⟨lw_p24, List.forall_mem_cons.mpr ⟨lw_p25, List.forall_mem_cons.mpr ⟨lw_p26, List.forall_mem_cons.mpr ⟨lw_p27, List.forall_mem_cons.mpr ⟨lw_p28, List.forall_mem_cons.mpr ⟨lw_p29, List.forall_mem_cons.mpr ⟨lw_p30, List.forall_mem_cons.mpr ⟨lw_p31, fun _ h => absurd h List.not_mem_nil⟩⟩⟩⟩⟩⟩⟩⟩⟩⟩⟩⟩⟩⟩⟩⟩
theorem lw_p32 : lw_okq (⟨"PostIndexModel", "posted", "(III)Z"⟩, 31) := ⟨⟨by decide +kernel, by decide +kernel⟩, List.mem_of_getElem? (i := 479) (by decide +kernel), List.mem_of_getElem? (i := 665) (by decide +kernel), List.mem_of_getElem? (i := 666) (by decide +kernel)⟩
theorem lw_p33 : lw_okq (⟨"PostIndexModel", "copy", "(I)V"⟩, 31) := ⟨⟨by decide +kernel, by decide +kernel⟩, List.mem_of_getElem? (i := 479) (by decide +kernel), List.mem_of_getElem? (i := 673) (by decide +kernel), List.mem_of_getElem? (i := 674) (by decide +kernel)⟩
theorem lw_p34 : lw_okq (⟨"PostIndexModel", "judge", "(II)I"⟩, 31) := ⟨⟨by decide +kernel, by decide +kernel⟩, List.mem_of_getElem? (i := 479) (by decide +kernel), List.mem_of_getElem? (i := 677) (by decide +kernel), List.mem_of_getElem? (i := 678) (by decide +kernel)⟩
theorem lw_p35 : lw_okq (⟨"PostIndexModel", "open", "(I)V"⟩, 31) := ⟨⟨by decide +kernel, by decide +kernel⟩, List.mem_of_getElem? (i := 479) (by decide +kernel), List.mem_of_getElem? (i := 681) (by decide +kernel), List.mem_of_getElem? (i := 682) (by decide +kernel)⟩
theorem lw_p36 : lw_okq (⟨"PostIndexModel", "read", "(I)V"⟩, 31) := ⟨⟨by decide +kernel, by decide +kernel⟩, List.mem_of_getElem? (i := 479) (by decide +kernel), List.mem_of_getElem? (i := 685) (by decide +kernel), List.mem_of_getElem? (i := 686) (by decide +kernel)⟩
theorem lw_p37 : lw_okq (⟨"PostIndexModel", "at", "(II)I"⟩, 31) := ⟨⟨by decide +kernel, by decide +kernel⟩, List.mem_of_getElem? (i := 479) (by decide +kernel), List.mem_of_getElem? (i := 689) (by decide +kernel), List.mem_of_getElem? (i := 690) (by decide +kernel)⟩
theorem lw_p38 : lw_okq (⟨"PostIndexModel", "step", "(II)Z"⟩, 31) := ⟨⟨by decide +kernel, by decide +kernel⟩, List.mem_of_getElem? (i := 479) (by decide +kernel), List.mem_of_getElem? (i := 693) (by decide +kernel), List.mem_of_getElem? (i := 694) (by decide +kernel)⟩
theorem lw_p39 : lw_okq (⟨"PostIndexModel", "keepWord", "()V"⟩, 31) := ⟨⟨by decide +kernel, by decide +kernel⟩, List.mem_of_getElem? (i := 479) (by decide +kernel), List.mem_of_getElem? (i := 697) (by decide +kernel), List.mem_of_getElem? (i := 698) (by decide +kernel)⟩
theorem lw_p40 : lw_okq (⟨"PostIndexModel", "row", "(II)Z"⟩, 31) := ⟨⟨by decide +kernel, by decide +kernel⟩, List.mem_of_getElem? (i := 479) (by decide +kernel), List.mem_of_getElem? (i := 701) (by decide +kernel), List.mem_of_getElem? (i := 702) (by decide +kernel)⟩
theorem lw_p41 : lw_okq (⟨"PostIndexModel", "stands", "(IIIII)Z"⟩, 31) := ⟨⟨by decide +kernel, by decide +kernel⟩, List.mem_of_getElem? (i := 479) (by decide +kernel), List.mem_of_getElem? (i := 705) (by decide +kernel), List.mem_of_getElem? (i := 706) (by decide +kernel)⟩
theorem lw_p42 : lw_okq (⟨"PostIndexModel", "part", "(Z)V"⟩, 31) := ⟨⟨by decide +kernel, by decide +kernel⟩, List.mem_of_getElem? (i := 479) (by decide +kernel), List.mem_of_getElem? (i := 709) (by decide +kernel), List.mem_of_getElem? (i := 710) (by decide +kernel)⟩
theorem lw_p43 : lw_okq (⟨"PostIndexModel", "filter", "(II)Z"⟩, 31) := ⟨⟨by decide +kernel, by decide +kernel⟩, List.mem_of_getElem? (i := 479) (by decide +kernel), List.mem_of_getElem? (i := 713) (by decide +kernel), List.mem_of_getElem? (i := 714) (by decide +kernel)⟩
theorem lw_p44 : lw_okq (⟨"PostIndexModel", "searching", "(I)Z"⟩, 31) := ⟨⟨by decide +kernel, by decide +kernel⟩, List.mem_of_getElem? (i := 479) (by decide +kernel), List.mem_of_getElem? (i := 721) (by decide +kernel), List.mem_of_getElem? (i := 722) (by decide +kernel)⟩
theorem lw_p45 : lw_okq (⟨"PostIndexModel", "lives", "(I)Z"⟩, 31) := ⟨⟨by decide +kernel, by decide +kernel⟩, List.mem_of_getElem? (i := 479) (by decide +kernel), List.mem_of_getElem? (i := 741) (by decide +kernel), List.mem_of_getElem? (i := 742) (by decide +kernel)⟩
def lw_privs_3 : List (MethodName × Nat) := [(⟨"PostIndexModel", "posted", "(III)Z"⟩, 31), (⟨"PostIndexModel", "copy", "(I)V"⟩, 31), (⟨"PostIndexModel", "judge", "(II)I"⟩, 31), (⟨"PostIndexModel", "open", "(I)V"⟩, 31), (⟨"PostIndexModel", "read", "(I)V"⟩, 31), (⟨"PostIndexModel", "at", "(II)I"⟩, 31), (⟨"PostIndexModel", "step", "(II)Z"⟩, 31), (⟨"PostIndexModel", "keepWord", "()V"⟩, 31), (⟨"PostIndexModel", "row", "(II)Z"⟩, 31), (⟨"PostIndexModel", "stands", "(IIIII)Z"⟩, 31), (⟨"PostIndexModel", "part", "(Z)V"⟩, 31), (⟨"PostIndexModel", "filter", "(II)Z"⟩, 31), (⟨"PostIndexModel", "searching", "(I)Z"⟩, 31), (⟨"PostIndexModel", "lives", "(I)Z"⟩, 31)]
theorem lw_r3 : ∀ q ∈ lw_privs_3, lw_okq q := List.forall_mem_cons.mpr ⟨lw_p32, List.forall_mem_cons.mpr ⟨lw_p33, List.forall_mem_cons.mpr ⟨lw_p34, List.forall_mem_cons.mpr ⟨lw_p35, List.forall_mem_cons.mpr ⟨lw_p36, List.forall_mem_cons.mpr ⟨lw_p37, List.forall_mem_cons.mpr ⟨lw_p38, List.forall_mem_cons.mpr ⟨lw_p39, List.forall_mem_cons.mpr ⟨lw_p40, List.forall_mem_cons.mpr ⟨lw_p41, List.forall_mem_cons.mpr ⟨lw_p42, List.forall_mem_cons.mpr ⟨lw_p43, List.forall_mem_cons.mpr ⟨lw_p44, List.forall_mem_cons.mpr ⟨lw_p45, fun _ h => absurd h List.not_mem_nil⟩⟩⟩⟩⟩⟩⟩⟩⟩⟩⟩⟩⟩⟩
def lw_privs : List (MethodName × Nat) := lw_privs_1 ++ (lw_privs_2 ++ (lw_privs_3))
def lw_tbl : List Cond := k2_sels lw_privs ++ tables_1
theorem lw_privs_ok : ∀ q ∈ lw_privs, lw_okq q := by
  show ∀ q ∈ lw_privs_1 ++ (lw_privs_2 ++ (lw_privs_3)), lw_okq q
  exact List.forall_mem_append.mpr ⟨lw_r1, List.forall_mem_append.mpr ⟨lw_r2, lw_r3⟩⟩
end
section
def RP : String := "PostIndex$Post"
def TP : u_T := fun k => match k with
  | 0 => ("PostIndex$Post", "text", "LPostIndex$Text;", true)
  | 1 => ("PostIndex$Post", "author", "I", false)
  | 2 => ("PostIndex$Post", "time", "I", false)
  | _ => ("PostIndex$Post", "erased", "Z", false)
def tyP : Nat → FieldType := fun k => match k with
  | 0 => .object "PostIndex$Text"
  | 1 => .int
  | 2 => .int
  | _ => .boolean
theorem nmP : ∀ a, a < 4 → ∀ b, b < 4 → a ≠ b → (TP a).2.1 ≠ (TP b).2.1 := by decide +kernel
theorem tyP_ok : ∀ k, k < 4 → parseFieldDescriptor (TP k).2.2.1 = some (tyP k) := by decide +kernel
def RQ : String := "PostIndex$Query"
def TQ : u_T := fun k => match k with
  | 0 => ("PostIndex$Query", "kinds", "[I", true)
  | 1 => ("PostIndex$Query", "numbers", "[I", true)
  | 2 => ("PostIndex$Query", "wordEnds", "[I", true)
  | 3 => ("PostIndex$Query", "stepCount", "I", false)
  | 4 => ("PostIndex$Query", "words", "[LPostIndex$Text;", true)
  | _ => ("PostIndex$Query", "wordCount", "I", false)
def tyQ : Nat → FieldType := fun k => match k with
  | 0 => .array .int
  | 1 => .array .int
  | 2 => .array .int
  | 3 => .int
  | 4 => .array (.object "PostIndex$Text")
  | _ => .int
theorem nmQ : ∀ a, a < 6 → ∀ b, b < 6 → a ≠ b → (TQ a).2.1 ≠ (TQ b).2.1 := by decide +kernel
theorem tyQ_ok : ∀ k, k < 6 → parseFieldDescriptor (TQ k).2.2.1 = some (tyQ k) := by decide +kernel
def RR : String := "PostIndex$QueryReader"
def TR : u_T := fun k => match k with
  | 0 => ("PostIndex$QueryReader", "source", "LPostIndex$Text;", true)
  | 1 => ("PostIndex$QueryReader", "query", "LPostIndex$Query;", false)
  | _ => ("PostIndex$QueryReader", "at", "I", false)
def tyR : Nat → FieldType := fun k => match k with
  | 0 => .object "PostIndex$Text"
  | 1 => .object "PostIndex$Query"
  | _ => .int
theorem nmR : ∀ a, a < 3 → ∀ b, b < 3 → a ≠ b → (TR a).2.1 ≠ (TR b).2.1 := by decide +kernel
theorem tyR_ok : ∀ k, k < 3 → parseFieldDescriptor (TR k).2.2.1 = some (tyR k) := by decide +kernel
def RH : String := "PostIndex$Search"
def TH : u_T := fun k => match k with
  | 0 => ("PostIndex$Search", "query", "LPostIndex$Query;", false)
  | 1 => ("PostIndex$Search", "bound", "I", false)
  | _ => ("PostIndex$Search", "open", "Z", false)
def tyH : Nat → FieldType := fun k => match k with
  | 0 => .object "PostIndex$Query"
  | 1 => .int
  | _ => .boolean
theorem nmH : ∀ a, a < 3 → ∀ b, b < 3 → a ≠ b → (TH a).2.1 ≠ (TH b).2.1 := by decide +kernel
theorem tyH_ok : ∀ k, k < 3 → parseFieldDescriptor (TH k).2.2.1 = some (tyH k) := by decide +kernel
def RS : String := "PostIndex$Segment"
def TS : u_T := fun k => match k with
  | 0 => ("PostIndex$Segment", "termTexts", "[LPostIndex$Text;", true)
  | 1 => ("PostIndex$Segment", "termPostings", "[I", true)
  | 2 => ("PostIndex$Segment", "termCount", "I", false)
  | 3 => ("PostIndex$Segment", "rewritten", "I", false)
  | _ => ("PostIndex$Segment", "packed", "Z", false)
def tyS : Nat → FieldType := fun k => match k with
  | 0 => .array (.object "PostIndex$Text")
  | 1 => .array .int
  | 2 => .int
  | 3 => .int
  | _ => .boolean
theorem nmS : ∀ a, a < 5 → ∀ b, b < 5 → a ≠ b → (TS a).2.1 ≠ (TS b).2.1 := by decide +kernel
theorem tyS_ok : ∀ k, k < 5 → parseFieldDescriptor (TS k).2.2.1 = some (tyS k) := by decide +kernel
def RT : String := "PostIndex$Text"
def TT : u_T := fun k => match k with
  | 0 => ("PostIndex$Text", "chars", "[C", true)
  | _ => ("PostIndex$Text", "count", "I", false)
def tyT : Nat → FieldType := fun k => match k with
  | 0 => .array .char
  | _ => .int
theorem nmT : ∀ a, a < 2 → ∀ b, b < 2 → a ≠ b → (TT a).2.1 ≠ (TT b).2.1 := by decide +kernel
theorem tyT_ok : ∀ k, k < 2 → parseFieldDescriptor (TT k).2.2.1 = some (tyT k) := by decide +kernel
def RX : String := "PostIndex"
def TX : u_T := fun k => match k with
  | 0 => ("PostIndex", "draft", "LPostIndex$Text;", true)
  | 1 => ("PostIndex", "posts", "[LPostIndex$Post;", true)
  | 2 => ("PostIndex", "segments", "[LPostIndex$Segment;", true)
  | 3 => ("PostIndex", "searches", "[LPostIndex$Search;", true)
  | 4 => ("PostIndex", "reader", "LPostIndex$QueryReader;", true)
  | 5 => ("PostIndex", "postsMade", "I", false)
  | 6 => ("PostIndex", "postsPublished", "I", false)
  | 7 => ("PostIndex", "segmentsBegun", "I", false)
  | 8 => ("PostIndex", "searchesBegun", "I", false)
  | 9 => ("PostIndex", "token", "LPostIndex$Text;", true)
  | 10 => ("PostIndex", "writerAt", "I", false)
  | _ => ("PostIndex", "writerTokens", "I", false)
def tyX : Nat → FieldType := fun k => match k with
  | 0 => .object "PostIndex$Text"
  | 1 => .array (.object "PostIndex$Post")
  | 2 => .array (.object "PostIndex$Segment")
  | 3 => .array (.object "PostIndex$Search")
  | 4 => .object "PostIndex$QueryReader"
  | 5 => .int
  | 6 => .int
  | 7 => .int
  | 8 => .int
  | 9 => .object "PostIndex$Text"
  | 10 => .int
  | _ => .int
theorem nmX : ∀ a, a < 12 → ∀ b, b < 12 → a ≠ b → (TX a).2.1 ≠ (TX b).2.1 := by decide +kernel
theorem tyX_ok : ∀ k, k < 12 → parseFieldDescriptor (TX k).2.2.1 = some (tyX k) := by decide +kernel
def RM : String := "PostIndexModel"
def TM : u_T := fun k => match k with
  | 0 => ("PostIndexModel", "draftLength", "I", false)
  | 1 => ("PostIndexModel", "draft", "[I", true)
  | 2 => ("PostIndexModel", "made", "I", false)
  | 3 => ("PostIndexModel", "published", "I", false)
  | 4 => ("PostIndexModel", "done", "I", false)
  | 5 => ("PostIndexModel", "author", "[I", true)
  | 6 => ("PostIndexModel", "time", "[I", true)
  | 7 => ("PostIndexModel", "erased", "[Z", true)
  | 8 => ("PostIndexModel", "lengths", "[I", true)
  | 9 => ("PostIndexModel", "text", "[I", true)
  | 10 => ("PostIndexModel", "tokens", "[I", true)
  | 11 => ("PostIndexModel", "from", "[I", true)
  | 12 => ("PostIndexModel", "to", "[I", true)
  | 13 => ("PostIndexModel", "rewritten", "[I", true)
  | 14 => ("PostIndexModel", "packed", "[Z", true)
  | 15 => ("PostIndexModel", "searches", "I", false)
  | 16 => ("PostIndexModel", "taken", "[Z", true)
  | 17 => ("PostIndexModel", "bound", "[I", true)
  | 18 => ("PostIndexModel", "queryLength", "[I", true)
  | 19 => ("PostIndexModel", "query", "[I", true)
  | 20 => ("PostIndexModel", "piece", "I", false)
  | 21 => ("PostIndexModel", "pieceFrom", "I", false)
  | 22 => ("PostIndexModel", "pieceTo", "I", false)
  | 23 => ("PostIndexModel", "depth", "I", false)
  | 24 => ("PostIndexModel", "any", "[Z", true)
  | 25 => ("PostIndexModel", "all", "[Z", true)
  | 26 => ("PostIndexModel", "parts", "[I", true)
  | 27 => ("PostIndexModel", "minus", "[I", true)
  | 28 => ("PostIndexModel", "words", "I", false)
  | 29 => ("PostIndexModel", "wordFrom", "[I", true)
  | _ => ("PostIndexModel", "wordTo", "[I", true)
def tyM : Nat → FieldType := fun k => match k with
  | 0 => .int
  | 1 => .array .int
  | 2 => .int
  | 3 => .int
  | 4 => .int
  | 5 => .array .int
  | 6 => .array .int
  | 7 => .array .boolean
  | 8 => .array .int
  | 9 => .array .int
  | 10 => .array .int
  | 11 => .array .int
  | 12 => .array .int
  | 13 => .array .int
  | 14 => .array .boolean
  | 15 => .int
  | 16 => .array .boolean
  | 17 => .array .int
  | 18 => .array .int
  | 19 => .array .int
  | 20 => .int
  | 21 => .int
  | 22 => .int
  | 23 => .int
  | 24 => .array .boolean
  | 25 => .array .boolean
  | 26 => .array .int
  | 27 => .array .int
  | 28 => .int
  | 29 => .array .int
  | _ => .array .int
theorem nmM : ∀ a, a < 31 → ∀ b, b < 31 → a ≠ b → (TM a).2.1 ≠ (TM b).2.1 := by decide +kernel
theorem tyM_ok : ∀ k, k < 31 → parseFieldDescriptor (TM k).2.2.1 = some (tyM k) := by decide +kernel
abbrev vwCl : List vw_C := [(RP, TP, 4), (RQ, TQ, 6), (RR, TR, 3), (RH, TH, 3), (RS, TS, 5), (RT, TT, 2), (RX, TX, 12), (RM, TM, 31)]
def zTy : List FieldType := [.int, .char, .boolean, .object "PostIndex$Text", .object "PostIndex$Post", .object "PostIndex$Segment", .object "PostIndex$Search"]
def zAll : List Cond := lw_tbl.filter goodWord
theorem zA1 {i : Nat} {w : Cond} (h : tables_1_1[i]? = some w) (g : goodWord w = true) : w ∈ zAll := List.mem_filter.mpr ⟨List.mem_append_right _ (List.mem_append_left _ (List.mem_of_getElem? h)), g⟩
theorem zA2 {i : Nat} {w : Cond} (h : tables_1_2[i]? = some w) (g : goodWord w = true) : w ∈ zAll := List.mem_filter.mpr ⟨List.mem_append_right _ (List.mem_append_right _ (List.mem_append_left _ (List.mem_of_getElem? h))), g⟩
theorem zA3 {i : Nat} {w : Cond} (h : tables_1_3[i]? = some w) (g : goodWord w = true) : w ∈ zAll := List.mem_filter.mpr ⟨List.mem_append_right _ (List.mem_append_right _ (List.mem_append_right _ (List.mem_append_left _ (List.mem_of_getElem? h)))), g⟩
theorem zA4 {i : Nat} {w : Cond} (h : tables_1_4[i]? = some w) (g : goodWord w = true) : w ∈ zAll := List.mem_filter.mpr ⟨List.mem_append_right _ (List.mem_append_right _ (List.mem_append_right _ (List.mem_append_right _ (List.mem_of_getElem? h)))), g⟩
theorem zA0 {i : Nat} {q : MethodName × Nat} (h : lw_privs[i]? = some q) (g : goodWord (Cond.selects q.1.cls q.1 q.1) = true) : Cond.selects q.1.cls q.1 q.1 ∈ zAll := List.mem_filter.mpr ⟨List.mem_append_left _ (List.mem_map.mpr ⟨q, List.mem_of_getElem? h, rfl⟩), g⟩
theorem zA_good : ∀ w ∈ zAll, (w.onTables && w.keeps) = true ∨ ∃ ty, w = .arrayClass ty := fun w h => good_of_word (List.mem_filter.mp h).2
theorem zA_tbl : ∀ w ∈ zAll, w ∈ lw_tbl := fun w h => (List.mem_filter.mp h).1
theorem inP : ∀ w ∈ u_ws RP TP 4, w ∈ zAll := by
  intro w hw
  obtain ⟨k, hk, rfl⟩ := List.mem_map.mp hw
  have hk := List.mem_range.mp hk
  match k, hk with
  | 0, _ => exact (zA1 (i := 101) rfl rfl)
  | 1, _ => exact (zA1 (i := 103) rfl rfl)
  | 2, _ => exact (zA1 (i := 105) rfl rfl)
  | 3, _ => exact (zA1 (i := 107) rfl rfl)
  | k + 4, hk => exact absurd hk (by omega)
theorem inQ : ∀ w ∈ u_ws RQ TQ 6, w ∈ zAll := by
  intro w hw
  obtain ⟨k, hk, rfl⟩ := List.mem_map.mp hw
  have hk := List.mem_range.mp hk
  match k, hk with
  | 0, _ => exact (zA1 (i := 61) rfl rfl)
  | 1, _ => exact (zA1 (i := 63) rfl rfl)
  | 2, _ => exact (zA1 (i := 65) rfl rfl)
  | 3, _ => exact (zA1 (i := 67) rfl rfl)
  | 4, _ => exact (zA1 (i := 69) rfl rfl)
  | 5, _ => exact (zA1 (i := 71) rfl rfl)
  | k + 6, hk => exact absurd hk (by omega)
theorem inR : ∀ w ∈ u_ws RR TR 3, w ∈ zAll := by
  intro w hw
  obtain ⟨k, hk, rfl⟩ := List.mem_map.mp hw
  have hk := List.mem_range.mp hk
  match k, hk with
  | 0, _ => exact (zA1 (i := 78) rfl rfl)
  | 1, _ => exact (zA1 (i := 80) rfl rfl)
  | 2, _ => exact (zA1 (i := 82) rfl rfl)
  | k + 3, hk => exact absurd hk (by omega)
theorem inH : ∀ w ∈ u_ws RH TH 3, w ∈ zAll := by
  intro w hw
  obtain ⟨k, hk, rfl⟩ := List.mem_map.mp hw
  have hk := List.mem_range.mp hk
  match k, hk with
  | 0, _ => exact (zA1 (i := 151) rfl rfl)
  | 1, _ => exact (zA1 (i := 153) rfl rfl)
  | 2, _ => exact (zA1 (i := 155) rfl rfl)
  | k + 3, hk => exact absurd hk (by omega)
theorem inS : ∀ w ∈ u_ws RS TS 5, w ∈ zAll := by
  intro w hw
  obtain ⟨k, hk, rfl⟩ := List.mem_map.mp hw
  have hk := List.mem_range.mp hk
  match k, hk with
  | 0, _ => exact (zA1 (i := 127) rfl rfl)
  | 1, _ => exact (zA1 (i := 129) rfl rfl)
  | 2, _ => exact (zA1 (i := 131) rfl rfl)
  | 3, _ => exact (zA1 (i := 133) rfl rfl)
  | 4, _ => exact (zA1 (i := 135) rfl rfl)
  | k + 5, hk => exact absurd hk (by omega)
theorem inT : ∀ w ∈ u_ws RT TT 2, w ∈ zAll := by
  intro w hw
  obtain ⟨k, hk, rfl⟩ := List.mem_map.mp hw
  have hk := List.mem_range.mp hk
  match k, hk with
  | 0, _ => exact (zA1 (i := 31) rfl rfl)
  | 1, _ => exact (zA1 (i := 33) rfl rfl)
  | k + 2, hk => exact absurd hk (by omega)
theorem inX : ∀ w ∈ u_ws RX TX 12, w ∈ zAll := by
  intro w hw
  obtain ⟨k, hk, rfl⟩ := List.mem_map.mp hw
  have hk := List.mem_range.mp hk
  match k, hk with
  | 0, _ => exact (zA1 (i := 170) rfl rfl)
  | 1, _ => exact (zA1 (i := 172) rfl rfl)
  | 2, _ => exact (zA1 (i := 174) rfl rfl)
  | 3, _ => exact (zA1 (i := 176) rfl rfl)
  | 4, _ => exact (zA1 (i := 178) rfl rfl)
  | 5, _ => exact (zA1 (i := 180) rfl rfl)
  | 6, _ => exact (zA1 (i := 182) rfl rfl)
  | 7, _ => exact (zA1 (i := 184) rfl rfl)
  | 8, _ => exact (zA1 (i := 186) rfl rfl)
  | 9, _ => exact (zA1 (i := 188) rfl rfl)
  | 10, _ => exact (zA1 (i := 190) rfl rfl)
  | 11, _ => exact (zA1 (i := 192) rfl rfl)
  | k + 12, hk => exact absurd hk (by omega)
theorem inM : ∀ w ∈ u_ws RM TM 31, w ∈ zAll := by
  intro w hw
  obtain ⟨k, hk, rfl⟩ := List.mem_map.mp hw
  have hk := List.mem_range.mp hk
  match k, hk with
  | 0, _ => exact (zA3 (i := 35) rfl rfl)
  | 1, _ => exact (zA3 (i := 37) rfl rfl)
  | 2, _ => exact (zA3 (i := 39) rfl rfl)
  | 3, _ => exact (zA3 (i := 41) rfl rfl)
  | 4, _ => exact (zA3 (i := 43) rfl rfl)
  | 5, _ => exact (zA3 (i := 45) rfl rfl)
  | 6, _ => exact (zA3 (i := 47) rfl rfl)
  | 7, _ => exact (zA3 (i := 49) rfl rfl)
  | 8, _ => exact (zA3 (i := 51) rfl rfl)
  | 9, _ => exact (zA3 (i := 53) rfl rfl)
  | 10, _ => exact (zA3 (i := 55) rfl rfl)
  | 11, _ => exact (zA3 (i := 57) rfl rfl)
  | 12, _ => exact (zA3 (i := 59) rfl rfl)
  | 13, _ => exact (zA3 (i := 61) rfl rfl)
  | 14, _ => exact (zA3 (i := 63) rfl rfl)
  | 15, _ => exact (zA3 (i := 65) rfl rfl)
  | 16, _ => exact (zA3 (i := 67) rfl rfl)
  | 17, _ => exact (zA3 (i := 69) rfl rfl)
  | 18, _ => exact (zA3 (i := 71) rfl rfl)
  | 19, _ => exact (zA3 (i := 73) rfl rfl)
  | 20, _ => exact (zA3 (i := 75) rfl rfl)
  | 21, _ => exact (zA3 (i := 77) rfl rfl)
  | 22, _ => exact (zA3 (i := 79) rfl rfl)
  | 23, _ => exact (zA3 (i := 81) rfl rfl)
  | 24, _ => exact (zA3 (i := 83) rfl rfl)
  | 25, _ => exact (zA3 (i := 85) rfl rfl)
  | 26, _ => exact (zA3 (i := 87) rfl rfl)
  | 27, _ => exact (zA3 (i := 89) rfl rfl)
  | 28, _ => exact (zA3 (i := 91) rfl rfl)
  | 29, _ => exact (zA3 (i := 93) rfl rfl)
  | 30, _ => exact (zA3 (i := 95) rfl rfl)
  | k + 31, hk => exact absurd hk (by omega)
def zNf : List (String × Nat × String × String × String × String) := [("PostIndex$Segment", 30, "PostIndex$Text", "count", "I", "PostIndex"), ("PostIndex", 65, "PostIndex$Text", "count", "I", "PostIndex"), ("PostIndex$QueryReader", 92, "PostIndex$Text", "count", "I", "PostIndex"), ("PostIndex$QueryReader", 75, "PostIndex$Query", "wordCount", "I", "PostIndex"), ("PostIndex", 55, "PostIndex$Post", "text", "LPostIndex$Text;", "PostIndex"), ("PostIndex$Query", 47, "PostIndex$Post", "author", "I", "PostIndex"), ("PostIndex$Query", 52, "PostIndex$Post", "time", "I", "PostIndex"), ("PostIndex", 87, "PostIndex$Post", "erased", "Z", "PostIndex"), ("PostIndex", 147, "PostIndex$Segment", "termCount", "I", "PostIndex"), ("PostIndex", 141, "PostIndex$Segment", "rewritten", "I", "PostIndex"), ("PostIndex", 138, "PostIndex$Segment", "packed", "Z", "PostIndex"), ("PostIndex", 108, "PostIndex$Search", "query", "LPostIndex$Query;", "PostIndex"), ("PostIndex", 116, "PostIndex$Search", "bound", "I", "PostIndex"), ("PostIndex", 119, "PostIndex$Search", "open", "Z", "PostIndex")]
theorem zNf_in : ∀ q ∈ zNf, Cond.fieldLinkNest q.1 q.2.1 q.2.2.1 q.2.2.2.1 q.2.2.2.2.1 q.2.2.2.2.2 ∈ lw_tbl := by
  intro q hq
  refine List.mem_append_right _ ?_
  simp only [zNf, List.mem_cons, List.not_mem_nil, or_false] at hq
  rcases hq with rfl | rfl | rfl | rfl | rfl | rfl | rfl | rfl | rfl | rfl | rfl | rfl | rfl | rfl
  · exact List.mem_append_left _ (List.mem_of_getElem? (i := 28) rfl)
  · exact List.mem_append_left _ (List.mem_of_getElem? (i := 29) rfl)
  · exact List.mem_append_left _ (List.mem_of_getElem? (i := 30) rfl)
  · exact List.mem_append_left _ (List.mem_of_getElem? (i := 60) rfl)
  · exact List.mem_append_left _ (List.mem_of_getElem? (i := 95) rfl)
  · exact List.mem_append_left _ (List.mem_of_getElem? (i := 97) rfl)
  · exact List.mem_append_left _ (List.mem_of_getElem? (i := 99) rfl)
  · exact List.mem_append_left _ (List.mem_of_getElem? (i := 100) rfl)
  · exact List.mem_append_left _ (List.mem_of_getElem? (i := 122) rfl)
  · exact List.mem_append_left _ (List.mem_of_getElem? (i := 124) rfl)
  · exact List.mem_append_left _ (List.mem_of_getElem? (i := 126) rfl)
  · exact List.mem_append_left _ (List.mem_of_getElem? (i := 148) rfl)
  · exact List.mem_append_left _ (List.mem_of_getElem? (i := 149) rfl)
  · exact List.mem_append_left _ (List.mem_of_getElem? (i := 150) rfl)
end
