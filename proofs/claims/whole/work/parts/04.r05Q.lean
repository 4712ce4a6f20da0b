abbrev cQ_init : ByteArray := prog_3_method_1_code
def yQ_init : MethodName := ⟨"PostIndex$Query", "<init>", "()V"⟩
def fQ_init (d : Nat) : zF := (cQ_init, 2, yQ_init, none, d, 28, 468)
theorem meQ_init (d : Nat) : zMe (fQ_init d) 0 := ⟨(zA1 (i := 49) rfl rfl), (zA1 (i := 4) rfl rfl), by show "PostIndex$Query" ≠ _; decide +kernel, by show "PostIndex$Query" ≠ _; decide +kernel, by show (parseMethodDescriptor "()V").map _ = _; decide +kernel⟩
theorem dQ_init_0 : decode cQ_init 0 = .ok (.aload_n 0, 1) := by decide +kernel
theorem dQ_init_1 : decode cQ_init 1 = .ok (.invokespecial 3, 3) := by decide +kernel
theorem lkQ_3 : Cond.methodLink "PostIndex$Query" 3 Lib.objectInit ∈ zAll ∧ Cond.instanceMethod Lib.objectInit ∈ zAll ∧ Cond.code Lib.objectInit ⟨#[0xb1]⟩ 1 none ∈ zAll := ⟨(zA1 (i := 50) rfl rfl), (zA1 (i := 18) rfl rfl), (zA1 (i := 19) rfl rfl)⟩
theorem dQ_init_4 : decode cQ_init 4 = .ok (.aload_n 0, 1) := by decide +kernel
theorem dQ_init_5 : decode cQ_init 5 = .ok (.bipush 48, 2) := by decide +kernel
theorem dQ_init_7 : decode cQ_init 7 = .ok (.newarray .int, 2) := by decide +kernel
theorem dQ_init_9 : decode cQ_init 9 = .ok (.putfield 9, 3) := by decide +kernel
theorem flQ_9 : zFld "PostIndex$Query" 9 1 0 6 := ⟨RQ, TQ, rfl, by decide, inQ, (zA1 (i := 54) rfl rfl)⟩
theorem dQ_init_12 : decode cQ_init 12 = .ok (.aload_n 0, 1) := by decide +kernel
theorem dQ_init_13 : decode cQ_init 13 = .ok (.bipush 48, 2) := by decide +kernel
theorem dQ_init_15 : decode cQ_init 15 = .ok (.newarray .int, 2) := by decide +kernel
theorem dQ_init_17 : decode cQ_init 17 = .ok (.putfield 15, 3) := by decide +kernel
theorem flQ_15 : zFld "PostIndex$Query" 15 1 1 6 := ⟨RQ, TQ, rfl, by decide, inQ, (zA1 (i := 55) rfl rfl)⟩
theorem dQ_init_20 : decode cQ_init 20 = .ok (.aload_n 0, 1) := by decide +kernel
theorem dQ_init_21 : decode cQ_init 21 = .ok (.bipush 48, 2) := by decide +kernel
theorem dQ_init_23 : decode cQ_init 23 = .ok (.newarray .int, 2) := by decide +kernel
theorem dQ_init_25 : decode cQ_init 25 = .ok (.putfield 18, 3) := by decide +kernel
theorem flQ_18 : zFld "PostIndex$Query" 18 1 2 6 := ⟨RQ, TQ, rfl, by decide, inQ, (zA1 (i := 56) rfl rfl)⟩
theorem dQ_init_28 : decode cQ_init 28 = .ok (.aload_n 0, 1) := by decide +kernel
theorem dQ_init_29 : decode cQ_init 29 = .ok (.bipush 12, 2) := by decide +kernel
theorem dQ_init_31 : decode cQ_init 31 = .ok (.anewarray 21, 3) := by decide +kernel
theorem aqQ_21 : zArq "PostIndex$Query" 21 3 "PostIndex$Text" := ⟨rfl, (zA1 (i := 51) rfl rfl), by decide +kernel⟩
theorem dQ_init_34 : decode cQ_init 34 = .ok (.putfield 23, 3) := by decide +kernel
theorem flQ_23 : zFld "PostIndex$Query" 23 1 4 6 := ⟨RQ, TQ, rfl, by decide, inQ, (zA1 (i := 58) rfl rfl)⟩
theorem dQ_init_37 : decode cQ_init 37 = .ok (.iconst 0, 1) := by decide +kernel
theorem dQ_init_38 : decode cQ_init 38 = .ok (.istore_n 1, 1) := by decide +kernel
theorem dQ_init_39 : decode cQ_init 39 = .ok (.iload_n 1, 1) := by decide +kernel
theorem dQ_init_40 : decode cQ_init 40 = .ok (.bipush 12, 2) := by decide +kernel
theorem dQ_init_42 : decode cQ_init 42 = .ok (.if_icmp .ge 22, 3) := by decide +kernel
theorem dQ_init_45 : decode cQ_init 45 = .ok (.aload_n 0, 1) := by decide +kernel
theorem dQ_init_46 : decode cQ_init 46 = .ok (.getfield 23, 3) := by decide +kernel
theorem dQ_init_49 : decode cQ_init 49 = .ok (.iload_n 1, 1) := by decide +kernel
theorem dQ_init_50 : decode cQ_init 50 = .ok (.new 21, 3) := by decide +kernel
theorem nwQ_21 : zNew "PostIndex$Query" 21 5 2 (fun k => defaultValue (tyT k)) := ⟨RT, TT, tyT, rfl, inT, tyT_ok, (zA1 (i := 51) rfl rfl), (zA1 (i := 21) rfl rfl), (zA1 (i := 2) rfl rfl), fun _ _ => rfl⟩
theorem dQ_init_53 : decode cQ_init 53 = .ok (.dup, 1) := by decide +kernel
theorem dQ_init_54 : decode cQ_init 54 = .ok (.invokespecial 27, 3) := by decide +kernel
theorem dQ_init_57 : decode cQ_init 57 = .ok (.aastore, 1) := by decide +kernel
theorem dQ_init_58 : decode cQ_init 58 = .ok (.iinc 1 1, 3) := by decide +kernel
theorem dQ_init_61 : decode cQ_init 61 = .ok (.goto (-22), 3) := by decide +kernel
theorem dQ_init_64 : decode cQ_init 64 = .ok (.return_, 1) := by decide +kernel
abbrev cQ_makeEmpty : ByteArray := prog_3_method_2_code
def yQ_makeEmpty : MethodName := ⟨"PostIndex$Query", "makeEmpty", "()V"⟩
def fQ_makeEmpty (d : Nat) : zF := (cQ_makeEmpty, 1, yQ_makeEmpty, none, d, 0, 0)
theorem meQ_makeEmpty (d : Nat) : zMe (fQ_makeEmpty d) 0 := ⟨(zA2 (i := 96) rfl rfl), (zA1 (i := 4) rfl rfl), by show "PostIndex$Query" ≠ _; decide +kernel, by show "PostIndex$Query" ≠ _; decide +kernel, by show (parseMethodDescriptor "()V").map _ = _; decide +kernel⟩
theorem dQ_makeEmpty_0 : decode cQ_makeEmpty 0 = .ok (.aload_n 0, 1) := by decide +kernel
theorem dQ_makeEmpty_1 : decode cQ_makeEmpty 1 = .ok (.iconst 0, 1) := by decide +kernel
theorem dQ_makeEmpty_2 : decode cQ_makeEmpty 2 = .ok (.putfield 28, 3) := by decide +kernel
theorem flQ_28 : zFld "PostIndex$Query" 28 1 3 6 := ⟨RQ, TQ, rfl, by decide, inQ, (zA1 (i := 57) rfl rfl)⟩
theorem dQ_makeEmpty_5 : decode cQ_makeEmpty 5 = .ok (.aload_n 0, 1) := by decide +kernel
theorem dQ_makeEmpty_6 : decode cQ_makeEmpty 6 = .ok (.iconst 0, 1) := by decide +kernel
theorem dQ_makeEmpty_7 : decode cQ_makeEmpty 7 = .ok (.putfield 32, 3) := by decide +kernel
theorem flQ_32 : zFld "PostIndex$Query" 32 1 5 6 := ⟨RQ, TQ, rfl, by decide, inQ, (zA1 (i := 59) rfl rfl)⟩
theorem dQ_makeEmpty_10 : decode cQ_makeEmpty 10 = .ok (.return_, 1) := by decide +kernel
abbrev cQ_addWord : ByteArray := prog_3_method_3_code
def yQ_addWord : MethodName := ⟨"PostIndex$Query", "addWord", "(LPostIndex$Text;II)Z"⟩
def fQ_addWord (d : Nat) : zF := (cQ_addWord, 4, yQ_addWord, (some .boolean), d, 0, 0)
theorem meQ_addWord (d : Nat) : zMe (fQ_addWord d) 3 := ⟨(zA2 (i := 138) rfl rfl), (zA1 (i := 4) rfl rfl), by show "PostIndex$Query" ≠ _; decide +kernel, by show "PostIndex$Query" ≠ _; decide +kernel, by show (parseMethodDescriptor "(LPostIndex$Text;II)Z").map _ = _; decide +kernel⟩
theorem dQ_addWord_0 : decode cQ_addWord 0 = .ok (.aload_n 0, 1) := by decide +kernel
theorem dQ_addWord_1 : decode cQ_addWord 1 = .ok (.getfield 32, 3) := by decide +kernel
theorem dQ_addWord_4 : decode cQ_addWord 4 = .ok (.bipush 12, 2) := by decide +kernel
theorem dQ_addWord_6 : decode cQ_addWord 6 = .ok (.if_icmp .lt 5, 3) := by decide +kernel
theorem dQ_addWord_9 : decode cQ_addWord 9 = .ok (.iconst 0, 1) := by decide +kernel
theorem dQ_addWord_10 : decode cQ_addWord 10 = .ok (.ireturn, 1) := by decide +kernel
theorem dQ_addWord_11 : decode cQ_addWord 11 = .ok (.aload_n 0, 1) := by decide +kernel
theorem dQ_addWord_12 : decode cQ_addWord 12 = .ok (.getfield 23, 3) := by decide +kernel
theorem dQ_addWord_15 : decode cQ_addWord 15 = .ok (.aload_n 0, 1) := by decide +kernel
theorem dQ_addWord_16 : decode cQ_addWord 16 = .ok (.getfield 32, 3) := by decide +kernel
theorem dQ_addWord_19 : decode cQ_addWord 19 = .ok (.aaload, 1) := by decide +kernel
theorem dQ_addWord_20 : decode cQ_addWord 20 = .ok (.aload_n 1, 1) := by decide +kernel
theorem dQ_addWord_21 : decode cQ_addWord 21 = .ok (.iload_n 2, 1) := by decide +kernel
theorem dQ_addWord_22 : decode cQ_addWord 22 = .ok (.iload_n 3, 1) := by decide +kernel
theorem dQ_addWord_23 : decode cQ_addWord 23 = .ok (.invokevirtual 35, 3) := by decide +kernel
theorem dQ_addWord_26 : decode cQ_addWord 26 = .ok (.aload_n 0, 1) := by decide +kernel
theorem dQ_addWord_27 : decode cQ_addWord 27 = .ok (.dup, 1) := by decide +kernel
theorem dQ_addWord_28 : decode cQ_addWord 28 = .ok (.getfield 32, 3) := by decide +kernel
theorem dQ_addWord_31 : decode cQ_addWord 31 = .ok (.iconst 1, 1) := by decide +kernel
theorem dQ_addWord_32 : decode cQ_addWord 32 = .ok (.iadd, 1) := by decide +kernel
theorem dQ_addWord_33 : decode cQ_addWord 33 = .ok (.putfield 32, 3) := by decide +kernel
theorem dQ_addWord_36 : decode cQ_addWord 36 = .ok (.iconst 1, 1) := by decide +kernel
theorem dQ_addWord_37 : decode cQ_addWord 37 = .ok (.ireturn, 1) := by decide +kernel
abbrev cQ_addWordsStep : ByteArray := prog_3_method_4_code
def yQ_addWordsStep : MethodName := ⟨"PostIndex$Query", "addWordsStep", "(I)Z"⟩
def fQ_addWordsStep (d : Nat) : zF := (cQ_addWordsStep, 2, yQ_addWordsStep, (some .boolean), d, 0, 0)
theorem meQ_addWordsStep (d : Nat) : zMe (fQ_addWordsStep d) 1 := ⟨(zA2 (i := 143) rfl rfl), (zA1 (i := 4) rfl rfl), by show "PostIndex$Query" ≠ _; decide +kernel, by show "PostIndex$Query" ≠ _; decide +kernel, by show (parseMethodDescriptor "(I)Z").map _ = _; decide +kernel⟩
theorem dQ_addWordsStep_0 : decode cQ_addWordsStep 0 = .ok (.aload_n 0, 1) := by decide +kernel
theorem dQ_addWordsStep_1 : decode cQ_addWordsStep 1 = .ok (.iconst 0, 1) := by decide +kernel
theorem dQ_addWordsStep_2 : decode cQ_addWordsStep 2 = .ok (.iload_n 1, 1) := by decide +kernel
theorem dQ_addWordsStep_3 : decode cQ_addWordsStep 3 = .ok (.invokevirtual 39, 3) := by decide +kernel
theorem dQ_addWordsStep_6 : decode cQ_addWordsStep 6 = .ok (.ireturn, 1) := by decide +kernel
abbrev cQ_addStep : ByteArray := prog_3_method_5_code
def yQ_addStep : MethodName := ⟨"PostIndex$Query", "addStep", "(II)Z"⟩
def fQ_addStep (d : Nat) : zF := (cQ_addStep, 3, yQ_addStep, (some .boolean), d, 0, 0)
theorem meQ_addStep (d : Nat) : zMe (fQ_addStep d) 2 := ⟨(zA2 (i := 147) rfl rfl), (zA1 (i := 4) rfl rfl), by show "PostIndex$Query" ≠ _; decide +kernel, by show "PostIndex$Query" ≠ _; decide +kernel, by show (parseMethodDescriptor "(II)Z").map _ = _; decide +kernel⟩
theorem dQ_addStep_0 : decode cQ_addStep 0 = .ok (.aload_n 0, 1) := by decide +kernel
theorem dQ_addStep_1 : decode cQ_addStep 1 = .ok (.getfield 28, 3) := by decide +kernel
theorem dQ_addStep_4 : decode cQ_addStep 4 = .ok (.bipush 48, 2) := by decide +kernel
theorem dQ_addStep_6 : decode cQ_addStep 6 = .ok (.if_icmp .lt 5, 3) := by decide +kernel
theorem dQ_addStep_9 : decode cQ_addStep 9 = .ok (.iconst 0, 1) := by decide +kernel
theorem dQ_addStep_10 : decode cQ_addStep 10 = .ok (.ireturn, 1) := by decide +kernel
theorem dQ_addStep_11 : decode cQ_addStep 11 = .ok (.aload_n 0, 1) := by decide +kernel
theorem dQ_addStep_12 : decode cQ_addStep 12 = .ok (.getfield 9, 3) := by decide +kernel
theorem dQ_addStep_15 : decode cQ_addStep 15 = .ok (.aload_n 0, 1) := by decide +kernel
theorem dQ_addStep_16 : decode cQ_addStep 16 = .ok (.getfield 28, 3) := by decide +kernel
theorem dQ_addStep_19 : decode cQ_addStep 19 = .ok (.iload_n 1, 1) := by decide +kernel
theorem dQ_addStep_20 : decode cQ_addStep 20 = .ok (.iastore, 1) := by decide +kernel
theorem dQ_addStep_21 : decode cQ_addStep 21 = .ok (.aload_n 0, 1) := by decide +kernel
theorem dQ_addStep_22 : decode cQ_addStep 22 = .ok (.getfield 15, 3) := by decide +kernel
theorem dQ_addStep_25 : decode cQ_addStep 25 = .ok (.aload_n 0, 1) := by decide +kernel
theorem dQ_addStep_26 : decode cQ_addStep 26 = .ok (.getfield 28, 3) := by decide +kernel
theorem dQ_addStep_29 : decode cQ_addStep 29 = .ok (.iload_n 2, 1) := by decide +kernel
theorem dQ_addStep_30 : decode cQ_addStep 30 = .ok (.iastore, 1) := by decide +kernel
theorem dQ_addStep_31 : decode cQ_addStep 31 = .ok (.aload_n 0, 1) := by decide +kernel
theorem dQ_addStep_32 : decode cQ_addStep 32 = .ok (.getfield 18, 3) := by decide +kernel
theorem dQ_addStep_35 : decode cQ_addStep 35 = .ok (.aload_n 0, 1) := by decide +kernel
theorem dQ_addStep_36 : decode cQ_addStep 36 = .ok (.getfield 28, 3) := by decide +kernel
theorem dQ_addStep_39 : decode cQ_addStep 39 = .ok (.aload_n 0, 1) := by decide +kernel
theorem dQ_addStep_40 : decode cQ_addStep 40 = .ok (.getfield 32, 3) := by decide +kernel
theorem dQ_addStep_43 : decode cQ_addStep 43 = .ok (.iastore, 1) := by decide +kernel
theorem dQ_addStep_44 : decode cQ_addStep 44 = .ok (.aload_n 0, 1) := by decide +kernel
theorem dQ_addStep_45 : decode cQ_addStep 45 = .ok (.dup, 1) := by decide +kernel
theorem dQ_addStep_46 : decode cQ_addStep 46 = .ok (.getfield 28, 3) := by decide +kernel
theorem dQ_addStep_49 : decode cQ_addStep 49 = .ok (.iconst 1, 1) := by decide +kernel
theorem dQ_addStep_50 : decode cQ_addStep 50 = .ok (.iadd, 1) := by decide +kernel
theorem dQ_addStep_51 : decode cQ_addStep 51 = .ok (.putfield 28, 3) := by decide +kernel
theorem dQ_addStep_54 : decode cQ_addStep 54 = .ok (.iconst 1, 1) := by decide +kernel
theorem dQ_addStep_55 : decode cQ_addStep 55 = .ok (.ireturn, 1) := by decide +kernel
abbrev cQ_matches : ByteArray := prog_3_method_6_code
def yQ_matches : MethodName := ⟨"PostIndex$Query", "matches", "(LPostIndex$Post;LPostIndex$Segment;I)Z"⟩
def fQ_matches (d : Nat) : zF := (cQ_matches, 6, yQ_matches, (some .boolean), d, 0, 0)
theorem meQ_matches (d : Nat) : zMe (fQ_matches d) 3 := ⟨(zA2 (i := 181) rfl rfl), (zA1 (i := 4) rfl rfl), by show "PostIndex$Query" ≠ _; decide +kernel, by show "PostIndex$Query" ≠ _; decide +kernel, by show (parseMethodDescriptor "(LPostIndex$Post;LPostIndex$Segment;I)Z").map _ = _; decide +kernel⟩
theorem dQ_matches_0 : decode cQ_matches 0 = .ok (.iconst 0, 1) := by decide +kernel
theorem dQ_matches_1 : decode cQ_matches 1 = .ok (.istore 4, 2) := by decide +kernel
theorem dQ_matches_3 : decode cQ_matches 3 = .ok (.iconst 0, 1) := by decide +kernel
theorem dQ_matches_4 : decode cQ_matches 4 = .ok (.istore 5, 2) := by decide +kernel
theorem dQ_matches_6 : decode cQ_matches 6 = .ok (.iload 5, 2) := by decide +kernel
theorem dQ_matches_8 : decode cQ_matches 8 = .ok (.aload_n 0, 1) := by decide +kernel
theorem dQ_matches_9 : decode cQ_matches 9 = .ok (.getfield 28, 3) := by decide +kernel
theorem dQ_matches_12 : decode cQ_matches 12 = .ok (.if_icmp .ge 104, 3) := by decide +kernel
theorem dQ_matches_15 : decode cQ_matches 15 = .ok (.aload_n 0, 1) := by decide +kernel
theorem dQ_matches_16 : decode cQ_matches 16 = .ok (.getfield 9, 3) := by decide +kernel
theorem dQ_matches_19 : decode cQ_matches 19 = .ok (.iload 5, 2) := by decide +kernel
theorem dQ_matches_21 : decode cQ_matches 21 = .ok (.iaload, 1) := by decide +kernel
theorem dQ_matches_22 : decode cQ_matches 22 = .ok (.tableswitch 64 4 6 #[26, 35, 50], 26) := by decide +kernel
theorem dQ_matches_48 : decode cQ_matches 48 = .ok (.iload 4, 2) := by decide +kernel
theorem dQ_matches_50 : decode cQ_matches 50 = .ok (.iconst 1, 1) := by decide +kernel
theorem dQ_matches_51 : decode cQ_matches 51 = .ok (.ixor, 1) := by decide +kernel
theorem dQ_matches_52 : decode cQ_matches 52 = .ok (.istore 4, 2) := by decide +kernel
theorem dQ_matches_54 : decode cQ_matches 54 = .ok (.goto 56, 3) := by decide +kernel
theorem dQ_matches_57 : decode cQ_matches 57 = .ok (.iload 4, 2) := by decide +kernel
theorem dQ_matches_59 : decode cQ_matches 59 = .ok (.iconst 1, 1) := by decide +kernel
theorem dQ_matches_60 : decode cQ_matches 60 = .ok (.iushr, 1) := by decide +kernel
theorem dQ_matches_61 : decode cQ_matches 61 = .ok (.iload 4, 2) := by decide +kernel
theorem dQ_matches_63 : decode cQ_matches 63 = .ok (.bipush (-2), 2) := by decide +kernel
theorem dQ_matches_65 : decode cQ_matches 65 = .ok (.ior, 1) := by decide +kernel
theorem dQ_matches_66 : decode cQ_matches 66 = .ok (.iand, 1) := by decide +kernel
theorem dQ_matches_67 : decode cQ_matches 67 = .ok (.istore 4, 2) := by decide +kernel
theorem dQ_matches_69 : decode cQ_matches 69 = .ok (.goto 41, 3) := by decide +kernel
theorem dQ_matches_72 : decode cQ_matches 72 = .ok (.iload 4, 2) := by decide +kernel
theorem dQ_matches_74 : decode cQ_matches 74 = .ok (.iconst 1, 1) := by decide +kernel
theorem dQ_matches_75 : decode cQ_matches 75 = .ok (.iushr, 1) := by decide +kernel
theorem dQ_matches_76 : decode cQ_matches 76 = .ok (.iload 4, 2) := by decide +kernel
theorem dQ_matches_78 : decode cQ_matches 78 = .ok (.iconst 1, 1) := by decide +kernel
theorem dQ_matches_79 : decode cQ_matches 79 = .ok (.iand, 1) := by decide +kernel
theorem dQ_matches_80 : decode cQ_matches 80 = .ok (.ior, 1) := by decide +kernel
theorem dQ_matches_81 : decode cQ_matches 81 = .ok (.istore 4, 2) := by decide +kernel
theorem dQ_matches_83 : decode cQ_matches 83 = .ok (.goto 27, 3) := by decide +kernel
theorem dQ_matches_86 : decode cQ_matches 86 = .ok (.iload 4, 2) := by decide +kernel
theorem dQ_matches_88 : decode cQ_matches 88 = .ok (.iconst 1, 1) := by decide +kernel
theorem dQ_matches_89 : decode cQ_matches 89 = .ok (.ishl, 1) := by decide +kernel
theorem dQ_matches_90 : decode cQ_matches 90 = .ok (.aload_n 0, 1) := by decide +kernel
theorem dQ_matches_91 : decode cQ_matches 91 = .ok (.iload 5, 2) := by decide +kernel
theorem dQ_matches_93 : decode cQ_matches 93 = .ok (.aload_n 1, 1) := by decide +kernel
theorem dQ_matches_94 : decode cQ_matches 94 = .ok (.aload_n 2, 1) := by decide +kernel
theorem dQ_matches_95 : decode cQ_matches 95 = .ok (.iload_n 3, 1) := by decide +kernel
theorem dQ_matches_96 : decode cQ_matches 96 = .ok (.invokevirtual 43, 3) := by decide +kernel
theorem dQ_matches_99 : decode cQ_matches 99 = .ok (.ifCond .eq 7, 3) := by decide +kernel
theorem dQ_matches_102 : decode cQ_matches 102 = .ok (.iconst 1, 1) := by decide +kernel
theorem dQ_matches_103 : decode cQ_matches 103 = .ok (.goto 4, 3) := by decide +kernel
theorem dQ_matches_106 : decode cQ_matches 106 = .ok (.iconst 0, 1) := by decide +kernel
theorem dQ_matches_107 : decode cQ_matches 107 = .ok (.ior, 1) := by decide +kernel
theorem dQ_matches_108 : decode cQ_matches 108 = .ok (.istore 4, 2) := by decide +kernel
theorem dQ_matches_110 : decode cQ_matches 110 = .ok (.iinc 5 1, 3) := by decide +kernel
theorem dQ_matches_113 : decode cQ_matches 113 = .ok (.goto (-107), 3) := by decide +kernel
theorem dQ_matches_116 : decode cQ_matches 116 = .ok (.iload 4, 2) := by decide +kernel
theorem dQ_matches_118 : decode cQ_matches 118 = .ok (.iconst 1, 1) := by decide +kernel
theorem dQ_matches_119 : decode cQ_matches 119 = .ok (.iand, 1) := by decide +kernel
theorem dQ_matches_120 : decode cQ_matches 120 = .ok (.iconst 1, 1) := by decide +kernel
theorem dQ_matches_121 : decode cQ_matches 121 = .ok (.if_icmp .ne 7, 3) := by decide +kernel
theorem dQ_matches_124 : decode cQ_matches 124 = .ok (.iconst 1, 1) := by decide +kernel
theorem dQ_matches_125 : decode cQ_matches 125 = .ok (.goto 4, 3) := by decide +kernel
theorem dQ_matches_128 : decode cQ_matches 128 = .ok (.iconst 0, 1) := by decide +kernel
theorem dQ_matches_129 : decode cQ_matches 129 = .ok (.ireturn, 1) := by decide +kernel
abbrev cQ_isTrue : ByteArray := prog_3_method_7_code
def yQ_isTrue : MethodName := ⟨"PostIndex$Query", "isTrue", "(ILPostIndex$Post;LPostIndex$Segment;I)Z"⟩
def fQ_isTrue (d : Nat) : zF := (cQ_isTrue, 6, yQ_isTrue, (some .boolean), d, 0, 0)
theorem meQ_isTrue (d : Nat) : zMe (fQ_isTrue d) 4 := ⟨(zA2 (i := 185) rfl rfl), (zA1 (i := 4) rfl rfl), by show "PostIndex$Query" ≠ _; decide +kernel, by show "PostIndex$Query" ≠ _; decide +kernel, by show (parseMethodDescriptor "(ILPostIndex$Post;LPostIndex$Segment;I)Z").map _ = _; decide +kernel⟩
theorem dQ_isTrue_0 : decode cQ_isTrue 0 = .ok (.aload_n 0, 1) := by decide +kernel
theorem dQ_isTrue_1 : decode cQ_isTrue 1 = .ok (.getfield 15, 3) := by decide +kernel
theorem dQ_isTrue_4 : decode cQ_isTrue 4 = .ok (.iload_n 1, 1) := by decide +kernel
theorem dQ_isTrue_5 : decode cQ_isTrue 5 = .ok (.iaload, 1) := by decide +kernel
theorem dQ_isTrue_6 : decode cQ_isTrue 6 = .ok (.istore 5, 2) := by decide +kernel
theorem dQ_isTrue_8 : decode cQ_isTrue 8 = .ok (.aload_n 0, 1) := by decide +kernel
theorem dQ_isTrue_9 : decode cQ_isTrue 9 = .ok (.getfield 9, 3) := by decide +kernel
theorem dQ_isTrue_12 : decode cQ_isTrue 12 = .ok (.iload_n 1, 1) := by decide +kernel
theorem dQ_isTrue_13 : decode cQ_isTrue 13 = .ok (.iaload, 1) := by decide +kernel
theorem dQ_isTrue_14 : decode cQ_isTrue 14 = .ok (.tableswitch 71 1 3 #[26, 41, 56], 26) := by decide +kernel
theorem dQ_isTrue_40 : decode cQ_isTrue 40 = .ok (.aload_n 2, 1) := by decide +kernel
theorem dQ_isTrue_41 : decode cQ_isTrue 41 = .ok (.getfield 47, 3) := by decide +kernel
theorem flQ_47 : zFldN "PostIndex$Query" 47 0 1 4 := ⟨RP, TP, "PostIndex", rfl, by decide, inP, by decide +kernel⟩
theorem dQ_isTrue_44 : decode cQ_isTrue 44 = .ok (.iload 5, 2) := by decide +kernel
theorem dQ_isTrue_46 : decode cQ_isTrue 46 = .ok (.if_icmp .ne 7, 3) := by decide +kernel
theorem dQ_isTrue_49 : decode cQ_isTrue 49 = .ok (.iconst 1, 1) := by decide +kernel
theorem dQ_isTrue_50 : decode cQ_isTrue 50 = .ok (.goto 4, 3) := by decide +kernel
theorem dQ_isTrue_53 : decode cQ_isTrue 53 = .ok (.iconst 0, 1) := by decide +kernel
theorem dQ_isTrue_54 : decode cQ_isTrue 54 = .ok (.ireturn, 1) := by decide +kernel
theorem dQ_isTrue_55 : decode cQ_isTrue 55 = .ok (.aload_n 2, 1) := by decide +kernel
theorem dQ_isTrue_56 : decode cQ_isTrue 56 = .ok (.getfield 52, 3) := by decide +kernel
theorem flQ_52 : zFldN "PostIndex$Query" 52 0 2 4 := ⟨RP, TP, "PostIndex", rfl, by decide, inP, by decide +kernel⟩
theorem dQ_isTrue_59 : decode cQ_isTrue 59 = .ok (.iload 5, 2) := by decide +kernel
theorem dQ_isTrue_61 : decode cQ_isTrue 61 = .ok (.if_icmp .ge 7, 3) := by decide +kernel
theorem dQ_isTrue_64 : decode cQ_isTrue 64 = .ok (.iconst 1, 1) := by decide +kernel
theorem dQ_isTrue_65 : decode cQ_isTrue 65 = .ok (.goto 4, 3) := by decide +kernel
theorem dQ_isTrue_68 : decode cQ_isTrue 68 = .ok (.iconst 0, 1) := by decide +kernel
theorem dQ_isTrue_69 : decode cQ_isTrue 69 = .ok (.ireturn, 1) := by decide +kernel
theorem dQ_isTrue_70 : decode cQ_isTrue 70 = .ok (.aload_n 2, 1) := by decide +kernel
theorem dQ_isTrue_71 : decode cQ_isTrue 71 = .ok (.getfield 52, 3) := by decide +kernel
theorem dQ_isTrue_74 : decode cQ_isTrue 74 = .ok (.iload 5, 2) := by decide +kernel
theorem dQ_isTrue_76 : decode cQ_isTrue 76 = .ok (.if_icmp .le 7, 3) := by decide +kernel
theorem dQ_isTrue_79 : decode cQ_isTrue 79 = .ok (.iconst 1, 1) := by decide +kernel
theorem dQ_isTrue_80 : decode cQ_isTrue 80 = .ok (.goto 4, 3) := by decide +kernel
theorem dQ_isTrue_83 : decode cQ_isTrue 83 = .ok (.iconst 0, 1) := by decide +kernel
theorem dQ_isTrue_84 : decode cQ_isTrue 84 = .ok (.ireturn, 1) := by decide +kernel
theorem dQ_isTrue_85 : decode cQ_isTrue 85 = .ok (.aload_n 0, 1) := by decide +kernel
theorem dQ_isTrue_86 : decode cQ_isTrue 86 = .ok (.iload 5, 2) := by decide +kernel
theorem dQ_isTrue_88 : decode cQ_isTrue 88 = .ok (.aload_n 0, 1) := by decide +kernel
theorem dQ_isTrue_89 : decode cQ_isTrue 89 = .ok (.getfield 18, 3) := by decide +kernel
theorem dQ_isTrue_92 : decode cQ_isTrue 92 = .ok (.iload_n 1, 1) := by decide +kernel
theorem dQ_isTrue_93 : decode cQ_isTrue 93 = .ok (.iaload, 1) := by decide +kernel
theorem dQ_isTrue_94 : decode cQ_isTrue 94 = .ok (.aload_n 3, 1) := by decide +kernel
theorem dQ_isTrue_95 : decode cQ_isTrue 95 = .ok (.iload 4, 2) := by decide +kernel
theorem dQ_isTrue_97 : decode cQ_isTrue 97 = .ok (.invokevirtual 55, 3) := by decide +kernel
theorem dQ_isTrue_100 : decode cQ_isTrue 100 = .ok (.ireturn, 1) := by decide +kernel
abbrev cQ_standInRow : ByteArray := prog_3_method_8_code
def yQ_standInRow : MethodName := ⟨"PostIndex$Query", "standInRow", "(IILPostIndex$Segment;I)Z"⟩
def fQ_standInRow (d : Nat) : zF := (cQ_standInRow, 7, yQ_standInRow, (some .boolean), d, 0, 0)
theorem meQ_standInRow (d : Nat) : zMe (fQ_standInRow d) 4 := ⟨(zA2 (i := 189) rfl rfl), (zA1 (i := 4) rfl rfl), by show "PostIndex$Query" ≠ _; decide +kernel, by show "PostIndex$Query" ≠ _; decide +kernel, by show (parseMethodDescriptor "(IILPostIndex$Segment;I)Z").map _ = _; decide +kernel⟩
theorem dQ_standInRow_0 : decode cQ_standInRow 0 = .ok (.sipush 255, 3) := by decide +kernel
theorem dQ_standInRow_3 : decode cQ_standInRow 3 = .ok (.istore 5, 2) := by decide +kernel
theorem dQ_standInRow_5 : decode cQ_standInRow 5 = .ok (.iload_n 1, 1) := by decide +kernel
theorem dQ_standInRow_6 : decode cQ_standInRow 6 = .ok (.istore 6, 2) := by decide +kernel
theorem dQ_standInRow_8 : decode cQ_standInRow 8 = .ok (.iload 6, 2) := by decide +kernel
theorem dQ_standInRow_10 : decode cQ_standInRow 10 = .ok (.iload_n 2, 1) := by decide +kernel
theorem dQ_standInRow_11 : decode cQ_standInRow 11 = .ok (.if_icmp .ge 32, 3) := by decide +kernel
theorem dQ_standInRow_14 : decode cQ_standInRow 14 = .ok (.iload 5, 2) := by decide +kernel
theorem dQ_standInRow_16 : decode cQ_standInRow 16 = .ok (.aload_n 3, 1) := by decide +kernel
theorem dQ_standInRow_17 : decode cQ_standInRow 17 = .ok (.aload_n 0, 1) := by decide +kernel
theorem dQ_standInRow_18 : decode cQ_standInRow 18 = .ok (.getfield 23, 3) := by decide +kernel
theorem dQ_standInRow_21 : decode cQ_standInRow 21 = .ok (.iload 6, 2) := by decide +kernel
theorem dQ_standInRow_23 : decode cQ_standInRow 23 = .ok (.aaload, 1) := by decide +kernel
theorem dQ_standInRow_24 : decode cQ_standInRow 24 = .ok (.iload 4, 2) := by decide +kernel
theorem dQ_standInRow_26 : decode cQ_standInRow 26 = .ok (.invokevirtual 59, 3) := by decide +kernel
theorem dQ_standInRow_29 : decode cQ_standInRow 29 = .ok (.iload 6, 2) := by decide +kernel
theorem dQ_standInRow_31 : decode cQ_standInRow 31 = .ok (.iload_n 1, 1) := by decide +kernel
theorem dQ_standInRow_32 : decode cQ_standInRow 32 = .ok (.isub, 1) := by decide +kernel
theorem dQ_standInRow_33 : decode cQ_standInRow 33 = .ok (.iushr, 1) := by decide +kernel
theorem dQ_standInRow_34 : decode cQ_standInRow 34 = .ok (.iand, 1) := by decide +kernel
theorem dQ_standInRow_35 : decode cQ_standInRow 35 = .ok (.istore 5, 2) := by decide +kernel
theorem dQ_standInRow_37 : decode cQ_standInRow 37 = .ok (.iinc 6 1, 3) := by decide +kernel
theorem dQ_standInRow_40 : decode cQ_standInRow 40 = .ok (.goto (-32), 3) := by decide +kernel
theorem dQ_standInRow_43 : decode cQ_standInRow 43 = .ok (.iload 5, 2) := by decide +kernel
theorem dQ_standInRow_45 : decode cQ_standInRow 45 = .ok (.ifCond .eq 7, 3) := by decide +kernel
theorem dQ_standInRow_48 : decode cQ_standInRow 48 = .ok (.iconst 1, 1) := by decide +kernel
theorem dQ_standInRow_49 : decode cQ_standInRow 49 = .ok (.goto 4, 3) := by decide +kernel
theorem dQ_standInRow_52 : decode cQ_standInRow 52 = .ok (.iconst 0, 1) := by decide +kernel
theorem dQ_standInRow_53 : decode cQ_standInRow 53 = .ok (.ireturn, 1) := by decide +kernel
theorem lkQ_27 : zLi "PostIndex$Query" 27 yT_init := ⟨(zA1 (i := 53) rfl rfl), (zA1 (i := 23) rfl rfl), rfl⟩
theorem lkQ_35 : zLv "PostIndex$Query" 35 yT_setFolded := ⟨(zA2 (i := 139) rfl rfl), (zA2 (i := 41) rfl rfl), (zA2 (i := 42) rfl rfl)⟩
theorem lkQ_39 : zLv "PostIndex$Query" 39 yQ_addStep := ⟨(zA2 (i := 144) rfl rfl), (zA2 (i := 145) rfl rfl), (zA2 (i := 146) rfl rfl)⟩
theorem lkQ_43 : zLv "PostIndex$Query" 43 yQ_isTrue := ⟨(zA2 (i := 182) rfl rfl), (zA2 (i := 184) rfl rfl), (zA0 (i := 20) (q := (yQ_isTrue, 6)) rfl rfl)⟩
theorem lkQ_55 : zLv "PostIndex$Query" 55 yQ_standInRow := ⟨(zA2 (i := 186) rfl rfl), (zA2 (i := 188) rfl rfl), (zA0 (i := 21) (q := (yQ_standInRow, 6)) rfl rfl)⟩
theorem lkQ_59 : zLv "PostIndex$Query" 59 yS_placesOf := ⟨(zA2 (i := 190) rfl rfl), (zA2 (i := 191) rfl rfl), (zA2 (i := 192) rfl rfl)⟩
