abbrev cX_init : ByteArray := prog_1_method_1_code
def yX_init : MethodName := ⟨"PostIndex", "<init>", "()V"⟩
def fX_init (d : Nat) : zF := (cX_init, 2, yX_init, none, d, 795, 10833)
theorem meX_init (d : Nat) : zMe (fX_init d) 0 := ⟨(zA1 (i := 16) rfl rfl), (zA1 (i := 1) rfl rfl), by show "PostIndex" ≠ _; decide +kernel, by show "PostIndex" ≠ _; decide +kernel, by show (parseMethodDescriptor "()V").map _ = _; decide +kernel⟩
theorem dX_init_0 : decode cX_init 0 = .ok (.aload_n 0, 1) := by decide +kernel
theorem dX_init_1 : decode cX_init 1 = .ok (.invokespecial 3, 3) := by decide +kernel
theorem lkX_3 : Cond.methodLink "PostIndex" 3 Lib.objectInit ∈ zAll ∧ Cond.instanceMethod Lib.objectInit ∈ zAll ∧ Cond.code Lib.objectInit ⟨#[0xb1]⟩ 1 none ∈ zAll := ⟨(zA1 (i := 17) rfl rfl), (zA1 (i := 18) rfl rfl), (zA1 (i := 19) rfl rfl)⟩
theorem dX_init_4 : decode cX_init 4 = .ok (.aload_n 0, 1) := by decide +kernel
theorem dX_init_5 : decode cX_init 5 = .ok (.new 9, 3) := by decide +kernel
theorem nwX_9 : zNew "PostIndex" 9 5 2 (fun k => defaultValue (tyT k)) := ⟨RT, TT, tyT, rfl, inT, tyT_ok, (zA1 (i := 20) rfl rfl), (zA1 (i := 21) rfl rfl), (zA1 (i := 2) rfl rfl), fun _ _ => rfl⟩
theorem dX_init_8 : decode cX_init 8 = .ok (.dup, 1) := by decide +kernel
theorem dX_init_9 : decode cX_init 9 = .ok (.invokespecial 11, 3) := by decide +kernel
theorem dX_init_12 : decode cX_init 12 = .ok (.putfield 12, 3) := by decide +kernel
theorem flX_12 : zFld "PostIndex" 12 6 0 12 := ⟨RX, TX, rfl, by decide, inX, (zA1 (i := 158) rfl rfl)⟩
theorem dX_init_15 : decode cX_init 15 = .ok (.aload_n 0, 1) := by decide +kernel
theorem dX_init_16 : decode cX_init 16 = .ok (.new 9, 3) := by decide +kernel
theorem dX_init_19 : decode cX_init 19 = .ok (.dup, 1) := by decide +kernel
theorem dX_init_20 : decode cX_init 20 = .ok (.invokespecial 11, 3) := by decide +kernel
theorem dX_init_23 : decode cX_init 23 = .ok (.putfield 16, 3) := by decide +kernel
theorem flX_16 : zFld "PostIndex" 16 6 9 12 := ⟨RX, TX, rfl, by decide, inX, (zA1 (i := 167) rfl rfl)⟩
theorem dX_init_26 : decode cX_init 26 = .ok (.aload_n 0, 1) := by decide +kernel
theorem dX_init_27 : decode cX_init 27 = .ok (.new 19, 3) := by decide +kernel
theorem nwX_19 : zNew "PostIndex" 19 2 3 (fun k => defaultValue (tyR k)) := ⟨RR, TR, tyR, rfl, inR, tyR_ok, (zA1 (i := 37) rfl rfl), (zA1 (i := 38) rfl rfl), (zA1 (i := 3) rfl rfl), fun _ _ => rfl⟩
theorem dX_init_30 : decode cX_init 30 = .ok (.dup, 1) := by decide +kernel
theorem dX_init_31 : decode cX_init 31 = .ok (.invokespecial 21, 3) := by decide +kernel
theorem dX_init_34 : decode cX_init 34 = .ok (.putfield 22, 3) := by decide +kernel
theorem flX_22 : zFld "PostIndex" 22 6 4 12 := ⟨RX, TX, rfl, by decide, inX, (zA1 (i := 162) rfl rfl)⟩
theorem dX_init_37 : decode cX_init 37 = .ok (.aload_n 0, 1) := by decide +kernel
theorem dX_init_38 : decode cX_init 38 = .ok (.bipush 24, 2) := by decide +kernel
theorem dX_init_40 : decode cX_init 40 = .ok (.anewarray 26, 3) := by decide +kernel
theorem aqX_26 : zArq "PostIndex" 26 4 "PostIndex$Post" := ⟨rfl, (zA1 (i := 85) rfl rfl), by decide +kernel⟩
theorem dX_init_43 : decode cX_init 43 = .ok (.putfield 28, 3) := by decide +kernel
theorem flX_28 : zFld "PostIndex" 28 6 1 12 := ⟨RX, TX, rfl, by decide, inX, (zA1 (i := 159) rfl rfl)⟩
theorem dX_init_46 : decode cX_init 46 = .ok (.iconst 0, 1) := by decide +kernel
theorem dX_init_47 : decode cX_init 47 = .ok (.istore_n 1, 1) := by decide +kernel
theorem dX_init_48 : decode cX_init 48 = .ok (.iload_n 1, 1) := by decide +kernel
theorem dX_init_49 : decode cX_init 49 = .ok (.bipush 24, 2) := by decide +kernel
theorem dX_init_51 : decode cX_init 51 = .ok (.if_icmp .ge 22, 3) := by decide +kernel
theorem dX_init_54 : decode cX_init 54 = .ok (.aload_n 0, 1) := by decide +kernel
theorem dX_init_55 : decode cX_init 55 = .ok (.getfield 28, 3) := by decide +kernel
theorem dX_init_58 : decode cX_init 58 = .ok (.iload_n 1, 1) := by decide +kernel
theorem dX_init_59 : decode cX_init 59 = .ok (.new 26, 3) := by decide +kernel
theorem nwX_26 : zNew "PostIndex" 26 0 4 (fun k => defaultValue (tyP k)) := ⟨RP, TP, tyP, rfl, inP, tyP_ok, (zA1 (i := 85) rfl rfl), (zA1 (i := 87) rfl rfl), (zA1 (i := 5) rfl rfl), fun _ _ => rfl⟩
theorem dX_init_62 : decode cX_init 62 = .ok (.dup, 1) := by decide +kernel
theorem dX_init_63 : decode cX_init 63 = .ok (.invokespecial 32, 3) := by decide +kernel
theorem dX_init_66 : decode cX_init 66 = .ok (.aastore, 1) := by decide +kernel
theorem dX_init_67 : decode cX_init 67 = .ok (.iinc 1 1, 3) := by decide +kernel
theorem dX_init_70 : decode cX_init 70 = .ok (.goto (-22), 3) := by decide +kernel
theorem dX_init_73 : decode cX_init 73 = .ok (.aload_n 0, 1) := by decide +kernel
theorem dX_init_74 : decode cX_init 74 = .ok (.bipush 6, 2) := by decide +kernel
theorem dX_init_76 : decode cX_init 76 = .ok (.anewarray 33, 3) := by decide +kernel
theorem aqX_33 : zArq "PostIndex" 33 5 "PostIndex$Segment" := ⟨rfl, (zA1 (i := 110) rfl rfl), by decide +kernel⟩
theorem dX_init_79 : decode cX_init 79 = .ok (.putfield 35, 3) := by decide +kernel
theorem flX_35 : zFld "PostIndex" 35 6 2 12 := ⟨RX, TX, rfl, by decide, inX, (zA1 (i := 160) rfl rfl)⟩
theorem dX_init_82 : decode cX_init 82 = .ok (.iconst 0, 1) := by decide +kernel
theorem dX_init_83 : decode cX_init 83 = .ok (.istore_n 1, 1) := by decide +kernel
theorem dX_init_84 : decode cX_init 84 = .ok (.iload_n 1, 1) := by decide +kernel
theorem dX_init_85 : decode cX_init 85 = .ok (.bipush 6, 2) := by decide +kernel
theorem dX_init_87 : decode cX_init 87 = .ok (.if_icmp .ge 22, 3) := by decide +kernel
theorem dX_init_90 : decode cX_init 90 = .ok (.aload_n 0, 1) := by decide +kernel
theorem dX_init_91 : decode cX_init 91 = .ok (.getfield 35, 3) := by decide +kernel
theorem dX_init_94 : decode cX_init 94 = .ok (.iload_n 1, 1) := by decide +kernel
theorem dX_init_95 : decode cX_init 95 = .ok (.new 33, 3) := by decide +kernel
theorem nwX_33 : zNew "PostIndex" 33 4 5 (fun k => defaultValue (tyS k)) := ⟨RS, TS, tyS, rfl, inS, tyS_ok, (zA1 (i := 110) rfl rfl), (zA1 (i := 112) rfl rfl), (zA1 (i := 6) rfl rfl), fun _ _ => rfl⟩
theorem dX_init_98 : decode cX_init 98 = .ok (.dup, 1) := by decide +kernel
theorem dX_init_99 : decode cX_init 99 = .ok (.invokespecial 39, 3) := by decide +kernel
theorem dX_init_102 : decode cX_init 102 = .ok (.aastore, 1) := by decide +kernel
theorem dX_init_103 : decode cX_init 103 = .ok (.iinc 1 1, 3) := by decide +kernel
theorem dX_init_106 : decode cX_init 106 = .ok (.goto (-22), 3) := by decide +kernel
theorem dX_init_109 : decode cX_init 109 = .ok (.aload_n 0, 1) := by decide +kernel
theorem dX_init_110 : decode cX_init 110 = .ok (.iconst 3, 1) := by decide +kernel
theorem dX_init_111 : decode cX_init 111 = .ok (.anewarray 40, 3) := by decide +kernel
theorem aqX_40 : zArq "PostIndex" 40 6 "PostIndex$Search" := ⟨rfl, (zA1 (i := 138) rfl rfl), by decide +kernel⟩
theorem dX_init_114 : decode cX_init 114 = .ok (.putfield 42, 3) := by decide +kernel
theorem flX_42 : zFld "PostIndex" 42 6 3 12 := ⟨RX, TX, rfl, by decide, inX, (zA1 (i := 161) rfl rfl)⟩
theorem dX_init_117 : decode cX_init 117 = .ok (.iconst 0, 1) := by decide +kernel
theorem dX_init_118 : decode cX_init 118 = .ok (.istore_n 1, 1) := by decide +kernel
theorem dX_init_119 : decode cX_init 119 = .ok (.iload_n 1, 1) := by decide +kernel
theorem dX_init_120 : decode cX_init 120 = .ok (.iconst 3, 1) := by decide +kernel
theorem dX_init_121 : decode cX_init 121 = .ok (.if_icmp .ge 22, 3) := by decide +kernel
theorem dX_init_124 : decode cX_init 124 = .ok (.aload_n 0, 1) := by decide +kernel
theorem dX_init_125 : decode cX_init 125 = .ok (.getfield 42, 3) := by decide +kernel
theorem dX_init_128 : decode cX_init 128 = .ok (.iload_n 1, 1) := by decide +kernel
theorem dX_init_129 : decode cX_init 129 = .ok (.new 40, 3) := by decide +kernel
theorem nwX_40 : zNew "PostIndex" 40 3 3 (fun k => defaultValue (tyH k)) := ⟨RH, TH, tyH, rfl, inH, tyH_ok, (zA1 (i := 138) rfl rfl), (zA1 (i := 140) rfl rfl), (zA1 (i := 7) rfl rfl), fun _ _ => rfl⟩
theorem dX_init_132 : decode cX_init 132 = .ok (.dup, 1) := by decide +kernel
theorem dX_init_133 : decode cX_init 133 = .ok (.invokespecial 46, 3) := by decide +kernel
theorem dX_init_136 : decode cX_init 136 = .ok (.aastore, 1) := by decide +kernel
theorem dX_init_137 : decode cX_init 137 = .ok (.iinc 1 1, 3) := by decide +kernel
theorem dX_init_140 : decode cX_init 140 = .ok (.goto (-21), 3) := by decide +kernel
theorem dX_init_143 : decode cX_init 143 = .ok (.return_, 1) := by decide +kernel
abbrev cX_type : ByteArray := prog_1_method_2_code
def yX_type : MethodName := ⟨"PostIndex", "type", "(C)Z"⟩
def fX_type (d : Nat) : zF := (cX_type, 2, yX_type, (some .boolean), d, 0, 0)
theorem meX_type (d : Nat) : zMe (fX_type d) 1 := ⟨(zA1 (i := 198) rfl rfl), (zA1 (i := 1) rfl rfl), by show "PostIndex" ≠ _; decide +kernel, by show "PostIndex" ≠ _; decide +kernel, by show (parseMethodDescriptor "(C)Z").map _ = _; decide +kernel⟩
theorem dX_type_0 : decode cX_type 0 = .ok (.iload_n 1, 1) := by decide +kernel
theorem dX_type_1 : decode cX_type 1 = .ok (.bipush 32, 2) := by decide +kernel
theorem dX_type_3 : decode cX_type 3 = .ok (.if_icmp .lt 24, 3) := by decide +kernel
theorem dX_type_6 : decode cX_type 6 = .ok (.iload_n 1, 1) := by decide +kernel
theorem dX_type_7 : decode cX_type 7 = .ok (.bipush 126, 2) := by decide +kernel
theorem dX_type_9 : decode cX_type 9 = .ok (.if_icmp .gt 18, 3) := by decide +kernel
theorem dX_type_12 : decode cX_type 12 = .ok (.aload_n 0, 1) := by decide +kernel
theorem dX_type_13 : decode cX_type 13 = .ok (.getfield 12, 3) := by decide +kernel
theorem dX_type_16 : decode cX_type 16 = .ok (.iload_n 1, 1) := by decide +kernel
theorem dX_type_17 : decode cX_type 17 = .ok (.invokevirtual 47, 3) := by decide +kernel
theorem dX_type_20 : decode cX_type 20 = .ok (.ifCond .eq 7, 3) := by decide +kernel
theorem dX_type_23 : decode cX_type 23 = .ok (.iconst 1, 1) := by decide +kernel
theorem dX_type_24 : decode cX_type 24 = .ok (.goto 4, 3) := by decide +kernel
theorem dX_type_27 : decode cX_type 27 = .ok (.iconst 0, 1) := by decide +kernel
theorem dX_type_28 : decode cX_type 28 = .ok (.ireturn, 1) := by decide +kernel
abbrev cX_quote : ByteArray := prog_1_method_3_code
def yX_quote : MethodName := ⟨"PostIndex", "quote", "(I)I"⟩
def fX_quote (d : Nat) : zF := (cX_quote, 2, yX_quote, (some .int), d, 0, 0)
theorem meX_quote (d : Nat) : zMe (fX_quote d) 1 := ⟨(zA1 (i := 206) rfl rfl), (zA1 (i := 1) rfl rfl), by show "PostIndex" ≠ _; decide +kernel, by show "PostIndex" ≠ _; decide +kernel, by show (parseMethodDescriptor "(I)I").map _ = _; decide +kernel⟩
theorem dX_quote_0 : decode cX_quote 0 = .ok (.aload_n 0, 1) := by decide +kernel
theorem dX_quote_1 : decode cX_quote 1 = .ok (.iload_n 1, 1) := by decide +kernel
theorem dX_quote_2 : decode cX_quote 2 = .ok (.invokevirtual 51, 3) := by decide +kernel
theorem dX_quote_5 : decode cX_quote 5 = .ok (.ifCond .eq 22, 3) := by decide +kernel
theorem dX_quote_8 : decode cX_quote 8 = .ok (.aload_n 0, 1) := by decide +kernel
theorem dX_quote_9 : decode cX_quote 9 = .ok (.getfield 12, 3) := by decide +kernel
theorem dX_quote_12 : decode cX_quote 12 = .ok (.aload_n 0, 1) := by decide +kernel
theorem dX_quote_13 : decode cX_quote 13 = .ok (.getfield 28, 3) := by decide +kernel
theorem dX_quote_16 : decode cX_quote 16 = .ok (.iload_n 1, 1) := by decide +kernel
theorem dX_quote_17 : decode cX_quote 17 = .ok (.aaload, 1) := by decide +kernel
theorem dX_quote_18 : decode cX_quote 18 = .ok (.getfield 55, 3) := by decide +kernel
theorem flX_55 : zFldN "PostIndex" 55 0 0 4 := ⟨RP, TP, "PostIndex", rfl, by decide, inP, by decide +kernel⟩
theorem dX_quote_21 : decode cX_quote 21 = .ok (.invokevirtual 58, 3) := by decide +kernel
theorem dX_quote_24 : decode cX_quote 24 = .ok (.goto 4, 3) := by decide +kernel
theorem dX_quote_27 : decode cX_quote 27 = .ok (.iconst (-1), 1) := by decide +kernel
theorem dX_quote_28 : decode cX_quote 28 = .ok (.ireturn, 1) := by decide +kernel
abbrev cX_clear : ByteArray := prog_1_method_4_code
def yX_clear : MethodName := ⟨"PostIndex", "clear", "()V"⟩
def fX_clear (d : Nat) : zF := (cX_clear, 1, yX_clear, none, d, 0, 0)
theorem meX_clear (d : Nat) : zMe (fX_clear d) 0 := ⟨(zA1 (i := 228) rfl rfl), (zA1 (i := 1) rfl rfl), by show "PostIndex" ≠ _; decide +kernel, by show "PostIndex" ≠ _; decide +kernel, by show (parseMethodDescriptor "()V").map _ = _; decide +kernel⟩
theorem dX_clear_0 : decode cX_clear 0 = .ok (.aload_n 0, 1) := by decide +kernel
theorem dX_clear_1 : decode cX_clear 1 = .ok (.getfield 12, 3) := by decide +kernel
theorem dX_clear_4 : decode cX_clear 4 = .ok (.invokevirtual 62, 3) := by decide +kernel
theorem dX_clear_7 : decode cX_clear 7 = .ok (.return_, 1) := by decide +kernel
abbrev cX_length : ByteArray := prog_1_method_5_code
def yX_length : MethodName := ⟨"PostIndex", "length", "()I"⟩
def fX_length (d : Nat) : zF := (cX_length, 1, yX_length, (some .int), d, 0, 0)
theorem meX_length (d : Nat) : zMe (fX_length d) 0 := ⟨(zA1 (i := 236) rfl rfl), (zA1 (i := 1) rfl rfl), by show "PostIndex" ≠ _; decide +kernel, by show "PostIndex" ≠ _; decide +kernel, by show (parseMethodDescriptor "()I").map _ = _; decide +kernel⟩
theorem dX_length_0 : decode cX_length 0 = .ok (.aload_n 0, 1) := by decide +kernel
theorem dX_length_1 : decode cX_length 1 = .ok (.getfield 12, 3) := by decide +kernel
theorem dX_length_4 : decode cX_length 4 = .ok (.getfield 65, 3) := by decide +kernel
theorem flX_65 : zFldN "PostIndex" 65 5 1 2 := ⟨RT, TT, "PostIndex", rfl, by decide, inT, by decide +kernel⟩
theorem dX_length_7 : decode cX_length 7 = .ok (.ireturn, 1) := by decide +kernel
abbrev cX_post : ByteArray := prog_1_method_6_code
def yX_post : MethodName := ⟨"PostIndex", "post", "(II)I"⟩
def fX_post (d : Nat) : zF := (cX_post, 4, yX_post, (some .int), d, 0, 0)
theorem meX_post (d : Nat) : zMe (fX_post d) 2 := ⟨(zA2 (i := 0) rfl rfl), (zA1 (i := 1) rfl rfl), by show "PostIndex" ≠ _; decide +kernel, by show "PostIndex" ≠ _; decide +kernel, by show (parseMethodDescriptor "(II)I").map _ = _; decide +kernel⟩
theorem dX_post_0 : decode cX_post 0 = .ok (.iload_n 1, 1) := by decide +kernel
theorem dX_post_1 : decode cX_post 1 = .ok (.ifCond .lt 35, 3) := by decide +kernel
theorem dX_post_4 : decode cX_post 4 = .ok (.iload_n 1, 1) := by decide +kernel
theorem dX_post_5 : decode cX_post 5 = .ok (.bipush 10, 2) := by decide +kernel
theorem dX_post_7 : decode cX_post 7 = .ok (.if_icmp .ge 29, 3) := by decide +kernel
theorem dX_post_10 : decode cX_post 10 = .ok (.aload_n 0, 1) := by decide +kernel
theorem dX_post_11 : decode cX_post 11 = .ok (.getfield 69, 3) := by decide +kernel
theorem flX_69 : zFld "PostIndex" 69 6 5 12 := ⟨RX, TX, rfl, by decide, inX, (zA1 (i := 163) rfl rfl)⟩
theorem dX_post_14 : decode cX_post 14 = .ok (.bipush 24, 2) := by decide +kernel
theorem dX_post_16 : decode cX_post 16 = .ok (.if_icmp .ge 20, 3) := by decide +kernel
theorem dX_post_19 : decode cX_post 19 = .ok (.aload_n 0, 1) := by decide +kernel
theorem dX_post_20 : decode cX_post 20 = .ok (.getfield 69, 3) := by decide +kernel
theorem dX_post_23 : decode cX_post 23 = .ok (.aload_n 0, 1) := by decide +kernel
theorem dX_post_24 : decode cX_post 24 = .ok (.getfield 72, 3) := by decide +kernel
theorem flX_72 : zFld "PostIndex" 72 6 6 12 := ⟨RX, TX, rfl, by decide, inX, (zA1 (i := 164) rfl rfl)⟩
theorem dX_post_27 : decode cX_post 27 = .ok (.isub, 1) := by decide +kernel
theorem dX_post_28 : decode cX_post 28 = .ok (.iconst 4, 1) := by decide +kernel
theorem dX_post_29 : decode cX_post 29 = .ok (.if_icmp .ge 7, 3) := by decide +kernel
theorem dX_post_32 : decode cX_post 32 = .ok (.iconst 1, 1) := by decide +kernel
theorem dX_post_33 : decode cX_post 33 = .ok (.goto 4, 3) := by decide +kernel
theorem dX_post_36 : decode cX_post 36 = .ok (.iconst 0, 1) := by decide +kernel
theorem dX_post_37 : decode cX_post 37 = .ok (.istore_n 3, 1) := by decide +kernel
theorem dX_post_38 : decode cX_post 38 = .ok (.iload_n 3, 1) := by decide +kernel
theorem dX_post_39 : decode cX_post 39 = .ok (.ifCond .ne 5, 3) := by decide +kernel
theorem dX_post_42 : decode cX_post 42 = .ok (.iconst (-1), 1) := by decide +kernel
theorem dX_post_43 : decode cX_post 43 = .ok (.ireturn, 1) := by decide +kernel
theorem dX_post_44 : decode cX_post 44 = .ok (.aload_n 0, 1) := by decide +kernel
theorem dX_post_45 : decode cX_post 45 = .ok (.getfield 28, 3) := by decide +kernel
theorem dX_post_48 : decode cX_post 48 = .ok (.aload_n 0, 1) := by decide +kernel
theorem dX_post_49 : decode cX_post 49 = .ok (.getfield 69, 3) := by decide +kernel
theorem dX_post_52 : decode cX_post 52 = .ok (.aaload, 1) := by decide +kernel
theorem dX_post_53 : decode cX_post 53 = .ok (.iload_n 1, 1) := by decide +kernel
theorem dX_post_54 : decode cX_post 54 = .ok (.iload_n 2, 1) := by decide +kernel
theorem dX_post_55 : decode cX_post 55 = .ok (.aload_n 0, 1) := by decide +kernel
theorem dX_post_56 : decode cX_post 56 = .ok (.getfield 12, 3) := by decide +kernel
theorem dX_post_59 : decode cX_post 59 = .ok (.invokevirtual 75, 3) := by decide +kernel
theorem dX_post_62 : decode cX_post 62 = .ok (.aload_n 0, 1) := by decide +kernel
theorem dX_post_63 : decode cX_post 63 = .ok (.getfield 12, 3) := by decide +kernel
theorem dX_post_66 : decode cX_post 66 = .ok (.invokevirtual 62, 3) := by decide +kernel
theorem dX_post_69 : decode cX_post 69 = .ok (.aload_n 0, 1) := by decide +kernel
theorem dX_post_70 : decode cX_post 70 = .ok (.dup, 1) := by decide +kernel
theorem dX_post_71 : decode cX_post 71 = .ok (.getfield 69, 3) := by decide +kernel
theorem dX_post_74 : decode cX_post 74 = .ok (.iconst 1, 1) := by decide +kernel
theorem dX_post_75 : decode cX_post 75 = .ok (.iadd, 1) := by decide +kernel
theorem dX_post_76 : decode cX_post 76 = .ok (.putfield 69, 3) := by decide +kernel
theorem dX_post_79 : decode cX_post 79 = .ok (.aload_n 0, 1) := by decide +kernel
theorem dX_post_80 : decode cX_post 80 = .ok (.getfield 69, 3) := by decide +kernel
theorem dX_post_83 : decode cX_post 83 = .ok (.iconst 1, 1) := by decide +kernel
theorem dX_post_84 : decode cX_post 84 = .ok (.isub, 1) := by decide +kernel
theorem dX_post_85 : decode cX_post 85 = .ok (.ireturn, 1) := by decide +kernel
abbrev cX_write : ByteArray := prog_1_method_7_code
def yX_write : MethodName := ⟨"PostIndex", "write", "(I)I"⟩
def fX_write (d : Nat) : zF := (cX_write, 4, yX_write, (some .int), d, 0, 0)
theorem meX_write (d : Nat) : zMe (fX_write d) 1 := ⟨(zA2 (i := 10) rfl rfl), (zA1 (i := 1) rfl rfl), by show "PostIndex" ≠ _; decide +kernel, by show "PostIndex" ≠ _; decide +kernel, by show (parseMethodDescriptor "(I)I").map _ = _; decide +kernel⟩
theorem dX_write_0 : decode cX_write 0 = .ok (.iload_n 1, 1) := by decide +kernel
theorem dX_write_1 : decode cX_write 1 = .ok (.invokestatic 79, 3) := by decide +kernel
theorem dX_write_4 : decode cX_write 4 = .ok (.istore_n 2, 1) := by decide +kernel
theorem dX_write_5 : decode cX_write 5 = .ok (.iconst 0, 1) := by decide +kernel
theorem dX_write_6 : decode cX_write 6 = .ok (.istore_n 3, 1) := by decide +kernel
theorem dX_write_7 : decode cX_write 7 = .ok (.iload_n 3, 1) := by decide +kernel
theorem dX_write_8 : decode cX_write 8 = .ok (.iload_n 2, 1) := by decide +kernel
theorem dX_write_9 : decode cX_write 9 = .ok (.if_icmp .ge 28, 3) := by decide +kernel
theorem dX_write_12 : decode cX_write 12 = .ok (.aload_n 0, 1) := by decide +kernel
theorem dX_write_13 : decode cX_write 13 = .ok (.getfield 72, 3) := by decide +kernel
theorem dX_write_16 : decode cX_write 16 = .ok (.aload_n 0, 1) := by decide +kernel
theorem dX_write_17 : decode cX_write 17 = .ok (.getfield 69, 3) := by decide +kernel
theorem dX_write_20 : decode cX_write 20 = .ok (.if_icmp .ge 17, 3) := by decide +kernel
theorem dX_write_23 : decode cX_write 23 = .ok (.aload_n 0, 1) := by decide +kernel
theorem dX_write_24 : decode cX_write 24 = .ok (.aload_n 0, 1) := by decide +kernel
theorem dX_write_25 : decode cX_write 25 = .ok (.getfield 72, 3) := by decide +kernel
theorem dX_write_28 : decode cX_write 28 = .ok (.invokevirtual 83, 3) := by decide +kernel
theorem dX_write_31 : decode cX_write 31 = .ok (.iinc 3 1, 3) := by decide +kernel
theorem dX_write_34 : decode cX_write 34 = .ok (.goto (-27), 3) := by decide +kernel
theorem dX_write_37 : decode cX_write 37 = .ok (.iload_n 3, 1) := by decide +kernel
theorem dX_write_38 : decode cX_write 38 = .ok (.ireturn, 1) := by decide +kernel
abbrev cX_published : ByteArray := prog_1_method_8_code
def yX_published : MethodName := ⟨"PostIndex", "published", "()I"⟩
def fX_published (d : Nat) : zF := (cX_published, 1, yX_published, (some .int), d, 0, 0)
theorem meX_published (d : Nat) : zMe (fX_published d) 0 := ⟨(zA2 (i := 62) rfl rfl), (zA1 (i := 1) rfl rfl), by show "PostIndex" ≠ _; decide +kernel, by show "PostIndex" ≠ _; decide +kernel, by show (parseMethodDescriptor "()I").map _ = _; decide +kernel⟩
theorem dX_published_0 : decode cX_published 0 = .ok (.aload_n 0, 1) := by decide +kernel
theorem dX_published_1 : decode cX_published 1 = .ok (.getfield 72, 3) := by decide +kernel
theorem dX_published_4 : decode cX_published 4 = .ok (.ireturn, 1) := by decide +kernel
abbrev cX_erase : ByteArray := prog_1_method_9_code
def yX_erase : MethodName := ⟨"PostIndex", "erase", "(I)Z"⟩
def fX_erase (d : Nat) : zF := (cX_erase, 2, yX_erase, (some .boolean), d, 0, 0)
theorem meX_erase (d : Nat) : zMe (fX_erase d) 1 := ⟨(zA2 (i := 66) rfl rfl), (zA1 (i := 1) rfl rfl), by show "PostIndex" ≠ _; decide +kernel, by show "PostIndex" ≠ _; decide +kernel, by show (parseMethodDescriptor "(I)Z").map _ = _; decide +kernel⟩
theorem dX_erase_0 : decode cX_erase 0 = .ok (.aload_n 0, 1) := by decide +kernel
theorem dX_erase_1 : decode cX_erase 1 = .ok (.iload_n 1, 1) := by decide +kernel
theorem dX_erase_2 : decode cX_erase 2 = .ok (.invokevirtual 51, 3) := by decide +kernel
theorem dX_erase_5 : decode cX_erase 5 = .ok (.ifCond .ne 5, 3) := by decide +kernel
theorem dX_erase_8 : decode cX_erase 8 = .ok (.iconst 0, 1) := by decide +kernel
theorem dX_erase_9 : decode cX_erase 9 = .ok (.ireturn, 1) := by decide +kernel
theorem dX_erase_10 : decode cX_erase 10 = .ok (.aload_n 0, 1) := by decide +kernel
theorem dX_erase_11 : decode cX_erase 11 = .ok (.getfield 28, 3) := by decide +kernel
theorem dX_erase_14 : decode cX_erase 14 = .ok (.iload_n 1, 1) := by decide +kernel
theorem dX_erase_15 : decode cX_erase 15 = .ok (.aaload, 1) := by decide +kernel
theorem dX_erase_16 : decode cX_erase 16 = .ok (.iconst 1, 1) := by decide +kernel
theorem dX_erase_17 : decode cX_erase 17 = .ok (.putfield 87, 3) := by decide +kernel
theorem flX_87 : zFldN "PostIndex" 87 0 3 4 := ⟨RP, TP, "PostIndex", rfl, by decide, inP, by decide +kernel⟩
theorem dX_erase_20 : decode cX_erase 20 = .ok (.iconst 1, 1) := by decide +kernel
theorem dX_erase_21 : decode cX_erase 21 = .ok (.ireturn, 1) := by decide +kernel
abbrev cX_pack : ByteArray := prog_1_method_10_code
def yX_pack : MethodName := ⟨"PostIndex", "pack", "(I)I"⟩
def fX_pack (d : Nat) : zF := (cX_pack, 5, yX_pack, (some .int), d, 0, 0)
theorem meX_pack (d : Nat) : zMe (fX_pack d) 1 := ⟨(zA2 (i := 70) rfl rfl), (zA1 (i := 1) rfl rfl), by show "PostIndex" ≠ _; decide +kernel, by show "PostIndex" ≠ _; decide +kernel, by show (parseMethodDescriptor "(I)I").map _ = _; decide +kernel⟩
theorem dX_pack_0 : decode cX_pack 0 = .ok (.iload_n 1, 1) := by decide +kernel
theorem dX_pack_1 : decode cX_pack 1 = .ok (.invokestatic 79, 3) := by decide +kernel
theorem dX_pack_4 : decode cX_pack 4 = .ok (.istore_n 2, 1) := by decide +kernel
theorem dX_pack_5 : decode cX_pack 5 = .ok (.iconst 0, 1) := by decide +kernel
theorem dX_pack_6 : decode cX_pack 6 = .ok (.istore_n 3, 1) := by decide +kernel
theorem dX_pack_7 : decode cX_pack 7 = .ok (.iload_n 3, 1) := by decide +kernel
theorem dX_pack_8 : decode cX_pack 8 = .ok (.iload_n 2, 1) := by decide +kernel
theorem dX_pack_9 : decode cX_pack 9 = .ok (.if_icmp .ge 32, 3) := by decide +kernel
theorem dX_pack_12 : decode cX_pack 12 = .ok (.aload_n 0, 1) := by decide +kernel
theorem dX_pack_13 : decode cX_pack 13 = .ok (.invokevirtual 91, 3) := by decide +kernel
theorem dX_pack_16 : decode cX_pack 16 = .ok (.istore 4, 2) := by decide +kernel
theorem dX_pack_18 : decode cX_pack 18 = .ok (.iload 4, 2) := by decide +kernel
theorem dX_pack_20 : decode cX_pack 20 = .ok (.ifCond .ge 5, 3) := by decide +kernel
theorem dX_pack_23 : decode cX_pack 23 = .ok (.iload_n 3, 1) := by decide +kernel
theorem dX_pack_24 : decode cX_pack 24 = .ok (.ireturn, 1) := by decide +kernel
theorem dX_pack_25 : decode cX_pack 25 = .ok (.aload_n 0, 1) := by decide +kernel
theorem dX_pack_26 : decode cX_pack 26 = .ok (.getfield 35, 3) := by decide +kernel
theorem dX_pack_29 : decode cX_pack 29 = .ok (.iload 4, 2) := by decide +kernel
theorem dX_pack_31 : decode cX_pack 31 = .ok (.aaload, 1) := by decide +kernel
theorem dX_pack_32 : decode cX_pack 32 = .ok (.invokevirtual 95, 3) := by decide +kernel
theorem dX_pack_35 : decode cX_pack 35 = .ok (.iinc 3 1, 3) := by decide +kernel
theorem dX_pack_38 : decode cX_pack 38 = .ok (.goto (-31), 3) := by decide +kernel
theorem dX_pack_41 : decode cX_pack 41 = .ok (.iload_n 2, 1) := by decide +kernel
theorem dX_pack_42 : decode cX_pack 42 = .ok (.ireturn, 1) := by decide +kernel
abbrev cX_search : ByteArray := prog_1_method_11_code
def yX_search : MethodName := ⟨"PostIndex", "search", "()I"⟩
def fX_search (d : Nat) : zF := (cX_search, 3, yX_search, (some .int), d, 0, 0)
theorem meX_search (d : Nat) : zMe (fX_search d) 0 := ⟨(zA2 (i := 86) rfl rfl), (zA1 (i := 1) rfl rfl), by show "PostIndex" ≠ _; decide +kernel, by show "PostIndex" ≠ _; decide +kernel, by show (parseMethodDescriptor "()I").map _ = _; decide +kernel⟩
theorem dX_search_0 : decode cX_search 0 = .ok (.aload_n 0, 1) := by decide +kernel
theorem dX_search_1 : decode cX_search 1 = .ok (.getfield 22, 3) := by decide +kernel
theorem dX_search_4 : decode cX_search 4 = .ok (.aload_n 0, 1) := by decide +kernel
theorem dX_search_5 : decode cX_search 5 = .ok (.getfield 12, 3) := by decide +kernel
theorem dX_search_8 : decode cX_search 8 = .ok (.invokevirtual 98, 3) := by decide +kernel
theorem dX_search_11 : decode cX_search 11 = .ok (.ifCond .ne 5, 3) := by decide +kernel
theorem dX_search_14 : decode cX_search 14 = .ok (.iconst (-1), 1) := by decide +kernel
theorem dX_search_15 : decode cX_search 15 = .ok (.ireturn, 1) := by decide +kernel
theorem dX_search_16 : decode cX_search 16 = .ok (.aload_n 0, 1) := by decide +kernel
theorem dX_search_17 : decode cX_search 17 = .ok (.invokevirtual 102, 3) := by decide +kernel
theorem dX_search_20 : decode cX_search 20 = .ok (.istore_n 1, 1) := by decide +kernel
theorem dX_search_21 : decode cX_search 21 = .ok (.iload_n 1, 1) := by decide +kernel
theorem dX_search_22 : decode cX_search 22 = .ok (.ifCond .lt 12, 3) := by decide +kernel
theorem dX_search_25 : decode cX_search 25 = .ok (.aload_n 0, 1) := by decide +kernel
theorem dX_search_26 : decode cX_search 26 = .ok (.getfield 105, 3) := by decide +kernel
theorem flX_105 : zFld "PostIndex" 105 6 8 12 := ⟨RX, TX, rfl, by decide, inX, (zA1 (i := 166) rfl rfl)⟩
theorem dX_search_29 : decode cX_search 29 = .ok (.bipush 24, 2) := by decide +kernel
theorem dX_search_31 : decode cX_search 31 = .ok (.if_icmp .lt 6, 3) := by decide +kernel
theorem dX_search_34 : decode cX_search 34 = .ok (.bipush (-2), 2) := by decide +kernel
theorem dX_search_36 : decode cX_search 36 = .ok (.ireturn, 1) := by decide +kernel
theorem dX_search_37 : decode cX_search 37 = .ok (.aload_n 0, 1) := by decide +kernel
theorem dX_search_38 : decode cX_search 38 = .ok (.getfield 42, 3) := by decide +kernel
theorem dX_search_41 : decode cX_search 41 = .ok (.iload_n 1, 1) := by decide +kernel
theorem dX_search_42 : decode cX_search 42 = .ok (.aaload, 1) := by decide +kernel
theorem dX_search_43 : decode cX_search 43 = .ok (.astore_n 2, 1) := by decide +kernel
theorem dX_search_44 : decode cX_search 44 = .ok (.aload_n 2, 1) := by decide +kernel
theorem dX_search_45 : decode cX_search 45 = .ok (.aload_n 0, 1) := by decide +kernel
theorem dX_search_46 : decode cX_search 46 = .ok (.getfield 22, 3) := by decide +kernel
theorem dX_search_49 : decode cX_search 49 = .ok (.aload_n 2, 1) := by decide +kernel
theorem dX_search_50 : decode cX_search 50 = .ok (.getfield 108, 3) := by decide +kernel
theorem flX_108 : zFldN "PostIndex" 108 3 0 3 := ⟨RH, TH, "PostIndex", rfl, by decide, inH, by decide +kernel⟩
theorem dX_search_53 : decode cX_search 53 = .ok (.invokevirtual 112, 3) := by decide +kernel
theorem dX_search_56 : decode cX_search 56 = .ok (.putfield 108, 3) := by decide +kernel
theorem dX_search_59 : decode cX_search 59 = .ok (.aload_n 2, 1) := by decide +kernel
theorem dX_search_60 : decode cX_search 60 = .ok (.aload_n 0, 1) := by decide +kernel
theorem dX_search_61 : decode cX_search 61 = .ok (.getfield 72, 3) := by decide +kernel
theorem dX_search_64 : decode cX_search 64 = .ok (.putfield 116, 3) := by decide +kernel
theorem flX_116 : zFldN "PostIndex" 116 3 1 3 := ⟨RH, TH, "PostIndex", rfl, by decide, inH, by decide +kernel⟩
theorem dX_search_67 : decode cX_search 67 = .ok (.aload_n 2, 1) := by decide +kernel
theorem dX_search_68 : decode cX_search 68 = .ok (.iconst 1, 1) := by decide +kernel
theorem dX_search_69 : decode cX_search 69 = .ok (.putfield 119, 3) := by decide +kernel
theorem flX_119 : zFldN "PostIndex" 119 3 2 3 := ⟨RH, TH, "PostIndex", rfl, by decide, inH, by decide +kernel⟩
theorem dX_search_72 : decode cX_search 72 = .ok (.aload_n 0, 1) := by decide +kernel
theorem dX_search_73 : decode cX_search 73 = .ok (.dup, 1) := by decide +kernel
theorem dX_search_74 : decode cX_search 74 = .ok (.getfield 105, 3) := by decide +kernel
theorem dX_search_77 : decode cX_search 77 = .ok (.iconst 1, 1) := by decide +kernel
theorem dX_search_78 : decode cX_search 78 = .ok (.iadd, 1) := by decide +kernel
theorem dX_search_79 : decode cX_search 79 = .ok (.putfield 105, 3) := by decide +kernel
theorem dX_search_82 : decode cX_search 82 = .ok (.aload_n 0, 1) := by decide +kernel
theorem dX_search_83 : decode cX_search 83 = .ok (.getfield 12, 3) := by decide +kernel
theorem dX_search_86 : decode cX_search 86 = .ok (.invokevirtual 62, 3) := by decide +kernel
theorem dX_search_89 : decode cX_search 89 = .ok (.iload_n 1, 1) := by decide +kernel
theorem dX_search_90 : decode cX_search 90 = .ok (.ireturn, 1) := by decide +kernel
abbrev cX_next : ByteArray := prog_1_method_12_code
def yX_next : MethodName := ⟨"PostIndex", "next", "(I)I"⟩
def fX_next (d : Nat) : zF := (cX_next, 4, yX_next, (some .int), d, 0, 0)
theorem meX_next (d : Nat) : zMe (fX_next d) 1 := ⟨(zA2 (i := 169) rfl rfl), (zA1 (i := 1) rfl rfl), by show "PostIndex" ≠ _; decide +kernel, by show "PostIndex" ≠ _; decide +kernel, by show (parseMethodDescriptor "(I)I").map _ = _; decide +kernel⟩
theorem dX_next_0 : decode cX_next 0 = .ok (.aload_n 0, 1) := by decide +kernel
theorem dX_next_1 : decode cX_next 1 = .ok (.iload_n 1, 1) := by decide +kernel
theorem dX_next_2 : decode cX_next 2 = .ok (.invokevirtual 122, 3) := by decide +kernel
theorem dX_next_5 : decode cX_next 5 = .ok (.ifCond .ne 5, 3) := by decide +kernel
theorem dX_next_8 : decode cX_next 8 = .ok (.iconst (-1), 1) := by decide +kernel
theorem dX_next_9 : decode cX_next 9 = .ok (.ireturn, 1) := by decide +kernel
theorem dX_next_10 : decode cX_next 10 = .ok (.aload_n 0, 1) := by decide +kernel
theorem dX_next_11 : decode cX_next 11 = .ok (.getfield 42, 3) := by decide +kernel
theorem dX_next_14 : decode cX_next 14 = .ok (.iload_n 1, 1) := by decide +kernel
theorem dX_next_15 : decode cX_next 15 = .ok (.aaload, 1) := by decide +kernel
theorem dX_next_16 : decode cX_next 16 = .ok (.astore_n 2, 1) := by decide +kernel
theorem dX_next_17 : decode cX_next 17 = .ok (.aload_n 2, 1) := by decide +kernel
theorem dX_next_18 : decode cX_next 18 = .ok (.getfield 116, 3) := by decide +kernel
theorem dX_next_21 : decode cX_next 21 = .ok (.iconst 1, 1) := by decide +kernel
theorem dX_next_22 : decode cX_next 22 = .ok (.isub, 1) := by decide +kernel
theorem dX_next_23 : decode cX_next 23 = .ok (.istore_n 3, 1) := by decide +kernel
theorem dX_next_24 : decode cX_next 24 = .ok (.iload_n 3, 1) := by decide +kernel
theorem dX_next_25 : decode cX_next 25 = .ok (.ifCond .lt 28, 3) := by decide +kernel
theorem dX_next_28 : decode cX_next 28 = .ok (.aload_n 0, 1) := by decide +kernel
theorem dX_next_29 : decode cX_next 29 = .ok (.aload_n 2, 1) := by decide +kernel
theorem dX_next_30 : decode cX_next 30 = .ok (.getfield 108, 3) := by decide +kernel
theorem dX_next_33 : decode cX_next 33 = .ok (.iload_n 3, 1) := by decide +kernel
theorem dX_next_34 : decode cX_next 34 = .ok (.invokevirtual 125, 3) := by decide +kernel
theorem dX_next_37 : decode cX_next 37 = .ok (.ifCond .eq 10, 3) := by decide +kernel
theorem dX_next_40 : decode cX_next 40 = .ok (.aload_n 2, 1) := by decide +kernel
theorem dX_next_41 : decode cX_next 41 = .ok (.iload_n 3, 1) := by decide +kernel
theorem dX_next_42 : decode cX_next 42 = .ok (.putfield 116, 3) := by decide +kernel
theorem dX_next_45 : decode cX_next 45 = .ok (.iload_n 3, 1) := by decide +kernel
theorem dX_next_46 : decode cX_next 46 = .ok (.ireturn, 1) := by decide +kernel
theorem dX_next_47 : decode cX_next 47 = .ok (.iinc 3 (-1), 3) := by decide +kernel
theorem dX_next_50 : decode cX_next 50 = .ok (.goto (-26), 3) := by decide +kernel
theorem dX_next_53 : decode cX_next 53 = .ok (.iconst (-1), 1) := by decide +kernel
theorem dX_next_54 : decode cX_next 54 = .ok (.ireturn, 1) := by decide +kernel
abbrev cX_left : ByteArray := prog_1_method_13_code
def yX_left : MethodName := ⟨"PostIndex", "left", "(I)I"⟩
def fX_left (d : Nat) : zF := (cX_left, 5, yX_left, (some .int), d, 0, 0)
theorem meX_left (d : Nat) : zMe (fX_left d) 1 := ⟨(zA2 (i := 197) rfl rfl), (zA1 (i := 1) rfl rfl), by show "PostIndex" ≠ _; decide +kernel, by show "PostIndex" ≠ _; decide +kernel, by show (parseMethodDescriptor "(I)I").map _ = _; decide +kernel⟩
theorem dX_left_0 : decode cX_left 0 = .ok (.aload_n 0, 1) := by decide +kernel
theorem dX_left_1 : decode cX_left 1 = .ok (.iload_n 1, 1) := by decide +kernel
theorem dX_left_2 : decode cX_left 2 = .ok (.invokevirtual 122, 3) := by decide +kernel
theorem dX_left_5 : decode cX_left 5 = .ok (.ifCond .ne 5, 3) := by decide +kernel
theorem dX_left_8 : decode cX_left 8 = .ok (.iconst (-1), 1) := by decide +kernel
theorem dX_left_9 : decode cX_left 9 = .ok (.ireturn, 1) := by decide +kernel
theorem dX_left_10 : decode cX_left 10 = .ok (.aload_n 0, 1) := by decide +kernel
theorem dX_left_11 : decode cX_left 11 = .ok (.getfield 42, 3) := by decide +kernel
theorem dX_left_14 : decode cX_left 14 = .ok (.iload_n 1, 1) := by decide +kernel
theorem dX_left_15 : decode cX_left 15 = .ok (.aaload, 1) := by decide +kernel
theorem dX_left_16 : decode cX_left 16 = .ok (.astore_n 2, 1) := by decide +kernel
theorem dX_left_17 : decode cX_left 17 = .ok (.iconst 0, 1) := by decide +kernel
theorem dX_left_18 : decode cX_left 18 = .ok (.istore_n 3, 1) := by decide +kernel
theorem dX_left_19 : decode cX_left 19 = .ok (.iconst 0, 1) := by decide +kernel
theorem dX_left_20 : decode cX_left 20 = .ok (.istore 4, 2) := by decide +kernel
theorem dX_left_22 : decode cX_left 22 = .ok (.iload 4, 2) := by decide +kernel
theorem dX_left_24 : decode cX_left 24 = .ok (.aload_n 2, 1) := by decide +kernel
theorem dX_left_25 : decode cX_left 25 = .ok (.getfield 116, 3) := by decide +kernel
theorem dX_left_28 : decode cX_left 28 = .ok (.if_icmp .ge 25, 3) := by decide +kernel
theorem dX_left_31 : decode cX_left 31 = .ok (.aload_n 0, 1) := by decide +kernel
theorem dX_left_32 : decode cX_left 32 = .ok (.aload_n 2, 1) := by decide +kernel
theorem dX_left_33 : decode cX_left 33 = .ok (.getfield 108, 3) := by decide +kernel
theorem dX_left_36 : decode cX_left 36 = .ok (.iload 4, 2) := by decide +kernel
theorem dX_left_38 : decode cX_left 38 = .ok (.invokevirtual 125, 3) := by decide +kernel
theorem dX_left_41 : decode cX_left 41 = .ok (.ifCond .eq 6, 3) := by decide +kernel
theorem dX_left_44 : decode cX_left 44 = .ok (.iinc 3 1, 3) := by decide +kernel
theorem dX_left_47 : decode cX_left 47 = .ok (.iinc 4 1, 3) := by decide +kernel
theorem dX_left_50 : decode cX_left 50 = .ok (.goto (-28), 3) := by decide +kernel
theorem dX_left_53 : decode cX_left 53 = .ok (.iload_n 3, 1) := by decide +kernel
theorem dX_left_54 : decode cX_left 54 = .ok (.ireturn, 1) := by decide +kernel
abbrev cX_close : ByteArray := prog_1_method_14_code
def yX_close : MethodName := ⟨"PostIndex", "close", "(I)Z"⟩
def fX_close (d : Nat) : zF := (cX_close, 2, yX_close, (some .boolean), d, 0, 0)
theorem meX_close (d : Nat) : zMe (fX_close d) 1 := ⟨(zA2 (i := 201) rfl rfl), (zA1 (i := 1) rfl rfl), by show "PostIndex" ≠ _; decide +kernel, by show "PostIndex" ≠ _; decide +kernel, by show (parseMethodDescriptor "(I)Z").map _ = _; decide +kernel⟩
theorem dX_close_0 : decode cX_close 0 = .ok (.aload_n 0, 1) := by decide +kernel
theorem dX_close_1 : decode cX_close 1 = .ok (.iload_n 1, 1) := by decide +kernel
theorem dX_close_2 : decode cX_close 2 = .ok (.invokevirtual 122, 3) := by decide +kernel
theorem dX_close_5 : decode cX_close 5 = .ok (.ifCond .ne 5, 3) := by decide +kernel
theorem dX_close_8 : decode cX_close 8 = .ok (.iconst 0, 1) := by decide +kernel
theorem dX_close_9 : decode cX_close 9 = .ok (.ireturn, 1) := by decide +kernel
theorem dX_close_10 : decode cX_close 10 = .ok (.aload_n 0, 1) := by decide +kernel
theorem dX_close_11 : decode cX_close 11 = .ok (.getfield 42, 3) := by decide +kernel
theorem dX_close_14 : decode cX_close 14 = .ok (.iload_n 1, 1) := by decide +kernel
theorem dX_close_15 : decode cX_close 15 = .ok (.aaload, 1) := by decide +kernel
theorem dX_close_16 : decode cX_close 16 = .ok (.iconst 0, 1) := by decide +kernel
theorem dX_close_17 : decode cX_close 17 = .ok (.putfield 119, 3) := by decide +kernel
theorem dX_close_20 : decode cX_close 20 = .ok (.iconst 1, 1) := by decide +kernel
theorem dX_close_21 : decode cX_close 21 = .ok (.ireturn, 1) := by decide +kernel
abbrev cX_form : ByteArray := prog_1_method_15_code
def yX_form : MethodName := ⟨"PostIndex", "form", "(I)I"⟩
def fX_form (d : Nat) : zF := (cX_form, 2, yX_form, (some .int), d, 0, 0)
theorem meX_form (d : Nat) : zMe (fX_form d) 1 := ⟨(zA2 (i := 205) rfl rfl), (zA1 (i := 1) rfl rfl), by show "PostIndex" ≠ _; decide +kernel, by show "PostIndex" ≠ _; decide +kernel, by show (parseMethodDescriptor "(I)I").map _ = _; decide +kernel⟩
theorem dX_form_0 : decode cX_form 0 = .ok (.iload_n 1, 1) := by decide +kernel
theorem dX_form_1 : decode cX_form 1 = .ok (.ifCond .lt 11, 3) := by decide +kernel
theorem dX_form_4 : decode cX_form 4 = .ok (.iload_n 1, 1) := by decide +kernel
theorem dX_form_5 : decode cX_form 5 = .ok (.aload_n 0, 1) := by decide +kernel
theorem dX_form_6 : decode cX_form 6 = .ok (.getfield 129, 3) := by decide +kernel
theorem flX_129 : zFld "PostIndex" 129 6 7 12 := ⟨RX, TX, rfl, by decide, inX, (zA1 (i := 165) rfl rfl)⟩
theorem dX_form_9 : decode cX_form 9 = .ok (.if_icmp .lt 5, 3) := by decide +kernel
theorem dX_form_12 : decode cX_form 12 = .ok (.iconst (-1), 1) := by decide +kernel
theorem dX_form_13 : decode cX_form 13 = .ok (.ireturn, 1) := by decide +kernel
theorem dX_form_14 : decode cX_form 14 = .ok (.aload_n 0, 1) := by decide +kernel
theorem dX_form_15 : decode cX_form 15 = .ok (.iload_n 1, 1) := by decide +kernel
theorem dX_form_16 : decode cX_form 16 = .ok (.invokevirtual 132, 3) := by decide +kernel
theorem dX_form_19 : decode cX_form 19 = .ok (.ifCond .ne 5, 3) := by decide +kernel
theorem dX_form_22 : decode cX_form 22 = .ok (.iconst 4, 1) := by decide +kernel
theorem dX_form_23 : decode cX_form 23 = .ok (.ireturn, 1) := by decide +kernel
theorem dX_form_24 : decode cX_form 24 = .ok (.aload_n 0, 1) := by decide +kernel
theorem dX_form_25 : decode cX_form 25 = .ok (.iload_n 1, 1) := by decide +kernel
theorem dX_form_26 : decode cX_form 26 = .ok (.invokevirtual 135, 3) := by decide +kernel
theorem dX_form_29 : decode cX_form 29 = .ok (.ifCond .ne 5, 3) := by decide +kernel
theorem dX_form_32 : decode cX_form 32 = .ok (.iconst 0, 1) := by decide +kernel
theorem dX_form_33 : decode cX_form 33 = .ok (.ireturn, 1) := by decide +kernel
theorem dX_form_34 : decode cX_form 34 = .ok (.aload_n 0, 1) := by decide +kernel
theorem dX_form_35 : decode cX_form 35 = .ok (.getfield 35, 3) := by decide +kernel
theorem dX_form_38 : decode cX_form 38 = .ok (.iload_n 1, 1) := by decide +kernel
theorem dX_form_39 : decode cX_form 39 = .ok (.aaload, 1) := by decide +kernel
theorem dX_form_40 : decode cX_form 40 = .ok (.getfield 138, 3) := by decide +kernel
theorem flX_138 : zFldN "PostIndex" 138 4 4 5 := ⟨RS, TS, "PostIndex", rfl, by decide, inS, by decide +kernel⟩
theorem dX_form_43 : decode cX_form 43 = .ok (.ifCond .eq 5, 3) := by decide +kernel
theorem dX_form_46 : decode cX_form 46 = .ok (.iconst 3, 1) := by decide +kernel
theorem dX_form_47 : decode cX_form 47 = .ok (.ireturn, 1) := by decide +kernel
theorem dX_form_48 : decode cX_form 48 = .ok (.aload_n 0, 1) := by decide +kernel
theorem dX_form_49 : decode cX_form 49 = .ok (.getfield 35, 3) := by decide +kernel
theorem dX_form_52 : decode cX_form 52 = .ok (.iload_n 1, 1) := by decide +kernel
theorem dX_form_53 : decode cX_form 53 = .ok (.aaload, 1) := by decide +kernel
theorem dX_form_54 : decode cX_form 54 = .ok (.getfield 141, 3) := by decide +kernel
theorem flX_141 : zFldN "PostIndex" 141 4 3 5 := ⟨RS, TS, "PostIndex", rfl, by decide, inS, by decide +kernel⟩
theorem dX_form_57 : decode cX_form 57 = .ok (.ifCond .le 7, 3) := by decide +kernel
theorem dX_form_60 : decode cX_form 60 = .ok (.iconst 2, 1) := by decide +kernel
theorem dX_form_61 : decode cX_form 61 = .ok (.goto 4, 3) := by decide +kernel
theorem dX_form_64 : decode cX_form 64 = .ok (.iconst 1, 1) := by decide +kernel
theorem dX_form_65 : decode cX_form 65 = .ok (.ireturn, 1) := by decide +kernel
abbrev cX_size : ByteArray := prog_1_method_16_code
def yX_size : MethodName := ⟨"PostIndex", "size", "(I)I"⟩
def fX_size (d : Nat) : zF := (cX_size, 2, yX_size, (some .int), d, 0, 0)
theorem meX_size (d : Nat) : zMe (fX_size d) 1 := ⟨(zA2 (i := 209) rfl rfl), (zA1 (i := 1) rfl rfl), by show "PostIndex" ≠ _; decide +kernel, by show "PostIndex" ≠ _; decide +kernel, by show (parseMethodDescriptor "(I)I").map _ = _; decide +kernel⟩
theorem dX_size_0 : decode cX_size 0 = .ok (.aload_n 0, 1) := by decide +kernel
theorem dX_size_1 : decode cX_size 1 = .ok (.iload_n 1, 1) := by decide +kernel
theorem dX_size_2 : decode cX_size 2 = .ok (.invokevirtual 132, 3) := by decide +kernel
theorem dX_size_5 : decode cX_size 5 = .ok (.ifCond .eq 15, 3) := by decide +kernel
theorem dX_size_8 : decode cX_size 8 = .ok (.aload_n 0, 1) := by decide +kernel
theorem dX_size_9 : decode cX_size 9 = .ok (.getfield 35, 3) := by decide +kernel
theorem dX_size_12 : decode cX_size 12 = .ok (.iload_n 1, 1) := by decide +kernel
theorem dX_size_13 : decode cX_size 13 = .ok (.aaload, 1) := by decide +kernel
theorem dX_size_14 : decode cX_size 14 = .ok (.invokevirtual 144, 3) := by decide +kernel
theorem dX_size_17 : decode cX_size 17 = .ok (.goto 4, 3) := by decide +kernel
theorem dX_size_20 : decode cX_size 20 = .ok (.iconst (-1), 1) := by decide +kernel
theorem dX_size_21 : decode cX_size 21 = .ok (.ireturn, 1) := by decide +kernel
abbrev cX_terms : ByteArray := prog_1_method_17_code
def yX_terms : MethodName := ⟨"PostIndex", "terms", "(I)I"⟩
def fX_terms (d : Nat) : zF := (cX_terms, 2, yX_terms, (some .int), d, 0, 0)
theorem meX_terms (d : Nat) : zMe (fX_terms d) 1 := ⟨(zA2 (i := 229) rfl rfl), (zA1 (i := 1) rfl rfl), by show "PostIndex" ≠ _; decide +kernel, by show "PostIndex" ≠ _; decide +kernel, by show (parseMethodDescriptor "(I)I").map _ = _; decide +kernel⟩
theorem dX_terms_0 : decode cX_terms 0 = .ok (.aload_n 0, 1) := by decide +kernel
theorem dX_terms_1 : decode cX_terms 1 = .ok (.iload_n 1, 1) := by decide +kernel
theorem dX_terms_2 : decode cX_terms 2 = .ok (.invokevirtual 132, 3) := by decide +kernel
theorem dX_terms_5 : decode cX_terms 5 = .ok (.ifCond .eq 15, 3) := by decide +kernel
theorem dX_terms_8 : decode cX_terms 8 = .ok (.aload_n 0, 1) := by decide +kernel
theorem dX_terms_9 : decode cX_terms 9 = .ok (.getfield 35, 3) := by decide +kernel
theorem dX_terms_12 : decode cX_terms 12 = .ok (.iload_n 1, 1) := by decide +kernel
theorem dX_terms_13 : decode cX_terms 13 = .ok (.aaload, 1) := by decide +kernel
theorem dX_terms_14 : decode cX_terms 14 = .ok (.getfield 147, 3) := by decide +kernel
theorem flX_147 : zFldN "PostIndex" 147 4 2 5 := ⟨RS, TS, "PostIndex", rfl, by decide, inS, by decide +kernel⟩
theorem dX_terms_17 : decode cX_terms 17 = .ok (.goto 4, 3) := by decide +kernel
theorem dX_terms_20 : decode cX_terms 20 = .ok (.iconst (-1), 1) := by decide +kernel
theorem dX_terms_21 : decode cX_terms 21 = .ok (.ireturn, 1) := by decide +kernel
abbrev cX_postings : ByteArray := prog_1_method_18_code
def yX_postings : MethodName := ⟨"PostIndex", "postings", "(I)I"⟩
def fX_postings (d : Nat) : zF := (cX_postings, 2, yX_postings, (some .int), d, 0, 0)
theorem meX_postings (d : Nat) : zMe (fX_postings d) 1 := ⟨(zA2 (i := 233) rfl rfl), (zA1 (i := 1) rfl rfl), by show "PostIndex" ≠ _; decide +kernel, by show "PostIndex" ≠ _; decide +kernel, by show (parseMethodDescriptor "(I)I").map _ = _; decide +kernel⟩
theorem dX_postings_0 : decode cX_postings 0 = .ok (.aload_n 0, 1) := by decide +kernel
theorem dX_postings_1 : decode cX_postings 1 = .ok (.iload_n 1, 1) := by decide +kernel
theorem dX_postings_2 : decode cX_postings 2 = .ok (.invokevirtual 132, 3) := by decide +kernel
theorem dX_postings_5 : decode cX_postings 5 = .ok (.ifCond .eq 15, 3) := by decide +kernel
theorem dX_postings_8 : decode cX_postings 8 = .ok (.aload_n 0, 1) := by decide +kernel
theorem dX_postings_9 : decode cX_postings 9 = .ok (.getfield 35, 3) := by decide +kernel
theorem dX_postings_12 : decode cX_postings 12 = .ok (.iload_n 1, 1) := by decide +kernel
theorem dX_postings_13 : decode cX_postings 13 = .ok (.aaload, 1) := by decide +kernel
theorem dX_postings_14 : decode cX_postings 14 = .ok (.invokevirtual 150, 3) := by decide +kernel
theorem dX_postings_17 : decode cX_postings 17 = .ok (.goto 4, 3) := by decide +kernel
theorem dX_postings_20 : decode cX_postings 20 = .ok (.iconst (-1), 1) := by decide +kernel
theorem dX_postings_21 : decode cX_postings 21 = .ok (.ireturn, 1) := by decide +kernel
abbrev cX_unitsAsked : ByteArray := prog_1_method_19_code
def yX_unitsAsked : MethodName := ⟨"PostIndex", "unitsAsked", "(I)I"⟩
def fX_unitsAsked (d : Nat) : zF := (cX_unitsAsked, 1, yX_unitsAsked, (some .int), d, 0, 0)
theorem meX_unitsAsked (d : Nat) : zMe (fX_unitsAsked d) 1 := ⟨(zA2 (i := 13) rfl rfl), (zA1 (i := 1) rfl rfl), by show "PostIndex" ≠ _; decide +kernel, by show "PostIndex" ≠ _; decide +kernel, by show (parseMethodDescriptor "(I)I").map _ = _; decide +kernel⟩
theorem dX_unitsAsked_0 : decode cX_unitsAsked 0 = .ok (.iload_n 0, 1) := by decide +kernel
theorem dX_unitsAsked_1 : decode cX_unitsAsked 1 = .ok (.iconst 1, 1) := by decide +kernel
theorem dX_unitsAsked_2 : decode cX_unitsAsked 2 = .ok (.if_icmp .lt 13, 3) := by decide +kernel
theorem dX_unitsAsked_5 : decode cX_unitsAsked 5 = .ok (.iload_n 0, 1) := by decide +kernel
theorem dX_unitsAsked_6 : decode cX_unitsAsked 6 = .ok (.bipush 6, 2) := by decide +kernel
theorem dX_unitsAsked_8 : decode cX_unitsAsked 8 = .ok (.if_icmp .gt 7, 3) := by decide +kernel
theorem dX_unitsAsked_11 : decode cX_unitsAsked 11 = .ok (.iload_n 0, 1) := by decide +kernel
theorem dX_unitsAsked_12 : decode cX_unitsAsked 12 = .ok (.goto 4, 3) := by decide +kernel
theorem dX_unitsAsked_15 : decode cX_unitsAsked 15 = .ok (.iconst 0, 1) := by decide +kernel
theorem dX_unitsAsked_16 : decode cX_unitsAsked 16 = .ok (.ireturn, 1) := by decide +kernel
abbrev cX_isLive : ByteArray := prog_1_method_20_code
def yX_isLive : MethodName := ⟨"PostIndex", "isLive", "(I)Z"⟩
def fX_isLive (d : Nat) : zF := (cX_isLive, 2, yX_isLive, (some .boolean), d, 0, 0)
theorem meX_isLive (d : Nat) : zMe (fX_isLive d) 1 := ⟨(zA1 (i := 214) rfl rfl), (zA1 (i := 1) rfl rfl), by show "PostIndex" ≠ _; decide +kernel, by show "PostIndex" ≠ _; decide +kernel, by show (parseMethodDescriptor "(I)Z").map _ = _; decide +kernel⟩
theorem dX_isLive_0 : decode cX_isLive 0 = .ok (.iload_n 1, 1) := by decide +kernel
theorem dX_isLive_1 : decode cX_isLive 1 = .ok (.ifCond .lt 25, 3) := by decide +kernel
theorem dX_isLive_4 : decode cX_isLive 4 = .ok (.iload_n 1, 1) := by decide +kernel
theorem dX_isLive_5 : decode cX_isLive 5 = .ok (.aload_n 0, 1) := by decide +kernel
theorem dX_isLive_6 : decode cX_isLive 6 = .ok (.getfield 129, 3) := by decide +kernel
theorem dX_isLive_9 : decode cX_isLive 9 = .ok (.if_icmp .ge 17, 3) := by decide +kernel
theorem dX_isLive_12 : decode cX_isLive 12 = .ok (.aload_n 0, 1) := by decide +kernel
theorem dX_isLive_13 : decode cX_isLive 13 = .ok (.getfield 129, 3) := by decide +kernel
theorem dX_isLive_16 : decode cX_isLive 16 = .ok (.iload_n 1, 1) := by decide +kernel
theorem dX_isLive_17 : decode cX_isLive 17 = .ok (.isub, 1) := by decide +kernel
theorem dX_isLive_18 : decode cX_isLive 18 = .ok (.iconst 3, 1) := by decide +kernel
theorem dX_isLive_19 : decode cX_isLive 19 = .ok (.if_icmp .gt 7, 3) := by decide +kernel
theorem dX_isLive_22 : decode cX_isLive 22 = .ok (.iconst 1, 1) := by decide +kernel
theorem dX_isLive_23 : decode cX_isLive 23 = .ok (.goto 4, 3) := by decide +kernel
theorem dX_isLive_26 : decode cX_isLive 26 = .ok (.iconst 0, 1) := by decide +kernel
theorem dX_isLive_27 : decode cX_isLive 27 = .ok (.ireturn, 1) := by decide +kernel
abbrev cX_isFull : ByteArray := prog_1_method_21_code
def yX_isFull : MethodName := ⟨"PostIndex", "isFull", "(I)Z"⟩
def fX_isFull (d : Nat) : zF := (cX_isFull, 2, yX_isFull, (some .boolean), d, 0, 0)
theorem meX_isFull (d : Nat) : zMe (fX_isFull d) 1 := ⟨(zA2 (i := 78) rfl rfl), (zA1 (i := 1) rfl rfl), by show "PostIndex" ≠ _; decide +kernel, by show "PostIndex" ≠ _; decide +kernel, by show (parseMethodDescriptor "(I)Z").map _ = _; decide +kernel⟩
theorem dX_isFull_0 : decode cX_isFull 0 = .ok (.aload_n 0, 1) := by decide +kernel
theorem dX_isFull_1 : decode cX_isFull 1 = .ok (.getfield 72, 3) := by decide +kernel
theorem dX_isFull_4 : decode cX_isFull 4 = .ok (.iconst 4, 1) := by decide +kernel
theorem dX_isFull_5 : decode cX_isFull 5 = .ok (.iload_n 1, 1) := by decide +kernel
theorem dX_isFull_6 : decode cX_isFull 6 = .ok (.iconst 1, 1) := by decide +kernel
theorem dX_isFull_7 : decode cX_isFull 7 = .ok (.iadd, 1) := by decide +kernel
theorem dX_isFull_8 : decode cX_isFull 8 = .ok (.imul, 1) := by decide +kernel
theorem dX_isFull_9 : decode cX_isFull 9 = .ok (.if_icmp .lt 7, 3) := by decide +kernel
theorem dX_isFull_12 : decode cX_isFull 12 = .ok (.iconst 1, 1) := by decide +kernel
theorem dX_isFull_13 : decode cX_isFull 13 = .ok (.goto 4, 3) := by decide +kernel
theorem dX_isFull_16 : decode cX_isFull 16 = .ok (.iconst 0, 1) := by decide +kernel
theorem dX_isFull_17 : decode cX_isFull 17 = .ok (.ireturn, 1) := by decide +kernel
abbrev cX_stands : ByteArray := prog_1_method_22_code
def yX_stands : MethodName := ⟨"PostIndex", "stands", "(I)Z"⟩
def fX_stands (d : Nat) : zF := (cX_stands, 2, yX_stands, (some .boolean), d, 0, 0)
theorem meX_stands (d : Nat) : zMe (fX_stands d) 1 := ⟨(zA1 (i := 210) rfl rfl), (zA1 (i := 1) rfl rfl), by show "PostIndex" ≠ _; decide +kernel, by show "PostIndex" ≠ _; decide +kernel, by show (parseMethodDescriptor "(I)Z").map _ = _; decide +kernel⟩
theorem dX_stands_0 : decode cX_stands 0 = .ok (.iload_n 1, 1) := by decide +kernel
theorem dX_stands_1 : decode cX_stands 1 = .ok (.ifCond .lt 37, 3) := by decide +kernel
theorem dX_stands_4 : decode cX_stands 4 = .ok (.iload_n 1, 1) := by decide +kernel
theorem dX_stands_5 : decode cX_stands 5 = .ok (.aload_n 0, 1) := by decide +kernel
theorem dX_stands_6 : decode cX_stands 6 = .ok (.getfield 72, 3) := by decide +kernel
theorem dX_stands_9 : decode cX_stands 9 = .ok (.if_icmp .ge 29, 3) := by decide +kernel
theorem dX_stands_12 : decode cX_stands 12 = .ok (.aload_n 0, 1) := by decide +kernel
theorem dX_stands_13 : decode cX_stands 13 = .ok (.iload_n 1, 1) := by decide +kernel
theorem dX_stands_14 : decode cX_stands 14 = .ok (.iconst 4, 1) := by decide +kernel
theorem dX_stands_15 : decode cX_stands 15 = .ok (.idiv, 1) := by decide +kernel
theorem dX_stands_16 : decode cX_stands 16 = .ok (.invokevirtual 132, 3) := by decide +kernel
theorem dX_stands_19 : decode cX_stands 19 = .ok (.ifCond .eq 19, 3) := by decide +kernel
theorem dX_stands_22 : decode cX_stands 22 = .ok (.aload_n 0, 1) := by decide +kernel
theorem dX_stands_23 : decode cX_stands 23 = .ok (.getfield 28, 3) := by decide +kernel
theorem dX_stands_26 : decode cX_stands 26 = .ok (.iload_n 1, 1) := by decide +kernel
theorem dX_stands_27 : decode cX_stands 27 = .ok (.aaload, 1) := by decide +kernel
theorem dX_stands_28 : decode cX_stands 28 = .ok (.getfield 87, 3) := by decide +kernel
theorem dX_stands_31 : decode cX_stands 31 = .ok (.ifCond .ne 7, 3) := by decide +kernel
theorem dX_stands_34 : decode cX_stands 34 = .ok (.iconst 1, 1) := by decide +kernel
theorem dX_stands_35 : decode cX_stands 35 = .ok (.goto 4, 3) := by decide +kernel
theorem dX_stands_38 : decode cX_stands 38 = .ok (.iconst 0, 1) := by decide +kernel
theorem dX_stands_39 : decode cX_stands 39 = .ok (.ireturn, 1) := by decide +kernel
abbrev cX_isOpen : ByteArray := prog_1_method_23_code
def yX_isOpen : MethodName := ⟨"PostIndex", "isOpen", "(I)Z"⟩
def fX_isOpen (d : Nat) : zF := (cX_isOpen, 2, yX_isOpen, (some .boolean), d, 0, 0)
theorem meX_isOpen (d : Nat) : zMe (fX_isOpen d) 1 := ⟨(zA2 (i := 173) rfl rfl), (zA1 (i := 1) rfl rfl), by show "PostIndex" ≠ _; decide +kernel, by show "PostIndex" ≠ _; decide +kernel, by show (parseMethodDescriptor "(I)Z").map _ = _; decide +kernel⟩
theorem dX_isOpen_0 : decode cX_isOpen 0 = .ok (.iload_n 1, 1) := by decide +kernel
theorem dX_isOpen_1 : decode cX_isOpen 1 = .ok (.ifCond .lt 24, 3) := by decide +kernel
theorem dX_isOpen_4 : decode cX_isOpen 4 = .ok (.iload_n 1, 1) := by decide +kernel
theorem dX_isOpen_5 : decode cX_isOpen 5 = .ok (.iconst 3, 1) := by decide +kernel
theorem dX_isOpen_6 : decode cX_isOpen 6 = .ok (.if_icmp .ge 19, 3) := by decide +kernel
theorem dX_isOpen_9 : decode cX_isOpen 9 = .ok (.aload_n 0, 1) := by decide +kernel
theorem dX_isOpen_10 : decode cX_isOpen 10 = .ok (.getfield 42, 3) := by decide +kernel
theorem dX_isOpen_13 : decode cX_isOpen 13 = .ok (.iload_n 1, 1) := by decide +kernel
theorem dX_isOpen_14 : decode cX_isOpen 14 = .ok (.aaload, 1) := by decide +kernel
theorem dX_isOpen_15 : decode cX_isOpen 15 = .ok (.getfield 119, 3) := by decide +kernel
theorem dX_isOpen_18 : decode cX_isOpen 18 = .ok (.ifCond .eq 7, 3) := by decide +kernel
theorem dX_isOpen_21 : decode cX_isOpen 21 = .ok (.iconst 1, 1) := by decide +kernel
theorem dX_isOpen_22 : decode cX_isOpen 22 = .ok (.goto 4, 3) := by decide +kernel
theorem dX_isOpen_25 : decode cX_isOpen 25 = .ok (.iconst 0, 1) := by decide +kernel
theorem dX_isOpen_26 : decode cX_isOpen 26 = .ok (.ireturn, 1) := by decide +kernel
abbrev cX_freePlace : ByteArray := prog_1_method_24_code
def yX_freePlace : MethodName := ⟨"PostIndex", "freePlace", "()I"⟩
def fX_freePlace (d : Nat) : zF := (cX_freePlace, 2, yX_freePlace, (some .int), d, 0, 0)
theorem meX_freePlace (d : Nat) : zMe (fX_freePlace d) 0 := ⟨(zA2 (i := 161) rfl rfl), (zA1 (i := 1) rfl rfl), by show "PostIndex" ≠ _; decide +kernel, by show "PostIndex" ≠ _; decide +kernel, by show (parseMethodDescriptor "()I").map _ = _; decide +kernel⟩
theorem dX_freePlace_0 : decode cX_freePlace 0 = .ok (.iconst 0, 1) := by decide +kernel
theorem dX_freePlace_1 : decode cX_freePlace 1 = .ok (.istore_n 1, 1) := by decide +kernel
theorem dX_freePlace_2 : decode cX_freePlace 2 = .ok (.iload_n 1, 1) := by decide +kernel
theorem dX_freePlace_3 : decode cX_freePlace 3 = .ok (.iconst 3, 1) := by decide +kernel
theorem dX_freePlace_4 : decode cX_freePlace 4 = .ok (.if_icmp .ge 23, 3) := by decide +kernel
theorem dX_freePlace_7 : decode cX_freePlace 7 = .ok (.aload_n 0, 1) := by decide +kernel
theorem dX_freePlace_8 : decode cX_freePlace 8 = .ok (.getfield 42, 3) := by decide +kernel
theorem dX_freePlace_11 : decode cX_freePlace 11 = .ok (.iload_n 1, 1) := by decide +kernel
theorem dX_freePlace_12 : decode cX_freePlace 12 = .ok (.aaload, 1) := by decide +kernel
theorem dX_freePlace_13 : decode cX_freePlace 13 = .ok (.getfield 119, 3) := by decide +kernel
theorem dX_freePlace_16 : decode cX_freePlace 16 = .ok (.ifCond .ne 5, 3) := by decide +kernel
theorem dX_freePlace_19 : decode cX_freePlace 19 = .ok (.iload_n 1, 1) := by decide +kernel
theorem dX_freePlace_20 : decode cX_freePlace 20 = .ok (.ireturn, 1) := by decide +kernel
theorem dX_freePlace_21 : decode cX_freePlace 21 = .ok (.iinc 1 1, 3) := by decide +kernel
theorem dX_freePlace_24 : decode cX_freePlace 24 = .ok (.goto (-22), 3) := by decide +kernel
theorem dX_freePlace_27 : decode cX_freePlace 27 = .ok (.iconst (-1), 1) := by decide +kernel
theorem dX_freePlace_28 : decode cX_freePlace 28 = .ok (.ireturn, 1) := by decide +kernel
abbrev cX_writeUnit : ByteArray := prog_1_method_25_code
def yX_writeUnit : MethodName := ⟨"PostIndex", "writeUnit", "(I)V"⟩
def fX_writeUnit (d : Nat) : zF := (cX_writeUnit, 5, yX_writeUnit, none, d, 0, 0)
theorem meX_writeUnit (d : Nat) : zMe (fX_writeUnit d) 1 := ⟨(zA2 (i := 17) rfl rfl), (zA1 (i := 1) rfl rfl), by show "PostIndex" ≠ _; decide +kernel, by show "PostIndex" ≠ _; decide +kernel, by show (parseMethodDescriptor "(I)V").map _ = _; decide +kernel⟩
theorem dX_writeUnit_0 : decode cX_writeUnit 0 = .ok (.iload_n 1, 1) := by decide +kernel
theorem dX_writeUnit_1 : decode cX_writeUnit 1 = .ok (.iconst 4, 1) := by decide +kernel
theorem dX_writeUnit_2 : decode cX_writeUnit 2 = .ok (.idiv, 1) := by decide +kernel
theorem dX_writeUnit_3 : decode cX_writeUnit 3 = .ok (.istore_n 2, 1) := by decide +kernel
theorem dX_writeUnit_4 : decode cX_writeUnit 4 = .ok (.aload_n 0, 1) := by decide +kernel
theorem dX_writeUnit_5 : decode cX_writeUnit 5 = .ok (.iload_n 2, 1) := by decide +kernel
theorem dX_writeUnit_6 : decode cX_writeUnit 6 = .ok (.iconst 1, 1) := by decide +kernel
theorem dX_writeUnit_7 : decode cX_writeUnit 7 = .ok (.iadd, 1) := by decide +kernel
theorem dX_writeUnit_8 : decode cX_writeUnit 8 = .ok (.putfield 129, 3) := by decide +kernel
theorem dX_writeUnit_11 : decode cX_writeUnit 11 = .ok (.aload_n 0, 1) := by decide +kernel
theorem dX_writeUnit_12 : decode cX_writeUnit 12 = .ok (.getfield 28, 3) := by decide +kernel
theorem dX_writeUnit_15 : decode cX_writeUnit 15 = .ok (.iload_n 1, 1) := by decide +kernel
theorem dX_writeUnit_16 : decode cX_writeUnit 16 = .ok (.aaload, 1) := by decide +kernel
theorem dX_writeUnit_17 : decode cX_writeUnit 17 = .ok (.getfield 55, 3) := by decide +kernel
theorem dX_writeUnit_20 : decode cX_writeUnit 20 = .ok (.astore_n 3, 1) := by decide +kernel
theorem dX_writeUnit_21 : decode cX_writeUnit 21 = .ok (.aload_n 3, 1) := by decide +kernel
theorem dX_writeUnit_22 : decode cX_writeUnit 22 = .ok (.aload_n 0, 1) := by decide +kernel
theorem dX_writeUnit_23 : decode cX_writeUnit 23 = .ok (.getfield 153, 3) := by decide +kernel
theorem flX_153 : zFld "PostIndex" 153 6 10 12 := ⟨RX, TX, rfl, by decide, inX, (zA1 (i := 168) rfl rfl)⟩
theorem dX_writeUnit_26 : decode cX_writeUnit 26 = .ok (.invokevirtual 156, 3) := by decide +kernel
theorem dX_writeUnit_29 : decode cX_writeUnit 29 = .ok (.istore 4, 2) := by decide +kernel
theorem dX_writeUnit_31 : decode cX_writeUnit 31 = .ok (.iload 4, 2) := by decide +kernel
theorem dX_writeUnit_33 : decode cX_writeUnit 33 = .ok (.aload_n 3, 1) := by decide +kernel
theorem dX_writeUnit_34 : decode cX_writeUnit 34 = .ok (.getfield 65, 3) := by decide +kernel
theorem dX_writeUnit_37 : decode cX_writeUnit 37 = .ok (.if_icmp .lt 24, 3) := by decide +kernel
theorem dX_writeUnit_40 : decode cX_writeUnit 40 = .ok (.aload_n 0, 1) := by decide +kernel
theorem dX_writeUnit_41 : decode cX_writeUnit 41 = .ok (.dup, 1) := by decide +kernel
theorem dX_writeUnit_42 : decode cX_writeUnit 42 = .ok (.getfield 72, 3) := by decide +kernel
theorem dX_writeUnit_45 : decode cX_writeUnit 45 = .ok (.iconst 1, 1) := by decide +kernel
theorem dX_writeUnit_46 : decode cX_writeUnit 46 = .ok (.iadd, 1) := by decide +kernel
theorem dX_writeUnit_47 : decode cX_writeUnit 47 = .ok (.putfield 72, 3) := by decide +kernel
theorem dX_writeUnit_50 : decode cX_writeUnit 50 = .ok (.aload_n 0, 1) := by decide +kernel
theorem dX_writeUnit_51 : decode cX_writeUnit 51 = .ok (.iconst 0, 1) := by decide +kernel
theorem dX_writeUnit_52 : decode cX_writeUnit 52 = .ok (.putfield 153, 3) := by decide +kernel
theorem dX_writeUnit_55 : decode cX_writeUnit 55 = .ok (.aload_n 0, 1) := by decide +kernel
theorem dX_writeUnit_56 : decode cX_writeUnit 56 = .ok (.iconst 0, 1) := by decide +kernel
theorem dX_writeUnit_57 : decode cX_writeUnit 57 = .ok (.putfield 159, 3) := by decide +kernel
theorem flX_159 : zFld "PostIndex" 159 6 11 12 := ⟨RX, TX, rfl, by decide, inX, (zA1 (i := 169) rfl rfl)⟩
theorem dX_writeUnit_60 : decode cX_writeUnit 60 = .ok (.return_, 1) := by decide +kernel
theorem dX_writeUnit_61 : decode cX_writeUnit 61 = .ok (.aload_n 0, 1) := by decide +kernel
theorem dX_writeUnit_62 : decode cX_writeUnit 62 = .ok (.aload_n 3, 1) := by decide +kernel
theorem dX_writeUnit_63 : decode cX_writeUnit 63 = .ok (.iload 4, 2) := by decide +kernel
theorem dX_writeUnit_65 : decode cX_writeUnit 65 = .ok (.invokevirtual 162, 3) := by decide +kernel
theorem dX_writeUnit_68 : decode cX_writeUnit 68 = .ok (.putfield 153, 3) := by decide +kernel
theorem dX_writeUnit_71 : decode cX_writeUnit 71 = .ok (.aload_n 0, 1) := by decide +kernel
theorem dX_writeUnit_72 : decode cX_writeUnit 72 = .ok (.getfield 16, 3) := by decide +kernel
theorem dX_writeUnit_75 : decode cX_writeUnit 75 = .ok (.aload_n 3, 1) := by decide +kernel
theorem dX_writeUnit_76 : decode cX_writeUnit 76 = .ok (.iload 4, 2) := by decide +kernel
theorem dX_writeUnit_78 : decode cX_writeUnit 78 = .ok (.aload_n 0, 1) := by decide +kernel
theorem dX_writeUnit_79 : decode cX_writeUnit 79 = .ok (.getfield 153, 3) := by decide +kernel
theorem dX_writeUnit_82 : decode cX_writeUnit 82 = .ok (.invokevirtual 165, 3) := by decide +kernel
theorem dX_writeUnit_85 : decode cX_writeUnit 85 = .ok (.aload_n 0, 1) := by decide +kernel
theorem dX_writeUnit_86 : decode cX_writeUnit 86 = .ok (.getfield 35, 3) := by decide +kernel
theorem dX_writeUnit_89 : decode cX_writeUnit 89 = .ok (.iload_n 2, 1) := by decide +kernel
theorem dX_writeUnit_90 : decode cX_writeUnit 90 = .ok (.aaload, 1) := by decide +kernel
theorem dX_writeUnit_91 : decode cX_writeUnit 91 = .ok (.aload_n 0, 1) := by decide +kernel
theorem dX_writeUnit_92 : decode cX_writeUnit 92 = .ok (.getfield 16, 3) := by decide +kernel
theorem dX_writeUnit_95 : decode cX_writeUnit 95 = .ok (.iload_n 1, 1) := by decide +kernel
theorem dX_writeUnit_96 : decode cX_writeUnit 96 = .ok (.iconst 4, 1) := by decide +kernel
theorem dX_writeUnit_97 : decode cX_writeUnit 97 = .ok (.irem, 1) := by decide +kernel
