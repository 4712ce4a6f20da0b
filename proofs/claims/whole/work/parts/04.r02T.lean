abbrev cT_init : ByteArray := prog_7_method_1_code
def yT_init : MethodName := ⟨"PostIndex$Text", "<init>", "()V"⟩
def fT_init (d : Nat) : zF := (cT_init, 1, yT_init, none, d, 1, 24)
theorem meT_init (d : Nat) : zMe (fT_init d) 0 := ⟨(zA1 (i := 24) rfl rfl), (zA1 (i := 2) rfl rfl), by show "PostIndex$Text" ≠ _; decide +kernel, by show "PostIndex$Text" ≠ _; decide +kernel, by show (parseMethodDescriptor "()V").map _ = _; decide +kernel⟩
theorem dT_init_0 : decode cT_init 0 = .ok (.aload_n 0, 1) := by decide +kernel
theorem dT_init_1 : decode cT_init 1 = .ok (.invokespecial 3, 3) := by decide +kernel
theorem lkT_3 : Cond.methodLink "PostIndex$Text" 3 Lib.objectInit ∈ zAll ∧ Cond.instanceMethod Lib.objectInit ∈ zAll ∧ Cond.code Lib.objectInit ⟨#[0xb1]⟩ 1 none ∈ zAll := ⟨(zA1 (i := 25) rfl rfl), (zA1 (i := 18) rfl rfl), (zA1 (i := 19) rfl rfl)⟩
theorem dT_init_4 : decode cT_init 4 = .ok (.aload_n 0, 1) := by decide +kernel
theorem dT_init_5 : decode cT_init 5 = .ok (.bipush 24, 2) := by decide +kernel
theorem dT_init_7 : decode cT_init 7 = .ok (.newarray .char, 2) := by decide +kernel
theorem dT_init_9 : decode cT_init 9 = .ok (.putfield 9, 3) := by decide +kernel
theorem flT_9 : zFld "PostIndex$Text" 9 5 0 2 := ⟨RT, TT, rfl, by decide, inT, (zA1 (i := 26) rfl rfl)⟩
theorem dT_init_12 : decode cT_init 12 = .ok (.return_, 1) := by decide +kernel
abbrev cT_makeEmpty : ByteArray := prog_7_method_2_code
def yT_makeEmpty : MethodName := ⟨"PostIndex$Text", "makeEmpty", "()V"⟩
def fT_makeEmpty (d : Nat) : zF := (cT_makeEmpty, 1, yT_makeEmpty, none, d, 0, 0)
theorem meT_makeEmpty (d : Nat) : zMe (fT_makeEmpty d) 0 := ⟨(zA1 (i := 232) rfl rfl), (zA1 (i := 2) rfl rfl), by show "PostIndex$Text" ≠ _; decide +kernel, by show "PostIndex$Text" ≠ _; decide +kernel, by show (parseMethodDescriptor "()V").map _ = _; decide +kernel⟩
theorem dT_makeEmpty_0 : decode cT_makeEmpty 0 = .ok (.aload_n 0, 1) := by decide +kernel
theorem dT_makeEmpty_1 : decode cT_makeEmpty 1 = .ok (.iconst 0, 1) := by decide +kernel
theorem dT_makeEmpty_2 : decode cT_makeEmpty 2 = .ok (.putfield 15, 3) := by decide +kernel
theorem flT_15 : zFld "PostIndex$Text" 15 5 1 2 := ⟨RT, TT, rfl, by decide, inT, (zA1 (i := 27) rfl rfl)⟩
theorem dT_makeEmpty_5 : decode cT_makeEmpty 5 = .ok (.return_, 1) := by decide +kernel
abbrev cT_append : ByteArray := prog_7_method_3_code
def yT_append : MethodName := ⟨"PostIndex$Text", "append", "(C)Z"⟩
def fT_append (d : Nat) : zF := (cT_append, 2, yT_append, (some .boolean), d, 0, 0)
theorem meT_append (d : Nat) : zMe (fT_append d) 1 := ⟨(zA1 (i := 202) rfl rfl), (zA1 (i := 2) rfl rfl), by show "PostIndex$Text" ≠ _; decide +kernel, by show "PostIndex$Text" ≠ _; decide +kernel, by show (parseMethodDescriptor "(C)Z").map _ = _; decide +kernel⟩
theorem dT_append_0 : decode cT_append 0 = .ok (.aload_n 0, 1) := by decide +kernel
theorem dT_append_1 : decode cT_append 1 = .ok (.getfield 15, 3) := by decide +kernel
theorem dT_append_4 : decode cT_append 4 = .ok (.bipush 24, 2) := by decide +kernel
theorem dT_append_6 : decode cT_append 6 = .ok (.if_icmp .lt 5, 3) := by decide +kernel
theorem dT_append_9 : decode cT_append 9 = .ok (.iconst 0, 1) := by decide +kernel
theorem dT_append_10 : decode cT_append 10 = .ok (.ireturn, 1) := by decide +kernel
theorem dT_append_11 : decode cT_append 11 = .ok (.aload_n 0, 1) := by decide +kernel
theorem dT_append_12 : decode cT_append 12 = .ok (.getfield 9, 3) := by decide +kernel
theorem dT_append_15 : decode cT_append 15 = .ok (.aload_n 0, 1) := by decide +kernel
theorem dT_append_16 : decode cT_append 16 = .ok (.getfield 15, 3) := by decide +kernel
theorem dT_append_19 : decode cT_append 19 = .ok (.iload_n 1, 1) := by decide +kernel
theorem dT_append_20 : decode cT_append 20 = .ok (.castore, 1) := by decide +kernel
theorem dT_append_21 : decode cT_append 21 = .ok (.aload_n 0, 1) := by decide +kernel
theorem dT_append_22 : decode cT_append 22 = .ok (.dup, 1) := by decide +kernel
theorem dT_append_23 : decode cT_append 23 = .ok (.getfield 15, 3) := by decide +kernel
theorem dT_append_26 : decode cT_append 26 = .ok (.iconst 1, 1) := by decide +kernel
theorem dT_append_27 : decode cT_append 27 = .ok (.iadd, 1) := by decide +kernel
theorem dT_append_28 : decode cT_append 28 = .ok (.putfield 15, 3) := by decide +kernel
theorem dT_append_31 : decode cT_append 31 = .ok (.iconst 1, 1) := by decide +kernel
theorem dT_append_32 : decode cT_append 32 = .ok (.ireturn, 1) := by decide +kernel
abbrev cT_appendBeginning : ByteArray := prog_7_method_4_code
def yT_appendBeginning : MethodName := ⟨"PostIndex$Text", "appendBeginning", "(LPostIndex$Text;)I"⟩
def fT_appendBeginning (d : Nat) : zF := (cT_appendBeginning, 3, yT_appendBeginning, (some .int), d, 0, 0)
theorem meT_appendBeginning (d : Nat) : zMe (fT_appendBeginning d) 1 := ⟨(zA1 (i := 218) rfl rfl), (zA1 (i := 2) rfl rfl), by show "PostIndex$Text" ≠ _; decide +kernel, by show "PostIndex$Text" ≠ _; decide +kernel, by show (parseMethodDescriptor "(LPostIndex$Text;)I").map _ = _; decide +kernel⟩
theorem dT_appendBeginning_0 : decode cT_appendBeginning 0 = .ok (.aload_n 1, 1) := by decide +kernel
theorem dT_appendBeginning_1 : decode cT_appendBeginning 1 = .ok (.getfield 15, 3) := by decide +kernel
theorem dT_appendBeginning_4 : decode cT_appendBeginning 4 = .ok (.bipush 24, 2) := by decide +kernel
theorem dT_appendBeginning_6 : decode cT_appendBeginning 6 = .ok (.aload_n 0, 1) := by decide +kernel
theorem dT_appendBeginning_7 : decode cT_appendBeginning 7 = .ok (.getfield 15, 3) := by decide +kernel
theorem dT_appendBeginning_10 : decode cT_appendBeginning 10 = .ok (.isub, 1) := by decide +kernel
theorem dT_appendBeginning_11 : decode cT_appendBeginning 11 = .ok (.invokestatic 19, 3) := by decide +kernel
theorem lkT_19 : Cond.methodLink "PostIndex$Text" 19 Lib.Math.min.name ∈ zAll ∧ Cond.static Lib.Math.min.name ∈ zAll ∧ Cond.initialized "java/lang/Math" ∈ zAll ∧ Cond.code Lib.Math.min.name Lib.Math.min.code 2 (some .int) ∈ zAll := ⟨(zA1 (i := 219) rfl rfl), (zA1 (i := 220) rfl rfl), (zA1 (i := 9) rfl rfl), (zA1 (i := 221) rfl rfl)⟩
theorem dT_appendBeginning_14 : decode cT_appendBeginning 14 = .ok (.istore_n 2, 1) := by decide +kernel
theorem dT_appendBeginning_15 : decode cT_appendBeginning 15 = .ok (.aload_n 1, 1) := by decide +kernel
theorem dT_appendBeginning_16 : decode cT_appendBeginning 16 = .ok (.getfield 9, 3) := by decide +kernel
theorem dT_appendBeginning_19 : decode cT_appendBeginning 19 = .ok (.iconst 0, 1) := by decide +kernel
theorem dT_appendBeginning_20 : decode cT_appendBeginning 20 = .ok (.aload_n 0, 1) := by decide +kernel
theorem dT_appendBeginning_21 : decode cT_appendBeginning 21 = .ok (.getfield 9, 3) := by decide +kernel
theorem dT_appendBeginning_24 : decode cT_appendBeginning 24 = .ok (.aload_n 0, 1) := by decide +kernel
theorem dT_appendBeginning_25 : decode cT_appendBeginning 25 = .ok (.getfield 15, 3) := by decide +kernel
theorem dT_appendBeginning_28 : decode cT_appendBeginning 28 = .ok (.iload_n 2, 1) := by decide +kernel
theorem dT_appendBeginning_29 : decode cT_appendBeginning 29 = .ok (.invokestatic 25, 3) := by decide +kernel
theorem lkT_25 : Cond.methodLink "PostIndex$Text" 25 arraycopyName ∈ zAll ∧ Cond.native arraycopyName ∈ zAll ∧ Cond.static arraycopyName ∈ zAll ∧ Cond.initialized "java/lang/System" ∈ zAll := ⟨(zA1 (i := 222) rfl rfl), (zA1 (i := 224) rfl rfl), (zA1 (i := 223) rfl rfl), (zA1 (i := 10) rfl rfl)⟩
theorem dT_appendBeginning_32 : decode cT_appendBeginning 32 = .ok (.aload_n 0, 1) := by decide +kernel
theorem dT_appendBeginning_33 : decode cT_appendBeginning 33 = .ok (.dup, 1) := by decide +kernel
theorem dT_appendBeginning_34 : decode cT_appendBeginning 34 = .ok (.getfield 15, 3) := by decide +kernel
theorem dT_appendBeginning_37 : decode cT_appendBeginning 37 = .ok (.iload_n 2, 1) := by decide +kernel
theorem dT_appendBeginning_38 : decode cT_appendBeginning 38 = .ok (.iadd, 1) := by decide +kernel
theorem dT_appendBeginning_39 : decode cT_appendBeginning 39 = .ok (.putfield 15, 3) := by decide +kernel
theorem dT_appendBeginning_42 : decode cT_appendBeginning 42 = .ok (.iload_n 2, 1) := by decide +kernel
theorem dT_appendBeginning_43 : decode cT_appendBeginning 43 = .ok (.ireturn, 1) := by decide +kernel
abbrev cT_setFolded : ByteArray := prog_7_method_5_code
def yT_setFolded : MethodName := ⟨"PostIndex$Text", "setFolded", "(LPostIndex$Text;II)V"⟩
def fT_setFolded (d : Nat) : zF := (cT_setFolded, 5, yT_setFolded, none, d, 0, 0)
theorem meT_setFolded (d : Nat) : zMe (fT_setFolded d) 3 := ⟨(zA2 (i := 43) rfl rfl), (zA1 (i := 2) rfl rfl), by show "PostIndex$Text" ≠ _; decide +kernel, by show "PostIndex$Text" ≠ _; decide +kernel, by show (parseMethodDescriptor "(LPostIndex$Text;II)V").map _ = _; decide +kernel⟩
theorem dT_setFolded_0 : decode cT_setFolded 0 = .ok (.aload_n 0, 1) := by decide +kernel
theorem dT_setFolded_1 : decode cT_setFolded 1 = .ok (.iconst 0, 1) := by decide +kernel
theorem dT_setFolded_2 : decode cT_setFolded 2 = .ok (.putfield 15, 3) := by decide +kernel
theorem dT_setFolded_5 : decode cT_setFolded 5 = .ok (.iload_n 2, 1) := by decide +kernel
theorem dT_setFolded_6 : decode cT_setFolded 6 = .ok (.istore 4, 2) := by decide +kernel
theorem dT_setFolded_8 : decode cT_setFolded 8 = .ok (.iload 4, 2) := by decide +kernel
theorem dT_setFolded_10 : decode cT_setFolded 10 = .ok (.iload_n 3, 1) := by decide +kernel
theorem dT_setFolded_11 : decode cT_setFolded 11 = .ok (.if_icmp .ge 23, 3) := by decide +kernel
theorem dT_setFolded_14 : decode cT_setFolded 14 = .ok (.aload_n 0, 1) := by decide +kernel
theorem dT_setFolded_15 : decode cT_setFolded 15 = .ok (.aload_n 1, 1) := by decide +kernel
theorem dT_setFolded_16 : decode cT_setFolded 16 = .ok (.iload 4, 2) := by decide +kernel
theorem dT_setFolded_18 : decode cT_setFolded 18 = .ok (.invokevirtual 31, 3) := by decide +kernel
theorem dT_setFolded_21 : decode cT_setFolded 21 = .ok (.invokestatic 35, 3) := by decide +kernel
theorem dT_setFolded_24 : decode cT_setFolded 24 = .ok (.invokevirtual 39, 3) := by decide +kernel
theorem dT_setFolded_27 : decode cT_setFolded 27 = .ok (.pop, 1) := by decide +kernel
theorem dT_setFolded_28 : decode cT_setFolded 28 = .ok (.iinc 4 1, 3) := by decide +kernel
theorem dT_setFolded_31 : decode cT_setFolded 31 = .ok (.goto (-23), 3) := by decide +kernel
theorem dT_setFolded_34 : decode cT_setFolded 34 = .ok (.return_, 1) := by decide +kernel
abbrev cT_charOr0 : ByteArray := prog_7_method_6_code
def yT_charOr0 : MethodName := ⟨"PostIndex$Text", "charOr0", "(I)C"⟩
def fT_charOr0 (d : Nat) : zF := (cT_charOr0, 2, yT_charOr0, (some .char), d, 0, 0)
theorem meT_charOr0 (d : Nat) : zMe (fT_charOr0 d) 1 := ⟨(zA2 (i := 29) rfl rfl), (zA1 (i := 2) rfl rfl), by show "PostIndex$Text" ≠ _; decide +kernel, by show "PostIndex$Text" ≠ _; decide +kernel, by show (parseMethodDescriptor "(I)C").map _ = _; decide +kernel⟩
theorem dT_charOr0_0 : decode cT_charOr0 0 = .ok (.iload_n 1, 1) := by decide +kernel
theorem dT_charOr0_1 : decode cT_charOr0 1 = .ok (.ifCond .lt 20, 3) := by decide +kernel
theorem dT_charOr0_4 : decode cT_charOr0 4 = .ok (.iload_n 1, 1) := by decide +kernel
theorem dT_charOr0_5 : decode cT_charOr0 5 = .ok (.aload_n 0, 1) := by decide +kernel
theorem dT_charOr0_6 : decode cT_charOr0 6 = .ok (.getfield 15, 3) := by decide +kernel
theorem dT_charOr0_9 : decode cT_charOr0 9 = .ok (.if_icmp .ge 12, 3) := by decide +kernel
theorem dT_charOr0_12 : decode cT_charOr0 12 = .ok (.aload_n 0, 1) := by decide +kernel
theorem dT_charOr0_13 : decode cT_charOr0 13 = .ok (.getfield 9, 3) := by decide +kernel
theorem dT_charOr0_16 : decode cT_charOr0 16 = .ok (.iload_n 1, 1) := by decide +kernel
theorem dT_charOr0_17 : decode cT_charOr0 17 = .ok (.caload, 1) := by decide +kernel
theorem dT_charOr0_18 : decode cT_charOr0 18 = .ok (.goto 4, 3) := by decide +kernel
theorem dT_charOr0_21 : decode cT_charOr0 21 = .ok (.iconst 0, 1) := by decide +kernel
theorem dT_charOr0_22 : decode cT_charOr0 22 = .ok (.ireturn, 1) := by decide +kernel
abbrev cT_isSame : ByteArray := prog_7_method_7_code
def yT_isSame : MethodName := ⟨"PostIndex$Text", "isSame", "(LPostIndex$Text;)Z"⟩
def fT_isSame (d : Nat) : zF := (cT_isSame, 3, yT_isSame, (some .boolean), d, 0, 0)
theorem meT_isSame (d : Nat) : zMe (fT_isSame d) 1 := ⟨(zA2 (i := 57) rfl rfl), (zA1 (i := 2) rfl rfl), by show "PostIndex$Text" ≠ _; decide +kernel, by show "PostIndex$Text" ≠ _; decide +kernel, by show (parseMethodDescriptor "(LPostIndex$Text;)Z").map _ = _; decide +kernel⟩
theorem dT_isSame_0 : decode cT_isSame 0 = .ok (.aload_n 0, 1) := by decide +kernel
theorem dT_isSame_1 : decode cT_isSame 1 = .ok (.getfield 15, 3) := by decide +kernel
theorem dT_isSame_4 : decode cT_isSame 4 = .ok (.aload_n 1, 1) := by decide +kernel
theorem dT_isSame_5 : decode cT_isSame 5 = .ok (.getfield 15, 3) := by decide +kernel
theorem dT_isSame_8 : decode cT_isSame 8 = .ok (.if_icmp .eq 5, 3) := by decide +kernel
theorem dT_isSame_11 : decode cT_isSame 11 = .ok (.iconst 0, 1) := by decide +kernel
theorem dT_isSame_12 : decode cT_isSame 12 = .ok (.ireturn, 1) := by decide +kernel
theorem dT_isSame_13 : decode cT_isSame 13 = .ok (.iconst 0, 1) := by decide +kernel
theorem dT_isSame_14 : decode cT_isSame 14 = .ok (.istore_n 2, 1) := by decide +kernel
theorem dT_isSame_15 : decode cT_isSame 15 = .ok (.iload_n 2, 1) := by decide +kernel
theorem dT_isSame_16 : decode cT_isSame 16 = .ok (.aload_n 0, 1) := by decide +kernel
theorem dT_isSame_17 : decode cT_isSame 17 = .ok (.getfield 15, 3) := by decide +kernel
theorem dT_isSame_20 : decode cT_isSame 20 = .ok (.if_icmp .ge 26, 3) := by decide +kernel
theorem dT_isSame_23 : decode cT_isSame 23 = .ok (.aload_n 0, 1) := by decide +kernel
theorem dT_isSame_24 : decode cT_isSame 24 = .ok (.getfield 9, 3) := by decide +kernel
theorem dT_isSame_27 : decode cT_isSame 27 = .ok (.iload_n 2, 1) := by decide +kernel
theorem dT_isSame_28 : decode cT_isSame 28 = .ok (.caload, 1) := by decide +kernel
theorem dT_isSame_29 : decode cT_isSame 29 = .ok (.aload_n 1, 1) := by decide +kernel
theorem dT_isSame_30 : decode cT_isSame 30 = .ok (.getfield 9, 3) := by decide +kernel
theorem dT_isSame_33 : decode cT_isSame 33 = .ok (.iload_n 2, 1) := by decide +kernel
theorem dT_isSame_34 : decode cT_isSame 34 = .ok (.caload, 1) := by decide +kernel
theorem dT_isSame_35 : decode cT_isSame 35 = .ok (.if_icmp .eq 5, 3) := by decide +kernel
theorem dT_isSame_38 : decode cT_isSame 38 = .ok (.iconst 0, 1) := by decide +kernel
theorem dT_isSame_39 : decode cT_isSame 39 = .ok (.ireturn, 1) := by decide +kernel
theorem dT_isSame_40 : decode cT_isSame 40 = .ok (.iinc 2 1, 3) := by decide +kernel
theorem dT_isSame_43 : decode cT_isSame 43 = .ok (.goto (-28), 3) := by decide +kernel
theorem dT_isSame_46 : decode cT_isSame 46 = .ok (.iconst 1, 1) := by decide +kernel
theorem dT_isSame_47 : decode cT_isSame 47 = .ok (.ireturn, 1) := by decide +kernel
abbrev cT_tokenEnd : ByteArray := prog_7_method_8_code
def yT_tokenEnd : MethodName := ⟨"PostIndex$Text", "tokenEnd", "(I)I"⟩
def fT_tokenEnd (d : Nat) : zF := (cT_tokenEnd, 5, yT_tokenEnd, (some .int), d, 0, 0)
theorem meT_tokenEnd (d : Nat) : zMe (fT_tokenEnd d) 1 := ⟨(zA2 (i := 25) rfl rfl), (zA1 (i := 2) rfl rfl), by show "PostIndex$Text" ≠ _; decide +kernel, by show "PostIndex$Text" ≠ _; decide +kernel, by show (parseMethodDescriptor "(I)I").map _ = _; decide +kernel⟩
theorem dT_tokenEnd_0 : decode cT_tokenEnd 0 = .ok (.aload_n 0, 1) := by decide +kernel
theorem dT_tokenEnd_1 : decode cT_tokenEnd 1 = .ok (.iload_n 1, 1) := by decide +kernel
theorem dT_tokenEnd_2 : decode cT_tokenEnd 2 = .ok (.invokevirtual 31, 3) := by decide +kernel
theorem dT_tokenEnd_5 : decode cT_tokenEnd 5 = .ok (.istore_n 2, 1) := by decide +kernel
theorem dT_tokenEnd_6 : decode cT_tokenEnd 6 = .ok (.iload_n 2, 1) := by decide +kernel
theorem dT_tokenEnd_7 : decode cT_tokenEnd 7 = .ok (.bipush 35, 2) := by decide +kernel
theorem dT_tokenEnd_9 : decode cT_tokenEnd 9 = .ok (.if_icmp .eq 9, 3) := by decide +kernel
theorem dT_tokenEnd_12 : decode cT_tokenEnd 12 = .ok (.iload_n 2, 1) := by decide +kernel
theorem dT_tokenEnd_13 : decode cT_tokenEnd 13 = .ok (.bipush 64, 2) := by decide +kernel
theorem dT_tokenEnd_15 : decode cT_tokenEnd 15 = .ok (.if_icmp .ne 9, 3) := by decide +kernel
theorem dT_tokenEnd_18 : decode cT_tokenEnd 18 = .ok (.iload_n 1, 1) := by decide +kernel
theorem dT_tokenEnd_19 : decode cT_tokenEnd 19 = .ok (.iconst 1, 1) := by decide +kernel
theorem dT_tokenEnd_20 : decode cT_tokenEnd 20 = .ok (.iadd, 1) := by decide +kernel
theorem dT_tokenEnd_21 : decode cT_tokenEnd 21 = .ok (.goto 4, 3) := by decide +kernel
theorem dT_tokenEnd_24 : decode cT_tokenEnd 24 = .ok (.iload_n 1, 1) := by decide +kernel
theorem dT_tokenEnd_25 : decode cT_tokenEnd 25 = .ok (.istore_n 3, 1) := by decide +kernel
theorem dT_tokenEnd_26 : decode cT_tokenEnd 26 = .ok (.iload_n 3, 1) := by decide +kernel
theorem dT_tokenEnd_27 : decode cT_tokenEnd 27 = .ok (.istore 4, 2) := by decide +kernel
theorem dT_tokenEnd_29 : decode cT_tokenEnd 29 = .ok (.iload 4, 2) := by decide +kernel
theorem dT_tokenEnd_31 : decode cT_tokenEnd 31 = .ok (.aload_n 0, 1) := by decide +kernel
theorem dT_tokenEnd_32 : decode cT_tokenEnd 32 = .ok (.getfield 15, 3) := by decide +kernel
theorem dT_tokenEnd_35 : decode cT_tokenEnd 35 = .ok (.if_icmp .ge 21, 3) := by decide +kernel
theorem dT_tokenEnd_38 : decode cT_tokenEnd 38 = .ok (.aload_n 0, 1) := by decide +kernel
theorem dT_tokenEnd_39 : decode cT_tokenEnd 39 = .ok (.iload 4, 2) := by decide +kernel
theorem dT_tokenEnd_41 : decode cT_tokenEnd 41 = .ok (.invokevirtual 31, 3) := by decide +kernel
theorem dT_tokenEnd_44 : decode cT_tokenEnd 44 = .ok (.invokestatic 43, 3) := by decide +kernel
theorem dT_tokenEnd_47 : decode cT_tokenEnd 47 = .ok (.ifCond .eq 9, 3) := by decide +kernel
theorem dT_tokenEnd_50 : decode cT_tokenEnd 50 = .ok (.iinc 4 1, 3) := by decide +kernel
theorem dT_tokenEnd_53 : decode cT_tokenEnd 53 = .ok (.goto (-24), 3) := by decide +kernel
theorem dT_tokenEnd_56 : decode cT_tokenEnd 56 = .ok (.iload 4, 2) := by decide +kernel
theorem dT_tokenEnd_58 : decode cT_tokenEnd 58 = .ok (.iload_n 3, 1) := by decide +kernel
theorem dT_tokenEnd_59 : decode cT_tokenEnd 59 = .ok (.if_icmp .le 8, 3) := by decide +kernel
theorem dT_tokenEnd_62 : decode cT_tokenEnd 62 = .ok (.iload 4, 2) := by decide +kernel
theorem dT_tokenEnd_64 : decode cT_tokenEnd 64 = .ok (.goto 4, 3) := by decide +kernel
theorem dT_tokenEnd_67 : decode cT_tokenEnd 67 = .ok (.iload_n 1, 1) := by decide +kernel
theorem dT_tokenEnd_68 : decode cT_tokenEnd 68 = .ok (.ireturn, 1) := by decide +kernel
abbrev cT_tokenStart : ByteArray := prog_7_method_9_code
def yT_tokenStart : MethodName := ⟨"PostIndex$Text", "tokenStart", "(I)I"⟩
def fT_tokenStart (d : Nat) : zF := (cT_tokenStart, 3, yT_tokenStart, (some .int), d, 0, 0)
theorem meT_tokenStart (d : Nat) : zMe (fT_tokenStart d) 1 := ⟨(zA2 (i := 21) rfl rfl), (zA1 (i := 2) rfl rfl), by show "PostIndex$Text" ≠ _; decide +kernel, by show "PostIndex$Text" ≠ _; decide +kernel, by show (parseMethodDescriptor "(I)I").map _ = _; decide +kernel⟩
theorem dT_tokenStart_0 : decode cT_tokenStart 0 = .ok (.iload_n 1, 1) := by decide +kernel
theorem dT_tokenStart_1 : decode cT_tokenStart 1 = .ok (.istore_n 2, 1) := by decide +kernel
theorem dT_tokenStart_2 : decode cT_tokenStart 2 = .ok (.iload_n 2, 1) := by decide +kernel
theorem dT_tokenStart_3 : decode cT_tokenStart 3 = .ok (.aload_n 0, 1) := by decide +kernel
theorem dT_tokenStart_4 : decode cT_tokenStart 4 = .ok (.getfield 15, 3) := by decide +kernel
theorem dT_tokenStart_7 : decode cT_tokenStart 7 = .ok (.if_icmp .ge 20, 3) := by decide +kernel
theorem dT_tokenStart_10 : decode cT_tokenStart 10 = .ok (.aload_n 0, 1) := by decide +kernel
theorem dT_tokenStart_11 : decode cT_tokenStart 11 = .ok (.iload_n 2, 1) := by decide +kernel
theorem dT_tokenStart_12 : decode cT_tokenStart 12 = .ok (.invokevirtual 46, 3) := by decide +kernel
theorem dT_tokenStart_15 : decode cT_tokenStart 15 = .ok (.iload_n 2, 1) := by decide +kernel
theorem dT_tokenStart_16 : decode cT_tokenStart 16 = .ok (.if_icmp .le 5, 3) := by decide +kernel
theorem dT_tokenStart_19 : decode cT_tokenStart 19 = .ok (.iload_n 2, 1) := by decide +kernel
theorem dT_tokenStart_20 : decode cT_tokenStart 20 = .ok (.ireturn, 1) := by decide +kernel
theorem dT_tokenStart_21 : decode cT_tokenStart 21 = .ok (.iinc 2 1, 3) := by decide +kernel
theorem dT_tokenStart_24 : decode cT_tokenStart 24 = .ok (.goto (-22), 3) := by decide +kernel
theorem dT_tokenStart_27 : decode cT_tokenStart 27 = .ok (.aload_n 0, 1) := by decide +kernel
theorem dT_tokenStart_28 : decode cT_tokenStart 28 = .ok (.getfield 15, 3) := by decide +kernel
theorem dT_tokenStart_31 : decode cT_tokenStart 31 = .ok (.ireturn, 1) := by decide +kernel
abbrev cT_isWordCharacter : ByteArray := prog_7_method_10_code
def yT_isWordCharacter : MethodName := ⟨"PostIndex$Text", "isWordCharacter", "(C)Z"⟩
def fT_isWordCharacter (d : Nat) : zF := (cT_isWordCharacter, 2, yT_isWordCharacter, (some .boolean), d, 0, 0)
theorem meT_isWordCharacter (d : Nat) : zMe (fT_isWordCharacter d) 1 := ⟨(zA2 (i := 32) rfl rfl), (zA1 (i := 2) rfl rfl), by show "PostIndex$Text" ≠ _; decide +kernel, by show "PostIndex$Text" ≠ _; decide +kernel, by show (parseMethodDescriptor "(C)Z").map _ = _; decide +kernel⟩
theorem dT_isWordCharacter_0 : decode cT_isWordCharacter 0 = .ok (.iload_n 0, 1) := by decide +kernel
theorem dT_isWordCharacter_1 : decode cT_isWordCharacter 1 = .ok (.invokestatic 35, 3) := by decide +kernel
theorem dT_isWordCharacter_4 : decode cT_isWordCharacter 4 = .ok (.istore_n 1, 1) := by decide +kernel
theorem dT_isWordCharacter_5 : decode cT_isWordCharacter 5 = .ok (.iload_n 1, 1) := by decide +kernel
theorem dT_isWordCharacter_6 : decode cT_isWordCharacter 6 = .ok (.bipush 97, 2) := by decide +kernel
theorem dT_isWordCharacter_8 : decode cT_isWordCharacter 8 = .ok (.if_icmp .lt 9, 3) := by decide +kernel
theorem dT_isWordCharacter_11 : decode cT_isWordCharacter 11 = .ok (.iload_n 1, 1) := by decide +kernel
theorem dT_isWordCharacter_12 : decode cT_isWordCharacter 12 = .ok (.bipush 122, 2) := by decide +kernel
theorem dT_isWordCharacter_14 : decode cT_isWordCharacter 14 = .ok (.if_icmp .le 16, 3) := by decide +kernel
theorem dT_isWordCharacter_17 : decode cT_isWordCharacter 17 = .ok (.iload_n 0, 1) := by decide +kernel
theorem dT_isWordCharacter_18 : decode cT_isWordCharacter 18 = .ok (.invokestatic 50, 3) := by decide +kernel
theorem dT_isWordCharacter_21 : decode cT_isWordCharacter 21 = .ok (.ifCond .ne 9, 3) := by decide +kernel
theorem dT_isWordCharacter_24 : decode cT_isWordCharacter 24 = .ok (.iload_n 0, 1) := by decide +kernel
theorem dT_isWordCharacter_25 : decode cT_isWordCharacter 25 = .ok (.bipush 95, 2) := by decide +kernel
theorem dT_isWordCharacter_27 : decode cT_isWordCharacter 27 = .ok (.if_icmp .ne 7, 3) := by decide +kernel
theorem dT_isWordCharacter_30 : decode cT_isWordCharacter 30 = .ok (.iconst 1, 1) := by decide +kernel
theorem dT_isWordCharacter_31 : decode cT_isWordCharacter 31 = .ok (.goto 4, 3) := by decide +kernel
theorem dT_isWordCharacter_34 : decode cT_isWordCharacter 34 = .ok (.iconst 0, 1) := by decide +kernel
theorem dT_isWordCharacter_35 : decode cT_isWordCharacter 35 = .ok (.ireturn, 1) := by decide +kernel
abbrev cT_isDigit : ByteArray := prog_7_method_11_code
def yT_isDigit : MethodName := ⟨"PostIndex$Text", "isDigit", "(C)Z"⟩
def fT_isDigit (d : Nat) : zF := (cT_isDigit, 1, yT_isDigit, (some .boolean), d, 0, 0)
theorem meT_isDigit (d : Nat) : zMe (fT_isDigit d) 1 := ⟨(zA2 (i := 38) rfl rfl), (zA1 (i := 2) rfl rfl), by show "PostIndex$Text" ≠ _; decide +kernel, by show "PostIndex$Text" ≠ _; decide +kernel, by show (parseMethodDescriptor "(C)Z").map _ = _; decide +kernel⟩
theorem dT_isDigit_0 : decode cT_isDigit 0 = .ok (.iload_n 0, 1) := by decide +kernel
theorem dT_isDigit_1 : decode cT_isDigit 1 = .ok (.bipush 48, 2) := by decide +kernel
theorem dT_isDigit_3 : decode cT_isDigit 3 = .ok (.if_icmp .lt 13, 3) := by decide +kernel
theorem dT_isDigit_6 : decode cT_isDigit 6 = .ok (.iload_n 0, 1) := by decide +kernel
theorem dT_isDigit_7 : decode cT_isDigit 7 = .ok (.bipush 57, 2) := by decide +kernel
theorem dT_isDigit_9 : decode cT_isDigit 9 = .ok (.if_icmp .gt 7, 3) := by decide +kernel
theorem dT_isDigit_12 : decode cT_isDigit 12 = .ok (.iconst 1, 1) := by decide +kernel
theorem dT_isDigit_13 : decode cT_isDigit 13 = .ok (.goto 4, 3) := by decide +kernel
theorem dT_isDigit_16 : decode cT_isDigit 16 = .ok (.iconst 0, 1) := by decide +kernel
theorem dT_isDigit_17 : decode cT_isDigit 17 = .ok (.ireturn, 1) := by decide +kernel
abbrev cT_folded : ByteArray := prog_7_method_12_code
def yT_folded : MethodName := ⟨"PostIndex$Text", "folded", "(C)C"⟩
def fT_folded (d : Nat) : zF := (cT_folded, 1, yT_folded, (some .char), d, 0, 0)
theorem meT_folded (d : Nat) : zMe (fT_folded d) 1 := ⟨(zA2 (i := 35) rfl rfl), (zA1 (i := 2) rfl rfl), by show "PostIndex$Text" ≠ _; decide +kernel, by show "PostIndex$Text" ≠ _; decide +kernel, by show (parseMethodDescriptor "(C)C").map _ = _; decide +kernel⟩
theorem dT_folded_0 : decode cT_folded 0 = .ok (.iload_n 0, 1) := by decide +kernel
theorem dT_folded_1 : decode cT_folded 1 = .ok (.bipush 65, 2) := by decide +kernel
theorem dT_folded_3 : decode cT_folded 3 = .ok (.if_icmp .lt 20, 3) := by decide +kernel
theorem dT_folded_6 : decode cT_folded 6 = .ok (.iload_n 0, 1) := by decide +kernel
theorem dT_folded_7 : decode cT_folded 7 = .ok (.bipush 90, 2) := by decide +kernel
theorem dT_folded_9 : decode cT_folded 9 = .ok (.if_icmp .gt 14, 3) := by decide +kernel
theorem dT_folded_12 : decode cT_folded 12 = .ok (.iload_n 0, 1) := by decide +kernel
theorem dT_folded_13 : decode cT_folded 13 = .ok (.bipush 65, 2) := by decide +kernel
theorem dT_folded_15 : decode cT_folded 15 = .ok (.isub, 1) := by decide +kernel
theorem dT_folded_16 : decode cT_folded 16 = .ok (.bipush 97, 2) := by decide +kernel
theorem dT_folded_18 : decode cT_folded 18 = .ok (.iadd, 1) := by decide +kernel
theorem dT_folded_19 : decode cT_folded 19 = .ok (.i2c, 1) := by decide +kernel
theorem dT_folded_20 : decode cT_folded 20 = .ok (.goto 4, 3) := by decide +kernel
theorem dT_folded_23 : decode cT_folded 23 = .ok (.iload_n 0, 1) := by decide +kernel
theorem dT_folded_24 : decode cT_folded 24 = .ok (.ireturn, 1) := by decide +kernel
theorem lkT_31 : zLv "PostIndex$Text" 31 yT_charOr0 := ⟨(zA2 (i := 26) rfl rfl), (zA2 (i := 27) rfl rfl), (zA2 (i := 28) rfl rfl)⟩
theorem lkT_35 : zLs "PostIndex$Text" 35 yT_folded := ⟨(zA2 (i := 33) rfl rfl), (zA2 (i := 34) rfl rfl)⟩
theorem lkT_39 : zLv "PostIndex$Text" 39 yT_append := ⟨(zA2 (i := 44) rfl rfl), (zA1 (i := 200) rfl rfl), (zA1 (i := 201) rfl rfl)⟩
theorem lkT_43 : zLs "PostIndex$Text" 43 yT_isWordCharacter := ⟨(zA2 (i := 30) rfl rfl), (zA2 (i := 31) rfl rfl)⟩
theorem lkT_46 : zLv "PostIndex$Text" 46 yT_tokenEnd := ⟨(zA2 (i := 22) rfl rfl), (zA2 (i := 23) rfl rfl), (zA2 (i := 24) rfl rfl)⟩
theorem lkT_50 : zLs "PostIndex$Text" 50 yT_isDigit := ⟨(zA2 (i := 36) rfl rfl), (zA2 (i := 37) rfl rfl)⟩
