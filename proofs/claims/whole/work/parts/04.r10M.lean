abbrev cM_init : ByteArray := prog_9_method_1_code
def yM_init : MethodName := ⟨"PostIndexModel", "<init>", "()V"⟩
def fM_init (d : Nat) : zF := (cM_init, 1, yM_init, none, d, 21, 1496)
theorem meM_init (d : Nat) : zMe (fM_init d) 0 := ⟨(zA3 (i := 2) rfl rfl), (zA1 (i := 8) rfl rfl), by show "PostIndexModel" ≠ _; decide +kernel, by show "PostIndexModel" ≠ _; decide +kernel, by show (parseMethodDescriptor "()V").map _ = _; decide +kernel⟩
theorem dM_init_0 : decode cM_init 0 = .ok (.aload_n 0, 1) := by decide +kernel
theorem dM_init_1 : decode cM_init 1 = .ok (.invokespecial 1, 3) := by decide +kernel
theorem lkM_1 : Cond.methodLink "PostIndexModel" 1 Lib.objectInit ∈ zAll ∧ Cond.instanceMethod Lib.objectInit ∈ zAll ∧ Cond.code Lib.objectInit ⟨#[0xb1]⟩ 1 none ∈ zAll := ⟨(zA3 (i := 3) rfl rfl), (zA1 (i := 18) rfl rfl), (zA1 (i := 19) rfl rfl)⟩
theorem dM_init_4 : decode cM_init 4 = .ok (.aload_n 0, 1) := by decide +kernel
theorem dM_init_5 : decode cM_init 5 = .ok (.bipush 24, 2) := by decide +kernel
theorem dM_init_7 : decode cM_init 7 = .ok (.newarray .int, 2) := by decide +kernel
theorem dM_init_9 : decode cM_init 9 = .ok (.putfield 7, 3) := by decide +kernel
theorem flM_7 : zFld "PostIndexModel" 7 7 1 31 := ⟨RM, TM, rfl, by decide, inM, (zA3 (i := 5) rfl rfl)⟩
theorem dM_init_12 : decode cM_init 12 = .ok (.aload_n 0, 1) := by decide +kernel
theorem dM_init_13 : decode cM_init 13 = .ok (.bipush 24, 2) := by decide +kernel
theorem dM_init_15 : decode cM_init 15 = .ok (.newarray .int, 2) := by decide +kernel
theorem dM_init_17 : decode cM_init 17 = .ok (.putfield 13, 3) := by decide +kernel
theorem flM_13 : zFld "PostIndexModel" 13 7 5 31 := ⟨RM, TM, rfl, by decide, inM, (zA3 (i := 9) rfl rfl)⟩
theorem dM_init_20 : decode cM_init 20 = .ok (.aload_n 0, 1) := by decide +kernel
theorem dM_init_21 : decode cM_init 21 = .ok (.bipush 24, 2) := by decide +kernel
theorem dM_init_23 : decode cM_init 23 = .ok (.newarray .int, 2) := by decide +kernel
theorem dM_init_25 : decode cM_init 25 = .ok (.putfield 16, 3) := by decide +kernel
theorem flM_16 : zFld "PostIndexModel" 16 7 6 31 := ⟨RM, TM, rfl, by decide, inM, (zA3 (i := 10) rfl rfl)⟩
theorem dM_init_28 : decode cM_init 28 = .ok (.aload_n 0, 1) := by decide +kernel
theorem dM_init_29 : decode cM_init 29 = .ok (.bipush 24, 2) := by decide +kernel
theorem dM_init_31 : decode cM_init 31 = .ok (.newarray .boolean, 2) := by decide +kernel
theorem dM_init_33 : decode cM_init 33 = .ok (.putfield 19, 3) := by decide +kernel
theorem flM_19 : zFld "PostIndexModel" 19 7 7 31 := ⟨RM, TM, rfl, by decide, inM, (zA3 (i := 11) rfl rfl)⟩
theorem dM_init_36 : decode cM_init 36 = .ok (.aload_n 0, 1) := by decide +kernel
theorem dM_init_37 : decode cM_init 37 = .ok (.bipush 24, 2) := by decide +kernel
theorem dM_init_39 : decode cM_init 39 = .ok (.newarray .int, 2) := by decide +kernel
theorem dM_init_41 : decode cM_init 41 = .ok (.putfield 23, 3) := by decide +kernel
theorem flM_23 : zFld "PostIndexModel" 23 7 8 31 := ⟨RM, TM, rfl, by decide, inM, (zA3 (i := 12) rfl rfl)⟩
theorem dM_init_44 : decode cM_init 44 = .ok (.aload_n 0, 1) := by decide +kernel
theorem dM_init_45 : decode cM_init 45 = .ok (.sipush 576, 3) := by decide +kernel
theorem dM_init_48 : decode cM_init 48 = .ok (.newarray .int, 2) := by decide +kernel
theorem dM_init_50 : decode cM_init 50 = .ok (.putfield 26, 3) := by decide +kernel
theorem flM_26 : zFld "PostIndexModel" 26 7 9 31 := ⟨RM, TM, rfl, by decide, inM, (zA3 (i := 13) rfl rfl)⟩
theorem dM_init_53 : decode cM_init 53 = .ok (.aload_n 0, 1) := by decide +kernel
theorem dM_init_54 : decode cM_init 54 = .ok (.bipush 24, 2) := by decide +kernel
theorem dM_init_56 : decode cM_init 56 = .ok (.newarray .int, 2) := by decide +kernel
theorem dM_init_58 : decode cM_init 58 = .ok (.putfield 29, 3) := by decide +kernel
theorem flM_29 : zFld "PostIndexModel" 29 7 10 31 := ⟨RM, TM, rfl, by decide, inM, (zA3 (i := 14) rfl rfl)⟩
theorem dM_init_61 : decode cM_init 61 = .ok (.aload_n 0, 1) := by decide +kernel
theorem dM_init_62 : decode cM_init 62 = .ok (.sipush 288, 3) := by decide +kernel
theorem dM_init_65 : decode cM_init 65 = .ok (.newarray .int, 2) := by decide +kernel
theorem dM_init_67 : decode cM_init 67 = .ok (.putfield 32, 3) := by decide +kernel
theorem flM_32 : zFld "PostIndexModel" 32 7 11 31 := ⟨RM, TM, rfl, by decide, inM, (zA3 (i := 15) rfl rfl)⟩
theorem dM_init_70 : decode cM_init 70 = .ok (.aload_n 0, 1) := by decide +kernel
theorem dM_init_71 : decode cM_init 71 = .ok (.sipush 288, 3) := by decide +kernel
theorem dM_init_74 : decode cM_init 74 = .ok (.newarray .int, 2) := by decide +kernel
theorem dM_init_76 : decode cM_init 76 = .ok (.putfield 35, 3) := by decide +kernel
theorem flM_35 : zFld "PostIndexModel" 35 7 12 31 := ⟨RM, TM, rfl, by decide, inM, (zA3 (i := 16) rfl rfl)⟩
theorem dM_init_79 : decode cM_init 79 = .ok (.aload_n 0, 1) := by decide +kernel
theorem dM_init_80 : decode cM_init 80 = .ok (.bipush 6, 2) := by decide +kernel
theorem dM_init_82 : decode cM_init 82 = .ok (.newarray .int, 2) := by decide +kernel
theorem dM_init_84 : decode cM_init 84 = .ok (.putfield 38, 3) := by decide +kernel
theorem flM_38 : zFld "PostIndexModel" 38 7 13 31 := ⟨RM, TM, rfl, by decide, inM, (zA3 (i := 17) rfl rfl)⟩
theorem dM_init_87 : decode cM_init 87 = .ok (.aload_n 0, 1) := by decide +kernel
theorem dM_init_88 : decode cM_init 88 = .ok (.bipush 6, 2) := by decide +kernel
theorem dM_init_90 : decode cM_init 90 = .ok (.newarray .boolean, 2) := by decide +kernel
theorem dM_init_92 : decode cM_init 92 = .ok (.putfield 41, 3) := by decide +kernel
theorem flM_41 : zFld "PostIndexModel" 41 7 14 31 := ⟨RM, TM, rfl, by decide, inM, (zA3 (i := 18) rfl rfl)⟩
theorem dM_init_95 : decode cM_init 95 = .ok (.aload_n 0, 1) := by decide +kernel
theorem dM_init_96 : decode cM_init 96 = .ok (.iconst 4, 1) := by decide +kernel
theorem dM_init_97 : decode cM_init 97 = .ok (.newarray .boolean, 2) := by decide +kernel
theorem dM_init_99 : decode cM_init 99 = .ok (.putfield 44, 3) := by decide +kernel
theorem flM_44 : zFld "PostIndexModel" 44 7 16 31 := ⟨RM, TM, rfl, by decide, inM, (zA3 (i := 20) rfl rfl)⟩
theorem dM_init_102 : decode cM_init 102 = .ok (.aload_n 0, 1) := by decide +kernel
theorem dM_init_103 : decode cM_init 103 = .ok (.iconst 4, 1) := by decide +kernel
theorem dM_init_104 : decode cM_init 104 = .ok (.newarray .int, 2) := by decide +kernel
theorem dM_init_106 : decode cM_init 106 = .ok (.putfield 47, 3) := by decide +kernel
theorem flM_47 : zFld "PostIndexModel" 47 7 17 31 := ⟨RM, TM, rfl, by decide, inM, (zA3 (i := 21) rfl rfl)⟩
theorem dM_init_109 : decode cM_init 109 = .ok (.aload_n 0, 1) := by decide +kernel
theorem dM_init_110 : decode cM_init 110 = .ok (.iconst 4, 1) := by decide +kernel
theorem dM_init_111 : decode cM_init 111 = .ok (.newarray .int, 2) := by decide +kernel
theorem dM_init_113 : decode cM_init 113 = .ok (.putfield 50, 3) := by decide +kernel
theorem flM_50 : zFld "PostIndexModel" 50 7 18 31 := ⟨RM, TM, rfl, by decide, inM, (zA3 (i := 22) rfl rfl)⟩
theorem dM_init_116 : decode cM_init 116 = .ok (.aload_n 0, 1) := by decide +kernel
theorem dM_init_117 : decode cM_init 117 = .ok (.bipush 96, 2) := by decide +kernel
theorem dM_init_119 : decode cM_init 119 = .ok (.newarray .int, 2) := by decide +kernel
theorem dM_init_121 : decode cM_init 121 = .ok (.putfield 53, 3) := by decide +kernel
theorem flM_53 : zFld "PostIndexModel" 53 7 19 31 := ⟨RM, TM, rfl, by decide, inM, (zA3 (i := 23) rfl rfl)⟩
theorem dM_init_124 : decode cM_init 124 = .ok (.aload_n 0, 1) := by decide +kernel
theorem dM_init_125 : decode cM_init 125 = .ok (.bipush 8, 2) := by decide +kernel
theorem dM_init_127 : decode cM_init 127 = .ok (.newarray .boolean, 2) := by decide +kernel
theorem dM_init_129 : decode cM_init 129 = .ok (.putfield 56, 3) := by decide +kernel
theorem flM_56 : zFld "PostIndexModel" 56 7 24 31 := ⟨RM, TM, rfl, by decide, inM, (zA3 (i := 28) rfl rfl)⟩
theorem dM_init_132 : decode cM_init 132 = .ok (.aload_n 0, 1) := by decide +kernel
theorem dM_init_133 : decode cM_init 133 = .ok (.bipush 8, 2) := by decide +kernel
theorem dM_init_135 : decode cM_init 135 = .ok (.newarray .boolean, 2) := by decide +kernel
theorem dM_init_137 : decode cM_init 137 = .ok (.putfield 59, 3) := by decide +kernel
theorem flM_59 : zFld "PostIndexModel" 59 7 25 31 := ⟨RM, TM, rfl, by decide, inM, (zA3 (i := 29) rfl rfl)⟩
theorem dM_init_140 : decode cM_init 140 = .ok (.aload_n 0, 1) := by decide +kernel
theorem dM_init_141 : decode cM_init 141 = .ok (.bipush 8, 2) := by decide +kernel
theorem dM_init_143 : decode cM_init 143 = .ok (.newarray .int, 2) := by decide +kernel
theorem dM_init_145 : decode cM_init 145 = .ok (.putfield 62, 3) := by decide +kernel
theorem flM_62 : zFld "PostIndexModel" 62 7 26 31 := ⟨RM, TM, rfl, by decide, inM, (zA3 (i := 30) rfl rfl)⟩
theorem dM_init_148 : decode cM_init 148 = .ok (.aload_n 0, 1) := by decide +kernel
theorem dM_init_149 : decode cM_init 149 = .ok (.bipush 8, 2) := by decide +kernel
theorem dM_init_151 : decode cM_init 151 = .ok (.newarray .int, 2) := by decide +kernel
theorem dM_init_153 : decode cM_init 153 = .ok (.putfield 65, 3) := by decide +kernel
theorem flM_65 : zFld "PostIndexModel" 65 7 27 31 := ⟨RM, TM, rfl, by decide, inM, (zA3 (i := 31) rfl rfl)⟩
theorem dM_init_156 : decode cM_init 156 = .ok (.aload_n 0, 1) := by decide +kernel
theorem dM_init_157 : decode cM_init 157 = .ok (.bipush 24, 2) := by decide +kernel
theorem dM_init_159 : decode cM_init 159 = .ok (.newarray .int, 2) := by decide +kernel
theorem dM_init_161 : decode cM_init 161 = .ok (.putfield 68, 3) := by decide +kernel
theorem flM_68 : zFld "PostIndexModel" 68 7 29 31 := ⟨RM, TM, rfl, by decide, inM, (zA3 (i := 33) rfl rfl)⟩
theorem dM_init_164 : decode cM_init 164 = .ok (.aload_n 0, 1) := by decide +kernel
theorem dM_init_165 : decode cM_init 165 = .ok (.bipush 24, 2) := by decide +kernel
theorem dM_init_167 : decode cM_init 167 = .ok (.newarray .int, 2) := by decide +kernel
theorem dM_init_169 : decode cM_init 169 = .ok (.putfield 71, 3) := by decide +kernel
theorem flM_71 : zFld "PostIndexModel" 71 7 30 31 := ⟨RM, TM, rfl, by decide, inM, (zA3 (i := 34) rfl rfl)⟩
theorem dM_init_172 : decode cM_init 172 = .ok (.return_, 1) := by decide +kernel
abbrev cM_digit : ByteArray := prog_9_method_2_code
def yM_digit : MethodName := ⟨"PostIndexModel", "digit", "(I)Z"⟩
def fM_digit (d : Nat) : zF := (cM_digit, 1, yM_digit, (some .boolean), d, 0, 0)
theorem meM_digit (d : Nat) : zMe (fM_digit d) 1 := ⟨(zA3 (i := 140) rfl rfl), (zA1 (i := 8) rfl rfl), by show "PostIndexModel" ≠ _; decide +kernel, by show "PostIndexModel" ≠ _; decide +kernel, by show (parseMethodDescriptor "(I)Z").map _ = _; decide +kernel⟩
theorem dM_digit_0 : decode cM_digit 0 = .ok (.iload_n 0, 1) := by decide +kernel
theorem dM_digit_1 : decode cM_digit 1 = .ok (.bipush 48, 2) := by decide +kernel
theorem dM_digit_3 : decode cM_digit 3 = .ok (.if_icmp .lt 13, 3) := by decide +kernel
theorem dM_digit_6 : decode cM_digit 6 = .ok (.iload_n 0, 1) := by decide +kernel
theorem dM_digit_7 : decode cM_digit 7 = .ok (.bipush 57, 2) := by decide +kernel
theorem dM_digit_9 : decode cM_digit 9 = .ok (.if_icmp .gt 7, 3) := by decide +kernel
theorem dM_digit_12 : decode cM_digit 12 = .ok (.iconst 1, 1) := by decide +kernel
theorem dM_digit_13 : decode cM_digit 13 = .ok (.goto 4, 3) := by decide +kernel
theorem dM_digit_16 : decode cM_digit 16 = .ok (.iconst 0, 1) := by decide +kernel
theorem dM_digit_17 : decode cM_digit 17 = .ok (.ireturn, 1) := by decide +kernel
abbrev cM_wordy : ByteArray := prog_9_method_3_code
def yM_wordy : MethodName := ⟨"PostIndexModel", "wordy", "(I)Z"⟩
def fM_wordy (d : Nat) : zF := (cM_wordy, 1, yM_wordy, (some .boolean), d, 0, 0)
theorem meM_wordy (d : Nat) : zMe (fM_wordy d) 1 := ⟨(zA3 (i := 137) rfl rfl), (zA1 (i := 8) rfl rfl), by show "PostIndexModel" ≠ _; decide +kernel, by show "PostIndexModel" ≠ _; decide +kernel, by show (parseMethodDescriptor "(I)Z").map _ = _; decide +kernel⟩
theorem dM_wordy_0 : decode cM_wordy 0 = .ok (.iload_n 0, 1) := by decide +kernel
theorem dM_wordy_1 : decode cM_wordy 1 = .ok (.invokestatic 74, 3) := by decide +kernel
theorem dM_wordy_4 : decode cM_wordy 4 = .ok (.ifCond .ne 33, 3) := by decide +kernel
theorem dM_wordy_7 : decode cM_wordy 7 = .ok (.iload_n 0, 1) := by decide +kernel
theorem dM_wordy_8 : decode cM_wordy 8 = .ok (.bipush 65, 2) := by decide +kernel
theorem dM_wordy_10 : decode cM_wordy 10 = .ok (.if_icmp .lt 9, 3) := by decide +kernel
theorem dM_wordy_13 : decode cM_wordy 13 = .ok (.iload_n 0, 1) := by decide +kernel
theorem dM_wordy_14 : decode cM_wordy 14 = .ok (.bipush 90, 2) := by decide +kernel
theorem dM_wordy_16 : decode cM_wordy 16 = .ok (.if_icmp .le 21, 3) := by decide +kernel
theorem dM_wordy_19 : decode cM_wordy 19 = .ok (.iload_n 0, 1) := by decide +kernel
theorem dM_wordy_20 : decode cM_wordy 20 = .ok (.bipush 97, 2) := by decide +kernel
theorem dM_wordy_22 : decode cM_wordy 22 = .ok (.if_icmp .lt 9, 3) := by decide +kernel
theorem dM_wordy_25 : decode cM_wordy 25 = .ok (.iload_n 0, 1) := by decide +kernel
theorem dM_wordy_26 : decode cM_wordy 26 = .ok (.bipush 122, 2) := by decide +kernel
theorem dM_wordy_28 : decode cM_wordy 28 = .ok (.if_icmp .le 9, 3) := by decide +kernel
theorem dM_wordy_31 : decode cM_wordy 31 = .ok (.iload_n 0, 1) := by decide +kernel
theorem dM_wordy_32 : decode cM_wordy 32 = .ok (.bipush 95, 2) := by decide +kernel
theorem dM_wordy_34 : decode cM_wordy 34 = .ok (.if_icmp .ne 7, 3) := by decide +kernel
theorem dM_wordy_37 : decode cM_wordy 37 = .ok (.iconst 1, 1) := by decide +kernel
theorem dM_wordy_38 : decode cM_wordy 38 = .ok (.goto 4, 3) := by decide +kernel
theorem dM_wordy_41 : decode cM_wordy 41 = .ok (.iconst 0, 1) := by decide +kernel
theorem dM_wordy_42 : decode cM_wordy 42 = .ok (.ireturn, 1) := by decide +kernel
abbrev cM_small : ByteArray := prog_9_method_4_code
def yM_small : MethodName := ⟨"PostIndexModel", "small", "(I)I"⟩
def fM_small (d : Nat) : zF := (cM_small, 1, yM_small, (some .int), d, 0, 0)
theorem meM_small (d : Nat) : zMe (fM_small d) 1 := ⟨(zA3 (i := 179) rfl rfl), (zA1 (i := 8) rfl rfl), by show "PostIndexModel" ≠ _; decide +kernel, by show "PostIndexModel" ≠ _; decide +kernel, by show (parseMethodDescriptor "(I)I").map _ = _; decide +kernel⟩
theorem dM_small_0 : decode cM_small 0 = .ok (.iload_n 0, 1) := by decide +kernel
theorem dM_small_1 : decode cM_small 1 = .ok (.bipush 65, 2) := by decide +kernel
theorem dM_small_3 : decode cM_small 3 = .ok (.if_icmp .lt 16, 3) := by decide +kernel
theorem dM_small_6 : decode cM_small 6 = .ok (.iload_n 0, 1) := by decide +kernel
theorem dM_small_7 : decode cM_small 7 = .ok (.bipush 90, 2) := by decide +kernel
theorem dM_small_9 : decode cM_small 9 = .ok (.if_icmp .gt 10, 3) := by decide +kernel
theorem dM_small_12 : decode cM_small 12 = .ok (.iload_n 0, 1) := by decide +kernel
theorem dM_small_13 : decode cM_small 13 = .ok (.bipush 32, 2) := by decide +kernel
theorem dM_small_15 : decode cM_small 15 = .ok (.iadd, 1) := by decide +kernel
theorem dM_small_16 : decode cM_small 16 = .ok (.goto 4, 3) := by decide +kernel
theorem dM_small_19 : decode cM_small 19 = .ok (.iload_n 0, 1) := by decide +kernel
theorem dM_small_20 : decode cM_small 20 = .ok (.ireturn, 1) := by decide +kernel
abbrev cM_type : ByteArray := prog_9_method_5_code
def yM_type : MethodName := ⟨"PostIndexModel", "type", "(C)Z"⟩
def fM_type (d : Nat) : zF := (cM_type, 2, yM_type, (some .boolean), d, 0, 0)
theorem meM_type (d : Nat) : zMe (fM_type d) 1 := ⟨(zA3 (i := 102) rfl rfl), (zA1 (i := 8) rfl rfl), by show "PostIndexModel" ≠ _; decide +kernel, by show "PostIndexModel" ≠ _; decide +kernel, by show (parseMethodDescriptor "(C)Z").map _ = _; decide +kernel⟩
theorem dM_type_0 : decode cM_type 0 = .ok (.iload_n 1, 1) := by decide +kernel
theorem dM_type_1 : decode cM_type 1 = .ok (.bipush 32, 2) := by decide +kernel
theorem dM_type_3 : decode cM_type 3 = .ok (.if_icmp .lt 18, 3) := by decide +kernel
theorem dM_type_6 : decode cM_type 6 = .ok (.iload_n 1, 1) := by decide +kernel
theorem dM_type_7 : decode cM_type 7 = .ok (.bipush 126, 2) := by decide +kernel
theorem dM_type_9 : decode cM_type 9 = .ok (.if_icmp .gt 12, 3) := by decide +kernel
theorem dM_type_12 : decode cM_type 12 = .ok (.aload_n 0, 1) := by decide +kernel
theorem dM_type_13 : decode cM_type 13 = .ok (.getfield 78, 3) := by decide +kernel
theorem flM_78 : zFld "PostIndexModel" 78 7 0 31 := ⟨RM, TM, rfl, by decide, inM, (zA3 (i := 4) rfl rfl)⟩
theorem dM_type_16 : decode cM_type 16 = .ok (.bipush 24, 2) := by decide +kernel
theorem dM_type_18 : decode cM_type 18 = .ok (.if_icmp .lt 5, 3) := by decide +kernel
theorem dM_type_21 : decode cM_type 21 = .ok (.iconst 0, 1) := by decide +kernel
theorem dM_type_22 : decode cM_type 22 = .ok (.ireturn, 1) := by decide +kernel
theorem dM_type_23 : decode cM_type 23 = .ok (.aload_n 0, 1) := by decide +kernel
theorem dM_type_24 : decode cM_type 24 = .ok (.getfield 7, 3) := by decide +kernel
theorem dM_type_27 : decode cM_type 27 = .ok (.aload_n 0, 1) := by decide +kernel
theorem dM_type_28 : decode cM_type 28 = .ok (.getfield 78, 3) := by decide +kernel
theorem dM_type_31 : decode cM_type 31 = .ok (.iload_n 1, 1) := by decide +kernel
theorem dM_type_32 : decode cM_type 32 = .ok (.iastore, 1) := by decide +kernel
theorem dM_type_33 : decode cM_type 33 = .ok (.aload_n 0, 1) := by decide +kernel
theorem dM_type_34 : decode cM_type 34 = .ok (.dup, 1) := by decide +kernel
theorem dM_type_35 : decode cM_type 35 = .ok (.getfield 78, 3) := by decide +kernel
theorem dM_type_38 : decode cM_type 38 = .ok (.iconst 1, 1) := by decide +kernel
theorem dM_type_39 : decode cM_type 39 = .ok (.iadd, 1) := by decide +kernel
theorem dM_type_40 : decode cM_type 40 = .ok (.putfield 78, 3) := by decide +kernel
theorem dM_type_43 : decode cM_type 43 = .ok (.iconst 1, 1) := by decide +kernel
theorem dM_type_44 : decode cM_type 44 = .ok (.ireturn, 1) := by decide +kernel
abbrev cM_shown : ByteArray := prog_9_method_6_code
def yM_shown : MethodName := ⟨"PostIndexModel", "shown", "(I)Z"⟩
def fM_shown (d : Nat) : zF := (cM_shown, 2, yM_shown, (some .boolean), d, 0, 0)
theorem meM_shown (d : Nat) : zMe (fM_shown d) 1 := ⟨(zA3 (i := 110) rfl rfl), (zA1 (i := 8) rfl rfl), by show "PostIndexModel" ≠ _; decide +kernel, by show "PostIndexModel" ≠ _; decide +kernel, by show (parseMethodDescriptor "(I)Z").map _ = _; decide +kernel⟩
theorem dM_shown_0 : decode cM_shown 0 = .ok (.iload_n 1, 1) := by decide +kernel
theorem dM_shown_1 : decode cM_shown 1 = .ok (.ifCond .lt 34, 3) := by decide +kernel
theorem dM_shown_4 : decode cM_shown 4 = .ok (.iload_n 1, 1) := by decide +kernel
theorem dM_shown_5 : decode cM_shown 5 = .ok (.aload_n 0, 1) := by decide +kernel
theorem dM_shown_6 : decode cM_shown 6 = .ok (.getfield 82, 3) := by decide +kernel
theorem flM_82 : zFld "PostIndexModel" 82 7 3 31 := ⟨RM, TM, rfl, by decide, inM, (zA3 (i := 7) rfl rfl)⟩
theorem dM_shown_9 : decode cM_shown 9 = .ok (.if_icmp .ge 26, 3) := by decide +kernel
theorem dM_shown_12 : decode cM_shown 12 = .ok (.aload_n 0, 1) := by decide +kernel
theorem dM_shown_13 : decode cM_shown 13 = .ok (.iload_n 1, 1) := by decide +kernel
theorem dM_shown_14 : decode cM_shown 14 = .ok (.iconst 4, 1) := by decide +kernel
theorem dM_shown_15 : decode cM_shown 15 = .ok (.idiv, 1) := by decide +kernel
theorem dM_shown_16 : decode cM_shown 16 = .ok (.invokevirtual 85, 3) := by decide +kernel
theorem dM_shown_19 : decode cM_shown 19 = .ok (.ifCond .eq 16, 3) := by decide +kernel
theorem dM_shown_22 : decode cM_shown 22 = .ok (.aload_n 0, 1) := by decide +kernel
theorem dM_shown_23 : decode cM_shown 23 = .ok (.getfield 19, 3) := by decide +kernel
theorem dM_shown_26 : decode cM_shown 26 = .ok (.iload_n 1, 1) := by decide +kernel
theorem dM_shown_27 : decode cM_shown 27 = .ok (.baload, 1) := by decide +kernel
theorem dM_shown_28 : decode cM_shown 28 = .ok (.ifCond .ne 7, 3) := by decide +kernel
theorem dM_shown_31 : decode cM_shown 31 = .ok (.iconst 1, 1) := by decide +kernel
theorem dM_shown_32 : decode cM_shown 32 = .ok (.goto 4, 3) := by decide +kernel
theorem dM_shown_35 : decode cM_shown 35 = .ok (.iconst 0, 1) := by decide +kernel
theorem dM_shown_36 : decode cM_shown 36 = .ok (.ireturn, 1) := by decide +kernel
abbrev cM_quote : ByteArray := prog_9_method_7_code
def yM_quote : MethodName := ⟨"PostIndexModel", "quote", "(I)I"⟩
def fM_quote (d : Nat) : zF := (cM_quote, 3, yM_quote, (some .int), d, 0, 0)
theorem meM_quote (d : Nat) : zMe (fM_quote d) 1 := ⟨(zA3 (i := 106) rfl rfl), (zA1 (i := 8) rfl rfl), by show "PostIndexModel" ≠ _; decide +kernel, by show "PostIndexModel" ≠ _; decide +kernel, by show (parseMethodDescriptor "(I)I").map _ = _; decide +kernel⟩
theorem dM_quote_0 : decode cM_quote 0 = .ok (.aload_n 0, 1) := by decide +kernel
theorem dM_quote_1 : decode cM_quote 1 = .ok (.iload_n 1, 1) := by decide +kernel
theorem dM_quote_2 : decode cM_quote 2 = .ok (.invokevirtual 88, 3) := by decide +kernel
theorem dM_quote_5 : decode cM_quote 5 = .ok (.ifCond .ne 5, 3) := by decide +kernel
theorem dM_quote_8 : decode cM_quote 8 = .ok (.iconst (-1), 1) := by decide +kernel
theorem dM_quote_9 : decode cM_quote 9 = .ok (.ireturn, 1) := by decide +kernel
theorem dM_quote_10 : decode cM_quote 10 = .ok (.iconst 0, 1) := by decide +kernel
theorem dM_quote_11 : decode cM_quote 11 = .ok (.istore_n 2, 1) := by decide +kernel
theorem dM_quote_12 : decode cM_quote 12 = .ok (.iload_n 2, 1) := by decide +kernel
theorem dM_quote_13 : decode cM_quote 13 = .ok (.aload_n 0, 1) := by decide +kernel
theorem dM_quote_14 : decode cM_quote 14 = .ok (.getfield 23, 3) := by decide +kernel
theorem dM_quote_17 : decode cM_quote 17 = .ok (.iload_n 1, 1) := by decide +kernel
theorem dM_quote_18 : decode cM_quote 18 = .ok (.iaload, 1) := by decide +kernel
theorem dM_quote_19 : decode cM_quote 19 = .ok (.if_icmp .ge 48, 3) := by decide +kernel
theorem dM_quote_22 : decode cM_quote 22 = .ok (.aload_n 0, 1) := by decide +kernel
theorem dM_quote_23 : decode cM_quote 23 = .ok (.getfield 78, 3) := by decide +kernel
theorem dM_quote_26 : decode cM_quote 26 = .ok (.bipush 24, 2) := by decide +kernel
theorem dM_quote_28 : decode cM_quote 28 = .ok (.if_icmp .ge 39, 3) := by decide +kernel
theorem dM_quote_31 : decode cM_quote 31 = .ok (.aload_n 0, 1) := by decide +kernel
theorem dM_quote_32 : decode cM_quote 32 = .ok (.getfield 7, 3) := by decide +kernel
theorem dM_quote_35 : decode cM_quote 35 = .ok (.aload_n 0, 1) := by decide +kernel
theorem dM_quote_36 : decode cM_quote 36 = .ok (.getfield 78, 3) := by decide +kernel
theorem dM_quote_39 : decode cM_quote 39 = .ok (.aload_n 0, 1) := by decide +kernel
theorem dM_quote_40 : decode cM_quote 40 = .ok (.getfield 26, 3) := by decide +kernel
theorem dM_quote_43 : decode cM_quote 43 = .ok (.bipush 24, 2) := by decide +kernel
theorem dM_quote_45 : decode cM_quote 45 = .ok (.iload_n 1, 1) := by decide +kernel
theorem dM_quote_46 : decode cM_quote 46 = .ok (.imul, 1) := by decide +kernel
theorem dM_quote_47 : decode cM_quote 47 = .ok (.iload_n 2, 1) := by decide +kernel
theorem dM_quote_48 : decode cM_quote 48 = .ok (.iadd, 1) := by decide +kernel
theorem dM_quote_49 : decode cM_quote 49 = .ok (.iaload, 1) := by decide +kernel
theorem dM_quote_50 : decode cM_quote 50 = .ok (.iastore, 1) := by decide +kernel
theorem dM_quote_51 : decode cM_quote 51 = .ok (.aload_n 0, 1) := by decide +kernel
theorem dM_quote_52 : decode cM_quote 52 = .ok (.dup, 1) := by decide +kernel
theorem dM_quote_53 : decode cM_quote 53 = .ok (.getfield 78, 3) := by decide +kernel
theorem dM_quote_56 : decode cM_quote 56 = .ok (.iconst 1, 1) := by decide +kernel
theorem dM_quote_57 : decode cM_quote 57 = .ok (.iadd, 1) := by decide +kernel
theorem dM_quote_58 : decode cM_quote 58 = .ok (.putfield 78, 3) := by decide +kernel
theorem dM_quote_61 : decode cM_quote 61 = .ok (.iinc 2 1, 3) := by decide +kernel
theorem dM_quote_64 : decode cM_quote 64 = .ok (.goto (-52), 3) := by decide +kernel
theorem dM_quote_67 : decode cM_quote 67 = .ok (.iload_n 2, 1) := by decide +kernel
theorem dM_quote_68 : decode cM_quote 68 = .ok (.ireturn, 1) := by decide +kernel
abbrev cM_clear : ByteArray := prog_9_method_8_code
def yM_clear : MethodName := ⟨"PostIndexModel", "clear", "()V"⟩
def fM_clear (d : Nat) : zF := (cM_clear, 1, yM_clear, none, d, 0, 0)
theorem meM_clear (d : Nat) : zMe (fM_clear d) 0 := ⟨(zA3 (i := 122) rfl rfl), (zA1 (i := 8) rfl rfl), by show "PostIndexModel" ≠ _; decide +kernel, by show "PostIndexModel" ≠ _; decide +kernel, by show (parseMethodDescriptor "()V").map _ = _; decide +kernel⟩
theorem dM_clear_0 : decode cM_clear 0 = .ok (.aload_n 0, 1) := by decide +kernel
theorem dM_clear_1 : decode cM_clear 1 = .ok (.iconst 0, 1) := by decide +kernel
theorem dM_clear_2 : decode cM_clear 2 = .ok (.putfield 78, 3) := by decide +kernel
theorem dM_clear_5 : decode cM_clear 5 = .ok (.return_, 1) := by decide +kernel
abbrev cM_length : ByteArray := prog_9_method_9_code
def yM_length : MethodName := ⟨"PostIndexModel", "length", "()I"⟩
def fM_length (d : Nat) : zF := (cM_length, 1, yM_length, (some .int), d, 0, 0)
theorem meM_length (d : Nat) : zMe (fM_length d) 0 := ⟨(zA3 (i := 126) rfl rfl), (zA1 (i := 8) rfl rfl), by show "PostIndexModel" ≠ _; decide +kernel, by show "PostIndexModel" ≠ _; decide +kernel, by show (parseMethodDescriptor "()I").map _ = _; decide +kernel⟩
theorem dM_length_0 : decode cM_length 0 = .ok (.aload_n 0, 1) := by decide +kernel
theorem dM_length_1 : decode cM_length 1 = .ok (.getfield 78, 3) := by decide +kernel
theorem dM_length_4 : decode cM_length 4 = .ok (.ireturn, 1) := by decide +kernel
abbrev cM_post : ByteArray := prog_9_method_10_code
def yM_post : MethodName := ⟨"PostIndexModel", "post", "(II)I"⟩
def fM_post (d : Nat) : zF := (cM_post, 4, yM_post, (some .int), d, 0, 0)
theorem meM_post (d : Nat) : zMe (fM_post d) 2 := ⟨(zA3 (i := 130) rfl rfl), (zA1 (i := 8) rfl rfl), by show "PostIndexModel" ≠ _; decide +kernel, by show "PostIndexModel" ≠ _; decide +kernel, by show (parseMethodDescriptor "(II)I").map _ = _; decide +kernel⟩
theorem dM_post_0 : decode cM_post 0 = .ok (.iload_n 1, 1) := by decide +kernel
theorem dM_post_1 : decode cM_post 1 = .ok (.ifCond .lt 31, 3) := by decide +kernel
theorem dM_post_4 : decode cM_post 4 = .ok (.iload_n 1, 1) := by decide +kernel
theorem dM_post_5 : decode cM_post 5 = .ok (.bipush 9, 2) := by decide +kernel
theorem dM_post_7 : decode cM_post 7 = .ok (.if_icmp .gt 25, 3) := by decide +kernel
theorem dM_post_10 : decode cM_post 10 = .ok (.aload_n 0, 1) := by decide +kernel
theorem dM_post_11 : decode cM_post 11 = .ok (.getfield 91, 3) := by decide +kernel
theorem flM_91 : zFld "PostIndexModel" 91 7 2 31 := ⟨RM, TM, rfl, by decide, inM, (zA3 (i := 6) rfl rfl)⟩
theorem dM_post_14 : decode cM_post 14 = .ok (.aload_n 0, 1) := by decide +kernel
theorem dM_post_15 : decode cM_post 15 = .ok (.getfield 82, 3) := by decide +kernel
theorem dM_post_18 : decode cM_post 18 = .ok (.isub, 1) := by decide +kernel
theorem dM_post_19 : decode cM_post 19 = .ok (.iconst 4, 1) := by decide +kernel
theorem dM_post_20 : decode cM_post 20 = .ok (.if_icmp .ge 12, 3) := by decide +kernel
theorem dM_post_23 : decode cM_post 23 = .ok (.aload_n 0, 1) := by decide +kernel
theorem dM_post_24 : decode cM_post 24 = .ok (.getfield 91, 3) := by decide +kernel
theorem dM_post_27 : decode cM_post 27 = .ok (.bipush 24, 2) := by decide +kernel
theorem dM_post_29 : decode cM_post 29 = .ok (.if_icmp .lt 5, 3) := by decide +kernel
theorem dM_post_32 : decode cM_post 32 = .ok (.iconst (-1), 1) := by decide +kernel
theorem dM_post_33 : decode cM_post 33 = .ok (.ireturn, 1) := by decide +kernel
theorem dM_post_34 : decode cM_post 34 = .ok (.aload_n 0, 1) := by decide +kernel
theorem dM_post_35 : decode cM_post 35 = .ok (.getfield 13, 3) := by decide +kernel
theorem dM_post_38 : decode cM_post 38 = .ok (.aload_n 0, 1) := by decide +kernel
theorem dM_post_39 : decode cM_post 39 = .ok (.getfield 91, 3) := by decide +kernel
theorem dM_post_42 : decode cM_post 42 = .ok (.iload_n 1, 1) := by decide +kernel
theorem dM_post_43 : decode cM_post 43 = .ok (.iastore, 1) := by decide +kernel
theorem dM_post_44 : decode cM_post 44 = .ok (.aload_n 0, 1) := by decide +kernel
theorem dM_post_45 : decode cM_post 45 = .ok (.getfield 16, 3) := by decide +kernel
theorem dM_post_48 : decode cM_post 48 = .ok (.aload_n 0, 1) := by decide +kernel
theorem dM_post_49 : decode cM_post 49 = .ok (.getfield 91, 3) := by decide +kernel
theorem dM_post_52 : decode cM_post 52 = .ok (.iload_n 2, 1) := by decide +kernel
theorem dM_post_53 : decode cM_post 53 = .ok (.iastore, 1) := by decide +kernel
theorem dM_post_54 : decode cM_post 54 = .ok (.aload_n 0, 1) := by decide +kernel
theorem dM_post_55 : decode cM_post 55 = .ok (.getfield 23, 3) := by decide +kernel
theorem dM_post_58 : decode cM_post 58 = .ok (.aload_n 0, 1) := by decide +kernel
theorem dM_post_59 : decode cM_post 59 = .ok (.getfield 91, 3) := by decide +kernel
theorem dM_post_62 : decode cM_post 62 = .ok (.aload_n 0, 1) := by decide +kernel
theorem dM_post_63 : decode cM_post 63 = .ok (.getfield 78, 3) := by decide +kernel
theorem dM_post_66 : decode cM_post 66 = .ok (.iastore, 1) := by decide +kernel
theorem dM_post_67 : decode cM_post 67 = .ok (.iconst 0, 1) := by decide +kernel
theorem dM_post_68 : decode cM_post 68 = .ok (.istore_n 3, 1) := by decide +kernel
theorem dM_post_69 : decode cM_post 69 = .ok (.iload_n 3, 1) := by decide +kernel
theorem dM_post_70 : decode cM_post 70 = .ok (.aload_n 0, 1) := by decide +kernel
theorem dM_post_71 : decode cM_post 71 = .ok (.getfield 78, 3) := by decide +kernel
theorem dM_post_74 : decode cM_post 74 = .ok (.if_icmp .ge 29, 3) := by decide +kernel
theorem dM_post_77 : decode cM_post 77 = .ok (.aload_n 0, 1) := by decide +kernel
theorem dM_post_78 : decode cM_post 78 = .ok (.getfield 26, 3) := by decide +kernel
theorem dM_post_81 : decode cM_post 81 = .ok (.bipush 24, 2) := by decide +kernel
theorem dM_post_83 : decode cM_post 83 = .ok (.aload_n 0, 1) := by decide +kernel
theorem dM_post_84 : decode cM_post 84 = .ok (.getfield 91, 3) := by decide +kernel
theorem dM_post_87 : decode cM_post 87 = .ok (.imul, 1) := by decide +kernel
theorem dM_post_88 : decode cM_post 88 = .ok (.iload_n 3, 1) := by decide +kernel
theorem dM_post_89 : decode cM_post 89 = .ok (.iadd, 1) := by decide +kernel
theorem dM_post_90 : decode cM_post 90 = .ok (.aload_n 0, 1) := by decide +kernel
theorem dM_post_91 : decode cM_post 91 = .ok (.getfield 7, 3) := by decide +kernel
theorem dM_post_94 : decode cM_post 94 = .ok (.iload_n 3, 1) := by decide +kernel
theorem dM_post_95 : decode cM_post 95 = .ok (.iaload, 1) := by decide +kernel
theorem dM_post_96 : decode cM_post 96 = .ok (.iastore, 1) := by decide +kernel
theorem dM_post_97 : decode cM_post 97 = .ok (.iinc 3 1, 3) := by decide +kernel
theorem dM_post_100 : decode cM_post 100 = .ok (.goto (-31), 3) := by decide +kernel
theorem dM_post_103 : decode cM_post 103 = .ok (.aload_n 0, 1) := by decide +kernel
theorem dM_post_104 : decode cM_post 104 = .ok (.iconst 0, 1) := by decide +kernel
theorem dM_post_105 : decode cM_post 105 = .ok (.putfield 78, 3) := by decide +kernel
theorem dM_post_108 : decode cM_post 108 = .ok (.aload_n 0, 1) := by decide +kernel
theorem dM_post_109 : decode cM_post 109 = .ok (.aload_n 0, 1) := by decide +kernel
theorem dM_post_110 : decode cM_post 110 = .ok (.getfield 91, 3) := by decide +kernel
theorem dM_post_113 : decode cM_post 113 = .ok (.invokevirtual 94, 3) := by decide +kernel
theorem dM_post_116 : decode cM_post 116 = .ok (.aload_n 0, 1) := by decide +kernel
theorem dM_post_117 : decode cM_post 117 = .ok (.dup, 1) := by decide +kernel
theorem dM_post_118 : decode cM_post 118 = .ok (.getfield 91, 3) := by decide +kernel
theorem dM_post_121 : decode cM_post 121 = .ok (.iconst 1, 1) := by decide +kernel
theorem dM_post_122 : decode cM_post 122 = .ok (.iadd, 1) := by decide +kernel
theorem dM_post_123 : decode cM_post 123 = .ok (.putfield 91, 3) := by decide +kernel
theorem dM_post_126 : decode cM_post 126 = .ok (.aload_n 0, 1) := by decide +kernel
theorem dM_post_127 : decode cM_post 127 = .ok (.getfield 91, 3) := by decide +kernel
theorem dM_post_130 : decode cM_post 130 = .ok (.iconst 1, 1) := by decide +kernel
theorem dM_post_131 : decode cM_post 131 = .ok (.isub, 1) := by decide +kernel
theorem dM_post_132 : decode cM_post 132 = .ok (.ireturn, 1) := by decide +kernel
abbrev cM_cut : ByteArray := prog_9_method_11_code
def yM_cut : MethodName := ⟨"PostIndexModel", "cut", "(I)V"⟩
def fM_cut (d : Nat) : zF := (cM_cut, 8, yM_cut, none, d, 0, 0)
theorem meM_cut (d : Nat) : zMe (fM_cut d) 1 := ⟨(zA3 (i := 134) rfl rfl), (zA1 (i := 8) rfl rfl), by show "PostIndexModel" ≠ _; decide +kernel, by show "PostIndexModel" ≠ _; decide +kernel, by show (parseMethodDescriptor "(I)V").map _ = _; decide +kernel⟩
theorem dM_cut_0 : decode cM_cut 0 = .ok (.iconst 0, 1) := by decide +kernel
theorem dM_cut_1 : decode cM_cut 1 = .ok (.istore_n 2, 1) := by decide +kernel
theorem dM_cut_2 : decode cM_cut 2 = .ok (.bipush 24, 2) := by decide +kernel
theorem dM_cut_4 : decode cM_cut 4 = .ok (.iload_n 1, 1) := by decide +kernel
theorem dM_cut_5 : decode cM_cut 5 = .ok (.imul, 1) := by decide +kernel
theorem dM_cut_6 : decode cM_cut 6 = .ok (.istore_n 3, 1) := by decide +kernel
theorem dM_cut_7 : decode cM_cut 7 = .ok (.iconst 0, 1) := by decide +kernel
theorem dM_cut_8 : decode cM_cut 8 = .ok (.istore 4, 2) := by decide +kernel
theorem dM_cut_10 : decode cM_cut 10 = .ok (.iload 4, 2) := by decide +kernel
theorem dM_cut_12 : decode cM_cut 12 = .ok (.aload_n 0, 1) := by decide +kernel
theorem dM_cut_13 : decode cM_cut 13 = .ok (.getfield 23, 3) := by decide +kernel
theorem dM_cut_16 : decode cM_cut 16 = .ok (.iload_n 1, 1) := by decide +kernel
theorem dM_cut_17 : decode cM_cut 17 = .ok (.iaload, 1) := by decide +kernel
theorem dM_cut_18 : decode cM_cut 18 = .ok (.if_icmp .ge 183, 3) := by decide +kernel
theorem dM_cut_21 : decode cM_cut 21 = .ok (.aload_n 0, 1) := by decide +kernel
theorem dM_cut_22 : decode cM_cut 22 = .ok (.getfield 26, 3) := by decide +kernel
theorem dM_cut_25 : decode cM_cut 25 = .ok (.iload_n 3, 1) := by decide +kernel
theorem dM_cut_26 : decode cM_cut 26 = .ok (.iload 4, 2) := by decide +kernel
theorem dM_cut_28 : decode cM_cut 28 = .ok (.iadd, 1) := by decide +kernel
theorem dM_cut_29 : decode cM_cut 29 = .ok (.iaload, 1) := by decide +kernel
theorem dM_cut_30 : decode cM_cut 30 = .ok (.invokestatic 98, 3) := by decide +kernel
theorem dM_cut_33 : decode cM_cut 33 = .ok (.ifCond .eq 29, 3) := by decide +kernel
theorem dM_cut_36 : decode cM_cut 36 = .ok (.iload 4, 2) := by decide +kernel
theorem dM_cut_38 : decode cM_cut 38 = .ok (.ifCond .eq 20, 3) := by decide +kernel
theorem dM_cut_41 : decode cM_cut 41 = .ok (.aload_n 0, 1) := by decide +kernel
theorem dM_cut_42 : decode cM_cut 42 = .ok (.getfield 26, 3) := by decide +kernel
theorem dM_cut_45 : decode cM_cut 45 = .ok (.iload_n 3, 1) := by decide +kernel
theorem dM_cut_46 : decode cM_cut 46 = .ok (.iload 4, 2) := by decide +kernel
theorem dM_cut_48 : decode cM_cut 48 = .ok (.iadd, 1) := by decide +kernel
theorem dM_cut_49 : decode cM_cut 49 = .ok (.iconst 1, 1) := by decide +kernel
theorem dM_cut_50 : decode cM_cut 50 = .ok (.isub, 1) := by decide +kernel
theorem dM_cut_51 : decode cM_cut 51 = .ok (.iaload, 1) := by decide +kernel
theorem dM_cut_52 : decode cM_cut 52 = .ok (.invokestatic 98, 3) := by decide +kernel
theorem dM_cut_55 : decode cM_cut 55 = .ok (.ifCond .ne 7, 3) := by decide +kernel
theorem dM_cut_58 : decode cM_cut 58 = .ok (.iconst 1, 1) := by decide +kernel
theorem dM_cut_59 : decode cM_cut 59 = .ok (.goto 4, 3) := by decide +kernel
theorem dM_cut_62 : decode cM_cut 62 = .ok (.iconst 0, 1) := by decide +kernel
theorem dM_cut_63 : decode cM_cut 63 = .ok (.istore 5, 2) := by decide +kernel
theorem dM_cut_65 : decode cM_cut 65 = .ok (.iload 5, 2) := by decide +kernel
theorem dM_cut_67 : decode cM_cut 67 = .ok (.ifCond .eq 128, 3) := by decide +kernel
theorem dM_cut_70 : decode cM_cut 70 = .ok (.iload 4, 2) := by decide +kernel
theorem dM_cut_72 : decode cM_cut 72 = .ok (.ifCond .le 39, 3) := by decide +kernel
theorem dM_cut_75 : decode cM_cut 75 = .ok (.aload_n 0, 1) := by decide +kernel
theorem dM_cut_76 : decode cM_cut 76 = .ok (.getfield 26, 3) := by decide +kernel
theorem dM_cut_79 : decode cM_cut 79 = .ok (.iload_n 3, 1) := by decide +kernel
theorem dM_cut_80 : decode cM_cut 80 = .ok (.iload 4, 2) := by decide +kernel
theorem dM_cut_82 : decode cM_cut 82 = .ok (.iadd, 1) := by decide +kernel
theorem dM_cut_83 : decode cM_cut 83 = .ok (.iconst 1, 1) := by decide +kernel
theorem dM_cut_84 : decode cM_cut 84 = .ok (.isub, 1) := by decide +kernel
theorem dM_cut_85 : decode cM_cut 85 = .ok (.iaload, 1) := by decide +kernel
theorem dM_cut_86 : decode cM_cut 86 = .ok (.bipush 35, 2) := by decide +kernel
theorem dM_cut_88 : decode cM_cut 88 = .ok (.if_icmp .eq 19, 3) := by decide +kernel
theorem dM_cut_91 : decode cM_cut 91 = .ok (.aload_n 0, 1) := by decide +kernel
theorem dM_cut_92 : decode cM_cut 92 = .ok (.getfield 26, 3) := by decide +kernel
theorem dM_cut_95 : decode cM_cut 95 = .ok (.iload_n 3, 1) := by decide +kernel
theorem dM_cut_96 : decode cM_cut 96 = .ok (.iload 4, 2) := by decide +kernel
theorem dM_cut_98 : decode cM_cut 98 = .ok (.iadd, 1) := by decide +kernel
theorem dM_cut_99 : decode cM_cut 99 = .ok (.iconst 1, 1) := by decide +kernel
theorem dM_cut_100 : decode cM_cut 100 = .ok (.isub, 1) := by decide +kernel
theorem dM_cut_101 : decode cM_cut 101 = .ok (.iaload, 1) := by decide +kernel
theorem dM_cut_102 : decode cM_cut 102 = .ok (.bipush 64, 2) := by decide +kernel
theorem dM_cut_104 : decode cM_cut 104 = .ok (.if_icmp .ne 7, 3) := by decide +kernel
theorem dM_cut_107 : decode cM_cut 107 = .ok (.iconst 1, 1) := by decide +kernel
theorem dM_cut_108 : decode cM_cut 108 = .ok (.goto 4, 3) := by decide +kernel
theorem dM_cut_111 : decode cM_cut 111 = .ok (.iconst 0, 1) := by decide +kernel
theorem dM_cut_112 : decode cM_cut 112 = .ok (.istore 6, 2) := by decide +kernel
theorem dM_cut_114 : decode cM_cut 114 = .ok (.iload 4, 2) := by decide +kernel
theorem dM_cut_116 : decode cM_cut 116 = .ok (.istore 7, 2) := by decide +kernel
theorem dM_cut_118 : decode cM_cut 118 = .ok (.iload 7, 2) := by decide +kernel
theorem dM_cut_120 : decode cM_cut 120 = .ok (.aload_n 0, 1) := by decide +kernel
theorem dM_cut_121 : decode cM_cut 121 = .ok (.getfield 23, 3) := by decide +kernel
theorem dM_cut_124 : decode cM_cut 124 = .ok (.iload_n 1, 1) := by decide +kernel
theorem dM_cut_125 : decode cM_cut 125 = .ok (.iaload, 1) := by decide +kernel
theorem dM_cut_126 : decode cM_cut 126 = .ok (.if_icmp .ge 24, 3) := by decide +kernel
theorem dM_cut_129 : decode cM_cut 129 = .ok (.aload_n 0, 1) := by decide +kernel
theorem dM_cut_130 : decode cM_cut 130 = .ok (.getfield 26, 3) := by decide +kernel
theorem dM_cut_133 : decode cM_cut 133 = .ok (.iload_n 3, 1) := by decide +kernel
theorem dM_cut_134 : decode cM_cut 134 = .ok (.iload 7, 2) := by decide +kernel
theorem dM_cut_136 : decode cM_cut 136 = .ok (.iadd, 1) := by decide +kernel
theorem dM_cut_137 : decode cM_cut 137 = .ok (.iaload, 1) := by decide +kernel
theorem dM_cut_138 : decode cM_cut 138 = .ok (.invokestatic 98, 3) := by decide +kernel
theorem dM_cut_141 : decode cM_cut 141 = .ok (.ifCond .eq 9, 3) := by decide +kernel
theorem dM_cut_144 : decode cM_cut 144 = .ok (.iinc 7 1, 3) := by decide +kernel
theorem dM_cut_147 : decode cM_cut 147 = .ok (.goto (-29), 3) := by decide +kernel
theorem dM_cut_150 : decode cM_cut 150 = .ok (.aload_n 0, 1) := by decide +kernel
theorem dM_cut_151 : decode cM_cut 151 = .ok (.getfield 32, 3) := by decide +kernel
theorem dM_cut_154 : decode cM_cut 154 = .ok (.bipush 12, 2) := by decide +kernel
theorem dM_cut_156 : decode cM_cut 156 = .ok (.iload_n 1, 1) := by decide +kernel
theorem dM_cut_157 : decode cM_cut 157 = .ok (.imul, 1) := by decide +kernel
theorem dM_cut_158 : decode cM_cut 158 = .ok (.iload_n 2, 1) := by decide +kernel
theorem dM_cut_159 : decode cM_cut 159 = .ok (.iadd, 1) := by decide +kernel
theorem dM_cut_160 : decode cM_cut 160 = .ok (.iload_n 3, 1) := by decide +kernel
theorem dM_cut_161 : decode cM_cut 161 = .ok (.iload 6, 2) := by decide +kernel
theorem dM_cut_163 : decode cM_cut 163 = .ok (.ifCond .eq 10, 3) := by decide +kernel
theorem dM_cut_166 : decode cM_cut 166 = .ok (.iload 4, 2) := by decide +kernel
theorem dM_cut_168 : decode cM_cut 168 = .ok (.iconst 1, 1) := by decide +kernel
theorem dM_cut_169 : decode cM_cut 169 = .ok (.isub, 1) := by decide +kernel
theorem dM_cut_170 : decode cM_cut 170 = .ok (.goto 5, 3) := by decide +kernel
theorem dM_cut_173 : decode cM_cut 173 = .ok (.iload 4, 2) := by decide +kernel
theorem dM_cut_175 : decode cM_cut 175 = .ok (.iadd, 1) := by decide +kernel
theorem dM_cut_176 : decode cM_cut 176 = .ok (.iastore, 1) := by decide +kernel
theorem dM_cut_177 : decode cM_cut 177 = .ok (.aload_n 0, 1) := by decide +kernel
theorem dM_cut_178 : decode cM_cut 178 = .ok (.getfield 35, 3) := by decide +kernel
theorem dM_cut_181 : decode cM_cut 181 = .ok (.bipush 12, 2) := by decide +kernel
theorem dM_cut_183 : decode cM_cut 183 = .ok (.iload_n 1, 1) := by decide +kernel
theorem dM_cut_184 : decode cM_cut 184 = .ok (.imul, 1) := by decide +kernel
theorem dM_cut_185 : decode cM_cut 185 = .ok (.iload_n 2, 1) := by decide +kernel
theorem dM_cut_186 : decode cM_cut 186 = .ok (.iadd, 1) := by decide +kernel
theorem dM_cut_187 : decode cM_cut 187 = .ok (.iload_n 3, 1) := by decide +kernel
theorem dM_cut_188 : decode cM_cut 188 = .ok (.iload 7, 2) := by decide +kernel
theorem dM_cut_190 : decode cM_cut 190 = .ok (.iadd, 1) := by decide +kernel
theorem dM_cut_191 : decode cM_cut 191 = .ok (.iastore, 1) := by decide +kernel
theorem dM_cut_192 : decode cM_cut 192 = .ok (.iinc 2 1, 3) := by decide +kernel
theorem dM_cut_195 : decode cM_cut 195 = .ok (.iinc 4 1, 3) := by decide +kernel
theorem dM_cut_198 : decode cM_cut 198 = .ok (.goto (-188), 3) := by decide +kernel
theorem dM_cut_201 : decode cM_cut 201 = .ok (.aload_n 0, 1) := by decide +kernel
theorem dM_cut_202 : decode cM_cut 202 = .ok (.getfield 29, 3) := by decide +kernel
theorem dM_cut_205 : decode cM_cut 205 = .ok (.iload_n 1, 1) := by decide +kernel
theorem dM_cut_206 : decode cM_cut 206 = .ok (.iload_n 2, 1) := by decide +kernel
theorem dM_cut_207 : decode cM_cut 207 = .ok (.iastore, 1) := by decide +kernel
theorem dM_cut_208 : decode cM_cut 208 = .ok (.return_, 1) := by decide +kernel
abbrev cM_begun : ByteArray := prog_9_method_12_code
def yM_begun : MethodName := ⟨"PostIndexModel", "begun", "(I)Z"⟩
def fM_begun (d : Nat) : zF := (cM_begun, 2, yM_begun, (some .boolean), d, 0, 0)
theorem meM_begun (d : Nat) : zMe (fM_begun d) 1 := ⟨(zA3 (i := 118) rfl rfl), (zA1 (i := 8) rfl rfl), by show "PostIndexModel" ≠ _; decide +kernel, by show "PostIndexModel" ≠ _; decide +kernel, by show (parseMethodDescriptor "(I)Z").map _ = _; decide +kernel⟩
theorem dM_begun_0 : decode cM_begun 0 = .ok (.aload_n 0, 1) := by decide +kernel
theorem dM_begun_1 : decode cM_begun 1 = .ok (.getfield 82, 3) := by decide +kernel
theorem dM_begun_4 : decode cM_begun 4 = .ok (.iconst 4, 1) := by decide +kernel
theorem dM_begun_5 : decode cM_begun 5 = .ok (.iload_n 1, 1) := by decide +kernel
theorem dM_begun_6 : decode cM_begun 6 = .ok (.imul, 1) := by decide +kernel
theorem dM_begun_7 : decode cM_begun 7 = .ok (.if_icmp .gt 20, 3) := by decide +kernel
theorem dM_begun_10 : decode cM_begun 10 = .ok (.aload_n 0, 1) := by decide +kernel
theorem dM_begun_11 : decode cM_begun 11 = .ok (.getfield 82, 3) := by decide +kernel
theorem dM_begun_14 : decode cM_begun 14 = .ok (.iconst 4, 1) := by decide +kernel
theorem dM_begun_15 : decode cM_begun 15 = .ok (.iload_n 1, 1) := by decide +kernel
theorem dM_begun_16 : decode cM_begun 16 = .ok (.imul, 1) := by decide +kernel
theorem dM_begun_17 : decode cM_begun 17 = .ok (.if_icmp .ne 14, 3) := by decide +kernel
theorem dM_begun_20 : decode cM_begun 20 = .ok (.aload_n 0, 1) := by decide +kernel
theorem dM_begun_21 : decode cM_begun 21 = .ok (.getfield 101, 3) := by decide +kernel
theorem flM_101 : zFld "PostIndexModel" 101 7 4 31 := ⟨RM, TM, rfl, by decide, inM, (zA3 (i := 8) rfl rfl)⟩
theorem dM_begun_24 : decode cM_begun 24 = .ok (.ifCond .le 7, 3) := by decide +kernel
theorem dM_begun_27 : decode cM_begun 27 = .ok (.iconst 1, 1) := by decide +kernel
theorem dM_begun_28 : decode cM_begun 28 = .ok (.goto 4, 3) := by decide +kernel
theorem dM_begun_31 : decode cM_begun 31 = .ok (.iconst 0, 1) := by decide +kernel
theorem dM_begun_32 : decode cM_begun 32 = .ok (.ireturn, 1) := by decide +kernel
abbrev cM_live : ByteArray := prog_9_method_13_code
def yM_live : MethodName := ⟨"PostIndexModel", "live", "(I)Z"⟩
def fM_live (d : Nat) : zF := (cM_live, 2, yM_live, (some .boolean), d, 0, 0)
theorem meM_live (d : Nat) : zMe (fM_live d) 1 := ⟨(zA3 (i := 114) rfl rfl), (zA1 (i := 8) rfl rfl), by show "PostIndexModel" ≠ _; decide +kernel, by show "PostIndexModel" ≠ _; decide +kernel, by show (parseMethodDescriptor "(I)Z").map _ = _; decide +kernel⟩
theorem dM_live_0 : decode cM_live 0 = .ok (.aload_n 0, 1) := by decide +kernel
theorem dM_live_1 : decode cM_live 1 = .ok (.iload_n 1, 1) := by decide +kernel
theorem dM_live_2 : decode cM_live 2 = .ok (.invokevirtual 104, 3) := by decide +kernel
theorem dM_live_5 : decode cM_live 5 = .ok (.ifCond .eq 17, 3) := by decide +kernel
theorem dM_live_8 : decode cM_live 8 = .ok (.aload_n 0, 1) := by decide +kernel
theorem dM_live_9 : decode cM_live 9 = .ok (.iload_n 1, 1) := by decide +kernel
theorem dM_live_10 : decode cM_live 10 = .ok (.iconst 3, 1) := by decide +kernel
theorem dM_live_11 : decode cM_live 11 = .ok (.iadd, 1) := by decide +kernel
theorem dM_live_12 : decode cM_live 12 = .ok (.invokevirtual 104, 3) := by decide +kernel
theorem dM_live_15 : decode cM_live 15 = .ok (.ifCond .ne 7, 3) := by decide +kernel
theorem dM_live_18 : decode cM_live 18 = .ok (.iconst 1, 1) := by decide +kernel
theorem dM_live_19 : decode cM_live 19 = .ok (.goto 4, 3) := by decide +kernel
theorem dM_live_22 : decode cM_live 22 = .ok (.iconst 0, 1) := by decide +kernel
theorem dM_live_23 : decode cM_live 23 = .ok (.ireturn, 1) := by decide +kernel
abbrev cM_full : ByteArray := prog_9_method_14_code
def yM_full : MethodName := ⟨"PostIndexModel", "full", "(I)Z"⟩
def fM_full (d : Nat) : zF := (cM_full, 2, yM_full, (some .boolean), d, 0, 0)
theorem meM_full (d : Nat) : zMe (fM_full d) 1 := ⟨(zA3 (i := 160) rfl rfl), (zA1 (i := 8) rfl rfl), by show "PostIndexModel" ≠ _; decide +kernel, by show "PostIndexModel" ≠ _; decide +kernel, by show (parseMethodDescriptor "(I)Z").map _ = _; decide +kernel⟩
theorem dM_full_0 : decode cM_full 0 = .ok (.aload_n 0, 1) := by decide +kernel
theorem dM_full_1 : decode cM_full 1 = .ok (.getfield 82, 3) := by decide +kernel
theorem dM_full_4 : decode cM_full 4 = .ok (.iconst 4, 1) := by decide +kernel
theorem dM_full_5 : decode cM_full 5 = .ok (.iload_n 1, 1) := by decide +kernel
theorem dM_full_6 : decode cM_full 6 = .ok (.imul, 1) := by decide +kernel
theorem dM_full_7 : decode cM_full 7 = .ok (.iconst 4, 1) := by decide +kernel
theorem dM_full_8 : decode cM_full 8 = .ok (.iadd, 1) := by decide +kernel
theorem dM_full_9 : decode cM_full 9 = .ok (.if_icmp .lt 7, 3) := by decide +kernel
theorem dM_full_12 : decode cM_full 12 = .ok (.iconst 1, 1) := by decide +kernel
theorem dM_full_13 : decode cM_full 13 = .ok (.goto 4, 3) := by decide +kernel
theorem dM_full_16 : decode cM_full 16 = .ok (.iconst 0, 1) := by decide +kernel
theorem dM_full_17 : decode cM_full 17 = .ok (.ireturn, 1) := by decide +kernel
abbrev cM_write : ByteArray := prog_9_method_15_code
def yM_write : MethodName := ⟨"PostIndexModel", "write", "(I)I"⟩
def fM_write (d : Nat) : zF := (cM_write, 3, yM_write, (some .int), d, 0, 0)
theorem meM_write (d : Nat) : zMe (fM_write d) 1 := ⟨(zA3 (i := 144) rfl rfl), (zA1 (i := 8) rfl rfl), by show "PostIndexModel" ≠ _; decide +kernel, by show "PostIndexModel" ≠ _; decide +kernel, by show (parseMethodDescriptor "(I)I").map _ = _; decide +kernel⟩
theorem dM_write_0 : decode cM_write 0 = .ok (.iload_n 1, 1) := by decide +kernel
theorem dM_write_1 : decode cM_write 1 = .ok (.iconst 1, 1) := by decide +kernel
theorem dM_write_2 : decode cM_write 2 = .ok (.if_icmp .lt 9, 3) := by decide +kernel
theorem dM_write_5 : decode cM_write 5 = .ok (.iload_n 1, 1) := by decide +kernel
theorem dM_write_6 : decode cM_write 6 = .ok (.bipush 6, 2) := by decide +kernel
theorem dM_write_8 : decode cM_write 8 = .ok (.if_icmp .le 5, 3) := by decide +kernel
theorem dM_write_11 : decode cM_write 11 = .ok (.iconst 0, 1) := by decide +kernel
theorem dM_write_12 : decode cM_write 12 = .ok (.ireturn, 1) := by decide +kernel
theorem dM_write_13 : decode cM_write 13 = .ok (.iconst 0, 1) := by decide +kernel
theorem dM_write_14 : decode cM_write 14 = .ok (.istore_n 2, 1) := by decide +kernel
theorem dM_write_15 : decode cM_write 15 = .ok (.iload_n 2, 1) := by decide +kernel
theorem dM_write_16 : decode cM_write 16 = .ok (.iload_n 1, 1) := by decide +kernel
theorem dM_write_17 : decode cM_write 17 = .ok (.if_icmp .ge 64, 3) := by decide +kernel
theorem dM_write_20 : decode cM_write 20 = .ok (.aload_n 0, 1) := by decide +kernel
theorem dM_write_21 : decode cM_write 21 = .ok (.getfield 82, 3) := by decide +kernel
theorem dM_write_24 : decode cM_write 24 = .ok (.aload_n 0, 1) := by decide +kernel
theorem dM_write_25 : decode cM_write 25 = .ok (.getfield 91, 3) := by decide +kernel
theorem dM_write_28 : decode cM_write 28 = .ok (.if_icmp .ge 53, 3) := by decide +kernel
theorem dM_write_31 : decode cM_write 31 = .ok (.aload_n 0, 1) := by decide +kernel
theorem dM_write_32 : decode cM_write 32 = .ok (.getfield 101, 3) := by decide +kernel
theorem dM_write_35 : decode cM_write 35 = .ok (.aload_n 0, 1) := by decide +kernel
theorem dM_write_36 : decode cM_write 36 = .ok (.getfield 29, 3) := by decide +kernel
theorem dM_write_39 : decode cM_write 39 = .ok (.aload_n 0, 1) := by decide +kernel
theorem dM_write_40 : decode cM_write 40 = .ok (.getfield 82, 3) := by decide +kernel
theorem dM_write_43 : decode cM_write 43 = .ok (.iaload, 1) := by decide +kernel
theorem dM_write_44 : decode cM_write 44 = .ok (.if_icmp .ge 16, 3) := by decide +kernel
theorem dM_write_47 : decode cM_write 47 = .ok (.aload_n 0, 1) := by decide +kernel
theorem dM_write_48 : decode cM_write 48 = .ok (.dup, 1) := by decide +kernel
theorem dM_write_49 : decode cM_write 49 = .ok (.getfield 101, 3) := by decide +kernel
theorem dM_write_52 : decode cM_write 52 = .ok (.iconst 1, 1) := by decide +kernel
theorem dM_write_53 : decode cM_write 53 = .ok (.iadd, 1) := by decide +kernel
theorem dM_write_54 : decode cM_write 54 = .ok (.putfield 101, 3) := by decide +kernel
theorem dM_write_57 : decode cM_write 57 = .ok (.goto 18, 3) := by decide +kernel
theorem dM_write_60 : decode cM_write 60 = .ok (.aload_n 0, 1) := by decide +kernel
theorem dM_write_61 : decode cM_write 61 = .ok (.dup, 1) := by decide +kernel
theorem dM_write_62 : decode cM_write 62 = .ok (.getfield 82, 3) := by decide +kernel
theorem dM_write_65 : decode cM_write 65 = .ok (.iconst 1, 1) := by decide +kernel
theorem dM_write_66 : decode cM_write 66 = .ok (.iadd, 1) := by decide +kernel
theorem dM_write_67 : decode cM_write 67 = .ok (.putfield 82, 3) := by decide +kernel
theorem dM_write_70 : decode cM_write 70 = .ok (.aload_n 0, 1) := by decide +kernel
theorem dM_write_71 : decode cM_write 71 = .ok (.iconst 0, 1) := by decide +kernel
theorem dM_write_72 : decode cM_write 72 = .ok (.putfield 101, 3) := by decide +kernel
theorem dM_write_75 : decode cM_write 75 = .ok (.iinc 2 1, 3) := by decide +kernel
theorem dM_write_78 : decode cM_write 78 = .ok (.goto (-63), 3) := by decide +kernel
theorem dM_write_81 : decode cM_write 81 = .ok (.iload_n 2, 1) := by decide +kernel
theorem dM_write_82 : decode cM_write 82 = .ok (.ireturn, 1) := by decide +kernel
abbrev cM_published : ByteArray := prog_9_method_16_code
def yM_published : MethodName := ⟨"PostIndexModel", "published", "()I"⟩
def fM_published (d : Nat) : zF := (cM_published, 1, yM_published, (some .int), d, 0, 0)
theorem meM_published (d : Nat) : zMe (fM_published d) 0 := ⟨(zA3 (i := 148) rfl rfl), (zA1 (i := 8) rfl rfl), by show "PostIndexModel" ≠ _; decide +kernel, by show "PostIndexModel" ≠ _; decide +kernel, by show (parseMethodDescriptor "()I").map _ = _; decide +kernel⟩
theorem dM_published_0 : decode cM_published 0 = .ok (.aload_n 0, 1) := by decide +kernel
theorem dM_published_1 : decode cM_published 1 = .ok (.getfield 82, 3) := by decide +kernel
theorem dM_published_4 : decode cM_published 4 = .ok (.ireturn, 1) := by decide +kernel
abbrev cM_erase : ByteArray := prog_9_method_17_code
def yM_erase : MethodName := ⟨"PostIndexModel", "erase", "(I)Z"⟩
def fM_erase (d : Nat) : zF := (cM_erase, 2, yM_erase, (some .boolean), d, 0, 0)
theorem meM_erase (d : Nat) : zMe (fM_erase d) 1 := ⟨(zA3 (i := 152) rfl rfl), (zA1 (i := 8) rfl rfl), by show "PostIndexModel" ≠ _; decide +kernel, by show "PostIndexModel" ≠ _; decide +kernel, by show (parseMethodDescriptor "(I)Z").map _ = _; decide +kernel⟩
theorem dM_erase_0 : decode cM_erase 0 = .ok (.aload_n 0, 1) := by decide +kernel
theorem dM_erase_1 : decode cM_erase 1 = .ok (.iload_n 1, 1) := by decide +kernel
theorem dM_erase_2 : decode cM_erase 2 = .ok (.invokevirtual 88, 3) := by decide +kernel
theorem dM_erase_5 : decode cM_erase 5 = .ok (.ifCond .ne 5, 3) := by decide +kernel
theorem dM_erase_8 : decode cM_erase 8 = .ok (.iconst 0, 1) := by decide +kernel
theorem dM_erase_9 : decode cM_erase 9 = .ok (.ireturn, 1) := by decide +kernel
theorem dM_erase_10 : decode cM_erase 10 = .ok (.aload_n 0, 1) := by decide +kernel
theorem dM_erase_11 : decode cM_erase 11 = .ok (.getfield 19, 3) := by decide +kernel
theorem dM_erase_14 : decode cM_erase 14 = .ok (.iload_n 1, 1) := by decide +kernel
theorem dM_erase_15 : decode cM_erase 15 = .ok (.iconst 1, 1) := by decide +kernel
theorem dM_erase_16 : decode cM_erase 16 = .ok (.bastore, 1) := by decide +kernel
theorem dM_erase_17 : decode cM_erase 17 = .ok (.iconst 1, 1) := by decide +kernel
theorem dM_erase_18 : decode cM_erase 18 = .ok (.ireturn, 1) := by decide +kernel
abbrev cM_indexed : ByteArray := prog_9_method_18_code
def yM_indexed : MethodName := ⟨"PostIndexModel", "indexed", "(I)I"⟩
def fM_indexed (d : Nat) : zF := (cM_indexed, 2, yM_indexed, (some .int), d, 0, 0)
theorem meM_indexed (d : Nat) : zMe (fM_indexed d) 1 := ⟨(zA3 (i := 168) rfl rfl), (zA1 (i := 8) rfl rfl), by show "PostIndexModel" ≠ _; decide +kernel, by show "PostIndexModel" ≠ _; decide +kernel, by show (parseMethodDescriptor "(I)I").map _ = _; decide +kernel⟩
theorem dM_indexed_0 : decode cM_indexed 0 = .ok (.iload_n 1, 1) := by decide +kernel
theorem dM_indexed_1 : decode cM_indexed 1 = .ok (.aload_n 0, 1) := by decide +kernel
theorem dM_indexed_2 : decode cM_indexed 2 = .ok (.getfield 82, 3) := by decide +kernel
theorem dM_indexed_5 : decode cM_indexed 5 = .ok (.if_icmp .ge 12, 3) := by decide +kernel
theorem dM_indexed_8 : decode cM_indexed 8 = .ok (.aload_n 0, 1) := by decide +kernel
theorem dM_indexed_9 : decode cM_indexed 9 = .ok (.getfield 29, 3) := by decide +kernel
theorem dM_indexed_12 : decode cM_indexed 12 = .ok (.iload_n 1, 1) := by decide +kernel
theorem dM_indexed_13 : decode cM_indexed 13 = .ok (.iaload, 1) := by decide +kernel
theorem dM_indexed_14 : decode cM_indexed 14 = .ok (.goto 27, 3) := by decide +kernel
theorem dM_indexed_17 : decode cM_indexed 17 = .ok (.iload_n 1, 1) := by decide +kernel
theorem dM_indexed_18 : decode cM_indexed 18 = .ok (.aload_n 0, 1) := by decide +kernel
theorem dM_indexed_19 : decode cM_indexed 19 = .ok (.getfield 82, 3) := by decide +kernel
theorem dM_indexed_22 : decode cM_indexed 22 = .ok (.if_icmp .ne 18, 3) := by decide +kernel
theorem dM_indexed_25 : decode cM_indexed 25 = .ok (.iload_n 1, 1) := by decide +kernel
theorem dM_indexed_26 : decode cM_indexed 26 = .ok (.aload_n 0, 1) := by decide +kernel
theorem dM_indexed_27 : decode cM_indexed 27 = .ok (.getfield 91, 3) := by decide +kernel
theorem dM_indexed_30 : decode cM_indexed 30 = .ok (.if_icmp .ge 10, 3) := by decide +kernel
theorem dM_indexed_33 : decode cM_indexed 33 = .ok (.aload_n 0, 1) := by decide +kernel
theorem dM_indexed_34 : decode cM_indexed 34 = .ok (.getfield 101, 3) := by decide +kernel
theorem dM_indexed_37 : decode cM_indexed 37 = .ok (.goto 4, 3) := by decide +kernel
theorem dM_indexed_40 : decode cM_indexed 40 = .ok (.iconst 0, 1) := by decide +kernel
theorem dM_indexed_41 : decode cM_indexed 41 = .ok (.ireturn, 1) := by decide +kernel
abbrev cM_same : ByteArray := prog_9_method_19_code
def yM_same : MethodName := ⟨"PostIndexModel", "same", "(II)Z"⟩
def fM_same (d : Nat) : zF := (cM_same, 6, yM_same, (some .boolean), d, 0, 0)
theorem meM_same (d : Nat) : zMe (fM_same d) 2 := ⟨(zA3 (i := 176) rfl rfl), (zA1 (i := 8) rfl rfl), by show "PostIndexModel" ≠ _; decide +kernel, by show "PostIndexModel" ≠ _; decide +kernel, by show (parseMethodDescriptor "(II)Z").map _ = _; decide +kernel⟩
theorem dM_same_0 : decode cM_same 0 = .ok (.aload_n 0, 1) := by decide +kernel
theorem dM_same_1 : decode cM_same 1 = .ok (.getfield 35, 3) := by decide +kernel
theorem dM_same_4 : decode cM_same 4 = .ok (.iload_n 1, 1) := by decide +kernel
theorem dM_same_5 : decode cM_same 5 = .ok (.iaload, 1) := by decide +kernel
theorem dM_same_6 : decode cM_same 6 = .ok (.aload_n 0, 1) := by decide +kernel
theorem dM_same_7 : decode cM_same 7 = .ok (.getfield 32, 3) := by decide +kernel
theorem dM_same_10 : decode cM_same 10 = .ok (.iload_n 1, 1) := by decide +kernel
theorem dM_same_11 : decode cM_same 11 = .ok (.iaload, 1) := by decide +kernel
theorem dM_same_12 : decode cM_same 12 = .ok (.isub, 1) := by decide +kernel
theorem dM_same_13 : decode cM_same 13 = .ok (.istore_n 3, 1) := by decide +kernel
theorem dM_same_14 : decode cM_same 14 = .ok (.iload_n 3, 1) := by decide +kernel
theorem dM_same_15 : decode cM_same 15 = .ok (.aload_n 0, 1) := by decide +kernel
theorem dM_same_16 : decode cM_same 16 = .ok (.getfield 35, 3) := by decide +kernel
theorem dM_same_19 : decode cM_same 19 = .ok (.iload_n 2, 1) := by decide +kernel
theorem dM_same_20 : decode cM_same 20 = .ok (.iaload, 1) := by decide +kernel
theorem dM_same_21 : decode cM_same 21 = .ok (.aload_n 0, 1) := by decide +kernel
theorem dM_same_22 : decode cM_same 22 = .ok (.getfield 32, 3) := by decide +kernel
theorem dM_same_25 : decode cM_same 25 = .ok (.iload_n 2, 1) := by decide +kernel
theorem dM_same_26 : decode cM_same 26 = .ok (.iaload, 1) := by decide +kernel
theorem dM_same_27 : decode cM_same 27 = .ok (.isub, 1) := by decide +kernel
theorem dM_same_28 : decode cM_same 28 = .ok (.if_icmp .ne 7, 3) := by decide +kernel
theorem dM_same_31 : decode cM_same 31 = .ok (.iconst 1, 1) := by decide +kernel
theorem dM_same_32 : decode cM_same 32 = .ok (.goto 4, 3) := by decide +kernel
theorem dM_same_35 : decode cM_same 35 = .ok (.iconst 0, 1) := by decide +kernel
theorem dM_same_36 : decode cM_same 36 = .ok (.istore 4, 2) := by decide +kernel
theorem dM_same_38 : decode cM_same 38 = .ok (.iconst 0, 1) := by decide +kernel
theorem dM_same_39 : decode cM_same 39 = .ok (.istore 5, 2) := by decide +kernel
theorem dM_same_41 : decode cM_same 41 = .ok (.iload 5, 2) := by decide +kernel
theorem dM_same_43 : decode cM_same 43 = .ok (.iload_n 3, 1) := by decide +kernel
theorem dM_same_44 : decode cM_same 44 = .ok (.if_icmp .ge 58, 3) := by decide +kernel
theorem dM_same_47 : decode cM_same 47 = .ok (.iload 4, 2) := by decide +kernel
theorem dM_same_49 : decode cM_same 49 = .ok (.ifCond .eq 53, 3) := by decide +kernel
theorem dM_same_52 : decode cM_same 52 = .ok (.aload_n 0, 1) := by decide +kernel
theorem dM_same_53 : decode cM_same 53 = .ok (.getfield 26, 3) := by decide +kernel
theorem dM_same_56 : decode cM_same 56 = .ok (.aload_n 0, 1) := by decide +kernel
theorem dM_same_57 : decode cM_same 57 = .ok (.getfield 32, 3) := by decide +kernel
theorem dM_same_60 : decode cM_same 60 = .ok (.iload_n 1, 1) := by decide +kernel
theorem dM_same_61 : decode cM_same 61 = .ok (.iaload, 1) := by decide +kernel
theorem dM_same_62 : decode cM_same 62 = .ok (.iload 5, 2) := by decide +kernel
theorem dM_same_64 : decode cM_same 64 = .ok (.iadd, 1) := by decide +kernel
theorem dM_same_65 : decode cM_same 65 = .ok (.iaload, 1) := by decide +kernel
theorem dM_same_66 : decode cM_same 66 = .ok (.invokestatic 107, 3) := by decide +kernel
theorem dM_same_69 : decode cM_same 69 = .ok (.aload_n 0, 1) := by decide +kernel
theorem dM_same_70 : decode cM_same 70 = .ok (.getfield 26, 3) := by decide +kernel
theorem dM_same_73 : decode cM_same 73 = .ok (.aload_n 0, 1) := by decide +kernel
theorem dM_same_74 : decode cM_same 74 = .ok (.getfield 32, 3) := by decide +kernel
