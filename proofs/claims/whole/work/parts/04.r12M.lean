theorem dM_keepWord_1 : decode cM_keepWord 1 = .ok (.getfield 68, 3) := by decide +kernel
theorem dM_keepWord_4 : decode cM_keepWord 4 = .ok (.aload_n 0, 1) := by decide +kernel
theorem dM_keepWord_5 : decode cM_keepWord 5 = .ok (.getfield 148, 3) := by decide +kernel
theorem dM_keepWord_8 : decode cM_keepWord 8 = .ok (.aload_n 0, 1) := by decide +kernel
theorem dM_keepWord_9 : decode cM_keepWord 9 = .ok (.getfield 142, 3) := by decide +kernel
theorem dM_keepWord_12 : decode cM_keepWord 12 = .ok (.iastore, 1) := by decide +kernel
theorem dM_keepWord_13 : decode cM_keepWord 13 = .ok (.aload_n 0, 1) := by decide +kernel
theorem dM_keepWord_14 : decode cM_keepWord 14 = .ok (.getfield 71, 3) := by decide +kernel
theorem dM_keepWord_17 : decode cM_keepWord 17 = .ok (.aload_n 0, 1) := by decide +kernel
theorem dM_keepWord_18 : decode cM_keepWord 18 = .ok (.getfield 148, 3) := by decide +kernel
theorem dM_keepWord_21 : decode cM_keepWord 21 = .ok (.aload_n 0, 1) := by decide +kernel
theorem dM_keepWord_22 : decode cM_keepWord 22 = .ok (.getfield 136, 3) := by decide +kernel
theorem dM_keepWord_25 : decode cM_keepWord 25 = .ok (.iastore, 1) := by decide +kernel
theorem dM_keepWord_26 : decode cM_keepWord 26 = .ok (.aload_n 0, 1) := by decide +kernel
theorem dM_keepWord_27 : decode cM_keepWord 27 = .ok (.dup, 1) := by decide +kernel
theorem dM_keepWord_28 : decode cM_keepWord 28 = .ok (.getfield 148, 3) := by decide +kernel
theorem dM_keepWord_31 : decode cM_keepWord 31 = .ok (.iconst 1, 1) := by decide +kernel
theorem dM_keepWord_32 : decode cM_keepWord 32 = .ok (.iadd, 1) := by decide +kernel
theorem dM_keepWord_33 : decode cM_keepWord 33 = .ok (.putfield 148, 3) := by decide +kernel
theorem dM_keepWord_36 : decode cM_keepWord 36 = .ok (.return_, 1) := by decide +kernel
abbrev cM_open : ByteArray := prog_9_method_31_code
def yM_open : MethodName := ⟨"PostIndexModel", "open", "(I)V"⟩
def fM_open (d : Nat) : zF := (cM_open, 2, yM_open, none, d, 0, 0)
theorem meM_open (d : Nat) : zMe (fM_open d) 1 := ⟨(zA3 (i := 203) rfl rfl), (zA1 (i := 8) rfl rfl), by show "PostIndexModel" ≠ _; decide +kernel, by show "PostIndexModel" ≠ _; decide +kernel, by show (parseMethodDescriptor "(I)V").map _ = _; decide +kernel⟩
theorem dM_open_0 : decode cM_open 0 = .ok (.aload_n 0, 1) := by decide +kernel
theorem dM_open_1 : decode cM_open 1 = .ok (.iload_n 1, 1) := by decide +kernel
theorem dM_open_2 : decode cM_open 2 = .ok (.putfield 155, 3) := by decide +kernel
theorem flM_155 : zFld "PostIndexModel" 155 7 23 31 := ⟨RM, TM, rfl, by decide, inM, (zA3 (i := 27) rfl rfl)⟩
theorem dM_open_5 : decode cM_open 5 = .ok (.aload_n 0, 1) := by decide +kernel
theorem dM_open_6 : decode cM_open 6 = .ok (.getfield 56, 3) := by decide +kernel
theorem dM_open_9 : decode cM_open 9 = .ok (.iload_n 1, 1) := by decide +kernel
theorem dM_open_10 : decode cM_open 10 = .ok (.iconst 0, 1) := by decide +kernel
theorem dM_open_11 : decode cM_open 11 = .ok (.bastore, 1) := by decide +kernel
theorem dM_open_12 : decode cM_open 12 = .ok (.aload_n 0, 1) := by decide +kernel
theorem dM_open_13 : decode cM_open 13 = .ok (.getfield 59, 3) := by decide +kernel
theorem dM_open_16 : decode cM_open 16 = .ok (.iload_n 1, 1) := by decide +kernel
theorem dM_open_17 : decode cM_open 17 = .ok (.iconst 1, 1) := by decide +kernel
theorem dM_open_18 : decode cM_open 18 = .ok (.bastore, 1) := by decide +kernel
theorem dM_open_19 : decode cM_open 19 = .ok (.aload_n 0, 1) := by decide +kernel
theorem dM_open_20 : decode cM_open 20 = .ok (.getfield 62, 3) := by decide +kernel
theorem dM_open_23 : decode cM_open 23 = .ok (.iload_n 1, 1) := by decide +kernel
theorem dM_open_24 : decode cM_open 24 = .ok (.iconst 0, 1) := by decide +kernel
theorem dM_open_25 : decode cM_open 25 = .ok (.iastore, 1) := by decide +kernel
theorem dM_open_26 : decode cM_open 26 = .ok (.aload_n 0, 1) := by decide +kernel
theorem dM_open_27 : decode cM_open 27 = .ok (.getfield 65, 3) := by decide +kernel
theorem dM_open_30 : decode cM_open 30 = .ok (.iload_n 1, 1) := by decide +kernel
theorem dM_open_31 : decode cM_open 31 = .ok (.iconst 0, 1) := by decide +kernel
theorem dM_open_32 : decode cM_open 32 = .ok (.iastore, 1) := by decide +kernel
theorem dM_open_33 : decode cM_open 33 = .ok (.return_, 1) := by decide +kernel
abbrev cM_part : ByteArray := prog_9_method_32_code
def yM_part : MethodName := ⟨"PostIndexModel", "part", "(Z)V"⟩
def fM_part (d : Nat) : zF := (cM_part, 3, yM_part, none, d, 0, 0)
theorem meM_part (d : Nat) : zMe (fM_part d) 1 := ⟨(zA3 (i := 231) rfl rfl), (zA1 (i := 8) rfl rfl), by show "PostIndexModel" ≠ _; decide +kernel, by show "PostIndexModel" ≠ _; decide +kernel, by show (parseMethodDescriptor "(Z)V").map _ = _; decide +kernel⟩
theorem dM_part_0 : decode cM_part 0 = .ok (.aload_n 0, 1) := by decide +kernel
theorem dM_part_1 : decode cM_part 1 = .ok (.getfield 65, 3) := by decide +kernel
theorem dM_part_4 : decode cM_part 4 = .ok (.aload_n 0, 1) := by decide +kernel
theorem dM_part_5 : decode cM_part 5 = .ok (.getfield 155, 3) := by decide +kernel
theorem dM_part_8 : decode cM_part 8 = .ok (.iaload, 1) := by decide +kernel
theorem dM_part_9 : decode cM_part 9 = .ok (.iconst 1, 1) := by decide +kernel
theorem dM_part_10 : decode cM_part 10 = .ok (.if_icmp .ne 15, 3) := by decide +kernel
theorem dM_part_13 : decode cM_part 13 = .ok (.iload_n 1, 1) := by decide +kernel
theorem dM_part_14 : decode cM_part 14 = .ok (.ifCond .ne 7, 3) := by decide +kernel
theorem dM_part_17 : decode cM_part 17 = .ok (.iconst 1, 1) := by decide +kernel
theorem dM_part_18 : decode cM_part 18 = .ok (.goto 8, 3) := by decide +kernel
theorem dM_part_21 : decode cM_part 21 = .ok (.iconst 0, 1) := by decide +kernel
theorem dM_part_22 : decode cM_part 22 = .ok (.goto 4, 3) := by decide +kernel
theorem dM_part_25 : decode cM_part 25 = .ok (.iload_n 1, 1) := by decide +kernel
theorem dM_part_26 : decode cM_part 26 = .ok (.istore_n 2, 1) := by decide +kernel
theorem dM_part_27 : decode cM_part 27 = .ok (.aload_n 0, 1) := by decide +kernel
theorem dM_part_28 : decode cM_part 28 = .ok (.getfield 59, 3) := by decide +kernel
theorem dM_part_31 : decode cM_part 31 = .ok (.aload_n 0, 1) := by decide +kernel
theorem dM_part_32 : decode cM_part 32 = .ok (.getfield 155, 3) := by decide +kernel
theorem dM_part_35 : decode cM_part 35 = .ok (.aload_n 0, 1) := by decide +kernel
theorem dM_part_36 : decode cM_part 36 = .ok (.getfield 59, 3) := by decide +kernel
theorem dM_part_39 : decode cM_part 39 = .ok (.aload_n 0, 1) := by decide +kernel
theorem dM_part_40 : decode cM_part 40 = .ok (.getfield 155, 3) := by decide +kernel
theorem dM_part_43 : decode cM_part 43 = .ok (.baload, 1) := by decide +kernel
theorem dM_part_44 : decode cM_part 44 = .ok (.ifCond .eq 11, 3) := by decide +kernel
theorem dM_part_47 : decode cM_part 47 = .ok (.iload_n 2, 1) := by decide +kernel
theorem dM_part_48 : decode cM_part 48 = .ok (.ifCond .eq 7, 3) := by decide +kernel
theorem dM_part_51 : decode cM_part 51 = .ok (.iconst 1, 1) := by decide +kernel
theorem dM_part_52 : decode cM_part 52 = .ok (.goto 4, 3) := by decide +kernel
theorem dM_part_55 : decode cM_part 55 = .ok (.iconst 0, 1) := by decide +kernel
theorem dM_part_56 : decode cM_part 56 = .ok (.bastore, 1) := by decide +kernel
theorem dM_part_57 : decode cM_part 57 = .ok (.aload_n 0, 1) := by decide +kernel
theorem dM_part_58 : decode cM_part 58 = .ok (.getfield 62, 3) := by decide +kernel
theorem dM_part_61 : decode cM_part 61 = .ok (.aload_n 0, 1) := by decide +kernel
theorem dM_part_62 : decode cM_part 62 = .ok (.getfield 155, 3) := by decide +kernel
theorem dM_part_65 : decode cM_part 65 = .ok (.dup2, 1) := by decide +kernel
theorem dM_part_66 : decode cM_part 66 = .ok (.iaload, 1) := by decide +kernel
theorem dM_part_67 : decode cM_part 67 = .ok (.iconst 1, 1) := by decide +kernel
theorem dM_part_68 : decode cM_part 68 = .ok (.iadd, 1) := by decide +kernel
theorem dM_part_69 : decode cM_part 69 = .ok (.iastore, 1) := by decide +kernel
theorem dM_part_70 : decode cM_part 70 = .ok (.aload_n 0, 1) := by decide +kernel
theorem dM_part_71 : decode cM_part 71 = .ok (.getfield 65, 3) := by decide +kernel
theorem dM_part_74 : decode cM_part 74 = .ok (.aload_n 0, 1) := by decide +kernel
theorem dM_part_75 : decode cM_part 75 = .ok (.getfield 155, 3) := by decide +kernel
theorem dM_part_78 : decode cM_part 78 = .ok (.iconst 0, 1) := by decide +kernel
theorem dM_part_79 : decode cM_part 79 = .ok (.iastore, 1) := by decide +kernel
theorem dM_part_80 : decode cM_part 80 = .ok (.return_, 1) := by decide +kernel
abbrev cM_step : ByteArray := prog_9_method_33_code
def yM_step : MethodName := ⟨"PostIndexModel", "step", "(II)Z"⟩
def fM_step (d : Nat) : zF := (cM_step, 5, yM_step, (some .boolean), d, 0, 0)
theorem meM_step (d : Nat) : zMe (fM_step d) 2 := ⟨(zA3 (i := 215) rfl rfl), (zA1 (i := 8) rfl rfl), by show "PostIndexModel" ≠ _; decide +kernel, by show "PostIndexModel" ≠ _; decide +kernel, by show (parseMethodDescriptor "(II)Z").map _ = _; decide +kernel⟩
theorem dM_step_0 : decode cM_step 0 = .ok (.aload_n 0, 1) := by decide +kernel
theorem dM_step_1 : decode cM_step 1 = .ok (.getfield 62, 3) := by decide +kernel
theorem dM_step_4 : decode cM_step 4 = .ok (.aload_n 0, 1) := by decide +kernel
theorem dM_step_5 : decode cM_step 5 = .ok (.getfield 155, 3) := by decide +kernel
theorem dM_step_8 : decode cM_step 8 = .ok (.iaload, 1) := by decide +kernel
theorem dM_step_9 : decode cM_step 9 = .ok (.ifCond .le 19, 3) := by decide +kernel
theorem dM_step_12 : decode cM_step 12 = .ok (.aload_n 0, 1) := by decide +kernel
theorem dM_step_13 : decode cM_step 13 = .ok (.getfield 65, 3) := by decide +kernel
theorem dM_step_16 : decode cM_step 16 = .ok (.aload_n 0, 1) := by decide +kernel
theorem dM_step_17 : decode cM_step 17 = .ok (.getfield 155, 3) := by decide +kernel
theorem dM_step_20 : decode cM_step 20 = .ok (.iaload, 1) := by decide +kernel
theorem dM_step_21 : decode cM_step 21 = .ok (.ifCond .ne 7, 3) := by decide +kernel
theorem dM_step_24 : decode cM_step 24 = .ok (.iconst 1, 1) := by decide +kernel
theorem dM_step_25 : decode cM_step 25 = .ok (.goto 4, 3) := by decide +kernel
theorem dM_step_28 : decode cM_step 28 = .ok (.iconst 0, 1) := by decide +kernel
theorem dM_step_29 : decode cM_step 29 = .ok (.istore_n 3, 1) := by decide +kernel
theorem dM_step_30 : decode cM_step 30 = .ok (.aload_n 0, 1) := by decide +kernel
theorem dM_step_31 : decode cM_step 31 = .ok (.iconst 0, 1) := by decide +kernel
theorem dM_step_32 : decode cM_step 32 = .ok (.putfield 148, 3) := by decide +kernel
theorem dM_step_35 : decode cM_step 35 = .ok (.aload_n 0, 1) := by decide +kernel
theorem dM_step_36 : decode cM_step 36 = .ok (.getfield 145, 3) := by decide +kernel
theorem dM_step_39 : decode cM_step 39 = .ok (.iconst 1, 1) := by decide +kernel
theorem dM_step_40 : decode cM_step 40 = .ok (.if_icmp .ne 20, 3) := by decide +kernel
theorem dM_step_43 : decode cM_step 43 = .ok (.aload_n 0, 1) := by decide +kernel
theorem dM_step_44 : decode cM_step 44 = .ok (.invokevirtual 158, 3) := by decide +kernel
theorem dM_step_47 : decode cM_step 47 = .ok (.aload_n 0, 1) := by decide +kernel
theorem dM_step_48 : decode cM_step 48 = .ok (.aload_n 0, 1) := by decide +kernel
theorem dM_step_49 : decode cM_step 49 = .ok (.iload_n 1, 1) := by decide +kernel
theorem dM_step_50 : decode cM_step 50 = .ok (.iload_n 2, 1) := by decide +kernel
theorem dM_step_51 : decode cM_step 51 = .ok (.invokevirtual 161, 3) := by decide +kernel
theorem dM_step_54 : decode cM_step 54 = .ok (.invokevirtual 164, 3) := by decide +kernel
theorem dM_step_57 : decode cM_step 57 = .ok (.goto 306, 3) := by decide +kernel
theorem dM_step_60 : decode cM_step 60 = .ok (.aload_n 0, 1) := by decide +kernel
theorem dM_step_61 : decode cM_step 61 = .ok (.getfield 145, 3) := by decide +kernel
theorem dM_step_64 : decode cM_step 64 = .ok (.iconst 2, 1) := by decide +kernel
theorem dM_step_65 : decode cM_step 65 = .ok (.if_icmp .ne 16, 3) := by decide +kernel
theorem dM_step_68 : decode cM_step 68 = .ok (.aload_n 0, 1) := by decide +kernel
theorem dM_step_69 : decode cM_step 69 = .ok (.aload_n 0, 1) := by decide +kernel
theorem dM_step_70 : decode cM_step 70 = .ok (.iload_n 1, 1) := by decide +kernel
theorem dM_step_71 : decode cM_step 71 = .ok (.iload_n 2, 1) := by decide +kernel
theorem dM_step_72 : decode cM_step 72 = .ok (.invokevirtual 168, 3) := by decide +kernel
theorem dM_step_75 : decode cM_step 75 = .ok (.invokevirtual 164, 3) := by decide +kernel
theorem dM_step_78 : decode cM_step 78 = .ok (.goto 285, 3) := by decide +kernel
theorem dM_step_81 : decode cM_step 81 = .ok (.aload_n 0, 1) := by decide +kernel
theorem dM_step_82 : decode cM_step 82 = .ok (.getfield 145, 3) := by decide +kernel
theorem dM_step_85 : decode cM_step 85 = .ok (.bipush 34, 2) := by decide +kernel
theorem dM_step_87 : decode cM_step 87 = .ok (.if_icmp .ne 59, 3) := by decide +kernel
theorem dM_step_90 : decode cM_step 90 = .ok (.aload_n 0, 1) := by decide +kernel
theorem dM_step_91 : decode cM_step 91 = .ok (.iload_n 1, 1) := by decide +kernel
theorem dM_step_92 : decode cM_step 92 = .ok (.invokevirtual 171, 3) := by decide +kernel
theorem dM_step_95 : decode cM_step 95 = .ok (.aload_n 0, 1) := by decide +kernel
theorem dM_step_96 : decode cM_step 96 = .ok (.getfield 145, 3) := by decide +kernel
theorem dM_step_99 : decode cM_step 99 = .ok (.iconst 1, 1) := by decide +kernel
theorem dM_step_100 : decode cM_step 100 = .ok (.if_icmp .ne 15, 3) := by decide +kernel
theorem dM_step_103 : decode cM_step 103 = .ok (.aload_n 0, 1) := by decide +kernel
theorem dM_step_104 : decode cM_step 104 = .ok (.invokevirtual 158, 3) := by decide +kernel
theorem dM_step_107 : decode cM_step 107 = .ok (.aload_n 0, 1) := by decide +kernel
theorem dM_step_108 : decode cM_step 108 = .ok (.iload_n 1, 1) := by decide +kernel
theorem dM_step_109 : decode cM_step 109 = .ok (.invokevirtual 171, 3) := by decide +kernel
theorem dM_step_112 : decode cM_step 112 = .ok (.goto (-17), 3) := by decide +kernel
theorem dM_step_115 : decode cM_step 115 = .ok (.aload_n 0, 1) := by decide +kernel
theorem dM_step_116 : decode cM_step 116 = .ok (.getfield 145, 3) := by decide +kernel
theorem dM_step_119 : decode cM_step 119 = .ok (.bipush 34, 2) := by decide +kernel
theorem dM_step_121 : decode cM_step 121 = .ok (.if_icmp .ne 10, 3) := by decide +kernel
theorem dM_step_124 : decode cM_step 124 = .ok (.aload_n 0, 1) := by decide +kernel
theorem dM_step_125 : decode cM_step 125 = .ok (.getfield 148, 3) := by decide +kernel
theorem dM_step_128 : decode cM_step 128 = .ok (.ifCond .ne 5, 3) := by decide +kernel
theorem dM_step_131 : decode cM_step 131 = .ok (.iconst 0, 1) := by decide +kernel
theorem dM_step_132 : decode cM_step 132 = .ok (.ireturn, 1) := by decide +kernel
theorem dM_step_133 : decode cM_step 133 = .ok (.aload_n 0, 1) := by decide +kernel
theorem dM_step_134 : decode cM_step 134 = .ok (.aload_n 0, 1) := by decide +kernel
theorem dM_step_135 : decode cM_step 135 = .ok (.iload_n 1, 1) := by decide +kernel
theorem dM_step_136 : decode cM_step 136 = .ok (.iload_n 2, 1) := by decide +kernel
theorem dM_step_137 : decode cM_step 137 = .ok (.invokevirtual 161, 3) := by decide +kernel
theorem dM_step_140 : decode cM_step 140 = .ok (.invokevirtual 164, 3) := by decide +kernel
theorem dM_step_143 : decode cM_step 143 = .ok (.goto 220, 3) := by decide +kernel
theorem dM_step_146 : decode cM_step 146 = .ok (.aload_n 0, 1) := by decide +kernel
theorem dM_step_147 : decode cM_step 147 = .ok (.getfield 145, 3) := by decide +kernel
theorem dM_step_150 : decode cM_step 150 = .ok (.bipush 45, 2) := by decide +kernel
theorem dM_step_152 : decode cM_step 152 = .ok (.if_icmp .ne 33, 3) := by decide +kernel
theorem dM_step_155 : decode cM_step 155 = .ok (.aload_n 0, 1) := by decide +kernel
theorem dM_step_156 : decode cM_step 156 = .ok (.getfield 65, 3) := by decide +kernel
theorem dM_step_159 : decode cM_step 159 = .ok (.aload_n 0, 1) := by decide +kernel
theorem dM_step_160 : decode cM_step 160 = .ok (.getfield 155, 3) := by decide +kernel
theorem dM_step_163 : decode cM_step 163 = .ok (.aload_n 0, 1) := by decide +kernel
theorem dM_step_164 : decode cM_step 164 = .ok (.getfield 65, 3) := by decide +kernel
theorem dM_step_167 : decode cM_step 167 = .ok (.aload_n 0, 1) := by decide +kernel
theorem dM_step_168 : decode cM_step 168 = .ok (.getfield 155, 3) := by decide +kernel
theorem dM_step_171 : decode cM_step 171 = .ok (.iaload, 1) := by decide +kernel
theorem dM_step_172 : decode cM_step 172 = .ok (.iconst 1, 1) := by decide +kernel
theorem dM_step_173 : decode cM_step 173 = .ok (.if_icmp .ne 7, 3) := by decide +kernel
theorem dM_step_176 : decode cM_step 176 = .ok (.iconst 2, 1) := by decide +kernel
theorem dM_step_177 : decode cM_step 177 = .ok (.goto 4, 3) := by decide +kernel
theorem dM_step_180 : decode cM_step 180 = .ok (.iconst 1, 1) := by decide +kernel
theorem dM_step_181 : decode cM_step 181 = .ok (.iastore, 1) := by decide +kernel
theorem dM_step_182 : decode cM_step 182 = .ok (.goto 181, 3) := by decide +kernel
theorem dM_step_185 : decode cM_step 185 = .ok (.aload_n 0, 1) := by decide +kernel
theorem dM_step_186 : decode cM_step 186 = .ok (.getfield 145, 3) := by decide +kernel
theorem dM_step_189 : decode cM_step 189 = .ok (.bipush 40, 2) := by decide +kernel
theorem dM_step_191 : decode cM_step 191 = .ok (.if_icmp .ne 27, 3) := by decide +kernel
theorem dM_step_194 : decode cM_step 194 = .ok (.aload_n 0, 1) := by decide +kernel
theorem dM_step_195 : decode cM_step 195 = .ok (.getfield 155, 3) := by decide +kernel
theorem dM_step_198 : decode cM_step 198 = .ok (.bipush 6, 2) := by decide +kernel
theorem dM_step_200 : decode cM_step 200 = .ok (.if_icmp .lt 5, 3) := by decide +kernel
theorem dM_step_203 : decode cM_step 203 = .ok (.iconst 0, 1) := by decide +kernel
theorem dM_step_204 : decode cM_step 204 = .ok (.ireturn, 1) := by decide +kernel
theorem dM_step_205 : decode cM_step 205 = .ok (.aload_n 0, 1) := by decide +kernel
theorem dM_step_206 : decode cM_step 206 = .ok (.aload_n 0, 1) := by decide +kernel
theorem dM_step_207 : decode cM_step 207 = .ok (.getfield 155, 3) := by decide +kernel
theorem dM_step_210 : decode cM_step 210 = .ok (.iconst 1, 1) := by decide +kernel
theorem dM_step_211 : decode cM_step 211 = .ok (.iadd, 1) := by decide +kernel
theorem dM_step_212 : decode cM_step 212 = .ok (.invokevirtual 174, 3) := by decide +kernel
theorem dM_step_215 : decode cM_step 215 = .ok (.goto 148, 3) := by decide +kernel
theorem dM_step_218 : decode cM_step 218 = .ok (.aload_n 0, 1) := by decide +kernel
theorem dM_step_219 : decode cM_step 219 = .ok (.getfield 145, 3) := by decide +kernel
theorem dM_step_222 : decode cM_step 222 = .ok (.bipush 41, 2) := by decide +kernel
theorem dM_step_224 : decode cM_step 224 = .ok (.if_icmp .ne 66, 3) := by decide +kernel
theorem dM_step_227 : decode cM_step 227 = .ok (.aload_n 0, 1) := by decide +kernel
theorem dM_step_228 : decode cM_step 228 = .ok (.getfield 155, 3) := by decide +kernel
theorem dM_step_231 : decode cM_step 231 = .ok (.ifCond .eq 7, 3) := by decide +kernel
theorem dM_step_234 : decode cM_step 234 = .ok (.iload_n 3, 1) := by decide +kernel
theorem dM_step_235 : decode cM_step 235 = .ok (.ifCond .ne 5, 3) := by decide +kernel
theorem dM_step_238 : decode cM_step 238 = .ok (.iconst 0, 1) := by decide +kernel
theorem dM_step_239 : decode cM_step 239 = .ok (.ireturn, 1) := by decide +kernel
theorem dM_step_240 : decode cM_step 240 = .ok (.aload_n 0, 1) := by decide +kernel
theorem dM_step_241 : decode cM_step 241 = .ok (.getfield 56, 3) := by decide +kernel
theorem dM_step_244 : decode cM_step 244 = .ok (.aload_n 0, 1) := by decide +kernel
theorem dM_step_245 : decode cM_step 245 = .ok (.getfield 155, 3) := by decide +kernel
theorem dM_step_248 : decode cM_step 248 = .ok (.baload, 1) := by decide +kernel
theorem dM_step_249 : decode cM_step 249 = .ok (.ifCond .ne 15, 3) := by decide +kernel
theorem dM_step_252 : decode cM_step 252 = .ok (.aload_n 0, 1) := by decide +kernel
theorem dM_step_253 : decode cM_step 253 = .ok (.getfield 59, 3) := by decide +kernel
theorem dM_step_256 : decode cM_step 256 = .ok (.aload_n 0, 1) := by decide +kernel
theorem dM_step_257 : decode cM_step 257 = .ok (.getfield 155, 3) := by decide +kernel
theorem dM_step_260 : decode cM_step 260 = .ok (.baload, 1) := by decide +kernel
theorem dM_step_261 : decode cM_step 261 = .ok (.ifCond .eq 7, 3) := by decide +kernel
theorem dM_step_264 : decode cM_step 264 = .ok (.iconst 1, 1) := by decide +kernel
theorem dM_step_265 : decode cM_step 265 = .ok (.goto 4, 3) := by decide +kernel
theorem dM_step_268 : decode cM_step 268 = .ok (.iconst 0, 1) := by decide +kernel
theorem dM_step_269 : decode cM_step 269 = .ok (.istore 4, 2) := by decide +kernel
theorem dM_step_271 : decode cM_step 271 = .ok (.aload_n 0, 1) := by decide +kernel
theorem dM_step_272 : decode cM_step 272 = .ok (.dup, 1) := by decide +kernel
theorem dM_step_273 : decode cM_step 273 = .ok (.getfield 155, 3) := by decide +kernel
theorem dM_step_276 : decode cM_step 276 = .ok (.iconst 1, 1) := by decide +kernel
theorem dM_step_277 : decode cM_step 277 = .ok (.isub, 1) := by decide +kernel
theorem dM_step_278 : decode cM_step 278 = .ok (.putfield 155, 3) := by decide +kernel
theorem dM_step_281 : decode cM_step 281 = .ok (.aload_n 0, 1) := by decide +kernel
theorem dM_step_282 : decode cM_step 282 = .ok (.iload 4, 2) := by decide +kernel
theorem dM_step_284 : decode cM_step 284 = .ok (.invokevirtual 164, 3) := by decide +kernel
theorem dM_step_287 : decode cM_step 287 = .ok (.goto 76, 3) := by decide +kernel
theorem dM_step_290 : decode cM_step 290 = .ok (.aload_n 0, 1) := by decide +kernel
theorem dM_step_291 : decode cM_step 291 = .ok (.getfield 145, 3) := by decide +kernel
theorem dM_step_294 : decode cM_step 294 = .ok (.bipush 124, 2) := by decide +kernel
theorem dM_step_296 : decode cM_step 296 = .ok (.if_icmp .ne 7, 3) := by decide +kernel
theorem dM_step_299 : decode cM_step 299 = .ok (.iload_n 3, 1) := by decide +kernel
theorem dM_step_300 : decode cM_step 300 = .ok (.ifCond .ne 5, 3) := by decide +kernel
theorem dM_step_303 : decode cM_step 303 = .ok (.iconst 0, 1) := by decide +kernel
theorem dM_step_304 : decode cM_step 304 = .ok (.ireturn, 1) := by decide +kernel
theorem dM_step_305 : decode cM_step 305 = .ok (.aload_n 0, 1) := by decide +kernel
theorem dM_step_306 : decode cM_step 306 = .ok (.getfield 56, 3) := by decide +kernel
theorem dM_step_309 : decode cM_step 309 = .ok (.aload_n 0, 1) := by decide +kernel
theorem dM_step_310 : decode cM_step 310 = .ok (.getfield 155, 3) := by decide +kernel
theorem dM_step_313 : decode cM_step 313 = .ok (.aload_n 0, 1) := by decide +kernel
theorem dM_step_314 : decode cM_step 314 = .ok (.getfield 56, 3) := by decide +kernel
theorem dM_step_317 : decode cM_step 317 = .ok (.aload_n 0, 1) := by decide +kernel
theorem dM_step_318 : decode cM_step 318 = .ok (.getfield 155, 3) := by decide +kernel
theorem dM_step_321 : decode cM_step 321 = .ok (.baload, 1) := by decide +kernel
theorem dM_step_322 : decode cM_step 322 = .ok (.ifCond .ne 15, 3) := by decide +kernel
theorem dM_step_325 : decode cM_step 325 = .ok (.aload_n 0, 1) := by decide +kernel
theorem dM_step_326 : decode cM_step 326 = .ok (.getfield 59, 3) := by decide +kernel
theorem dM_step_329 : decode cM_step 329 = .ok (.aload_n 0, 1) := by decide +kernel
theorem dM_step_330 : decode cM_step 330 = .ok (.getfield 155, 3) := by decide +kernel
theorem dM_step_333 : decode cM_step 333 = .ok (.baload, 1) := by decide +kernel
theorem dM_step_334 : decode cM_step 334 = .ok (.ifCond .eq 7, 3) := by decide +kernel
theorem dM_step_337 : decode cM_step 337 = .ok (.iconst 1, 1) := by decide +kernel
theorem dM_step_338 : decode cM_step 338 = .ok (.goto 4, 3) := by decide +kernel
theorem dM_step_341 : decode cM_step 341 = .ok (.iconst 0, 1) := by decide +kernel
theorem dM_step_342 : decode cM_step 342 = .ok (.bastore, 1) := by decide +kernel
theorem dM_step_343 : decode cM_step 343 = .ok (.aload_n 0, 1) := by decide +kernel
theorem dM_step_344 : decode cM_step 344 = .ok (.getfield 59, 3) := by decide +kernel
theorem dM_step_347 : decode cM_step 347 = .ok (.aload_n 0, 1) := by decide +kernel
theorem dM_step_348 : decode cM_step 348 = .ok (.getfield 155, 3) := by decide +kernel
theorem dM_step_351 : decode cM_step 351 = .ok (.iconst 1, 1) := by decide +kernel
theorem dM_step_352 : decode cM_step 352 = .ok (.bastore, 1) := by decide +kernel
theorem dM_step_353 : decode cM_step 353 = .ok (.aload_n 0, 1) := by decide +kernel
theorem dM_step_354 : decode cM_step 354 = .ok (.getfield 62, 3) := by decide +kernel
theorem dM_step_357 : decode cM_step 357 = .ok (.aload_n 0, 1) := by decide +kernel
theorem dM_step_358 : decode cM_step 358 = .ok (.getfield 155, 3) := by decide +kernel
theorem dM_step_361 : decode cM_step 361 = .ok (.iconst 0, 1) := by decide +kernel
theorem dM_step_362 : decode cM_step 362 = .ok (.iastore, 1) := by decide +kernel
theorem dM_step_363 : decode cM_step 363 = .ok (.iconst 1, 1) := by decide +kernel
theorem dM_step_364 : decode cM_step 364 = .ok (.ireturn, 1) := by decide +kernel
abbrev cM_judge : ByteArray := prog_9_method_34_code
def yM_judge : MethodName := ⟨"PostIndexModel", "judge", "(II)I"⟩
def fM_judge (d : Nat) : zF := (cM_judge, 3, yM_judge, (some .int), d, 0, 0)
theorem meM_judge (d : Nat) : zMe (fM_judge d) 2 := ⟨(zA3 (i := 199) rfl rfl), (zA1 (i := 8) rfl rfl), by show "PostIndexModel" ≠ _; decide +kernel, by show "PostIndexModel" ≠ _; decide +kernel, by show (parseMethodDescriptor "(II)I").map _ = _; decide +kernel⟩
theorem dM_judge_0 : decode cM_judge 0 = .ok (.aload_n 0, 1) := by decide +kernel
theorem dM_judge_1 : decode cM_judge 1 = .ok (.iconst 0, 1) := by decide +kernel
theorem dM_judge_2 : decode cM_judge 2 = .ok (.putfield 136, 3) := by decide +kernel
theorem dM_judge_5 : decode cM_judge 5 = .ok (.aload_n 0, 1) := by decide +kernel
theorem dM_judge_6 : decode cM_judge 6 = .ok (.iconst 0, 1) := by decide +kernel
theorem dM_judge_7 : decode cM_judge 7 = .ok (.invokevirtual 174, 3) := by decide +kernel
theorem dM_judge_10 : decode cM_judge 10 = .ok (.aload_n 0, 1) := by decide +kernel
theorem dM_judge_11 : decode cM_judge 11 = .ok (.iload_n 1, 1) := by decide +kernel
theorem dM_judge_12 : decode cM_judge 12 = .ok (.invokevirtual 171, 3) := by decide +kernel
theorem dM_judge_15 : decode cM_judge 15 = .ok (.aload_n 0, 1) := by decide +kernel
theorem dM_judge_16 : decode cM_judge 16 = .ok (.getfield 145, 3) := by decide +kernel
theorem dM_judge_19 : decode cM_judge 19 = .ok (.ifCond .eq 22, 3) := by decide +kernel
theorem dM_judge_22 : decode cM_judge 22 = .ok (.aload_n 0, 1) := by decide +kernel
theorem dM_judge_23 : decode cM_judge 23 = .ok (.iload_n 1, 1) := by decide +kernel
theorem dM_judge_24 : decode cM_judge 24 = .ok (.iload_n 2, 1) := by decide +kernel
theorem dM_judge_25 : decode cM_judge 25 = .ok (.invokevirtual 177, 3) := by decide +kernel
theorem dM_judge_28 : decode cM_judge 28 = .ok (.ifCond .ne 5, 3) := by decide +kernel
theorem dM_judge_31 : decode cM_judge 31 = .ok (.iconst (-1), 1) := by decide +kernel
theorem dM_judge_32 : decode cM_judge 32 = .ok (.ireturn, 1) := by decide +kernel
theorem dM_judge_33 : decode cM_judge 33 = .ok (.aload_n 0, 1) := by decide +kernel
theorem dM_judge_34 : decode cM_judge 34 = .ok (.iload_n 1, 1) := by decide +kernel
theorem dM_judge_35 : decode cM_judge 35 = .ok (.invokevirtual 171, 3) := by decide +kernel
theorem dM_judge_38 : decode cM_judge 38 = .ok (.goto (-23), 3) := by decide +kernel
theorem dM_judge_41 : decode cM_judge 41 = .ok (.aload_n 0, 1) := by decide +kernel
theorem dM_judge_42 : decode cM_judge 42 = .ok (.getfield 155, 3) := by decide +kernel
theorem dM_judge_45 : decode cM_judge 45 = .ok (.ifCond .gt 21, 3) := by decide +kernel
theorem dM_judge_48 : decode cM_judge 48 = .ok (.aload_n 0, 1) := by decide +kernel
theorem dM_judge_49 : decode cM_judge 49 = .ok (.getfield 62, 3) := by decide +kernel
theorem dM_judge_52 : decode cM_judge 52 = .ok (.iconst 0, 1) := by decide +kernel
theorem dM_judge_53 : decode cM_judge 53 = .ok (.iaload, 1) := by decide +kernel
theorem dM_judge_54 : decode cM_judge 54 = .ok (.ifCond .eq 12, 3) := by decide +kernel
theorem dM_judge_57 : decode cM_judge 57 = .ok (.aload_n 0, 1) := by decide +kernel
theorem dM_judge_58 : decode cM_judge 58 = .ok (.getfield 65, 3) := by decide +kernel
theorem dM_judge_61 : decode cM_judge 61 = .ok (.iconst 0, 1) := by decide +kernel
theorem dM_judge_62 : decode cM_judge 62 = .ok (.iaload, 1) := by decide +kernel
theorem dM_judge_63 : decode cM_judge 63 = .ok (.ifCond .eq 5, 3) := by decide +kernel
theorem dM_judge_66 : decode cM_judge 66 = .ok (.iconst (-1), 1) := by decide +kernel
theorem dM_judge_67 : decode cM_judge 67 = .ok (.ireturn, 1) := by decide +kernel
theorem dM_judge_68 : decode cM_judge 68 = .ok (.aload_n 0, 1) := by decide +kernel
theorem dM_judge_69 : decode cM_judge 69 = .ok (.getfield 56, 3) := by decide +kernel
theorem dM_judge_72 : decode cM_judge 72 = .ok (.iconst 0, 1) := by decide +kernel
theorem dM_judge_73 : decode cM_judge 73 = .ok (.baload, 1) := by decide +kernel
theorem dM_judge_74 : decode cM_judge 74 = .ok (.ifCond .ne 12, 3) := by decide +kernel
theorem dM_judge_77 : decode cM_judge 77 = .ok (.aload_n 0, 1) := by decide +kernel
theorem dM_judge_78 : decode cM_judge 78 = .ok (.getfield 59, 3) := by decide +kernel
theorem dM_judge_81 : decode cM_judge 81 = .ok (.iconst 0, 1) := by decide +kernel
theorem dM_judge_82 : decode cM_judge 82 = .ok (.baload, 1) := by decide +kernel
theorem dM_judge_83 : decode cM_judge 83 = .ok (.ifCond .eq 7, 3) := by decide +kernel
theorem dM_judge_86 : decode cM_judge 86 = .ok (.iconst 1, 1) := by decide +kernel
theorem dM_judge_87 : decode cM_judge 87 = .ok (.goto 4, 3) := by decide +kernel
theorem dM_judge_90 : decode cM_judge 90 = .ok (.iconst 0, 1) := by decide +kernel
theorem dM_judge_91 : decode cM_judge 91 = .ok (.ireturn, 1) := by decide +kernel
abbrev cM_copy : ByteArray := prog_9_method_35_code
def yM_copy : MethodName := ⟨"PostIndexModel", "copy", "(I)V"⟩
def fM_copy (d : Nat) : zF := (cM_copy, 3, yM_copy, none, d, 0, 0)
theorem meM_copy (d : Nat) : zMe (fM_copy d) 1 := ⟨(zA3 (i := 195) rfl rfl), (zA1 (i := 8) rfl rfl), by show "PostIndexModel" ≠ _; decide +kernel, by show "PostIndexModel" ≠ _; decide +kernel, by show (parseMethodDescriptor "(I)V").map _ = _; decide +kernel⟩
theorem dM_copy_0 : decode cM_copy 0 = .ok (.aload_n 0, 1) := by decide +kernel
theorem dM_copy_1 : decode cM_copy 1 = .ok (.getfield 50, 3) := by decide +kernel
theorem dM_copy_4 : decode cM_copy 4 = .ok (.iload_n 1, 1) := by decide +kernel
theorem dM_copy_5 : decode cM_copy 5 = .ok (.aload_n 0, 1) := by decide +kernel
theorem dM_copy_6 : decode cM_copy 6 = .ok (.getfield 78, 3) := by decide +kernel
theorem dM_copy_9 : decode cM_copy 9 = .ok (.iastore, 1) := by decide +kernel
theorem dM_copy_10 : decode cM_copy 10 = .ok (.iconst 0, 1) := by decide +kernel
theorem dM_copy_11 : decode cM_copy 11 = .ok (.istore_n 2, 1) := by decide +kernel
theorem dM_copy_12 : decode cM_copy 12 = .ok (.iload_n 2, 1) := by decide +kernel
theorem dM_copy_13 : decode cM_copy 13 = .ok (.aload_n 0, 1) := by decide +kernel
theorem dM_copy_14 : decode cM_copy 14 = .ok (.getfield 78, 3) := by decide +kernel
theorem dM_copy_17 : decode cM_copy 17 = .ok (.if_icmp .ge 26, 3) := by decide +kernel
theorem dM_copy_20 : decode cM_copy 20 = .ok (.aload_n 0, 1) := by decide +kernel
theorem dM_copy_21 : decode cM_copy 21 = .ok (.getfield 53, 3) := by decide +kernel
theorem dM_copy_24 : decode cM_copy 24 = .ok (.bipush 24, 2) := by decide +kernel
theorem dM_copy_26 : decode cM_copy 26 = .ok (.iload_n 1, 1) := by decide +kernel
theorem dM_copy_27 : decode cM_copy 27 = .ok (.imul, 1) := by decide +kernel
theorem dM_copy_28 : decode cM_copy 28 = .ok (.iload_n 2, 1) := by decide +kernel
theorem dM_copy_29 : decode cM_copy 29 = .ok (.iadd, 1) := by decide +kernel
theorem dM_copy_30 : decode cM_copy 30 = .ok (.aload_n 0, 1) := by decide +kernel
theorem dM_copy_31 : decode cM_copy 31 = .ok (.getfield 7, 3) := by decide +kernel
theorem dM_copy_34 : decode cM_copy 34 = .ok (.iload_n 2, 1) := by decide +kernel
theorem dM_copy_35 : decode cM_copy 35 = .ok (.iaload, 1) := by decide +kernel
theorem dM_copy_36 : decode cM_copy 36 = .ok (.iastore, 1) := by decide +kernel
theorem dM_copy_37 : decode cM_copy 37 = .ok (.iinc 2 1, 3) := by decide +kernel
theorem dM_copy_40 : decode cM_copy 40 = .ok (.goto (-28), 3) := by decide +kernel
theorem dM_copy_43 : decode cM_copy 43 = .ok (.return_, 1) := by decide +kernel
abbrev cM_search : ByteArray := prog_9_method_36_code
def yM_search : MethodName := ⟨"PostIndexModel", "search", "()I"⟩
def fM_search (d : Nat) : zF := (cM_search, 2, yM_search, (some .int), d, 0, 0)
theorem meM_search (d : Nat) : zMe (fM_search d) 0 := ⟨(zA3 (i := 191) rfl rfl), (zA1 (i := 8) rfl rfl), by show "PostIndexModel" ≠ _; decide +kernel, by show "PostIndexModel" ≠ _; decide +kernel, by show (parseMethodDescriptor "()I").map _ = _; decide +kernel⟩
theorem dM_search_0 : decode cM_search 0 = .ok (.aload_n 0, 1) := by decide +kernel
theorem dM_search_1 : decode cM_search 1 = .ok (.iconst 3, 1) := by decide +kernel
theorem dM_search_2 : decode cM_search 2 = .ok (.invokevirtual 180, 3) := by decide +kernel
theorem dM_search_5 : decode cM_search 5 = .ok (.aload_n 0, 1) := by decide +kernel
theorem dM_search_6 : decode cM_search 6 = .ok (.iconst 3, 1) := by decide +kernel
theorem dM_search_7 : decode cM_search 7 = .ok (.iconst (-1), 1) := by decide +kernel
theorem dM_search_8 : decode cM_search 8 = .ok (.invokevirtual 183, 3) := by decide +kernel
theorem dM_search_11 : decode cM_search 11 = .ok (.ifCond .ge 5, 3) := by decide +kernel
theorem dM_search_14 : decode cM_search 14 = .ok (.iconst (-1), 1) := by decide +kernel
theorem dM_search_15 : decode cM_search 15 = .ok (.ireturn, 1) := by decide +kernel
theorem dM_search_16 : decode cM_search 16 = .ok (.iconst 0, 1) := by decide +kernel
theorem dM_search_17 : decode cM_search 17 = .ok (.istore_n 1, 1) := by decide +kernel
theorem dM_search_18 : decode cM_search 18 = .ok (.iload_n 1, 1) := by decide +kernel
theorem dM_search_19 : decode cM_search 19 = .ok (.iconst 3, 1) := by decide +kernel
theorem dM_search_20 : decode cM_search 20 = .ok (.if_icmp .ge 66, 3) := by decide +kernel
theorem dM_search_23 : decode cM_search 23 = .ok (.aload_n 0, 1) := by decide +kernel
theorem dM_search_24 : decode cM_search 24 = .ok (.getfield 44, 3) := by decide +kernel
theorem dM_search_27 : decode cM_search 27 = .ok (.iload_n 1, 1) := by decide +kernel
theorem dM_search_28 : decode cM_search 28 = .ok (.baload, 1) := by decide +kernel
theorem dM_search_29 : decode cM_search 29 = .ok (.ifCond .ne 51, 3) := by decide +kernel
theorem dM_search_32 : decode cM_search 32 = .ok (.aload_n 0, 1) := by decide +kernel
theorem dM_search_33 : decode cM_search 33 = .ok (.getfield 186, 3) := by decide +kernel
theorem flM_186 : zFld "PostIndexModel" 186 7 15 31 := ⟨RM, TM, rfl, by decide, inM, (zA3 (i := 19) rfl rfl)⟩
theorem dM_search_36 : decode cM_search 36 = .ok (.bipush 24, 2) := by decide +kernel
theorem dM_search_38 : decode cM_search 38 = .ok (.if_icmp .ge 42, 3) := by decide +kernel
theorem dM_search_41 : decode cM_search 41 = .ok (.aload_n 0, 1) := by decide +kernel
theorem dM_search_42 : decode cM_search 42 = .ok (.iload_n 1, 1) := by decide +kernel
theorem dM_search_43 : decode cM_search 43 = .ok (.invokevirtual 180, 3) := by decide +kernel
theorem dM_search_46 : decode cM_search 46 = .ok (.aload_n 0, 1) := by decide +kernel
theorem dM_search_47 : decode cM_search 47 = .ok (.getfield 44, 3) := by decide +kernel
theorem dM_search_50 : decode cM_search 50 = .ok (.iload_n 1, 1) := by decide +kernel
theorem dM_search_51 : decode cM_search 51 = .ok (.iconst 1, 1) := by decide +kernel
theorem dM_search_52 : decode cM_search 52 = .ok (.bastore, 1) := by decide +kernel
theorem dM_search_53 : decode cM_search 53 = .ok (.aload_n 0, 1) := by decide +kernel
theorem dM_search_54 : decode cM_search 54 = .ok (.dup, 1) := by decide +kernel
theorem dM_search_55 : decode cM_search 55 = .ok (.getfield 186, 3) := by decide +kernel
theorem dM_search_58 : decode cM_search 58 = .ok (.iconst 1, 1) := by decide +kernel
theorem dM_search_59 : decode cM_search 59 = .ok (.iadd, 1) := by decide +kernel
theorem dM_search_60 : decode cM_search 60 = .ok (.putfield 186, 3) := by decide +kernel
theorem dM_search_63 : decode cM_search 63 = .ok (.aload_n 0, 1) := by decide +kernel
theorem dM_search_64 : decode cM_search 64 = .ok (.getfield 47, 3) := by decide +kernel
theorem dM_search_67 : decode cM_search 67 = .ok (.iload_n 1, 1) := by decide +kernel
theorem dM_search_68 : decode cM_search 68 = .ok (.aload_n 0, 1) := by decide +kernel
theorem dM_search_69 : decode cM_search 69 = .ok (.getfield 82, 3) := by decide +kernel
theorem dM_search_72 : decode cM_search 72 = .ok (.iastore, 1) := by decide +kernel
theorem dM_search_73 : decode cM_search 73 = .ok (.aload_n 0, 1) := by decide +kernel
theorem dM_search_74 : decode cM_search 74 = .ok (.iconst 0, 1) := by decide +kernel
theorem dM_search_75 : decode cM_search 75 = .ok (.putfield 78, 3) := by decide +kernel
theorem dM_search_78 : decode cM_search 78 = .ok (.iload_n 1, 1) := by decide +kernel
theorem dM_search_79 : decode cM_search 79 = .ok (.ireturn, 1) := by decide +kernel
theorem dM_search_80 : decode cM_search 80 = .ok (.iinc 1 1, 3) := by decide +kernel
theorem dM_search_83 : decode cM_search 83 = .ok (.goto (-65), 3) := by decide +kernel
theorem dM_search_86 : decode cM_search 86 = .ok (.bipush (-2), 2) := by decide +kernel
theorem dM_search_88 : decode cM_search 88 = .ok (.ireturn, 1) := by decide +kernel
abbrev cM_searching : ByteArray := prog_9_method_37_code
def yM_searching : MethodName := ⟨"PostIndexModel", "searching", "(I)Z"⟩
def fM_searching (d : Nat) : zF := (cM_searching, 2, yM_searching, (some .boolean), d, 0, 0)
theorem meM_searching (d : Nat) : zMe (fM_searching d) 1 := ⟨(zA4 (i := 3) rfl rfl), (zA1 (i := 8) rfl rfl), by show "PostIndexModel" ≠ _; decide +kernel, by show "PostIndexModel" ≠ _; decide +kernel, by show (parseMethodDescriptor "(I)Z").map _ = _; decide +kernel⟩
theorem dM_searching_0 : decode cM_searching 0 = .ok (.iload_n 1, 1) := by decide +kernel
theorem dM_searching_1 : decode cM_searching 1 = .ok (.ifCond .lt 21, 3) := by decide +kernel
theorem dM_searching_4 : decode cM_searching 4 = .ok (.iload_n 1, 1) := by decide +kernel
theorem dM_searching_5 : decode cM_searching 5 = .ok (.iconst 3, 1) := by decide +kernel
theorem dM_searching_6 : decode cM_searching 6 = .ok (.if_icmp .ge 16, 3) := by decide +kernel
theorem dM_searching_9 : decode cM_searching 9 = .ok (.aload_n 0, 1) := by decide +kernel
theorem dM_searching_10 : decode cM_searching 10 = .ok (.getfield 44, 3) := by decide +kernel
theorem dM_searching_13 : decode cM_searching 13 = .ok (.iload_n 1, 1) := by decide +kernel
theorem dM_searching_14 : decode cM_searching 14 = .ok (.baload, 1) := by decide +kernel
theorem dM_searching_15 : decode cM_searching 15 = .ok (.ifCond .eq 7, 3) := by decide +kernel
theorem dM_searching_18 : decode cM_searching 18 = .ok (.iconst 1, 1) := by decide +kernel
theorem dM_searching_19 : decode cM_searching 19 = .ok (.goto 4, 3) := by decide +kernel
theorem dM_searching_22 : decode cM_searching 22 = .ok (.iconst 0, 1) := by decide +kernel
theorem dM_searching_23 : decode cM_searching 23 = .ok (.ireturn, 1) := by decide +kernel
abbrev cM_next : ByteArray := prog_9_method_38_code
def yM_next : MethodName := ⟨"PostIndexModel", "next", "(I)I"⟩
def fM_next (d : Nat) : zF := (cM_next, 3, yM_next, (some .int), d, 0, 0)
theorem meM_next (d : Nat) : zMe (fM_next d) 1 := ⟨(zA3 (i := 239) rfl rfl), (zA1 (i := 8) rfl rfl), by show "PostIndexModel" ≠ _; decide +kernel, by show "PostIndexModel" ≠ _; decide +kernel, by show (parseMethodDescriptor "(I)I").map _ = _; decide +kernel⟩
theorem dM_next_0 : decode cM_next 0 = .ok (.aload_n 0, 1) := by decide +kernel
theorem dM_next_1 : decode cM_next 1 = .ok (.iload_n 1, 1) := by decide +kernel
theorem dM_next_2 : decode cM_next 2 = .ok (.invokevirtual 189, 3) := by decide +kernel
theorem dM_next_5 : decode cM_next 5 = .ok (.ifCond .ne 5, 3) := by decide +kernel
theorem dM_next_8 : decode cM_next 8 = .ok (.iconst (-1), 1) := by decide +kernel
theorem dM_next_9 : decode cM_next 9 = .ok (.ireturn, 1) := by decide +kernel
theorem dM_next_10 : decode cM_next 10 = .ok (.aload_n 0, 1) := by decide +kernel
theorem dM_next_11 : decode cM_next 11 = .ok (.getfield 47, 3) := by decide +kernel
theorem dM_next_14 : decode cM_next 14 = .ok (.iload_n 1, 1) := by decide +kernel
theorem dM_next_15 : decode cM_next 15 = .ok (.iaload, 1) := by decide +kernel
theorem dM_next_16 : decode cM_next 16 = .ok (.iconst 1, 1) := by decide +kernel
theorem dM_next_17 : decode cM_next 17 = .ok (.isub, 1) := by decide +kernel
theorem dM_next_18 : decode cM_next 18 = .ok (.istore_n 2, 1) := by decide +kernel
theorem dM_next_19 : decode cM_next 19 = .ok (.iload_n 2, 1) := by decide +kernel
theorem dM_next_20 : decode cM_next 20 = .ok (.ifCond .lt 36, 3) := by decide +kernel
theorem dM_next_23 : decode cM_next 23 = .ok (.aload_n 0, 1) := by decide +kernel
theorem dM_next_24 : decode cM_next 24 = .ok (.iload_n 2, 1) := by decide +kernel
theorem dM_next_25 : decode cM_next 25 = .ok (.invokevirtual 88, 3) := by decide +kernel
theorem dM_next_28 : decode cM_next 28 = .ok (.ifCond .eq 22, 3) := by decide +kernel
theorem dM_next_31 : decode cM_next 31 = .ok (.aload_n 0, 1) := by decide +kernel
theorem dM_next_32 : decode cM_next 32 = .ok (.iload_n 1, 1) := by decide +kernel
theorem dM_next_33 : decode cM_next 33 = .ok (.iload_n 2, 1) := by decide +kernel
theorem dM_next_34 : decode cM_next 34 = .ok (.invokevirtual 183, 3) := by decide +kernel
theorem dM_next_37 : decode cM_next 37 = .ok (.iconst 1, 1) := by decide +kernel
theorem dM_next_38 : decode cM_next 38 = .ok (.if_icmp .ne 12, 3) := by decide +kernel
theorem dM_next_41 : decode cM_next 41 = .ok (.aload_n 0, 1) := by decide +kernel
theorem dM_next_42 : decode cM_next 42 = .ok (.getfield 47, 3) := by decide +kernel
theorem dM_next_45 : decode cM_next 45 = .ok (.iload_n 1, 1) := by decide +kernel
theorem dM_next_46 : decode cM_next 46 = .ok (.iload_n 2, 1) := by decide +kernel
theorem dM_next_47 : decode cM_next 47 = .ok (.iastore, 1) := by decide +kernel
theorem dM_next_48 : decode cM_next 48 = .ok (.iload_n 2, 1) := by decide +kernel
theorem dM_next_49 : decode cM_next 49 = .ok (.ireturn, 1) := by decide +kernel
theorem dM_next_50 : decode cM_next 50 = .ok (.iinc 2 (-1), 3) := by decide +kernel
theorem dM_next_53 : decode cM_next 53 = .ok (.goto (-34), 3) := by decide +kernel
theorem dM_next_56 : decode cM_next 56 = .ok (.iconst (-1), 1) := by decide +kernel
theorem dM_next_57 : decode cM_next 57 = .ok (.ireturn, 1) := by decide +kernel
abbrev cM_left : ByteArray := prog_9_method_39_code
def yM_left : MethodName := ⟨"PostIndexModel", "left", "(I)I"⟩
def fM_left (d : Nat) : zF := (cM_left, 4, yM_left, (some .int), d, 0, 0)
theorem meM_left (d : Nat) : zMe (fM_left d) 1 := ⟨(zA4 (i := 7) rfl rfl), (zA1 (i := 8) rfl rfl), by show "PostIndexModel" ≠ _; decide +kernel, by show "PostIndexModel" ≠ _; decide +kernel, by show (parseMethodDescriptor "(I)I").map _ = _; decide +kernel⟩
theorem dM_left_0 : decode cM_left 0 = .ok (.aload_n 0, 1) := by decide +kernel
theorem dM_left_1 : decode cM_left 1 = .ok (.iload_n 1, 1) := by decide +kernel
theorem dM_left_2 : decode cM_left 2 = .ok (.invokevirtual 189, 3) := by decide +kernel
theorem dM_left_5 : decode cM_left 5 = .ok (.ifCond .ne 5, 3) := by decide +kernel
theorem dM_left_8 : decode cM_left 8 = .ok (.iconst (-1), 1) := by decide +kernel
theorem dM_left_9 : decode cM_left 9 = .ok (.ireturn, 1) := by decide +kernel
theorem dM_left_10 : decode cM_left 10 = .ok (.iconst 0, 1) := by decide +kernel
theorem dM_left_11 : decode cM_left 11 = .ok (.istore_n 2, 1) := by decide +kernel
theorem dM_left_12 : decode cM_left 12 = .ok (.iconst 0, 1) := by decide +kernel
theorem dM_left_13 : decode cM_left 13 = .ok (.istore_n 3, 1) := by decide +kernel
theorem dM_left_14 : decode cM_left 14 = .ok (.iload_n 3, 1) := by decide +kernel
theorem dM_left_15 : decode cM_left 15 = .ok (.aload_n 0, 1) := by decide +kernel
theorem dM_left_16 : decode cM_left 16 = .ok (.getfield 47, 3) := by decide +kernel
theorem dM_left_19 : decode cM_left 19 = .ok (.iload_n 1, 1) := by decide +kernel
theorem dM_left_20 : decode cM_left 20 = .ok (.iaload, 1) := by decide +kernel
theorem dM_left_21 : decode cM_left 21 = .ok (.if_icmp .ge 35, 3) := by decide +kernel
theorem dM_left_24 : decode cM_left 24 = .ok (.iload_n 2, 1) := by decide +kernel
theorem dM_left_25 : decode cM_left 25 = .ok (.aload_n 0, 1) := by decide +kernel
theorem dM_left_26 : decode cM_left 26 = .ok (.iload_n 3, 1) := by decide +kernel
theorem dM_left_27 : decode cM_left 27 = .ok (.invokevirtual 88, 3) := by decide +kernel
theorem dM_left_30 : decode cM_left 30 = .ok (.ifCond .eq 17, 3) := by decide +kernel
theorem dM_left_33 : decode cM_left 33 = .ok (.aload_n 0, 1) := by decide +kernel
theorem dM_left_34 : decode cM_left 34 = .ok (.iload_n 1, 1) := by decide +kernel
theorem dM_left_35 : decode cM_left 35 = .ok (.iload_n 3, 1) := by decide +kernel
theorem dM_left_36 : decode cM_left 36 = .ok (.invokevirtual 183, 3) := by decide +kernel
theorem dM_left_39 : decode cM_left 39 = .ok (.iconst 1, 1) := by decide +kernel
theorem dM_left_40 : decode cM_left 40 = .ok (.if_icmp .ne 7, 3) := by decide +kernel
theorem dM_left_43 : decode cM_left 43 = .ok (.iconst 1, 1) := by decide +kernel
theorem dM_left_44 : decode cM_left 44 = .ok (.goto 4, 3) := by decide +kernel
theorem dM_left_47 : decode cM_left 47 = .ok (.iconst 0, 1) := by decide +kernel
theorem dM_left_48 : decode cM_left 48 = .ok (.iadd, 1) := by decide +kernel
theorem dM_left_49 : decode cM_left 49 = .ok (.istore_n 2, 1) := by decide +kernel
theorem dM_left_50 : decode cM_left 50 = .ok (.iinc 3 1, 3) := by decide +kernel
theorem dM_left_53 : decode cM_left 53 = .ok (.goto (-39), 3) := by decide +kernel
theorem dM_left_56 : decode cM_left 56 = .ok (.iload_n 2, 1) := by decide +kernel
theorem dM_left_57 : decode cM_left 57 = .ok (.ireturn, 1) := by decide +kernel
abbrev cM_close : ByteArray := prog_9_method_40_code
def yM_close : MethodName := ⟨"PostIndexModel", "close", "(I)Z"⟩
def fM_close (d : Nat) : zF := (cM_close, 2, yM_close, (some .boolean), d, 0, 0)
theorem meM_close (d : Nat) : zMe (fM_close d) 1 := ⟨(zA4 (i := 11) rfl rfl), (zA1 (i := 8) rfl rfl), by show "PostIndexModel" ≠ _; decide +kernel, by show "PostIndexModel" ≠ _; decide +kernel, by show (parseMethodDescriptor "(I)Z").map _ = _; decide +kernel⟩
theorem dM_close_0 : decode cM_close 0 = .ok (.aload_n 0, 1) := by decide +kernel
theorem dM_close_1 : decode cM_close 1 = .ok (.iload_n 1, 1) := by decide +kernel
theorem dM_close_2 : decode cM_close 2 = .ok (.invokevirtual 189, 3) := by decide +kernel
theorem dM_close_5 : decode cM_close 5 = .ok (.ifCond .ne 5, 3) := by decide +kernel
theorem dM_close_8 : decode cM_close 8 = .ok (.iconst 0, 1) := by decide +kernel
theorem dM_close_9 : decode cM_close 9 = .ok (.ireturn, 1) := by decide +kernel
theorem dM_close_10 : decode cM_close 10 = .ok (.aload_n 0, 1) := by decide +kernel
theorem dM_close_11 : decode cM_close 11 = .ok (.getfield 44, 3) := by decide +kernel
theorem dM_close_14 : decode cM_close 14 = .ok (.iload_n 1, 1) := by decide +kernel
theorem dM_close_15 : decode cM_close 15 = .ok (.iconst 0, 1) := by decide +kernel
theorem dM_close_16 : decode cM_close 16 = .ok (.bastore, 1) := by decide +kernel
theorem dM_close_17 : decode cM_close 17 = .ok (.iconst 1, 1) := by decide +kernel
theorem dM_close_18 : decode cM_close 18 = .ok (.ireturn, 1) := by decide +kernel
abbrev cM_form : ByteArray := prog_9_method_41_code
def yM_form : MethodName := ⟨"PostIndexModel", "form", "(I)I"⟩
def fM_form (d : Nat) : zF := (cM_form, 2, yM_form, (some .int), d, 0, 0)
theorem meM_form (d : Nat) : zMe (fM_form d) 1 := ⟨(zA4 (i := 15) rfl rfl), (zA1 (i := 8) rfl rfl), by show "PostIndexModel" ≠ _; decide +kernel, by show "PostIndexModel" ≠ _; decide +kernel, by show (parseMethodDescriptor "(I)I").map _ = _; decide +kernel⟩
theorem dM_form_0 : decode cM_form 0 = .ok (.iload_n 1, 1) := by decide +kernel
theorem dM_form_1 : decode cM_form 1 = .ok (.ifCond .lt 16, 3) := by decide +kernel
theorem dM_form_4 : decode cM_form 4 = .ok (.iload_n 1, 1) := by decide +kernel
theorem dM_form_5 : decode cM_form 5 = .ok (.iconst 5, 1) := by decide +kernel
theorem dM_form_6 : decode cM_form 6 = .ok (.if_icmp .gt 11, 3) := by decide +kernel
theorem dM_form_9 : decode cM_form 9 = .ok (.aload_n 0, 1) := by decide +kernel
theorem dM_form_10 : decode cM_form 10 = .ok (.iload_n 1, 1) := by decide +kernel
theorem dM_form_11 : decode cM_form 11 = .ok (.invokevirtual 104, 3) := by decide +kernel
theorem dM_form_14 : decode cM_form 14 = .ok (.ifCond .ne 5, 3) := by decide +kernel
theorem dM_form_17 : decode cM_form 17 = .ok (.iconst (-1), 1) := by decide +kernel
theorem dM_form_18 : decode cM_form 18 = .ok (.ireturn, 1) := by decide +kernel
theorem dM_form_19 : decode cM_form 19 = .ok (.aload_n 0, 1) := by decide +kernel
theorem dM_form_20 : decode cM_form 20 = .ok (.iload_n 1, 1) := by decide +kernel
theorem dM_form_21 : decode cM_form 21 = .ok (.invokevirtual 85, 3) := by decide +kernel
theorem dM_form_24 : decode cM_form 24 = .ok (.ifCond .ne 5, 3) := by decide +kernel
theorem dM_form_27 : decode cM_form 27 = .ok (.iconst 4, 1) := by decide +kernel
theorem dM_form_28 : decode cM_form 28 = .ok (.ireturn, 1) := by decide +kernel
theorem dM_form_29 : decode cM_form 29 = .ok (.aload_n 0, 1) := by decide +kernel
theorem dM_form_30 : decode cM_form 30 = .ok (.iload_n 1, 1) := by decide +kernel
theorem dM_form_31 : decode cM_form 31 = .ok (.invokevirtual 129, 3) := by decide +kernel
theorem dM_form_34 : decode cM_form 34 = .ok (.ifCond .ne 7, 3) := by decide +kernel
theorem dM_form_37 : decode cM_form 37 = .ok (.iconst 0, 1) := by decide +kernel
theorem dM_form_38 : decode cM_form 38 = .ok (.goto 30, 3) := by decide +kernel
theorem dM_form_41 : decode cM_form 41 = .ok (.aload_n 0, 1) := by decide +kernel
theorem dM_form_42 : decode cM_form 42 = .ok (.getfield 41, 3) := by decide +kernel
theorem dM_form_45 : decode cM_form 45 = .ok (.iload_n 1, 1) := by decide +kernel
theorem dM_form_46 : decode cM_form 46 = .ok (.baload, 1) := by decide +kernel
theorem dM_form_47 : decode cM_form 47 = .ok (.ifCond .eq 7, 3) := by decide +kernel
theorem dM_form_50 : decode cM_form 50 = .ok (.iconst 3, 1) := by decide +kernel
theorem dM_form_51 : decode cM_form 51 = .ok (.goto 17, 3) := by decide +kernel
theorem dM_form_54 : decode cM_form 54 = .ok (.aload_n 0, 1) := by decide +kernel
theorem dM_form_55 : decode cM_form 55 = .ok (.getfield 38, 3) := by decide +kernel
theorem dM_form_58 : decode cM_form 58 = .ok (.iload_n 1, 1) := by decide +kernel
theorem dM_form_59 : decode cM_form 59 = .ok (.iaload, 1) := by decide +kernel
theorem dM_form_60 : decode cM_form 60 = .ok (.ifCond .le 7, 3) := by decide +kernel
theorem dM_form_63 : decode cM_form 63 = .ok (.iconst 2, 1) := by decide +kernel
theorem dM_form_64 : decode cM_form 64 = .ok (.goto 4, 3) := by decide +kernel
theorem dM_form_67 : decode cM_form 67 = .ok (.iconst 1, 1) := by decide +kernel
theorem dM_form_68 : decode cM_form 68 = .ok (.ireturn, 1) := by decide +kernel
abbrev cM_lives : ByteArray := prog_9_method_42_code
def yM_lives : MethodName := ⟨"PostIndexModel", "lives", "(I)Z"⟩
def fM_lives (d : Nat) : zF := (cM_lives, 2, yM_lives, (some .boolean), d, 0, 0)
theorem meM_lives (d : Nat) : zMe (fM_lives d) 1 := ⟨(zA4 (i := 23) rfl rfl), (zA1 (i := 8) rfl rfl), by show "PostIndexModel" ≠ _; decide +kernel, by show "PostIndexModel" ≠ _; decide +kernel, by show (parseMethodDescriptor "(I)Z").map _ = _; decide +kernel⟩
theorem dM_lives_0 : decode cM_lives 0 = .ok (.iload_n 1, 1) := by decide +kernel
theorem dM_lives_1 : decode cM_lives 1 = .ok (.ifCond .lt 20, 3) := by decide +kernel
theorem dM_lives_4 : decode cM_lives 4 = .ok (.iload_n 1, 1) := by decide +kernel
theorem dM_lives_5 : decode cM_lives 5 = .ok (.iconst 5, 1) := by decide +kernel
theorem dM_lives_6 : decode cM_lives 6 = .ok (.if_icmp .gt 15, 3) := by decide +kernel
theorem dM_lives_9 : decode cM_lives 9 = .ok (.aload_n 0, 1) := by decide +kernel
theorem dM_lives_10 : decode cM_lives 10 = .ok (.iload_n 1, 1) := by decide +kernel
theorem dM_lives_11 : decode cM_lives 11 = .ok (.invokevirtual 85, 3) := by decide +kernel
theorem dM_lives_14 : decode cM_lives 14 = .ok (.ifCond .eq 7, 3) := by decide +kernel
theorem dM_lives_17 : decode cM_lives 17 = .ok (.iconst 1, 1) := by decide +kernel
theorem dM_lives_18 : decode cM_lives 18 = .ok (.goto 4, 3) := by decide +kernel
theorem dM_lives_21 : decode cM_lives 21 = .ok (.iconst 0, 1) := by decide +kernel
theorem dM_lives_22 : decode cM_lives 22 = .ok (.ireturn, 1) := by decide +kernel
abbrev cM_size : ByteArray := prog_9_method_43_code
def yM_size : MethodName := ⟨"PostIndexModel", "size", "(I)I"⟩
def fM_size (d : Nat) : zF := (cM_size, 2, yM_size, (some .int), d, 0, 0)
theorem meM_size (d : Nat) : zMe (fM_size d) 1 := ⟨(zA4 (i := 19) rfl rfl), (zA1 (i := 8) rfl rfl), by show "PostIndexModel" ≠ _; decide +kernel, by show "PostIndexModel" ≠ _; decide +kernel, by show (parseMethodDescriptor "(I)I").map _ = _; decide +kernel⟩
theorem dM_size_0 : decode cM_size 0 = .ok (.aload_n 0, 1) := by decide +kernel
theorem dM_size_1 : decode cM_size 1 = .ok (.iload_n 1, 1) := by decide +kernel
theorem dM_size_2 : decode cM_size 2 = .ok (.invokevirtual 192, 3) := by decide +kernel
theorem dM_size_5 : decode cM_size 5 = .ok (.ifCond .ne 7, 3) := by decide +kernel
theorem dM_size_8 : decode cM_size 8 = .ok (.iconst (-1), 1) := by decide +kernel
theorem dM_size_9 : decode cM_size 9 = .ok (.goto 22, 3) := by decide +kernel
theorem dM_size_12 : decode cM_size 12 = .ok (.aload_n 0, 1) := by decide +kernel
theorem dM_size_13 : decode cM_size 13 = .ok (.iload_n 1, 1) := by decide +kernel
theorem dM_size_14 : decode cM_size 14 = .ok (.aload_n 0, 1) := by decide +kernel
theorem dM_size_15 : decode cM_size 15 = .ok (.getfield 41, 3) := by decide +kernel
theorem dM_size_18 : decode cM_size 18 = .ok (.iload_n 1, 1) := by decide +kernel
theorem dM_size_19 : decode cM_size 19 = .ok (.baload, 1) := by decide +kernel
theorem dM_size_20 : decode cM_size 20 = .ok (.ifCond .eq 7, 3) := by decide +kernel
theorem dM_size_23 : decode cM_size 23 = .ok (.iconst 2, 1) := by decide +kernel
theorem dM_size_24 : decode cM_size 24 = .ok (.goto 4, 3) := by decide +kernel
theorem dM_size_27 : decode cM_size 27 = .ok (.iconst 1, 1) := by decide +kernel
theorem dM_size_28 : decode cM_size 28 = .ok (.invokevirtual 132, 3) := by decide +kernel
theorem dM_size_31 : decode cM_size 31 = .ok (.ireturn, 1) := by decide +kernel
abbrev cM_terms : ByteArray := prog_9_method_44_code
def yM_terms : MethodName := ⟨"PostIndexModel", "terms", "(I)I"⟩
def fM_terms (d : Nat) : zF := (cM_terms, 2, yM_terms, (some .int), d, 0, 0)
theorem meM_terms (d : Nat) : zMe (fM_terms d) 1 := ⟨(zA4 (i := 27) rfl rfl), (zA1 (i := 8) rfl rfl), by show "PostIndexModel" ≠ _; decide +kernel, by show "PostIndexModel" ≠ _; decide +kernel, by show (parseMethodDescriptor "(I)I").map _ = _; decide +kernel⟩
theorem dM_terms_0 : decode cM_terms 0 = .ok (.aload_n 0, 1) := by decide +kernel
theorem dM_terms_1 : decode cM_terms 1 = .ok (.iload_n 1, 1) := by decide +kernel
theorem dM_terms_2 : decode cM_terms 2 = .ok (.invokevirtual 192, 3) := by decide +kernel
theorem dM_terms_5 : decode cM_terms 5 = .ok (.ifCond .ne 7, 3) := by decide +kernel
theorem dM_terms_8 : decode cM_terms 8 = .ok (.iconst (-1), 1) := by decide +kernel
theorem dM_terms_9 : decode cM_terms 9 = .ok (.goto 9, 3) := by decide +kernel
theorem dM_terms_12 : decode cM_terms 12 = .ok (.aload_n 0, 1) := by decide +kernel
theorem dM_terms_13 : decode cM_terms 13 = .ok (.iload_n 1, 1) := by decide +kernel
theorem dM_terms_14 : decode cM_terms 14 = .ok (.iconst 3, 1) := by decide +kernel
theorem dM_terms_15 : decode cM_terms 15 = .ok (.invokevirtual 132, 3) := by decide +kernel
theorem dM_terms_18 : decode cM_terms 18 = .ok (.ireturn, 1) := by decide +kernel
abbrev cM_postings : ByteArray := prog_9_method_45_code
def yM_postings : MethodName := ⟨"PostIndexModel", "postings", "(I)I"⟩
def fM_postings (d : Nat) : zF := (cM_postings, 2, yM_postings, (some .int), d, 0, 0)
theorem meM_postings (d : Nat) : zMe (fM_postings d) 1 := ⟨(zA4 (i := 31) rfl rfl), (zA1 (i := 8) rfl rfl), by show "PostIndexModel" ≠ _; decide +kernel, by show "PostIndexModel" ≠ _; decide +kernel, by show (parseMethodDescriptor "(I)I").map _ = _; decide +kernel⟩
theorem dM_postings_0 : decode cM_postings 0 = .ok (.aload_n 0, 1) := by decide +kernel
theorem dM_postings_1 : decode cM_postings 1 = .ok (.iload_n 1, 1) := by decide +kernel
theorem dM_postings_2 : decode cM_postings 2 = .ok (.invokevirtual 192, 3) := by decide +kernel
theorem dM_postings_5 : decode cM_postings 5 = .ok (.ifCond .ne 7, 3) := by decide +kernel
theorem dM_postings_8 : decode cM_postings 8 = .ok (.iconst (-1), 1) := by decide +kernel
theorem dM_postings_9 : decode cM_postings 9 = .ok (.goto 9, 3) := by decide +kernel
theorem dM_postings_12 : decode cM_postings 12 = .ok (.aload_n 0, 1) := by decide +kernel
theorem dM_postings_13 : decode cM_postings 13 = .ok (.iload_n 1, 1) := by decide +kernel
theorem dM_postings_14 : decode cM_postings 14 = .ok (.iconst 0, 1) := by decide +kernel
theorem dM_postings_15 : decode cM_postings 15 = .ok (.invokevirtual 132, 3) := by decide +kernel
theorem dM_postings_18 : decode cM_postings 18 = .ok (.ireturn, 1) := by decide +kernel
theorem lkM_74 : zLs "PostIndexModel" 74 yM_digit := ⟨(zA3 (i := 138) rfl rfl), (zA3 (i := 139) rfl rfl)⟩
theorem lkM_85 : zLv "PostIndexModel" 85 yM_live := ⟨(zA3 (i := 111) rfl rfl), (zA3 (i := 113) rfl rfl), (zA0 (i := 23) (q := (yM_live, 31)) rfl rfl)⟩
theorem lkM_88 : zLv "PostIndexModel" 88 yM_shown := ⟨(zA3 (i := 107) rfl rfl), (zA3 (i := 109) rfl rfl), (zA0 (i := 22) (q := (yM_shown, 31)) rfl rfl)⟩
theorem lkM_94 : zLv "PostIndexModel" 94 yM_cut := ⟨(zA3 (i := 131) rfl rfl), (zA3 (i := 133) rfl rfl), (zA0 (i := 25) (q := (yM_cut, 31)) rfl rfl)⟩
theorem lkM_98 : zLs "PostIndexModel" 98 yM_wordy := ⟨(zA3 (i := 135) rfl rfl), (zA3 (i := 136) rfl rfl)⟩
theorem lkM_104 : zLv "PostIndexModel" 104 yM_begun := ⟨(zA3 (i := 115) rfl rfl), (zA3 (i := 117) rfl rfl), (zA0 (i := 24) (q := (yM_begun, 31)) rfl rfl)⟩
theorem lkM_107 : zLs "PostIndexModel" 107 yM_small := ⟨(zA3 (i := 177) rfl rfl), (zA3 (i := 178) rfl rfl)⟩
theorem lkM_111 : zLv "PostIndexModel" 111 yM_indexed := ⟨(zA3 (i := 165) rfl rfl), (zA3 (i := 167) rfl rfl), (zA0 (i := 28) (q := (yM_indexed, 31)) rfl rfl)⟩
theorem lkM_114 : zLv "PostIndexModel" 114 yM_same := ⟨(zA3 (i := 173) rfl rfl), (zA3 (i := 175) rfl rfl), (zA0 (i := 30) (q := (yM_same, 31)) rfl rfl)⟩
theorem lkM_118 : zLv "PostIndexModel" 118 yM_posted := ⟨(zA3 (i := 184) rfl rfl), (zA3 (i := 186) rfl rfl), (zA0 (i := 32) (q := (yM_posted, 31)) rfl rfl)⟩
theorem lkM_122 : zLv "PostIndexModel" 122 yM_isFirst := ⟨(zA3 (i := 169) rfl rfl), (zA3 (i := 171) rfl rfl), (zA0 (i := 29) (q := (yM_isFirst, 31)) rfl rfl)⟩
theorem lkM_125 : zLv "PostIndexModel" 125 yM_measure := ⟨(zA3 (i := 180) rfl rfl), (zA3 (i := 182) rfl rfl), (zA0 (i := 31) (q := (yM_measure, 31)) rfl rfl)⟩
theorem lkM_129 : zLv "PostIndexModel" 129 yM_full := ⟨(zA3 (i := 157) rfl rfl), (zA3 (i := 159) rfl rfl), (zA0 (i := 26) (q := (yM_full, 31)) rfl rfl)⟩
theorem lkM_132 : zLv "PostIndexModel" 132 yM_sum := ⟨(zA3 (i := 161) rfl rfl), (zA3 (i := 163) rfl rfl), (zA0 (i := 27) (q := (yM_sum, 31)) rfl rfl)⟩
theorem lkM_139 : zLv "PostIndexModel" 139 yM_at := ⟨(zA3 (i := 208) rfl rfl), (zA3 (i := 210) rfl rfl), (zA0 (i := 37) (q := (yM_at, 31)) rfl rfl)⟩
theorem lkM_151 : zLv "PostIndexModel" 151 yM_stands := ⟨(zA3 (i := 224) rfl rfl), (zA3 (i := 226) rfl rfl), (zA0 (i := 41) (q := (yM_stands, 31)) rfl rfl)⟩
theorem lkM_158 : zLv "PostIndexModel" 158 yM_keepWord := ⟨(zA3 (i := 216) rfl rfl), (zA3 (i := 218) rfl rfl), (zA0 (i := 39) (q := (yM_keepWord, 31)) rfl rfl)⟩
theorem lkM_161 : zLv "PostIndexModel" 161 yM_row := ⟨(zA3 (i := 220) rfl rfl), (zA3 (i := 222) rfl rfl), (zA0 (i := 40) (q := (yM_row, 31)) rfl rfl)⟩
theorem lkM_164 : zLv "PostIndexModel" 164 yM_part := ⟨(zA3 (i := 228) rfl rfl), (zA3 (i := 230) rfl rfl), (zA0 (i := 42) (q := (yM_part, 31)) rfl rfl)⟩
theorem lkM_168 : zLv "PostIndexModel" 168 yM_filter := ⟨(zA3 (i := 232) rfl rfl), (zA3 (i := 234) rfl rfl), (zA0 (i := 43) (q := (yM_filter, 31)) rfl rfl)⟩
theorem lkM_171 : zLv "PostIndexModel" 171 yM_read := ⟨(zA3 (i := 204) rfl rfl), (zA3 (i := 206) rfl rfl), (zA0 (i := 36) (q := (yM_read, 31)) rfl rfl)⟩
theorem lkM_174 : zLv "PostIndexModel" 174 yM_open := ⟨(zA3 (i := 200) rfl rfl), (zA3 (i := 202) rfl rfl), (zA0 (i := 35) (q := (yM_open, 31)) rfl rfl)⟩
theorem lkM_177 : zLv "PostIndexModel" 177 yM_step := ⟨(zA3 (i := 212) rfl rfl), (zA3 (i := 214) rfl rfl), (zA0 (i := 38) (q := (yM_step, 31)) rfl rfl)⟩
theorem lkM_180 : zLv "PostIndexModel" 180 yM_copy := ⟨(zA3 (i := 192) rfl rfl), (zA3 (i := 194) rfl rfl), (zA0 (i := 33) (q := (yM_copy, 31)) rfl rfl)⟩
theorem lkM_183 : zLv "PostIndexModel" 183 yM_judge := ⟨(zA3 (i := 196) rfl rfl), (zA3 (i := 198) rfl rfl), (zA0 (i := 34) (q := (yM_judge, 31)) rfl rfl)⟩
theorem lkM_189 : zLv "PostIndexModel" 189 yM_searching := ⟨(zA4 (i := 0) rfl rfl), (zA4 (i := 2) rfl rfl), (zA0 (i := 44) (q := (yM_searching, 31)) rfl rfl)⟩
theorem lkM_192 : zLv "PostIndexModel" 192 yM_lives := ⟨(zA4 (i := 20) rfl rfl), (zA4 (i := 22) rfl rfl), (zA0 (i := 45) (q := (yM_lives, 31)) rfl rfl)⟩
