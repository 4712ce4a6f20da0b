theorem dM_same_77 : decode cM_same 77 = .ok (.iload_n 2, 1) := by decide +kernel
theorem dM_same_78 : decode cM_same 78 = .ok (.iaload, 1) := by decide +kernel
theorem dM_same_79 : decode cM_same 79 = .ok (.iload 5, 2) := by decide +kernel
theorem dM_same_81 : decode cM_same 81 = .ok (.iadd, 1) := by decide +kernel
theorem dM_same_82 : decode cM_same 82 = .ok (.iaload, 1) := by decide +kernel
theorem dM_same_83 : decode cM_same 83 = .ok (.invokestatic 107, 3) := by decide +kernel
theorem dM_same_86 : decode cM_same 86 = .ok (.if_icmp .ne 7, 3) := by decide +kernel
theorem dM_same_89 : decode cM_same 89 = .ok (.iconst 1, 1) := by decide +kernel
theorem dM_same_90 : decode cM_same 90 = .ok (.goto 4, 3) := by decide +kernel
theorem dM_same_93 : decode cM_same 93 = .ok (.iconst 0, 1) := by decide +kernel
theorem dM_same_94 : decode cM_same 94 = .ok (.istore 4, 2) := by decide +kernel
theorem dM_same_96 : decode cM_same 96 = .ok (.iinc 5 1, 3) := by decide +kernel
theorem dM_same_99 : decode cM_same 99 = .ok (.goto (-58), 3) := by decide +kernel
theorem dM_same_102 : decode cM_same 102 = .ok (.iload 4, 2) := by decide +kernel
theorem dM_same_104 : decode cM_same 104 = .ok (.ireturn, 1) := by decide +kernel
abbrev cM_isFirst : ByteArray := prog_9_method_20_code
def yM_isFirst : MethodName := ⟨"PostIndexModel", "isFirst", "(II)Z"⟩
def fM_isFirst (d : Nat) : zF := (cM_isFirst, 6, yM_isFirst, (some .boolean), d, 0, 0)
theorem meM_isFirst (d : Nat) : zMe (fM_isFirst d) 2 := ⟨(zA3 (i := 172) rfl rfl), (zA1 (i := 8) rfl rfl), by show "PostIndexModel" ≠ _; decide +kernel, by show "PostIndexModel" ≠ _; decide +kernel, by show (parseMethodDescriptor "(II)Z").map _ = _; decide +kernel⟩
theorem dM_isFirst_0 : decode cM_isFirst 0 = .ok (.iload_n 1, 1) := by decide +kernel
theorem dM_isFirst_1 : decode cM_isFirst 1 = .ok (.iconst 4, 1) := by decide +kernel
theorem dM_isFirst_2 : decode cM_isFirst 2 = .ok (.idiv, 1) := by decide +kernel
theorem dM_isFirst_3 : decode cM_isFirst 3 = .ok (.iconst 4, 1) := by decide +kernel
theorem dM_isFirst_4 : decode cM_isFirst 4 = .ok (.imul, 1) := by decide +kernel
theorem dM_isFirst_5 : decode cM_isFirst 5 = .ok (.istore_n 3, 1) := by decide +kernel
theorem dM_isFirst_6 : decode cM_isFirst 6 = .ok (.iload_n 3, 1) := by decide +kernel
theorem dM_isFirst_7 : decode cM_isFirst 7 = .ok (.iload_n 1, 1) := by decide +kernel
theorem dM_isFirst_8 : decode cM_isFirst 8 = .ok (.if_icmp .gt 63, 3) := by decide +kernel
theorem dM_isFirst_11 : decode cM_isFirst 11 = .ok (.iload_n 3, 1) := by decide +kernel
theorem dM_isFirst_12 : decode cM_isFirst 12 = .ok (.iload_n 1, 1) := by decide +kernel
theorem dM_isFirst_13 : decode cM_isFirst 13 = .ok (.if_icmp .ge 11, 3) := by decide +kernel
theorem dM_isFirst_16 : decode cM_isFirst 16 = .ok (.aload_n 0, 1) := by decide +kernel
theorem dM_isFirst_17 : decode cM_isFirst 17 = .ok (.iload_n 3, 1) := by decide +kernel
theorem dM_isFirst_18 : decode cM_isFirst 18 = .ok (.invokevirtual 111, 3) := by decide +kernel
theorem dM_isFirst_21 : decode cM_isFirst 21 = .ok (.goto 4, 3) := by decide +kernel
theorem dM_isFirst_24 : decode cM_isFirst 24 = .ok (.iload_n 2, 1) := by decide +kernel
theorem dM_isFirst_25 : decode cM_isFirst 25 = .ok (.istore 4, 2) := by decide +kernel
theorem dM_isFirst_27 : decode cM_isFirst 27 = .ok (.iconst 0, 1) := by decide +kernel
theorem dM_isFirst_28 : decode cM_isFirst 28 = .ok (.istore 5, 2) := by decide +kernel
theorem dM_isFirst_30 : decode cM_isFirst 30 = .ok (.iload 5, 2) := by decide +kernel
theorem dM_isFirst_32 : decode cM_isFirst 32 = .ok (.iload 4, 2) := by decide +kernel
theorem dM_isFirst_34 : decode cM_isFirst 34 = .ok (.if_icmp .ge 31, 3) := by decide +kernel
theorem dM_isFirst_37 : decode cM_isFirst 37 = .ok (.aload_n 0, 1) := by decide +kernel
theorem dM_isFirst_38 : decode cM_isFirst 38 = .ok (.bipush 12, 2) := by decide +kernel
theorem dM_isFirst_40 : decode cM_isFirst 40 = .ok (.iload_n 3, 1) := by decide +kernel
theorem dM_isFirst_41 : decode cM_isFirst 41 = .ok (.imul, 1) := by decide +kernel
theorem dM_isFirst_42 : decode cM_isFirst 42 = .ok (.iload 5, 2) := by decide +kernel
theorem dM_isFirst_44 : decode cM_isFirst 44 = .ok (.iadd, 1) := by decide +kernel
theorem dM_isFirst_45 : decode cM_isFirst 45 = .ok (.bipush 12, 2) := by decide +kernel
theorem dM_isFirst_47 : decode cM_isFirst 47 = .ok (.iload_n 1, 1) := by decide +kernel
theorem dM_isFirst_48 : decode cM_isFirst 48 = .ok (.imul, 1) := by decide +kernel
theorem dM_isFirst_49 : decode cM_isFirst 49 = .ok (.iload_n 2, 1) := by decide +kernel
theorem dM_isFirst_50 : decode cM_isFirst 50 = .ok (.iadd, 1) := by decide +kernel
theorem dM_isFirst_51 : decode cM_isFirst 51 = .ok (.invokevirtual 114, 3) := by decide +kernel
theorem dM_isFirst_54 : decode cM_isFirst 54 = .ok (.ifCond .eq 5, 3) := by decide +kernel
theorem dM_isFirst_57 : decode cM_isFirst 57 = .ok (.iconst 0, 1) := by decide +kernel
theorem dM_isFirst_58 : decode cM_isFirst 58 = .ok (.ireturn, 1) := by decide +kernel
theorem dM_isFirst_59 : decode cM_isFirst 59 = .ok (.iinc 5 1, 3) := by decide +kernel
theorem dM_isFirst_62 : decode cM_isFirst 62 = .ok (.goto (-32), 3) := by decide +kernel
theorem dM_isFirst_65 : decode cM_isFirst 65 = .ok (.iinc 3 1, 3) := by decide +kernel
theorem dM_isFirst_68 : decode cM_isFirst 68 = .ok (.goto (-62), 3) := by decide +kernel
theorem dM_isFirst_71 : decode cM_isFirst 71 = .ok (.iconst 1, 1) := by decide +kernel
theorem dM_isFirst_72 : decode cM_isFirst 72 = .ok (.ireturn, 1) := by decide +kernel
abbrev cM_posted : ByteArray := prog_9_method_21_code
def yM_posted : MethodName := ⟨"PostIndexModel", "posted", "(III)Z"⟩
def fM_posted (d : Nat) : zF := (cM_posted, 5, yM_posted, (some .boolean), d, 0, 0)
theorem meM_posted (d : Nat) : zMe (fM_posted d) 3 := ⟨(zA3 (i := 187) rfl rfl), (zA1 (i := 8) rfl rfl), by show "PostIndexModel" ≠ _; decide +kernel, by show "PostIndexModel" ≠ _; decide +kernel, by show (parseMethodDescriptor "(III)Z").map _ = _; decide +kernel⟩
theorem dM_posted_0 : decode cM_posted 0 = .ok (.iload_n 2, 1) := by decide +kernel
theorem dM_posted_1 : decode cM_posted 1 = .ok (.istore 4, 2) := by decide +kernel
theorem dM_posted_3 : decode cM_posted 3 = .ok (.iload 4, 2) := by decide +kernel
theorem dM_posted_5 : decode cM_posted 5 = .ok (.aload_n 0, 1) := by decide +kernel
theorem dM_posted_6 : decode cM_posted 6 = .ok (.iload_n 1, 1) := by decide +kernel
theorem dM_posted_7 : decode cM_posted 7 = .ok (.invokevirtual 111, 3) := by decide +kernel
theorem dM_posted_10 : decode cM_posted 10 = .ok (.if_icmp .ge 38, 3) := by decide +kernel
theorem dM_posted_13 : decode cM_posted 13 = .ok (.iload 4, 2) := by decide +kernel
theorem dM_posted_15 : decode cM_posted 15 = .ok (.iload_n 2, 1) := by decide +kernel
theorem dM_posted_16 : decode cM_posted 16 = .ok (.if_icmp .eq 9, 3) := by decide +kernel
theorem dM_posted_19 : decode cM_posted 19 = .ok (.iload_n 2, 1) := by decide +kernel
theorem dM_posted_20 : decode cM_posted 20 = .ok (.bipush 7, 2) := by decide +kernel
theorem dM_posted_22 : decode cM_posted 22 = .ok (.if_icmp .ne 26, 3) := by decide +kernel
theorem dM_posted_25 : decode cM_posted 25 = .ok (.aload_n 0, 1) := by decide +kernel
theorem dM_posted_26 : decode cM_posted 26 = .ok (.bipush 12, 2) := by decide +kernel
theorem dM_posted_28 : decode cM_posted 28 = .ok (.iload_n 1, 1) := by decide +kernel
theorem dM_posted_29 : decode cM_posted 29 = .ok (.imul, 1) := by decide +kernel
theorem dM_posted_30 : decode cM_posted 30 = .ok (.iload 4, 2) := by decide +kernel
theorem dM_posted_32 : decode cM_posted 32 = .ok (.iadd, 1) := by decide +kernel
theorem dM_posted_33 : decode cM_posted 33 = .ok (.iload_n 3, 1) := by decide +kernel
theorem dM_posted_34 : decode cM_posted 34 = .ok (.invokevirtual 114, 3) := by decide +kernel
theorem dM_posted_37 : decode cM_posted 37 = .ok (.ifCond .eq 5, 3) := by decide +kernel
theorem dM_posted_40 : decode cM_posted 40 = .ok (.iconst 1, 1) := by decide +kernel
theorem dM_posted_41 : decode cM_posted 41 = .ok (.ireturn, 1) := by decide +kernel
theorem dM_posted_42 : decode cM_posted 42 = .ok (.iinc 4 1, 3) := by decide +kernel
theorem dM_posted_45 : decode cM_posted 45 = .ok (.goto (-42), 3) := by decide +kernel
theorem dM_posted_48 : decode cM_posted 48 = .ok (.iconst 0, 1) := by decide +kernel
theorem dM_posted_49 : decode cM_posted 49 = .ok (.ireturn, 1) := by decide +kernel
abbrev cM_measure : ByteArray := prog_9_method_22_code
def yM_measure : MethodName := ⟨"PostIndexModel", "measure", "(III)I"⟩
def fM_measure (d : Nat) : zF := (cM_measure, 10, yM_measure, (some .int), d, 0, 0)
theorem meM_measure (d : Nat) : zMe (fM_measure d) 3 := ⟨(zA3 (i := 183) rfl rfl), (zA1 (i := 8) rfl rfl), by show "PostIndexModel" ≠ _; decide +kernel, by show "PostIndexModel" ≠ _; decide +kernel, by show (parseMethodDescriptor "(III)I").map _ = _; decide +kernel⟩
theorem dM_measure_0 : decode cM_measure 0 = .ok (.iconst 0, 1) := by decide +kernel
theorem dM_measure_1 : decode cM_measure 1 = .ok (.istore 4, 2) := by decide +kernel
theorem dM_measure_3 : decode cM_measure 3 = .ok (.bipush 32, 2) := by decide +kernel
theorem dM_measure_5 : decode cM_measure 5 = .ok (.istore 5, 2) := by decide +kernel
theorem dM_measure_7 : decode cM_measure 7 = .ok (.iconst 0, 1) := by decide +kernel
theorem dM_measure_8 : decode cM_measure 8 = .ok (.istore 6, 2) := by decide +kernel
theorem dM_measure_10 : decode cM_measure 10 = .ok (.bipush 31, 2) := by decide +kernel
theorem dM_measure_12 : decode cM_measure 12 = .ok (.istore 7, 2) := by decide +kernel
theorem dM_measure_14 : decode cM_measure 14 = .ok (.iload 7, 2) := by decide +kernel
theorem dM_measure_16 : decode cM_measure 16 = .ok (.ifCond .lt 72, 3) := by decide +kernel
theorem dM_measure_19 : decode cM_measure 19 = .ok (.aload_n 0, 1) := by decide +kernel
theorem dM_measure_20 : decode cM_measure 20 = .ok (.iconst 4, 1) := by decide +kernel
theorem dM_measure_21 : decode cM_measure 21 = .ok (.iload_n 1, 1) := by decide +kernel
theorem dM_measure_22 : decode cM_measure 22 = .ok (.imul, 1) := by decide +kernel
theorem dM_measure_23 : decode cM_measure 23 = .ok (.iload 7, 2) := by decide +kernel
theorem dM_measure_25 : decode cM_measure 25 = .ok (.bipush 8, 2) := by decide +kernel
theorem dM_measure_27 : decode cM_measure 27 = .ok (.idiv, 1) := by decide +kernel
theorem dM_measure_28 : decode cM_measure 28 = .ok (.iadd, 1) := by decide +kernel
theorem dM_measure_29 : decode cM_measure 29 = .ok (.iload 7, 2) := by decide +kernel
theorem dM_measure_31 : decode cM_measure 31 = .ok (.bipush 8, 2) := by decide +kernel
theorem dM_measure_33 : decode cM_measure 33 = .ok (.irem, 1) := by decide +kernel
theorem dM_measure_34 : decode cM_measure 34 = .ok (.iload_n 2, 1) := by decide +kernel
theorem dM_measure_35 : decode cM_measure 35 = .ok (.invokevirtual 118, 3) := by decide +kernel
theorem dM_measure_38 : decode cM_measure 38 = .ok (.ifCond .eq 44, 3) := by decide +kernel
theorem dM_measure_41 : decode cM_measure 41 = .ok (.iinc 4 1, 3) := by decide +kernel
theorem dM_measure_44 : decode cM_measure 44 = .ok (.iload 5, 2) := by decide +kernel
theorem dM_measure_46 : decode cM_measure 46 = .ok (.iload 7, 2) := by decide +kernel
theorem dM_measure_48 : decode cM_measure 48 = .ok (.isub, 1) := by decide +kernel
theorem dM_measure_49 : decode cM_measure 49 = .ok (.istore 8, 2) := by decide +kernel
theorem dM_measure_51 : decode cM_measure 51 = .ok (.iload 6, 2) := by decide +kernel
theorem dM_measure_53 : decode cM_measure 53 = .ok (.iload 8, 2) := by decide +kernel
theorem dM_measure_55 : decode cM_measure 55 = .ok (.iconst 4, 1) := by decide +kernel
theorem dM_measure_56 : decode cM_measure 56 = .ok (.if_icmp .ge 7, 3) := by decide +kernel
theorem dM_measure_59 : decode cM_measure 59 = .ok (.iconst 1, 1) := by decide +kernel
theorem dM_measure_60 : decode cM_measure 60 = .ok (.goto 15, 3) := by decide +kernel
theorem dM_measure_63 : decode cM_measure 63 = .ok (.iload 8, 2) := by decide +kernel
theorem dM_measure_65 : decode cM_measure 65 = .ok (.bipush 16, 2) := by decide +kernel
theorem dM_measure_67 : decode cM_measure 67 = .ok (.if_icmp .ge 7, 3) := by decide +kernel
theorem dM_measure_70 : decode cM_measure 70 = .ok (.iconst 2, 1) := by decide +kernel
theorem dM_measure_71 : decode cM_measure 71 = .ok (.goto 4, 3) := by decide +kernel
theorem dM_measure_74 : decode cM_measure 74 = .ok (.iconst 3, 1) := by decide +kernel
theorem dM_measure_75 : decode cM_measure 75 = .ok (.iadd, 1) := by decide +kernel
theorem dM_measure_76 : decode cM_measure 76 = .ok (.istore 6, 2) := by decide +kernel
theorem dM_measure_78 : decode cM_measure 78 = .ok (.iload 7, 2) := by decide +kernel
theorem dM_measure_80 : decode cM_measure 80 = .ok (.istore 5, 2) := by decide +kernel
theorem dM_measure_82 : decode cM_measure 82 = .ok (.iinc 7 (-1), 3) := by decide +kernel
theorem dM_measure_85 : decode cM_measure 85 = .ok (.goto (-71), 3) := by decide +kernel
theorem dM_measure_88 : decode cM_measure 88 = .ok (.iload_n 3, 1) := by decide +kernel
theorem dM_measure_89 : decode cM_measure 89 = .ok (.iconst 1, 1) := by decide +kernel
theorem dM_measure_90 : decode cM_measure 90 = .ok (.if_icmp .eq 15, 3) := by decide +kernel
theorem dM_measure_93 : decode cM_measure 93 = .ok (.iload_n 3, 1) := by decide +kernel
theorem dM_measure_94 : decode cM_measure 94 = .ok (.ifCond .ne 8, 3) := by decide +kernel
theorem dM_measure_97 : decode cM_measure 97 = .ok (.iload 4, 2) := by decide +kernel
theorem dM_measure_99 : decode cM_measure 99 = .ok (.goto 5, 3) := by decide +kernel
theorem dM_measure_102 : decode cM_measure 102 = .ok (.iload 6, 2) := by decide +kernel
theorem dM_measure_104 : decode cM_measure 104 = .ok (.ireturn, 1) := by decide +kernel
theorem dM_measure_105 : decode cM_measure 105 = .ok (.iconst 2, 1) := by decide +kernel
theorem dM_measure_106 : decode cM_measure 106 = .ok (.istore 7, 2) := by decide +kernel
theorem dM_measure_108 : decode cM_measure 108 = .ok (.iconst 2, 1) := by decide +kernel
theorem dM_measure_109 : decode cM_measure 109 = .ok (.istore 8, 2) := by decide +kernel
theorem dM_measure_111 : decode cM_measure 111 = .ok (.iconst 2, 1) := by decide +kernel
theorem dM_measure_112 : decode cM_measure 112 = .ok (.istore 9, 2) := by decide +kernel
theorem dM_measure_114 : decode cM_measure 114 = .ok (.iload 9, 2) := by decide +kernel
theorem dM_measure_116 : decode cM_measure 116 = .ok (.iload 4, 2) := by decide +kernel
theorem dM_measure_118 : decode cM_measure 118 = .ok (.if_icmp .ge 40, 3) := by decide +kernel
theorem dM_measure_121 : decode cM_measure 121 = .ok (.iload 8, 2) := by decide +kernel
theorem dM_measure_123 : decode cM_measure 123 = .ok (.bipush 8, 2) := by decide +kernel
theorem dM_measure_125 : decode cM_measure 125 = .ok (.if_icmp .ge 10, 3) := by decide +kernel
theorem dM_measure_128 : decode cM_measure 128 = .ok (.iconst 2, 1) := by decide +kernel
theorem dM_measure_129 : decode cM_measure 129 = .ok (.iload 8, 2) := by decide +kernel
theorem dM_measure_131 : decode cM_measure 131 = .ok (.imul, 1) := by decide +kernel
theorem dM_measure_132 : decode cM_measure 132 = .ok (.goto 5, 3) := by decide +kernel
theorem dM_measure_135 : decode cM_measure 135 = .ok (.bipush 8, 2) := by decide +kernel
theorem dM_measure_137 : decode cM_measure 137 = .ok (.istore 8, 2) := by decide +kernel
theorem dM_measure_139 : decode cM_measure 139 = .ok (.iload 7, 2) := by decide +kernel
theorem dM_measure_141 : decode cM_measure 141 = .ok (.iload 8, 2) := by decide +kernel
theorem dM_measure_143 : decode cM_measure 143 = .ok (.iadd, 1) := by decide +kernel
theorem dM_measure_144 : decode cM_measure 144 = .ok (.istore 7, 2) := by decide +kernel
theorem dM_measure_146 : decode cM_measure 146 = .ok (.iload 9, 2) := by decide +kernel
theorem dM_measure_148 : decode cM_measure 148 = .ok (.iload 8, 2) := by decide +kernel
theorem dM_measure_150 : decode cM_measure 150 = .ok (.iadd, 1) := by decide +kernel
theorem dM_measure_151 : decode cM_measure 151 = .ok (.iconst 1, 1) := by decide +kernel
theorem dM_measure_152 : decode cM_measure 152 = .ok (.isub, 1) := by decide +kernel
theorem dM_measure_153 : decode cM_measure 153 = .ok (.istore 9, 2) := by decide +kernel
theorem dM_measure_155 : decode cM_measure 155 = .ok (.goto (-41), 3) := by decide +kernel
theorem dM_measure_158 : decode cM_measure 158 = .ok (.iload 7, 2) := by decide +kernel
theorem dM_measure_160 : decode cM_measure 160 = .ok (.ireturn, 1) := by decide +kernel
abbrev cM_sum : ByteArray := prog_9_method_23_code
def yM_sum : MethodName := ⟨"PostIndexModel", "sum", "(II)I"⟩
def fM_sum (d : Nat) : zF := (cM_sum, 7, yM_sum, (some .int), d, 0, 0)
theorem meM_sum (d : Nat) : zMe (fM_sum d) 2 := ⟨(zA3 (i := 164) rfl rfl), (zA1 (i := 8) rfl rfl), by show "PostIndexModel" ≠ _; decide +kernel, by show "PostIndexModel" ≠ _; decide +kernel, by show (parseMethodDescriptor "(II)I").map _ = _; decide +kernel⟩
theorem dM_sum_0 : decode cM_sum 0 = .ok (.iconst 0, 1) := by decide +kernel
theorem dM_sum_1 : decode cM_sum 1 = .ok (.istore_n 3, 1) := by decide +kernel
theorem dM_sum_2 : decode cM_sum 2 = .ok (.iconst 4, 1) := by decide +kernel
theorem dM_sum_3 : decode cM_sum 3 = .ok (.iload_n 1, 1) := by decide +kernel
theorem dM_sum_4 : decode cM_sum 4 = .ok (.imul, 1) := by decide +kernel
theorem dM_sum_5 : decode cM_sum 5 = .ok (.istore 4, 2) := by decide +kernel
theorem dM_sum_7 : decode cM_sum 7 = .ok (.iload 4, 2) := by decide +kernel
theorem dM_sum_9 : decode cM_sum 9 = .ok (.iconst 4, 1) := by decide +kernel
theorem dM_sum_10 : decode cM_sum 10 = .ok (.iload_n 1, 1) := by decide +kernel
theorem dM_sum_11 : decode cM_sum 11 = .ok (.imul, 1) := by decide +kernel
theorem dM_sum_12 : decode cM_sum 12 = .ok (.iconst 4, 1) := by decide +kernel
theorem dM_sum_13 : decode cM_sum 13 = .ok (.iadd, 1) := by decide +kernel
theorem dM_sum_14 : decode cM_sum 14 = .ok (.if_icmp .ge 70, 3) := by decide +kernel
theorem dM_sum_17 : decode cM_sum 17 = .ok (.aload_n 0, 1) := by decide +kernel
theorem dM_sum_18 : decode cM_sum 18 = .ok (.iload 4, 2) := by decide +kernel
theorem dM_sum_20 : decode cM_sum 20 = .ok (.invokevirtual 111, 3) := by decide +kernel
theorem dM_sum_23 : decode cM_sum 23 = .ok (.istore 5, 2) := by decide +kernel
theorem dM_sum_25 : decode cM_sum 25 = .ok (.iconst 0, 1) := by decide +kernel
theorem dM_sum_26 : decode cM_sum 26 = .ok (.istore 6, 2) := by decide +kernel
theorem dM_sum_28 : decode cM_sum 28 = .ok (.iload 6, 2) := by decide +kernel
theorem dM_sum_30 : decode cM_sum 30 = .ok (.iload 5, 2) := by decide +kernel
theorem dM_sum_32 : decode cM_sum 32 = .ok (.if_icmp .ge 46, 3) := by decide +kernel
theorem dM_sum_35 : decode cM_sum 35 = .ok (.aload_n 0, 1) := by decide +kernel
theorem dM_sum_36 : decode cM_sum 36 = .ok (.iload 4, 2) := by decide +kernel
theorem dM_sum_38 : decode cM_sum 38 = .ok (.iload 6, 2) := by decide +kernel
theorem dM_sum_40 : decode cM_sum 40 = .ok (.invokevirtual 122, 3) := by decide +kernel
theorem dM_sum_43 : decode cM_sum 43 = .ok (.ifCond .eq 29, 3) := by decide +kernel
theorem dM_sum_46 : decode cM_sum 46 = .ok (.iload_n 3, 1) := by decide +kernel
theorem dM_sum_47 : decode cM_sum 47 = .ok (.iload_n 2, 1) := by decide +kernel
theorem dM_sum_48 : decode cM_sum 48 = .ok (.iconst 3, 1) := by decide +kernel
theorem dM_sum_49 : decode cM_sum 49 = .ok (.if_icmp .ne 7, 3) := by decide +kernel
theorem dM_sum_52 : decode cM_sum 52 = .ok (.iconst 1, 1) := by decide +kernel
theorem dM_sum_53 : decode cM_sum 53 = .ok (.goto 17, 3) := by decide +kernel
theorem dM_sum_56 : decode cM_sum 56 = .ok (.aload_n 0, 1) := by decide +kernel
theorem dM_sum_57 : decode cM_sum 57 = .ok (.iload_n 1, 1) := by decide +kernel
theorem dM_sum_58 : decode cM_sum 58 = .ok (.bipush 12, 2) := by decide +kernel
theorem dM_sum_60 : decode cM_sum 60 = .ok (.iload 4, 2) := by decide +kernel
theorem dM_sum_62 : decode cM_sum 62 = .ok (.imul, 1) := by decide +kernel
theorem dM_sum_63 : decode cM_sum 63 = .ok (.iload 6, 2) := by decide +kernel
theorem dM_sum_65 : decode cM_sum 65 = .ok (.iadd, 1) := by decide +kernel
theorem dM_sum_66 : decode cM_sum 66 = .ok (.iload_n 2, 1) := by decide +kernel
theorem dM_sum_67 : decode cM_sum 67 = .ok (.invokevirtual 125, 3) := by decide +kernel
theorem dM_sum_70 : decode cM_sum 70 = .ok (.iadd, 1) := by decide +kernel
theorem dM_sum_71 : decode cM_sum 71 = .ok (.istore_n 3, 1) := by decide +kernel
theorem dM_sum_72 : decode cM_sum 72 = .ok (.iinc 6 1, 3) := by decide +kernel
theorem dM_sum_75 : decode cM_sum 75 = .ok (.goto (-47), 3) := by decide +kernel
theorem dM_sum_78 : decode cM_sum 78 = .ok (.iinc 4 1, 3) := by decide +kernel
theorem dM_sum_81 : decode cM_sum 81 = .ok (.goto (-74), 3) := by decide +kernel
theorem dM_sum_84 : decode cM_sum 84 = .ok (.iload_n 3, 1) := by decide +kernel
theorem dM_sum_85 : decode cM_sum 85 = .ok (.ireturn, 1) := by decide +kernel
abbrev cM_pack : ByteArray := prog_9_method_24_code
def yM_pack : MethodName := ⟨"PostIndexModel", "pack", "(I)I"⟩
def fM_pack (d : Nat) : zF := (cM_pack, 4, yM_pack, (some .int), d, 0, 0)
theorem meM_pack (d : Nat) : zMe (fM_pack d) 1 := ⟨(zA3 (i := 156) rfl rfl), (zA1 (i := 8) rfl rfl), by show "PostIndexModel" ≠ _; decide +kernel, by show "PostIndexModel" ≠ _; decide +kernel, by show (parseMethodDescriptor "(I)I").map _ = _; decide +kernel⟩
theorem dM_pack_0 : decode cM_pack 0 = .ok (.iload_n 1, 1) := by decide +kernel
theorem dM_pack_1 : decode cM_pack 1 = .ok (.iconst 1, 1) := by decide +kernel
theorem dM_pack_2 : decode cM_pack 2 = .ok (.if_icmp .lt 9, 3) := by decide +kernel
theorem dM_pack_5 : decode cM_pack 5 = .ok (.iload_n 1, 1) := by decide +kernel
theorem dM_pack_6 : decode cM_pack 6 = .ok (.bipush 6, 2) := by decide +kernel
theorem dM_pack_8 : decode cM_pack 8 = .ok (.if_icmp .le 5, 3) := by decide +kernel
theorem dM_pack_11 : decode cM_pack 11 = .ok (.iconst 0, 1) := by decide +kernel
theorem dM_pack_12 : decode cM_pack 12 = .ok (.ireturn, 1) := by decide +kernel
theorem dM_pack_13 : decode cM_pack 13 = .ok (.iconst 0, 1) := by decide +kernel
theorem dM_pack_14 : decode cM_pack 14 = .ok (.istore_n 2, 1) := by decide +kernel
theorem dM_pack_15 : decode cM_pack 15 = .ok (.iload_n 2, 1) := by decide +kernel
theorem dM_pack_16 : decode cM_pack 16 = .ok (.iload_n 1, 1) := by decide +kernel
theorem dM_pack_17 : decode cM_pack 17 = .ok (.if_icmp .ge 91, 3) := by decide +kernel
theorem dM_pack_20 : decode cM_pack 20 = .ok (.iconst 0, 1) := by decide +kernel
theorem dM_pack_21 : decode cM_pack 21 = .ok (.istore_n 3, 1) := by decide +kernel
theorem dM_pack_22 : decode cM_pack 22 = .ok (.iload_n 3, 1) := by decide +kernel
theorem dM_pack_23 : decode cM_pack 23 = .ok (.bipush 6, 2) := by decide +kernel
theorem dM_pack_25 : decode cM_pack 25 = .ok (.if_icmp .ge 34, 3) := by decide +kernel
theorem dM_pack_28 : decode cM_pack 28 = .ok (.aload_n 0, 1) := by decide +kernel
theorem dM_pack_29 : decode cM_pack 29 = .ok (.iload_n 3, 1) := by decide +kernel
theorem dM_pack_30 : decode cM_pack 30 = .ok (.invokevirtual 129, 3) := by decide +kernel
theorem dM_pack_33 : decode cM_pack 33 = .ok (.ifCond .eq 20, 3) := by decide +kernel
theorem dM_pack_36 : decode cM_pack 36 = .ok (.aload_n 0, 1) := by decide +kernel
theorem dM_pack_37 : decode cM_pack 37 = .ok (.iload_n 3, 1) := by decide +kernel
theorem dM_pack_38 : decode cM_pack 38 = .ok (.invokevirtual 85, 3) := by decide +kernel
theorem dM_pack_41 : decode cM_pack 41 = .ok (.ifCond .eq 12, 3) := by decide +kernel
theorem dM_pack_44 : decode cM_pack 44 = .ok (.aload_n 0, 1) := by decide +kernel
theorem dM_pack_45 : decode cM_pack 45 = .ok (.getfield 41, 3) := by decide +kernel
theorem dM_pack_48 : decode cM_pack 48 = .ok (.iload_n 3, 1) := by decide +kernel
theorem dM_pack_49 : decode cM_pack 49 = .ok (.baload, 1) := by decide +kernel
theorem dM_pack_50 : decode cM_pack 50 = .ok (.ifCond .eq 9, 3) := by decide +kernel
theorem dM_pack_53 : decode cM_pack 53 = .ok (.iinc 3 1, 3) := by decide +kernel
theorem dM_pack_56 : decode cM_pack 56 = .ok (.goto (-34), 3) := by decide +kernel
theorem dM_pack_59 : decode cM_pack 59 = .ok (.iload_n 3, 1) := by decide +kernel
theorem dM_pack_60 : decode cM_pack 60 = .ok (.bipush 6, 2) := by decide +kernel
theorem dM_pack_62 : decode cM_pack 62 = .ok (.if_icmp .ne 5, 3) := by decide +kernel
theorem dM_pack_65 : decode cM_pack 65 = .ok (.iload_n 2, 1) := by decide +kernel
theorem dM_pack_66 : decode cM_pack 66 = .ok (.ireturn, 1) := by decide +kernel
theorem dM_pack_67 : decode cM_pack 67 = .ok (.aload_n 0, 1) := by decide +kernel
theorem dM_pack_68 : decode cM_pack 68 = .ok (.getfield 38, 3) := by decide +kernel
theorem dM_pack_71 : decode cM_pack 71 = .ok (.iload_n 3, 1) := by decide +kernel
theorem dM_pack_72 : decode cM_pack 72 = .ok (.iaload, 1) := by decide +kernel
theorem dM_pack_73 : decode cM_pack 73 = .ok (.aload_n 0, 1) := by decide +kernel
theorem dM_pack_74 : decode cM_pack 74 = .ok (.iload_n 3, 1) := by decide +kernel
theorem dM_pack_75 : decode cM_pack 75 = .ok (.iconst 3, 1) := by decide +kernel
theorem dM_pack_76 : decode cM_pack 76 = .ok (.invokevirtual 132, 3) := by decide +kernel
theorem dM_pack_79 : decode cM_pack 79 = .ok (.if_icmp .ge 16, 3) := by decide +kernel
theorem dM_pack_82 : decode cM_pack 82 = .ok (.aload_n 0, 1) := by decide +kernel
theorem dM_pack_83 : decode cM_pack 83 = .ok (.getfield 38, 3) := by decide +kernel
theorem dM_pack_86 : decode cM_pack 86 = .ok (.iload_n 3, 1) := by decide +kernel
theorem dM_pack_87 : decode cM_pack 87 = .ok (.dup2, 1) := by decide +kernel
theorem dM_pack_88 : decode cM_pack 88 = .ok (.iaload, 1) := by decide +kernel
theorem dM_pack_89 : decode cM_pack 89 = .ok (.iconst 1, 1) := by decide +kernel
theorem dM_pack_90 : decode cM_pack 90 = .ok (.iadd, 1) := by decide +kernel
theorem dM_pack_91 : decode cM_pack 91 = .ok (.iastore, 1) := by decide +kernel
theorem dM_pack_92 : decode cM_pack 92 = .ok (.goto 10, 3) := by decide +kernel
theorem dM_pack_95 : decode cM_pack 95 = .ok (.aload_n 0, 1) := by decide +kernel
theorem dM_pack_96 : decode cM_pack 96 = .ok (.getfield 41, 3) := by decide +kernel
theorem dM_pack_99 : decode cM_pack 99 = .ok (.iload_n 3, 1) := by decide +kernel
theorem dM_pack_100 : decode cM_pack 100 = .ok (.iconst 1, 1) := by decide +kernel
theorem dM_pack_101 : decode cM_pack 101 = .ok (.bastore, 1) := by decide +kernel
theorem dM_pack_102 : decode cM_pack 102 = .ok (.iinc 2 1, 3) := by decide +kernel
theorem dM_pack_105 : decode cM_pack 105 = .ok (.goto (-90), 3) := by decide +kernel
theorem dM_pack_108 : decode cM_pack 108 = .ok (.iload_n 1, 1) := by decide +kernel
theorem dM_pack_109 : decode cM_pack 109 = .ok (.ireturn, 1) := by decide +kernel
abbrev cM_at : ByteArray := prog_9_method_25_code
def yM_at : MethodName := ⟨"PostIndexModel", "at", "(II)I"⟩
def fM_at (d : Nat) : zF := (cM_at, 3, yM_at, (some .int), d, 0, 0)
theorem meM_at (d : Nat) : zMe (fM_at d) 2 := ⟨(zA3 (i := 211) rfl rfl), (zA1 (i := 8) rfl rfl), by show "PostIndexModel" ≠ _; decide +kernel, by show "PostIndexModel" ≠ _; decide +kernel, by show (parseMethodDescriptor "(II)I").map _ = _; decide +kernel⟩
theorem dM_at_0 : decode cM_at 0 = .ok (.iload_n 2, 1) := by decide +kernel
theorem dM_at_1 : decode cM_at 1 = .ok (.aload_n 0, 1) := by decide +kernel
theorem dM_at_2 : decode cM_at 2 = .ok (.getfield 50, 3) := by decide +kernel
theorem dM_at_5 : decode cM_at 5 = .ok (.iload_n 1, 1) := by decide +kernel
theorem dM_at_6 : decode cM_at 6 = .ok (.iaload, 1) := by decide +kernel
theorem dM_at_7 : decode cM_at 7 = .ok (.if_icmp .ge 17, 3) := by decide +kernel
theorem dM_at_10 : decode cM_at 10 = .ok (.aload_n 0, 1) := by decide +kernel
theorem dM_at_11 : decode cM_at 11 = .ok (.getfield 53, 3) := by decide +kernel
theorem dM_at_14 : decode cM_at 14 = .ok (.bipush 24, 2) := by decide +kernel
theorem dM_at_16 : decode cM_at 16 = .ok (.iload_n 1, 1) := by decide +kernel
theorem dM_at_17 : decode cM_at 17 = .ok (.imul, 1) := by decide +kernel
theorem dM_at_18 : decode cM_at 18 = .ok (.iload_n 2, 1) := by decide +kernel
theorem dM_at_19 : decode cM_at 19 = .ok (.iadd, 1) := by decide +kernel
theorem dM_at_20 : decode cM_at 20 = .ok (.iaload, 1) := by decide +kernel
theorem dM_at_21 : decode cM_at 21 = .ok (.goto 5, 3) := by decide +kernel
theorem dM_at_24 : decode cM_at 24 = .ok (.bipush 32, 2) := by decide +kernel
theorem dM_at_26 : decode cM_at 26 = .ok (.ireturn, 1) := by decide +kernel
abbrev cM_read : ByteArray := prog_9_method_26_code
def yM_read : MethodName := ⟨"PostIndexModel", "read", "(I)V"⟩
def fM_read (d : Nat) : zF := (cM_read, 6, yM_read, none, d, 0, 0)
theorem meM_read (d : Nat) : zMe (fM_read d) 1 := ⟨(zA3 (i := 207) rfl rfl), (zA1 (i := 8) rfl rfl), by show "PostIndexModel" ≠ _; decide +kernel, by show "PostIndexModel" ≠ _; decide +kernel, by show (parseMethodDescriptor "(I)V").map _ = _; decide +kernel⟩
theorem dM_read_0 : decode cM_read 0 = .ok (.aload_n 0, 1) := by decide +kernel
theorem dM_read_1 : decode cM_read 1 = .ok (.getfield 136, 3) := by decide +kernel
theorem flM_136 : zFld "PostIndexModel" 136 7 22 31 := ⟨RM, TM, rfl, by decide, inM, (zA3 (i := 26) rfl rfl)⟩
theorem dM_read_4 : decode cM_read 4 = .ok (.istore_n 2, 1) := by decide +kernel
theorem dM_read_5 : decode cM_read 5 = .ok (.iload_n 2, 1) := by decide +kernel
theorem dM_read_6 : decode cM_read 6 = .ok (.aload_n 0, 1) := by decide +kernel
theorem dM_read_7 : decode cM_read 7 = .ok (.getfield 50, 3) := by decide +kernel
theorem dM_read_10 : decode cM_read 10 = .ok (.iload_n 1, 1) := by decide +kernel
theorem dM_read_11 : decode cM_read 11 = .ok (.iaload, 1) := by decide +kernel
theorem dM_read_12 : decode cM_read 12 = .ok (.if_icmp .ge 20, 3) := by decide +kernel
theorem dM_read_15 : decode cM_read 15 = .ok (.aload_n 0, 1) := by decide +kernel
theorem dM_read_16 : decode cM_read 16 = .ok (.iload_n 1, 1) := by decide +kernel
theorem dM_read_17 : decode cM_read 17 = .ok (.iload_n 2, 1) := by decide +kernel
theorem dM_read_18 : decode cM_read 18 = .ok (.invokevirtual 139, 3) := by decide +kernel
theorem dM_read_21 : decode cM_read 21 = .ok (.bipush 32, 2) := by decide +kernel
theorem dM_read_23 : decode cM_read 23 = .ok (.if_icmp .ne 9, 3) := by decide +kernel
theorem dM_read_26 : decode cM_read 26 = .ok (.iinc 2 1, 3) := by decide +kernel
theorem dM_read_29 : decode cM_read 29 = .ok (.goto (-24), 3) := by decide +kernel
theorem dM_read_32 : decode cM_read 32 = .ok (.aload_n 0, 1) := by decide +kernel
theorem dM_read_33 : decode cM_read 33 = .ok (.iload_n 2, 1) := by decide +kernel
theorem dM_read_34 : decode cM_read 34 = .ok (.putfield 142, 3) := by decide +kernel
theorem flM_142 : zFld "PostIndexModel" 142 7 21 31 := ⟨RM, TM, rfl, by decide, inM, (zA3 (i := 25) rfl rfl)⟩
theorem dM_read_37 : decode cM_read 37 = .ok (.aload_n 0, 1) := by decide +kernel
theorem dM_read_38 : decode cM_read 38 = .ok (.iload_n 2, 1) := by decide +kernel
theorem dM_read_39 : decode cM_read 39 = .ok (.iconst 1, 1) := by decide +kernel
theorem dM_read_40 : decode cM_read 40 = .ok (.iadd, 1) := by decide +kernel
theorem dM_read_41 : decode cM_read 41 = .ok (.putfield 136, 3) := by decide +kernel
theorem dM_read_44 : decode cM_read 44 = .ok (.aload_n 0, 1) := by decide +kernel
theorem dM_read_45 : decode cM_read 45 = .ok (.iload_n 1, 1) := by decide +kernel
theorem dM_read_46 : decode cM_read 46 = .ok (.iload_n 2, 1) := by decide +kernel
theorem dM_read_47 : decode cM_read 47 = .ok (.invokevirtual 139, 3) := by decide +kernel
theorem dM_read_50 : decode cM_read 50 = .ok (.istore_n 3, 1) := by decide +kernel
theorem dM_read_51 : decode cM_read 51 = .ok (.iload_n 3, 1) := by decide +kernel
theorem dM_read_52 : decode cM_read 52 = .ok (.bipush 35, 2) := by decide +kernel
theorem dM_read_54 : decode cM_read 54 = .ok (.if_icmp .eq 9, 3) := by decide +kernel
theorem dM_read_57 : decode cM_read 57 = .ok (.iload_n 3, 1) := by decide +kernel
theorem dM_read_58 : decode cM_read 58 = .ok (.bipush 64, 2) := by decide +kernel
theorem dM_read_60 : decode cM_read 60 = .ok (.if_icmp .ne 7, 3) := by decide +kernel
theorem dM_read_63 : decode cM_read 63 = .ok (.iconst 1, 1) := by decide +kernel
theorem dM_read_64 : decode cM_read 64 = .ok (.goto 4, 3) := by decide +kernel
theorem dM_read_67 : decode cM_read 67 = .ok (.iconst 0, 1) := by decide +kernel
theorem dM_read_68 : decode cM_read 68 = .ok (.istore 4, 2) := by decide +kernel
theorem dM_read_70 : decode cM_read 70 = .ok (.iload_n 3, 1) := by decide +kernel
theorem dM_read_71 : decode cM_read 71 = .ok (.bipush 61, 2) := by decide +kernel
theorem dM_read_73 : decode cM_read 73 = .ok (.if_icmp .eq 15, 3) := by decide +kernel
theorem dM_read_76 : decode cM_read 76 = .ok (.iload_n 3, 1) := by decide +kernel
theorem dM_read_77 : decode cM_read 77 = .ok (.bipush 60, 2) := by decide +kernel
theorem dM_read_79 : decode cM_read 79 = .ok (.if_icmp .eq 9, 3) := by decide +kernel
theorem dM_read_82 : decode cM_read 82 = .ok (.iload_n 3, 1) := by decide +kernel
theorem dM_read_83 : decode cM_read 83 = .ok (.bipush 62, 2) := by decide +kernel
theorem dM_read_85 : decode cM_read 85 = .ok (.if_icmp .ne 7, 3) := by decide +kernel
theorem dM_read_88 : decode cM_read 88 = .ok (.iconst 1, 1) := by decide +kernel
theorem dM_read_89 : decode cM_read 89 = .ok (.goto 4, 3) := by decide +kernel
theorem dM_read_92 : decode cM_read 92 = .ok (.iconst 0, 1) := by decide +kernel
theorem dM_read_93 : decode cM_read 93 = .ok (.istore 5, 2) := by decide +kernel
theorem dM_read_95 : decode cM_read 95 = .ok (.iload_n 2, 1) := by decide +kernel
theorem dM_read_96 : decode cM_read 96 = .ok (.aload_n 0, 1) := by decide +kernel
theorem dM_read_97 : decode cM_read 97 = .ok (.getfield 50, 3) := by decide +kernel
theorem dM_read_100 : decode cM_read 100 = .ok (.iload_n 1, 1) := by decide +kernel
theorem dM_read_101 : decode cM_read 101 = .ok (.iaload, 1) := by decide +kernel
theorem dM_read_102 : decode cM_read 102 = .ok (.if_icmp .lt 11, 3) := by decide +kernel
theorem dM_read_105 : decode cM_read 105 = .ok (.aload_n 0, 1) := by decide +kernel
theorem dM_read_106 : decode cM_read 106 = .ok (.iconst 0, 1) := by decide +kernel
theorem dM_read_107 : decode cM_read 107 = .ok (.putfield 145, 3) := by decide +kernel
theorem flM_145 : zFld "PostIndexModel" 145 7 20 31 := ⟨RM, TM, rfl, by decide, inM, (zA3 (i := 24) rfl rfl)⟩
theorem dM_read_110 : decode cM_read 110 = .ok (.goto 175, 3) := by decide +kernel
theorem dM_read_113 : decode cM_read 113 = .ok (.iload_n 3, 1) := by decide +kernel
theorem dM_read_114 : decode cM_read 114 = .ok (.invokestatic 98, 3) := by decide +kernel
theorem dM_read_117 : decode cM_read 117 = .ok (.ifCond .ne 8, 3) := by decide +kernel
theorem dM_read_120 : decode cM_read 120 = .ok (.iload 4, 2) := by decide +kernel
theorem dM_read_122 : decode cM_read 122 = .ok (.ifCond .eq 58, 3) := by decide +kernel
theorem dM_read_125 : decode cM_read 125 = .ok (.aload_n 0, 1) := by decide +kernel
theorem dM_read_126 : decode cM_read 126 = .ok (.iload_n 1, 1) := by decide +kernel
theorem dM_read_127 : decode cM_read 127 = .ok (.aload_n 0, 1) := by decide +kernel
theorem dM_read_128 : decode cM_read 128 = .ok (.getfield 136, 3) := by decide +kernel
theorem dM_read_131 : decode cM_read 131 = .ok (.invokevirtual 139, 3) := by decide +kernel
theorem dM_read_134 : decode cM_read 134 = .ok (.invokestatic 98, 3) := by decide +kernel
theorem dM_read_137 : decode cM_read 137 = .ok (.ifCond .eq 16, 3) := by decide +kernel
theorem dM_read_140 : decode cM_read 140 = .ok (.aload_n 0, 1) := by decide +kernel
theorem dM_read_141 : decode cM_read 141 = .ok (.dup, 1) := by decide +kernel
theorem dM_read_142 : decode cM_read 142 = .ok (.getfield 136, 3) := by decide +kernel
theorem dM_read_145 : decode cM_read 145 = .ok (.iconst 1, 1) := by decide +kernel
theorem dM_read_146 : decode cM_read 146 = .ok (.iadd, 1) := by decide +kernel
theorem dM_read_147 : decode cM_read 147 = .ok (.putfield 136, 3) := by decide +kernel
theorem dM_read_150 : decode cM_read 150 = .ok (.goto (-25), 3) := by decide +kernel
theorem dM_read_153 : decode cM_read 153 = .ok (.aload_n 0, 1) := by decide +kernel
theorem dM_read_154 : decode cM_read 154 = .ok (.iload 4, 2) := by decide +kernel
theorem dM_read_156 : decode cM_read 156 = .ok (.ifCond .eq 17, 3) := by decide +kernel
theorem dM_read_159 : decode cM_read 159 = .ok (.aload_n 0, 1) := by decide +kernel
theorem dM_read_160 : decode cM_read 160 = .ok (.getfield 136, 3) := by decide +kernel
theorem dM_read_163 : decode cM_read 163 = .ok (.iload_n 2, 1) := by decide +kernel
theorem dM_read_164 : decode cM_read 164 = .ok (.iconst 1, 1) := by decide +kernel
theorem dM_read_165 : decode cM_read 165 = .ok (.iadd, 1) := by decide +kernel
theorem dM_read_166 : decode cM_read 166 = .ok (.if_icmp .ne 7, 3) := by decide +kernel
theorem dM_read_169 : decode cM_read 169 = .ok (.iconst (-1), 1) := by decide +kernel
theorem dM_read_170 : decode cM_read 170 = .ok (.goto 4, 3) := by decide +kernel
theorem dM_read_173 : decode cM_read 173 = .ok (.iconst 1, 1) := by decide +kernel
theorem dM_read_174 : decode cM_read 174 = .ok (.putfield 145, 3) := by decide +kernel
theorem dM_read_177 : decode cM_read 177 = .ok (.goto 108, 3) := by decide +kernel
theorem dM_read_180 : decode cM_read 180 = .ok (.iload 5, 2) := by decide +kernel
theorem dM_read_182 : decode cM_read 182 = .ok (.ifCond .eq 64, 3) := by decide +kernel
theorem dM_read_185 : decode cM_read 185 = .ok (.aload_n 0, 1) := by decide +kernel
theorem dM_read_186 : decode cM_read 186 = .ok (.iload_n 1, 1) := by decide +kernel
theorem dM_read_187 : decode cM_read 187 = .ok (.aload_n 0, 1) := by decide +kernel
theorem dM_read_188 : decode cM_read 188 = .ok (.getfield 136, 3) := by decide +kernel
theorem dM_read_191 : decode cM_read 191 = .ok (.invokevirtual 139, 3) := by decide +kernel
theorem dM_read_194 : decode cM_read 194 = .ok (.invokestatic 74, 3) := by decide +kernel
theorem dM_read_197 : decode cM_read 197 = .ok (.ifCond .eq 16, 3) := by decide +kernel
theorem dM_read_200 : decode cM_read 200 = .ok (.aload_n 0, 1) := by decide +kernel
theorem dM_read_201 : decode cM_read 201 = .ok (.dup, 1) := by decide +kernel
theorem dM_read_202 : decode cM_read 202 = .ok (.getfield 136, 3) := by decide +kernel
theorem dM_read_205 : decode cM_read 205 = .ok (.iconst 1, 1) := by decide +kernel
theorem dM_read_206 : decode cM_read 206 = .ok (.iadd, 1) := by decide +kernel
theorem dM_read_207 : decode cM_read 207 = .ok (.putfield 136, 3) := by decide +kernel
theorem dM_read_210 : decode cM_read 210 = .ok (.goto (-25), 3) := by decide +kernel
theorem dM_read_213 : decode cM_read 213 = .ok (.aload_n 0, 1) := by decide +kernel
theorem dM_read_214 : decode cM_read 214 = .ok (.aload_n 0, 1) := by decide +kernel
theorem dM_read_215 : decode cM_read 215 = .ok (.getfield 136, 3) := by decide +kernel
theorem dM_read_218 : decode cM_read 218 = .ok (.iload_n 2, 1) := by decide +kernel
theorem dM_read_219 : decode cM_read 219 = .ok (.iconst 1, 1) := by decide +kernel
theorem dM_read_220 : decode cM_read 220 = .ok (.iadd, 1) := by decide +kernel
theorem dM_read_221 : decode cM_read 221 = .ok (.if_icmp .eq 14, 3) := by decide +kernel
theorem dM_read_224 : decode cM_read 224 = .ok (.aload_n 0, 1) := by decide +kernel
theorem dM_read_225 : decode cM_read 225 = .ok (.getfield 136, 3) := by decide +kernel
theorem dM_read_228 : decode cM_read 228 = .ok (.iload_n 2, 1) := by decide +kernel
theorem dM_read_229 : decode cM_read 229 = .ok (.bipush 10, 2) := by decide +kernel
theorem dM_read_231 : decode cM_read 231 = .ok (.iadd, 1) := by decide +kernel
theorem dM_read_232 : decode cM_read 232 = .ok (.if_icmp .le 7, 3) := by decide +kernel
theorem dM_read_235 : decode cM_read 235 = .ok (.iconst (-1), 1) := by decide +kernel
theorem dM_read_236 : decode cM_read 236 = .ok (.goto 4, 3) := by decide +kernel
theorem dM_read_239 : decode cM_read 239 = .ok (.iconst 2, 1) := by decide +kernel
theorem dM_read_240 : decode cM_read 240 = .ok (.putfield 145, 3) := by decide +kernel
theorem dM_read_243 : decode cM_read 243 = .ok (.goto 42, 3) := by decide +kernel
theorem dM_read_246 : decode cM_read 246 = .ok (.aload_n 0, 1) := by decide +kernel
theorem dM_read_247 : decode cM_read 247 = .ok (.iload_n 3, 1) := by decide +kernel
theorem dM_read_248 : decode cM_read 248 = .ok (.bipush 124, 2) := by decide +kernel
theorem dM_read_250 : decode cM_read 250 = .ok (.if_icmp .eq 27, 3) := by decide +kernel
theorem dM_read_253 : decode cM_read 253 = .ok (.iload_n 3, 1) := by decide +kernel
theorem dM_read_254 : decode cM_read 254 = .ok (.bipush 45, 2) := by decide +kernel
theorem dM_read_256 : decode cM_read 256 = .ok (.if_icmp .eq 21, 3) := by decide +kernel
theorem dM_read_259 : decode cM_read 259 = .ok (.iload_n 3, 1) := by decide +kernel
theorem dM_read_260 : decode cM_read 260 = .ok (.bipush 34, 2) := by decide +kernel
theorem dM_read_262 : decode cM_read 262 = .ok (.if_icmp .eq 15, 3) := by decide +kernel
theorem dM_read_265 : decode cM_read 265 = .ok (.iload_n 3, 1) := by decide +kernel
theorem dM_read_266 : decode cM_read 266 = .ok (.bipush 40, 2) := by decide +kernel
theorem dM_read_268 : decode cM_read 268 = .ok (.if_icmp .eq 9, 3) := by decide +kernel
theorem dM_read_271 : decode cM_read 271 = .ok (.iload_n 3, 1) := by decide +kernel
theorem dM_read_272 : decode cM_read 272 = .ok (.bipush 41, 2) := by decide +kernel
theorem dM_read_274 : decode cM_read 274 = .ok (.if_icmp .ne 7, 3) := by decide +kernel
theorem dM_read_277 : decode cM_read 277 = .ok (.iload_n 3, 1) := by decide +kernel
theorem dM_read_278 : decode cM_read 278 = .ok (.goto 4, 3) := by decide +kernel
theorem dM_read_281 : decode cM_read 281 = .ok (.iconst (-1), 1) := by decide +kernel
theorem dM_read_282 : decode cM_read 282 = .ok (.putfield 145, 3) := by decide +kernel
theorem dM_read_285 : decode cM_read 285 = .ok (.return_, 1) := by decide +kernel
abbrev cM_stands : ByteArray := prog_9_method_27_code
def yM_stands : MethodName := ⟨"PostIndexModel", "stands", "(IIIII)Z"⟩
def fM_stands (d : Nat) : zF := (cM_stands, 10, yM_stands, (some .boolean), d, 0, 0)
theorem meM_stands (d : Nat) : zMe (fM_stands d) 5 := ⟨(zA3 (i := 227) rfl rfl), (zA1 (i := 8) rfl rfl), by show "PostIndexModel" ≠ _; decide +kernel, by show "PostIndexModel" ≠ _; decide +kernel, by show (parseMethodDescriptor "(IIIII)Z").map _ = _; decide +kernel⟩
theorem dM_stands_0 : decode cM_stands 0 = .ok (.iload 5, 2) := by decide +kernel
theorem dM_stands_2 : decode cM_stands 2 = .ok (.istore 6, 2) := by decide +kernel
theorem dM_stands_4 : decode cM_stands 4 = .ok (.iload 6, 2) := by decide +kernel
theorem dM_stands_6 : decode cM_stands 6 = .ok (.aload_n 0, 1) := by decide +kernel
theorem dM_stands_7 : decode cM_stands 7 = .ok (.getfield 29, 3) := by decide +kernel
theorem dM_stands_10 : decode cM_stands 10 = .ok (.iload 4, 2) := by decide +kernel
theorem dM_stands_12 : decode cM_stands 12 = .ok (.iaload, 1) := by decide +kernel
theorem dM_stands_13 : decode cM_stands 13 = .ok (.if_icmp .ge 130, 3) := by decide +kernel
theorem dM_stands_16 : decode cM_stands 16 = .ok (.iload 6, 2) := by decide +kernel
theorem dM_stands_18 : decode cM_stands 18 = .ok (.iload 5, 2) := by decide +kernel
theorem dM_stands_20 : decode cM_stands 20 = .ok (.if_icmp .eq 10, 3) := by decide +kernel
theorem dM_stands_23 : decode cM_stands 23 = .ok (.iload 5, 2) := by decide +kernel
theorem dM_stands_25 : decode cM_stands 25 = .ok (.bipush 7, 2) := by decide +kernel
theorem dM_stands_27 : decode cM_stands 27 = .ok (.if_icmp .ne 116, 3) := by decide +kernel
theorem dM_stands_30 : decode cM_stands 30 = .ok (.bipush 12, 2) := by decide +kernel
theorem dM_stands_32 : decode cM_stands 32 = .ok (.iload 4, 2) := by decide +kernel
theorem dM_stands_34 : decode cM_stands 34 = .ok (.imul, 1) := by decide +kernel
theorem dM_stands_35 : decode cM_stands 35 = .ok (.iload 6, 2) := by decide +kernel
theorem dM_stands_37 : decode cM_stands 37 = .ok (.iadd, 1) := by decide +kernel
theorem dM_stands_38 : decode cM_stands 38 = .ok (.istore 7, 2) := by decide +kernel
theorem dM_stands_40 : decode cM_stands 40 = .ok (.aload_n 0, 1) := by decide +kernel
theorem dM_stands_41 : decode cM_stands 41 = .ok (.getfield 35, 3) := by decide +kernel
theorem dM_stands_44 : decode cM_stands 44 = .ok (.iload 7, 2) := by decide +kernel
theorem dM_stands_46 : decode cM_stands 46 = .ok (.iaload, 1) := by decide +kernel
theorem dM_stands_47 : decode cM_stands 47 = .ok (.aload_n 0, 1) := by decide +kernel
theorem dM_stands_48 : decode cM_stands 48 = .ok (.getfield 32, 3) := by decide +kernel
theorem dM_stands_51 : decode cM_stands 51 = .ok (.iload 7, 2) := by decide +kernel
theorem dM_stands_53 : decode cM_stands 53 = .ok (.iaload, 1) := by decide +kernel
theorem dM_stands_54 : decode cM_stands 54 = .ok (.isub, 1) := by decide +kernel
theorem dM_stands_55 : decode cM_stands 55 = .ok (.iload_n 3, 1) := by decide +kernel
theorem dM_stands_56 : decode cM_stands 56 = .ok (.iload_n 2, 1) := by decide +kernel
theorem dM_stands_57 : decode cM_stands 57 = .ok (.isub, 1) := by decide +kernel
theorem dM_stands_58 : decode cM_stands 58 = .ok (.if_icmp .ne 7, 3) := by decide +kernel
theorem dM_stands_61 : decode cM_stands 61 = .ok (.iconst 1, 1) := by decide +kernel
theorem dM_stands_62 : decode cM_stands 62 = .ok (.goto 4, 3) := by decide +kernel
theorem dM_stands_65 : decode cM_stands 65 = .ok (.iconst 0, 1) := by decide +kernel
theorem dM_stands_66 : decode cM_stands 66 = .ok (.istore 8, 2) := by decide +kernel
theorem dM_stands_68 : decode cM_stands 68 = .ok (.iconst 0, 1) := by decide +kernel
theorem dM_stands_69 : decode cM_stands 69 = .ok (.istore 9, 2) := by decide +kernel
theorem dM_stands_71 : decode cM_stands 71 = .ok (.iload 9, 2) := by decide +kernel
theorem dM_stands_73 : decode cM_stands 73 = .ok (.iload_n 3, 1) := by decide +kernel
theorem dM_stands_74 : decode cM_stands 74 = .ok (.iload_n 2, 1) := by decide +kernel
theorem dM_stands_75 : decode cM_stands 75 = .ok (.isub, 1) := by decide +kernel
theorem dM_stands_76 : decode cM_stands 76 = .ok (.if_icmp .ge 54, 3) := by decide +kernel
theorem dM_stands_79 : decode cM_stands 79 = .ok (.iload 8, 2) := by decide +kernel
theorem dM_stands_81 : decode cM_stands 81 = .ok (.ifCond .eq 49, 3) := by decide +kernel
theorem dM_stands_84 : decode cM_stands 84 = .ok (.aload_n 0, 1) := by decide +kernel
theorem dM_stands_85 : decode cM_stands 85 = .ok (.getfield 26, 3) := by decide +kernel
theorem dM_stands_88 : decode cM_stands 88 = .ok (.aload_n 0, 1) := by decide +kernel
theorem dM_stands_89 : decode cM_stands 89 = .ok (.getfield 32, 3) := by decide +kernel
theorem dM_stands_92 : decode cM_stands 92 = .ok (.iload 7, 2) := by decide +kernel
theorem dM_stands_94 : decode cM_stands 94 = .ok (.iaload, 1) := by decide +kernel
theorem dM_stands_95 : decode cM_stands 95 = .ok (.iload 9, 2) := by decide +kernel
theorem dM_stands_97 : decode cM_stands 97 = .ok (.iadd, 1) := by decide +kernel
theorem dM_stands_98 : decode cM_stands 98 = .ok (.iaload, 1) := by decide +kernel
theorem dM_stands_99 : decode cM_stands 99 = .ok (.invokestatic 107, 3) := by decide +kernel
theorem dM_stands_102 : decode cM_stands 102 = .ok (.aload_n 0, 1) := by decide +kernel
theorem dM_stands_103 : decode cM_stands 103 = .ok (.iload_n 1, 1) := by decide +kernel
theorem dM_stands_104 : decode cM_stands 104 = .ok (.iload_n 2, 1) := by decide +kernel
theorem dM_stands_105 : decode cM_stands 105 = .ok (.iload 9, 2) := by decide +kernel
theorem dM_stands_107 : decode cM_stands 107 = .ok (.iadd, 1) := by decide +kernel
theorem dM_stands_108 : decode cM_stands 108 = .ok (.invokevirtual 139, 3) := by decide +kernel
theorem dM_stands_111 : decode cM_stands 111 = .ok (.invokestatic 107, 3) := by decide +kernel
theorem dM_stands_114 : decode cM_stands 114 = .ok (.if_icmp .ne 7, 3) := by decide +kernel
theorem dM_stands_117 : decode cM_stands 117 = .ok (.iconst 1, 1) := by decide +kernel
theorem dM_stands_118 : decode cM_stands 118 = .ok (.goto 4, 3) := by decide +kernel
theorem dM_stands_121 : decode cM_stands 121 = .ok (.iconst 0, 1) := by decide +kernel
theorem dM_stands_122 : decode cM_stands 122 = .ok (.istore 8, 2) := by decide +kernel
theorem dM_stands_124 : decode cM_stands 124 = .ok (.iinc 9 1, 3) := by decide +kernel
theorem dM_stands_127 : decode cM_stands 127 = .ok (.goto (-56), 3) := by decide +kernel
theorem dM_stands_130 : decode cM_stands 130 = .ok (.iload 8, 2) := by decide +kernel
theorem dM_stands_132 : decode cM_stands 132 = .ok (.ifCond .eq 5, 3) := by decide +kernel
theorem dM_stands_135 : decode cM_stands 135 = .ok (.iconst 1, 1) := by decide +kernel
theorem dM_stands_136 : decode cM_stands 136 = .ok (.ireturn, 1) := by decide +kernel
theorem dM_stands_137 : decode cM_stands 137 = .ok (.iinc 6 1, 3) := by decide +kernel
theorem dM_stands_140 : decode cM_stands 140 = .ok (.goto (-136), 3) := by decide +kernel
theorem dM_stands_143 : decode cM_stands 143 = .ok (.iconst 0, 1) := by decide +kernel
theorem dM_stands_144 : decode cM_stands 144 = .ok (.ireturn, 1) := by decide +kernel
abbrev cM_row : ByteArray := prog_9_method_28_code
def yM_row : MethodName := ⟨"PostIndexModel", "row", "(II)Z"⟩
def fM_row (d : Nat) : zF := (cM_row, 6, yM_row, (some .boolean), d, 0, 0)
theorem meM_row (d : Nat) : zMe (fM_row d) 2 := ⟨(zA3 (i := 223) rfl rfl), (zA1 (i := 8) rfl rfl), by show "PostIndexModel" ≠ _; decide +kernel, by show "PostIndexModel" ≠ _; decide +kernel, by show (parseMethodDescriptor "(II)Z").map _ = _; decide +kernel⟩
theorem dM_row_0 : decode cM_row 0 = .ok (.iconst 0, 1) := by decide +kernel
theorem dM_row_1 : decode cM_row 1 = .ok (.istore_n 3, 1) := by decide +kernel
theorem dM_row_2 : decode cM_row 2 = .ok (.iload_n 3, 1) := by decide +kernel
theorem dM_row_3 : decode cM_row 3 = .ok (.aload_n 0, 1) := by decide +kernel
theorem dM_row_4 : decode cM_row 4 = .ok (.getfield 148, 3) := by decide +kernel
theorem flM_148 : zFld "PostIndexModel" 148 7 28 31 := ⟨RM, TM, rfl, by decide, inM, (zA3 (i := 32) rfl rfl)⟩
theorem dM_row_7 : decode cM_row 7 = .ok (.iadd, 1) := by decide +kernel
theorem dM_row_8 : decode cM_row 8 = .ok (.bipush 8, 2) := by decide +kernel
theorem dM_row_10 : decode cM_row 10 = .ok (.if_icmp .gt 72, 3) := by decide +kernel
theorem dM_row_13 : decode cM_row 13 = .ok (.iload_n 2, 1) := by decide +kernel
theorem dM_row_14 : decode cM_row 14 = .ok (.ifCond .lt 68, 3) := by decide +kernel
theorem dM_row_17 : decode cM_row 17 = .ok (.iconst 1, 1) := by decide +kernel
theorem dM_row_18 : decode cM_row 18 = .ok (.istore 4, 2) := by decide +kernel
theorem dM_row_20 : decode cM_row 20 = .ok (.iconst 0, 1) := by decide +kernel
theorem dM_row_21 : decode cM_row 21 = .ok (.istore 5, 2) := by decide +kernel
theorem dM_row_23 : decode cM_row 23 = .ok (.iload 5, 2) := by decide +kernel
theorem dM_row_25 : decode cM_row 25 = .ok (.aload_n 0, 1) := by decide +kernel
theorem dM_row_26 : decode cM_row 26 = .ok (.getfield 148, 3) := by decide +kernel
theorem dM_row_29 : decode cM_row 29 = .ok (.if_icmp .ge 40, 3) := by decide +kernel
theorem dM_row_32 : decode cM_row 32 = .ok (.iload 4, 2) := by decide +kernel
theorem dM_row_34 : decode cM_row 34 = .ok (.ifCond .eq 35, 3) := by decide +kernel
theorem dM_row_37 : decode cM_row 37 = .ok (.aload_n 0, 1) := by decide +kernel
theorem dM_row_38 : decode cM_row 38 = .ok (.iload_n 1, 1) := by decide +kernel
theorem dM_row_39 : decode cM_row 39 = .ok (.aload_n 0, 1) := by decide +kernel
theorem dM_row_40 : decode cM_row 40 = .ok (.getfield 68, 3) := by decide +kernel
theorem dM_row_43 : decode cM_row 43 = .ok (.iload 5, 2) := by decide +kernel
theorem dM_row_45 : decode cM_row 45 = .ok (.iaload, 1) := by decide +kernel
theorem dM_row_46 : decode cM_row 46 = .ok (.aload_n 0, 1) := by decide +kernel
theorem dM_row_47 : decode cM_row 47 = .ok (.getfield 71, 3) := by decide +kernel
theorem dM_row_50 : decode cM_row 50 = .ok (.iload 5, 2) := by decide +kernel
theorem dM_row_52 : decode cM_row 52 = .ok (.iaload, 1) := by decide +kernel
theorem dM_row_53 : decode cM_row 53 = .ok (.iload_n 2, 1) := by decide +kernel
theorem dM_row_54 : decode cM_row 54 = .ok (.iload_n 3, 1) := by decide +kernel
theorem dM_row_55 : decode cM_row 55 = .ok (.iload 5, 2) := by decide +kernel
theorem dM_row_57 : decode cM_row 57 = .ok (.iadd, 1) := by decide +kernel
theorem dM_row_58 : decode cM_row 58 = .ok (.invokevirtual 151, 3) := by decide +kernel
theorem dM_row_61 : decode cM_row 61 = .ok (.istore 4, 2) := by decide +kernel
theorem dM_row_63 : decode cM_row 63 = .ok (.iinc 5 1, 3) := by decide +kernel
theorem dM_row_66 : decode cM_row 66 = .ok (.goto (-43), 3) := by decide +kernel
theorem dM_row_69 : decode cM_row 69 = .ok (.iload 4, 2) := by decide +kernel
theorem dM_row_71 : decode cM_row 71 = .ok (.ifCond .eq 5, 3) := by decide +kernel
theorem dM_row_74 : decode cM_row 74 = .ok (.iconst 1, 1) := by decide +kernel
theorem dM_row_75 : decode cM_row 75 = .ok (.ireturn, 1) := by decide +kernel
theorem dM_row_76 : decode cM_row 76 = .ok (.iinc 3 1, 3) := by decide +kernel
theorem dM_row_79 : decode cM_row 79 = .ok (.goto (-77), 3) := by decide +kernel
theorem dM_row_82 : decode cM_row 82 = .ok (.iconst 0, 1) := by decide +kernel
theorem dM_row_83 : decode cM_row 83 = .ok (.ireturn, 1) := by decide +kernel
abbrev cM_filter : ByteArray := prog_9_method_29_code
def yM_filter : MethodName := ⟨"PostIndexModel", "filter", "(II)Z"⟩
def fM_filter (d : Nat) : zF := (cM_filter, 5, yM_filter, (some .boolean), d, 0, 0)
theorem meM_filter (d : Nat) : zMe (fM_filter d) 2 := ⟨(zA3 (i := 235) rfl rfl), (zA1 (i := 8) rfl rfl), by show "PostIndexModel" ≠ _; decide +kernel, by show "PostIndexModel" ≠ _; decide +kernel, by show (parseMethodDescriptor "(II)Z").map _ = _; decide +kernel⟩
theorem dM_filter_0 : decode cM_filter 0 = .ok (.iload_n 2, 1) := by decide +kernel
theorem dM_filter_1 : decode cM_filter 1 = .ok (.ifCond .ge 5, 3) := by decide +kernel
theorem dM_filter_4 : decode cM_filter 4 = .ok (.iconst 0, 1) := by decide +kernel
theorem dM_filter_5 : decode cM_filter 5 = .ok (.ireturn, 1) := by decide +kernel
theorem dM_filter_6 : decode cM_filter 6 = .ok (.iconst 0, 1) := by decide +kernel
theorem dM_filter_7 : decode cM_filter 7 = .ok (.istore_n 3, 1) := by decide +kernel
theorem dM_filter_8 : decode cM_filter 8 = .ok (.aload_n 0, 1) := by decide +kernel
theorem dM_filter_9 : decode cM_filter 9 = .ok (.getfield 142, 3) := by decide +kernel
theorem dM_filter_12 : decode cM_filter 12 = .ok (.iconst 1, 1) := by decide +kernel
theorem dM_filter_13 : decode cM_filter 13 = .ok (.iadd, 1) := by decide +kernel
theorem dM_filter_14 : decode cM_filter 14 = .ok (.istore 4, 2) := by decide +kernel
theorem dM_filter_16 : decode cM_filter 16 = .ok (.iload 4, 2) := by decide +kernel
theorem dM_filter_18 : decode cM_filter 18 = .ok (.aload_n 0, 1) := by decide +kernel
theorem dM_filter_19 : decode cM_filter 19 = .ok (.getfield 136, 3) := by decide +kernel
theorem dM_filter_22 : decode cM_filter 22 = .ok (.if_icmp .ge 25, 3) := by decide +kernel
theorem dM_filter_25 : decode cM_filter 25 = .ok (.bipush 10, 2) := by decide +kernel
theorem dM_filter_27 : decode cM_filter 27 = .ok (.iload_n 3, 1) := by decide +kernel
theorem dM_filter_28 : decode cM_filter 28 = .ok (.imul, 1) := by decide +kernel
theorem dM_filter_29 : decode cM_filter 29 = .ok (.aload_n 0, 1) := by decide +kernel
theorem dM_filter_30 : decode cM_filter 30 = .ok (.iload_n 1, 1) := by decide +kernel
theorem dM_filter_31 : decode cM_filter 31 = .ok (.iload 4, 2) := by decide +kernel
theorem dM_filter_33 : decode cM_filter 33 = .ok (.invokevirtual 139, 3) := by decide +kernel
theorem dM_filter_36 : decode cM_filter 36 = .ok (.iadd, 1) := by decide +kernel
theorem dM_filter_37 : decode cM_filter 37 = .ok (.bipush 48, 2) := by decide +kernel
theorem dM_filter_39 : decode cM_filter 39 = .ok (.isub, 1) := by decide +kernel
theorem dM_filter_40 : decode cM_filter 40 = .ok (.istore_n 3, 1) := by decide +kernel
theorem dM_filter_41 : decode cM_filter 41 = .ok (.iinc 4 1, 3) := by decide +kernel
theorem dM_filter_44 : decode cM_filter 44 = .ok (.goto (-28), 3) := by decide +kernel
theorem dM_filter_47 : decode cM_filter 47 = .ok (.aload_n 0, 1) := by decide +kernel
theorem dM_filter_48 : decode cM_filter 48 = .ok (.iload_n 1, 1) := by decide +kernel
theorem dM_filter_49 : decode cM_filter 49 = .ok (.aload_n 0, 1) := by decide +kernel
theorem dM_filter_50 : decode cM_filter 50 = .ok (.getfield 142, 3) := by decide +kernel
theorem dM_filter_53 : decode cM_filter 53 = .ok (.invokevirtual 139, 3) := by decide +kernel
theorem dM_filter_56 : decode cM_filter 56 = .ok (.istore 4, 2) := by decide +kernel
theorem dM_filter_58 : decode cM_filter 58 = .ok (.iload 4, 2) := by decide +kernel
theorem dM_filter_60 : decode cM_filter 60 = .ok (.bipush 61, 2) := by decide +kernel
theorem dM_filter_62 : decode cM_filter 62 = .ok (.if_icmp .ne 21, 3) := by decide +kernel
theorem dM_filter_65 : decode cM_filter 65 = .ok (.aload_n 0, 1) := by decide +kernel
theorem dM_filter_66 : decode cM_filter 66 = .ok (.getfield 13, 3) := by decide +kernel
theorem dM_filter_69 : decode cM_filter 69 = .ok (.iload_n 2, 1) := by decide +kernel
theorem dM_filter_70 : decode cM_filter 70 = .ok (.iaload, 1) := by decide +kernel
theorem dM_filter_71 : decode cM_filter 71 = .ok (.iload_n 3, 1) := by decide +kernel
theorem dM_filter_72 : decode cM_filter 72 = .ok (.if_icmp .ne 7, 3) := by decide +kernel
theorem dM_filter_75 : decode cM_filter 75 = .ok (.iconst 1, 1) := by decide +kernel
theorem dM_filter_76 : decode cM_filter 76 = .ok (.goto 47, 3) := by decide +kernel
theorem dM_filter_79 : decode cM_filter 79 = .ok (.iconst 0, 1) := by decide +kernel
theorem dM_filter_80 : decode cM_filter 80 = .ok (.goto 43, 3) := by decide +kernel
theorem dM_filter_83 : decode cM_filter 83 = .ok (.iload 4, 2) := by decide +kernel
theorem dM_filter_85 : decode cM_filter 85 = .ok (.bipush 60, 2) := by decide +kernel
theorem dM_filter_87 : decode cM_filter 87 = .ok (.if_icmp .ne 21, 3) := by decide +kernel
theorem dM_filter_90 : decode cM_filter 90 = .ok (.aload_n 0, 1) := by decide +kernel
theorem dM_filter_91 : decode cM_filter 91 = .ok (.getfield 16, 3) := by decide +kernel
theorem dM_filter_94 : decode cM_filter 94 = .ok (.iload_n 2, 1) := by decide +kernel
theorem dM_filter_95 : decode cM_filter 95 = .ok (.iaload, 1) := by decide +kernel
theorem dM_filter_96 : decode cM_filter 96 = .ok (.iload_n 3, 1) := by decide +kernel
theorem dM_filter_97 : decode cM_filter 97 = .ok (.if_icmp .ge 7, 3) := by decide +kernel
theorem dM_filter_100 : decode cM_filter 100 = .ok (.iconst 1, 1) := by decide +kernel
theorem dM_filter_101 : decode cM_filter 101 = .ok (.goto 22, 3) := by decide +kernel
theorem dM_filter_104 : decode cM_filter 104 = .ok (.iconst 0, 1) := by decide +kernel
theorem dM_filter_105 : decode cM_filter 105 = .ok (.goto 18, 3) := by decide +kernel
theorem dM_filter_108 : decode cM_filter 108 = .ok (.aload_n 0, 1) := by decide +kernel
theorem dM_filter_109 : decode cM_filter 109 = .ok (.getfield 16, 3) := by decide +kernel
theorem dM_filter_112 : decode cM_filter 112 = .ok (.iload_n 2, 1) := by decide +kernel
theorem dM_filter_113 : decode cM_filter 113 = .ok (.iaload, 1) := by decide +kernel
theorem dM_filter_114 : decode cM_filter 114 = .ok (.iload_n 3, 1) := by decide +kernel
theorem dM_filter_115 : decode cM_filter 115 = .ok (.if_icmp .le 7, 3) := by decide +kernel
theorem dM_filter_118 : decode cM_filter 118 = .ok (.iconst 1, 1) := by decide +kernel
theorem dM_filter_119 : decode cM_filter 119 = .ok (.goto 4, 3) := by decide +kernel
theorem dM_filter_122 : decode cM_filter 122 = .ok (.iconst 0, 1) := by decide +kernel
theorem dM_filter_123 : decode cM_filter 123 = .ok (.ireturn, 1) := by decide +kernel
abbrev cM_keepWord : ByteArray := prog_9_method_30_code
def yM_keepWord : MethodName := ⟨"PostIndexModel", "keepWord", "()V"⟩
def fM_keepWord (d : Nat) : zF := (cM_keepWord, 1, yM_keepWord, none, d, 0, 0)
theorem meM_keepWord (d : Nat) : zMe (fM_keepWord d) 0 := ⟨(zA3 (i := 219) rfl rfl), (zA1 (i := 8) rfl rfl), by show "PostIndexModel" ≠ _; decide +kernel, by show "PostIndexModel" ≠ _; decide +kernel, by show (parseMethodDescriptor "()V").map _ = _; decide +kernel⟩
theorem dM_keepWord_0 : decode cM_keepWord 0 = .ok (.aload_n 0, 1) := by decide +kernel
