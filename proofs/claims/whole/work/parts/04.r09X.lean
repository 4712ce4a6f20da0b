theorem dX_writeUnit_98 : decode cX_writeUnit 98 = .ok (.aload_n 0, 1) := by decide +kernel
theorem dX_writeUnit_99 : decode cX_writeUnit 99 = .ok (.getfield 159, 3) := by decide +kernel
theorem dX_writeUnit_102 : decode cX_writeUnit 102 = .ok (.bipush 7, 2) := by decide +kernel
theorem dX_writeUnit_104 : decode cX_writeUnit 104 = .ok (.invokestatic 169, 3) := by decide +kernel
theorem lkX_169 : Cond.methodLink "PostIndex" 169 Lib.Math.min.name ∈ zAll ∧ Cond.static Lib.Math.min.name ∈ zAll ∧ Cond.initialized "java/lang/Math" ∈ zAll ∧ Cond.code Lib.Math.min.name Lib.Math.min.code 2 (some .int) ∈ zAll := ⟨(zA2 (i := 45) rfl rfl), (zA1 (i := 220) rfl rfl), (zA1 (i := 9) rfl rfl), (zA1 (i := 221) rfl rfl)⟩
theorem dX_writeUnit_107 : decode cX_writeUnit 107 = .ok (.invokevirtual 175, 3) := by decide +kernel
theorem dX_writeUnit_110 : decode cX_writeUnit 110 = .ok (.aload_n 0, 1) := by decide +kernel
theorem dX_writeUnit_111 : decode cX_writeUnit 111 = .ok (.dup, 1) := by decide +kernel
theorem dX_writeUnit_112 : decode cX_writeUnit 112 = .ok (.getfield 159, 3) := by decide +kernel
theorem dX_writeUnit_115 : decode cX_writeUnit 115 = .ok (.iconst 1, 1) := by decide +kernel
theorem dX_writeUnit_116 : decode cX_writeUnit 116 = .ok (.iadd, 1) := by decide +kernel
theorem dX_writeUnit_117 : decode cX_writeUnit 117 = .ok (.putfield 159, 3) := by decide +kernel
theorem dX_writeUnit_120 : decode cX_writeUnit 120 = .ok (.return_, 1) := by decide +kernel
abbrev cX_segmentToPack : ByteArray := prog_1_method_26_code
def yX_segmentToPack : MethodName := ⟨"PostIndex", "segmentToPack", "()I"⟩
def fX_segmentToPack (d : Nat) : zF := (cX_segmentToPack, 2, yX_segmentToPack, (some .int), d, 0, 0)
theorem meX_segmentToPack (d : Nat) : zMe (fX_segmentToPack d) 0 := ⟨(zA2 (i := 74) rfl rfl), (zA1 (i := 1) rfl rfl), by show "PostIndex" ≠ _; decide +kernel, by show "PostIndex" ≠ _; decide +kernel, by show (parseMethodDescriptor "()I").map _ = _; decide +kernel⟩
theorem dX_segmentToPack_0 : decode cX_segmentToPack 0 = .ok (.iconst 0, 1) := by decide +kernel
theorem dX_segmentToPack_1 : decode cX_segmentToPack 1 = .ok (.istore_n 1, 1) := by decide +kernel
theorem dX_segmentToPack_2 : decode cX_segmentToPack 2 = .ok (.iload_n 1, 1) := by decide +kernel
theorem dX_segmentToPack_3 : decode cX_segmentToPack 3 = .ok (.aload_n 0, 1) := by decide +kernel
theorem dX_segmentToPack_4 : decode cX_segmentToPack 4 = .ok (.getfield 129, 3) := by decide +kernel
theorem dX_segmentToPack_7 : decode cX_segmentToPack 7 = .ok (.if_icmp .ge 39, 3) := by decide +kernel
theorem dX_segmentToPack_10 : decode cX_segmentToPack 10 = .ok (.aload_n 0, 1) := by decide +kernel
theorem dX_segmentToPack_11 : decode cX_segmentToPack 11 = .ok (.iload_n 1, 1) := by decide +kernel
theorem dX_segmentToPack_12 : decode cX_segmentToPack 12 = .ok (.invokevirtual 132, 3) := by decide +kernel
theorem dX_segmentToPack_15 : decode cX_segmentToPack 15 = .ok (.ifCond .eq 25, 3) := by decide +kernel
theorem dX_segmentToPack_18 : decode cX_segmentToPack 18 = .ok (.aload_n 0, 1) := by decide +kernel
theorem dX_segmentToPack_19 : decode cX_segmentToPack 19 = .ok (.iload_n 1, 1) := by decide +kernel
theorem dX_segmentToPack_20 : decode cX_segmentToPack 20 = .ok (.invokevirtual 135, 3) := by decide +kernel
theorem dX_segmentToPack_23 : decode cX_segmentToPack 23 = .ok (.ifCond .eq 17, 3) := by decide +kernel
theorem dX_segmentToPack_26 : decode cX_segmentToPack 26 = .ok (.aload_n 0, 1) := by decide +kernel
theorem dX_segmentToPack_27 : decode cX_segmentToPack 27 = .ok (.getfield 35, 3) := by decide +kernel
theorem dX_segmentToPack_30 : decode cX_segmentToPack 30 = .ok (.iload_n 1, 1) := by decide +kernel
theorem dX_segmentToPack_31 : decode cX_segmentToPack 31 = .ok (.aaload, 1) := by decide +kernel
theorem dX_segmentToPack_32 : decode cX_segmentToPack 32 = .ok (.getfield 138, 3) := by decide +kernel
theorem dX_segmentToPack_35 : decode cX_segmentToPack 35 = .ok (.ifCond .ne 5, 3) := by decide +kernel
theorem dX_segmentToPack_38 : decode cX_segmentToPack 38 = .ok (.iload_n 1, 1) := by decide +kernel
theorem dX_segmentToPack_39 : decode cX_segmentToPack 39 = .ok (.ireturn, 1) := by decide +kernel
theorem dX_segmentToPack_40 : decode cX_segmentToPack 40 = .ok (.iinc 1 1, 3) := by decide +kernel
theorem dX_segmentToPack_43 : decode cX_segmentToPack 43 = .ok (.goto (-41), 3) := by decide +kernel
theorem dX_segmentToPack_46 : decode cX_segmentToPack 46 = .ok (.iconst (-1), 1) := by decide +kernel
theorem dX_segmentToPack_47 : decode cX_segmentToPack 47 = .ok (.ireturn, 1) := by decide +kernel
abbrev cX_isHit : ByteArray := prog_1_method_27_code
def yX_isHit : MethodName := ⟨"PostIndex", "isHit", "(LPostIndex$Query;I)Z"⟩
def fX_isHit (d : Nat) : zF := (cX_isHit, 3, yX_isHit, (some .boolean), d, 0, 0)
theorem meX_isHit (d : Nat) : zMe (fX_isHit d) 2 := ⟨(zA2 (i := 177) rfl rfl), (zA1 (i := 1) rfl rfl), by show "PostIndex" ≠ _; decide +kernel, by show "PostIndex" ≠ _; decide +kernel, by show (parseMethodDescriptor "(LPostIndex$Query;I)Z").map _ = _; decide +kernel⟩
theorem dX_isHit_0 : decode cX_isHit 0 = .ok (.aload_n 0, 1) := by decide +kernel
theorem dX_isHit_1 : decode cX_isHit 1 = .ok (.iload_n 2, 1) := by decide +kernel
theorem dX_isHit_2 : decode cX_isHit 2 = .ok (.invokevirtual 51, 3) := by decide +kernel
theorem dX_isHit_5 : decode cX_isHit 5 = .ok (.ifCond .eq 31, 3) := by decide +kernel
theorem dX_isHit_8 : decode cX_isHit 8 = .ok (.aload_n 1, 1) := by decide +kernel
theorem dX_isHit_9 : decode cX_isHit 9 = .ok (.aload_n 0, 1) := by decide +kernel
theorem dX_isHit_10 : decode cX_isHit 10 = .ok (.getfield 28, 3) := by decide +kernel
theorem dX_isHit_13 : decode cX_isHit 13 = .ok (.iload_n 2, 1) := by decide +kernel
theorem dX_isHit_14 : decode cX_isHit 14 = .ok (.aaload, 1) := by decide +kernel
theorem dX_isHit_15 : decode cX_isHit 15 = .ok (.aload_n 0, 1) := by decide +kernel
theorem dX_isHit_16 : decode cX_isHit 16 = .ok (.getfield 35, 3) := by decide +kernel
theorem dX_isHit_19 : decode cX_isHit 19 = .ok (.iload_n 2, 1) := by decide +kernel
theorem dX_isHit_20 : decode cX_isHit 20 = .ok (.iconst 4, 1) := by decide +kernel
theorem dX_isHit_21 : decode cX_isHit 21 = .ok (.idiv, 1) := by decide +kernel
theorem dX_isHit_22 : decode cX_isHit 22 = .ok (.aaload, 1) := by decide +kernel
theorem dX_isHit_23 : decode cX_isHit 23 = .ok (.iload_n 2, 1) := by decide +kernel
theorem dX_isHit_24 : decode cX_isHit 24 = .ok (.iconst 4, 1) := by decide +kernel
theorem dX_isHit_25 : decode cX_isHit 25 = .ok (.irem, 1) := by decide +kernel
theorem dX_isHit_26 : decode cX_isHit 26 = .ok (.invokevirtual 178, 3) := by decide +kernel
theorem dX_isHit_29 : decode cX_isHit 29 = .ok (.ifCond .eq 7, 3) := by decide +kernel
theorem dX_isHit_32 : decode cX_isHit 32 = .ok (.iconst 1, 1) := by decide +kernel
theorem dX_isHit_33 : decode cX_isHit 33 = .ok (.goto 4, 3) := by decide +kernel
theorem dX_isHit_36 : decode cX_isHit 36 = .ok (.iconst 0, 1) := by decide +kernel
theorem dX_isHit_37 : decode cX_isHit 37 = .ok (.ireturn, 1) := by decide +kernel
theorem lkX_11 : zLi "PostIndex" 11 yT_init := ⟨(zA1 (i := 22) rfl rfl), (zA1 (i := 23) rfl rfl), rfl⟩
theorem lkX_21 : zLi "PostIndex" 21 yR_init := ⟨(zA1 (i := 39) rfl rfl), (zA1 (i := 40) rfl rfl), rfl⟩
theorem lkX_32 : zLi "PostIndex" 32 yP_init := ⟨(zA1 (i := 88) rfl rfl), (zA1 (i := 89) rfl rfl), rfl⟩
theorem lkX_39 : zLi "PostIndex" 39 yS_init := ⟨(zA1 (i := 113) rfl rfl), (zA1 (i := 114) rfl rfl), rfl⟩
theorem lkX_46 : zLi "PostIndex" 46 yH_init := ⟨(zA1 (i := 141) rfl rfl), (zA1 (i := 142) rfl rfl), rfl⟩
theorem lkX_47 : zLv "PostIndex" 47 yT_append := ⟨(zA1 (i := 199) rfl rfl), (zA1 (i := 200) rfl rfl), (zA1 (i := 201) rfl rfl)⟩
theorem lkX_51 : zLv "PostIndex" 51 yX_stands := ⟨(zA1 (i := 207) rfl rfl), (zA1 (i := 209) rfl rfl), (zA0 (i := 0) (q := (yX_stands, 12)) rfl rfl)⟩
theorem lkX_58 : zLv "PostIndex" 58 yT_appendBeginning := ⟨(zA1 (i := 215) rfl rfl), (zA1 (i := 216) rfl rfl), (zA1 (i := 217) rfl rfl)⟩
theorem lkX_62 : zLv "PostIndex" 62 yT_makeEmpty := ⟨(zA1 (i := 229) rfl rfl), (zA1 (i := 230) rfl rfl), (zA1 (i := 231) rfl rfl)⟩
theorem lkX_75 : zLv "PostIndex" 75 yP_fill := ⟨(zA2 (i := 1) rfl rfl), (zA2 (i := 2) rfl rfl), (zA2 (i := 3) rfl rfl)⟩
theorem lkX_79 : zLs "PostIndex" 79 yX_unitsAsked := ⟨(zA2 (i := 11) rfl rfl), (zA2 (i := 12) rfl rfl)⟩
theorem lkX_83 : zLv "PostIndex" 83 yX_writeUnit := ⟨(zA2 (i := 14) rfl rfl), (zA2 (i := 16) rfl rfl), (zA0 (i := 2) (q := (yX_writeUnit, 12)) rfl rfl)⟩
theorem lkX_91 : zLv "PostIndex" 91 yX_segmentToPack := ⟨(zA2 (i := 71) rfl rfl), (zA2 (i := 73) rfl rfl), (zA0 (i := 4) (q := (yX_segmentToPack, 12)) rfl rfl)⟩
theorem lkX_95 : zLv "PostIndex" 95 yS_rewriteUnit := ⟨(zA2 (i := 79) rfl rfl), (zA2 (i := 80) rfl rfl), (zA2 (i := 81) rfl rfl)⟩
theorem lkX_98 : zLv "PostIndex" 98 yR_read := ⟨(zA2 (i := 87) rfl rfl), (zA2 (i := 88) rfl rfl), (zA2 (i := 89) rfl rfl)⟩
theorem lkX_102 : zLv "PostIndex" 102 yX_freePlace := ⟨(zA2 (i := 158) rfl rfl), (zA2 (i := 160) rfl rfl), (zA0 (i := 17) (q := (yX_freePlace, 12)) rfl rfl)⟩
theorem lkX_112 : zLv "PostIndex" 112 yR_exchange := ⟨(zA2 (i := 162) rfl rfl), (zA2 (i := 163) rfl rfl), (zA2 (i := 164) rfl rfl)⟩
theorem lkX_122 : zLv "PostIndex" 122 yX_isOpen := ⟨(zA2 (i := 170) rfl rfl), (zA2 (i := 172) rfl rfl), (zA0 (i := 18) (q := (yX_isOpen, 12)) rfl rfl)⟩
theorem lkX_125 : zLv "PostIndex" 125 yX_isHit := ⟨(zA2 (i := 174) rfl rfl), (zA2 (i := 176) rfl rfl), (zA0 (i := 19) (q := (yX_isHit, 12)) rfl rfl)⟩
theorem lkX_132 : zLv "PostIndex" 132 yX_isLive := ⟨(zA1 (i := 211) rfl rfl), (zA1 (i := 213) rfl rfl), (zA0 (i := 1) (q := (yX_isLive, 12)) rfl rfl)⟩
theorem lkX_135 : zLv "PostIndex" 135 yX_isFull := ⟨(zA2 (i := 75) rfl rfl), (zA2 (i := 77) rfl rfl), (zA0 (i := 5) (q := (yX_isFull, 12)) rfl rfl)⟩
theorem lkX_144 : zLv "PostIndex" 144 yS_countCells := ⟨(zA2 (i := 210) rfl rfl), (zA2 (i := 211) rfl rfl), (zA2 (i := 212) rfl rfl)⟩
theorem lkX_150 : zLv "PostIndex" 150 yS_countPostings := ⟨(zA2 (i := 234) rfl rfl), (zA2 (i := 235) rfl rfl), (zA2 (i := 236) rfl rfl)⟩
theorem lkX_156 : zLv "PostIndex" 156 yT_tokenStart := ⟨(zA2 (i := 18) rfl rfl), (zA2 (i := 19) rfl rfl), (zA2 (i := 20) rfl rfl)⟩
theorem lkX_162 : zLv "PostIndex" 162 yT_tokenEnd := ⟨(zA2 (i := 39) rfl rfl), (zA2 (i := 23) rfl rfl), (zA2 (i := 24) rfl rfl)⟩
theorem lkX_165 : zLv "PostIndex" 165 yT_setFolded := ⟨(zA2 (i := 40) rfl rfl), (zA2 (i := 41) rfl rfl), (zA2 (i := 42) rfl rfl)⟩
theorem lkX_175 : zLv "PostIndex" 175 yS_addPosting := ⟨(zA2 (i := 46) rfl rfl), (zA2 (i := 47) rfl rfl), (zA2 (i := 48) rfl rfl)⟩
theorem lkX_178 : zLv "PostIndex" 178 yQ_matches := ⟨(zA2 (i := 178) rfl rfl), (zA2 (i := 179) rfl rfl), (zA2 (i := 180) rfl rfl)⟩
