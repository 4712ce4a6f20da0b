abbrev cS_init : ByteArray := prog_6_method_1_code
def yS_init : MethodName := ⟨"PostIndex$Segment", "<init>", "()V"⟩
def fS_init (d : Nat) : zF := (cS_init, 2, yS_init, none, d, 98, 1344)
theorem meS_init (d : Nat) : zMe (fS_init d) 0 := ⟨(zA1 (i := 115) rfl rfl), (zA1 (i := 6) rfl rfl), by show "PostIndex$Segment" ≠ _; decide +kernel, by show "PostIndex$Segment" ≠ _; decide +kernel, by show (parseMethodDescriptor "()V").map _ = _; decide +kernel⟩
theorem dS_init_0 : decode cS_init 0 = .ok (.aload_n 0, 1) := by decide +kernel
theorem dS_init_1 : decode cS_init 1 = .ok (.invokespecial 3, 3) := by decide +kernel
theorem lkS_3 : Cond.methodLink "PostIndex$Segment" 3 Lib.objectInit ∈ zAll ∧ Cond.instanceMethod Lib.objectInit ∈ zAll ∧ Cond.code Lib.objectInit ⟨#[0xb1]⟩ 1 none ∈ zAll := ⟨(zA1 (i := 116) rfl rfl), (zA1 (i := 18) rfl rfl), (zA1 (i := 19) rfl rfl)⟩
theorem dS_init_4 : decode cS_init 4 = .ok (.aload_n 0, 1) := by decide +kernel
theorem dS_init_5 : decode cS_init 5 = .ok (.bipush 48, 2) := by decide +kernel
theorem dS_init_7 : decode cS_init 7 = .ok (.newarray .int, 2) := by decide +kernel
theorem dS_init_9 : decode cS_init 9 = .ok (.putfield 9, 3) := by decide +kernel
theorem flS_9 : zFld "PostIndex$Segment" 9 4 1 5 := ⟨RS, TS, rfl, by decide, inS, (zA1 (i := 120) rfl rfl)⟩
theorem dS_init_12 : decode cS_init 12 = .ok (.aload_n 0, 1) := by decide +kernel
theorem dS_init_13 : decode cS_init 13 = .ok (.bipush 48, 2) := by decide +kernel
theorem dS_init_15 : decode cS_init 15 = .ok (.anewarray 15, 3) := by decide +kernel
theorem aqS_15 : zArq "PostIndex$Segment" 15 3 "PostIndex$Text" := ⟨rfl, (zA1 (i := 117) rfl rfl), by decide +kernel⟩
theorem dS_init_18 : decode cS_init 18 = .ok (.putfield 17, 3) := by decide +kernel
theorem flS_17 : zFld "PostIndex$Segment" 17 4 0 5 := ⟨RS, TS, rfl, by decide, inS, (zA1 (i := 119) rfl rfl)⟩
theorem dS_init_21 : decode cS_init 21 = .ok (.iconst 0, 1) := by decide +kernel
theorem dS_init_22 : decode cS_init 22 = .ok (.istore_n 1, 1) := by decide +kernel
theorem dS_init_23 : decode cS_init 23 = .ok (.iload_n 1, 1) := by decide +kernel
theorem dS_init_24 : decode cS_init 24 = .ok (.bipush 48, 2) := by decide +kernel
theorem dS_init_26 : decode cS_init 26 = .ok (.if_icmp .ge 22, 3) := by decide +kernel
theorem dS_init_29 : decode cS_init 29 = .ok (.aload_n 0, 1) := by decide +kernel
theorem dS_init_30 : decode cS_init 30 = .ok (.getfield 17, 3) := by decide +kernel
theorem dS_init_33 : decode cS_init 33 = .ok (.iload_n 1, 1) := by decide +kernel
theorem dS_init_34 : decode cS_init 34 = .ok (.new 15, 3) := by decide +kernel
theorem nwS_15 : zNew "PostIndex$Segment" 15 5 2 (fun k => defaultValue (tyT k)) := ⟨RT, TT, tyT, rfl, inT, tyT_ok, (zA1 (i := 117) rfl rfl), (zA1 (i := 21) rfl rfl), (zA1 (i := 2) rfl rfl), fun _ _ => rfl⟩
theorem dS_init_37 : decode cS_init 37 = .ok (.dup, 1) := by decide +kernel
theorem dS_init_38 : decode cS_init 38 = .ok (.invokespecial 21, 3) := by decide +kernel
theorem dS_init_41 : decode cS_init 41 = .ok (.aastore, 1) := by decide +kernel
theorem dS_init_42 : decode cS_init 42 = .ok (.iinc 1 1, 3) := by decide +kernel
theorem dS_init_45 : decode cS_init 45 = .ok (.goto (-22), 3) := by decide +kernel
theorem dS_init_48 : decode cS_init 48 = .ok (.return_, 1) := by decide +kernel
abbrev cS_addPosting : ByteArray := prog_6_method_2_code
def yS_addPosting : MethodName := ⟨"PostIndex$Segment", "addPosting", "(LPostIndex$Text;II)V"⟩
def fS_addPosting (d : Nat) : zF := (cS_addPosting, 5, yS_addPosting, none, d, 0, 0)
theorem meS_addPosting (d : Nat) : zMe (fS_addPosting d) 3 := ⟨(zA2 (i := 49) rfl rfl), (zA1 (i := 6) rfl rfl), by show "PostIndex$Segment" ≠ _; decide +kernel, by show "PostIndex$Segment" ≠ _; decide +kernel, by show (parseMethodDescriptor "(LPostIndex$Text;II)V").map _ = _; decide +kernel⟩
theorem dS_addPosting_0 : decode cS_addPosting 0 = .ok (.aload_n 0, 1) := by decide +kernel
theorem dS_addPosting_1 : decode cS_addPosting 1 = .ok (.aload_n 1, 1) := by decide +kernel
theorem dS_addPosting_2 : decode cS_addPosting 2 = .ok (.invokevirtual 22, 3) := by decide +kernel
theorem dS_addPosting_5 : decode cS_addPosting 5 = .ok (.istore 4, 2) := by decide +kernel
theorem dS_addPosting_7 : decode cS_addPosting 7 = .ok (.iload 4, 2) := by decide +kernel
theorem dS_addPosting_9 : decode cS_addPosting 9 = .ok (.bipush 48, 2) := by decide +kernel
theorem dS_addPosting_11 : decode cS_addPosting 11 = .ok (.if_icmp .lt 4, 3) := by decide +kernel
theorem dS_addPosting_14 : decode cS_addPosting 14 = .ok (.return_, 1) := by decide +kernel
theorem dS_addPosting_15 : decode cS_addPosting 15 = .ok (.iload 4, 2) := by decide +kernel
theorem dS_addPosting_17 : decode cS_addPosting 17 = .ok (.aload_n 0, 1) := by decide +kernel
theorem dS_addPosting_18 : decode cS_addPosting 18 = .ok (.getfield 26, 3) := by decide +kernel
theorem flS_26 : zFld "PostIndex$Segment" 26 4 2 5 := ⟨RS, TS, rfl, by decide, inS, (zA1 (i := 121) rfl rfl)⟩
theorem dS_addPosting_21 : decode cS_addPosting 21 = .ok (.if_icmp .ne 29, 3) := by decide +kernel
theorem dS_addPosting_24 : decode cS_addPosting 24 = .ok (.aload_n 0, 1) := by decide +kernel
theorem dS_addPosting_25 : decode cS_addPosting 25 = .ok (.getfield 17, 3) := by decide +kernel
theorem dS_addPosting_28 : decode cS_addPosting 28 = .ok (.iload 4, 2) := by decide +kernel
theorem dS_addPosting_30 : decode cS_addPosting 30 = .ok (.aaload, 1) := by decide +kernel
theorem dS_addPosting_31 : decode cS_addPosting 31 = .ok (.aload_n 1, 1) := by decide +kernel
theorem dS_addPosting_32 : decode cS_addPosting 32 = .ok (.iconst 0, 1) := by decide +kernel
theorem dS_addPosting_33 : decode cS_addPosting 33 = .ok (.aload_n 1, 1) := by decide +kernel
theorem dS_addPosting_34 : decode cS_addPosting 34 = .ok (.getfield 30, 3) := by decide +kernel
theorem flS_30 : zFldN "PostIndex$Segment" 30 5 1 2 := ⟨RT, TT, "PostIndex", rfl, by decide, inT, by decide +kernel⟩
theorem dS_addPosting_37 : decode cS_addPosting 37 = .ok (.invokevirtual 33, 3) := by decide +kernel
theorem dS_addPosting_40 : decode cS_addPosting 40 = .ok (.aload_n 0, 1) := by decide +kernel
theorem dS_addPosting_41 : decode cS_addPosting 41 = .ok (.dup, 1) := by decide +kernel
theorem dS_addPosting_42 : decode cS_addPosting 42 = .ok (.getfield 26, 3) := by decide +kernel
theorem dS_addPosting_45 : decode cS_addPosting 45 = .ok (.iconst 1, 1) := by decide +kernel
theorem dS_addPosting_46 : decode cS_addPosting 46 = .ok (.iadd, 1) := by decide +kernel
theorem dS_addPosting_47 : decode cS_addPosting 47 = .ok (.putfield 26, 3) := by decide +kernel
theorem dS_addPosting_50 : decode cS_addPosting 50 = .ok (.aload_n 0, 1) := by decide +kernel
theorem dS_addPosting_51 : decode cS_addPosting 51 = .ok (.getfield 9, 3) := by decide +kernel
theorem dS_addPosting_54 : decode cS_addPosting 54 = .ok (.iload 4, 2) := by decide +kernel
theorem dS_addPosting_56 : decode cS_addPosting 56 = .ok (.dup2, 1) := by decide +kernel
theorem dS_addPosting_57 : decode cS_addPosting 57 = .ok (.iaload, 1) := by decide +kernel
theorem dS_addPosting_58 : decode cS_addPosting 58 = .ok (.iconst 1, 1) := by decide +kernel
theorem dS_addPosting_59 : decode cS_addPosting 59 = .ok (.bipush 8, 2) := by decide +kernel
theorem dS_addPosting_61 : decode cS_addPosting 61 = .ok (.iload_n 2, 1) := by decide +kernel
theorem dS_addPosting_62 : decode cS_addPosting 62 = .ok (.imul, 1) := by decide +kernel
theorem dS_addPosting_63 : decode cS_addPosting 63 = .ok (.iload_n 3, 1) := by decide +kernel
theorem dS_addPosting_64 : decode cS_addPosting 64 = .ok (.iadd, 1) := by decide +kernel
theorem dS_addPosting_65 : decode cS_addPosting 65 = .ok (.ishl, 1) := by decide +kernel
theorem dS_addPosting_66 : decode cS_addPosting 66 = .ok (.ior, 1) := by decide +kernel
theorem dS_addPosting_67 : decode cS_addPosting 67 = .ok (.iastore, 1) := by decide +kernel
theorem dS_addPosting_68 : decode cS_addPosting 68 = .ok (.return_, 1) := by decide +kernel
abbrev cS_placesOf : ByteArray := prog_6_method_3_code
def yS_placesOf : MethodName := ⟨"PostIndex$Segment", "placesOf", "(LPostIndex$Text;I)I"⟩
def fS_placesOf (d : Nat) : zF := (cS_placesOf, 4, yS_placesOf, (some .int), d, 0, 0)
theorem meS_placesOf (d : Nat) : zMe (fS_placesOf d) 2 := ⟨(zA2 (i := 193) rfl rfl), (zA1 (i := 6) rfl rfl), by show "PostIndex$Segment" ≠ _; decide +kernel, by show "PostIndex$Segment" ≠ _; decide +kernel, by show (parseMethodDescriptor "(LPostIndex$Text;I)I").map _ = _; decide +kernel⟩
theorem dS_placesOf_0 : decode cS_placesOf 0 = .ok (.aload_n 0, 1) := by decide +kernel
theorem dS_placesOf_1 : decode cS_placesOf 1 = .ok (.aload_n 1, 1) := by decide +kernel
theorem dS_placesOf_2 : decode cS_placesOf 2 = .ok (.invokevirtual 22, 3) := by decide +kernel
theorem dS_placesOf_5 : decode cS_placesOf 5 = .ok (.istore_n 3, 1) := by decide +kernel
theorem dS_placesOf_6 : decode cS_placesOf 6 = .ok (.iload_n 3, 1) := by decide +kernel
theorem dS_placesOf_7 : decode cS_placesOf 7 = .ok (.aload_n 0, 1) := by decide +kernel
theorem dS_placesOf_8 : decode cS_placesOf 8 = .ok (.getfield 26, 3) := by decide +kernel
theorem dS_placesOf_11 : decode cS_placesOf 11 = .ok (.if_icmp .ge 21, 3) := by decide +kernel
theorem dS_placesOf_14 : decode cS_placesOf 14 = .ok (.aload_n 0, 1) := by decide +kernel
theorem dS_placesOf_15 : decode cS_placesOf 15 = .ok (.getfield 9, 3) := by decide +kernel
theorem dS_placesOf_18 : decode cS_placesOf 18 = .ok (.iload_n 3, 1) := by decide +kernel
theorem dS_placesOf_19 : decode cS_placesOf 19 = .ok (.iaload, 1) := by decide +kernel
theorem dS_placesOf_20 : decode cS_placesOf 20 = .ok (.bipush 8, 2) := by decide +kernel
theorem dS_placesOf_22 : decode cS_placesOf 22 = .ok (.iload_n 2, 1) := by decide +kernel
theorem dS_placesOf_23 : decode cS_placesOf 23 = .ok (.imul, 1) := by decide +kernel
theorem dS_placesOf_24 : decode cS_placesOf 24 = .ok (.iushr, 1) := by decide +kernel
theorem dS_placesOf_25 : decode cS_placesOf 25 = .ok (.sipush 255, 3) := by decide +kernel
theorem dS_placesOf_28 : decode cS_placesOf 28 = .ok (.iand, 1) := by decide +kernel
theorem dS_placesOf_29 : decode cS_placesOf 29 = .ok (.goto 4, 3) := by decide +kernel
theorem dS_placesOf_32 : decode cS_placesOf 32 = .ok (.iconst 0, 1) := by decide +kernel
theorem dS_placesOf_33 : decode cS_placesOf 33 = .ok (.ireturn, 1) := by decide +kernel
abbrev cS_findTerm : ByteArray := prog_6_method_4_code
def yS_findTerm : MethodName := ⟨"PostIndex$Segment", "findTerm", "(LPostIndex$Text;)I"⟩
def fS_findTerm (d : Nat) : zF := (cS_findTerm, 3, yS_findTerm, (some .int), d, 0, 0)
theorem meS_findTerm (d : Nat) : zMe (fS_findTerm d) 1 := ⟨(zA2 (i := 53) rfl rfl), (zA1 (i := 6) rfl rfl), by show "PostIndex$Segment" ≠ _; decide +kernel, by show "PostIndex$Segment" ≠ _; decide +kernel, by show (parseMethodDescriptor "(LPostIndex$Text;)I").map _ = _; decide +kernel⟩
theorem dS_findTerm_0 : decode cS_findTerm 0 = .ok (.iconst 0, 1) := by decide +kernel
theorem dS_findTerm_1 : decode cS_findTerm 1 = .ok (.istore_n 2, 1) := by decide +kernel
theorem dS_findTerm_2 : decode cS_findTerm 2 = .ok (.iload_n 2, 1) := by decide +kernel
theorem dS_findTerm_3 : decode cS_findTerm 3 = .ok (.aload_n 0, 1) := by decide +kernel
theorem dS_findTerm_4 : decode cS_findTerm 4 = .ok (.getfield 26, 3) := by decide +kernel
theorem dS_findTerm_7 : decode cS_findTerm 7 = .ok (.if_icmp .ge 24, 3) := by decide +kernel
theorem dS_findTerm_10 : decode cS_findTerm 10 = .ok (.aload_n 0, 1) := by decide +kernel
theorem dS_findTerm_11 : decode cS_findTerm 11 = .ok (.getfield 17, 3) := by decide +kernel
theorem dS_findTerm_14 : decode cS_findTerm 14 = .ok (.iload_n 2, 1) := by decide +kernel
theorem dS_findTerm_15 : decode cS_findTerm 15 = .ok (.aaload, 1) := by decide +kernel
theorem dS_findTerm_16 : decode cS_findTerm 16 = .ok (.aload_n 1, 1) := by decide +kernel
theorem dS_findTerm_17 : decode cS_findTerm 17 = .ok (.invokevirtual 37, 3) := by decide +kernel
theorem dS_findTerm_20 : decode cS_findTerm 20 = .ok (.ifCond .eq 5, 3) := by decide +kernel
theorem dS_findTerm_23 : decode cS_findTerm 23 = .ok (.iload_n 2, 1) := by decide +kernel
theorem dS_findTerm_24 : decode cS_findTerm 24 = .ok (.ireturn, 1) := by decide +kernel
theorem dS_findTerm_25 : decode cS_findTerm 25 = .ok (.iinc 2 1, 3) := by decide +kernel
theorem dS_findTerm_28 : decode cS_findTerm 28 = .ok (.goto (-26), 3) := by decide +kernel
theorem dS_findTerm_31 : decode cS_findTerm 31 = .ok (.aload_n 0, 1) := by decide +kernel
theorem dS_findTerm_32 : decode cS_findTerm 32 = .ok (.getfield 26, 3) := by decide +kernel
theorem dS_findTerm_35 : decode cS_findTerm 35 = .ok (.ireturn, 1) := by decide +kernel
abbrev cS_rewriteUnit : ByteArray := prog_6_method_5_code
def yS_rewriteUnit : MethodName := ⟨"PostIndex$Segment", "rewriteUnit", "()V"⟩
def fS_rewriteUnit (d : Nat) : zF := (cS_rewriteUnit, 1, yS_rewriteUnit, none, d, 0, 0)
theorem meS_rewriteUnit (d : Nat) : zMe (fS_rewriteUnit d) 0 := ⟨(zA2 (i := 82) rfl rfl), (zA1 (i := 6) rfl rfl), by show "PostIndex$Segment" ≠ _; decide +kernel, by show "PostIndex$Segment" ≠ _; decide +kernel, by show (parseMethodDescriptor "()V").map _ = _; decide +kernel⟩
theorem dS_rewriteUnit_0 : decode cS_rewriteUnit 0 = .ok (.aload_n 0, 1) := by decide +kernel
theorem dS_rewriteUnit_1 : decode cS_rewriteUnit 1 = .ok (.getfield 41, 3) := by decide +kernel
theorem flS_41 : zFld "PostIndex$Segment" 41 4 3 5 := ⟨RS, TS, rfl, by decide, inS, (zA1 (i := 123) rfl rfl)⟩
theorem dS_rewriteUnit_4 : decode cS_rewriteUnit 4 = .ok (.aload_n 0, 1) := by decide +kernel
theorem dS_rewriteUnit_5 : decode cS_rewriteUnit 5 = .ok (.getfield 26, 3) := by decide +kernel
theorem dS_rewriteUnit_8 : decode cS_rewriteUnit 8 = .ok (.if_icmp .ge 16, 3) := by decide +kernel
theorem dS_rewriteUnit_11 : decode cS_rewriteUnit 11 = .ok (.aload_n 0, 1) := by decide +kernel
theorem dS_rewriteUnit_12 : decode cS_rewriteUnit 12 = .ok (.dup, 1) := by decide +kernel
theorem dS_rewriteUnit_13 : decode cS_rewriteUnit 13 = .ok (.getfield 41, 3) := by decide +kernel
theorem dS_rewriteUnit_16 : decode cS_rewriteUnit 16 = .ok (.iconst 1, 1) := by decide +kernel
theorem dS_rewriteUnit_17 : decode cS_rewriteUnit 17 = .ok (.iadd, 1) := by decide +kernel
theorem dS_rewriteUnit_18 : decode cS_rewriteUnit 18 = .ok (.putfield 41, 3) := by decide +kernel
theorem dS_rewriteUnit_21 : decode cS_rewriteUnit 21 = .ok (.goto 8, 3) := by decide +kernel
theorem dS_rewriteUnit_24 : decode cS_rewriteUnit 24 = .ok (.aload_n 0, 1) := by decide +kernel
theorem dS_rewriteUnit_25 : decode cS_rewriteUnit 25 = .ok (.iconst 1, 1) := by decide +kernel
theorem dS_rewriteUnit_26 : decode cS_rewriteUnit 26 = .ok (.putfield 44, 3) := by decide +kernel
theorem flS_44 : zFld "PostIndex$Segment" 44 4 4 5 := ⟨RS, TS, rfl, by decide, inS, (zA1 (i := 125) rfl rfl)⟩
theorem dS_rewriteUnit_29 : decode cS_rewriteUnit 29 = .ok (.return_, 1) := by decide +kernel
abbrev cS_countPostings : ByteArray := prog_6_method_6_code
def yS_countPostings : MethodName := ⟨"PostIndex$Segment", "countPostings", "()I"⟩
def fS_countPostings (d : Nat) : zF := (cS_countPostings, 3, yS_countPostings, (some .int), d, 0, 0)
theorem meS_countPostings (d : Nat) : zMe (fS_countPostings d) 0 := ⟨(zA2 (i := 237) rfl rfl), (zA1 (i := 6) rfl rfl), by show "PostIndex$Segment" ≠ _; decide +kernel, by show "PostIndex$Segment" ≠ _; decide +kernel, by show (parseMethodDescriptor "()I").map _ = _; decide +kernel⟩
theorem dS_countPostings_0 : decode cS_countPostings 0 = .ok (.iconst 0, 1) := by decide +kernel
theorem dS_countPostings_1 : decode cS_countPostings 1 = .ok (.istore_n 1, 1) := by decide +kernel
theorem dS_countPostings_2 : decode cS_countPostings 2 = .ok (.iconst 0, 1) := by decide +kernel
theorem dS_countPostings_3 : decode cS_countPostings 3 = .ok (.istore_n 2, 1) := by decide +kernel
theorem dS_countPostings_4 : decode cS_countPostings 4 = .ok (.iload_n 2, 1) := by decide +kernel
theorem dS_countPostings_5 : decode cS_countPostings 5 = .ok (.aload_n 0, 1) := by decide +kernel
theorem dS_countPostings_6 : decode cS_countPostings 6 = .ok (.getfield 26, 3) := by decide +kernel
theorem dS_countPostings_9 : decode cS_countPostings 9 = .ok (.if_icmp .ge 21, 3) := by decide +kernel
theorem dS_countPostings_12 : decode cS_countPostings 12 = .ok (.iload_n 1, 1) := by decide +kernel
theorem dS_countPostings_13 : decode cS_countPostings 13 = .ok (.aload_n 0, 1) := by decide +kernel
theorem dS_countPostings_14 : decode cS_countPostings 14 = .ok (.getfield 9, 3) := by decide +kernel
theorem dS_countPostings_17 : decode cS_countPostings 17 = .ok (.iload_n 2, 1) := by decide +kernel
theorem dS_countPostings_18 : decode cS_countPostings 18 = .ok (.iaload, 1) := by decide +kernel
theorem dS_countPostings_19 : decode cS_countPostings 19 = .ok (.invokestatic 48, 3) := by decide +kernel
theorem dS_countPostings_22 : decode cS_countPostings 22 = .ok (.iadd, 1) := by decide +kernel
theorem dS_countPostings_23 : decode cS_countPostings 23 = .ok (.istore_n 1, 1) := by decide +kernel
theorem dS_countPostings_24 : decode cS_countPostings 24 = .ok (.iinc 2 1, 3) := by decide +kernel
theorem dS_countPostings_27 : decode cS_countPostings 27 = .ok (.goto (-23), 3) := by decide +kernel
theorem dS_countPostings_30 : decode cS_countPostings 30 = .ok (.iload_n 1, 1) := by decide +kernel
theorem dS_countPostings_31 : decode cS_countPostings 31 = .ok (.ireturn, 1) := by decide +kernel
abbrev cS_countCells : ByteArray := prog_6_method_7_code
def yS_countCells : MethodName := ⟨"PostIndex$Segment", "countCells", "()I"⟩
def fS_countCells (d : Nat) : zF := (cS_countCells, 3, yS_countCells, (some .int), d, 0, 0)
theorem meS_countCells (d : Nat) : zMe (fS_countCells d) 0 := ⟨(zA2 (i := 213) rfl rfl), (zA1 (i := 6) rfl rfl), by show "PostIndex$Segment" ≠ _; decide +kernel, by show "PostIndex$Segment" ≠ _; decide +kernel, by show (parseMethodDescriptor "()I").map _ = _; decide +kernel⟩
theorem dS_countCells_0 : decode cS_countCells 0 = .ok (.iconst 0, 1) := by decide +kernel
theorem dS_countCells_1 : decode cS_countCells 1 = .ok (.istore_n 1, 1) := by decide +kernel
theorem dS_countCells_2 : decode cS_countCells 2 = .ok (.iconst 0, 1) := by decide +kernel
theorem dS_countCells_3 : decode cS_countCells 3 = .ok (.istore_n 2, 1) := by decide +kernel
theorem dS_countCells_4 : decode cS_countCells 4 = .ok (.iload_n 2, 1) := by decide +kernel
theorem dS_countCells_5 : decode cS_countCells 5 = .ok (.aload_n 0, 1) := by decide +kernel
theorem dS_countCells_6 : decode cS_countCells 6 = .ok (.getfield 26, 3) := by decide +kernel
theorem dS_countCells_9 : decode cS_countCells 9 = .ok (.if_icmp .ge 43, 3) := by decide +kernel
theorem dS_countCells_12 : decode cS_countCells 12 = .ok (.iload_n 1, 1) := by decide +kernel
theorem dS_countCells_13 : decode cS_countCells 13 = .ok (.aload_n 0, 1) := by decide +kernel
theorem dS_countCells_14 : decode cS_countCells 14 = .ok (.getfield 44, 3) := by decide +kernel
theorem dS_countCells_17 : decode cS_countCells 17 = .ok (.ifCond .eq 15, 3) := by decide +kernel
theorem dS_countCells_20 : decode cS_countCells 20 = .ok (.aload_n 0, 1) := by decide +kernel
theorem dS_countCells_21 : decode cS_countCells 21 = .ok (.getfield 9, 3) := by decide +kernel
theorem dS_countCells_24 : decode cS_countCells 24 = .ok (.iload_n 2, 1) := by decide +kernel
theorem dS_countCells_25 : decode cS_countCells 25 = .ok (.iaload, 1) := by decide +kernel
theorem dS_countCells_26 : decode cS_countCells 26 = .ok (.invokestatic 54, 3) := by decide +kernel
theorem dS_countCells_29 : decode cS_countCells 29 = .ok (.goto 15, 3) := by decide +kernel
theorem dS_countCells_32 : decode cS_countCells 32 = .ok (.aload_n 0, 1) := by decide +kernel
theorem dS_countCells_33 : decode cS_countCells 33 = .ok (.getfield 9, 3) := by decide +kernel
theorem dS_countCells_36 : decode cS_countCells 36 = .ok (.iload_n 2, 1) := by decide +kernel
theorem dS_countCells_37 : decode cS_countCells 37 = .ok (.iaload, 1) := by decide +kernel
theorem dS_countCells_38 : decode cS_countCells 38 = .ok (.invokestatic 48, 3) := by decide +kernel
theorem dS_countCells_41 : decode cS_countCells 41 = .ok (.invokestatic 57, 3) := by decide +kernel
theorem dS_countCells_44 : decode cS_countCells 44 = .ok (.iadd, 1) := by decide +kernel
theorem dS_countCells_45 : decode cS_countCells 45 = .ok (.istore_n 1, 1) := by decide +kernel
theorem dS_countCells_46 : decode cS_countCells 46 = .ok (.iinc 2 1, 3) := by decide +kernel
theorem dS_countCells_49 : decode cS_countCells 49 = .ok (.goto (-45), 3) := by decide +kernel
theorem dS_countCells_52 : decode cS_countCells 52 = .ok (.iload_n 1, 1) := by decide +kernel
theorem dS_countCells_53 : decode cS_countCells 53 = .ok (.ireturn, 1) := by decide +kernel
abbrev cS_sliceCellsFor : ByteArray := prog_6_method_8_code
def yS_sliceCellsFor : MethodName := ⟨"PostIndex$Segment", "sliceCellsFor", "(I)I"⟩
def fS_sliceCellsFor (d : Nat) : zF := (cS_sliceCellsFor, 4, yS_sliceCellsFor, (some .int), d, 0, 0)
theorem meS_sliceCellsFor (d : Nat) : zMe (fS_sliceCellsFor d) 1 := ⟨(zA2 (i := 225) rfl rfl), (zA1 (i := 6) rfl rfl), by show "PostIndex$Segment" ≠ _; decide +kernel, by show "PostIndex$Segment" ≠ _; decide +kernel, by show (parseMethodDescriptor "(I)I").map _ = _; decide +kernel⟩
theorem dS_sliceCellsFor_0 : decode cS_sliceCellsFor 0 = .ok (.iconst 2, 1) := by decide +kernel
theorem dS_sliceCellsFor_1 : decode cS_sliceCellsFor 1 = .ok (.istore_n 1, 1) := by decide +kernel
theorem dS_sliceCellsFor_2 : decode cS_sliceCellsFor 2 = .ok (.iconst 4, 1) := by decide +kernel
theorem dS_sliceCellsFor_3 : decode cS_sliceCellsFor 3 = .ok (.istore_n 2, 1) := by decide +kernel
theorem dS_sliceCellsFor_4 : decode cS_sliceCellsFor 4 = .ok (.iconst 2, 1) := by decide +kernel
theorem dS_sliceCellsFor_5 : decode cS_sliceCellsFor 5 = .ok (.istore_n 3, 1) := by decide +kernel
theorem dS_sliceCellsFor_6 : decode cS_sliceCellsFor 6 = .ok (.iload_n 3, 1) := by decide +kernel
theorem dS_sliceCellsFor_7 : decode cS_sliceCellsFor 7 = .ok (.iload_n 0, 1) := by decide +kernel
theorem dS_sliceCellsFor_8 : decode cS_sliceCellsFor 8 = .ok (.if_icmp .ge 19, 3) := by decide +kernel
theorem dS_sliceCellsFor_11 : decode cS_sliceCellsFor 11 = .ok (.iload_n 1, 1) := by decide +kernel
theorem dS_sliceCellsFor_12 : decode cS_sliceCellsFor 12 = .ok (.iload_n 2, 1) := by decide +kernel
theorem dS_sliceCellsFor_13 : decode cS_sliceCellsFor 13 = .ok (.iadd, 1) := by decide +kernel
theorem dS_sliceCellsFor_14 : decode cS_sliceCellsFor 14 = .ok (.istore_n 1, 1) := by decide +kernel
theorem dS_sliceCellsFor_15 : decode cS_sliceCellsFor 15 = .ok (.iload_n 3, 1) := by decide +kernel
theorem dS_sliceCellsFor_16 : decode cS_sliceCellsFor 16 = .ok (.iload_n 2, 1) := by decide +kernel
theorem dS_sliceCellsFor_17 : decode cS_sliceCellsFor 17 = .ok (.iconst 1, 1) := by decide +kernel
theorem dS_sliceCellsFor_18 : decode cS_sliceCellsFor 18 = .ok (.isub, 1) := by decide +kernel
theorem dS_sliceCellsFor_19 : decode cS_sliceCellsFor 19 = .ok (.iadd, 1) := by decide +kernel
theorem dS_sliceCellsFor_20 : decode cS_sliceCellsFor 20 = .ok (.istore_n 3, 1) := by decide +kernel
theorem dS_sliceCellsFor_21 : decode cS_sliceCellsFor 21 = .ok (.bipush 8, 2) := by decide +kernel
theorem dS_sliceCellsFor_23 : decode cS_sliceCellsFor 23 = .ok (.istore_n 2, 1) := by decide +kernel
theorem dS_sliceCellsFor_24 : decode cS_sliceCellsFor 24 = .ok (.goto (-18), 3) := by decide +kernel
theorem dS_sliceCellsFor_27 : decode cS_sliceCellsFor 27 = .ok (.iload_n 1, 1) := by decide +kernel
theorem dS_sliceCellsFor_28 : decode cS_sliceCellsFor 28 = .ok (.ireturn, 1) := by decide +kernel
abbrev cS_piecesFor : ByteArray := prog_6_method_9_code
def yS_piecesFor : MethodName := ⟨"PostIndex$Segment", "piecesFor", "(I)I"⟩
def fS_piecesFor (d : Nat) : zF := (cS_piecesFor, 5, yS_piecesFor, (some .int), d, 0, 0)
theorem meS_piecesFor (d : Nat) : zMe (fS_piecesFor d) 1 := ⟨(zA2 (i := 216) rfl rfl), (zA1 (i := 6) rfl rfl), by show "PostIndex$Segment" ≠ _; decide +kernel, by show "PostIndex$Segment" ≠ _; decide +kernel, by show (parseMethodDescriptor "(I)I").map _ = _; decide +kernel⟩
theorem dS_piecesFor_0 : decode cS_piecesFor 0 = .ok (.iconst 0, 1) := by decide +kernel
theorem dS_piecesFor_1 : decode cS_piecesFor 1 = .ok (.istore_n 1, 1) := by decide +kernel
theorem dS_piecesFor_2 : decode cS_piecesFor 2 = .ok (.bipush 32, 2) := by decide +kernel
theorem dS_piecesFor_4 : decode cS_piecesFor 4 = .ok (.istore_n 2, 1) := by decide +kernel
theorem dS_piecesFor_5 : decode cS_piecesFor 5 = .ok (.bipush 31, 2) := by decide +kernel
theorem dS_piecesFor_7 : decode cS_piecesFor 7 = .ok (.istore_n 3, 1) := by decide +kernel
theorem dS_piecesFor_8 : decode cS_piecesFor 8 = .ok (.iload_n 3, 1) := by decide +kernel
theorem dS_piecesFor_9 : decode cS_piecesFor 9 = .ok (.ifCond .lt 50, 3) := by decide +kernel
theorem dS_piecesFor_12 : decode cS_piecesFor 12 = .ok (.iload_n 0, 1) := by decide +kernel
theorem dS_piecesFor_13 : decode cS_piecesFor 13 = .ok (.iload_n 3, 1) := by decide +kernel
theorem dS_piecesFor_14 : decode cS_piecesFor 14 = .ok (.iushr, 1) := by decide +kernel
theorem dS_piecesFor_15 : decode cS_piecesFor 15 = .ok (.iconst 1, 1) := by decide +kernel
theorem dS_piecesFor_16 : decode cS_piecesFor 16 = .ok (.iand, 1) := by decide +kernel
theorem dS_piecesFor_17 : decode cS_piecesFor 17 = .ok (.iconst 1, 1) := by decide +kernel
theorem dS_piecesFor_18 : decode cS_piecesFor 18 = .ok (.if_icmp .ne 35, 3) := by decide +kernel
theorem dS_piecesFor_21 : decode cS_piecesFor 21 = .ok (.iload_n 2, 1) := by decide +kernel
theorem dS_piecesFor_22 : decode cS_piecesFor 22 = .ok (.iload_n 3, 1) := by decide +kernel
theorem dS_piecesFor_23 : decode cS_piecesFor 23 = .ok (.isub, 1) := by decide +kernel
theorem dS_piecesFor_24 : decode cS_piecesFor 24 = .ok (.istore 4, 2) := by decide +kernel
theorem dS_piecesFor_26 : decode cS_piecesFor 26 = .ok (.iload_n 1, 1) := by decide +kernel
theorem dS_piecesFor_27 : decode cS_piecesFor 27 = .ok (.iload 4, 2) := by decide +kernel
theorem dS_piecesFor_29 : decode cS_piecesFor 29 = .ok (.iconst 4, 1) := by decide +kernel
theorem dS_piecesFor_30 : decode cS_piecesFor 30 = .ok (.if_icmp .ge 7, 3) := by decide +kernel
theorem dS_piecesFor_33 : decode cS_piecesFor 33 = .ok (.iconst 1, 1) := by decide +kernel
theorem dS_piecesFor_34 : decode cS_piecesFor 34 = .ok (.goto 15, 3) := by decide +kernel
theorem dS_piecesFor_37 : decode cS_piecesFor 37 = .ok (.iload 4, 2) := by decide +kernel
theorem dS_piecesFor_39 : decode cS_piecesFor 39 = .ok (.bipush 16, 2) := by decide +kernel
theorem dS_piecesFor_41 : decode cS_piecesFor 41 = .ok (.if_icmp .ge 7, 3) := by decide +kernel
theorem dS_piecesFor_44 : decode cS_piecesFor 44 = .ok (.iconst 2, 1) := by decide +kernel
theorem dS_piecesFor_45 : decode cS_piecesFor 45 = .ok (.goto 4, 3) := by decide +kernel
theorem dS_piecesFor_48 : decode cS_piecesFor 48 = .ok (.iconst 3, 1) := by decide +kernel
theorem dS_piecesFor_49 : decode cS_piecesFor 49 = .ok (.iadd, 1) := by decide +kernel
theorem dS_piecesFor_50 : decode cS_piecesFor 50 = .ok (.istore_n 1, 1) := by decide +kernel
theorem dS_piecesFor_51 : decode cS_piecesFor 51 = .ok (.iload_n 3, 1) := by decide +kernel
theorem dS_piecesFor_52 : decode cS_piecesFor 52 = .ok (.istore_n 2, 1) := by decide +kernel
theorem dS_piecesFor_53 : decode cS_piecesFor 53 = .ok (.iinc 3 (-1), 3) := by decide +kernel
theorem dS_piecesFor_56 : decode cS_piecesFor 56 = .ok (.goto (-48), 3) := by decide +kernel
theorem dS_piecesFor_59 : decode cS_piecesFor 59 = .ok (.iload_n 1, 1) := by decide +kernel
theorem dS_piecesFor_60 : decode cS_piecesFor 60 = .ok (.ireturn, 1) := by decide +kernel
theorem lkS_21 : zLi "PostIndex$Segment" 21 yT_init := ⟨(zA1 (i := 118) rfl rfl), (zA1 (i := 23) rfl rfl), rfl⟩
theorem lkS_22 : zLv "PostIndex$Segment" 22 yS_findTerm := ⟨(zA2 (i := 50) rfl rfl), (zA2 (i := 52) rfl rfl), (zA0 (i := 3) (q := (yS_findTerm, 5)) rfl rfl)⟩
theorem lkS_33 : zLv "PostIndex$Segment" 33 yT_setFolded := ⟨(zA2 (i := 58) rfl rfl), (zA2 (i := 41) rfl rfl), (zA2 (i := 42) rfl rfl)⟩
theorem lkS_37 : zLv "PostIndex$Segment" 37 yT_isSame := ⟨(zA2 (i := 54) rfl rfl), (zA2 (i := 55) rfl rfl), (zA2 (i := 56) rfl rfl)⟩
theorem lkS_48 : zLs "PostIndex$Segment" 48 yI_bitCount := ⟨(zA2 (i := 217) rfl rfl), (zA2 (i := 218) rfl rfl)⟩
theorem lkS_54 : zLs "PostIndex$Segment" 54 yS_piecesFor := ⟨(zA2 (i := 214) rfl rfl), (zA2 (i := 215) rfl rfl)⟩
theorem lkS_57 : zLs "PostIndex$Segment" 57 yS_sliceCellsFor := ⟨(zA2 (i := 223) rfl rfl), (zA2 (i := 224) rfl rfl)⟩
