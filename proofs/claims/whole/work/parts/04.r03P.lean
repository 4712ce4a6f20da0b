abbrev cP_init : ByteArray := prog_2_method_1_code
def yP_init : MethodName := ⟨"PostIndex$Post", "<init>", "()V"⟩
def fP_init (d : Nat) : zF := (cP_init, 1, yP_init, none, d, 2, 26)
theorem meP_init (d : Nat) : zMe (fP_init d) 0 := ⟨(zA1 (i := 90) rfl rfl), (zA1 (i := 5) rfl rfl), by show "PostIndex$Post" ≠ _; decide +kernel, by show "PostIndex$Post" ≠ _; decide +kernel, by show (parseMethodDescriptor "()V").map _ = _; decide +kernel⟩
theorem dP_init_0 : decode cP_init 0 = .ok (.aload_n 0, 1) := by decide +kernel
theorem dP_init_1 : decode cP_init 1 = .ok (.invokespecial 1, 3) := by decide +kernel
theorem lkP_1 : Cond.methodLink "PostIndex$Post" 1 Lib.objectInit ∈ zAll ∧ Cond.instanceMethod Lib.objectInit ∈ zAll ∧ Cond.code Lib.objectInit ⟨#[0xb1]⟩ 1 none ∈ zAll := ⟨(zA1 (i := 91) rfl rfl), (zA1 (i := 18) rfl rfl), (zA1 (i := 19) rfl rfl)⟩
theorem dP_init_4 : decode cP_init 4 = .ok (.aload_n 0, 1) := by decide +kernel
theorem dP_init_5 : decode cP_init 5 = .ok (.new 7, 3) := by decide +kernel
theorem nwP_7 : zNew "PostIndex$Post" 7 5 2 (fun k => defaultValue (tyT k)) := ⟨RT, TT, tyT, rfl, inT, tyT_ok, (zA1 (i := 92) rfl rfl), (zA1 (i := 21) rfl rfl), (zA1 (i := 2) rfl rfl), fun _ _ => rfl⟩
theorem dP_init_8 : decode cP_init 8 = .ok (.dup, 1) := by decide +kernel
theorem dP_init_9 : decode cP_init 9 = .ok (.invokespecial 9, 3) := by decide +kernel
theorem dP_init_12 : decode cP_init 12 = .ok (.putfield 10, 3) := by decide +kernel
theorem flP_10 : zFld "PostIndex$Post" 10 0 0 4 := ⟨RP, TP, rfl, by decide, inP, (zA1 (i := 94) rfl rfl)⟩
theorem dP_init_15 : decode cP_init 15 = .ok (.return_, 1) := by decide +kernel
abbrev cP_fill : ByteArray := prog_2_method_2_code
def yP_fill : MethodName := ⟨"PostIndex$Post", "fill", "(IILPostIndex$Text;)V"⟩
def fP_fill (d : Nat) : zF := (cP_fill, 4, yP_fill, none, d, 0, 0)
theorem meP_fill (d : Nat) : zMe (fP_fill d) 3 := ⟨(zA2 (i := 4) rfl rfl), (zA1 (i := 5) rfl rfl), by show "PostIndex$Post" ≠ _; decide +kernel, by show "PostIndex$Post" ≠ _; decide +kernel, by show (parseMethodDescriptor "(IILPostIndex$Text;)V").map _ = _; decide +kernel⟩
theorem dP_fill_0 : decode cP_fill 0 = .ok (.aload_n 0, 1) := by decide +kernel
theorem dP_fill_1 : decode cP_fill 1 = .ok (.iload_n 1, 1) := by decide +kernel
theorem dP_fill_2 : decode cP_fill 2 = .ok (.putfield 16, 3) := by decide +kernel
theorem flP_16 : zFld "PostIndex$Post" 16 0 1 4 := ⟨RP, TP, rfl, by decide, inP, (zA1 (i := 96) rfl rfl)⟩
theorem dP_fill_5 : decode cP_fill 5 = .ok (.aload_n 0, 1) := by decide +kernel
theorem dP_fill_6 : decode cP_fill 6 = .ok (.iload_n 2, 1) := by decide +kernel
theorem dP_fill_7 : decode cP_fill 7 = .ok (.putfield 20, 3) := by decide +kernel
theorem flP_20 : zFld "PostIndex$Post" 20 0 2 4 := ⟨RP, TP, rfl, by decide, inP, (zA1 (i := 98) rfl rfl)⟩
theorem dP_fill_10 : decode cP_fill 10 = .ok (.aload_n 0, 1) := by decide +kernel
theorem dP_fill_11 : decode cP_fill 11 = .ok (.getfield 10, 3) := by decide +kernel
theorem dP_fill_14 : decode cP_fill 14 = .ok (.invokevirtual 23, 3) := by decide +kernel
theorem dP_fill_17 : decode cP_fill 17 = .ok (.aload_n 0, 1) := by decide +kernel
theorem dP_fill_18 : decode cP_fill 18 = .ok (.getfield 10, 3) := by decide +kernel
theorem dP_fill_21 : decode cP_fill 21 = .ok (.aload_n 3, 1) := by decide +kernel
theorem dP_fill_22 : decode cP_fill 22 = .ok (.invokevirtual 26, 3) := by decide +kernel
theorem dP_fill_25 : decode cP_fill 25 = .ok (.pop, 1) := by decide +kernel
theorem dP_fill_26 : decode cP_fill 26 = .ok (.return_, 1) := by decide +kernel
theorem lkP_9 : zLi "PostIndex$Post" 9 yT_init := ⟨(zA1 (i := 93) rfl rfl), (zA1 (i := 23) rfl rfl), rfl⟩
theorem lkP_23 : zLv "PostIndex$Post" 23 yT_makeEmpty := ⟨(zA2 (i := 5) rfl rfl), (zA1 (i := 230) rfl rfl), (zA1 (i := 231) rfl rfl)⟩
theorem lkP_26 : zLv "PostIndex$Post" 26 yT_appendBeginning := ⟨(zA2 (i := 6) rfl rfl), (zA1 (i := 216) rfl rfl), (zA1 (i := 217) rfl rfl)⟩
