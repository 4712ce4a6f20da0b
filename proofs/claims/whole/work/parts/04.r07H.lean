abbrev cH_init : ByteArray := prog_5_method_1_code
def yH_init : MethodName := ⟨"PostIndex$Search", "<init>", "()V"⟩
def fH_init (d : Nat) : zF := (cH_init, 1, yH_init, none, d, 29, 474)
theorem meH_init (d : Nat) : zMe (fH_init d) 0 := ⟨(zA1 (i := 143) rfl rfl), (zA1 (i := 7) rfl rfl), by show "PostIndex$Search" ≠ _; decide +kernel, by show "PostIndex$Search" ≠ _; decide +kernel, by show (parseMethodDescriptor "()V").map _ = _; decide +kernel⟩
theorem dH_init_0 : decode cH_init 0 = .ok (.aload_n 0, 1) := by decide +kernel
theorem dH_init_1 : decode cH_init 1 = .ok (.invokespecial 1, 3) := by decide +kernel
theorem lkH_1 : Cond.methodLink "PostIndex$Search" 1 Lib.objectInit ∈ zAll ∧ Cond.instanceMethod Lib.objectInit ∈ zAll ∧ Cond.code Lib.objectInit ⟨#[0xb1]⟩ 1 none ∈ zAll := ⟨(zA1 (i := 144) rfl rfl), (zA1 (i := 18) rfl rfl), (zA1 (i := 19) rfl rfl)⟩
theorem dH_init_4 : decode cH_init 4 = .ok (.aload_n 0, 1) := by decide +kernel
theorem dH_init_5 : decode cH_init 5 = .ok (.new 7, 3) := by decide +kernel
theorem nwH_7 : zNew "PostIndex$Search" 7 1 6 (fun k => defaultValue (tyQ k)) := ⟨RQ, TQ, tyQ, rfl, inQ, tyQ_ok, (zA1 (i := 145) rfl rfl), (zA1 (i := 46) rfl rfl), (zA1 (i := 4) rfl rfl), fun _ _ => rfl⟩
theorem dH_init_8 : decode cH_init 8 = .ok (.dup, 1) := by decide +kernel
theorem dH_init_9 : decode cH_init 9 = .ok (.invokespecial 9, 3) := by decide +kernel
theorem dH_init_12 : decode cH_init 12 = .ok (.putfield 10, 3) := by decide +kernel
theorem flH_10 : zFld "PostIndex$Search" 10 3 0 3 := ⟨RH, TH, rfl, by decide, inH, (zA1 (i := 147) rfl rfl)⟩
theorem dH_init_15 : decode cH_init 15 = .ok (.return_, 1) := by decide +kernel
theorem lkH_9 : zLi "PostIndex$Search" 9 yQ_init := ⟨(zA1 (i := 146) rfl rfl), (zA1 (i := 48) rfl rfl), rfl⟩
