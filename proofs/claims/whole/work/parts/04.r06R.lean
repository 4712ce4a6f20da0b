abbrev cR_init : ByteArray := prog_4_method_1_code
def yR_init : MethodName := ⟨"PostIndex$QueryReader", "<init>", "()V"⟩
def fR_init (d : Nat) : zF := (cR_init, 1, yR_init, none, d, 31, 500)
theorem meR_init (d : Nat) : zMe (fR_init d) 0 := ⟨(zA1 (i := 41) rfl rfl), (zA1 (i := 3) rfl rfl), by show "PostIndex$QueryReader" ≠ _; decide +kernel, by show "PostIndex$QueryReader" ≠ _; decide +kernel, by show (parseMethodDescriptor "()V").map _ = _; decide +kernel⟩
theorem dR_init_0 : decode cR_init 0 = .ok (.aload_n 0, 1) := by decide +kernel
theorem dR_init_1 : decode cR_init 1 = .ok (.invokespecial 3, 3) := by decide +kernel
theorem lkR_3 : Cond.methodLink "PostIndex$QueryReader" 3 Lib.objectInit ∈ zAll ∧ Cond.instanceMethod Lib.objectInit ∈ zAll ∧ Cond.code Lib.objectInit ⟨#[0xb1]⟩ 1 none ∈ zAll := ⟨(zA1 (i := 42) rfl rfl), (zA1 (i := 18) rfl rfl), (zA1 (i := 19) rfl rfl)⟩
theorem dR_init_4 : decode cR_init 4 = .ok (.aload_n 0, 1) := by decide +kernel
theorem dR_init_5 : decode cR_init 5 = .ok (.new 9, 3) := by decide +kernel
theorem nwR_9 : zNew "PostIndex$QueryReader" 9 5 2 (fun k => defaultValue (tyT k)) := ⟨RT, TT, tyT, rfl, inT, tyT_ok, (zA1 (i := 43) rfl rfl), (zA1 (i := 21) rfl rfl), (zA1 (i := 2) rfl rfl), fun _ _ => rfl⟩
theorem dR_init_8 : decode cR_init 8 = .ok (.dup, 1) := by decide +kernel
theorem dR_init_9 : decode cR_init 9 = .ok (.invokespecial 11, 3) := by decide +kernel
theorem dR_init_12 : decode cR_init 12 = .ok (.putfield 12, 3) := by decide +kernel
theorem flR_12 : zFld "PostIndex$QueryReader" 12 2 0 3 := ⟨RR, TR, rfl, by decide, inR, (zA1 (i := 75) rfl rfl)⟩
theorem dR_init_15 : decode cR_init 15 = .ok (.aload_n 0, 1) := by decide +kernel
theorem dR_init_16 : decode cR_init 16 = .ok (.new 18, 3) := by decide +kernel
theorem nwR_18 : zNew "PostIndex$QueryReader" 18 1 6 (fun k => defaultValue (tyQ k)) := ⟨RQ, TQ, tyQ, rfl, inQ, tyQ_ok, (zA1 (i := 45) rfl rfl), (zA1 (i := 46) rfl rfl), (zA1 (i := 4) rfl rfl), fun _ _ => rfl⟩
theorem dR_init_19 : decode cR_init 19 = .ok (.dup, 1) := by decide +kernel
theorem dR_init_20 : decode cR_init 20 = .ok (.invokespecial 20, 3) := by decide +kernel
theorem dR_init_23 : decode cR_init 23 = .ok (.putfield 21, 3) := by decide +kernel
theorem flR_21 : zFld "PostIndex$QueryReader" 21 2 1 3 := ⟨RR, TR, rfl, by decide, inR, (zA1 (i := 76) rfl rfl)⟩
theorem dR_init_26 : decode cR_init 26 = .ok (.return_, 1) := by decide +kernel
abbrev cR_exchange : ByteArray := prog_4_method_2_code
def yR_exchange : MethodName := ⟨"PostIndex$QueryReader", "exchange", "(LPostIndex$Query;)LPostIndex$Query;"⟩
def fR_exchange (d : Nat) : zF := (cR_exchange, 3, yR_exchange, (some (.object "PostIndex$Query")), d, 0, 0)
theorem meR_exchange (d : Nat) : zMe (fR_exchange d) 1 := ⟨(zA2 (i := 165) rfl rfl), (zA1 (i := 3) rfl rfl), by show "PostIndex$QueryReader" ≠ _; decide +kernel, by show "PostIndex$QueryReader" ≠ _; decide +kernel, by show (parseMethodDescriptor "(LPostIndex$Query;)LPostIndex$Query;").map _ = _; decide +kernel⟩
theorem dR_exchange_0 : decode cR_exchange 0 = .ok (.aload_n 0, 1) := by decide +kernel
theorem dR_exchange_1 : decode cR_exchange 1 = .ok (.getfield 21, 3) := by decide +kernel
theorem dR_exchange_4 : decode cR_exchange 4 = .ok (.astore_n 2, 1) := by decide +kernel
theorem dR_exchange_5 : decode cR_exchange 5 = .ok (.aload_n 0, 1) := by decide +kernel
theorem dR_exchange_6 : decode cR_exchange 6 = .ok (.aload_n 1, 1) := by decide +kernel
theorem dR_exchange_7 : decode cR_exchange 7 = .ok (.putfield 21, 3) := by decide +kernel
theorem dR_exchange_10 : decode cR_exchange 10 = .ok (.aload_n 2, 1) := by decide +kernel
theorem dR_exchange_11 : decode cR_exchange 11 = .ok (.areturn, 1) := by decide +kernel
abbrev cR_read : ByteArray := prog_4_method_3_code
def yR_read : MethodName := ⟨"PostIndex$QueryReader", "read", "(LPostIndex$Text;)Z"⟩
def fR_read (d : Nat) : zF := (cR_read, 2, yR_read, (some .boolean), d, 0, 0)
theorem meR_read (d : Nat) : zMe (fR_read d) 1 := ⟨(zA2 (i := 90) rfl rfl), (zA1 (i := 3) rfl rfl), by show "PostIndex$QueryReader" ≠ _; decide +kernel, by show "PostIndex$QueryReader" ≠ _; decide +kernel, by show (parseMethodDescriptor "(LPostIndex$Text;)Z").map _ = _; decide +kernel⟩
theorem dR_read_0 : decode cR_read 0 = .ok (.aload_n 0, 1) := by decide +kernel
theorem dR_read_1 : decode cR_read 1 = .ok (.getfield 12, 3) := by decide +kernel
theorem dR_read_4 : decode cR_read 4 = .ok (.invokevirtual 25, 3) := by decide +kernel
theorem dR_read_7 : decode cR_read 7 = .ok (.aload_n 0, 1) := by decide +kernel
theorem dR_read_8 : decode cR_read 8 = .ok (.getfield 12, 3) := by decide +kernel
theorem dR_read_11 : decode cR_read 11 = .ok (.aload_n 1, 1) := by decide +kernel
theorem dR_read_12 : decode cR_read 12 = .ok (.invokevirtual 28, 3) := by decide +kernel
theorem dR_read_15 : decode cR_read 15 = .ok (.pop, 1) := by decide +kernel
theorem dR_read_16 : decode cR_read 16 = .ok (.aload_n 0, 1) := by decide +kernel
theorem dR_read_17 : decode cR_read 17 = .ok (.getfield 21, 3) := by decide +kernel
theorem dR_read_20 : decode cR_read 20 = .ok (.invokevirtual 32, 3) := by decide +kernel
theorem dR_read_23 : decode cR_read 23 = .ok (.aload_n 0, 1) := by decide +kernel
theorem dR_read_24 : decode cR_read 24 = .ok (.iconst 0, 1) := by decide +kernel
theorem dR_read_25 : decode cR_read 25 = .ok (.putfield 33, 3) := by decide +kernel
theorem flR_33 : zFld "PostIndex$QueryReader" 33 2 2 3 := ⟨RR, TR, rfl, by decide, inR, (zA1 (i := 77) rfl rfl)⟩
theorem dR_read_28 : decode cR_read 28 = .ok (.aload_n 0, 1) := by decide +kernel
theorem dR_read_29 : decode cR_read 29 = .ok (.iconst 0, 1) := by decide +kernel
theorem dR_read_30 : decode cR_read 30 = .ok (.invokevirtual 37, 3) := by decide +kernel
theorem dR_read_33 : decode cR_read 33 = .ok (.ifCond .eq 14, 3) := by decide +kernel
theorem dR_read_36 : decode cR_read 36 = .ok (.aload_n 0, 1) := by decide +kernel
theorem dR_read_37 : decode cR_read 37 = .ok (.invokevirtual 41, 3) := by decide +kernel
theorem dR_read_40 : decode cR_read 40 = .ok (.ifCond .ne 7, 3) := by decide +kernel
theorem dR_read_43 : decode cR_read 43 = .ok (.iconst 1, 1) := by decide +kernel
theorem dR_read_44 : decode cR_read 44 = .ok (.goto 4, 3) := by decide +kernel
theorem dR_read_47 : decode cR_read 47 = .ok (.iconst 0, 1) := by decide +kernel
theorem dR_read_48 : decode cR_read 48 = .ok (.ireturn, 1) := by decide +kernel
abbrev cR_readAny : ByteArray := prog_4_method_4_code
def yR_readAny : MethodName := ⟨"PostIndex$QueryReader", "readAny", "(I)Z"⟩
def fR_readAny (d : Nat) : zF := (cR_readAny, 4, yR_readAny, (some .boolean), d, 0, 0)
theorem meR_readAny (d : Nat) : zMe (fR_readAny d) 1 := ⟨(zA2 (i := 100) rfl rfl), (zA1 (i := 3) rfl rfl), by show "PostIndex$QueryReader" ≠ _; decide +kernel, by show "PostIndex$QueryReader" ≠ _; decide +kernel, by show (parseMethodDescriptor "(I)Z").map _ = _; decide +kernel⟩
theorem dR_readAny_0 : decode cR_readAny 0 = .ok (.aload_n 0, 1) := by decide +kernel
theorem dR_readAny_1 : decode cR_readAny 1 = .ok (.iload_n 1, 1) := by decide +kernel
theorem dR_readAny_2 : decode cR_readAny 2 = .ok (.invokevirtual 45, 3) := by decide +kernel
theorem dR_readAny_5 : decode cR_readAny 5 = .ok (.istore_n 2, 1) := by decide +kernel
theorem dR_readAny_6 : decode cR_readAny 6 = .ok (.iconst 0, 1) := by decide +kernel
theorem dR_readAny_7 : decode cR_readAny 7 = .ok (.istore_n 3, 1) := by decide +kernel
theorem dR_readAny_8 : decode cR_readAny 8 = .ok (.iload_n 3, 1) := by decide +kernel
theorem dR_readAny_9 : decode cR_readAny 9 = .ok (.bipush 24, 2) := by decide +kernel
theorem dR_readAny_11 : decode cR_readAny 11 = .ok (.if_icmp .ge 49, 3) := by decide +kernel
theorem dR_readAny_14 : decode cR_readAny 14 = .ok (.iload_n 2, 1) := by decide +kernel
theorem dR_readAny_15 : decode cR_readAny 15 = .ok (.ifCond .eq 45, 3) := by decide +kernel
theorem dR_readAny_18 : decode cR_readAny 18 = .ok (.aload_n 0, 1) := by decide +kernel
theorem dR_readAny_19 : decode cR_readAny 19 = .ok (.bipush 124, 2) := by decide +kernel
theorem dR_readAny_21 : decode cR_readAny 21 = .ok (.invokevirtual 48, 3) := by decide +kernel
theorem dR_readAny_24 : decode cR_readAny 24 = .ok (.ifCond .eq 36, 3) := by decide +kernel
theorem dR_readAny_27 : decode cR_readAny 27 = .ok (.aload_n 0, 1) := by decide +kernel
theorem dR_readAny_28 : decode cR_readAny 28 = .ok (.iload_n 1, 1) := by decide +kernel
theorem dR_readAny_29 : decode cR_readAny 29 = .ok (.invokevirtual 45, 3) := by decide +kernel
theorem dR_readAny_32 : decode cR_readAny 32 = .ok (.ifCond .eq 20, 3) := by decide +kernel
theorem dR_readAny_35 : decode cR_readAny 35 = .ok (.aload_n 0, 1) := by decide +kernel
theorem dR_readAny_36 : decode cR_readAny 36 = .ok (.getfield 21, 3) := by decide +kernel
theorem dR_readAny_39 : decode cR_readAny 39 = .ok (.bipush 6, 2) := by decide +kernel
theorem dR_readAny_41 : decode cR_readAny 41 = .ok (.iconst 0, 1) := by decide +kernel
theorem dR_readAny_42 : decode cR_readAny 42 = .ok (.invokevirtual 52, 3) := by decide +kernel
theorem dR_readAny_45 : decode cR_readAny 45 = .ok (.ifCond .eq 7, 3) := by decide +kernel
theorem dR_readAny_48 : decode cR_readAny 48 = .ok (.iconst 1, 1) := by decide +kernel
theorem dR_readAny_49 : decode cR_readAny 49 = .ok (.goto 4, 3) := by decide +kernel
theorem dR_readAny_52 : decode cR_readAny 52 = .ok (.iconst 0, 1) := by decide +kernel
theorem dR_readAny_53 : decode cR_readAny 53 = .ok (.istore_n 2, 1) := by decide +kernel
theorem dR_readAny_54 : decode cR_readAny 54 = .ok (.iinc 3 1, 3) := by decide +kernel
theorem dR_readAny_57 : decode cR_readAny 57 = .ok (.goto (-49), 3) := by decide +kernel
theorem dR_readAny_60 : decode cR_readAny 60 = .ok (.iload_n 2, 1) := by decide +kernel
theorem dR_readAny_61 : decode cR_readAny 61 = .ok (.ireturn, 1) := by decide +kernel
abbrev cR_readAll : ByteArray := prog_4_method_5_code
def yR_readAll : MethodName := ⟨"PostIndex$QueryReader", "readAll", "(I)Z"⟩
def fR_readAll (d : Nat) : zF := (cR_readAll, 4, yR_readAll, (some .boolean), d, 0, 0)
theorem meR_readAll (d : Nat) : zMe (fR_readAll d) 1 := ⟨(zA2 (i := 104) rfl rfl), (zA1 (i := 3) rfl rfl), by show "PostIndex$QueryReader" ≠ _; decide +kernel, by show "PostIndex$QueryReader" ≠ _; decide +kernel, by show (parseMethodDescriptor "(I)Z").map _ = _; decide +kernel⟩
theorem dR_readAll_0 : decode cR_readAll 0 = .ok (.aload_n 0, 1) := by decide +kernel
theorem dR_readAll_1 : decode cR_readAll 1 = .ok (.iload_n 1, 1) := by decide +kernel
theorem dR_readAll_2 : decode cR_readAll 2 = .ok (.invokevirtual 56, 3) := by decide +kernel
theorem dR_readAll_5 : decode cR_readAll 5 = .ok (.istore_n 2, 1) := by decide +kernel
theorem dR_readAll_6 : decode cR_readAll 6 = .ok (.iconst 0, 1) := by decide +kernel
theorem dR_readAll_7 : decode cR_readAll 7 = .ok (.istore_n 3, 1) := by decide +kernel
theorem dR_readAll_8 : decode cR_readAll 8 = .ok (.iload_n 3, 1) := by decide +kernel
theorem dR_readAll_9 : decode cR_readAll 9 = .ok (.bipush 24, 2) := by decide +kernel
theorem dR_readAll_11 : decode cR_readAll 11 = .ok (.if_icmp .ge 46, 3) := by decide +kernel
theorem dR_readAll_14 : decode cR_readAll 14 = .ok (.iload_n 2, 1) := by decide +kernel
theorem dR_readAll_15 : decode cR_readAll 15 = .ok (.ifCond .eq 42, 3) := by decide +kernel
theorem dR_readAll_18 : decode cR_readAll 18 = .ok (.aload_n 0, 1) := by decide +kernel
theorem dR_readAll_19 : decode cR_readAll 19 = .ok (.invokevirtual 59, 3) := by decide +kernel
theorem dR_readAll_22 : decode cR_readAll 22 = .ok (.ifCond .eq 35, 3) := by decide +kernel
theorem dR_readAll_25 : decode cR_readAll 25 = .ok (.aload_n 0, 1) := by decide +kernel
theorem dR_readAll_26 : decode cR_readAll 26 = .ok (.iload_n 1, 1) := by decide +kernel
theorem dR_readAll_27 : decode cR_readAll 27 = .ok (.invokevirtual 56, 3) := by decide +kernel
theorem dR_readAll_30 : decode cR_readAll 30 = .ok (.ifCond .eq 19, 3) := by decide +kernel
theorem dR_readAll_33 : decode cR_readAll 33 = .ok (.aload_n 0, 1) := by decide +kernel
theorem dR_readAll_34 : decode cR_readAll 34 = .ok (.getfield 21, 3) := by decide +kernel
theorem dR_readAll_37 : decode cR_readAll 37 = .ok (.iconst 5, 1) := by decide +kernel
theorem dR_readAll_38 : decode cR_readAll 38 = .ok (.iconst 0, 1) := by decide +kernel
theorem dR_readAll_39 : decode cR_readAll 39 = .ok (.invokevirtual 52, 3) := by decide +kernel
theorem dR_readAll_42 : decode cR_readAll 42 = .ok (.ifCond .eq 7, 3) := by decide +kernel
theorem dR_readAll_45 : decode cR_readAll 45 = .ok (.iconst 1, 1) := by decide +kernel
theorem dR_readAll_46 : decode cR_readAll 46 = .ok (.goto 4, 3) := by decide +kernel
theorem dR_readAll_49 : decode cR_readAll 49 = .ok (.iconst 0, 1) := by decide +kernel
theorem dR_readAll_50 : decode cR_readAll 50 = .ok (.istore_n 2, 1) := by decide +kernel
theorem dR_readAll_51 : decode cR_readAll 51 = .ok (.iinc 3 1, 3) := by decide +kernel
theorem dR_readAll_54 : decode cR_readAll 54 = .ok (.goto (-46), 3) := by decide +kernel
theorem dR_readAll_57 : decode cR_readAll 57 = .ok (.iload_n 2, 1) := by decide +kernel
theorem dR_readAll_58 : decode cR_readAll 58 = .ok (.ireturn, 1) := by decide +kernel
abbrev cR_partFollows : ByteArray := prog_4_method_6_code
def yR_partFollows : MethodName := ⟨"PostIndex$QueryReader", "partFollows", "()Z"⟩
def fR_partFollows (d : Nat) : zF := (cR_partFollows, 2, yR_partFollows, (some .boolean), d, 0, 0)
theorem meR_partFollows (d : Nat) : zMe (fR_partFollows d) 0 := ⟨(zA2 (i := 157) rfl rfl), (zA1 (i := 3) rfl rfl), by show "PostIndex$QueryReader" ≠ _; decide +kernel, by show "PostIndex$QueryReader" ≠ _; decide +kernel, by show (parseMethodDescriptor "()Z").map _ = _; decide +kernel⟩
theorem dR_partFollows_0 : decode cR_partFollows 0 = .ok (.aload_n 0, 1) := by decide +kernel
theorem dR_partFollows_1 : decode cR_partFollows 1 = .ok (.invokevirtual 41, 3) := by decide +kernel
theorem dR_partFollows_4 : decode cR_partFollows 4 = .ok (.istore_n 1, 1) := by decide +kernel
theorem dR_partFollows_5 : decode cR_partFollows 5 = .ok (.iload_n 1, 1) := by decide +kernel
theorem dR_partFollows_6 : decode cR_partFollows 6 = .ok (.ifCond .eq 19, 3) := by decide +kernel
theorem dR_partFollows_9 : decode cR_partFollows 9 = .ok (.iload_n 1, 1) := by decide +kernel
theorem dR_partFollows_10 : decode cR_partFollows 10 = .ok (.bipush 124, 2) := by decide +kernel
theorem dR_partFollows_12 : decode cR_partFollows 12 = .ok (.if_icmp .eq 13, 3) := by decide +kernel
theorem dR_partFollows_15 : decode cR_partFollows 15 = .ok (.iload_n 1, 1) := by decide +kernel
theorem dR_partFollows_16 : decode cR_partFollows 16 = .ok (.bipush 41, 2) := by decide +kernel
theorem dR_partFollows_18 : decode cR_partFollows 18 = .ok (.if_icmp .eq 7, 3) := by decide +kernel
theorem dR_partFollows_21 : decode cR_partFollows 21 = .ok (.iconst 1, 1) := by decide +kernel
theorem dR_partFollows_22 : decode cR_partFollows 22 = .ok (.goto 4, 3) := by decide +kernel
theorem dR_partFollows_25 : decode cR_partFollows 25 = .ok (.iconst 0, 1) := by decide +kernel
theorem dR_partFollows_26 : decode cR_partFollows 26 = .ok (.ireturn, 1) := by decide +kernel
abbrev cR_readPart : ByteArray := prog_4_method_7_code
def yR_readPart : MethodName := ⟨"PostIndex$QueryReader", "readPart", "(I)Z"⟩
def fR_readPart (d : Nat) : zF := (cR_readPart, 4, yR_readPart, (some .boolean), d, 0, 0)
theorem meR_readPart (d : Nat) : zMe (fR_readPart d) 1 := ⟨(zA2 (i := 108) rfl rfl), (zA1 (i := 3) rfl rfl), by show "PostIndex$QueryReader" ≠ _; decide +kernel, by show "PostIndex$QueryReader" ≠ _; decide +kernel, by show (parseMethodDescriptor "(I)Z").map _ = _; decide +kernel⟩
theorem dR_readPart_0 : decode cR_readPart 0 = .ok (.iconst 0, 1) := by decide +kernel
theorem dR_readPart_1 : decode cR_readPart 1 = .ok (.istore_n 2, 1) := by decide +kernel
theorem dR_readPart_2 : decode cR_readPart 2 = .ok (.iconst 0, 1) := by decide +kernel
theorem dR_readPart_3 : decode cR_readPart 3 = .ok (.istore_n 3, 1) := by decide +kernel
theorem dR_readPart_4 : decode cR_readPart 4 = .ok (.iload_n 3, 1) := by decide +kernel
theorem dR_readPart_5 : decode cR_readPart 5 = .ok (.bipush 24, 2) := by decide +kernel
theorem dR_readPart_7 : decode cR_readPart 7 = .ok (.if_icmp .ge 28, 3) := by decide +kernel
theorem dR_readPart_10 : decode cR_readPart 10 = .ok (.aload_n 0, 1) := by decide +kernel
theorem dR_readPart_11 : decode cR_readPart 11 = .ok (.bipush 45, 2) := by decide +kernel
theorem dR_readPart_13 : decode cR_readPart 13 = .ok (.invokevirtual 48, 3) := by decide +kernel
theorem dR_readPart_16 : decode cR_readPart 16 = .ok (.ifCond .eq 19, 3) := by decide +kernel
theorem dR_readPart_19 : decode cR_readPart 19 = .ok (.iload_n 2, 1) := by decide +kernel
theorem dR_readPart_20 : decode cR_readPart 20 = .ok (.ifCond .ne 7, 3) := by decide +kernel
theorem dR_readPart_23 : decode cR_readPart 23 = .ok (.iconst 1, 1) := by decide +kernel
theorem dR_readPart_24 : decode cR_readPart 24 = .ok (.goto 4, 3) := by decide +kernel
theorem dR_readPart_27 : decode cR_readPart 27 = .ok (.iconst 0, 1) := by decide +kernel
theorem dR_readPart_28 : decode cR_readPart 28 = .ok (.istore_n 2, 1) := by decide +kernel
theorem dR_readPart_29 : decode cR_readPart 29 = .ok (.iinc 3 1, 3) := by decide +kernel
theorem dR_readPart_32 : decode cR_readPart 32 = .ok (.goto (-28), 3) := by decide +kernel
theorem dR_readPart_35 : decode cR_readPart 35 = .ok (.aload_n 0, 1) := by decide +kernel
theorem dR_readPart_36 : decode cR_readPart 36 = .ok (.iload_n 1, 1) := by decide +kernel
theorem dR_readPart_37 : decode cR_readPart 37 = .ok (.invokevirtual 63, 3) := by decide +kernel
theorem dR_readPart_40 : decode cR_readPart 40 = .ok (.ifCond .eq 23, 3) := by decide +kernel
theorem dR_readPart_43 : decode cR_readPart 43 = .ok (.iload_n 2, 1) := by decide +kernel
theorem dR_readPart_44 : decode cR_readPart 44 = .ok (.ifCond .eq 15, 3) := by decide +kernel
theorem dR_readPart_47 : decode cR_readPart 47 = .ok (.aload_n 0, 1) := by decide +kernel
theorem dR_readPart_48 : decode cR_readPart 48 = .ok (.getfield 21, 3) := by decide +kernel
theorem dR_readPart_51 : decode cR_readPart 51 = .ok (.iconst 4, 1) := by decide +kernel
theorem dR_readPart_52 : decode cR_readPart 52 = .ok (.iconst 0, 1) := by decide +kernel
theorem dR_readPart_53 : decode cR_readPart 53 = .ok (.invokevirtual 52, 3) := by decide +kernel
theorem dR_readPart_56 : decode cR_readPart 56 = .ok (.ifCond .eq 7, 3) := by decide +kernel
theorem dR_readPart_59 : decode cR_readPart 59 = .ok (.iconst 1, 1) := by decide +kernel
theorem dR_readPart_60 : decode cR_readPart 60 = .ok (.goto 4, 3) := by decide +kernel
theorem dR_readPart_63 : decode cR_readPart 63 = .ok (.iconst 0, 1) := by decide +kernel
theorem dR_readPart_64 : decode cR_readPart 64 = .ok (.ireturn, 1) := by decide +kernel
abbrev cR_readOne : ByteArray := prog_4_method_8_code
def yR_readOne : MethodName := ⟨"PostIndex$QueryReader", "readOne", "(I)Z"⟩
def fR_readOne (d : Nat) : zF := (cR_readOne, 2, yR_readOne, (some .boolean), d, 0, 0)
theorem meR_readOne (d : Nat) : zMe (fR_readOne d) 1 := ⟨(zA2 (i := 125) rfl rfl), (zA1 (i := 3) rfl rfl), by show "PostIndex$QueryReader" ≠ _; decide +kernel, by show "PostIndex$QueryReader" ≠ _; decide +kernel, by show (parseMethodDescriptor "(I)Z").map _ = _; decide +kernel⟩
theorem dR_readOne_0 : decode cR_readOne 0 = .ok (.aload_n 0, 1) := by decide +kernel
theorem dR_readOne_1 : decode cR_readOne 1 = .ok (.invokevirtual 41, 3) := by decide +kernel
theorem dR_readOne_4 : decode cR_readOne 4 = .ok (.lookupswitch 115 #[(34, 92), (40, 52), (60, 103), (61, 97), (62, 109)], 52) := by decide +kernel
theorem dR_readOne_56 : decode cR_readOne 56 = .ok (.iload_n 1, 1) := by decide +kernel
theorem dR_readOne_57 : decode cR_readOne 57 = .ok (.bipush 6, 2) := by decide +kernel
theorem dR_readOne_59 : decode cR_readOne 59 = .ok (.if_icmp .ge 35, 3) := by decide +kernel
theorem dR_readOne_62 : decode cR_readOne 62 = .ok (.aload_n 0, 1) := by decide +kernel
theorem dR_readOne_63 : decode cR_readOne 63 = .ok (.bipush 40, 2) := by decide +kernel
theorem dR_readOne_65 : decode cR_readOne 65 = .ok (.invokevirtual 48, 3) := by decide +kernel
theorem dR_readOne_68 : decode cR_readOne 68 = .ok (.ifCond .eq 26, 3) := by decide +kernel
theorem dR_readOne_71 : decode cR_readOne 71 = .ok (.aload_n 0, 1) := by decide +kernel
theorem dR_readOne_72 : decode cR_readOne 72 = .ok (.iload_n 1, 1) := by decide +kernel
theorem dR_readOne_73 : decode cR_readOne 73 = .ok (.iconst 1, 1) := by decide +kernel
theorem dR_readOne_74 : decode cR_readOne 74 = .ok (.iadd, 1) := by decide +kernel
theorem dR_readOne_75 : decode cR_readOne 75 = .ok (.invokevirtual 37, 3) := by decide +kernel
theorem dR_readOne_78 : decode cR_readOne 78 = .ok (.ifCond .eq 16, 3) := by decide +kernel
theorem dR_readOne_81 : decode cR_readOne 81 = .ok (.aload_n 0, 1) := by decide +kernel
theorem dR_readOne_82 : decode cR_readOne 82 = .ok (.bipush 41, 2) := by decide +kernel
theorem dR_readOne_84 : decode cR_readOne 84 = .ok (.invokevirtual 48, 3) := by decide +kernel
theorem dR_readOne_87 : decode cR_readOne 87 = .ok (.ifCond .eq 7, 3) := by decide +kernel
theorem dR_readOne_90 : decode cR_readOne 90 = .ok (.iconst 1, 1) := by decide +kernel
theorem dR_readOne_91 : decode cR_readOne 91 = .ok (.goto 4, 3) := by decide +kernel
theorem dR_readOne_94 : decode cR_readOne 94 = .ok (.iconst 0, 1) := by decide +kernel
theorem dR_readOne_95 : decode cR_readOne 95 = .ok (.ireturn, 1) := by decide +kernel
theorem dR_readOne_96 : decode cR_readOne 96 = .ok (.aload_n 0, 1) := by decide +kernel
theorem dR_readOne_97 : decode cR_readOne 97 = .ok (.invokevirtual 66, 3) := by decide +kernel
theorem dR_readOne_100 : decode cR_readOne 100 = .ok (.ireturn, 1) := by decide +kernel
theorem dR_readOne_101 : decode cR_readOne 101 = .ok (.aload_n 0, 1) := by decide +kernel
theorem dR_readOne_102 : decode cR_readOne 102 = .ok (.iconst 1, 1) := by decide +kernel
theorem dR_readOne_103 : decode cR_readOne 103 = .ok (.invokevirtual 69, 3) := by decide +kernel
theorem dR_readOne_106 : decode cR_readOne 106 = .ok (.ireturn, 1) := by decide +kernel
theorem dR_readOne_107 : decode cR_readOne 107 = .ok (.aload_n 0, 1) := by decide +kernel
theorem dR_readOne_108 : decode cR_readOne 108 = .ok (.iconst 2, 1) := by decide +kernel
theorem dR_readOne_109 : decode cR_readOne 109 = .ok (.invokevirtual 69, 3) := by decide +kernel
theorem dR_readOne_112 : decode cR_readOne 112 = .ok (.ireturn, 1) := by decide +kernel
theorem dR_readOne_113 : decode cR_readOne 113 = .ok (.aload_n 0, 1) := by decide +kernel
theorem dR_readOne_114 : decode cR_readOne 114 = .ok (.iconst 3, 1) := by decide +kernel
theorem dR_readOne_115 : decode cR_readOne 115 = .ok (.invokevirtual 69, 3) := by decide +kernel
theorem dR_readOne_118 : decode cR_readOne 118 = .ok (.ireturn, 1) := by decide +kernel
theorem dR_readOne_119 : decode cR_readOne 119 = .ok (.aload_n 0, 1) := by decide +kernel
theorem dR_readOne_120 : decode cR_readOne 120 = .ok (.invokevirtual 72, 3) := by decide +kernel
theorem dR_readOne_123 : decode cR_readOne 123 = .ok (.ifCond .eq 26, 3) := by decide +kernel
theorem dR_readOne_126 : decode cR_readOne 126 = .ok (.aload_n 0, 1) := by decide +kernel
theorem dR_readOne_127 : decode cR_readOne 127 = .ok (.getfield 21, 3) := by decide +kernel
theorem dR_readOne_130 : decode cR_readOne 130 = .ok (.aload_n 0, 1) := by decide +kernel
theorem dR_readOne_131 : decode cR_readOne 131 = .ok (.getfield 21, 3) := by decide +kernel
theorem dR_readOne_134 : decode cR_readOne 134 = .ok (.getfield 75, 3) := by decide +kernel
theorem flR_75 : zFldN "PostIndex$QueryReader" 75 1 5 6 := ⟨RQ, TQ, "PostIndex", rfl, by decide, inQ, by decide +kernel⟩
theorem dR_readOne_137 : decode cR_readOne 137 = .ok (.iconst 1, 1) := by decide +kernel
theorem dR_readOne_138 : decode cR_readOne 138 = .ok (.isub, 1) := by decide +kernel
theorem dR_readOne_139 : decode cR_readOne 139 = .ok (.invokevirtual 78, 3) := by decide +kernel
theorem dR_readOne_142 : decode cR_readOne 142 = .ok (.ifCond .eq 7, 3) := by decide +kernel
theorem dR_readOne_145 : decode cR_readOne 145 = .ok (.iconst 1, 1) := by decide +kernel
theorem dR_readOne_146 : decode cR_readOne 146 = .ok (.goto 4, 3) := by decide +kernel
theorem dR_readOne_149 : decode cR_readOne 149 = .ok (.iconst 0, 1) := by decide +kernel
theorem dR_readOne_150 : decode cR_readOne 150 = .ok (.ireturn, 1) := by decide +kernel
abbrev cR_readRow : ByteArray := prog_4_method_9_code
def yR_readRow : MethodName := ⟨"PostIndex$QueryReader", "readRow", "()Z"⟩
def fR_readRow (d : Nat) : zF := (cR_readRow, 4, yR_readRow, (some .boolean), d, 0, 0)
theorem meR_readRow (d : Nat) : zMe (fR_readRow d) 0 := ⟨(zA2 (i := 129) rfl rfl), (zA1 (i := 3) rfl rfl), by show "PostIndex$QueryReader" ≠ _; decide +kernel, by show "PostIndex$QueryReader" ≠ _; decide +kernel, by show (parseMethodDescriptor "()Z").map _ = _; decide +kernel⟩
theorem dR_readRow_0 : decode cR_readRow 0 = .ok (.aload_n 0, 1) := by decide +kernel
theorem dR_readRow_1 : decode cR_readRow 1 = .ok (.getfield 21, 3) := by decide +kernel
theorem dR_readRow_4 : decode cR_readRow 4 = .ok (.getfield 75, 3) := by decide +kernel
theorem dR_readRow_7 : decode cR_readRow 7 = .ok (.istore_n 1, 1) := by decide +kernel
theorem dR_readRow_8 : decode cR_readRow 8 = .ok (.aload_n 0, 1) := by decide +kernel
theorem dR_readRow_9 : decode cR_readRow 9 = .ok (.bipush 34, 2) := by decide +kernel
theorem dR_readRow_11 : decode cR_readRow 11 = .ok (.invokevirtual 48, 3) := by decide +kernel
theorem dR_readRow_14 : decode cR_readRow 14 = .ok (.ifCond .eq 14, 3) := by decide +kernel
theorem dR_readRow_17 : decode cR_readRow 17 = .ok (.aload_n 0, 1) := by decide +kernel
theorem dR_readRow_18 : decode cR_readRow 18 = .ok (.invokevirtual 72, 3) := by decide +kernel
theorem dR_readRow_21 : decode cR_readRow 21 = .ok (.ifCond .eq 7, 3) := by decide +kernel
theorem dR_readRow_24 : decode cR_readRow 24 = .ok (.iconst 1, 1) := by decide +kernel
theorem dR_readRow_25 : decode cR_readRow 25 = .ok (.goto 4, 3) := by decide +kernel
theorem dR_readRow_28 : decode cR_readRow 28 = .ok (.iconst 0, 1) := by decide +kernel
theorem dR_readRow_29 : decode cR_readRow 29 = .ok (.istore_n 2, 1) := by decide +kernel
theorem dR_readRow_30 : decode cR_readRow 30 = .ok (.iconst 0, 1) := by decide +kernel
theorem dR_readRow_31 : decode cR_readRow 31 = .ok (.istore_n 3, 1) := by decide +kernel
theorem dR_readRow_32 : decode cR_readRow 32 = .ok (.iload_n 3, 1) := by decide +kernel
theorem dR_readRow_33 : decode cR_readRow 33 = .ok (.bipush 24, 2) := by decide +kernel
theorem dR_readRow_35 : decode cR_readRow 35 = .ok (.if_icmp .ge 27, 3) := by decide +kernel
theorem dR_readRow_38 : decode cR_readRow 38 = .ok (.iload_n 2, 1) := by decide +kernel
theorem dR_readRow_39 : decode cR_readRow 39 = .ok (.ifCond .eq 23, 3) := by decide +kernel
theorem dR_readRow_42 : decode cR_readRow 42 = .ok (.aload_n 0, 1) := by decide +kernel
theorem dR_readRow_43 : decode cR_readRow 43 = .ok (.invokevirtual 41, 3) := by decide +kernel
theorem dR_readRow_46 : decode cR_readRow 46 = .ok (.bipush 34, 2) := by decide +kernel
theorem dR_readRow_48 : decode cR_readRow 48 = .ok (.if_icmp .eq 14, 3) := by decide +kernel
theorem dR_readRow_51 : decode cR_readRow 51 = .ok (.aload_n 0, 1) := by decide +kernel
theorem dR_readRow_52 : decode cR_readRow 52 = .ok (.invokevirtual 72, 3) := by decide +kernel
theorem dR_readRow_55 : decode cR_readRow 55 = .ok (.istore_n 2, 1) := by decide +kernel
theorem dR_readRow_56 : decode cR_readRow 56 = .ok (.iinc 3 1, 3) := by decide +kernel
theorem dR_readRow_59 : decode cR_readRow 59 = .ok (.goto (-27), 3) := by decide +kernel
theorem dR_readRow_62 : decode cR_readRow 62 = .ok (.iload_n 2, 1) := by decide +kernel
theorem dR_readRow_63 : decode cR_readRow 63 = .ok (.ifCond .eq 27, 3) := by decide +kernel
theorem dR_readRow_66 : decode cR_readRow 66 = .ok (.aload_n 0, 1) := by decide +kernel
theorem dR_readRow_67 : decode cR_readRow 67 = .ok (.bipush 34, 2) := by decide +kernel
theorem dR_readRow_69 : decode cR_readRow 69 = .ok (.invokevirtual 48, 3) := by decide +kernel
theorem dR_readRow_72 : decode cR_readRow 72 = .ok (.ifCond .eq 18, 3) := by decide +kernel
theorem dR_readRow_75 : decode cR_readRow 75 = .ok (.aload_n 0, 1) := by decide +kernel
theorem dR_readRow_76 : decode cR_readRow 76 = .ok (.getfield 21, 3) := by decide +kernel
theorem dR_readRow_79 : decode cR_readRow 79 = .ok (.iload_n 1, 1) := by decide +kernel
theorem dR_readRow_80 : decode cR_readRow 80 = .ok (.invokevirtual 78, 3) := by decide +kernel
theorem dR_readRow_83 : decode cR_readRow 83 = .ok (.ifCond .eq 7, 3) := by decide +kernel
theorem dR_readRow_86 : decode cR_readRow 86 = .ok (.iconst 1, 1) := by decide +kernel
theorem dR_readRow_87 : decode cR_readRow 87 = .ok (.goto 4, 3) := by decide +kernel
theorem dR_readRow_90 : decode cR_readRow 90 = .ok (.iconst 0, 1) := by decide +kernel
theorem dR_readRow_91 : decode cR_readRow 91 = .ok (.ireturn, 1) := by decide +kernel
abbrev cR_readWord : ByteArray := prog_4_method_10_code
def yR_readWord : MethodName := ⟨"PostIndex$QueryReader", "readWord", "()Z"⟩
def fR_readWord (d : Nat) : zF := (cR_readWord, 2, yR_readWord, (some .boolean), d, 0, 0)
theorem meR_readWord (d : Nat) : zMe (fR_readWord d) 0 := ⟨(zA2 (i := 133) rfl rfl), (zA1 (i := 3) rfl rfl), by show "PostIndex$QueryReader" ≠ _; decide +kernel, by show "PostIndex$QueryReader" ≠ _; decide +kernel, by show (parseMethodDescriptor "()Z").map _ = _; decide +kernel⟩
theorem dR_readWord_0 : decode cR_readWord 0 = .ok (.aload_n 0, 1) := by decide +kernel
theorem dR_readWord_1 : decode cR_readWord 1 = .ok (.invokevirtual 81, 3) := by decide +kernel
theorem dR_readWord_4 : decode cR_readWord 4 = .ok (.aload_n 0, 1) := by decide +kernel
theorem dR_readWord_5 : decode cR_readWord 5 = .ok (.getfield 33, 3) := by decide +kernel
theorem dR_readWord_8 : decode cR_readWord 8 = .ok (.istore_n 1, 1) := by decide +kernel
theorem dR_readWord_9 : decode cR_readWord 9 = .ok (.aload_n 0, 1) := by decide +kernel
theorem dR_readWord_10 : decode cR_readWord 10 = .ok (.aload_n 0, 1) := by decide +kernel
theorem dR_readWord_11 : decode cR_readWord 11 = .ok (.getfield 12, 3) := by decide +kernel
theorem dR_readWord_14 : decode cR_readWord 14 = .ok (.iload_n 1, 1) := by decide +kernel
theorem dR_readWord_15 : decode cR_readWord 15 = .ok (.invokevirtual 84, 3) := by decide +kernel
theorem dR_readWord_18 : decode cR_readWord 18 = .ok (.putfield 33, 3) := by decide +kernel
theorem dR_readWord_21 : decode cR_readWord 21 = .ok (.aload_n 0, 1) := by decide +kernel
theorem dR_readWord_22 : decode cR_readWord 22 = .ok (.getfield 33, 3) := by decide +kernel
theorem dR_readWord_25 : decode cR_readWord 25 = .ok (.iload_n 1, 1) := by decide +kernel
theorem dR_readWord_26 : decode cR_readWord 26 = .ok (.if_icmp .le 26, 3) := by decide +kernel
theorem dR_readWord_29 : decode cR_readWord 29 = .ok (.aload_n 0, 1) := by decide +kernel
theorem dR_readWord_30 : decode cR_readWord 30 = .ok (.getfield 21, 3) := by decide +kernel
theorem dR_readWord_33 : decode cR_readWord 33 = .ok (.aload_n 0, 1) := by decide +kernel
theorem dR_readWord_34 : decode cR_readWord 34 = .ok (.getfield 12, 3) := by decide +kernel
theorem dR_readWord_37 : decode cR_readWord 37 = .ok (.iload_n 1, 1) := by decide +kernel
theorem dR_readWord_38 : decode cR_readWord 38 = .ok (.aload_n 0, 1) := by decide +kernel
theorem dR_readWord_39 : decode cR_readWord 39 = .ok (.getfield 33, 3) := by decide +kernel
theorem dR_readWord_42 : decode cR_readWord 42 = .ok (.invokevirtual 88, 3) := by decide +kernel
theorem dR_readWord_45 : decode cR_readWord 45 = .ok (.ifCond .eq 7, 3) := by decide +kernel
theorem dR_readWord_48 : decode cR_readWord 48 = .ok (.iconst 1, 1) := by decide +kernel
theorem dR_readWord_49 : decode cR_readWord 49 = .ok (.goto 4, 3) := by decide +kernel
theorem dR_readWord_52 : decode cR_readWord 52 = .ok (.iconst 0, 1) := by decide +kernel
theorem dR_readWord_53 : decode cR_readWord 53 = .ok (.ireturn, 1) := by decide +kernel
abbrev cR_readFilter : ByteArray := prog_4_method_11_code
def yR_readFilter : MethodName := ⟨"PostIndex$QueryReader", "readFilter", "(I)Z"⟩
def fR_readFilter (d : Nat) : zF := (cR_readFilter, 4, yR_readFilter, (some .boolean), d, 0, 0)
theorem meR_readFilter (d : Nat) : zMe (fR_readFilter d) 1 := ⟨(zA2 (i := 151) rfl rfl), (zA1 (i := 3) rfl rfl), by show "PostIndex$QueryReader" ≠ _; decide +kernel, by show "PostIndex$QueryReader" ≠ _; decide +kernel, by show (parseMethodDescriptor "(I)Z").map _ = _; decide +kernel⟩
theorem dR_readFilter_0 : decode cR_readFilter 0 = .ok (.aload_n 0, 1) := by decide +kernel
theorem dR_readFilter_1 : decode cR_readFilter 1 = .ok (.dup, 1) := by decide +kernel
theorem dR_readFilter_2 : decode cR_readFilter 2 = .ok (.getfield 33, 3) := by decide +kernel
theorem dR_readFilter_5 : decode cR_readFilter 5 = .ok (.iconst 1, 1) := by decide +kernel
theorem dR_readFilter_6 : decode cR_readFilter 6 = .ok (.iadd, 1) := by decide +kernel
theorem dR_readFilter_7 : decode cR_readFilter 7 = .ok (.putfield 33, 3) := by decide +kernel
theorem dR_readFilter_10 : decode cR_readFilter 10 = .ok (.aload_n 0, 1) := by decide +kernel
theorem dR_readFilter_11 : decode cR_readFilter 11 = .ok (.getfield 33, 3) := by decide +kernel
theorem dR_readFilter_14 : decode cR_readFilter 14 = .ok (.istore_n 2, 1) := by decide +kernel
theorem dR_readFilter_15 : decode cR_readFilter 15 = .ok (.iconst 0, 1) := by decide +kernel
theorem dR_readFilter_16 : decode cR_readFilter 16 = .ok (.istore_n 3, 1) := by decide +kernel
theorem dR_readFilter_17 : decode cR_readFilter 17 = .ok (.aload_n 0, 1) := by decide +kernel
theorem dR_readFilter_18 : decode cR_readFilter 18 = .ok (.getfield 33, 3) := by decide +kernel
theorem dR_readFilter_21 : decode cR_readFilter 21 = .ok (.aload_n 0, 1) := by decide +kernel
theorem dR_readFilter_22 : decode cR_readFilter 22 = .ok (.getfield 12, 3) := by decide +kernel
theorem dR_readFilter_25 : decode cR_readFilter 25 = .ok (.getfield 92, 3) := by decide +kernel
theorem flR_92 : zFldN "PostIndex$QueryReader" 92 5 1 2 := ⟨RT, TT, "PostIndex", rfl, by decide, inT, by decide +kernel⟩
theorem dR_readFilter_28 : decode cR_readFilter 28 = .ok (.if_icmp .ge 64, 3) := by decide +kernel
theorem dR_readFilter_31 : decode cR_readFilter 31 = .ok (.aload_n 0, 1) := by decide +kernel
theorem dR_readFilter_32 : decode cR_readFilter 32 = .ok (.getfield 33, 3) := by decide +kernel
theorem dR_readFilter_35 : decode cR_readFilter 35 = .ok (.iload_n 2, 1) := by decide +kernel
theorem dR_readFilter_36 : decode cR_readFilter 36 = .ok (.isub, 1) := by decide +kernel
theorem dR_readFilter_37 : decode cR_readFilter 37 = .ok (.bipush 9, 2) := by decide +kernel
theorem dR_readFilter_39 : decode cR_readFilter 39 = .ok (.if_icmp .ge 53, 3) := by decide +kernel
theorem dR_readFilter_42 : decode cR_readFilter 42 = .ok (.aload_n 0, 1) := by decide +kernel
theorem dR_readFilter_43 : decode cR_readFilter 43 = .ok (.getfield 12, 3) := by decide +kernel
theorem dR_readFilter_46 : decode cR_readFilter 46 = .ok (.aload_n 0, 1) := by decide +kernel
theorem dR_readFilter_47 : decode cR_readFilter 47 = .ok (.getfield 33, 3) := by decide +kernel
theorem dR_readFilter_50 : decode cR_readFilter 50 = .ok (.invokevirtual 95, 3) := by decide +kernel
theorem dR_readFilter_53 : decode cR_readFilter 53 = .ok (.invokestatic 99, 3) := by decide +kernel
theorem dR_readFilter_56 : decode cR_readFilter 56 = .ok (.ifCond .eq 36, 3) := by decide +kernel
theorem dR_readFilter_59 : decode cR_readFilter 59 = .ok (.bipush 10, 2) := by decide +kernel
theorem dR_readFilter_61 : decode cR_readFilter 61 = .ok (.iload_n 3, 1) := by decide +kernel
theorem dR_readFilter_62 : decode cR_readFilter 62 = .ok (.imul, 1) := by decide +kernel
theorem dR_readFilter_63 : decode cR_readFilter 63 = .ok (.aload_n 0, 1) := by decide +kernel
theorem dR_readFilter_64 : decode cR_readFilter 64 = .ok (.getfield 12, 3) := by decide +kernel
theorem dR_readFilter_67 : decode cR_readFilter 67 = .ok (.aload_n 0, 1) := by decide +kernel
theorem dR_readFilter_68 : decode cR_readFilter 68 = .ok (.getfield 33, 3) := by decide +kernel
theorem dR_readFilter_71 : decode cR_readFilter 71 = .ok (.invokevirtual 95, 3) := by decide +kernel
theorem dR_readFilter_74 : decode cR_readFilter 74 = .ok (.bipush 48, 2) := by decide +kernel
theorem dR_readFilter_76 : decode cR_readFilter 76 = .ok (.isub, 1) := by decide +kernel
theorem dR_readFilter_77 : decode cR_readFilter 77 = .ok (.iadd, 1) := by decide +kernel
theorem dR_readFilter_78 : decode cR_readFilter 78 = .ok (.istore_n 3, 1) := by decide +kernel
theorem dR_readFilter_79 : decode cR_readFilter 79 = .ok (.aload_n 0, 1) := by decide +kernel
theorem dR_readFilter_80 : decode cR_readFilter 80 = .ok (.dup, 1) := by decide +kernel
theorem dR_readFilter_81 : decode cR_readFilter 81 = .ok (.getfield 33, 3) := by decide +kernel
theorem dR_readFilter_84 : decode cR_readFilter 84 = .ok (.iconst 1, 1) := by decide +kernel
theorem dR_readFilter_85 : decode cR_readFilter 85 = .ok (.iadd, 1) := by decide +kernel
theorem dR_readFilter_86 : decode cR_readFilter 86 = .ok (.putfield 33, 3) := by decide +kernel
theorem dR_readFilter_89 : decode cR_readFilter 89 = .ok (.goto (-72), 3) := by decide +kernel
theorem dR_readFilter_92 : decode cR_readFilter 92 = .ok (.aload_n 0, 1) := by decide +kernel
theorem dR_readFilter_93 : decode cR_readFilter 93 = .ok (.getfield 33, 3) := by decide +kernel
theorem dR_readFilter_96 : decode cR_readFilter 96 = .ok (.iload_n 2, 1) := by decide +kernel
theorem dR_readFilter_97 : decode cR_readFilter 97 = .ok (.if_icmp .le 36, 3) := by decide +kernel
theorem dR_readFilter_100 : decode cR_readFilter 100 = .ok (.aload_n 0, 1) := by decide +kernel
theorem dR_readFilter_101 : decode cR_readFilter 101 = .ok (.getfield 12, 3) := by decide +kernel
theorem dR_readFilter_104 : decode cR_readFilter 104 = .ok (.aload_n 0, 1) := by decide +kernel
theorem dR_readFilter_105 : decode cR_readFilter 105 = .ok (.getfield 33, 3) := by decide +kernel
theorem dR_readFilter_108 : decode cR_readFilter 108 = .ok (.invokevirtual 95, 3) := by decide +kernel
theorem dR_readFilter_111 : decode cR_readFilter 111 = .ok (.invokestatic 99, 3) := by decide +kernel
theorem dR_readFilter_114 : decode cR_readFilter 114 = .ok (.ifCond .ne 19, 3) := by decide +kernel
theorem dR_readFilter_117 : decode cR_readFilter 117 = .ok (.aload_n 0, 1) := by decide +kernel
theorem dR_readFilter_118 : decode cR_readFilter 118 = .ok (.getfield 21, 3) := by decide +kernel
theorem dR_readFilter_121 : decode cR_readFilter 121 = .ok (.iload_n 1, 1) := by decide +kernel
theorem dR_readFilter_122 : decode cR_readFilter 122 = .ok (.iload_n 3, 1) := by decide +kernel
theorem dR_readFilter_123 : decode cR_readFilter 123 = .ok (.invokevirtual 52, 3) := by decide +kernel
theorem dR_readFilter_126 : decode cR_readFilter 126 = .ok (.ifCond .eq 7, 3) := by decide +kernel
theorem dR_readFilter_129 : decode cR_readFilter 129 = .ok (.iconst 1, 1) := by decide +kernel
theorem dR_readFilter_130 : decode cR_readFilter 130 = .ok (.goto 4, 3) := by decide +kernel
theorem dR_readFilter_133 : decode cR_readFilter 133 = .ok (.iconst 0, 1) := by decide +kernel
theorem dR_readFilter_134 : decode cR_readFilter 134 = .ok (.ireturn, 1) := by decide +kernel
abbrev cR_take : ByteArray := prog_4_method_12_code
def yR_take : MethodName := ⟨"PostIndex$QueryReader", "take", "(C)Z"⟩
def fR_take (d : Nat) : zF := (cR_take, 2, yR_take, (some .boolean), d, 0, 0)
theorem meR_take (d : Nat) : zMe (fR_take d) 1 := ⟨(zA2 (i := 112) rfl rfl), (zA1 (i := 3) rfl rfl), by show "PostIndex$QueryReader" ≠ _; decide +kernel, by show "PostIndex$QueryReader" ≠ _; decide +kernel, by show (parseMethodDescriptor "(C)Z").map _ = _; decide +kernel⟩
theorem dR_take_0 : decode cR_take 0 = .ok (.aload_n 0, 1) := by decide +kernel
theorem dR_take_1 : decode cR_take 1 = .ok (.invokevirtual 41, 3) := by decide +kernel
theorem dR_take_4 : decode cR_take 4 = .ok (.iload_n 1, 1) := by decide +kernel
theorem dR_take_5 : decode cR_take 5 = .ok (.if_icmp .eq 5, 3) := by decide +kernel
theorem dR_take_8 : decode cR_take 8 = .ok (.iconst 0, 1) := by decide +kernel
theorem dR_take_9 : decode cR_take 9 = .ok (.ireturn, 1) := by decide +kernel
theorem dR_take_10 : decode cR_take 10 = .ok (.aload_n 0, 1) := by decide +kernel
theorem dR_take_11 : decode cR_take 11 = .ok (.dup, 1) := by decide +kernel
theorem dR_take_12 : decode cR_take 12 = .ok (.getfield 33, 3) := by decide +kernel
theorem dR_take_15 : decode cR_take 15 = .ok (.iconst 1, 1) := by decide +kernel
theorem dR_take_16 : decode cR_take 16 = .ok (.iadd, 1) := by decide +kernel
theorem dR_take_17 : decode cR_take 17 = .ok (.putfield 33, 3) := by decide +kernel
theorem dR_take_20 : decode cR_take 20 = .ok (.iconst 1, 1) := by decide +kernel
theorem dR_take_21 : decode cR_take 21 = .ok (.ireturn, 1) := by decide +kernel
abbrev cR_peekPiece : ByteArray := prog_4_method_13_code
def yR_peekPiece : MethodName := ⟨"PostIndex$QueryReader", "peekPiece", "()C"⟩
def fR_peekPiece (d : Nat) : zF := (cR_peekPiece, 1, yR_peekPiece, (some .char), d, 0, 0)
theorem meR_peekPiece (d : Nat) : zMe (fR_peekPiece d) 0 := ⟨(zA2 (i := 116) rfl rfl), (zA1 (i := 3) rfl rfl), by show "PostIndex$QueryReader" ≠ _; decide +kernel, by show "PostIndex$QueryReader" ≠ _; decide +kernel, by show (parseMethodDescriptor "()C").map _ = _; decide +kernel⟩
theorem dR_peekPiece_0 : decode cR_peekPiece 0 = .ok (.aload_n 0, 1) := by decide +kernel
theorem dR_peekPiece_1 : decode cR_peekPiece 1 = .ok (.invokevirtual 81, 3) := by decide +kernel
theorem dR_peekPiece_4 : decode cR_peekPiece 4 = .ok (.aload_n 0, 1) := by decide +kernel
theorem dR_peekPiece_5 : decode cR_peekPiece 5 = .ok (.getfield 12, 3) := by decide +kernel
theorem dR_peekPiece_8 : decode cR_peekPiece 8 = .ok (.aload_n 0, 1) := by decide +kernel
theorem dR_peekPiece_9 : decode cR_peekPiece 9 = .ok (.getfield 33, 3) := by decide +kernel
theorem dR_peekPiece_12 : decode cR_peekPiece 12 = .ok (.invokevirtual 95, 3) := by decide +kernel
theorem dR_peekPiece_15 : decode cR_peekPiece 15 = .ok (.ireturn, 1) := by decide +kernel
abbrev cR_skipSpaces : ByteArray := prog_4_method_14_code
def yR_skipSpaces : MethodName := ⟨"PostIndex$QueryReader", "skipSpaces", "()V"⟩
def fR_skipSpaces (d : Nat) : zF := (cR_skipSpaces, 1, yR_skipSpaces, none, d, 0, 0)
theorem meR_skipSpaces (d : Nat) : zMe (fR_skipSpaces d) 0 := ⟨(zA2 (i := 120) rfl rfl), (zA1 (i := 3) rfl rfl), by show "PostIndex$QueryReader" ≠ _; decide +kernel, by show "PostIndex$QueryReader" ≠ _; decide +kernel, by show (parseMethodDescriptor "()V").map _ = _; decide +kernel⟩
theorem dR_skipSpaces_0 : decode cR_skipSpaces 0 = .ok (.aload_n 0, 1) := by decide +kernel
theorem dR_skipSpaces_1 : decode cR_skipSpaces 1 = .ok (.getfield 33, 3) := by decide +kernel
theorem dR_skipSpaces_4 : decode cR_skipSpaces 4 = .ok (.aload_n 0, 1) := by decide +kernel
theorem dR_skipSpaces_5 : decode cR_skipSpaces 5 = .ok (.getfield 12, 3) := by decide +kernel
theorem dR_skipSpaces_8 : decode cR_skipSpaces 8 = .ok (.getfield 92, 3) := by decide +kernel
theorem dR_skipSpaces_11 : decode cR_skipSpaces 11 = .ok (.if_icmp .ge 32, 3) := by decide +kernel
theorem dR_skipSpaces_14 : decode cR_skipSpaces 14 = .ok (.aload_n 0, 1) := by decide +kernel
theorem dR_skipSpaces_15 : decode cR_skipSpaces 15 = .ok (.getfield 12, 3) := by decide +kernel
theorem dR_skipSpaces_18 : decode cR_skipSpaces 18 = .ok (.aload_n 0, 1) := by decide +kernel
theorem dR_skipSpaces_19 : decode cR_skipSpaces 19 = .ok (.getfield 33, 3) := by decide +kernel
theorem dR_skipSpaces_22 : decode cR_skipSpaces 22 = .ok (.invokevirtual 95, 3) := by decide +kernel
theorem dR_skipSpaces_25 : decode cR_skipSpaces 25 = .ok (.bipush 32, 2) := by decide +kernel
theorem dR_skipSpaces_27 : decode cR_skipSpaces 27 = .ok (.if_icmp .ne 16, 3) := by decide +kernel
theorem dR_skipSpaces_30 : decode cR_skipSpaces 30 = .ok (.aload_n 0, 1) := by decide +kernel
theorem dR_skipSpaces_31 : decode cR_skipSpaces 31 = .ok (.dup, 1) := by decide +kernel
theorem dR_skipSpaces_32 : decode cR_skipSpaces 32 = .ok (.getfield 33, 3) := by decide +kernel
theorem dR_skipSpaces_35 : decode cR_skipSpaces 35 = .ok (.iconst 1, 1) := by decide +kernel
theorem dR_skipSpaces_36 : decode cR_skipSpaces 36 = .ok (.iadd, 1) := by decide +kernel
theorem dR_skipSpaces_37 : decode cR_skipSpaces 37 = .ok (.putfield 33, 3) := by decide +kernel
theorem dR_skipSpaces_40 : decode cR_skipSpaces 40 = .ok (.goto (-40), 3) := by decide +kernel
theorem dR_skipSpaces_43 : decode cR_skipSpaces 43 = .ok (.return_, 1) := by decide +kernel
theorem lkR_11 : zLi "PostIndex$QueryReader" 11 yT_init := ⟨(zA1 (i := 44) rfl rfl), (zA1 (i := 23) rfl rfl), rfl⟩
theorem lkR_20 : zLi "PostIndex$QueryReader" 20 yQ_init := ⟨(zA1 (i := 47) rfl rfl), (zA1 (i := 48) rfl rfl), rfl⟩
theorem lkR_25 : zLv "PostIndex$QueryReader" 25 yT_makeEmpty := ⟨(zA2 (i := 91) rfl rfl), (zA1 (i := 230) rfl rfl), (zA1 (i := 231) rfl rfl)⟩
theorem lkR_28 : zLv "PostIndex$QueryReader" 28 yT_appendBeginning := ⟨(zA2 (i := 92) rfl rfl), (zA1 (i := 216) rfl rfl), (zA1 (i := 217) rfl rfl)⟩
theorem lkR_32 : zLv "PostIndex$QueryReader" 32 yQ_makeEmpty := ⟨(zA2 (i := 93) rfl rfl), (zA2 (i := 94) rfl rfl), (zA2 (i := 95) rfl rfl)⟩
theorem lkR_37 : zLv "PostIndex$QueryReader" 37 yR_readAny := ⟨(zA2 (i := 97) rfl rfl), (zA2 (i := 99) rfl rfl), (zA0 (i := 6) (q := (yR_readAny, 3)) rfl rfl)⟩
theorem lkR_41 : zLv "PostIndex$QueryReader" 41 yR_peekPiece := ⟨(zA2 (i := 113) rfl rfl), (zA2 (i := 115) rfl rfl), (zA0 (i := 10) (q := (yR_peekPiece, 3)) rfl rfl)⟩
theorem lkR_45 : zLv "PostIndex$QueryReader" 45 yR_readAll := ⟨(zA2 (i := 101) rfl rfl), (zA2 (i := 103) rfl rfl), (zA0 (i := 7) (q := (yR_readAll, 3)) rfl rfl)⟩
theorem lkR_48 : zLv "PostIndex$QueryReader" 48 yR_take := ⟨(zA2 (i := 109) rfl rfl), (zA2 (i := 111) rfl rfl), (zA0 (i := 9) (q := (yR_take, 3)) rfl rfl)⟩
theorem lkR_52 : zLv "PostIndex$QueryReader" 52 yQ_addStep := ⟨(zA2 (i := 153) rfl rfl), (zA2 (i := 145) rfl rfl), (zA2 (i := 146) rfl rfl)⟩
theorem lkR_56 : zLv "PostIndex$QueryReader" 56 yR_readPart := ⟨(zA2 (i := 105) rfl rfl), (zA2 (i := 107) rfl rfl), (zA0 (i := 8) (q := (yR_readPart, 3)) rfl rfl)⟩
theorem lkR_59 : zLv "PostIndex$QueryReader" 59 yR_partFollows := ⟨(zA2 (i := 154) rfl rfl), (zA2 (i := 156) rfl rfl), (zA0 (i := 16) (q := (yR_partFollows, 3)) rfl rfl)⟩
theorem lkR_63 : zLv "PostIndex$QueryReader" 63 yR_readOne := ⟨(zA2 (i := 122) rfl rfl), (zA2 (i := 124) rfl rfl), (zA0 (i := 12) (q := (yR_readOne, 3)) rfl rfl)⟩
theorem lkR_66 : zLv "PostIndex$QueryReader" 66 yR_readRow := ⟨(zA2 (i := 126) rfl rfl), (zA2 (i := 128) rfl rfl), (zA0 (i := 13) (q := (yR_readRow, 3)) rfl rfl)⟩
theorem lkR_69 : zLv "PostIndex$QueryReader" 69 yR_readFilter := ⟨(zA2 (i := 148) rfl rfl), (zA2 (i := 150) rfl rfl), (zA0 (i := 15) (q := (yR_readFilter, 3)) rfl rfl)⟩
theorem lkR_72 : zLv "PostIndex$QueryReader" 72 yR_readWord := ⟨(zA2 (i := 130) rfl rfl), (zA2 (i := 132) rfl rfl), (zA0 (i := 14) (q := (yR_readWord, 3)) rfl rfl)⟩
theorem lkR_78 : zLv "PostIndex$QueryReader" 78 yQ_addWordsStep := ⟨(zA2 (i := 140) rfl rfl), (zA2 (i := 141) rfl rfl), (zA2 (i := 142) rfl rfl)⟩
theorem lkR_81 : zLv "PostIndex$QueryReader" 81 yR_skipSpaces := ⟨(zA2 (i := 117) rfl rfl), (zA2 (i := 119) rfl rfl), (zA0 (i := 11) (q := (yR_skipSpaces, 3)) rfl rfl)⟩
theorem lkR_84 : zLv "PostIndex$QueryReader" 84 yT_tokenEnd := ⟨(zA2 (i := 134) rfl rfl), (zA2 (i := 23) rfl rfl), (zA2 (i := 24) rfl rfl)⟩
theorem lkR_88 : zLv "PostIndex$QueryReader" 88 yQ_addWord := ⟨(zA2 (i := 135) rfl rfl), (zA2 (i := 136) rfl rfl), (zA2 (i := 137) rfl rfl)⟩
theorem lkR_95 : zLv "PostIndex$QueryReader" 95 yT_charOr0 := ⟨(zA2 (i := 121) rfl rfl), (zA2 (i := 27) rfl rfl), (zA2 (i := 28) rfl rfl)⟩
theorem lkR_99 : zLs "PostIndex$QueryReader" 99 yT_isDigit := ⟨(zA2 (i := 152) rfl rfl), (zA2 (i := 37) rfl rfl)⟩
