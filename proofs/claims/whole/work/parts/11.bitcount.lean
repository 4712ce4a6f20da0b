def ush (x : Int32) (k : Nat) : Int32 := (x.toUInt32 >>> ((nI k).toUInt32 &&& Int32.toUInt32 31)).toInt32
def bN (x : Int32) : Nat := x.toBitVec.toNat
theorem bN_lt (x : Int32) : bN x < 4294967296 := x.toBitVec.isLt
theorem bN_and (x y : Int32) : bN (x &&& y) = bN x &&& bN y := by unfold bN; rw [Int32.toBitVec_and, BitVec.toNat_and]
theorem bN_ush (x : Int32) {k : Nat} (hk : k < 32) : bN (ush x k) = bN x / 2 ^ k := pk_ushr x (nI k) k (s_u k hk)
theorem bN_add {x y : Int32} (h : bN x + bN y < 4294967296) : bN (x + y) = bN x + bN y := by
  unfold bN at *
  rw [Int32.toBitVec_add, BitVec.toNat_add]
  exact Nat.mod_eq_of_lt h
theorem bN_sub {x y : Int32} (h : bN y ≤ bN x) : bN (x - y) = bN x - bN y := by
  have h1 := bN_lt x
  unfold bN at *
  rw [Int32.toBitVec_sub, BitVec.toNat_sub]
  omega
theorem bN_inj {x y : Int32} (h : bN x = bN y) : x = y := Int32.toBitVec_inj.mp (BitVec.eq_of_toNat_eq h)
theorem bN_nI {k : Nat} (h : k < 4294967296) : bN (nI k) = k := pk_tn h
def bcI (x : Int32) : Int32 :=
  let y := x - (ush x 1 &&& 1431655765)
  let z := (y &&& 858993459) + (ush y 2 &&& 858993459)
  let u := (z + ush z 4) &&& 252645135
  let v := u + ush u 8
  let w := v + ush v 16
  w &&& nI 63
theorem bcI_ok (x : Int32) : bcI x = nI (popc x) := by
  apply bN_inj
  have hp : popc x ≤ 32 := cnt_le _ _
  rw [bN_nI (by omega)]
  have hx := bN_lt x
  have e : popc x = cnt (fun i => (bN x).testBit i) 32 := cnt_congr (fun i _ => by show x.toBitVec.getLsbD i = _; unfold bN; rw [BitVec.testBit_toNat])
  rw [e, ← bcN_ok _ hx]
  unfold bcI bcN
  simp only
  have a1 : bN (ush x 1 &&& 1431655765) = bN x / 2 &&& 1431655765 := by rw [bN_and, bN_ush x (by decide)]; rfl
  have l1 : bN x / 2 &&& 1431655765 ≤ bN x := Nat.le_trans Nat.and_le_left (by omega)
  generalize hy : x - (ush x 1 &&& 1431655765) = y
  have ey : bN y = bN x - (bN x / 2 &&& 1431655765) := by rw [← hy, bN_sub (by rw [a1]; exact l1), a1]
  rw [← ey]
  have a2 : bN (y &&& 858993459) = bN y &&& 858993459 := by rw [bN_and]; rfl
  have a3 : bN (ush y 2 &&& 858993459) = bN y / 4 &&& 858993459 := by rw [bN_and, bN_ush y (by decide)]; rfl
  have l2 : bN y &&& 858993459 ≤ 858993459 := Nat.and_le_right
  have l3 : bN y / 4 &&& 858993459 ≤ 858993459 := Nat.and_le_right
  generalize hz : (y &&& 858993459) + (ush y 2 &&& 858993459) = z
  have ez : bN z = (bN y &&& 858993459) + (bN y / 4 &&& 858993459) := by rw [← hz, bN_add (by rw [a2, a3]; omega), a2, a3]
  rw [← ez]
  have lz : bN z ≤ 1717986918 := by omega
  have a4 : bN (ush z 4) = bN z / 16 := by rw [bN_ush z (by decide)]
  have a5 : bN (z + ush z 4) = bN z + bN z / 16 := by rw [bN_add (by rw [a4]; omega), a4]
  generalize hu : (z + ush z 4) &&& 252645135 = u
  have eu : bN u = (bN z + bN z / 16) &&& 252645135 := by rw [← hu, bN_and, a5]; rfl
  rw [← eu]
  have lu : bN u ≤ 252645135 := by rw [eu]; exact Nat.and_le_right
  have a6 : bN (u + ush u 8) = bN u + bN u / 256 := by rw [bN_add (by rw [bN_ush u (by decide)]; omega), bN_ush u (by decide)]
  generalize hv : u + ush u 8 = v at a6 ⊢
  have a7 : bN (v + ush v 16) = bN v + bN v / 65536 := by rw [bN_add (by rw [bN_ush v (by decide)]; omega), bN_ush v (by decide)]
  rw [bN_and, a7, ← a6]
  rfl

set_option maxHeartbeats 4000000 in
set_option maxRecDepth 100000 in
theorem kI_bitCount (G : zG) (d : Nat) (hd : 0 ≤ d) {n : Nat} {sh : zSh} {row : zRw} {x : Int32} : zM G (fI_bitCount d) [.int x] n sh row (zP sh row (.int (nI (popc x)))) := by
  refine zM.of (by show plainName "java/lang/Integer" = true; decide +kernel) (Nat.le_of_ble_eq_true rfl) (by intro v hv; simp at hv; rcases hv with rfl <;> rfl) ?_
  intro K hE
  show zX G K (fI_bitCount d) n 0 0 sh row 0 [.int x] []
  refine zx_iload_n dI_bitCount_0 rfl ?_
  refine zx_iload_n dI_bitCount_1 rfl ?_
  refine zx_iconst (v := nI 1) dI_bitCount_2 (by decide) ?_
  refine zx_iushr dI_bitCount_3 rfl ?_
  refine zx_ldcw (v := 1431655765) dI_bitCount_4 (zA2 (i := 220) rfl rfl) ?_
  refine zx_iand dI_bitCount_7 ?_
  refine zx_isub dI_bitCount_8 ?_
  refine zx_istore_n dI_bitCount_9 (Nat.le_of_ble_eq_true rfl) rfl rfl ?_
  refine zx_iload_n dI_bitCount_10 rfl ?_
  refine zx_ldcw (v := 858993459) dI_bitCount_11 (zA2 (i := 221) rfl rfl) ?_
  refine zx_iand dI_bitCount_14 ?_
  refine zx_iload_n dI_bitCount_15 rfl ?_
  refine zx_iconst (v := nI 2) dI_bitCount_16 (by decide) ?_
  refine zx_iushr dI_bitCount_17 rfl ?_
  refine zx_ldcw (v := 858993459) dI_bitCount_18 (zA2 (i := 221) rfl rfl) ?_
  refine zx_iand dI_bitCount_21 ?_
  refine zx_iadd dI_bitCount_22 ?_
  refine zx_istore_n dI_bitCount_23 (Nat.le_of_ble_eq_true rfl) rfl rfl ?_
  refine zx_iload_n dI_bitCount_24 rfl ?_
  refine zx_iload_n dI_bitCount_25 rfl ?_
  refine zx_iconst (v := nI 4) dI_bitCount_26 (by decide) ?_
  refine zx_iushr dI_bitCount_27 rfl ?_
  refine zx_iadd dI_bitCount_28 ?_
  refine zx_ldcw (v := 252645135) dI_bitCount_29 (zA2 (i := 222) rfl rfl) ?_
  refine zx_iand dI_bitCount_32 ?_
  refine zx_istore_n dI_bitCount_33 (Nat.le_of_ble_eq_true rfl) rfl rfl ?_
  refine zx_iload_n dI_bitCount_34 rfl ?_
  refine zx_iload_n dI_bitCount_35 rfl ?_
  refine zx_bipush (v := nI 8) dI_bitCount_36 (by decide) ?_
  refine zx_iushr dI_bitCount_38 rfl ?_
  refine zx_iadd dI_bitCount_39 ?_
  refine zx_istore_n dI_bitCount_40 (Nat.le_of_ble_eq_true rfl) rfl rfl ?_
  refine zx_iload_n dI_bitCount_41 rfl ?_
  refine zx_iload_n dI_bitCount_42 rfl ?_
  refine zx_bipush (v := nI 16) dI_bitCount_43 (by decide) ?_
  refine zx_iushr dI_bitCount_45 rfl ?_
  refine zx_iadd dI_bitCount_46 ?_
  refine zx_istore_n dI_bitCount_47 (Nat.le_of_ble_eq_true rfl) rfl rfl ?_
  refine zx_iload_n dI_bitCount_48 rfl ?_
  refine zx_bipush (v := nI 63) dI_bitCount_49 (by decide) ?_
  refine zx_iand dI_bitCount_51 ?_
  exact zx_iret hE rfl dI_bitCount_52 rfl (Nat.le_of_ble_eq_true rfl) ⟨by rw [← bcI_ok]; rfl, rfl, rfl⟩

