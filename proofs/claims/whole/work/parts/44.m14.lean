/-- the reference's arrays, in the order in which they are made: the field, the kind, the length -/
def aM : List (Nat × Nat × Nat) := [(1, 0, 24), (5, 0, 24), (6, 0, 24), (7, 2, 24), (8, 0, 24), (9, 0, 576), (10, 0, 24), (11, 0, 288), (12, 0, 288), (13, 0, 6), (14, 2, 6), (16, 2, 4), (17, 0, 4), (18, 0, 4), (19, 0, 96), (24, 2, 8), (25, 2, 8), (26, 0, 8), (27, 0, 8), (29, 0, 24), (30, 0, 24)]
def aMf (i : Nat) : Nat := (aM.getD i (99, 0, 0)).1
def aMt (i : Nat) : Nat := (aM.getD i (99, 0, 0)).2.1
def aMl (i : Nat) : Nat := (aM.getD i (99, 0, 0)).2.2
theorem aMf_ne : ∀ j, j < 21 → ∀ i, i < j → aMf i ≠ aMf j := by decide +kernel
theorem aMf_old : ∀ j, j < 21 → aMf j ≠ 0 ∧ aMf j ≠ 2 ∧ aMf j ≠ 3 ∧ aMf j ≠ 4 ∧ aMf j ≠ 15 := by decide +kernel
/-- the reference's object, with its first j arrays made -/
def MI (sh0 : zSh) (row0 : zRw) (sh : zSh) (row : zRw) (n j : Nat) : Prop := sh n = some (0, 7, 31) ∧ ext n sh0 sh ∧ kpt n row0 row ∧ (∀ i, i < j → sh (n + 1 + i) = some (1, aMt i, aMl i) ∧ row n (aMf i) = .ref (n + 1 + i) ∧ ∀ k, row (n + 1 + i) k = .int (nI 0)) ∧ (row n 0 = .int (nI 0) ∧ row n 2 = .int (nI 0) ∧ row n 3 = .int (nI 0) ∧ row n 4 = .int (nI 0) ∧ row n 15 = .int (nI 0))
theorem MI.st {sh0 sh : zSh} {row0 row : zRw} {n j b t l f : Nat} (h : MI sh0 row0 sh row n j) (hj : j < 21) (hb : b = n + 1 + j) (ht : t = aMt j) (hl : l = aMl j) (hf : f = aMf j) : MI sh0 row0 (zps sh b (1, t, l)) (zup (zpr row b (fun _ => .int 0)) n f (.ref b)) n (j + 1) := by
  subst hb ht hl hf
  obtain ⟨h1, h2, h3, h4, h5⟩ := h
  have hu : ∀ k, k ≠ aMf j → zup (zpr row (n + 1 + j) (fun _ => .int 0)) n (aMf j) (.ref (n + 1 + j)) n k = row n k := fun k hk => by rw [zup_k (Or.inr hk), zpr_ne (by omega)]
  obtain ⟨o0, o2, o3, o4, o15⟩ := aMf_old j hj
  refine ⟨by rw [zps_ne (by omega)]; exact h1, fun a ha => by rw [zps_ne (by omega)]; exact h2 a ha, fun b hb => by rw [zup_ne (by omega), zpr_ne (by omega)]; exact h3 b hb, fun i hi => ?_, ?_⟩
  · by_cases e : i = j
    · subst e
      exact ⟨zps_self, zup_same _ _ _, fun k => by rw [zup_ne (by omega), zpr_self]; rfl⟩
    · obtain ⟨a1, a2, a3⟩ := h4 i (by omega)
      refine ⟨by rw [zps_ne (by omega)]; exact a1, by rw [hu _ (aMf_ne j hj i (by omega))]; exact a2, fun k => by rw [zup_ne (by omega), zpr_ne (by omega)]; exact a3 k⟩
  · rw [hu _ o0.symm, hu _ o2.symm, hu _ o3.symm, hu _ o4.symm, hu _ o15.symm]; exact h5
def mP0 : mP := (fun _ => 0, fun _ => 0, fun _ => false, fun _ => 0, fun _ => 0)
def mT0 : mT := (fun _ => 0, fun _ => 0, fun _ => 0)
def mS0 : mS := (fun _ => 0, fun _ => false)
def mH0 : mH := (fun _ => false, fun _ => 0, fun _ => 0, fun _ => 0)
theorem MI.fin {sh0 sh : zSh} {row0 row : zRw} {n : Nat} (h : MI sh0 row0 sh row n 21) : MA sh row n (0, fun _ => 0) (0, 0, 0, 0) mP0 mT0 mS0 mH0 := by
  obtain ⟨h1, h2, h3, h4, ⟨f1, f2, f3, f4, f5⟩⟩ := h
  exact ⟨⟨h1, (h4 0 (by decide)).1, (h4 1 (by decide)).1, (h4 2 (by decide)).1, (h4 3 (by decide)).1, (h4 4 (by decide)).1, (h4 5 (by decide)).1, (h4 6 (by decide)).1, (h4 7 (by decide)).1, (h4 8 (by decide)).1, (h4 9 (by decide)).1, (h4 10 (by decide)).1, (h4 11 (by decide)).1, (h4 12 (by decide)).1, (h4 13 (by decide)).1, (h4 14 (by decide)).1, (h4 15 (by decide)).1, (h4 16 (by decide)).1, (h4 17 (by decide)).1, (h4 18 (by decide)).1, (h4 19 (by decide)).1, (h4 20 (by decide)).1⟩, ⟨(h4 0 (by decide)).2.1, (h4 1 (by decide)).2.1, (h4 2 (by decide)).2.1, (h4 3 (by decide)).2.1, (h4 4 (by decide)).2.1, (h4 5 (by decide)).2.1, (h4 6 (by decide)).2.1, (h4 7 (by decide)).2.1, (h4 8 (by decide)).2.1, (h4 9 (by decide)).2.1, (h4 10 (by decide)).2.1, (h4 11 (by decide)).2.1, (h4 12 (by decide)).2.1, (h4 13 (by decide)).2.1, (h4 14 (by decide)).2.1, (h4 15 (by decide)).2.1, (h4 16 (by decide)).2.1, (h4 17 (by decide)).2.1, (h4 18 (by decide)).2.1, (h4 19 (by decide)).2.1, (h4 20 (by decide)).2.1⟩, ⟨f1, f2, f3, f4, f5⟩, fun k _ => (h4 0 (by decide)).2.2 k, fun k _ => (h4 1 (by decide)).2.2 k, fun k _ => (h4 2 (by decide)).2.2 k, fun k _ => (h4 3 (by decide)).2.2 k, fun k _ => (h4 4 (by decide)).2.2 k, fun k _ => (h4 5 (by decide)).2.2 k, fun k _ => (h4 6 (by decide)).2.2 k, fun k _ => (h4 7 (by decide)).2.2 k, fun k _ => (h4 8 (by decide)).2.2 k, fun k _ => (h4 9 (by decide)).2.2 k, fun k _ => (h4 10 (by decide)).2.2 k, fun k _ => (h4 11 (by decide)).2.2 k, fun k _ => (h4 12 (by decide)).2.2 k, fun k _ => (h4 13 (by decide)).2.2 k, fun k _ => (h4 14 (by decide)).2.2 k⟩

set_option maxHeartbeats 4000000 in
set_option maxRecDepth 100000 in
theorem kM_init (G : zG) (d : Nat) (hd : 1 ≤ d) {n : Nat} {sh : zSh} {row : zRw} (hs : sh n = some (0, 7, 31)) (hr : row n = fun k => defaultValue (tyM k)) : zM G (fM_init d) [.ref n] n sh row (zpC (fun sh' row' => ext n sh sh' ∧ kpt n row row' ∧ MA sh' row' n (0, fun _ => 0) (0, 0, 0, 0) mP0 mT0 mS0 mH0)) := by
  refine zM.of (by show plainName "PostIndexModel" = true; decide +kernel) (Nat.le_of_ble_eq_true rfl) (by intro v hv; simp at hv; rcases hv with rfl <;> rfl) ?_
  intro K hE
  show zX G K (fM_init d) n 0 0 sh row 0 [.ref n] []
  have hD : d - 1 + 1 ≤ d := by omega
  refine zx_aload_n dM_init_0 rfl ?_
  refine zx_obj dM_init_1 lkM_1 (by show 1 ≤ d; omega) (Nat.le_of_ble_eq_true rfl) ?_
  have i0 : MI sh row sh row n 0 := ⟨hs, ext.rf, kpt.rf, fun i hi => absurd hi (Nat.not_lt_zero _), by rw [hr]; exact ⟨rfl, rfl, rfl, rfl, rfl⟩⟩
  refine zx_aload_n dM_init_4 rfl ?_
  refine zx_bipush (v := nI 24) dM_init_5 (by decide) ?_
  refine zx_newa (N := 24) dM_init_7 arI rfl rfl (by decide) (by decide) (by decide) (Nat.le_of_ble_eq_true rfl) (Nat.le_of_ble_eq_true rfl) ?_
  refine zx_putF hE rfl (fun C T h => by cases h; rfl) dM_init_9 flM_7 tpM_1 (by rw [zps_ne (by omega)]; exact i0.1) rfl rfl ?_
  refine zX_cs (ce' := 1) (sl' := 24) rfl rfl ?_
  have i1 := i0.st (b := n + (0 + 1)) (t := 0) (l := 24) (f := 1) (by decide) (by omega) rfl rfl rfl
  generalize zps sh (n + (0 + 1)) (1, 0, 24) = s1 at i1 ⊢
  generalize zup (zpr row (n + (0 + 1)) (fun _ => .int 0)) n 1 (.ref (n + (0 + 1))) = r1 at i1 ⊢
  refine zx_aload_n dM_init_12 rfl ?_
  refine zx_bipush (v := nI 24) dM_init_13 (by decide) ?_
  refine zx_newa (N := 24) dM_init_15 arI rfl rfl (by decide) (by decide) (by decide) (Nat.le_of_ble_eq_true rfl) (Nat.le_of_ble_eq_true rfl) ?_
  refine zx_putF hE rfl (fun C T h => by cases h; rfl) dM_init_17 flM_13 tpM_5 (by rw [zps_ne (by omega)]; exact i1.1) rfl rfl ?_
  refine zX_cs (ce' := 2) (sl' := 48) rfl rfl ?_
  have i2 := i1.st (b := n + (1 + 1)) (t := 0) (l := 24) (f := 5) (by decide) (by omega) rfl rfl rfl
  generalize zps s1 (n + (1 + 1)) (1, 0, 24) = s2 at i2 ⊢
  generalize zup (zpr r1 (n + (1 + 1)) (fun _ => .int 0)) n 5 (.ref (n + (1 + 1))) = r2 at i2 ⊢
  refine zx_aload_n dM_init_20 rfl ?_
  refine zx_bipush (v := nI 24) dM_init_21 (by decide) ?_
  refine zx_newa (N := 24) dM_init_23 arI rfl rfl (by decide) (by decide) (by decide) (Nat.le_of_ble_eq_true rfl) (Nat.le_of_ble_eq_true rfl) ?_
  refine zx_putF hE rfl (fun C T h => by cases h; rfl) dM_init_25 flM_16 tpM_6 (by rw [zps_ne (by omega)]; exact i2.1) rfl rfl ?_
  refine zX_cs (ce' := 3) (sl' := 72) rfl rfl ?_
  have i3 := i2.st (b := n + (2 + 1)) (t := 0) (l := 24) (f := 6) (by decide) (by omega) rfl rfl rfl
  generalize zps s2 (n + (2 + 1)) (1, 0, 24) = s3 at i3 ⊢
  generalize zup (zpr r2 (n + (2 + 1)) (fun _ => .int 0)) n 6 (.ref (n + (2 + 1))) = r3 at i3 ⊢
  refine zx_aload_n dM_init_28 rfl ?_
  refine zx_bipush (v := nI 24) dM_init_29 (by decide) ?_
  refine zx_newa (N := 24) dM_init_31 arZ rfl rfl (by decide) (by decide) (by decide) (Nat.le_of_ble_eq_true rfl) (Nat.le_of_ble_eq_true rfl) ?_
  refine zx_putF hE rfl (fun C T h => by cases h; rfl) dM_init_33 flM_19 tpM_7 (by rw [zps_ne (by omega)]; exact i3.1) rfl rfl ?_
  refine zX_cs (ce' := 4) (sl' := 96) rfl rfl ?_
  have i4 := i3.st (b := n + (3 + 1)) (t := 2) (l := 24) (f := 7) (by decide) (by omega) rfl rfl rfl
  generalize zps s3 (n + (3 + 1)) (1, 2, 24) = s4 at i4 ⊢
  generalize zup (zpr r3 (n + (3 + 1)) (fun _ => .int 0)) n 7 (.ref (n + (3 + 1))) = r4 at i4 ⊢
  refine zx_aload_n dM_init_36 rfl ?_
  refine zx_bipush (v := nI 24) dM_init_37 (by decide) ?_
  refine zx_newa (N := 24) dM_init_39 arI rfl rfl (by decide) (by decide) (by decide) (Nat.le_of_ble_eq_true rfl) (Nat.le_of_ble_eq_true rfl) ?_
  refine zx_putF hE rfl (fun C T h => by cases h; rfl) dM_init_41 flM_23 tpM_8 (by rw [zps_ne (by omega)]; exact i4.1) rfl rfl ?_
  refine zX_cs (ce' := 5) (sl' := 120) rfl rfl ?_
  have i5 := i4.st (b := n + (4 + 1)) (t := 0) (l := 24) (f := 8) (by decide) (by omega) rfl rfl rfl
  generalize zps s4 (n + (4 + 1)) (1, 0, 24) = s5 at i5 ⊢
  generalize zup (zpr r4 (n + (4 + 1)) (fun _ => .int 0)) n 8 (.ref (n + (4 + 1))) = r5 at i5 ⊢
  refine zx_aload_n dM_init_44 rfl ?_
  refine zx_sipush (v := nI 576) dM_init_45 (by decide) ?_
  refine zx_newa (N := 576) dM_init_48 arI rfl rfl (by decide) (by decide) (by decide) (Nat.le_of_ble_eq_true rfl) (Nat.le_of_ble_eq_true rfl) ?_
  refine zx_putF hE rfl (fun C T h => by cases h; rfl) dM_init_50 flM_26 tpM_9 (by rw [zps_ne (by omega)]; exact i5.1) rfl rfl ?_
  refine zX_cs (ce' := 6) (sl' := 696) rfl rfl ?_
  have i6 := i5.st (b := n + (5 + 1)) (t := 0) (l := 576) (f := 9) (by decide) (by omega) rfl rfl rfl
  generalize zps s5 (n + (5 + 1)) (1, 0, 576) = s6 at i6 ⊢
  generalize zup (zpr r5 (n + (5 + 1)) (fun _ => .int 0)) n 9 (.ref (n + (5 + 1))) = r6 at i6 ⊢
  refine zx_aload_n dM_init_53 rfl ?_
  refine zx_bipush (v := nI 24) dM_init_54 (by decide) ?_
  refine zx_newa (N := 24) dM_init_56 arI rfl rfl (by decide) (by decide) (by decide) (Nat.le_of_ble_eq_true rfl) (Nat.le_of_ble_eq_true rfl) ?_
  refine zx_putF hE rfl (fun C T h => by cases h; rfl) dM_init_58 flM_29 tpM_10 (by rw [zps_ne (by omega)]; exact i6.1) rfl rfl ?_
  refine zX_cs (ce' := 7) (sl' := 720) rfl rfl ?_
  have i7 := i6.st (b := n + (6 + 1)) (t := 0) (l := 24) (f := 10) (by decide) (by omega) rfl rfl rfl
  generalize zps s6 (n + (6 + 1)) (1, 0, 24) = s7 at i7 ⊢
  generalize zup (zpr r6 (n + (6 + 1)) (fun _ => .int 0)) n 10 (.ref (n + (6 + 1))) = r7 at i7 ⊢
  refine zx_aload_n dM_init_61 rfl ?_
  refine zx_sipush (v := nI 288) dM_init_62 (by decide) ?_
  refine zx_newa (N := 288) dM_init_65 arI rfl rfl (by decide) (by decide) (by decide) (Nat.le_of_ble_eq_true rfl) (Nat.le_of_ble_eq_true rfl) ?_
  refine zx_putF hE rfl (fun C T h => by cases h; rfl) dM_init_67 flM_32 tpM_11 (by rw [zps_ne (by omega)]; exact i7.1) rfl rfl ?_
  refine zX_cs (ce' := 8) (sl' := 1008) rfl rfl ?_
  have i8 := i7.st (b := n + (7 + 1)) (t := 0) (l := 288) (f := 11) (by decide) (by omega) rfl rfl rfl
  generalize zps s7 (n + (7 + 1)) (1, 0, 288) = s8 at i8 ⊢
  generalize zup (zpr r7 (n + (7 + 1)) (fun _ => .int 0)) n 11 (.ref (n + (7 + 1))) = r8 at i8 ⊢
  refine zx_aload_n dM_init_70 rfl ?_
  refine zx_sipush (v := nI 288) dM_init_71 (by decide) ?_
  refine zx_newa (N := 288) dM_init_74 arI rfl rfl (by decide) (by decide) (by decide) (Nat.le_of_ble_eq_true rfl) (Nat.le_of_ble_eq_true rfl) ?_
  refine zx_putF hE rfl (fun C T h => by cases h; rfl) dM_init_76 flM_35 tpM_12 (by rw [zps_ne (by omega)]; exact i8.1) rfl rfl ?_
  refine zX_cs (ce' := 9) (sl' := 1296) rfl rfl ?_
  have i9 := i8.st (b := n + (8 + 1)) (t := 0) (l := 288) (f := 12) (by decide) (by omega) rfl rfl rfl
  generalize zps s8 (n + (8 + 1)) (1, 0, 288) = s9 at i9 ⊢
  generalize zup (zpr r8 (n + (8 + 1)) (fun _ => .int 0)) n 12 (.ref (n + (8 + 1))) = r9 at i9 ⊢
  refine zx_aload_n dM_init_79 rfl ?_
  refine zx_bipush (v := nI 6) dM_init_80 (by decide) ?_
  refine zx_newa (N := 6) dM_init_82 arI rfl rfl (by decide) (by decide) (by decide) (Nat.le_of_ble_eq_true rfl) (Nat.le_of_ble_eq_true rfl) ?_
  refine zx_putF hE rfl (fun C T h => by cases h; rfl) dM_init_84 flM_38 tpM_13 (by rw [zps_ne (by omega)]; exact i9.1) rfl rfl ?_
  refine zX_cs (ce' := 10) (sl' := 1302) rfl rfl ?_
  have i10 := i9.st (b := n + (9 + 1)) (t := 0) (l := 6) (f := 13) (by decide) (by omega) rfl rfl rfl
  generalize zps s9 (n + (9 + 1)) (1, 0, 6) = s10 at i10 ⊢
  generalize zup (zpr r9 (n + (9 + 1)) (fun _ => .int 0)) n 13 (.ref (n + (9 + 1))) = r10 at i10 ⊢
  refine zx_aload_n dM_init_87 rfl ?_
  refine zx_bipush (v := nI 6) dM_init_88 (by decide) ?_
  refine zx_newa (N := 6) dM_init_90 arZ rfl rfl (by decide) (by decide) (by decide) (Nat.le_of_ble_eq_true rfl) (Nat.le_of_ble_eq_true rfl) ?_
  refine zx_putF hE rfl (fun C T h => by cases h; rfl) dM_init_92 flM_41 tpM_14 (by rw [zps_ne (by omega)]; exact i10.1) rfl rfl ?_
  refine zX_cs (ce' := 11) (sl' := 1308) rfl rfl ?_
  have i11 := i10.st (b := n + (10 + 1)) (t := 2) (l := 6) (f := 14) (by decide) (by omega) rfl rfl rfl
  generalize zps s10 (n + (10 + 1)) (1, 2, 6) = s11 at i11 ⊢
  generalize zup (zpr r10 (n + (10 + 1)) (fun _ => .int 0)) n 14 (.ref (n + (10 + 1))) = r11 at i11 ⊢
  refine zx_aload_n dM_init_95 rfl ?_
  refine zx_iconst (v := nI 4) dM_init_96 (by decide) ?_
  refine zx_newa (N := 4) dM_init_97 arZ rfl rfl (by decide) (by decide) (by decide) (Nat.le_of_ble_eq_true rfl) (Nat.le_of_ble_eq_true rfl) ?_
  refine zx_putF hE rfl (fun C T h => by cases h; rfl) dM_init_99 flM_44 tpM_16 (by rw [zps_ne (by omega)]; exact i11.1) rfl rfl ?_
  refine zX_cs (ce' := 12) (sl' := 1312) rfl rfl ?_
  have i12 := i11.st (b := n + (11 + 1)) (t := 2) (l := 4) (f := 16) (by decide) (by omega) rfl rfl rfl
  generalize zps s11 (n + (11 + 1)) (1, 2, 4) = s12 at i12 ⊢
  generalize zup (zpr r11 (n + (11 + 1)) (fun _ => .int 0)) n 16 (.ref (n + (11 + 1))) = r12 at i12 ⊢
  refine zx_aload_n dM_init_102 rfl ?_
  refine zx_iconst (v := nI 4) dM_init_103 (by decide) ?_
  refine zx_newa (N := 4) dM_init_104 arI rfl rfl (by decide) (by decide) (by decide) (Nat.le_of_ble_eq_true rfl) (Nat.le_of_ble_eq_true rfl) ?_
  refine zx_putF hE rfl (fun C T h => by cases h; rfl) dM_init_106 flM_47 tpM_17 (by rw [zps_ne (by omega)]; exact i12.1) rfl rfl ?_
  refine zX_cs (ce' := 13) (sl' := 1316) rfl rfl ?_
  have i13 := i12.st (b := n + (12 + 1)) (t := 0) (l := 4) (f := 17) (by decide) (by omega) rfl rfl rfl
  generalize zps s12 (n + (12 + 1)) (1, 0, 4) = s13 at i13 ⊢
  generalize zup (zpr r12 (n + (12 + 1)) (fun _ => .int 0)) n 17 (.ref (n + (12 + 1))) = r13 at i13 ⊢
  refine zx_aload_n dM_init_109 rfl ?_
  refine zx_iconst (v := nI 4) dM_init_110 (by decide) ?_
  refine zx_newa (N := 4) dM_init_111 arI rfl rfl (by decide) (by decide) (by decide) (Nat.le_of_ble_eq_true rfl) (Nat.le_of_ble_eq_true rfl) ?_
  refine zx_putF hE rfl (fun C T h => by cases h; rfl) dM_init_113 flM_50 tpM_18 (by rw [zps_ne (by omega)]; exact i13.1) rfl rfl ?_
  refine zX_cs (ce' := 14) (sl' := 1320) rfl rfl ?_
  have i14 := i13.st (b := n + (13 + 1)) (t := 0) (l := 4) (f := 18) (by decide) (by omega) rfl rfl rfl
  generalize zps s13 (n + (13 + 1)) (1, 0, 4) = s14 at i14 ⊢
  generalize zup (zpr r13 (n + (13 + 1)) (fun _ => .int 0)) n 18 (.ref (n + (13 + 1))) = r14 at i14 ⊢
  refine zx_aload_n dM_init_116 rfl ?_
  refine zx_bipush (v := nI 96) dM_init_117 (by decide) ?_
  refine zx_newa (N := 96) dM_init_119 arI rfl rfl (by decide) (by decide) (by decide) (Nat.le_of_ble_eq_true rfl) (Nat.le_of_ble_eq_true rfl) ?_
  refine zx_putF hE rfl (fun C T h => by cases h; rfl) dM_init_121 flM_53 tpM_19 (by rw [zps_ne (by omega)]; exact i14.1) rfl rfl ?_
  refine zX_cs (ce' := 15) (sl' := 1416) rfl rfl ?_
  have i15 := i14.st (b := n + (14 + 1)) (t := 0) (l := 96) (f := 19) (by decide) (by omega) rfl rfl rfl
  generalize zps s14 (n + (14 + 1)) (1, 0, 96) = s15 at i15 ⊢
  generalize zup (zpr r14 (n + (14 + 1)) (fun _ => .int 0)) n 19 (.ref (n + (14 + 1))) = r15 at i15 ⊢
  refine zx_aload_n dM_init_124 rfl ?_
  refine zx_bipush (v := nI 8) dM_init_125 (by decide) ?_
  refine zx_newa (N := 8) dM_init_127 arZ rfl rfl (by decide) (by decide) (by decide) (Nat.le_of_ble_eq_true rfl) (Nat.le_of_ble_eq_true rfl) ?_
  refine zx_putF hE rfl (fun C T h => by cases h; rfl) dM_init_129 flM_56 tpM_24 (by rw [zps_ne (by omega)]; exact i15.1) rfl rfl ?_
  refine zX_cs (ce' := 16) (sl' := 1424) rfl rfl ?_
  have i16 := i15.st (b := n + (15 + 1)) (t := 2) (l := 8) (f := 24) (by decide) (by omega) rfl rfl rfl
  generalize zps s15 (n + (15 + 1)) (1, 2, 8) = s16 at i16 ⊢
  generalize zup (zpr r15 (n + (15 + 1)) (fun _ => .int 0)) n 24 (.ref (n + (15 + 1))) = r16 at i16 ⊢
  refine zx_aload_n dM_init_132 rfl ?_
  refine zx_bipush (v := nI 8) dM_init_133 (by decide) ?_
  refine zx_newa (N := 8) dM_init_135 arZ rfl rfl (by decide) (by decide) (by decide) (Nat.le_of_ble_eq_true rfl) (Nat.le_of_ble_eq_true rfl) ?_
  refine zx_putF hE rfl (fun C T h => by cases h; rfl) dM_init_137 flM_59 tpM_25 (by rw [zps_ne (by omega)]; exact i16.1) rfl rfl ?_
  refine zX_cs (ce' := 17) (sl' := 1432) rfl rfl ?_
  have i17 := i16.st (b := n + (16 + 1)) (t := 2) (l := 8) (f := 25) (by decide) (by omega) rfl rfl rfl
  generalize zps s16 (n + (16 + 1)) (1, 2, 8) = s17 at i17 ⊢
  generalize zup (zpr r16 (n + (16 + 1)) (fun _ => .int 0)) n 25 (.ref (n + (16 + 1))) = r17 at i17 ⊢
  refine zx_aload_n dM_init_140 rfl ?_
  refine zx_bipush (v := nI 8) dM_init_141 (by decide) ?_
  refine zx_newa (N := 8) dM_init_143 arI rfl rfl (by decide) (by decide) (by decide) (Nat.le_of_ble_eq_true rfl) (Nat.le_of_ble_eq_true rfl) ?_
  refine zx_putF hE rfl (fun C T h => by cases h; rfl) dM_init_145 flM_62 tpM_26 (by rw [zps_ne (by omega)]; exact i17.1) rfl rfl ?_
  refine zX_cs (ce' := 18) (sl' := 1440) rfl rfl ?_
  have i18 := i17.st (b := n + (17 + 1)) (t := 0) (l := 8) (f := 26) (by decide) (by omega) rfl rfl rfl
  generalize zps s17 (n + (17 + 1)) (1, 0, 8) = s18 at i18 ⊢
  generalize zup (zpr r17 (n + (17 + 1)) (fun _ => .int 0)) n 26 (.ref (n + (17 + 1))) = r18 at i18 ⊢
  refine zx_aload_n dM_init_148 rfl ?_
  refine zx_bipush (v := nI 8) dM_init_149 (by decide) ?_
  refine zx_newa (N := 8) dM_init_151 arI rfl rfl (by decide) (by decide) (by decide) (Nat.le_of_ble_eq_true rfl) (Nat.le_of_ble_eq_true rfl) ?_
  refine zx_putF hE rfl (fun C T h => by cases h; rfl) dM_init_153 flM_65 tpM_27 (by rw [zps_ne (by omega)]; exact i18.1) rfl rfl ?_
  refine zX_cs (ce' := 19) (sl' := 1448) rfl rfl ?_
  have i19 := i18.st (b := n + (18 + 1)) (t := 0) (l := 8) (f := 27) (by decide) (by omega) rfl rfl rfl
  generalize zps s18 (n + (18 + 1)) (1, 0, 8) = s19 at i19 ⊢
  generalize zup (zpr r18 (n + (18 + 1)) (fun _ => .int 0)) n 27 (.ref (n + (18 + 1))) = r19 at i19 ⊢
  refine zx_aload_n dM_init_156 rfl ?_
  refine zx_bipush (v := nI 24) dM_init_157 (by decide) ?_
  refine zx_newa (N := 24) dM_init_159 arI rfl rfl (by decide) (by decide) (by decide) (Nat.le_of_ble_eq_true rfl) (Nat.le_of_ble_eq_true rfl) ?_
  refine zx_putF hE rfl (fun C T h => by cases h; rfl) dM_init_161 flM_68 tpM_29 (by rw [zps_ne (by omega)]; exact i19.1) rfl rfl ?_
  refine zX_cs (ce' := 20) (sl' := 1472) rfl rfl ?_
  have i20 := i19.st (b := n + (19 + 1)) (t := 0) (l := 24) (f := 29) (by decide) (by omega) rfl rfl rfl
  generalize zps s19 (n + (19 + 1)) (1, 0, 24) = s20 at i20 ⊢
  generalize zup (zpr r19 (n + (19 + 1)) (fun _ => .int 0)) n 29 (.ref (n + (19 + 1))) = r20 at i20 ⊢
  refine zx_aload_n dM_init_164 rfl ?_
  refine zx_bipush (v := nI 24) dM_init_165 (by decide) ?_
  refine zx_newa (N := 24) dM_init_167 arI rfl rfl (by decide) (by decide) (by decide) (Nat.le_of_ble_eq_true rfl) (Nat.le_of_ble_eq_true rfl) ?_
  refine zx_putF hE rfl (fun C T h => by cases h; rfl) dM_init_169 flM_71 tpM_30 (by rw [zps_ne (by omega)]; exact i20.1) rfl rfl ?_
  refine zX_cs (ce' := 21) (sl' := 1496) rfl rfl ?_
  have i21 := i20.st (b := n + (20 + 1)) (t := 0) (l := 24) (f := 30) (by decide) (by omega) rfl rfl rfl
  generalize zps s20 (n + (20 + 1)) (1, 0, 24) = s21 at i21 ⊢
  generalize zup (zpr r20 (n + (20 + 1)) (fun _ => .int 0)) n 30 (.ref (n + (20 + 1))) = r21 at i21 ⊢
  exact zx_vret hE rfl dM_init_172 rfl (Nat.le_of_ble_eq_true rfl) ⟨rfl, i21.2.1, i21.2.2.1, i21.fin⟩

