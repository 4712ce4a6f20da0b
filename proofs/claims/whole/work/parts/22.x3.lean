def unN (v : Int32) : Nat := if v < nI 1 ∨ nI 6 < v then 0 else v.toNatClampNeg
theorem unN_ok {v : Int32} (h1 : ¬ v < nI 1) (h2 : ¬ nI 6 < v) : ∃ j, 1 ≤ j ∧ j ≤ 6 ∧ v = nI j ∧ unN v = j := by
  have h0 : ¬ v < 0 := fun h => h1 (Int32.lt_trans h (by decide))
  obtain ⟨j, hj, rfl⟩ := nI_of h0
  have a : 1 ≤ j := Nat.le_of_not_lt (fun h => h1 ((nI_ltI hj (by decide)).mpr h))
  have b : j ≤ 6 := Nat.le_of_not_lt (fun h => h2 ((nI_ltI (by decide) hj).mpr h))
  refine ⟨j, a, b, rfl, ?_⟩
  unfold unN
  rw [if_neg (fun h => h.elim h1 h2), nI_cl hj]
theorem unN_le (v : Int32) : unN v ≤ 6 := by
  by_cases h : v < nI 1 ∨ nI 6 < v
  · unfold unN; rw [if_pos h]; omega
  · obtain ⟨j, a, b, -, e⟩ := unN_ok (fun g => h (Or.inl g)) (fun g => h (Or.inr g))
    omega

set_option maxHeartbeats 4000000 in
set_option maxRecDepth 100000 in
theorem kX_unitsAsked (G : zG) (d : Nat) (hd : 0 ≤ d) {n : Nat} {sh : zSh} {row : zRw} {v : Int32} : zM G (fX_unitsAsked d) [.int v] n sh row (zP sh row (.int (nI (unN v)))) := by
  refine zM.of (by show plainName "PostIndex" = true; decide +kernel) (Nat.le_of_ble_eq_true rfl) (by intro v hv; simp at hv; rcases hv with rfl <;> rfl) ?_
  intro K hE
  show zX G K (fX_unitsAsked d) n 0 0 sh row 0 [.int v] []
  refine zx_iload_n dX_unitsAsked_0 rfl ?_
  refine zx_iconst (v := nI 1) dX_unitsAsked_1 (by decide) ?_
  refine zx_icmp_lt (tgt := 15) dX_unitsAsked_2 rfl (fun h2 => ?_) (fun h2 => ?_)
  · refine zx_iconst (v := nI 0) dX_unitsAsked_15 (by decide) ?_
    exact zx_iret hE rfl dX_unitsAsked_16 rfl (Nat.le_of_ble_eq_true rfl) ⟨by
      first
      | (unfold unN; rw [if_pos (Or.inl h2)])
      | (unfold unN; rw [if_pos (Or.inr h8)])
      | (obtain ⟨j, a, b, e1, e2⟩ := unN_ok h2 h8; rw [e2]; exact congrArg (fun z => some (Value.int z)) e1), rfl, rfl⟩
  · refine zx_iload_n dX_unitsAsked_5 rfl ?_
    refine zx_bipush (v := nI 6) dX_unitsAsked_6 (by decide) ?_
    refine zx_icmp_gt (tgt := 15) dX_unitsAsked_8 rfl (fun h8 => ?_) (fun h8 => ?_)
    · refine zx_iconst (v := nI 0) dX_unitsAsked_15 (by decide) ?_
      exact zx_iret hE rfl dX_unitsAsked_16 rfl (Nat.le_of_ble_eq_true rfl) ⟨by
      first
      | (unfold unN; rw [if_pos (Or.inl h2)])
      | (unfold unN; rw [if_pos (Or.inr h8)])
      | (obtain ⟨j, a, b, e1, e2⟩ := unN_ok h2 h8; rw [e2]; exact congrArg (fun z => some (Value.int z)) e1), rfl, rfl⟩
    · refine zx_iload_n dX_unitsAsked_11 rfl ?_
      refine zx_goto (tgt := 16) dX_unitsAsked_12 rfl ?_
      exact zx_iret hE rfl dX_unitsAsked_16 rfl (Nat.le_of_ble_eq_true rfl) ⟨by
      first
      | (unfold unN; rw [if_pos (Or.inl h2)])
      | (unfold unN; rw [if_pos (Or.inr h8)])
      | (obtain ⟨j, a, b, e1, e2⟩ := unN_ok h2 h8; rw [e2]; exact congrArg (fun z => some (Value.int z)) e1), rfl, rfl⟩

/-- one unit of the writer's work -/
def wTok (pf : PF) (c : CT) : List Nat := (((pf c.2.1).2.2.1.drop (tokStart (pf c.2.1).2.2.1 c.2.2.2.2.1)).take (tokEnd (pf c.2.1).2.2.1 (tokStart (pf c.2.1).2.2.1 c.2.2.2.2.1) - tokStart (pf c.2.1).2.2.1 c.2.2.2.2.1)).map fold1
def wEnd (pf : PF) (c : CT) : Prop := (pf c.2.1).2.2.1.length ≤ tokStart (pf c.2.1).2.2.1 c.2.2.2.2.1
def wC (pf : PF) (c : CT) : CT := if (pf c.2.1).2.2.1.length ≤ tokStart (pf c.2.1).2.2.1 c.2.2.2.2.1 then (c.1, c.2.1 + 1, c.2.1 / 4 + 1, c.2.2.2.1, 0, 0) else (c.1, c.2.1, c.2.1 / 4 + 1, c.2.2.2.1, tokEnd (pf c.2.1).2.2.1 (tokStart (pf c.2.1).2.2.1 c.2.2.2.2.1), c.2.2.2.2.2 + 1)
def wS (pf : PF) (c : CT) (sf : SF) : SF := if (pf c.2.1).2.2.1.length ≤ tokStart (pf c.2.1).2.2.1 c.2.2.2.2.1 then sf else va_up sf (c.2.1 / 4) (addP (sf (c.2.1 / 4)).1 (wTok pf c) (8 * (c.2.1 % 4) + min c.2.2.2.2.2 7), (sf (c.2.1 / 4)).2)

set_option maxHeartbeats 4000000 in
set_option maxRecDepth 100000 in
theorem kX_writeUnit (G : zG) (d : Nat) (hd : 4 ≤ d) {n : Nat} {sh : zSh} {row : zRw} {x : Nat} {D : List Nat} {pf : PF} {sf : SF} {hf : HF} {c : CT} {qr : Nat} (hX : XA sh row x D pf sf hf c qr) (hp : c.2.1 < 24) (hwa : c.2.2.2.2.1 ≤ (pf c.2.1).2.2.1.length) (hwt : c.2.2.2.2.2 < 100) (hfT : ¬ (pf c.2.1).2.2.1.length ≤ tokStart (pf c.2.1).2.2.1 c.2.2.2.2.1 → fT (sf (c.2.1 / 4)).1 (wTok pf c) < 48) : zM G (fX_writeUnit d) [.ref x, .int (nI c.2.1)] n sh row (zpV sh (fun row' => frI x (x + 795) row row' ∧ XA sh row' x D pf (wS pf c sf) hf (wC pf c) qr)) := by
  refine zM.of (by show plainName "PostIndex" = true; decide +kernel) (Nat.le_of_ble_eq_true rfl) (by intro v hv; simp at hv; rcases hv with rfl | rfl <;> rfl) ?_
  intro K hE
  show zX G K (fX_writeUnit d) n 0 0 sh row 0 [.ref x, .int (nI c.2.1), .retAddr 0, .retAddr 0, .retAddr 0] []
  have hD : d - 1 + 1 ≤ d := by omega
  obtain ⟨hO, hD0, htk, hPs, hSg, hSe, hRd, hDj⟩ := id hX
  obtain ⟨ho, h_0, h_1, h_2, h_3, h_4, h_5, h_6, h_7, h_8, h_9, h_10, h_11⟩ := id hO
  refine zx_iload_n dX_writeUnit_0 rfl ?_
  refine zx_iconst (v := nI 4) dX_writeUnit_1 (by decide) ?_
  refine zn_idiv dX_writeUnit_2 (by omega) (by omega) (by omega) ?_
  refine zx_istore_n dX_writeUnit_3 (Nat.le_of_ble_eq_true rfl) rfl rfl ?_
  refine zx_aload_n dX_writeUnit_4 rfl ?_
  refine zx_iload_n dX_writeUnit_5 rfl ?_
  refine zx_iconst (v := nI 1) dX_writeUnit_6 (by decide) ?_
  refine zn_iadd dX_writeUnit_7 ?_
  refine zx_put dX_writeUnit_8 flX_129 tpX_7 ho rfl rfl ?_
  have hX1 := hX.up7 (m := c.2.1 / 4 + 1)
  generalize hr1 : zup row x 7 (.int (nI (c.2.1 / 4 + 1))) = r1 at hX1 ⊢
  have hf1 : frI x (x + 795) row r1 := by rw [← hr1]; exact frI_up (by omega) (by omega)
  obtain ⟨gO, gD0, ⟨tk, gtk⟩, gPs, gSg, gSe, gRd, gDj⟩ := id hX1
  obtain ⟨go, g_0, g_1, g_2, g_3, g_4, g_5, g_6, g_7, g_8, g_9, g_10, g_11⟩ := id gO
  have g_6 : r1 x 6 = .int (nI c.2.1) := g_6
  have g_10 : r1 x 10 = .int (nI c.2.2.2.2.1) := g_10
  obtain ⟨q1, q2⟩ := gPs.2 c.2.1 hp
  have hxT := q2.2.2.2.2.2
  have hxl := hxT.2.2.2.2.1
  have hts := tokStart_le hwa
  refine zx_aload_n dX_writeUnit_11 rfl ?_
  refine zx_get dX_writeUnit_12 flX_28 (by assumption) (by assumption) ?_
  refine zx_iload_n dX_writeUnit_15 rfl ?_
  refine zn_aald dX_writeUnit_16 gPs.1 rfl (by omega) (by decide) q1 ?_
  refine zx_getN dX_writeUnit_17 flX_55 q2.1 q2.2.1 ?_
  refine zx_astore_n dX_writeUnit_20 (Nat.le_of_ble_eq_true rfl) rfl rfl ?_
  refine zx_aload_n dX_writeUnit_21 rfl ?_
  refine zx_aload_n dX_writeUnit_22 rfl ?_
  refine zx_get dX_writeUnit_23 flX_153 (by assumption) (by assumption) ?_
  refine zc_V (n0 := n) (ce := 0) (kT_tokenStart G (d - 1) (by omega) hxT hwa) (meT_tokenStart _) lkX_156 hxT.1 rfl rfl hD (Nat.le_of_ble_eq_true rfl) rfl rfl (Nat.le_of_ble_eq_true rfl) (Nat.le_of_ble_eq_true rfl) (Nat.le_of_ble_eq_true rfl) dX_writeUnit_26 ?_
  refine zx_istore dX_writeUnit_29 (Nat.le_of_ble_eq_true rfl) rfl rfl ?_
  refine zx_iload dX_writeUnit_31 rfl ?_
  refine zx_aload_n dX_writeUnit_33 rfl ?_
  refine zx_getN dX_writeUnit_34 flX_65 hxT.1 hxT.2.2.2.1 ?_
  refine zn_icmp_lt (tgt := 61) dX_writeUnit_37 rfl (by omega) (by omega) (fun h37 => ?_) (fun h37 => ?_)
  · refine zx_aload_n dX_writeUnit_61 rfl ?_
    refine zx_aload_n dX_writeUnit_62 rfl ?_
    refine zx_iload dX_writeUnit_63 rfl ?_
    refine zc_V (n0 := n) (ce := 0) (kT_tokenEnd G (d - 1) (by omega) hxT (by omega)) (meT_tokenEnd _) lkX_162 hxT.1 rfl rfl hD (Nat.le_of_ble_eq_true rfl) rfl rfl (Nat.le_of_ble_eq_true rfl) (Nat.le_of_ble_eq_true rfl) (Nat.le_of_ble_eq_true rfl) dX_writeUnit_65 ?_
    have hte := tokEnd_le (xs := (pf c.2.1).2.2.1) (f := tokStart (pf c.2.1).2.2.1 c.2.2.2.2.1) (by omega)
    have htg := tokEnd_ge (xs := (pf c.2.1).2.2.1) (f := tokStart (pf c.2.1).2.2.1 c.2.2.2.2.1)
    refine zx_put dX_writeUnit_68 flX_153 tpX_10 go rfl rfl ?_
    have hX2 := hX1.up10 (m := tokEnd (pf c.2.1).2.2.1 (tokStart (pf c.2.1).2.2.1 c.2.2.2.2.1))
    generalize hr2 : zup r1 x 10 (.int (nI (tokEnd (pf c.2.1).2.2.1 (tokStart (pf c.2.1).2.2.1 c.2.2.2.2.1)))) = r2 at hX2 ⊢
    have hf2 : frI x (x + 795) r1 r2 := by rw [← hr2]; exact frI_up (by omega) (by omega)
    obtain ⟨kO, kD0, ⟨tk2, ktk⟩, kPs, kSg, kSe, kRd, kDj⟩ := id hX2
    obtain ⟨ko, k_0, k_1, k_2, k_3, k_4, k_5, k_6, k_7, k_8, k_9, k_10, k_11⟩ := id kO
    have k_10 : r2 x 10 = .int (nI (tokEnd (pf c.2.1).2.2.1 (tokStart (pf c.2.1).2.2.1 c.2.2.2.2.1))) := k_10
    obtain ⟨q3, q4⟩ := kPs.2 c.2.1 hp
    have hxT2 := q4.2.2.2.2.2
    refine zx_aload_n dX_writeUnit_71 rfl ?_
    refine zx_get dX_writeUnit_72 flX_16 (by assumption) (by assumption) ?_
    refine zx_aload_n dX_writeUnit_75 rfl ?_
    refine zx_iload dX_writeUnit_76 rfl ?_
    refine zx_aload_n dX_writeUnit_78 rfl ?_
    refine zx_get dX_writeUnit_79 flX_153 (by assumption) (by assumption) ?_
    refine zc_Vv (n0 := n) (ce := 0) (kT_setFolded G (d - 1) (by omega) ktk hxT2 (by omega) htg hte) (meT_setFolded _) lkX_165 ktk.1 rfl rfl hD (Nat.le_of_ble_eq_true rfl) rfl rfl (Nat.le_of_ble_eq_true rfl) (Nat.le_of_ble_eq_true rfl) (Nat.le_of_ble_eq_true rfl) dX_writeUnit_82 (fun r3 h7 => ?_)
    obtain ⟨h8, h9⟩ := h7
    have hX3 := hX2.tok h8 h9
    have hf3 : frI x (x + 795) r2 r3 := (fr2.I h8).wide (by omega) (by omega)
    obtain ⟨mO, mD0, mtk, mPs, mSg, mSe, mRd, mDj⟩ := id hX3
    obtain ⟨mo, m_0, m_1, m_2, m_3, m_4, m_5, m_6, m_7, m_8, m_9, m_10, m_11⟩ := id mO
    have m_11 : r3 x 11 = .int (nI c.2.2.2.2.2) := m_11
    obtain ⟨q5, q6⟩ := mSg.2 (c.2.1 / 4) (by omega)
    refine zx_aload_n dX_writeUnit_85 rfl ?_
    refine zx_get dX_writeUnit_86 flX_35 (by assumption) (by assumption) ?_
    refine zx_iload_n dX_writeUnit_89 rfl ?_
    refine zn_aald dX_writeUnit_90 mSg.1 rfl (by omega) (by decide) q5 ?_
    refine zx_aload_n dX_writeUnit_91 rfl ?_
    refine zx_get dX_writeUnit_92 flX_16 (by assumption) (by assumption) ?_
    refine zx_iload_n dX_writeUnit_95 rfl ?_
    refine zx_iconst (v := nI 4) dX_writeUnit_96 (by decide) ?_
    refine zn_irem dX_writeUnit_97 (by omega) (by omega) (by omega) ?_
    refine zx_aload_n dX_writeUnit_98 rfl ?_
    refine zx_get dX_writeUnit_99 flX_159 (by assumption) (by assumption) ?_
    refine zx_bipush (v := nI 7) dX_writeUnit_102 (by decide) ?_
    refine zn_min dX_writeUnit_104 lkX_169 (by show 1 ≤ d; omega) (Nat.le_of_ble_eq_true rfl) (Nat.le_of_ble_eq_true rfl) (Nat.le_of_ble_eq_true rfl) (by omega) (by omega) ?_
    refine zc_Vv (n0 := n) (ce := 0) (kS_addPosting G (d - 1) (by omega) q6 h9 (by omega) (map_idem _) (by omega) (by omega) (hfT (by omega))) (meS_addPosting _) lkX_175 q6.1.1 rfl rfl hD (Nat.le_of_ble_eq_true rfl) rfl rfl (Nat.le_of_ble_eq_true rfl) (Nat.le_of_ble_eq_true rfl) (Nat.le_of_ble_eq_true rfl) dX_writeUnit_107 (fun r4 h7 => ?_)
    obtain ⟨ha, hb⟩ := h7
    have hX4 := hX3.segU (g := c.2.1 / 4) (v := (addP (sf (c.2.1 / 4)).1 (wTok pf c) (8 * (c.2.1 % 4) + min c.2.2.2.2.2 7), (sf (c.2.1 / 4)).2)) (by omega) ha hb
    have hf4 : frI x (x + 795) r3 r4 := ha.wide (by omega) (by omega)
    have m_11' := hX4.1.2.2.2.2.2.2.2.2.2.2.2.2
    have m_11' : r4 x 11 = .int (nI c.2.2.2.2.2) := m_11'
    refine zx_aload_n dX_writeUnit_110 rfl ?_
    refine zx_dup dX_writeUnit_111 rfl ?_
    refine zx_get dX_writeUnit_112 flX_159 (by assumption) (by assumption) ?_
    refine zx_iconst (v := nI 1) dX_writeUnit_115 (by decide) ?_
    refine zn_iadd dX_writeUnit_116 ?_
    refine zx_put dX_writeUnit_117 flX_159 tpX_11 ho rfl rfl ?_
    have hX5 := hX4.up11 (m := c.2.2.2.2.2 + 1)
    exact zx_vret hE rfl dX_writeUnit_120 rfl (Nat.le_of_ble_eq_true rfl) (by
      unfold wS wC
      first
      | (rw [if_pos (by omega), if_pos (by omega)]
         exact ⟨rfl, rfl, (((hf1.tr (frI_up (by omega) (by omega))).tr (frI_up (by omega) (by omega))).tr (frI_up (by omega) (by omega))), hX4⟩)
      | (rw [if_neg (by omega), if_neg (by omega)]
         exact ⟨rfl, rfl, ((((hf1.tr hf2).tr hf3).tr hf4).tr (frI_up (by omega) (by omega))), hX5⟩))
  · refine zx_aload_n dX_writeUnit_40 rfl ?_
    refine zx_dup dX_writeUnit_41 rfl ?_
    refine zx_get dX_writeUnit_42 flX_72 (by assumption) (by assumption) ?_
    refine zx_iconst (v := nI 1) dX_writeUnit_45 (by decide) ?_
    refine zn_iadd dX_writeUnit_46 ?_
    refine zx_put dX_writeUnit_47 flX_72 tpX_6 go rfl rfl ?_
    have hX2 := hX1.up6 (m := c.2.1 + 1)
    refine zx_aload_n dX_writeUnit_50 rfl ?_
    refine zx_iconst (v := nI 0) dX_writeUnit_51 (by decide) ?_
    refine zx_put dX_writeUnit_52 flX_153 tpX_10 go rfl rfl ?_
    have hX3 := hX2.up10 (m := 0)
    refine zx_aload_n dX_writeUnit_55 rfl ?_
    refine zx_iconst (v := nI 0) dX_writeUnit_56 (by decide) ?_
    refine zx_put dX_writeUnit_57 flX_159 tpX_11 go rfl rfl ?_
    have hX4 := hX3.up11 (m := 0)
    exact zx_vret hE rfl dX_writeUnit_60 rfl (Nat.le_of_ble_eq_true rfl) (by
      unfold wS wC
      first
      | (rw [if_pos (by omega), if_pos (by omega)]
         exact ⟨rfl, rfl, (((hf1.tr (frI_up (by omega) (by omega))).tr (frI_up (by omega) (by omega))).tr (frI_up (by omega) (by omega))), hX4⟩)
      | (rw [if_neg (by omega), if_neg (by omega)]
         exact ⟨rfl, rfl, ((((hf1.tr hf2).tr hf3).tr hf4).tr (frI_up (by omega) (by omega))), hX5⟩))

