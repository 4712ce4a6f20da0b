set_option maxHeartbeats 4000000 in
set_option maxRecDepth 100000 in
theorem kS_addPosting (G : zG) (d : Nat) (hd : 3 ≤ d) {n : Nat} {sh : zSh} {row : zRw} {s rw : Nat} {ts : List (List Nat × Int32)} {pk : Bool} (hS : SegA sh row s ts rw pk) {o slot pl : Nat} {ws : List Nat} (hO : Txt sh row o ws) (ho : o + 1 < s ∨ s + 98 < o) (hw : ws.map fold1 = ws) (hsl : slot < 4) (hpl : pl < 8) (hf : fT ts ws < 48) : zM G (fS_addPosting d) [.ref s, .ref o, .int (nI slot), .int (nI pl)] n sh row (zpV sh (fun row' => frI s (s + 98) row row' ∧ SegA sh row' s (addP ts ws (8 * slot + pl)) rw pk)) := by
  refine zM.of (by show plainName "PostIndex$Segment" = true; decide +kernel) (Nat.le_of_ble_eq_true rfl) (by intro v hv; simp at hv; rcases hv with rfl | rfl | rfl | rfl <;> rfl) ?_
  intro K hE
  show zX G K (fS_addPosting d) n 0 0 sh row 0 [.ref s, .ref o, .int (nI slot), .int (nI pl), .retAddr 0] []
  have hD : d - 1 + 1 ≤ d := by omega
  obtain ⟨⟨hs1, hs2, hs3⟩, ⟨hp0, hp1, hp2, hp3, hp4⟩, ⟨hl1, hl2⟩, hrf, htx, hbt⟩ := id hS
  refine zx_aload_n dS_addPosting_0 rfl ?_
  refine zx_aload_n dS_addPosting_1 rfl ?_
  refine zc_V (kS_findTerm G (d - 1) (by omega) hS hO) (meS_findTerm _) lkS_22 hs1 rfl rfl hD (Nat.le_of_ble_eq_true rfl) rfl rfl (Nat.le_of_ble_eq_true rfl) (Nat.le_of_ble_eq_true rfl) (Nat.le_of_ble_eq_true rfl) dS_addPosting_2 ?_
  have hfl := fT_le ts ws
  refine zx_istore dS_addPosting_5 (Nat.le_of_ble_eq_true rfl) rfl rfl ?_
  refine zx_iload dS_addPosting_7 rfl ?_
  refine zx_bipush (v := nI 48) dS_addPosting_9 (by decide) ?_
  refine zn_icmp_lt (tgt := 15) dS_addPosting_11 rfl (by omega) (by omega) (fun h11 => ?_) (fun h11 => ?_)
  · refine zx_iload dS_addPosting_15 rfl ?_
    refine zx_aload_n dS_addPosting_17 rfl ?_
    refine zx_get dS_addPosting_18 flS_26 (by assumption) (by assumption) ?_
    refine zn_icmp_ne (tgt := 50) dS_addPosting_21 rfl (by omega) (by omega) (fun h21 => ?_) (fun h21 => ?_)
    · refine zx_aload_n dS_addPosting_50 rfl ?_
      refine zx_get dS_addPosting_51 flS_9 (by assumption) (by assumption) ?_
      refine zx_iload dS_addPosting_54 rfl ?_
      refine zx_dup2 dS_addPosting_56 rfl rfl ?_
      refine zn_iald dS_addPosting_57 hs2 rfl (by omega) (by decide) (by first | exact hbt' | exact hbt _ (by omega)) ?_
      refine zx_iconst (v := nI 1) dS_addPosting_58 (by decide) ?_
      refine zx_bipush (v := nI 8) dS_addPosting_59 (by decide) ?_
      refine zx_iload_n dS_addPosting_61 rfl ?_
      refine zn_imul dS_addPosting_62 ?_
      refine zx_iload_n dS_addPosting_63 rfl ?_
      refine zn_iadd dS_addPosting_64 ?_
      refine zx_ishl dS_addPosting_65 ?_
      refine zx_ior dS_addPosting_66 ?_
      refine zn_iast dS_addPosting_67 hs2 rfl (by omega) (by decide) ?_
      exact zx_vret hE rfl dS_addPosting_68 rfl (Nat.le_of_ble_eq_true rfl) (by first | exact ⟨rfl, rfl, frI_up (by omega) (by omega), hS.set (by omega)⟩ | exact ⟨rfl, rfl, (((fr2.I h8).wide (by omega) (by omega)).tr (frI_up (by omega) (by omega))).tr (frI_up (by omega) (by omega)), hS.add hfe (by omega) (by rw [← hfe]; exact h8) (by rw [← hfe]; exact h9)⟩)
    · refine zx_aload_n dS_addPosting_24 rfl ?_
      refine zx_get dS_addPosting_25 flS_17 (by assumption) (by assumption) ?_
      refine zx_iload dS_addPosting_28 rfl ?_
      obtain ⟨xs, hx, hx2⟩ := htx (fT ts ws) (by omega)
      have hol := hO.2.2.2.2.1
      have hoc := hO.2.2.2.1
      refine zn_aald dS_addPosting_30 hs3 rfl (by omega) (by decide) (hrf _ (by omega)) ?_
      refine zx_aload_n dS_addPosting_31 rfl ?_
      refine zx_iconst (v := nI 0) dS_addPosting_32 (by decide) ?_
      refine zx_aload_n dS_addPosting_33 rfl ?_
      refine zx_getN dS_addPosting_34 flS_30 hO.1 hoc ?_
      refine zc_Vv (kT_setFolded G (d - 1) (by omega) hx hO (by omega) (Nat.zero_le _) (Nat.le_refl _)) (meT_setFolded _) lkS_33 hx.1 rfl rfl hD (Nat.le_of_ble_eq_true rfl) rfl rfl (Nat.le_of_ble_eq_true rfl) (Nat.le_of_ble_eq_true rfl) (Nat.le_of_ble_eq_true rfl) dS_addPosting_37 (fun r3 h7 => ?_)
      obtain ⟨h8, h9⟩ := h7
      rw [List.drop_zero, Nat.sub_zero, List.take_length, hw] at h9
      have hfe : fT ts ws = ts.length := h21
      have q0 : r3 s = row s := h8 s (by omega) (by omega)
      have q1 : r3 (s + 1) = row (s + 1) := h8 _ (by omega) (by omega)
      have hp2' : r3 s 2 = .int (nI ts.length) := by rw [q0]; exact hp2
      refine zx_aload_n dS_addPosting_40 rfl ?_
      refine zx_dup dS_addPosting_41 rfl ?_
      refine zx_get dS_addPosting_42 flS_26 (by assumption) (by assumption) ?_
      refine zx_iconst (v := nI 1) dS_addPosting_45 (by decide) ?_
      refine zn_iadd dS_addPosting_46 ?_
      refine zx_put dS_addPosting_47 flS_26 tpS_2 hs1 rfl rfl ?_
      have hp1' : zup r3 s 2 (.int (nI (ts.length + 1))) s 1 = .ref (s + 1) := by rw [zup_k (Or.inr (by decide)), q0]; exact hp1
      have hbt' : zup r3 s 2 (.int (nI (ts.length + 1))) (s + 1) (fT ts ws) = .int (nI 0) := by
        rw [zup_ne (by omega), q1, hbt _ (by omega), hfe]
        unfold bAt
        rw [List.getElem?_eq_none (Nat.le_refl _)]
        rfl
      refine zx_aload_n dS_addPosting_50 rfl ?_
      refine zx_get dS_addPosting_51 flS_9 (by assumption) (by assumption) ?_
      refine zx_iload dS_addPosting_54 rfl ?_
      refine zx_dup2 dS_addPosting_56 rfl rfl ?_
      refine zn_iald dS_addPosting_57 hs2 rfl (by omega) (by decide) (by first | exact hbt' | exact hbt _ (by omega)) ?_
      refine zx_iconst (v := nI 1) dS_addPosting_58 (by decide) ?_
      refine zx_bipush (v := nI 8) dS_addPosting_59 (by decide) ?_
      refine zx_iload_n dS_addPosting_61 rfl ?_
      refine zn_imul dS_addPosting_62 ?_
      refine zx_iload_n dS_addPosting_63 rfl ?_
      refine zn_iadd dS_addPosting_64 ?_
      refine zx_ishl dS_addPosting_65 ?_
      refine zx_ior dS_addPosting_66 ?_
      refine zn_iast dS_addPosting_67 hs2 rfl (by omega) (by decide) ?_
      exact zx_vret hE rfl dS_addPosting_68 rfl (Nat.le_of_ble_eq_true rfl) (by first | exact ⟨rfl, rfl, frI_up (by omega) (by omega), hS.set (by omega)⟩ | exact ⟨rfl, rfl, (((fr2.I h8).wide (by omega) (by omega)).tr (frI_up (by omega) (by omega))).tr (frI_up (by omega) (by omega)), hS.add hfe (by omega) (by rw [← hfe]; exact h8) (by rw [← hfe]; exact h9)⟩)
  · exact absurd h11 (by omega)

set_option maxHeartbeats 4000000 in
set_option maxRecDepth 100000 in
theorem kS_countPostings (G : zG) (d : Nat) (hd : 1 ≤ d) {n : Nat} {sh : zSh} {row : zRw} {s rw : Nat} {ts : List (List Nat × Int32)} {pk : Bool} (hS : SegA sh row s ts rw pk) : zM G (fS_countPostings d) [.ref s] n sh row (zP sh row (.int (nI (sumT popc ts)))) := by
  refine zM.of (by show plainName "PostIndex$Segment" = true; decide +kernel) (Nat.le_of_ble_eq_true rfl) (by intro v hv; simp at hv; rcases hv with rfl <;> rfl) ?_
  intro K hE
  show zX G K (fS_countPostings d) n 0 0 sh row 0 [.ref s, .retAddr 0, .retAddr 0] []
  have hD : d - 1 + 1 ≤ d := by omega
  obtain ⟨⟨hs1, hs2, hs3⟩, ⟨hp0, hp1, hp2, hp3, hp4⟩, ⟨hl1, hl2⟩, hrf, htx, hbt⟩ := id hS
  have loop : ∀ (k : Nat) (a i : Nat), ts.length - i < k → i ≤ ts.length → a = sumT popc (ts.take i) → zX G K (fS_countPostings d) n 0 0 sh row 4 [.ref s, .int (nI a), .int (nI i)] [] := by
    intro k
    induction k with
    | zero => intro a i hk; exact absurd hk (Nat.not_lt_zero _)
    | succ k ih =>
      intro a i hk h3 h4
      refine zx_iload_n dS_countPostings_4 rfl ?_
      refine zx_aload_n dS_countPostings_5 rfl ?_
      refine zx_get dS_countPostings_6 flS_26 (by assumption) (by assumption) ?_
      refine zn_icmp_ge (tgt := 30) dS_countPostings_9 rfl (by omega) (by omega) (fun h9 => ?_) (fun h9 => ?_)
      · refine zx_iload_n dS_countPostings_30 rfl ?_
        exact zx_iret hE rfl dS_countPostings_31 rfl (Nat.le_of_ble_eq_true rfl) ⟨by rw [h4, List.take_of_length_le (by omega)], rfl, rfl⟩
      · refine zx_iload_n dS_countPostings_12 rfl ?_
        refine zx_aload_n dS_countPostings_13 rfl ?_
        refine zx_get dS_countPostings_14 flS_9 (by assumption) (by assumption) ?_
        refine zx_iload_n dS_countPostings_17 rfl ?_
        refine zn_iald dS_countPostings_18 hs2 rfl (by omega) (by decide) (hbt _ (by omega)) ?_
        refine zc_S (kI_bitCount G (d - 1) (by omega)) (meI_bitCount _) lkS_48 rfl hD (Nat.le_of_ble_eq_true rfl) rfl rfl (Nat.le_of_ble_eq_true rfl) (Nat.le_of_ble_eq_true rfl) (Nat.le_of_ble_eq_true rfl) dS_countPostings_19 ?_
        refine zn_iadd dS_countPostings_22 ?_
        refine zx_istore_n dS_countPostings_23 (Nat.le_of_ble_eq_true rfl) rfl rfl ?_
        refine zn_iinc (c := 1) dS_countPostings_24 (Nat.le_of_ble_eq_true rfl) rfl rfl ?_
        refine zx_goto (tgt := 4) dS_countPostings_27 rfl ?_
        exact ih _ (i + 1) (by omega) (by omega) (by rw [sumT_take popc (by omega), h4])
  refine zx_iconst (v := nI 0) dS_countPostings_0 (by decide) ?_
  refine zx_istore_n dS_countPostings_1 (Nat.le_of_ble_eq_true rfl) rfl rfl ?_
  refine zx_iconst (v := nI 0) dS_countPostings_2 (by decide) ?_
  refine zx_istore_n dS_countPostings_3 (Nat.le_of_ble_eq_true rfl) rfl rfl ?_
  exact loop _ 0 0 (Nat.lt_succ_self _) (Nat.zero_le _) rfl

def slI (m c sl r : Nat) : Prop := (c = 2 ∧ sl = 4 ∧ r = 2) ∨ ∃ j, c = 6 + 8 * j ∧ sl = 8 ∧ r = 5 + 7 * j ∧ 2 < m ∧ 7 * j < m + 2

set_option maxHeartbeats 4000000 in
set_option maxRecDepth 100000 in
theorem kS_sliceCellsFor (G : zG) (d : Nat) (hd : 0 ≤ d) {n : Nat} {sh : zSh} {row : zRw} {m : Nat} (hm : m ≤ 32) : zM G (fS_sliceCellsFor d) [.int (nI m)] n sh row (zP sh row (.int (nI (slc m)))) := by
  refine zM.of (by show plainName "PostIndex$Segment" = true; decide +kernel) (Nat.le_of_ble_eq_true rfl) (by intro v hv; simp at hv; rcases hv with rfl <;> rfl) ?_
  intro K hE
  show zX G K (fS_sliceCellsFor d) n 0 0 sh row 0 [.int (nI m), .retAddr 0, .retAddr 0, .retAddr 0] []
  have loop : ∀ (k : Nat) (c sl r : Nat), m - r < k → slI m c sl r → zX G K (fS_sliceCellsFor d) n 0 0 sh row 6 [.int (nI m), .int (nI c), .int (nI sl), .int (nI r)] [] := by
    intro k
    induction k with
    | zero => intro c sl r hk; exact absurd hk (Nat.not_lt_zero _)
    | succ k ih =>
      intro c sl r hk h3
      have hb1 : 4 ≤ sl ∧ sl ≤ 8 ∧ r < 100 ∧ c < 200 := by
        rcases h3 with ⟨h4, h5, h6⟩ | ⟨j, h4, h5, h6, h7, h9⟩ <;> omega
      refine zx_iload_n dS_sliceCellsFor_6 rfl ?_
      refine zx_iload_n dS_sliceCellsFor_7 rfl ?_
      refine zn_icmp_ge (tgt := 27) dS_sliceCellsFor_8 rfl (by omega) (by omega) (fun h8 => ?_) (fun h8 => ?_)
      · refine zx_iload_n dS_sliceCellsFor_27 rfl ?_
        exact zx_iret hE rfl dS_sliceCellsFor_28 rfl (Nat.le_of_ble_eq_true rfl) (by refine ⟨?_, rfl, rfl⟩; unfold slc; rcases h3 with ⟨h4, h5, h6⟩ | ⟨j, h4, h5, h6, h7, h9⟩; rw [if_pos (by omega), h4]; rw [if_neg (by omega), show (m + 1) / 7 = j by omega, h4])
      · refine zx_iload_n dS_sliceCellsFor_11 rfl ?_
        refine zx_iload_n dS_sliceCellsFor_12 rfl ?_
        refine zn_iadd dS_sliceCellsFor_13 ?_
        refine zx_istore_n dS_sliceCellsFor_14 (Nat.le_of_ble_eq_true rfl) rfl rfl ?_
        refine zx_iload_n dS_sliceCellsFor_15 rfl ?_
        refine zx_iload_n dS_sliceCellsFor_16 rfl ?_
        refine zx_iconst (v := nI 1) dS_sliceCellsFor_17 (by decide) ?_
        refine zn_isub dS_sliceCellsFor_18 (by omega) ?_
        refine zn_iadd dS_sliceCellsFor_19 ?_
        refine zx_istore_n dS_sliceCellsFor_20 (Nat.le_of_ble_eq_true rfl) rfl rfl ?_
        refine zx_bipush (v := nI 8) dS_sliceCellsFor_21 (by decide) ?_
        refine zx_istore_n dS_sliceCellsFor_23 (Nat.le_of_ble_eq_true rfl) rfl rfl ?_
        refine zx_goto (tgt := 6) dS_sliceCellsFor_24 rfl ?_
        refine ih (c + sl) 8 (r + (sl - 1)) (by omega) (Or.inr ?_)
        rcases h3 with ⟨h4, h5, h6⟩ | ⟨j, h4, h5, h6, h7, h9⟩
        · exact ⟨0, by omega, rfl, by omega, by omega, by omega⟩
        · exact ⟨j + 1, by omega, rfl, by omega, by omega, by omega⟩
  refine zx_iconst (v := nI 2) dS_sliceCellsFor_0 (by decide) ?_
  refine zx_istore_n dS_sliceCellsFor_1 (Nat.le_of_ble_eq_true rfl) rfl rfl ?_
  refine zx_iconst (v := nI 4) dS_sliceCellsFor_2 (by decide) ?_
  refine zx_istore_n dS_sliceCellsFor_3 (Nat.le_of_ble_eq_true rfl) rfl rfl ?_
  refine zx_iconst (v := nI 2) dS_sliceCellsFor_4 (by decide) ?_
  refine zx_istore_n dS_sliceCellsFor_5 (Nat.le_of_ble_eq_true rfl) rfl rfl ?_
  exact loop _ 2 4 2 (Nat.lt_succ_self _) (Or.inl ⟨rfl, rfl, rfl⟩)

theorem pcs_t {f : Nat → Bool} {m b : Nat} (h : f m = true) : pcs f (m + 1) b = cost (b - m) + pcs f m m := by
  show (if f m = true then _ else _) = _
  rw [if_pos h]
theorem pcs_f {f : Nat → Bool} {m b : Nat} (h : ¬ f m = true) : pcs f (m + 1) b = pcs f m b := by
  show (if f m = true then _ else _) = _
  rw [if_neg h]

set_option maxHeartbeats 4000000 in
set_option maxRecDepth 100000 in
theorem kS_piecesFor (G : zG) (d : Nat) {n : Nat} {sh : zSh} {row : zRw} {x : Int32} : zM G (fS_piecesFor d) [.int x] n sh row (zP sh row (.int (nI (pcs (bt x) 32 32)))) := by
  refine zM.of (by show plainName "PostIndex$Segment" = true; decide +kernel) (Nat.le_of_ble_eq_true rfl) (by intro v hv; simp at hv; rcases hv with rfl <;> rfl) ?_
  intro K hE
  show zX G K (fS_piecesFor d) n 0 0 sh row 0 [.int x, .retAddr 0, .retAddr 0, .retAddr 0, .retAddr 0] []
  have loop : ∀ (k p b m : Nat) (v : Value), m < k → (m ≤ b ∧ b ≤ 32) → v.category = 1 → p + pcs (bt x) m b = pcs (bt x) 32 32 → zX G K (fS_piecesFor d) n 0 0 sh row 8 [.int x, .int (nI p), .int (nI b), .int (dI m), v] [] := by
    intro k
    induction k with
    | zero => intro p b m v hk; exact absurd hk (Nat.not_lt_zero _)
    | succ k ih =>
      intro p b m v hk h3 hv h4
      have hpl := pcs_le (bt x) 32 32
      cases m with
      | zero =>
        refine zx_iload_n dS_piecesFor_8 rfl ?_
        refine zx_if_lt (tgt := 59) dS_piecesFor_9 rfl (fun _ => ?_) (fun h => absurd (by decide) h)
        refine zx_iload_n dS_piecesFor_59 rfl ?_
        exact zx_iret hE rfl dS_piecesFor_60 rfl (Nat.le_of_ble_eq_true rfl) ⟨by rw [← h4]; rfl, rfl, rfl⟩
      | succ m =>
        rw [dI_s]
        refine zx_iload_n dS_piecesFor_8 rfl ?_
        refine zn_if_lt (tgt := 59) dS_piecesFor_9 rfl (by omega) ?_
        refine zx_iload_n dS_piecesFor_12 rfl ?_
        refine zx_iload_n dS_piecesFor_13 rfl ?_
        refine zx_iushr (v := ush x m) dS_piecesFor_14 rfl ?_
        refine zx_iconst (v := nI 1) dS_piecesFor_15 (by decide) ?_
        refine zx_iand dS_piecesFor_16 ?_
        refine zx_iconst (v := nI 1) dS_piecesFor_17 (by decide) ?_
        refine zx_icmp_ne (tgt := 53) dS_piecesFor_18 rfl (fun h18 => ?_) (fun h18 => ?_)
        · refine zx_iinc (v := dI m) dS_piecesFor_53 (Nat.le_of_ble_eq_true rfl) (by first | rfl | (simp only [List.all_cons, List.all_nil, hv]; rfl)) rfl rfl rfl ?_
          refine zx_goto (tgt := 8) dS_piecesFor_56 rfl ?_
          refine ih _ _ m _ (by omega) ⟨by omega, by omega⟩ (by first | exact hv | rfl) ?_
          first | (rw [pcs_f (fun h => h18 ((ush1 (by omega)).mpr h))] at h4; exact h4) | (rw [pcs_t ((ush1 (by omega)).mp h18)] at h4; have hc : cost (b - m) = _ := (by unfold cost; first | rw [if_pos (by omega)] | rw [if_neg (by omega), if_pos (by omega)] | rw [if_neg (by omega), if_neg (by omega)]); omega)
        · refine zx_iload_n dS_piecesFor_21 rfl ?_
          refine zx_iload_n dS_piecesFor_22 rfl ?_
          refine zn_isub dS_piecesFor_23 (by omega) ?_
          refine zx_istore dS_piecesFor_24 (Nat.le_of_ble_eq_true rfl) (by simp only [List.all_cons, List.all_nil, hv]; rfl) rfl ?_
          refine zx_iload_n dS_piecesFor_26 rfl ?_
          refine zx_iload dS_piecesFor_27 rfl ?_
          refine zx_iconst (v := nI 4) dS_piecesFor_29 (by decide) ?_
          refine zn_icmp_ge (tgt := 37) dS_piecesFor_30 rfl (by omega) (by omega) (fun h30 => ?_) (fun h30 => ?_)
          · refine zx_iload dS_piecesFor_37 rfl ?_
            refine zx_bipush (v := nI 16) dS_piecesFor_39 (by decide) ?_
            refine zn_icmp_ge (tgt := 48) dS_piecesFor_41 rfl (by omega) (by omega) (fun h41 => ?_) (fun h41 => ?_)
            · refine zx_iconst (v := nI 3) dS_piecesFor_48 (by decide) ?_
              refine zn_iadd dS_piecesFor_49 ?_
              refine zx_istore_n dS_piecesFor_50 (Nat.le_of_ble_eq_true rfl) rfl rfl ?_
              refine zx_iload_n dS_piecesFor_51 rfl ?_
              refine zx_istore_n dS_piecesFor_52 (Nat.le_of_ble_eq_true rfl) rfl rfl ?_
              refine zx_iinc (v := dI m) dS_piecesFor_53 (Nat.le_of_ble_eq_true rfl) (by first | rfl | (simp only [List.all_cons, List.all_nil, hv]; rfl)) rfl rfl rfl ?_
              refine zx_goto (tgt := 8) dS_piecesFor_56 rfl ?_
              refine ih _ _ m _ (by omega) ⟨by omega, by omega⟩ (by first | exact hv | rfl) ?_
              first | (rw [pcs_f (fun h => h18 ((ush1 (by omega)).mpr h))] at h4; exact h4) | (rw [pcs_t ((ush1 (by omega)).mp h18)] at h4; have hc : cost (b - m) = _ := (by unfold cost; first | rw [if_pos (by omega)] | rw [if_neg (by omega), if_pos (by omega)] | rw [if_neg (by omega), if_neg (by omega)]); omega)
            · refine zx_iconst (v := nI 2) dS_piecesFor_44 (by decide) ?_
              refine zx_goto (tgt := 49) dS_piecesFor_45 rfl ?_
              refine zn_iadd dS_piecesFor_49 ?_
              refine zx_istore_n dS_piecesFor_50 (Nat.le_of_ble_eq_true rfl) rfl rfl ?_
              refine zx_iload_n dS_piecesFor_51 rfl ?_
              refine zx_istore_n dS_piecesFor_52 (Nat.le_of_ble_eq_true rfl) rfl rfl ?_
              refine zx_iinc (v := dI m) dS_piecesFor_53 (Nat.le_of_ble_eq_true rfl) (by first | rfl | (simp only [List.all_cons, List.all_nil, hv]; rfl)) rfl rfl rfl ?_
              refine zx_goto (tgt := 8) dS_piecesFor_56 rfl ?_
              refine ih _ _ m _ (by omega) ⟨by omega, by omega⟩ (by first | exact hv | rfl) ?_
              first | (rw [pcs_f (fun h => h18 ((ush1 (by omega)).mpr h))] at h4; exact h4) | (rw [pcs_t ((ush1 (by omega)).mp h18)] at h4; have hc : cost (b - m) = _ := (by unfold cost; first | rw [if_pos (by omega)] | rw [if_neg (by omega), if_pos (by omega)] | rw [if_neg (by omega), if_neg (by omega)]); omega)
          · refine zx_iconst (v := nI 1) dS_piecesFor_33 (by decide) ?_
            refine zx_goto (tgt := 49) dS_piecesFor_34 rfl ?_
            refine zn_iadd dS_piecesFor_49 ?_
            refine zx_istore_n dS_piecesFor_50 (Nat.le_of_ble_eq_true rfl) rfl rfl ?_
            refine zx_iload_n dS_piecesFor_51 rfl ?_
            refine zx_istore_n dS_piecesFor_52 (Nat.le_of_ble_eq_true rfl) rfl rfl ?_
            refine zx_iinc (v := dI m) dS_piecesFor_53 (Nat.le_of_ble_eq_true rfl) (by first | rfl | (simp only [List.all_cons, List.all_nil, hv]; rfl)) rfl rfl rfl ?_
            refine zx_goto (tgt := 8) dS_piecesFor_56 rfl ?_
            refine ih _ _ m _ (by omega) ⟨by omega, by omega⟩ (by first | exact hv | rfl) ?_
            first | (rw [pcs_f (fun h => h18 ((ush1 (by omega)).mpr h))] at h4; exact h4) | (rw [pcs_t ((ush1 (by omega)).mp h18)] at h4; have hc : cost (b - m) = _ := (by unfold cost; first | rw [if_pos (by omega)] | rw [if_neg (by omega), if_pos (by omega)] | rw [if_neg (by omega), if_neg (by omega)]); omega)
  refine zx_iconst (v := nI 0) dS_piecesFor_0 (by decide) ?_
  refine zx_istore_n dS_piecesFor_1 (Nat.le_of_ble_eq_true rfl) rfl rfl ?_
  refine zx_bipush (v := nI 32) dS_piecesFor_2 (by decide) ?_
  refine zx_istore_n dS_piecesFor_4 (Nat.le_of_ble_eq_true rfl) rfl rfl ?_
  refine zx_bipush (v := nI 31) dS_piecesFor_5 (by decide) ?_
  refine zx_istore_n dS_piecesFor_7 (Nat.le_of_ble_eq_true rfl) rfl rfl ?_
  exact loop _ 0 32 32 _ (Nat.lt_succ_self _) ⟨by omega, by omega⟩ rfl (Nat.zero_add _)

set_option maxHeartbeats 4000000 in
set_option maxRecDepth 100000 in
theorem kS_countCells (G : zG) (d : Nat) (hd : 1 ≤ d) {n : Nat} {sh : zSh} {row : zRw} {s rw : Nat} {ts : List (List Nat × Int32)} {pk : Bool} (hS : SegA sh row s ts rw pk) : zM G (fS_countCells d) [.ref s] n sh row (zP sh row (.int (nI (sumT (cellsOf pk) ts)))) := by
  refine zM.of (by show plainName "PostIndex$Segment" = true; decide +kernel) (Nat.le_of_ble_eq_true rfl) (by intro v hv; simp at hv; rcases hv with rfl <;> rfl) ?_
  intro K hE
  show zX G K (fS_countCells d) n 0 0 sh row 0 [.ref s, .retAddr 0, .retAddr 0] []
  have hD : d - 1 + 1 ≤ d := by omega
  obtain ⟨⟨hs1, hs2, hs3⟩, ⟨hp0, hp1, hp2, hp3, hp4⟩, ⟨hl1, hl2⟩, hrf, htx, hbt⟩ := id hS
  have loop : ∀ (k : Nat) (a i : Nat), ts.length - i < k → i ≤ ts.length → a = sumT (cellsOf pk) (ts.take i) → zX G K (fS_countCells d) n 0 0 sh row 4 [.ref s, .int (nI a), .int (nI i)] [] := by
    intro k
    induction k with
    | zero => intro a i hk; exact absurd hk (Nat.not_lt_zero _)
    | succ k ih =>
      intro a i hk h3 h4
      refine zx_iload_n dS_countCells_4 rfl ?_
      refine zx_aload_n dS_countCells_5 rfl ?_
      refine zx_get dS_countCells_6 flS_26 (by assumption) (by assumption) ?_
      refine zn_icmp_ge (tgt := 52) dS_countCells_9 rfl (by omega) (by omega) (fun h9 => ?_) (fun h9 => ?_)
      · refine zx_iload_n dS_countCells_52 rfl ?_
        exact zx_iret hE rfl dS_countCells_53 rfl (Nat.le_of_ble_eq_true rfl) ⟨by rw [h4, List.take_of_length_le (by omega)], rfl, rfl⟩
      · refine zx_iload_n dS_countCells_12 rfl ?_
        refine zx_aload_n dS_countCells_13 rfl ?_
        refine zx_get dS_countCells_14 flS_44 (by assumption) (by assumption) ?_
        refine zb_if_eq (tgt := 32) dS_countCells_17 rfl (fun h17 => ?_) (fun h17 => ?_)
        · refine zx_aload_n dS_countCells_32 rfl ?_
          refine zx_get dS_countCells_33 flS_9 (by assumption) (by assumption) ?_
          refine zx_iload_n dS_countCells_36 rfl ?_
          refine zn_iald dS_countCells_37 hs2 rfl (by omega) (by decide) (hbt _ (by omega)) ?_
          refine zc_S (kI_bitCount G (d - 1) (by omega)) (meI_bitCount _) lkS_48 rfl hD (Nat.le_of_ble_eq_true rfl) rfl rfl (Nat.le_of_ble_eq_true rfl) (Nat.le_of_ble_eq_true rfl) (Nat.le_of_ble_eq_true rfl) dS_countCells_38 ?_
          refine zc_S (kS_sliceCellsFor G (d - 1) (by omega) (cnt_le _ _)) (meS_sliceCellsFor _) lkS_57 rfl hD (Nat.le_of_ble_eq_true rfl) rfl rfl (Nat.le_of_ble_eq_true rfl) (Nat.le_of_ble_eq_true rfl) (Nat.le_of_ble_eq_true rfl) dS_countCells_41 ?_
          refine zn_iadd dS_countCells_44 ?_
          refine zx_istore_n dS_countCells_45 (Nat.le_of_ble_eq_true rfl) rfl rfl ?_
          refine zn_iinc (c := 1) dS_countCells_46 (Nat.le_of_ble_eq_true rfl) rfl rfl ?_
          refine zx_goto (tgt := 4) dS_countCells_49 rfl ?_
          exact ih _ (i + 1) (by omega) (by omega) (by rw [sumT_take (cellsOf pk) (by omega), h4]; unfold cellsOf; rw [h17]; rfl)
        · refine zx_aload_n dS_countCells_20 rfl ?_
          refine zx_get dS_countCells_21 flS_9 (by assumption) (by assumption) ?_
          refine zx_iload_n dS_countCells_24 rfl ?_
          refine zn_iald dS_countCells_25 hs2 rfl (by omega) (by decide) (hbt _ (by omega)) ?_
          refine zc_S (kS_piecesFor G (d - 1)) (meS_piecesFor _) lkS_54 rfl hD (Nat.le_of_ble_eq_true rfl) rfl rfl (Nat.le_of_ble_eq_true rfl) (Nat.le_of_ble_eq_true rfl) (Nat.le_of_ble_eq_true rfl) dS_countCells_26 ?_
          refine zx_goto (tgt := 44) dS_countCells_29 rfl ?_
          refine zn_iadd dS_countCells_44 ?_
          refine zx_istore_n dS_countCells_45 (Nat.le_of_ble_eq_true rfl) rfl rfl ?_
          refine zn_iinc (c := 1) dS_countCells_46 (Nat.le_of_ble_eq_true rfl) rfl rfl ?_
          refine zx_goto (tgt := 4) dS_countCells_49 rfl ?_
          exact ih _ (i + 1) (by omega) (by omega) (by rw [sumT_take (cellsOf pk) (by omega), h4]; unfold cellsOf; rw [h17]; rfl)
  refine zx_iconst (v := nI 0) dS_countCells_0 (by decide) ?_
  refine zx_istore_n dS_countCells_1 (Nat.le_of_ble_eq_true rfl) rfl rfl ?_
  refine zx_iconst (v := nI 0) dS_countCells_2 (by decide) ?_
  refine zx_istore_n dS_countCells_3 (Nat.le_of_ble_eq_true rfl) rfl rfl ?_
  exact loop _ 0 0 (Nat.lt_succ_self _) (Nat.zero_le _) rfl

