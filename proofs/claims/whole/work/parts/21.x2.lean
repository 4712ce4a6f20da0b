theorem XA.up5 {sh : zSh} {row : zRw} {x m : Nat} {D : List Nat} {pf : PF} {sf : SF} {hf : HF} {c : CT} {qr : Nat} (h : XA sh row x D pf sf hf c qr) : XA sh (zup row x 5 (.int (nI m))) x D pf sf hf (m, c.2) qr := by
  refine h.ctr (frI_up (Nat.le_refl _) (Nat.le_refl _)) ?_
  obtain ⟨ho, h_0, h_1, h_2, h_3, h_4, h_5, h_6, h_7, h_8, h_9, h_10, h_11⟩ := h.1
  refine ⟨ho, ?_, ?_, ?_, ?_, ?_, ?_, ?_, ?_, ?_, ?_, ?_, ?_⟩ <;> first | exact zup_same _ _ _ | (rw [zup_k (Or.inr (by decide))]; assumption)
theorem XA.up6 {sh : zSh} {row : zRw} {x m : Nat} {D : List Nat} {pf : PF} {sf : SF} {hf : HF} {c : CT} {qr : Nat} (h : XA sh row x D pf sf hf c qr) : XA sh (zup row x 6 (.int (nI m))) x D pf sf hf (c.1, m, c.2.2) qr := by
  refine h.ctr (frI_up (Nat.le_refl _) (Nat.le_refl _)) ?_
  obtain ⟨ho, h_0, h_1, h_2, h_3, h_4, h_5, h_6, h_7, h_8, h_9, h_10, h_11⟩ := h.1
  refine ⟨ho, ?_, ?_, ?_, ?_, ?_, ?_, ?_, ?_, ?_, ?_, ?_, ?_⟩ <;> first | exact zup_same _ _ _ | (rw [zup_k (Or.inr (by decide))]; assumption)
theorem XA.up7 {sh : zSh} {row : zRw} {x m : Nat} {D : List Nat} {pf : PF} {sf : SF} {hf : HF} {c : CT} {qr : Nat} (h : XA sh row x D pf sf hf c qr) : XA sh (zup row x 7 (.int (nI m))) x D pf sf hf (c.1, c.2.1, m, c.2.2.2) qr := by
  refine h.ctr (frI_up (Nat.le_refl _) (Nat.le_refl _)) ?_
  obtain ⟨ho, h_0, h_1, h_2, h_3, h_4, h_5, h_6, h_7, h_8, h_9, h_10, h_11⟩ := h.1
  refine ⟨ho, ?_, ?_, ?_, ?_, ?_, ?_, ?_, ?_, ?_, ?_, ?_, ?_⟩ <;> first | exact zup_same _ _ _ | (rw [zup_k (Or.inr (by decide))]; assumption)
theorem XA.up8 {sh : zSh} {row : zRw} {x m : Nat} {D : List Nat} {pf : PF} {sf : SF} {hf : HF} {c : CT} {qr : Nat} (h : XA sh row x D pf sf hf c qr) : XA sh (zup row x 8 (.int (nI m))) x D pf sf hf (c.1, c.2.1, c.2.2.1, m, c.2.2.2.2) qr := by
  refine h.ctr (frI_up (Nat.le_refl _) (Nat.le_refl _)) ?_
  obtain ⟨ho, h_0, h_1, h_2, h_3, h_4, h_5, h_6, h_7, h_8, h_9, h_10, h_11⟩ := h.1
  refine ⟨ho, ?_, ?_, ?_, ?_, ?_, ?_, ?_, ?_, ?_, ?_, ?_, ?_⟩ <;> first | exact zup_same _ _ _ | (rw [zup_k (Or.inr (by decide))]; assumption)
theorem XA.up10 {sh : zSh} {row : zRw} {x m : Nat} {D : List Nat} {pf : PF} {sf : SF} {hf : HF} {c : CT} {qr : Nat} (h : XA sh row x D pf sf hf c qr) : XA sh (zup row x 10 (.int (nI m))) x D pf sf hf (c.1, c.2.1, c.2.2.1, c.2.2.2.1, m, c.2.2.2.2.2) qr := by
  refine h.ctr (frI_up (Nat.le_refl _) (Nat.le_refl _)) ?_
  obtain ⟨ho, h_0, h_1, h_2, h_3, h_4, h_5, h_6, h_7, h_8, h_9, h_10, h_11⟩ := h.1
  refine ⟨ho, ?_, ?_, ?_, ?_, ?_, ?_, ?_, ?_, ?_, ?_, ?_, ?_⟩ <;> first | exact zup_same _ _ _ | (rw [zup_k (Or.inr (by decide))]; assumption)
theorem XA.up11 {sh : zSh} {row : zRw} {x m : Nat} {D : List Nat} {pf : PF} {sf : SF} {hf : HF} {c : CT} {qr : Nat} (h : XA sh row x D pf sf hf c qr) : XA sh (zup row x 11 (.int (nI m))) x D pf sf hf (c.1, c.2.1, c.2.2.1, c.2.2.2.1, c.2.2.2.2.1, m) qr := by
  refine h.ctr (frI_up (Nat.le_refl _) (Nat.le_refl _)) ?_
  obtain ⟨ho, h_0, h_1, h_2, h_3, h_4, h_5, h_6, h_7, h_8, h_9, h_10, h_11⟩ := h.1
  refine ⟨ho, ?_, ?_, ?_, ?_, ?_, ?_, ?_, ?_, ?_, ?_, ?_, ?_⟩ <;> first | exact zup_same _ _ _ | (rw [zup_k (Or.inr (by decide))]; assumption)
theorem fold1_idem (c : Nat) : fold1 (fold1 c) = fold1 c := by unfold fold1; split <;> first | omega | (split <;> omega)
theorem map_idem (ws : List Nat) : (ws.map fold1).map fold1 = ws.map fold1 := by rw [List.map_map]; congr 1; funext c; exact fold1_idem c

set_option maxHeartbeats 4000000 in
set_option maxRecDepth 100000 in
theorem kX_quote (G : zG) (d : Nat) (hd : 3 ≤ d) {n : Nat} {sh : zSh} {row : zRw} {x : Nat} {D : List Nat} {pf : PF} {sf : SF} {hf : HF} {c : CT} {qr : Nat} (hX : XA sh row x D pf sf hf c qr) {j : Nat} (hj : j < 2147483648) (hsb : c.2.2.1 ≤ 6) (hpb : c.2.1 ≤ 24) : zM G (fX_quote d) [.ref x, .int (nI j)] n sh row (zpR sh (fun v row' => v = .int (if standB pf c j = true then nI (min (pf j).2.2.1.length (24 - D.length)) else -1) ∧ frI x (x + 795) row row' ∧ XA sh row' x (if standB pf c j = true then D ++ (pf j).2.2.1.take (min (pf j).2.2.1.length (24 - D.length)) else D) pf sf hf c qr)) := by
  refine zM.of (by show plainName "PostIndex" = true; decide +kernel) (Nat.le_of_ble_eq_true rfl) (by intro v hv; simp at hv; rcases hv with rfl | rfl <;> rfl) ?_
  intro K hE
  show zX G K (fX_quote d) n 0 0 sh row 0 [.ref x, .int (nI j)] []
  have hD : d - 1 + 1 ≤ d := by omega
  obtain ⟨hO, hD0, htk, hPs, hSg, hSe, hRd, hDj⟩ := id hX
  obtain ⟨ho, h_0, h_1, h_2, h_3, h_4, h_5, h_6, h_7, h_8, h_9, h_10, h_11⟩ := id hO
  refine zx_aload_n dX_quote_0 rfl ?_
  refine zx_iload_n dX_quote_1 rfl ?_
  refine zc_V (kX_stands G (d - 1) (by omega) hX hj hsb hpb) (meX_stands _) lkX_51 ho rfl rfl hD (Nat.le_of_ble_eq_true rfl) rfl rfl (Nat.le_of_ble_eq_true rfl) (Nat.le_of_ble_eq_true rfl) (Nat.le_of_ble_eq_true rfl) dX_quote_2 ?_
  refine zb_if_eq (tgt := 27) dX_quote_5 rfl (fun h5 => ?_) (fun h5 => ?_)
  · refine zx_iconst (v := -1) dX_quote_27 (by decide) ?_
    exact zx_iret hE rfl dX_quote_28 rfl (Nat.le_of_ble_eq_true rfl) (by first | exact ⟨_, rfl, rfl, by rw [if_pos h5], (fr2.I h7).wide (by omega) (by omega), by rw [if_pos h5]; exact hX.draft h7 h8⟩ | exact ⟨_, rfl, rfl, by rw [if_neg (by rw [h5]; decide)], frI.rf, by rw [if_neg (by rw [h5]; decide)]; exact hX⟩)
  · refine zx_aload_n dX_quote_8 rfl ?_
    refine zx_get dX_quote_9 flX_12 (by assumption) (by assumption) ?_
    refine zx_aload_n dX_quote_12 rfl ?_
    refine zx_get dX_quote_13 flX_28 (by assumption) (by assumption) ?_
    refine zx_iload_n dX_quote_16 rfl ?_
    have hj24 : j < 24 := by unfold standB at h5; simp at h5; omega
    obtain ⟨q1, q2⟩ := hPs.2 j hj24
    refine zn_aald dX_quote_17 hPs.1 rfl (by omega) (by decide) q1 ?_
    refine zx_getN dX_quote_18 flX_55 q2.1 q2.2.1 ?_
    refine zc_Vr (kT_appendBeginning G (d - 1) (by omega) hD0 q2.2.2.2.2.2) (meT_appendBeginning _) lkX_58 hD0.1 rfl rfl hD (Nat.le_of_ble_eq_true rfl) rfl rfl (Nat.le_of_ble_eq_true rfl) (Nat.le_of_ble_eq_true rfl) (Nat.le_of_ble_eq_true rfl) dX_quote_21 (fun v r1 h6 => ?_)
    obtain ⟨rfl, h7, h8⟩ := h6
    refine zx_goto (tgt := 28) dX_quote_24 rfl ?_
    exact zx_iret hE rfl dX_quote_28 rfl (Nat.le_of_ble_eq_true rfl) (by first | exact ⟨_, rfl, rfl, by rw [if_pos h5], (fr2.I h7).wide (by omega) (by omega), by rw [if_pos h5]; exact hX.draft h7 h8⟩ | exact ⟨_, rfl, rfl, by rw [if_neg (by rw [h5]; decide)], frI.rf, by rw [if_neg (by rw [h5]; decide)]; exact hX⟩)

set_option maxHeartbeats 4000000 in
set_option maxRecDepth 100000 in
theorem kX_quoteN (G : zG) (d : Nat) (hd : 2 ≤ d) {n : Nat} {sh : zSh} {row : zRw} {x : Nat} {D : List Nat} {pf : PF} {sf : SF} {hf : HF} {c : CT} {qr : Nat} (hX : XA sh row x D pf sf hf c qr) {v : Int32} (hv : v < 0) : zM G (fX_quote d) [.ref x, .int v] n sh row (zP sh row (.int (-1))) := by
  refine zM.of (by show plainName "PostIndex" = true; decide +kernel) (Nat.le_of_ble_eq_true rfl) (by intro v hv; simp at hv; rcases hv with rfl | rfl <;> rfl) ?_
  intro K hE
  show zX G K (fX_quote d) n 0 0 sh row 0 [.ref x, .int v] []
  have hD : d - 1 + 1 ≤ d := by omega
  obtain ⟨hO, hD0, htk, hPs, hSg, hSe, hRd, hDj⟩ := id hX
  obtain ⟨ho, h_0, h_1, h_2, h_3, h_4, h_5, h_6, h_7, h_8, h_9, h_10, h_11⟩ := id hO
  refine zx_aload_n dX_quote_0 rfl ?_
  refine zx_iload_n dX_quote_1 rfl ?_
  refine zc_V (kX_standsN G (d - 1) (by omega) hX hv) (meX_stands _) lkX_51 ho rfl rfl hD (Nat.le_of_ble_eq_true rfl) rfl rfl (Nat.le_of_ble_eq_true rfl) (Nat.le_of_ble_eq_true rfl) (Nat.le_of_ble_eq_true rfl) dX_quote_2 ?_
  refine zb_if_eq (tgt := 27) dX_quote_5 rfl (fun h5 => ?_) (fun h5 => ?_)
  · refine zx_iconst (v := -1) dX_quote_27 (by decide) ?_
    exact zx_iret hE rfl dX_quote_28 rfl (Nat.le_of_ble_eq_true rfl) ⟨rfl, rfl, rfl⟩
  · exact absurd h5 (by decide)

theorem PostA.er {sh : zSh} {row : zRw} {p : Nat} {au ti : Int32} {xs : List Nat} {er : Bool} (h : PostA sh row p au ti xs er) : PostA sh (zup row p 3 (.int (nI 1))) p au ti xs true := by
  obtain ⟨h1, h2, h3, h4, h5, h6⟩ := h
  exact ⟨h1, by rw [zup_k (Or.inr (by decide))]; exact h2, by rw [zup_k (Or.inr (by decide))]; exact h3, by rw [zup_k (Or.inr (by decide))]; exact h4, zup_same _ _ _, h6.keep (zup_ne (by omega)) (zup_ne (by omega))⟩

set_option maxHeartbeats 4000000 in
set_option maxRecDepth 100000 in
theorem kX_erase (G : zG) (d : Nat) (hd : 2 ≤ d) {n : Nat} {sh : zSh} {row : zRw} {x : Nat} {D : List Nat} {pf : PF} {sf : SF} {hf : HF} {c : CT} {qr : Nat} (hX : XA sh row x D pf sf hf c qr) {j : Nat} (hj : j < 2147483648) (hsb : c.2.2.1 ≤ 6) (hpb : c.2.1 ≤ 24) : zM G (fX_erase d) [.ref x, .int (nI j)] n sh row (zpR sh (fun v row' => v = .int (bI (standB pf c j)) ∧ frI x (x + 795) row row' ∧ XA sh row' x D (if standB pf c j = true then va_up pf j ((pf j).1, (pf j).2.1, (pf j).2.2.1, true) else pf) sf hf c qr)) := by
  refine zM.of (by show plainName "PostIndex" = true; decide +kernel) (Nat.le_of_ble_eq_true rfl) (by intro v hv; simp at hv; rcases hv with rfl | rfl <;> rfl) ?_
  intro K hE
  show zX G K (fX_erase d) n 0 0 sh row 0 [.ref x, .int (nI j)] []
  have hD : d - 1 + 1 ≤ d := by omega
  obtain ⟨hO, hD0, htk, hPs, hSg, hSe, hRd, hDj⟩ := id hX
  obtain ⟨ho, h_0, h_1, h_2, h_3, h_4, h_5, h_6, h_7, h_8, h_9, h_10, h_11⟩ := id hO
  refine zx_aload_n dX_erase_0 rfl ?_
  refine zx_iload_n dX_erase_1 rfl ?_
  refine zc_V (kX_stands G (d - 1) (by omega) hX hj hsb hpb) (meX_stands _) lkX_51 ho rfl rfl hD (Nat.le_of_ble_eq_true rfl) rfl rfl (Nat.le_of_ble_eq_true rfl) (Nat.le_of_ble_eq_true rfl) (Nat.le_of_ble_eq_true rfl) dX_erase_2 ?_
  refine zb_if_ne (tgt := 10) dX_erase_5 rfl (fun h5 => ?_) (fun h5 => ?_)
  · refine zx_aload_n dX_erase_10 rfl ?_
    refine zx_get dX_erase_11 flX_28 (by assumption) (by assumption) ?_
    refine zx_iload_n dX_erase_14 rfl ?_
    have hj24 : j < 24 := by unfold standB at h5; simp at h5; omega
    obtain ⟨q1, q2⟩ := hPs.2 j hj24
    refine zn_aald dX_erase_15 hPs.1 rfl (by omega) (by decide) q1 ?_
    refine zx_iconst (v := nI 1) dX_erase_16 (by decide) ?_
    refine zx_putN dX_erase_17 flX_87 tpP_3 q2.1 rfl rfl ?_
    refine zx_iconst (v := nI 1) dX_erase_20 (by decide) ?_
    exact zx_zret hE rfl (by first | decide | exact bI_nar _) dX_erase_21 rfl (Nat.le_of_ble_eq_true rfl) (by first | exact ⟨_, rfl, rfl, by rw [h5]; rfl, frI_up (by omega) (by omega), by rw [if_pos h5]; exact hX.postU hj24 (frI_up (by omega) (by omega)) q2.er⟩ | exact ⟨_, rfl, rfl, by rw [h5]; rfl, frI.rf, by rw [if_neg (by rw [h5]; decide)]; exact hX⟩)
  · refine zx_iconst (v := nI 0) dX_erase_8 (by decide) ?_
    exact zx_zret hE rfl (by first | decide | exact bI_nar _) dX_erase_9 rfl (Nat.le_of_ble_eq_true rfl) (by first | exact ⟨_, rfl, rfl, by rw [h5]; rfl, frI_up (by omega) (by omega), by rw [if_pos h5]; exact hX.postU hj24 (frI_up (by omega) (by omega)) q2.er⟩ | exact ⟨_, rfl, rfl, by rw [h5]; rfl, frI.rf, by rw [if_neg (by rw [h5]; decide)]; exact hX⟩)

set_option maxHeartbeats 4000000 in
set_option maxRecDepth 100000 in
theorem kX_eraseN (G : zG) (d : Nat) (hd : 2 ≤ d) {n : Nat} {sh : zSh} {row : zRw} {x : Nat} {D : List Nat} {pf : PF} {sf : SF} {hf : HF} {c : CT} {qr : Nat} (hX : XA sh row x D pf sf hf c qr) {v : Int32} (hv : v < 0) : zM G (fX_erase d) [.ref x, .int v] n sh row (zP sh row (.int (bI false))) := by
  refine zM.of (by show plainName "PostIndex" = true; decide +kernel) (Nat.le_of_ble_eq_true rfl) (by intro v hv; simp at hv; rcases hv with rfl | rfl <;> rfl) ?_
  intro K hE
  show zX G K (fX_erase d) n 0 0 sh row 0 [.ref x, .int v] []
  have hD : d - 1 + 1 ≤ d := by omega
  obtain ⟨hO, hD0, htk, hPs, hSg, hSe, hRd, hDj⟩ := id hX
  obtain ⟨ho, h_0, h_1, h_2, h_3, h_4, h_5, h_6, h_7, h_8, h_9, h_10, h_11⟩ := id hO
  refine zx_aload_n dX_erase_0 rfl ?_
  refine zx_iload_n dX_erase_1 rfl ?_
  refine zc_V (kX_standsN G (d - 1) (by omega) hX hv) (meX_stands _) lkX_51 ho rfl rfl hD (Nat.le_of_ble_eq_true rfl) rfl rfl (Nat.le_of_ble_eq_true rfl) (Nat.le_of_ble_eq_true rfl) (Nat.le_of_ble_eq_true rfl) dX_erase_2 ?_
  refine zb_if_ne (tgt := 10) dX_erase_5 rfl (fun h5 => ?_) (fun h5 => ?_)
  · exact absurd h5 (by decide)
  · refine zx_iconst (v := nI 0) dX_erase_8 (by decide) ?_
    exact zx_zret hE rfl (by first | decide | exact bI_nar _) dX_erase_9 rfl (Nat.le_of_ble_eq_true rfl) ⟨rfl, rfl, rfl⟩

def okP (a : Int32) (c : CT) : Prop := ¬ a < 0 ∧ ¬ nI 10 ≤ a ∧ c.1 < 24 ∧ c.1 - c.2.1 < 4

set_option maxHeartbeats 4000000 in
set_option maxRecDepth 100000 in
theorem kX_post (G : zG) (d : Nat) (hd : 4 ≤ d) {n : Nat} {sh : zSh} {row : zRw} {x : Nat} {D : List Nat} {pf : PF} {sf : SF} {hf : HF} {c : CT} {qr : Nat} (hX : XA sh row x D pf sf hf c qr) {a t : Int32} (hmd : c.1 ≤ 24) (hpm : c.2.1 ≤ c.1) : zM G (fX_post d) [.ref x, .int a, .int t] n sh row (zpR sh (fun v row' => (okP a c ∧ v = .int (nI c.1) ∧ frI x (x + 795) row row' ∧ XA sh row' x [] (va_up pf c.1 (a, t, D, (pf c.1).2.2.2)) sf hf (c.1 + 1, c.2) qr) ∨ (¬ okP a c ∧ v = .int (-1) ∧ frI x (x + 795) row row' ∧ XA sh row' x D pf sf hf c qr))) := by
  refine zM.of (by show plainName "PostIndex" = true; decide +kernel) (Nat.le_of_ble_eq_true rfl) (by intro v hv; simp at hv; rcases hv with rfl | rfl | rfl <;> rfl) ?_
  intro K hE
  show zX G K (fX_post d) n 0 0 sh row 0 [.ref x, .int a, .int t, .retAddr 0] []
  have hD : d - 1 + 1 ≤ d := by omega
  obtain ⟨hO, hD0, htk, hPs, hSg, hSe, hRd, hDj⟩ := id hX
  obtain ⟨ho, h_0, h_1, h_2, h_3, h_4, h_5, h_6, h_7, h_8, h_9, h_10, h_11⟩ := id hO
  refine zx_iload_n dX_post_0 rfl ?_
  refine zx_if_lt (tgt := 36) dX_post_1 rfl (fun h1 => ?_) (fun h1 => ?_)
  · refine zx_iconst (v := nI 0) dX_post_36 (by decide) ?_
    refine zx_istore_n dX_post_37 (Nat.le_of_ble_eq_true rfl) rfl rfl ?_
    refine zx_iload_n dX_post_38 rfl ?_
    refine zx_if_ne (tgt := 44) dX_post_39 rfl (fun h => absurd rfl h) (fun _ => ?_)
    refine zx_iconst (v := -1) dX_post_42 (by decide) ?_
    exact zx_iret hE rfl dX_post_43 rfl (Nat.le_of_ble_eq_true rfl) ⟨_, rfl, rfl, Or.inr ⟨by rintro ⟨k1, k2, k3, k4⟩; first | exact k1 h1 | exact k2 h7 | omega, rfl, frI.rf, hX⟩⟩
  · refine zx_iload_n dX_post_4 rfl ?_
    refine zx_bipush (v := nI 10) dX_post_5 (by decide) ?_
    refine zx_icmp_ge (tgt := 36) dX_post_7 rfl (fun h7 => ?_) (fun h7 => ?_)
    · refine zx_iconst (v := nI 0) dX_post_36 (by decide) ?_
      refine zx_istore_n dX_post_37 (Nat.le_of_ble_eq_true rfl) rfl rfl ?_
      refine zx_iload_n dX_post_38 rfl ?_
      refine zx_if_ne (tgt := 44) dX_post_39 rfl (fun h => absurd rfl h) (fun _ => ?_)
      refine zx_iconst (v := -1) dX_post_42 (by decide) ?_
      exact zx_iret hE rfl dX_post_43 rfl (Nat.le_of_ble_eq_true rfl) ⟨_, rfl, rfl, Or.inr ⟨by rintro ⟨k1, k2, k3, k4⟩; first | exact k1 h1 | exact k2 h7 | omega, rfl, frI.rf, hX⟩⟩
    · refine zx_aload_n dX_post_10 rfl ?_
      refine zx_get dX_post_11 flX_69 (by assumption) (by assumption) ?_
      refine zx_bipush (v := nI 24) dX_post_14 (by decide) ?_
      refine zn_icmp_ge (tgt := 36) dX_post_16 rfl (by omega) (by omega) (fun h16 => ?_) (fun h16 => ?_)
      · refine zx_iconst (v := nI 0) dX_post_36 (by decide) ?_
        refine zx_istore_n dX_post_37 (Nat.le_of_ble_eq_true rfl) rfl rfl ?_
        refine zx_iload_n dX_post_38 rfl ?_
        refine zx_if_ne (tgt := 44) dX_post_39 rfl (fun h => absurd rfl h) (fun _ => ?_)
        refine zx_iconst (v := -1) dX_post_42 (by decide) ?_
        exact zx_iret hE rfl dX_post_43 rfl (Nat.le_of_ble_eq_true rfl) ⟨_, rfl, rfl, Or.inr ⟨by rintro ⟨k1, k2, k3, k4⟩; first | exact k1 h1 | exact k2 h7 | omega, rfl, frI.rf, hX⟩⟩
      · refine zx_aload_n dX_post_19 rfl ?_
        refine zx_get dX_post_20 flX_69 (by assumption) (by assumption) ?_
        refine zx_aload_n dX_post_23 rfl ?_
        refine zx_get dX_post_24 flX_72 (by assumption) (by assumption) ?_
        refine zn_isub dX_post_27 (by omega) ?_
        refine zx_iconst (v := nI 4) dX_post_28 (by decide) ?_
        refine zn_icmp_ge (tgt := 36) dX_post_29 rfl (by omega) (by omega) (fun h29 => ?_) (fun h29 => ?_)
        · refine zx_iconst (v := nI 0) dX_post_36 (by decide) ?_
          refine zx_istore_n dX_post_37 (Nat.le_of_ble_eq_true rfl) rfl rfl ?_
          refine zx_iload_n dX_post_38 rfl ?_
          refine zx_if_ne (tgt := 44) dX_post_39 rfl (fun h => absurd rfl h) (fun _ => ?_)
          refine zx_iconst (v := -1) dX_post_42 (by decide) ?_
          exact zx_iret hE rfl dX_post_43 rfl (Nat.le_of_ble_eq_true rfl) ⟨_, rfl, rfl, Or.inr ⟨by rintro ⟨k1, k2, k3, k4⟩; first | exact k1 h1 | exact k2 h7 | omega, rfl, frI.rf, hX⟩⟩
        · refine zx_iconst (v := nI 1) dX_post_32 (by decide) ?_
          refine zx_goto (tgt := 37) dX_post_33 rfl ?_
          refine zx_istore_n dX_post_37 (Nat.le_of_ble_eq_true rfl) rfl rfl ?_
          refine zx_iload_n dX_post_38 rfl ?_
          refine zx_if_ne (tgt := 44) dX_post_39 rfl (fun _ => ?_) (fun h => absurd h (by decide))
          refine zx_aload_n dX_post_44 rfl ?_
          refine zx_get dX_post_45 flX_28 (by assumption) (by assumption) ?_
          refine zx_aload_n dX_post_48 rfl ?_
          refine zx_get dX_post_49 flX_69 (by assumption) (by assumption) ?_
          obtain ⟨q1, q2⟩ := hPs.2 c.1 (by omega)
          refine zn_aald dX_post_52 hPs.1 rfl (by omega) (by decide) q1 ?_
          refine zx_iload_n dX_post_53 rfl ?_
          refine zx_iload_n dX_post_54 rfl ?_
          refine zx_aload_n dX_post_55 rfl ?_
          refine zx_get dX_post_56 flX_12 (by assumption) (by assumption) ?_
          refine zc_Vv (kP_fill G (d - 1) (by omega) (au2 := a) (ti2 := t) q2 hD0 (by omega)) (meP_fill _) lkX_75 q2.1 rfl rfl hD (Nat.le_of_ble_eq_true rfl) rfl rfl (Nat.le_of_ble_eq_true rfl) (Nat.le_of_ble_eq_true rfl) (Nat.le_of_ble_eq_true rfl) dX_post_59 (fun r1 h6 => ?_)
          obtain ⟨h7', h8⟩ := h6
          have hX1 : XA sh r1 x D (va_up pf c.1 (a, t, D, (pf c.1).2.2.2)) sf hf c qr := hX.postU (by omega) (by rw [show x + 40 + 3 * c.1 = x + 38 + 3 * c.1 + 2 by omega]; exact h7') h8
          have g0 := hX1.1.2.1
          refine zx_aload_n dX_post_62 rfl ?_
          refine zx_get dX_post_63 flX_12 (by assumption) (by assumption) ?_
          refine zc_Vv (kT_makeEmpty G (d - 1) (by omega) hX1.2.1.1) (meT_makeEmpty _) lkX_62 hX1.2.1.1 rfl rfl hD (Nat.le_of_ble_eq_true rfl) rfl rfl (Nat.le_of_ble_eq_true rfl) (Nat.le_of_ble_eq_true rfl) (Nat.le_of_ble_eq_true rfl) dX_post_66 (fun r2 hr2 => ?_)
          have hX2 : XA sh r2 x [] (va_up pf c.1 (a, t, D, (pf c.1).2.2.2)) sf hf c qr := hX1.draft (by rw [hr2]; exact fr2_up) (by rw [hr2]; exact hX1.2.1.empty)
          have g5 := hX2.1.2.2.2.2.2.2.1
          refine zx_aload_n dX_post_69 rfl ?_
          refine zx_dup dX_post_70 rfl ?_
          refine zx_get dX_post_71 flX_69 (by assumption) (by assumption) ?_
          refine zx_iconst (v := nI 1) dX_post_74 (by decide) ?_
          refine zn_iadd dX_post_75 ?_
          refine zx_put dX_post_76 flX_69 tpX_5 ho rfl rfl ?_
          have hX3 := hX2.up5 (m := c.1 + 1)
          have g6 := hX3.1.2.2.2.2.2.2.1
          have g6 : zup r2 x 5 (.int (nI (c.1 + 1))) x 5 = .int (nI (c.1 + 1)) := g6
          refine zx_aload_n dX_post_79 rfl ?_
          refine zx_get dX_post_80 flX_69 (by assumption) (by assumption) ?_
          refine zx_iconst (v := nI 1) dX_post_83 (by decide) ?_
          refine zn_isub dX_post_84 (by omega) ?_
          exact zx_iret hE rfl dX_post_85 rfl (Nat.le_of_ble_eq_true rfl) (by
            refine ⟨_, rfl, rfl, Or.inl ⟨⟨h1, h7, by omega, by omega⟩, ?_, ?_, hX3⟩⟩
            · rw [show c.1 + 1 - 1 = c.1 by omega]
            · exact ((h7'.wide (by omega) (by omega)).tr (by rw [hr2]; exact frI_up (by omega) (by omega))).tr (frI_up (by omega) (by omega)))

set_option maxHeartbeats 4000000 in
set_option maxRecDepth 100000 in
theorem kX_size (G : zG) (d : Nat) (hd : 2 ≤ d) {n : Nat} {sh : zSh} {row : zRw} {x : Nat} {D : List Nat} {pf : PF} {sf : SF} {hf : HF} {c : CT} {qr : Nat} (hX : XA sh row x D pf sf hf c qr) {j : Nat} (hj : j < 2147483648) (hsb : c.2.2.1 ≤ 6) : zM G (fX_size d) [.ref x, .int (nI j)] n sh row (zP sh row (.int (if liveB c.2.2.1 j = true then nI (sumT (cellsOf (sf j).2.2) (sf j).1) else -1))) := by
  refine zM.of (by show plainName "PostIndex" = true; decide +kernel) (Nat.le_of_ble_eq_true rfl) (by intro v hv; simp at hv; rcases hv with rfl | rfl <;> rfl) ?_
  intro K hE
  show zX G K (fX_size d) n 0 0 sh row 0 [.ref x, .int (nI j)] []
  have hD : d - 1 + 1 ≤ d := by omega
  obtain ⟨hO, hD0, htk, hPs, hSg, hSe, hRd, hDj⟩ := id hX
  obtain ⟨ho, h_0, h_1, h_2, h_3, h_4, h_5, h_6, h_7, h_8, h_9, h_10, h_11⟩ := id hO
  refine zx_aload_n dX_size_0 rfl ?_
  refine zx_iload_n dX_size_1 rfl ?_
  refine zc_V (kX_isLive G (d - 1) (by omega) hX hj hsb) (meX_isLive _) lkX_132 ho rfl rfl hD (Nat.le_of_ble_eq_true rfl) rfl rfl (Nat.le_of_ble_eq_true rfl) (Nat.le_of_ble_eq_true rfl) (Nat.le_of_ble_eq_true rfl) dX_size_2 ?_
  refine zb_if_eq (tgt := 20) dX_size_5 rfl (fun h5 => ?_) (fun h5 => ?_)
  · refine zx_iconst (v := -1) dX_size_20 (by decide) ?_
    exact zx_iret hE rfl dX_size_21 rfl (Nat.le_of_ble_eq_true rfl) ⟨by first | rw [if_pos h5] | rw [if_neg (by rw [h5]; decide)], rfl, rfl⟩
  · refine zx_aload_n dX_size_8 rfl ?_
    refine zx_get dX_size_9 flX_35 (by assumption) (by assumption) ?_
    refine zx_iload_n dX_size_12 rfl ?_
    have hj6 : j < 6 := by unfold liveB at h5; simp at h5; omega
    obtain ⟨q1, q2⟩ := hSg.2 j hj6
    refine zn_aald dX_size_13 hSg.1 rfl (by omega) (by decide) q1 ?_
    refine zc_V (kS_countCells G (d - 1) (by omega) q2) (meS_countCells _) lkX_144 q2.1.1 rfl rfl hD (Nat.le_of_ble_eq_true rfl) rfl rfl (Nat.le_of_ble_eq_true rfl) (Nat.le_of_ble_eq_true rfl) (Nat.le_of_ble_eq_true rfl) dX_size_14 ?_
    refine zx_goto (tgt := 21) dX_size_17 rfl ?_
    exact zx_iret hE rfl dX_size_21 rfl (Nat.le_of_ble_eq_true rfl) ⟨by first | rw [if_pos h5] | rw [if_neg (by rw [h5]; decide)], rfl, rfl⟩

set_option maxHeartbeats 4000000 in
set_option maxRecDepth 100000 in
theorem kX_sizeN (G : zG) (d : Nat) (hd : 2 ≤ d) {n : Nat} {sh : zSh} {row : zRw} {x : Nat} {D : List Nat} {pf : PF} {sf : SF} {hf : HF} {c : CT} {qr : Nat} (hX : XA sh row x D pf sf hf c qr) {v : Int32} (hv : v < 0) : zM G (fX_size d) [.ref x, .int v] n sh row (zP sh row (.int (-1))) := by
  refine zM.of (by show plainName "PostIndex" = true; decide +kernel) (Nat.le_of_ble_eq_true rfl) (by intro v hv; simp at hv; rcases hv with rfl | rfl <;> rfl) ?_
  intro K hE
  show zX G K (fX_size d) n 0 0 sh row 0 [.ref x, .int v] []
  have hD : d - 1 + 1 ≤ d := by omega
  obtain ⟨hO, hD0, htk, hPs, hSg, hSe, hRd, hDj⟩ := id hX
  obtain ⟨ho, h_0, h_1, h_2, h_3, h_4, h_5, h_6, h_7, h_8, h_9, h_10, h_11⟩ := id hO
  refine zx_aload_n dX_size_0 rfl ?_
  refine zx_iload_n dX_size_1 rfl ?_
  refine zc_V (kX_isLiveN G (d - 1) (by omega) hX hv) (meX_isLive _) lkX_132 ho rfl rfl hD (Nat.le_of_ble_eq_true rfl) rfl rfl (Nat.le_of_ble_eq_true rfl) (Nat.le_of_ble_eq_true rfl) (Nat.le_of_ble_eq_true rfl) dX_size_2 ?_
  refine zb_if_eq (tgt := 20) dX_size_5 rfl (fun h5 => ?_) (fun h5 => ?_)
  · refine zx_iconst (v := -1) dX_size_20 (by decide) ?_
    exact zx_iret hE rfl dX_size_21 rfl (Nat.le_of_ble_eq_true rfl) ⟨rfl, rfl, rfl⟩
  · exact absurd h5 (by decide)

set_option maxHeartbeats 4000000 in
set_option maxRecDepth 100000 in
theorem kX_terms (G : zG) (d : Nat) (hd : 2 ≤ d) {n : Nat} {sh : zSh} {row : zRw} {x : Nat} {D : List Nat} {pf : PF} {sf : SF} {hf : HF} {c : CT} {qr : Nat} (hX : XA sh row x D pf sf hf c qr) {j : Nat} (hj : j < 2147483648) (hsb : c.2.2.1 ≤ 6) : zM G (fX_terms d) [.ref x, .int (nI j)] n sh row (zP sh row (.int (if liveB c.2.2.1 j = true then nI (sf j).1.length else -1))) := by
  refine zM.of (by show plainName "PostIndex" = true; decide +kernel) (Nat.le_of_ble_eq_true rfl) (by intro v hv; simp at hv; rcases hv with rfl | rfl <;> rfl) ?_
  intro K hE
  show zX G K (fX_terms d) n 0 0 sh row 0 [.ref x, .int (nI j)] []
  have hD : d - 1 + 1 ≤ d := by omega
  obtain ⟨hO, hD0, htk, hPs, hSg, hSe, hRd, hDj⟩ := id hX
  obtain ⟨ho, h_0, h_1, h_2, h_3, h_4, h_5, h_6, h_7, h_8, h_9, h_10, h_11⟩ := id hO
  refine zx_aload_n dX_terms_0 rfl ?_
  refine zx_iload_n dX_terms_1 rfl ?_
  refine zc_V (kX_isLive G (d - 1) (by omega) hX hj hsb) (meX_isLive _) lkX_132 ho rfl rfl hD (Nat.le_of_ble_eq_true rfl) rfl rfl (Nat.le_of_ble_eq_true rfl) (Nat.le_of_ble_eq_true rfl) (Nat.le_of_ble_eq_true rfl) dX_terms_2 ?_
  refine zb_if_eq (tgt := 20) dX_terms_5 rfl (fun h5 => ?_) (fun h5 => ?_)
  · refine zx_iconst (v := -1) dX_terms_20 (by decide) ?_
    exact zx_iret hE rfl dX_terms_21 rfl (Nat.le_of_ble_eq_true rfl) ⟨by first | rw [if_pos h5] | rw [if_neg (by rw [h5]; decide)], rfl, rfl⟩
  · refine zx_aload_n dX_terms_8 rfl ?_
    refine zx_get dX_terms_9 flX_35 (by assumption) (by assumption) ?_
    refine zx_iload_n dX_terms_12 rfl ?_
    have hj6 : j < 6 := by unfold liveB at h5; simp at h5; omega
    obtain ⟨q1, q2⟩ := hSg.2 j hj6
    refine zn_aald dX_terms_13 hSg.1 rfl (by omega) (by decide) q1 ?_
    refine zx_getN dX_terms_14 flX_147 q2.1.1 q2.2.1.2.2.1 ?_
    refine zx_goto (tgt := 21) dX_terms_17 rfl ?_
    exact zx_iret hE rfl dX_terms_21 rfl (Nat.le_of_ble_eq_true rfl) ⟨by first | rw [if_pos h5] | rw [if_neg (by rw [h5]; decide)], rfl, rfl⟩

set_option maxHeartbeats 4000000 in
set_option maxRecDepth 100000 in
theorem kX_termsN (G : zG) (d : Nat) (hd : 2 ≤ d) {n : Nat} {sh : zSh} {row : zRw} {x : Nat} {D : List Nat} {pf : PF} {sf : SF} {hf : HF} {c : CT} {qr : Nat} (hX : XA sh row x D pf sf hf c qr) {v : Int32} (hv : v < 0) : zM G (fX_terms d) [.ref x, .int v] n sh row (zP sh row (.int (-1))) := by
  refine zM.of (by show plainName "PostIndex" = true; decide +kernel) (Nat.le_of_ble_eq_true rfl) (by intro v hv; simp at hv; rcases hv with rfl | rfl <;> rfl) ?_
  intro K hE
  show zX G K (fX_terms d) n 0 0 sh row 0 [.ref x, .int v] []
  have hD : d - 1 + 1 ≤ d := by omega
  obtain ⟨hO, hD0, htk, hPs, hSg, hSe, hRd, hDj⟩ := id hX
  obtain ⟨ho, h_0, h_1, h_2, h_3, h_4, h_5, h_6, h_7, h_8, h_9, h_10, h_11⟩ := id hO
  refine zx_aload_n dX_terms_0 rfl ?_
  refine zx_iload_n dX_terms_1 rfl ?_
  refine zc_V (kX_isLiveN G (d - 1) (by omega) hX hv) (meX_isLive _) lkX_132 ho rfl rfl hD (Nat.le_of_ble_eq_true rfl) rfl rfl (Nat.le_of_ble_eq_true rfl) (Nat.le_of_ble_eq_true rfl) (Nat.le_of_ble_eq_true rfl) dX_terms_2 ?_
  refine zb_if_eq (tgt := 20) dX_terms_5 rfl (fun h5 => ?_) (fun h5 => ?_)
  · refine zx_iconst (v := -1) dX_terms_20 (by decide) ?_
    exact zx_iret hE rfl dX_terms_21 rfl (Nat.le_of_ble_eq_true rfl) ⟨rfl, rfl, rfl⟩
  · exact absurd h5 (by decide)

set_option maxHeartbeats 4000000 in
set_option maxRecDepth 100000 in
theorem kX_postings (G : zG) (d : Nat) (hd : 2 ≤ d) {n : Nat} {sh : zSh} {row : zRw} {x : Nat} {D : List Nat} {pf : PF} {sf : SF} {hf : HF} {c : CT} {qr : Nat} (hX : XA sh row x D pf sf hf c qr) {j : Nat} (hj : j < 2147483648) (hsb : c.2.2.1 ≤ 6) : zM G (fX_postings d) [.ref x, .int (nI j)] n sh row (zP sh row (.int (if liveB c.2.2.1 j = true then nI (sumT popc (sf j).1) else -1))) := by
  refine zM.of (by show plainName "PostIndex" = true; decide +kernel) (Nat.le_of_ble_eq_true rfl) (by intro v hv; simp at hv; rcases hv with rfl | rfl <;> rfl) ?_
  intro K hE
  show zX G K (fX_postings d) n 0 0 sh row 0 [.ref x, .int (nI j)] []
  have hD : d - 1 + 1 ≤ d := by omega
  obtain ⟨hO, hD0, htk, hPs, hSg, hSe, hRd, hDj⟩ := id hX
  obtain ⟨ho, h_0, h_1, h_2, h_3, h_4, h_5, h_6, h_7, h_8, h_9, h_10, h_11⟩ := id hO
  refine zx_aload_n dX_postings_0 rfl ?_
  refine zx_iload_n dX_postings_1 rfl ?_
  refine zc_V (kX_isLive G (d - 1) (by omega) hX hj hsb) (meX_isLive _) lkX_132 ho rfl rfl hD (Nat.le_of_ble_eq_true rfl) rfl rfl (Nat.le_of_ble_eq_true rfl) (Nat.le_of_ble_eq_true rfl) (Nat.le_of_ble_eq_true rfl) dX_postings_2 ?_
  refine zb_if_eq (tgt := 20) dX_postings_5 rfl (fun h5 => ?_) (fun h5 => ?_)
  · refine zx_iconst (v := -1) dX_postings_20 (by decide) ?_
    exact zx_iret hE rfl dX_postings_21 rfl (Nat.le_of_ble_eq_true rfl) ⟨by first | rw [if_pos h5] | rw [if_neg (by rw [h5]; decide)], rfl, rfl⟩
  · refine zx_aload_n dX_postings_8 rfl ?_
    refine zx_get dX_postings_9 flX_35 (by assumption) (by assumption) ?_
    refine zx_iload_n dX_postings_12 rfl ?_
    have hj6 : j < 6 := by unfold liveB at h5; simp at h5; omega
    obtain ⟨q1, q2⟩ := hSg.2 j hj6
    refine zn_aald dX_postings_13 hSg.1 rfl (by omega) (by decide) q1 ?_
    refine zc_V (kS_countPostings G (d - 1) (by omega) q2) (meS_countPostings _) lkX_150 q2.1.1 rfl rfl hD (Nat.le_of_ble_eq_true rfl) rfl rfl (Nat.le_of_ble_eq_true rfl) (Nat.le_of_ble_eq_true rfl) (Nat.le_of_ble_eq_true rfl) dX_postings_14 ?_
    refine zx_goto (tgt := 21) dX_postings_17 rfl ?_
    exact zx_iret hE rfl dX_postings_21 rfl (Nat.le_of_ble_eq_true rfl) ⟨by first | rw [if_pos h5] | rw [if_neg (by rw [h5]; decide)], rfl, rfl⟩

set_option maxHeartbeats 4000000 in
set_option maxRecDepth 100000 in
theorem kX_postingsN (G : zG) (d : Nat) (hd : 2 ≤ d) {n : Nat} {sh : zSh} {row : zRw} {x : Nat} {D : List Nat} {pf : PF} {sf : SF} {hf : HF} {c : CT} {qr : Nat} (hX : XA sh row x D pf sf hf c qr) {v : Int32} (hv : v < 0) : zM G (fX_postings d) [.ref x, .int v] n sh row (zP sh row (.int (-1))) := by
  refine zM.of (by show plainName "PostIndex" = true; decide +kernel) (Nat.le_of_ble_eq_true rfl) (by intro v hv; simp at hv; rcases hv with rfl | rfl <;> rfl) ?_
  intro K hE
  show zX G K (fX_postings d) n 0 0 sh row 0 [.ref x, .int v] []
  have hD : d - 1 + 1 ≤ d := by omega
  obtain ⟨hO, hD0, htk, hPs, hSg, hSe, hRd, hDj⟩ := id hX
  obtain ⟨ho, h_0, h_1, h_2, h_3, h_4, h_5, h_6, h_7, h_8, h_9, h_10, h_11⟩ := id hO
  refine zx_aload_n dX_postings_0 rfl ?_
  refine zx_iload_n dX_postings_1 rfl ?_
  refine zc_V (kX_isLiveN G (d - 1) (by omega) hX hv) (meX_isLive _) lkX_132 ho rfl rfl hD (Nat.le_of_ble_eq_true rfl) rfl rfl (Nat.le_of_ble_eq_true rfl) (Nat.le_of_ble_eq_true rfl) (Nat.le_of_ble_eq_true rfl) dX_postings_2 ?_
  refine zb_if_eq (tgt := 20) dX_postings_5 rfl (fun h5 => ?_) (fun h5 => ?_)
  · refine zx_iconst (v := -1) dX_postings_20 (by decide) ?_
    exact zx_iret hE rfl dX_postings_21 rfl (Nat.le_of_ble_eq_true rfl) ⟨rfl, rfl, rfl⟩
  · exact absurd h5 (by decide)

def formN (sf : SF) (c : CT) (j : Nat) : Int32 := if c.2.2.1 ≤ j then -1 else if liveB c.2.2.1 j = false then nI 4 else if fullB c.2.1 j = false then nI 0 else if (sf j).2.2 = true then nI 3 else if 0 < (sf j).2.1 then nI 2 else nI 1

set_option maxHeartbeats 4000000 in
set_option maxRecDepth 100000 in
theorem kX_form (G : zG) (d : Nat) (hd : 1 ≤ d) {n : Nat} {sh : zSh} {row : zRw} {x : Nat} {D : List Nat} {pf : PF} {sf : SF} {hf : HF} {c : CT} {qr : Nat} (hX : XA sh row x D pf sf hf c qr) {j : Nat} (hj : j < 2147483648) (hsb : c.2.2.1 ≤ 6) (hpb : c.2.1 ≤ 24) : zM G (fX_form d) [.ref x, .int (nI j)] n sh row (zP sh row (.int (formN sf c j))) := by
  refine zM.of (by show plainName "PostIndex" = true; decide +kernel) (Nat.le_of_ble_eq_true rfl) (by intro v hv; simp at hv; rcases hv with rfl | rfl <;> rfl) ?_
  intro K hE
  show zX G K (fX_form d) n 0 0 sh row 0 [.ref x, .int (nI j)] []
  have hD : d - 1 + 1 ≤ d := by omega
  obtain ⟨hO, hD0, htk, hPs, hSg, hSe, hRd, hDj⟩ := id hX
  obtain ⟨ho, h_0, h_1, h_2, h_3, h_4, h_5, h_6, h_7, h_8, h_9, h_10, h_11⟩ := id hO
  refine zx_iload_n dX_form_0 rfl ?_
  refine zn_if_lt (tgt := 12) dX_form_1 rfl (by omega) ?_
  refine zx_iload_n dX_form_4 rfl ?_
  refine zx_aload_n dX_form_5 rfl ?_
  refine zx_get dX_form_6 flX_129 (by assumption) (by assumption) ?_
  refine zn_icmp_lt (tgt := 14) dX_form_9 rfl (by omega) (by omega) (fun h9 => ?_) (fun h9 => ?_)
  · refine zx_aload_n dX_form_14 rfl ?_
    refine zx_iload_n dX_form_15 rfl ?_
    refine zc_V (kX_isLive G (d - 1) (by omega) hX hj hsb) (meX_isLive _) lkX_132 ho rfl rfl hD (Nat.le_of_ble_eq_true rfl) rfl rfl (Nat.le_of_ble_eq_true rfl) (Nat.le_of_ble_eq_true rfl) (Nat.le_of_ble_eq_true rfl) dX_form_16 ?_
    refine zb_if_ne (tgt := 24) dX_form_19 rfl (fun h19 => ?_) (fun h19 => ?_)
    · refine zx_aload_n dX_form_24 rfl ?_
      refine zx_iload_n dX_form_25 rfl ?_
      refine zc_V (kX_isFull G (d - 1) (by omega) hX (by omega) hpb) (meX_isFull _) lkX_135 ho rfl rfl hD (Nat.le_of_ble_eq_true rfl) rfl rfl (Nat.le_of_ble_eq_true rfl) (Nat.le_of_ble_eq_true rfl) (Nat.le_of_ble_eq_true rfl) dX_form_26 ?_
      refine zb_if_ne (tgt := 34) dX_form_29 rfl (fun h29 => ?_) (fun h29 => ?_)
      · refine zx_aload_n dX_form_34 rfl ?_
        refine zx_get dX_form_35 flX_35 (by assumption) (by assumption) ?_
        refine zx_iload_n dX_form_38 rfl ?_
        obtain ⟨q1, q2⟩ := hSg.2 j (by omega)
        obtain ⟨-, ⟨u0, u1, u2, u3, u4⟩, ⟨-, u6⟩, -⟩ := id q2
        refine zn_aald dX_form_39 hSg.1 rfl (by omega) (by decide) q1 ?_
        refine zx_getN dX_form_40 flX_138 q2.1.1 u4 ?_
        refine zb_if_eq (tgt := 48) dX_form_43 rfl (fun h43 => ?_) (fun h43 => ?_)
        · refine zx_aload_n dX_form_48 rfl ?_
          refine zx_get dX_form_49 flX_35 (by assumption) (by assumption) ?_
          refine zx_iload_n dX_form_52 rfl ?_
          refine zn_aald dX_form_53 hSg.1 rfl (by omega) (by decide) q1 ?_
          refine zx_getN dX_form_54 flX_141 q2.1.1 u3 ?_
          refine zn_if_le (tgt := 64) dX_form_57 rfl (by omega) (fun h57 => ?_) (fun h57 => ?_)
          · refine zx_iconst (v := nI 1) dX_form_64 (by decide) ?_
            exact zx_iret hE rfl dX_form_65 rfl (Nat.le_of_ble_eq_true rfl) ⟨by
      unfold formN
      first
      | rw [if_pos (by omega)]
      | (rw [if_neg (by omega), if_pos h19])
      | (rw [if_neg (by omega), if_neg (by rw [h19]; decide), if_pos h29])
      | (rw [if_neg (by omega), if_neg (by rw [h19]; decide), if_neg (by rw [h29]; decide), if_pos h43])
      | (rw [if_neg (by omega), if_neg (by rw [h19]; decide), if_neg (by rw [h29]; decide), if_neg (by rw [h43]; decide), if_pos (by omega)])
      | (rw [if_neg (by omega), if_neg (by rw [h19]; decide), if_neg (by rw [h29]; decide), if_neg (by rw [h43]; decide), if_neg (by omega)]), rfl, rfl⟩
          · refine zx_iconst (v := nI 2) dX_form_60 (by decide) ?_
            refine zx_goto (tgt := 65) dX_form_61 rfl ?_
            exact zx_iret hE rfl dX_form_65 rfl (Nat.le_of_ble_eq_true rfl) ⟨by
      unfold formN
      first
      | rw [if_pos (by omega)]
      | (rw [if_neg (by omega), if_pos h19])
      | (rw [if_neg (by omega), if_neg (by rw [h19]; decide), if_pos h29])
      | (rw [if_neg (by omega), if_neg (by rw [h19]; decide), if_neg (by rw [h29]; decide), if_pos h43])
      | (rw [if_neg (by omega), if_neg (by rw [h19]; decide), if_neg (by rw [h29]; decide), if_neg (by rw [h43]; decide), if_pos (by omega)])
      | (rw [if_neg (by omega), if_neg (by rw [h19]; decide), if_neg (by rw [h29]; decide), if_neg (by rw [h43]; decide), if_neg (by omega)]), rfl, rfl⟩
        · refine zx_iconst (v := nI 3) dX_form_46 (by decide) ?_
          exact zx_iret hE rfl dX_form_47 rfl (Nat.le_of_ble_eq_true rfl) ⟨by
      unfold formN
      first
      | rw [if_pos (by omega)]
      | (rw [if_neg (by omega), if_pos h19])
      | (rw [if_neg (by omega), if_neg (by rw [h19]; decide), if_pos h29])
      | (rw [if_neg (by omega), if_neg (by rw [h19]; decide), if_neg (by rw [h29]; decide), if_pos h43])
      | (rw [if_neg (by omega), if_neg (by rw [h19]; decide), if_neg (by rw [h29]; decide), if_neg (by rw [h43]; decide), if_pos (by omega)])
      | (rw [if_neg (by omega), if_neg (by rw [h19]; decide), if_neg (by rw [h29]; decide), if_neg (by rw [h43]; decide), if_neg (by omega)]), rfl, rfl⟩
      · refine zx_iconst (v := nI 0) dX_form_32 (by decide) ?_
        exact zx_iret hE rfl dX_form_33 rfl (Nat.le_of_ble_eq_true rfl) ⟨by
      unfold formN
      first
      | rw [if_pos (by omega)]
      | (rw [if_neg (by omega), if_pos h19])
      | (rw [if_neg (by omega), if_neg (by rw [h19]; decide), if_pos h29])
      | (rw [if_neg (by omega), if_neg (by rw [h19]; decide), if_neg (by rw [h29]; decide), if_pos h43])
      | (rw [if_neg (by omega), if_neg (by rw [h19]; decide), if_neg (by rw [h29]; decide), if_neg (by rw [h43]; decide), if_pos (by omega)])
      | (rw [if_neg (by omega), if_neg (by rw [h19]; decide), if_neg (by rw [h29]; decide), if_neg (by rw [h43]; decide), if_neg (by omega)]), rfl, rfl⟩
    · refine zx_iconst (v := nI 4) dX_form_22 (by decide) ?_
      exact zx_iret hE rfl dX_form_23 rfl (Nat.le_of_ble_eq_true rfl) ⟨by
      unfold formN
      first
      | rw [if_pos (by omega)]
      | (rw [if_neg (by omega), if_pos h19])
      | (rw [if_neg (by omega), if_neg (by rw [h19]; decide), if_pos h29])
      | (rw [if_neg (by omega), if_neg (by rw [h19]; decide), if_neg (by rw [h29]; decide), if_pos h43])
      | (rw [if_neg (by omega), if_neg (by rw [h19]; decide), if_neg (by rw [h29]; decide), if_neg (by rw [h43]; decide), if_pos (by omega)])
      | (rw [if_neg (by omega), if_neg (by rw [h19]; decide), if_neg (by rw [h29]; decide), if_neg (by rw [h43]; decide), if_neg (by omega)]), rfl, rfl⟩
  · refine zx_iconst (v := -1) dX_form_12 (by decide) ?_
    exact zx_iret hE rfl dX_form_13 rfl (Nat.le_of_ble_eq_true rfl) ⟨by
      unfold formN
      first
      | rw [if_pos (by omega)]
      | (rw [if_neg (by omega), if_pos h19])
      | (rw [if_neg (by omega), if_neg (by rw [h19]; decide), if_pos h29])
      | (rw [if_neg (by omega), if_neg (by rw [h19]; decide), if_neg (by rw [h29]; decide), if_pos h43])
      | (rw [if_neg (by omega), if_neg (by rw [h19]; decide), if_neg (by rw [h29]; decide), if_neg (by rw [h43]; decide), if_pos (by omega)])
      | (rw [if_neg (by omega), if_neg (by rw [h19]; decide), if_neg (by rw [h29]; decide), if_neg (by rw [h43]; decide), if_neg (by omega)]), rfl, rfl⟩

set_option maxHeartbeats 4000000 in
set_option maxRecDepth 100000 in
theorem kX_formN (G : zG) (d : Nat) (hd : 1 ≤ d) {n : Nat} {sh : zSh} {row : zRw} {x : Nat} {D : List Nat} {pf : PF} {sf : SF} {hf : HF} {c : CT} {qr : Nat} (hX : XA sh row x D pf sf hf c qr) {v : Int32} (hv : v < 0) : zM G (fX_form d) [.ref x, .int v] n sh row (zP sh row (.int (-1))) := by
  refine zM.of (by show plainName "PostIndex" = true; decide +kernel) (Nat.le_of_ble_eq_true rfl) (by intro v hv; simp at hv; rcases hv with rfl | rfl <;> rfl) ?_
  intro K hE
  show zX G K (fX_form d) n 0 0 sh row 0 [.ref x, .int v] []
  have hD : d - 1 + 1 ≤ d := by omega
  obtain ⟨hO, hD0, htk, hPs, hSg, hSe, hRd, hDj⟩ := id hX
  obtain ⟨ho, h_0, h_1, h_2, h_3, h_4, h_5, h_6, h_7, h_8, h_9, h_10, h_11⟩ := id hO
  refine zx_iload_n dX_form_0 rfl ?_
  refine zx_if_lt (tgt := 12) dX_form_1 rfl (fun h1 => ?_) (fun h1 => ?_)
  · refine zx_iconst (v := -1) dX_form_12 (by decide) ?_
    exact zx_iret hE rfl dX_form_13 rfl (Nat.le_of_ble_eq_true rfl) ⟨rfl, rfl, rfl⟩
  · exact absurd hv h1

theorem XA.seaU {sh : zSh} {row row' : zRw} {x j : Nat} {D : List Nat} {pf : PF} {sf : SF} {hf : HF} {c : CT} {qr : Nat} {ob : Bool} {bd : Nat} (h : XA sh row x D pf sf hf c qr) (hj : j < 3) (hr : frI (x + 706 + 30 * j) (x + 706 + 30 * j) row row') (h0 : row' (x + 706 + 30 * j) 0 = .ref (hf j).2.2.1) (h1 : row' (x + 706 + 30 * j) 1 = .int (nI bd)) (h2 : row' (x + 706 + 30 * j) 2 = .int (bI ob)) : XA sh row' x D pf sf (va_up hf j (ob, bd, (hf j).2.2)) c qr := by
  obtain ⟨hO, hD0, ⟨tk, htk⟩, hPs, hSg, hSe, hRd, hDj⟩ := h
  have hqr := hRd.2.rng
  have hval : ∀ i, (va_up hf j (ob, bd, (hf j).2.2) i).2.2 = (hf i).2.2 := by
    intro i; unfold va_up; split
    · next e => rw [e]
    · rfl
  refine ⟨hO.keep (hr x (by omega)), hD0.keepI hr (by omega), ⟨tk, htk.keepI hr (by omega)⟩, hPs.keep hr (by omega), hSg.keep hr (by omega), ⟨hSe.1, fun i hi => ?_⟩, ⟨hRd.1.keep hr (by omega) (by rcases hRd.2 with e | e | e | e <;> omega), hRd.2⟩, ⟨fun i hi => by rw [hval]; exact hDj.1 i hi, fun a b ha hb hab => by rw [hval, hval]; exact hDj.2 a b ha hb hab⟩⟩
  obtain ⟨a, b, e, f, g, q, k⟩ := hSe.2 i hi
  rw [hval]
  have hk : QryA sh row' (hf i).2.2.1 (hf i).2.2.2.1 (hf i).2.2.2.2 := k.keep hr (by rcases q with e | e | e | e <;> omega)
  by_cases hij : i = j
  · subst hij
    rw [show va_up hf i (ob, bd, (hf i).2.2) i = (ob, bd, (hf i).2.2) by unfold va_up; rw [if_pos rfl]]
    exact ⟨by rw [hr (x + 705) (by omega)]; exact a, b, h0, h1, h2, q, hk⟩
  · rw [show va_up hf j (ob, bd, (hf j).2.2) i = hf i by unfold va_up; rw [if_neg hij]]
    have e1 : row' (x + 706 + 30 * i) = row (x + 706 + 30 * i) := hr _ (by omega)
    exact ⟨by rw [hr (x + 705) (by omega)]; exact a, b, by rw [e1]; exact e, by rw [e1]; exact f, by rw [e1]; exact g, q, hk⟩

set_option maxHeartbeats 4000000 in
set_option maxRecDepth 100000 in
theorem kX_close (G : zG) (d : Nat) (hd : 1 ≤ d) {n : Nat} {sh : zSh} {row : zRw} {x : Nat} {D : List Nat} {pf : PF} {sf : SF} {hf : HF} {c : CT} {qr : Nat} (hX : XA sh row x D pf sf hf c qr) {j : Nat} (hj : j < 2147483648) : zM G (fX_close d) [.ref x, .int (nI j)] n sh row (zpR sh (fun v row' => v = .int (bI (opB hf j)) ∧ frI x (x + 795) row row' ∧ XA sh row' x D pf sf (if opB hf j = true then va_up hf j (false, (hf j).2.1, (hf j).2.2) else hf) c qr)) := by
  refine zM.of (by show plainName "PostIndex" = true; decide +kernel) (Nat.le_of_ble_eq_true rfl) (by intro v hv; simp at hv; rcases hv with rfl | rfl <;> rfl) ?_
  intro K hE
  show zX G K (fX_close d) n 0 0 sh row 0 [.ref x, .int (nI j)] []
  have hD : d - 1 + 1 ≤ d := by omega
  obtain ⟨hO, hD0, htk, hPs, hSg, hSe, hRd, hDj⟩ := id hX
  obtain ⟨ho, h_0, h_1, h_2, h_3, h_4, h_5, h_6, h_7, h_8, h_9, h_10, h_11⟩ := id hO
  refine zx_aload_n dX_close_0 rfl ?_
  refine zx_iload_n dX_close_1 rfl ?_
  refine zc_V (kX_isOpen G (d - 1) (by omega) hX hj) (meX_isOpen _) lkX_122 ho rfl rfl hD (Nat.le_of_ble_eq_true rfl) rfl rfl (Nat.le_of_ble_eq_true rfl) (Nat.le_of_ble_eq_true rfl) (Nat.le_of_ble_eq_true rfl) dX_close_2 ?_
  refine zb_if_ne (tgt := 10) dX_close_5 rfl (fun h5 => ?_) (fun h5 => ?_)
  · refine zx_aload_n dX_close_10 rfl ?_
    refine zx_get dX_close_11 flX_42 (by assumption) (by assumption) ?_
    refine zx_iload_n dX_close_14 rfl ?_
    have hj3 : j < 3 := by unfold opB at h5; simp at h5; omega
    obtain ⟨q1, q2, q3, q4, q5, q6, q7⟩ := hSe.2 j hj3
    refine zn_aald dX_close_15 hSe.1 rfl (by omega) (by decide) q1 ?_
    refine zx_iconst (v := nI 0) dX_close_16 (by decide) ?_
    refine zx_putN dX_close_17 flX_119 tpH_2 q2 rfl rfl ?_
    refine zx_iconst (v := nI 1) dX_close_20 (by decide) ?_
    exact zx_zret hE rfl (by first | decide | exact bI_nar _) dX_close_21 rfl (Nat.le_of_ble_eq_true rfl) (by first | exact ⟨_, rfl, rfl, by rw [h5]; rfl, frI_up (by omega) (by omega), by rw [if_pos h5]; exact hX.seaU hj3 (frI_up (by omega) (by omega)) (by rw [zup_k (Or.inr (by decide))]; exact q3) (by rw [zup_k (Or.inr (by decide))]; exact q4) (zup_same _ _ _)⟩ | exact ⟨_, rfl, rfl, by rw [h5]; rfl, frI.rf, by rw [if_neg (by rw [h5]; decide)]; exact hX⟩)
  · refine zx_iconst (v := nI 0) dX_close_8 (by decide) ?_
    exact zx_zret hE rfl (by first | decide | exact bI_nar _) dX_close_9 rfl (Nat.le_of_ble_eq_true rfl) (by first | exact ⟨_, rfl, rfl, by rw [h5]; rfl, frI_up (by omega) (by omega), by rw [if_pos h5]; exact hX.seaU hj3 (frI_up (by omega) (by omega)) (by rw [zup_k (Or.inr (by decide))]; exact q3) (by rw [zup_k (Or.inr (by decide))]; exact q4) (zup_same _ _ _)⟩ | exact ⟨_, rfl, rfl, by rw [h5]; rfl, frI.rf, by rw [if_neg (by rw [h5]; decide)]; exact hX⟩)

set_option maxHeartbeats 4000000 in
set_option maxRecDepth 100000 in
theorem kX_closeN (G : zG) (d : Nat) (hd : 1 ≤ d) {n : Nat} {sh : zSh} {row : zRw} {x : Nat} {D : List Nat} {pf : PF} {sf : SF} {hf : HF} {c : CT} {qr : Nat} (hX : XA sh row x D pf sf hf c qr) {v : Int32} (hv : v < 0) : zM G (fX_close d) [.ref x, .int v] n sh row (zP sh row (.int (bI false))) := by
  refine zM.of (by show plainName "PostIndex" = true; decide +kernel) (Nat.le_of_ble_eq_true rfl) (by intro v hv; simp at hv; rcases hv with rfl | rfl <;> rfl) ?_
  intro K hE
  show zX G K (fX_close d) n 0 0 sh row 0 [.ref x, .int v] []
  have hD : d - 1 + 1 ≤ d := by omega
  obtain ⟨hO, hD0, htk, hPs, hSg, hSe, hRd, hDj⟩ := id hX
  obtain ⟨ho, h_0, h_1, h_2, h_3, h_4, h_5, h_6, h_7, h_8, h_9, h_10, h_11⟩ := id hO
  refine zx_aload_n dX_close_0 rfl ?_
  refine zx_iload_n dX_close_1 rfl ?_
  refine zc_V (kX_isOpenN G (d - 1) (by omega) hX hv) (meX_isOpen _) lkX_122 ho rfl rfl hD (Nat.le_of_ble_eq_true rfl) rfl rfl (Nat.le_of_ble_eq_true rfl) (Nat.le_of_ble_eq_true rfl) (Nat.le_of_ble_eq_true rfl) dX_close_2 ?_
  refine zb_if_ne (tgt := 10) dX_close_5 rfl (fun h5 => ?_) (fun h5 => ?_)
  · exact absurd h5 (by decide)
  · refine zx_iconst (v := nI 0) dX_close_8 (by decide) ?_
    exact zx_zret hE rfl (by first | decide | exact bI_nar _) dX_close_9 rfl (Nat.le_of_ble_eq_true rfl) ⟨rfl, rfl, rfl⟩

set_option maxHeartbeats 4000000 in
set_option maxRecDepth 100000 in
theorem kX_nextN (G : zG) (d : Nat) (hd : 1 ≤ d) {n : Nat} {sh : zSh} {row : zRw} {x : Nat} {D : List Nat} {pf : PF} {sf : SF} {hf : HF} {c : CT} {qr : Nat} (hX : XA sh row x D pf sf hf c qr) {v : Int32} (hv : v < 0) : zM G (fX_next d) [.ref x, .int v] n sh row (zP sh row (.int (-1))) := by
  refine zM.of (by show plainName "PostIndex" = true; decide +kernel) (Nat.le_of_ble_eq_true rfl) (by intro v hv; simp at hv; rcases hv with rfl | rfl <;> rfl) ?_
  intro K hE
  show zX G K (fX_next d) n 0 0 sh row 0 [.ref x, .int v, .retAddr 0, .retAddr 0] []
  have hD : d - 1 + 1 ≤ d := by omega
  obtain ⟨hO, hD0, htk, hPs, hSg, hSe, hRd, hDj⟩ := id hX
  obtain ⟨ho, h_0, h_1, h_2, h_3, h_4, h_5, h_6, h_7, h_8, h_9, h_10, h_11⟩ := id hO
  refine zx_aload_n dX_next_0 rfl ?_
  refine zx_iload_n dX_next_1 rfl ?_
  refine zc_V (kX_isOpenN G (d - 1) (by omega) hX hv) (meX_isOpen _) lkX_122 ho rfl rfl hD (Nat.le_of_ble_eq_true rfl) rfl rfl (Nat.le_of_ble_eq_true rfl) (Nat.le_of_ble_eq_true rfl) (Nat.le_of_ble_eq_true rfl) dX_next_2 ?_
  refine zb_if_ne (tgt := 10) dX_next_5 rfl (fun h5 => ?_) (fun h5 => ?_)
  · exact absurd h5 (by decide)
  · refine zx_iconst (v := -1) dX_next_8 (by decide) ?_
    exact zx_iret hE rfl dX_next_9 rfl (Nat.le_of_ble_eq_true rfl) ⟨rfl, rfl, rfl⟩

set_option maxHeartbeats 4000000 in
set_option maxRecDepth 100000 in
theorem kX_leftN (G : zG) (d : Nat) (hd : 1 ≤ d) {n : Nat} {sh : zSh} {row : zRw} {x : Nat} {D : List Nat} {pf : PF} {sf : SF} {hf : HF} {c : CT} {qr : Nat} (hX : XA sh row x D pf sf hf c qr) {v : Int32} (hv : v < 0) : zM G (fX_left d) [.ref x, .int v] n sh row (zP sh row (.int (-1))) := by
  refine zM.of (by show plainName "PostIndex" = true; decide +kernel) (Nat.le_of_ble_eq_true rfl) (by intro v hv; simp at hv; rcases hv with rfl | rfl <;> rfl) ?_
  intro K hE
  show zX G K (fX_left d) n 0 0 sh row 0 [.ref x, .int v, .retAddr 0, .retAddr 0, .retAddr 0] []
  have hD : d - 1 + 1 ≤ d := by omega
  obtain ⟨hO, hD0, htk, hPs, hSg, hSe, hRd, hDj⟩ := id hX
  obtain ⟨ho, h_0, h_1, h_2, h_3, h_4, h_5, h_6, h_7, h_8, h_9, h_10, h_11⟩ := id hO
  refine zx_aload_n dX_left_0 rfl ?_
  refine zx_iload_n dX_left_1 rfl ?_
  refine zc_V (kX_isOpenN G (d - 1) (by omega) hX hv) (meX_isOpen _) lkX_122 ho rfl rfl hD (Nat.le_of_ble_eq_true rfl) rfl rfl (Nat.le_of_ble_eq_true rfl) (Nat.le_of_ble_eq_true rfl) (Nat.le_of_ble_eq_true rfl) dX_left_2 ?_
  refine zb_if_ne (tgt := 10) dX_left_5 rfl (fun h5 => ?_) (fun h5 => ?_)
  · exact absurd h5 (by decide)
  · refine zx_iconst (v := -1) dX_left_8 (by decide) ?_
    exact zx_iret hE rfl dX_left_9 rfl (Nat.le_of_ble_eq_true rfl) ⟨rfl, rfl, rfl⟩

