theorem slc_le {m : Nat} (h : m ≤ 32) : slc m ≤ 40 := by unfold slc; split <;> omega
theorem mesM_le {B : Nat × Nat × Nat × Nat} {P : mP} {T : mT} {g t w : Nat} : mesM B P T g t w ≤ 100 := by
  unfold mesM
  have h1 := cnt_le (fun v => pstB B P T (4 * g + v / 8) (v % 8) t) 32
  have h2 := pcs_le (fun v => pstB B P T (4 * g + v / 8) (v % 8) t) 32 32
  have h3 := slc_le h1
  split
  · omega
  · split <;> omega
theorem sumP_le {B : Nat × Nat × Nat × Nat} {P : mP} {T : mT} {g w p i : Nat} : sumP B P T g w p i ≤ 100 * i := by
  induction i with
  | zero => exact Nat.le_refl _
  | succ i ih =>
    have := @mesM_le B P T g (12 * p + i) w
    show sumP B P T g w p i + (if fstM B P T p i = true then (if w = 3 then 1 else mesM B P T g (12 * p + i) w) else 0) ≤ _
    split
    · split <;> omega
    · omega
theorem sumM_le {B : Nat × Nat × Nat × Nat} {P : mP} {T : mT} {g w d : Nat} (hO : MOk P T) (hg : g < 6) (hd : d ≤ 4) (hdn : B.2.2.1 ≤ 12) : sumM B P T g w d ≤ 1200 * d := by
  induction d with
  | zero => exact Nat.le_refl _
  | succ d ih =>
    have h1 := @sumP_le B P T g w (4 * g + d) (idxN B T.1 (4 * g + d))
    have h2 := idxN_le (B := B) (j := 4 * g + d) hO (by omega) hdn
    have h3 := ih (by omega)
    show sumM B P T g w d + sumP B P T g w (4 * g + d) (idxN B T.1 (4 * g + d)) ≤ _
    omega

set_option maxHeartbeats 4000000 in
set_option maxRecDepth 100000 in
theorem kM_sum (G : zG) (d : Nat) (hd : 4 ≤ d) {n : Nat} {sh : zSh} {row : zRw} {m : Nat} {A : Nat × (Nat → Nat)} {B : Nat × Nat × Nat × Nat} {P : (Nat → Int32) × (Nat → Int32) × (Nat → Bool) × (Nat → Nat) × (Nat → Nat)} {T : (Nat → Nat) × (Nat → Nat) × (Nat → Nat)} {S : (Nat → Nat) × (Nat → Bool)} {H : (Nat → Bool) × (Nat → Nat) × (Nat → Nat) × (Nat → Nat)} (hM : MA sh row m A B P T S H) (hO : MOk P T) {g w : Nat} (hg : g < 6) (hw : w < 4) (hmd : B.1 ≤ 24) (hpb : B.2.1 ≤ 24) (hdn : B.2.2.1 ≤ 12) : zM G (fM_sum d) [.ref m, .int (nI g), .int (nI w)] n sh row (zP sh row (.int (nI (sumM B P T g w 4)))) := by
  refine zM.of (by show plainName "PostIndexModel" = true; decide +kernel) (Nat.le_of_ble_eq_true rfl) (by intro v hv; simp at hv; rcases hv with rfl | rfl | rfl <;> rfl) ?_
  intro K hE
  show zX G K (fM_sum d) n 0 0 sh row 0 [.ref m, .int (nI g), .int (nI w), .retAddr 0, .retAddr 0, .retAddr 0, .retAddr 0] []
  have hD : d - 1 + 1 ≤ d := by omega
  obtain ⟨⟨go, g_dr, g_au, g_ti, g_er, g_ln, g_tx, g_tk, g_fr, g_to, g_rw, g_pk, g_tn, g_bd, g_ql, g_qy, g_any, g_all, g_pa, g_mi, g_wf, g_wt⟩, ⟨p_dr, p_au, p_ti, p_er, p_ln, p_tx, p_tk, p_fr, p_to, p_rw, p_pk, p_tn, p_bd, p_ql, p_qy, p_any, p_all, p_pa, p_mi, p_wf, p_wt⟩, ⟨f_dl, f_md, f_pb, f_dn, f_sn⟩, a_dr, a_au, a_ti, a_er, a_ln, a_tx, a_tk, a_fr, a_to, a_rw, a_pk, a_tn, a_bd, a_ql, a_qy⟩ := id hM
  have loop : ∀ (k e a : Nat) (v5 v6 : Value), v5.category = 1 → v6.category = 1 → 4 - e < k → e ≤ 4 → a = sumM B P T g w e → zX G K (fM_sum d) n 0 0 sh row 7 [.ref m, .int (nI g), .int (nI w), .int (nI a), .int (nI (4 * g + e)), v5, v6] [] := by
    intro k
    induction k with
    | zero => intro e a v5 v6 _ _ hk; exact absurd hk (Nat.not_lt_zero _)
    | succ k ih =>
      intro e a v5 v6 hv5 hv6 hk h3 h4
      refine zx_iload dM_sum_7 rfl ?_
      refine zx_iconst (v := nI 4) dM_sum_9 (by decide) ?_
      refine zx_iload_n dM_sum_10 rfl ?_
      refine zn_imul dM_sum_11 ?_
      refine zx_iconst (v := nI 4) dM_sum_12 (by decide) ?_
      refine zn_iadd dM_sum_13 ?_
      refine zn_icmp_ge (tgt := 84) dM_sum_14 rfl (by omega) (by omega) (fun h14 => ?_) (fun h14 => ?_)
      · refine zx_iload_n dM_sum_84 rfl ?_
        exact zx_iret hE rfl dM_sum_85 rfl (Nat.le_of_ble_eq_true rfl) ⟨by rw [h4, show e = 4 by omega], rfl, rfl⟩
      · refine zx_aload_n dM_sum_17 rfl ?_
        refine zx_iload dM_sum_18 rfl ?_
        refine zc_V (n0 := n) (ce := 0) (kM_indexed G (d - 1) (by omega) hM (by omega) hmd hpb (by omega)) (meM_indexed _) lkM_111 go rfl rfl hD (Nat.le_of_ble_eq_true rfl) rfl rfl (Nat.le_of_ble_eq_true rfl) (Nat.le_of_ble_eq_true rfl) (Nat.le_of_ble_eq_true rfl) dM_sum_20 ?_
        have hil := idxN_le (B := B) (j := 4 * g + e) hO (by omega) hdn
        have inner : ∀ (k2 a i : Nat), idxN B T.1 (4 * g + e) - i < k2 → i ≤ idxN B T.1 (4 * g + e) → a = sumM B P T g w e + sumP B P T g w (4 * g + e) i → zX G K (fM_sum d) n 0 0 sh row 28 [.ref m, .int (nI g), .int (nI w), .int (nI a), .int (nI (4 * g + e)), .int (nI (idxN B T.1 (4 * g + e))), .int (nI i)] [] := by
          intro k2
          induction k2 with
          | zero => intro a i hk; exact absurd hk (Nat.not_lt_zero _)
          | succ k2 ihj =>
            intro a i hk2 k3 k4
            have hsl := @sumP_le B P T g w (4 * g + e) i
            have hml2 := sumM_le (w := w) (d := e) hO hg (by omega) hdn
            refine zx_iload dM_sum_28 rfl ?_
            refine zx_iload dM_sum_30 rfl ?_
            refine zn_icmp_ge (tgt := 78) dM_sum_32 rfl (by omega) (by omega) (fun h32 => ?_) (fun h32 => ?_)
            · have hie : i = idxN B T.1 (4 * g + e) := by omega
              refine zn_iinc (c := 1) dM_sum_78 (Nat.le_of_ble_eq_true rfl) rfl rfl ?_
              refine zx_goto (tgt := 7) dM_sum_81 rfl ?_
              exact ih (e + 1) _ _ _ rfl rfl (by omega) (by omega) (by rw [k4, hie]; rfl)
            · refine zx_aload_n dM_sum_35 rfl ?_
              refine zx_iload dM_sum_36 rfl ?_
              refine zx_iload dM_sum_38 rfl ?_
              refine zc_V (n0 := n) (ce := 0) (kM_isFirst G (d - 1) (by omega) hM hO (p := 4 * g + e) (i := i) (by omega) (by omega) hmd hpb hdn) (meM_isFirst _) lkM_122 go rfl rfl hD (Nat.le_of_ble_eq_true rfl) rfl rfl (Nat.le_of_ble_eq_true rfl) (Nat.le_of_ble_eq_true rfl) (Nat.le_of_ble_eq_true rfl) dM_sum_40 ?_
              refine zb_if_eq (tgt := 72) dM_sum_43 rfl (fun h43 => ?_) (fun h43 => ?_)
              · refine zn_iinc (c := 1) dM_sum_72 (Nat.le_of_ble_eq_true rfl) rfl rfl ?_
                refine zx_goto (tgt := 28) dM_sum_75 rfl ?_
                have hml := @mesM_le B P T g (12 * (4 * g + e) + i) w
                refine ihj _ (i + 1) (by omega) (by omega) ?_
                show _ = sumM B P T g w e + (sumP B P T g w (4 * g + e) i + (if fstM B P T (4 * g + e) i = true then (if w = 3 then 1 else mesM B P T g (12 * (4 * g + e) + i) w) else 0))
                first
                | (rw [if_pos h43, if_pos (by omega)]; omega)
                | (rw [if_pos h43, if_neg (by omega)]; omega)
                | (rw [if_neg (by rw [h43]; decide)]; omega)
              · refine zx_iload_n dM_sum_46 rfl ?_
                refine zx_iload_n dM_sum_47 rfl ?_
                refine zx_iconst (v := nI 3) dM_sum_48 (by decide) ?_
                refine zn_icmp_ne (tgt := 56) dM_sum_49 rfl (by omega) (by omega) (fun h49 => ?_) (fun h49 => ?_)
                · refine zx_aload_n dM_sum_56 rfl ?_
                  refine zx_iload_n dM_sum_57 rfl ?_
                  refine zx_bipush (v := nI 12) dM_sum_58 (by decide) ?_
                  refine zx_iload dM_sum_60 rfl ?_
                  refine zn_imul dM_sum_62 ?_
                  refine zx_iload dM_sum_63 rfl ?_
                  refine zn_iadd dM_sum_65 ?_
                  refine zx_iload_n dM_sum_66 rfl ?_
                  refine zc_V (n0 := n) (ce := 0) (kM_measure G (d - 1) (by omega) hM hO hg (t := 12 * (4 * g + e) + i) (w := w) (by omega) (by omega) hmd hpb hdn) (meM_measure _) lkM_125 go rfl rfl hD (Nat.le_of_ble_eq_true rfl) rfl rfl (Nat.le_of_ble_eq_true rfl) (Nat.le_of_ble_eq_true rfl) (Nat.le_of_ble_eq_true rfl) dM_sum_67 ?_
                  refine zn_iadd dM_sum_70 ?_
                  refine zx_istore_n dM_sum_71 (Nat.le_of_ble_eq_true rfl) rfl rfl ?_
                  refine zn_iinc (c := 1) dM_sum_72 (Nat.le_of_ble_eq_true rfl) rfl rfl ?_
                  refine zx_goto (tgt := 28) dM_sum_75 rfl ?_
                  have hml := @mesM_le B P T g (12 * (4 * g + e) + i) w
                  refine ihj _ (i + 1) (by omega) (by omega) ?_
                  show _ = sumM B P T g w e + (sumP B P T g w (4 * g + e) i + (if fstM B P T (4 * g + e) i = true then (if w = 3 then 1 else mesM B P T g (12 * (4 * g + e) + i) w) else 0))
                  first
                  | (rw [if_pos h43, if_pos (by omega)]; omega)
                  | (rw [if_pos h43, if_neg (by omega)]; omega)
                  | (rw [if_neg (by rw [h43]; decide)]; omega)
                · refine zx_iconst (v := nI 1) dM_sum_52 (by decide) ?_
                  refine zx_goto (tgt := 70) dM_sum_53 rfl ?_
                  refine zn_iadd dM_sum_70 ?_
                  refine zx_istore_n dM_sum_71 (Nat.le_of_ble_eq_true rfl) rfl rfl ?_
                  refine zn_iinc (c := 1) dM_sum_72 (Nat.le_of_ble_eq_true rfl) rfl rfl ?_
                  refine zx_goto (tgt := 28) dM_sum_75 rfl ?_
                  have hml := @mesM_le B P T g (12 * (4 * g + e) + i) w
                  refine ihj _ (i + 1) (by omega) (by omega) ?_
                  show _ = sumM B P T g w e + (sumP B P T g w (4 * g + e) i + (if fstM B P T (4 * g + e) i = true then (if w = 3 then 1 else mesM B P T g (12 * (4 * g + e) + i) w) else 0))
                  first
                  | (rw [if_pos h43, if_pos (by omega)]; omega)
                  | (rw [if_pos h43, if_neg (by omega)]; omega)
                  | (rw [if_neg (by rw [h43]; decide)]; omega)
        refine zx_istore dM_sum_23 (Nat.le_of_ble_eq_true rfl) (by simp only [List.all_cons, List.all_nil, hv5, hv6]; rfl) rfl ?_
        refine zx_iconst (v := nI 0) dM_sum_25 (by decide) ?_
        refine zx_istore dM_sum_26 (Nat.le_of_ble_eq_true rfl) (by simp only [List.set, List.all_cons, List.all_nil, hv6]; rfl) rfl ?_
        exact inner _ a 0 (Nat.lt_succ_self _) (Nat.zero_le _) (by rw [h4]; rfl)
  refine zx_iconst (v := nI 0) dM_sum_0 (by decide) ?_
  refine zx_istore_n dM_sum_1 (Nat.le_of_ble_eq_true rfl) rfl rfl ?_
  refine zx_iconst (v := nI 4) dM_sum_2 (by decide) ?_
  refine zx_iload_n dM_sum_3 rfl ?_
  refine zn_imul dM_sum_4 ?_
  refine zx_istore dM_sum_5 (Nat.le_of_ble_eq_true rfl) rfl rfl ?_
  exact loop _ 0 0 _ _ rfl rfl (Nat.lt_succ_self _) (Nat.zero_le _) rfl

set_option maxHeartbeats 4000000 in
set_option maxRecDepth 100000 in
theorem kM_terms (G : zG) (d : Nat) (hd : 5 ≤ d) {n : Nat} {sh : zSh} {row : zRw} {m : Nat} {A : Nat × (Nat → Nat)} {B : Nat × Nat × Nat × Nat} {P : (Nat → Int32) × (Nat → Int32) × (Nat → Bool) × (Nat → Nat) × (Nat → Nat)} {T : (Nat → Nat) × (Nat → Nat) × (Nat → Nat)} {S : (Nat → Nat) × (Nat → Bool)} {H : (Nat → Bool) × (Nat → Nat) × (Nat → Nat) × (Nat → Nat)} (hM : MA sh row m A B P T S H) (hO : MOk P T) {j : Nat} (hj : j < 2147483648) (hmd : B.1 ≤ 24) (hpb : B.2.1 ≤ 24) (hdn : B.2.2.1 ≤ 12) : zM G (fM_terms d) [.ref m, .int (nI j)] n sh row (zP sh row (.int (if (decide (j ≤ 5) && livM B j) = true then nI (sumM B P T j 3 4) else -1))) := by
  refine zM.of (by show plainName "PostIndexModel" = true; decide +kernel) (Nat.le_of_ble_eq_true rfl) (by intro v hv; simp at hv; rcases hv with rfl | rfl <;> rfl) ?_
  intro K hE
  show zX G K (fM_terms d) n 0 0 sh row 0 [.ref m, .int (nI j)] []
  have hD : d - 1 + 1 ≤ d := by omega
  obtain ⟨⟨go, g_dr, g_au, g_ti, g_er, g_ln, g_tx, g_tk, g_fr, g_to, g_rw, g_pk, g_tn, g_bd, g_ql, g_qy, g_any, g_all, g_pa, g_mi, g_wf, g_wt⟩, ⟨p_dr, p_au, p_ti, p_er, p_ln, p_tx, p_tk, p_fr, p_to, p_rw, p_pk, p_tn, p_bd, p_ql, p_qy, p_any, p_all, p_pa, p_mi, p_wf, p_wt⟩, ⟨f_dl, f_md, f_pb, f_dn, f_sn⟩, a_dr, a_au, a_ti, a_er, a_ln, a_tx, a_tk, a_fr, a_to, a_rw, a_pk, a_tn, a_bd, a_ql, a_qy⟩ := id hM
  refine zx_aload_n dM_terms_0 rfl ?_
  refine zx_iload_n dM_terms_1 rfl ?_
  refine zc_V (n0 := n) (ce := 0) (kM_lives G (d - 1) (by omega) hM hj hmd hpb (by omega)) (meM_lives _) lkM_192 go rfl rfl hD (Nat.le_of_ble_eq_true rfl) rfl rfl (Nat.le_of_ble_eq_true rfl) (Nat.le_of_ble_eq_true rfl) (Nat.le_of_ble_eq_true rfl) dM_terms_2 ?_
  refine zb_if_ne (tgt := 12) dM_terms_5 rfl (fun h5 => ?_) (fun h5 => ?_)
  · refine zx_aload_n dM_terms_12 rfl ?_
    refine zx_iload_n dM_terms_13 rfl ?_
    refine zx_iconst (v := nI 3) dM_terms_14 (by decide) ?_
    have hj6 : j < 6 := by simp at h5; omega
    refine zc_V (n0 := n) (ce := 0) (kM_sum G (d - 1) (by omega) hM hO hj6 (w := 3) (by omega) hmd hpb hdn) (meM_sum _) lkM_132 go rfl rfl hD (Nat.le_of_ble_eq_true rfl) rfl rfl (Nat.le_of_ble_eq_true rfl) (Nat.le_of_ble_eq_true rfl) (Nat.le_of_ble_eq_true rfl) dM_terms_15 ?_
    exact zx_iret hE rfl dM_terms_18 rfl (Nat.le_of_ble_eq_true rfl) ⟨by first | rw [if_pos h5] | rw [if_neg (by rw [h5]; decide)], rfl, rfl⟩
  · refine zx_iconst (v := -1) dM_terms_8 (by decide) ?_
    refine zx_goto (tgt := 18) dM_terms_9 rfl ?_
    exact zx_iret hE rfl dM_terms_18 rfl (Nat.le_of_ble_eq_true rfl) ⟨by first | rw [if_pos h5] | rw [if_neg (by rw [h5]; decide)], rfl, rfl⟩

set_option maxHeartbeats 4000000 in
set_option maxRecDepth 100000 in
theorem kM_postings (G : zG) (d : Nat) (hd : 5 ≤ d) {n : Nat} {sh : zSh} {row : zRw} {m : Nat} {A : Nat × (Nat → Nat)} {B : Nat × Nat × Nat × Nat} {P : (Nat → Int32) × (Nat → Int32) × (Nat → Bool) × (Nat → Nat) × (Nat → Nat)} {T : (Nat → Nat) × (Nat → Nat) × (Nat → Nat)} {S : (Nat → Nat) × (Nat → Bool)} {H : (Nat → Bool) × (Nat → Nat) × (Nat → Nat) × (Nat → Nat)} (hM : MA sh row m A B P T S H) (hO : MOk P T) {j : Nat} (hj : j < 2147483648) (hmd : B.1 ≤ 24) (hpb : B.2.1 ≤ 24) (hdn : B.2.2.1 ≤ 12) : zM G (fM_postings d) [.ref m, .int (nI j)] n sh row (zP sh row (.int (if (decide (j ≤ 5) && livM B j) = true then nI (sumM B P T j 0 4) else -1))) := by
  refine zM.of (by show plainName "PostIndexModel" = true; decide +kernel) (Nat.le_of_ble_eq_true rfl) (by intro v hv; simp at hv; rcases hv with rfl | rfl <;> rfl) ?_
  intro K hE
  show zX G K (fM_postings d) n 0 0 sh row 0 [.ref m, .int (nI j)] []
  have hD : d - 1 + 1 ≤ d := by omega
  obtain ⟨⟨go, g_dr, g_au, g_ti, g_er, g_ln, g_tx, g_tk, g_fr, g_to, g_rw, g_pk, g_tn, g_bd, g_ql, g_qy, g_any, g_all, g_pa, g_mi, g_wf, g_wt⟩, ⟨p_dr, p_au, p_ti, p_er, p_ln, p_tx, p_tk, p_fr, p_to, p_rw, p_pk, p_tn, p_bd, p_ql, p_qy, p_any, p_all, p_pa, p_mi, p_wf, p_wt⟩, ⟨f_dl, f_md, f_pb, f_dn, f_sn⟩, a_dr, a_au, a_ti, a_er, a_ln, a_tx, a_tk, a_fr, a_to, a_rw, a_pk, a_tn, a_bd, a_ql, a_qy⟩ := id hM
  refine zx_aload_n dM_postings_0 rfl ?_
  refine zx_iload_n dM_postings_1 rfl ?_
  refine zc_V (n0 := n) (ce := 0) (kM_lives G (d - 1) (by omega) hM hj hmd hpb (by omega)) (meM_lives _) lkM_192 go rfl rfl hD (Nat.le_of_ble_eq_true rfl) rfl rfl (Nat.le_of_ble_eq_true rfl) (Nat.le_of_ble_eq_true rfl) (Nat.le_of_ble_eq_true rfl) dM_postings_2 ?_
  refine zb_if_ne (tgt := 12) dM_postings_5 rfl (fun h5 => ?_) (fun h5 => ?_)
  · refine zx_aload_n dM_postings_12 rfl ?_
    refine zx_iload_n dM_postings_13 rfl ?_
    refine zx_iconst (v := nI 0) dM_postings_14 (by decide) ?_
    have hj6 : j < 6 := by simp at h5; omega
    refine zc_V (n0 := n) (ce := 0) (kM_sum G (d - 1) (by omega) hM hO hj6 (w := 0) (by omega) hmd hpb hdn) (meM_sum _) lkM_132 go rfl rfl hD (Nat.le_of_ble_eq_true rfl) rfl rfl (Nat.le_of_ble_eq_true rfl) (Nat.le_of_ble_eq_true rfl) (Nat.le_of_ble_eq_true rfl) dM_postings_15 ?_
    exact zx_iret hE rfl dM_postings_18 rfl (Nat.le_of_ble_eq_true rfl) ⟨by first | rw [if_pos h5] | rw [if_neg (by rw [h5]; decide)], rfl, rfl⟩
  · refine zx_iconst (v := -1) dM_postings_8 (by decide) ?_
    refine zx_goto (tgt := 18) dM_postings_9 rfl ?_
    exact zx_iret hE rfl dM_postings_18 rfl (Nat.le_of_ble_eq_true rfl) ⟨by first | rw [if_pos h5] | rw [if_neg (by rw [h5]; decide)], rfl, rfl⟩

set_option maxHeartbeats 4000000 in
set_option maxRecDepth 100000 in
theorem kM_size (G : zG) (d : Nat) (hd : 5 ≤ d) {n : Nat} {sh : zSh} {row : zRw} {m : Nat} {A : Nat × (Nat → Nat)} {B : Nat × Nat × Nat × Nat} {P : (Nat → Int32) × (Nat → Int32) × (Nat → Bool) × (Nat → Nat) × (Nat → Nat)} {T : (Nat → Nat) × (Nat → Nat) × (Nat → Nat)} {S : (Nat → Nat) × (Nat → Bool)} {H : (Nat → Bool) × (Nat → Nat) × (Nat → Nat) × (Nat → Nat)} (hM : MA sh row m A B P T S H) (hO : MOk P T) {j : Nat} (hj : j < 2147483648) (hmd : B.1 ≤ 24) (hpb : B.2.1 ≤ 24) (hdn : B.2.2.1 ≤ 12) : zM G (fM_size d) [.ref m, .int (nI j)] n sh row (zP sh row (.int (if (decide (j ≤ 5) && livM B j) = true then nI (sumM B P T j (if S.2 j = true then 2 else 1) 4) else -1))) := by
  refine zM.of (by show plainName "PostIndexModel" = true; decide +kernel) (Nat.le_of_ble_eq_true rfl) (by intro v hv; simp at hv; rcases hv with rfl | rfl <;> rfl) ?_
  intro K hE
  show zX G K (fM_size d) n 0 0 sh row 0 [.ref m, .int (nI j)] []
  have hD : d - 1 + 1 ≤ d := by omega
  obtain ⟨⟨go, g_dr, g_au, g_ti, g_er, g_ln, g_tx, g_tk, g_fr, g_to, g_rw, g_pk, g_tn, g_bd, g_ql, g_qy, g_any, g_all, g_pa, g_mi, g_wf, g_wt⟩, ⟨p_dr, p_au, p_ti, p_er, p_ln, p_tx, p_tk, p_fr, p_to, p_rw, p_pk, p_tn, p_bd, p_ql, p_qy, p_any, p_all, p_pa, p_mi, p_wf, p_wt⟩, ⟨f_dl, f_md, f_pb, f_dn, f_sn⟩, a_dr, a_au, a_ti, a_er, a_ln, a_tx, a_tk, a_fr, a_to, a_rw, a_pk, a_tn, a_bd, a_ql, a_qy⟩ := id hM
  refine zx_aload_n dM_size_0 rfl ?_
  refine zx_iload_n dM_size_1 rfl ?_
  refine zc_V (n0 := n) (ce := 0) (kM_lives G (d - 1) (by omega) hM hj hmd hpb (by omega)) (meM_lives _) lkM_192 go rfl rfl hD (Nat.le_of_ble_eq_true rfl) rfl rfl (Nat.le_of_ble_eq_true rfl) (Nat.le_of_ble_eq_true rfl) (Nat.le_of_ble_eq_true rfl) dM_size_2 ?_
  refine zb_if_ne (tgt := 12) dM_size_5 rfl (fun h5 => ?_) (fun h5 => ?_)
  · refine zx_aload_n dM_size_12 rfl ?_
    refine zx_iload_n dM_size_13 rfl ?_
    refine zx_aload_n dM_size_14 rfl ?_
    refine zx_get dM_size_15 flM_41 (by assumption) (by assumption) ?_
    refine zx_iload_n dM_size_18 rfl ?_
    have hj6 : j < 6 := by simp at h5; omega
    refine zn_zald dM_size_19 g_pk rfl (by omega) (by decide) (a_pk j (by omega)) ?_
    refine zb_if_eq (tgt := 27) dM_size_20 rfl (fun h20 => ?_) (fun h20 => ?_)
    · refine zx_iconst (v := nI 1) dM_size_27 (by decide) ?_
      first | refine zc_V (n0 := n) (ce := 0) (kM_sum G (d - 1) (by omega) hM hO hj6 (w := 2) (by omega) hmd hpb hdn) (meM_sum _) lkM_132 go rfl rfl hD (Nat.le_of_ble_eq_true rfl) rfl rfl (Nat.le_of_ble_eq_true rfl) (Nat.le_of_ble_eq_true rfl) (Nat.le_of_ble_eq_true rfl) dM_size_28 ?_ | refine zc_V (n0 := n) (ce := 0) (kM_sum G (d - 1) (by omega) hM hO hj6 (w := 1) (by omega) hmd hpb hdn) (meM_sum _) lkM_132 go rfl rfl hD (Nat.le_of_ble_eq_true rfl) rfl rfl (Nat.le_of_ble_eq_true rfl) (Nat.le_of_ble_eq_true rfl) (Nat.le_of_ble_eq_true rfl) dM_size_28 ?_
      exact zx_iret hE rfl dM_size_31 rfl (Nat.le_of_ble_eq_true rfl) ⟨by first | (rw [if_pos h5]; first | rw [if_pos h20] | rw [if_neg (by rw [h20]; decide)]) | rw [if_neg (by rw [h5]; decide)], rfl, rfl⟩
    · refine zx_iconst (v := nI 2) dM_size_23 (by decide) ?_
      refine zx_goto (tgt := 28) dM_size_24 rfl ?_
      first | refine zc_V (n0 := n) (ce := 0) (kM_sum G (d - 1) (by omega) hM hO hj6 (w := 2) (by omega) hmd hpb hdn) (meM_sum _) lkM_132 go rfl rfl hD (Nat.le_of_ble_eq_true rfl) rfl rfl (Nat.le_of_ble_eq_true rfl) (Nat.le_of_ble_eq_true rfl) (Nat.le_of_ble_eq_true rfl) dM_size_28 ?_ | refine zc_V (n0 := n) (ce := 0) (kM_sum G (d - 1) (by omega) hM hO hj6 (w := 1) (by omega) hmd hpb hdn) (meM_sum _) lkM_132 go rfl rfl hD (Nat.le_of_ble_eq_true rfl) rfl rfl (Nat.le_of_ble_eq_true rfl) (Nat.le_of_ble_eq_true rfl) (Nat.le_of_ble_eq_true rfl) dM_size_28 ?_
      exact zx_iret hE rfl dM_size_31 rfl (Nat.le_of_ble_eq_true rfl) ⟨by first | (rw [if_pos h5]; first | rw [if_pos h20] | rw [if_neg (by rw [h20]; decide)]) | rw [if_neg (by rw [h5]; decide)], rfl, rfl⟩
  · refine zx_iconst (v := -1) dM_size_8 (by decide) ?_
    refine zx_goto (tgt := 31) dM_size_9 rfl ?_
    exact zx_iret hE rfl dM_size_31 rfl (Nat.le_of_ble_eq_true rfl) ⟨by first | (rw [if_pos h5]; first | rw [if_pos h20] | rw [if_neg (by rw [h20]; decide)]) | rw [if_neg (by rw [h5]; decide)], rfl, rfl⟩

def formM (B : Nat × Nat × Nat × Nat) (S : (Nat → Nat) × (Nat → Bool)) (j : Nat) : Int32 := if 5 < j ∨ begB B j = false then -1 else if livM B j = false then nI 4 else if fullB B.2.1 j = false then nI 0 else if S.2 j = true then nI 3 else if 0 < S.1 j then nI 2 else nI 1

set_option maxHeartbeats 4000000 in
set_option maxRecDepth 100000 in
theorem kM_form (G : zG) (d : Nat) (hd : 2 ≤ d) {n : Nat} {sh : zSh} {row : zRw} {m : Nat} {A : Nat × (Nat → Nat)} {B : Nat × Nat × Nat × Nat} {P : (Nat → Int32) × (Nat → Int32) × (Nat → Bool) × (Nat → Nat) × (Nat → Nat)} {T : (Nat → Nat) × (Nat → Nat) × (Nat → Nat)} {S : (Nat → Nat) × (Nat → Bool)} {H : (Nat → Bool) × (Nat → Nat) × (Nat → Nat) × (Nat → Nat)} (hM : MA sh row m A B P T S H) {j : Nat} (hj : j < 2147483648) (hrw : ∀ g, g < 6 → S.1 g < 1000) (hmd : B.1 ≤ 24) (hpb : B.2.1 ≤ 24) (hdn : B.2.2.1 ≤ 12) : zM G (fM_form d) [.ref m, .int (nI j)] n sh row (zP sh row (.int (formM B S j))) := by
  refine zM.of (by show plainName "PostIndexModel" = true; decide +kernel) (Nat.le_of_ble_eq_true rfl) (by intro v hv; simp at hv; rcases hv with rfl | rfl <;> rfl) ?_
  intro K hE
  show zX G K (fM_form d) n 0 0 sh row 0 [.ref m, .int (nI j)] []
  have hD : d - 1 + 1 ≤ d := by omega
  obtain ⟨⟨go, g_dr, g_au, g_ti, g_er, g_ln, g_tx, g_tk, g_fr, g_to, g_rw, g_pk, g_tn, g_bd, g_ql, g_qy, g_any, g_all, g_pa, g_mi, g_wf, g_wt⟩, ⟨p_dr, p_au, p_ti, p_er, p_ln, p_tx, p_tk, p_fr, p_to, p_rw, p_pk, p_tn, p_bd, p_ql, p_qy, p_any, p_all, p_pa, p_mi, p_wf, p_wt⟩, ⟨f_dl, f_md, f_pb, f_dn, f_sn⟩, a_dr, a_au, a_ti, a_er, a_ln, a_tx, a_tk, a_fr, a_to, a_rw, a_pk, a_tn, a_bd, a_ql, a_qy⟩ := id hM
  refine zx_iload_n dM_form_0 rfl ?_
  refine zn_if_lt (tgt := 17) dM_form_1 rfl (by omega) ?_
  refine zx_iload_n dM_form_4 rfl ?_
  refine zx_iconst (v := nI 5) dM_form_5 (by decide) ?_
  refine zn_icmp_gt (tgt := 17) dM_form_6 rfl (by omega) (by omega) (fun h6 => ?_) (fun h6 => ?_)
  · refine zx_iconst (v := -1) dM_form_17 (by decide) ?_
    exact zx_iret hE rfl dM_form_18 rfl (Nat.le_of_ble_eq_true rfl) ⟨by
      unfold formM
      first
      | rw [if_pos (Or.inl (by omega))]
      | rw [if_pos (Or.inr h14)]
      | (rw [if_neg (by rw [h14]; intro hh; rcases hh with hh | hh; omega; cases hh)]
         first
         | rw [if_pos h24]
         | rw [if_neg (by rw [h24]; decide), if_pos h34]
         | rw [if_neg (by rw [h24]; decide), if_neg (by rw [h34]; decide), if_pos h47]
         | rw [if_neg (by rw [h24]; decide), if_neg (by rw [h34]; decide), if_neg (by rw [h47]; decide), if_pos (by omega)]
         | rw [if_neg (by rw [h24]; decide), if_neg (by rw [h34]; decide), if_neg (by rw [h47]; decide), if_neg (by omega)]), rfl, rfl⟩
  · refine zx_aload_n dM_form_9 rfl ?_
    refine zx_iload_n dM_form_10 rfl ?_
    refine zc_V (n0 := n) (ce := 0) (kM_begun G (d - 1) (by omega) hM (by omega) hmd hpb (by omega)) (meM_begun _) lkM_104 go rfl rfl hD (Nat.le_of_ble_eq_true rfl) rfl rfl (Nat.le_of_ble_eq_true rfl) (Nat.le_of_ble_eq_true rfl) (Nat.le_of_ble_eq_true rfl) dM_form_11 ?_
    have hrwj := hrw j (by omega)
    refine zb_if_ne (tgt := 19) dM_form_14 rfl (fun h14 => ?_) (fun h14 => ?_)
    · refine zx_aload_n dM_form_19 rfl ?_
      refine zx_iload_n dM_form_20 rfl ?_
      refine zc_V (n0 := n) (ce := 0) (kM_live G (d - 1) (by omega) hM (by omega) hmd hpb (by omega)) (meM_live _) lkM_85 go rfl rfl hD (Nat.le_of_ble_eq_true rfl) rfl rfl (Nat.le_of_ble_eq_true rfl) (Nat.le_of_ble_eq_true rfl) (Nat.le_of_ble_eq_true rfl) dM_form_21 ?_
      refine zb_if_ne (tgt := 29) dM_form_24 rfl (fun h24 => ?_) (fun h24 => ?_)
      · refine zx_aload_n dM_form_29 rfl ?_
        refine zx_iload_n dM_form_30 rfl ?_
        refine zc_V (n0 := n) (ce := 0) (kM_full G (d - 1) (by omega) hM (by omega) hmd hpb (by omega)) (meM_full _) lkM_129 go rfl rfl hD (Nat.le_of_ble_eq_true rfl) rfl rfl (Nat.le_of_ble_eq_true rfl) (Nat.le_of_ble_eq_true rfl) (Nat.le_of_ble_eq_true rfl) dM_form_31 ?_
        refine zb_if_ne (tgt := 41) dM_form_34 rfl (fun h34 => ?_) (fun h34 => ?_)
        · refine zx_aload_n dM_form_41 rfl ?_
          refine zx_get dM_form_42 flM_41 (by assumption) (by assumption) ?_
          refine zx_iload_n dM_form_45 rfl ?_
          refine zn_zald dM_form_46 g_pk rfl (by omega) (by decide) (a_pk j (by omega)) ?_
          refine zb_if_eq (tgt := 54) dM_form_47 rfl (fun h47 => ?_) (fun h47 => ?_)
          · refine zx_aload_n dM_form_54 rfl ?_
            refine zx_get dM_form_55 flM_38 (by assumption) (by assumption) ?_
            refine zx_iload_n dM_form_58 rfl ?_
            refine zn_iald dM_form_59 g_rw rfl (by omega) (by decide) (a_rw j (by omega)) ?_
            refine zn_if_le (tgt := 67) dM_form_60 rfl (by omega) (fun h60 => ?_) (fun h60 => ?_)
            · refine zx_iconst (v := nI 1) dM_form_67 (by decide) ?_
              exact zx_iret hE rfl dM_form_68 rfl (Nat.le_of_ble_eq_true rfl) ⟨by
      unfold formM
      first
      | rw [if_pos (Or.inl (by omega))]
      | rw [if_pos (Or.inr h14)]
      | (rw [if_neg (by rw [h14]; intro hh; rcases hh with hh | hh; omega; cases hh)]
         first
         | rw [if_pos h24]
         | rw [if_neg (by rw [h24]; decide), if_pos h34]
         | rw [if_neg (by rw [h24]; decide), if_neg (by rw [h34]; decide), if_pos h47]
         | rw [if_neg (by rw [h24]; decide), if_neg (by rw [h34]; decide), if_neg (by rw [h47]; decide), if_pos (by omega)]
         | rw [if_neg (by rw [h24]; decide), if_neg (by rw [h34]; decide), if_neg (by rw [h47]; decide), if_neg (by omega)]), rfl, rfl⟩
            · refine zx_iconst (v := nI 2) dM_form_63 (by decide) ?_
              refine zx_goto (tgt := 68) dM_form_64 rfl ?_
              exact zx_iret hE rfl dM_form_68 rfl (Nat.le_of_ble_eq_true rfl) ⟨by
      unfold formM
      first
      | rw [if_pos (Or.inl (by omega))]
      | rw [if_pos (Or.inr h14)]
      | (rw [if_neg (by rw [h14]; intro hh; rcases hh with hh | hh; omega; cases hh)]
         first
         | rw [if_pos h24]
         | rw [if_neg (by rw [h24]; decide), if_pos h34]
         | rw [if_neg (by rw [h24]; decide), if_neg (by rw [h34]; decide), if_pos h47]
         | rw [if_neg (by rw [h24]; decide), if_neg (by rw [h34]; decide), if_neg (by rw [h47]; decide), if_pos (by omega)]
         | rw [if_neg (by rw [h24]; decide), if_neg (by rw [h34]; decide), if_neg (by rw [h47]; decide), if_neg (by omega)]), rfl, rfl⟩
          · refine zx_iconst (v := nI 3) dM_form_50 (by decide) ?_
            refine zx_goto (tgt := 68) dM_form_51 rfl ?_
            exact zx_iret hE rfl dM_form_68 rfl (Nat.le_of_ble_eq_true rfl) ⟨by
      unfold formM
      first
      | rw [if_pos (Or.inl (by omega))]
      | rw [if_pos (Or.inr h14)]
      | (rw [if_neg (by rw [h14]; intro hh; rcases hh with hh | hh; omega; cases hh)]
         first
         | rw [if_pos h24]
         | rw [if_neg (by rw [h24]; decide), if_pos h34]
         | rw [if_neg (by rw [h24]; decide), if_neg (by rw [h34]; decide), if_pos h47]
         | rw [if_neg (by rw [h24]; decide), if_neg (by rw [h34]; decide), if_neg (by rw [h47]; decide), if_pos (by omega)]
         | rw [if_neg (by rw [h24]; decide), if_neg (by rw [h34]; decide), if_neg (by rw [h47]; decide), if_neg (by omega)]), rfl, rfl⟩
        · refine zx_iconst (v := nI 0) dM_form_37 (by decide) ?_
          refine zx_goto (tgt := 68) dM_form_38 rfl ?_
          exact zx_iret hE rfl dM_form_68 rfl (Nat.le_of_ble_eq_true rfl) ⟨by
      unfold formM
      first
      | rw [if_pos (Or.inl (by omega))]
      | rw [if_pos (Or.inr h14)]
      | (rw [if_neg (by rw [h14]; intro hh; rcases hh with hh | hh; omega; cases hh)]
         first
         | rw [if_pos h24]
         | rw [if_neg (by rw [h24]; decide), if_pos h34]
         | rw [if_neg (by rw [h24]; decide), if_neg (by rw [h34]; decide), if_pos h47]
         | rw [if_neg (by rw [h24]; decide), if_neg (by rw [h34]; decide), if_neg (by rw [h47]; decide), if_pos (by omega)]
         | rw [if_neg (by rw [h24]; decide), if_neg (by rw [h34]; decide), if_neg (by rw [h47]; decide), if_neg (by omega)]), rfl, rfl⟩
      · refine zx_iconst (v := nI 4) dM_form_27 (by decide) ?_
        exact zx_iret hE rfl dM_form_28 rfl (Nat.le_of_ble_eq_true rfl) ⟨by
      unfold formM
      first
      | rw [if_pos (Or.inl (by omega))]
      | rw [if_pos (Or.inr h14)]
      | (rw [if_neg (by rw [h14]; intro hh; rcases hh with hh | hh; omega; cases hh)]
         first
         | rw [if_pos h24]
         | rw [if_neg (by rw [h24]; decide), if_pos h34]
         | rw [if_neg (by rw [h24]; decide), if_neg (by rw [h34]; decide), if_pos h47]
         | rw [if_neg (by rw [h24]; decide), if_neg (by rw [h34]; decide), if_neg (by rw [h47]; decide), if_pos (by omega)]
         | rw [if_neg (by rw [h24]; decide), if_neg (by rw [h34]; decide), if_neg (by rw [h47]; decide), if_neg (by omega)]), rfl, rfl⟩
    · refine zx_iconst (v := -1) dM_form_17 (by decide) ?_
      exact zx_iret hE rfl dM_form_18 rfl (Nat.le_of_ble_eq_true rfl) ⟨by
      unfold formM
      first
      | rw [if_pos (Or.inl (by omega))]
      | rw [if_pos (Or.inr h14)]
      | (rw [if_neg (by rw [h14]; intro hh; rcases hh with hh | hh; omega; cases hh)]
         first
         | rw [if_pos h24]
         | rw [if_neg (by rw [h24]; decide), if_pos h34]
         | rw [if_neg (by rw [h24]; decide), if_neg (by rw [h34]; decide), if_pos h47]
         | rw [if_neg (by rw [h24]; decide), if_neg (by rw [h34]; decide), if_neg (by rw [h47]; decide), if_pos (by omega)]
         | rw [if_neg (by rw [h24]; decide), if_neg (by rw [h34]; decide), if_neg (by rw [h47]; decide), if_neg (by omega)]), rfl, rfl⟩

set_option maxHeartbeats 4000000 in
set_option maxRecDepth 100000 in
theorem kM_formN (G : zG) (d : Nat) (hd : 1 ≤ d) {n : Nat} {sh : zSh} {row : zRw} {m : Nat} {A : Nat × (Nat → Nat)} {B : Nat × Nat × Nat × Nat} {P : (Nat → Int32) × (Nat → Int32) × (Nat → Bool) × (Nat → Nat) × (Nat → Nat)} {T : (Nat → Nat) × (Nat → Nat) × (Nat → Nat)} {S : (Nat → Nat) × (Nat → Bool)} {H : (Nat → Bool) × (Nat → Nat) × (Nat → Nat) × (Nat → Nat)} (hM : MA sh row m A B P T S H) {v : Int32} (hv : v < 0) : zM G (fM_form d) [.ref m, .int v] n sh row (zP sh row (.int (-1))) := by
  refine zM.of (by show plainName "PostIndexModel" = true; decide +kernel) (Nat.le_of_ble_eq_true rfl) (by intro v hv; simp at hv; rcases hv with rfl | rfl <;> rfl) ?_
  intro K hE
  show zX G K (fM_form d) n 0 0 sh row 0 [.ref m, .int v] []
  have hD : d - 1 + 1 ≤ d := by omega
  obtain ⟨⟨go, g_dr, g_au, g_ti, g_er, g_ln, g_tx, g_tk, g_fr, g_to, g_rw, g_pk, g_tn, g_bd, g_ql, g_qy, g_any, g_all, g_pa, g_mi, g_wf, g_wt⟩, ⟨p_dr, p_au, p_ti, p_er, p_ln, p_tx, p_tk, p_fr, p_to, p_rw, p_pk, p_tn, p_bd, p_ql, p_qy, p_any, p_all, p_pa, p_mi, p_wf, p_wt⟩, ⟨f_dl, f_md, f_pb, f_dn, f_sn⟩, a_dr, a_au, a_ti, a_er, a_ln, a_tx, a_tk, a_fr, a_to, a_rw, a_pk, a_tn, a_bd, a_ql, a_qy⟩ := id hM
  refine zx_iload_n dM_form_0 rfl ?_
  refine zx_if_lt (tgt := 17) dM_form_1 rfl (fun h1 => ?_) (fun h1 => ?_)
  · refine zx_iconst (v := -1) dM_form_17 (by decide) ?_
    exact zx_iret hE rfl dM_form_18 rfl (Nat.le_of_ble_eq_true rfl) ⟨rfl, rfl, rfl⟩
  · exact absurd hv h1

