/-- searches that are under way keep their queries -/
def qkp (H H' : mH) : Prop := H'.1 = H.1 ∧ H'.2.1 = H.2.1 ∧ ∀ j Q, j < 3 → qyA H j Q → Q.length ≤ 24 → qyA H' j Q
theorem qy_new {H : mH} {f1 : Nat → Nat} {a j : Nat} {D : List Nat} (ha : a = D.length) (h1 : ∀ k, k < D.length → f1 (24 * j + k) = at0 D k) : qyA (H.1, H.2.1, va_up H.2.2.1 j a, f1) j D := ⟨by show va_up H.2.2.1 j a j = _; rw [vup_eq]; exact ha, h1⟩
theorem qy_old {H : mH} {f1 : Nat → Nat} {a i j : Nat} {Q : List Nat} (h2 : ∀ k, (k < 24 * j ∨ 24 * j + 24 ≤ k) → f1 k = H.2.2.2 k) (hi : i ≠ j) (hq : qyA H i Q) (hl : Q.length ≤ 24) : qyA (H.1, H.2.1, va_up H.2.2.1 j a, f1) i Q := ⟨by show va_up H.2.2.1 j a i = _; rw [vup_ne hi]; exact hq.1, fun k hk => by show f1 _ = _; rw [h2 _ (by omega)]; exact hq.2 k hk⟩

set_option maxHeartbeats 4000000 in
set_option maxRecDepth 100000 in
theorem kM_search (G : zG) (d : Nat) (hd : 5 ≤ d) {n : Nat} {sh : zSh} {row : zRw} {m : Nat} {A : Nat × (Nat → Nat)} {B : Nat × Nat × Nat × Nat} {P : (Nat → Int32) × (Nat → Int32) × (Nat → Bool) × (Nat → Nat) × (Nat → Nat)} {T : (Nat → Nat) × (Nat → Nat) × (Nat → Nat)} {S : (Nat → Nat) × (Nat → Bool)} {H : (Nat → Bool) × (Nat → Nat) × (Nat → Nat) × (Nat → Nat)} (hM : MA sh row m A B P T S H) {D : List Nat} (hD0 : dA A D) (hDl : D.length ≤ 24) (hch : ∀ k, at0 D k < 127) (hpb : B.2.1 ≤ 24) (hsn : B.2.2.2 ≤ 24) : zM G (fM_search d) [.ref m] n sh row (zpR sh (fun v row' => (jdg0 D < 0 ∧ v = .int (-1) ∧ frI m (m + 21) row row' ∧ ∃ H', qkp H H' ∧ MA sh row' m A B P T S H') ∨ (¬ jdg0 D < 0 ∧ (fst1 (fun j => !H.1 j) 3 0 = none ∨ 24 ≤ B.2.2.2) ∧ v = .int (-2) ∧ frI m (m + 21) row row' ∧ ∃ H', qkp H H' ∧ MA sh row' m A B P T S H') ∨ (¬ jdg0 D < 0 ∧ B.2.2.2 < 24 ∧ ∃ g, fst1 (fun j => !H.1 j) 3 0 = some g ∧ v = .int (nI g) ∧ frI m (m + 21) row row' ∧ ∃ H' : mH, H'.1 = va_up H.1 g true ∧ H'.2.1 = va_up H.2.1 g B.2.1 ∧ qyA H' g D ∧ (∀ j Q, j < 3 → j ≠ g → qyA H j Q → Q.length ≤ 24 → qyA H' j Q) ∧ MA sh row' m (0, A.2) (B.1, B.2.1, B.2.2.1, B.2.2.2 + 1) P T S H'))) := by
  refine zM.of (by show plainName "PostIndexModel" = true; decide +kernel) (Nat.le_of_ble_eq_true rfl) (by intro v hv; simp at hv; rcases hv with rfl <;> rfl) ?_
  intro K hE
  show zX G K (fM_search d) n 0 0 sh row 0 [.ref m, .retAddr 0] []
  have hD : d - 1 + 1 ≤ d := by omega
  obtain ⟨⟨go, g_dr, g_au, g_ti, g_er, g_ln, g_tx, g_tk, g_fr, g_to, g_rw, g_pk, g_tn, g_bd, g_ql, g_qy, g_any, g_all, g_pa, g_mi, g_wf, g_wt⟩, ⟨p_dr, p_au, p_ti, p_er, p_ln, p_tx, p_tk, p_fr, p_to, p_rw, p_pk, p_tn, p_bd, p_ql, p_qy, p_any, p_all, p_pa, p_mi, p_wf, p_wt⟩, ⟨f_dl, f_md, f_pb, f_dn, f_sn⟩, a_dr, a_au, a_ti, a_er, a_ln, a_tx, a_tk, a_fr, a_to, a_rw, a_pk, a_tn, a_bd, a_ql, a_qy⟩ := id hM
  have loop : ∀ (r2 : zRw) (l3 y3 : Nat → Nat), ¬ jdg0 D < 0 → frI m (m + 21) row r2 → qkp H (H.1, H.2.1, l3, y3) → MA sh r2 m A B P T S (H.1, H.2.1, l3, y3) → ∀ (k i : Nat), 3 - i < k → i ≤ 3 → (fst1 (fun j => !H.1 j) 3 0 = fst1 (fun j => !H.1 j) (3 - i) i ∨ 24 ≤ B.2.2.2) → zX G K (fM_search d) n 0 0 sh r2 18 [.ref m, .int (nI i)] [] := by
    intro r2 l3 y3 hj0 hfr hqk hM2 k
    obtain ⟨⟨xgo, xg_dr, xg_au, xg_ti, xg_er, xg_ln, xg_tx, xg_tk, xg_fr, xg_to, xg_rw, xg_pk, xg_tn, xg_bd, xg_ql, xg_qy, xg_any, xg_all, xg_pa, xg_mi, xg_wf, xg_wt⟩, ⟨xp_dr, xp_au, xp_ti, xp_er, xp_ln, xp_tx, xp_tk, xp_fr, xp_to, xp_rw, xp_pk, xp_tn, xp_bd, xp_ql, xp_qy, xp_any, xp_all, xp_pa, xp_mi, xp_wf, xp_wt⟩, ⟨xf_dl, xf_md, xf_pb, xf_dn, xf_sn⟩, xa_dr, xa_au, xa_ti, xa_er, xa_ln, xa_tx, xa_tk, xa_fr, xa_to, xa_rw, xa_pk, xa_tn, xa_bd, xa_ql, xa_qy⟩ := id hM2
    induction k with
    | zero => intro i hk; exact absurd hk (Nat.not_lt_zero _)
    | succ k ih =>
      intro i hk h3 h4
      refine zx_iload_n dM_search_18 rfl ?_
      refine zx_iconst (v := nI 3) dM_search_19 (by decide) ?_
      refine zn_icmp_ge (tgt := 86) dM_search_20 rfl (by omega) (by omega) (fun h20 => ?_) (fun h20 => ?_)
      · refine zx_bipush (v := -2) dM_search_86 (by decide) ?_
        exact zx_iret hE rfl dM_search_88 rfl (Nat.le_of_ble_eq_true rfl) (by
        first
        | (refine ⟨_, rfl, rfl, Or.inr (Or.inl ⟨hj0, ?_, rfl, hfr, _, hqk, hM2⟩)⟩
           rcases h4 with h4 | h4
           · left; rw [h4, show 3 - i = 0 by omega]; rfl
           · exact Or.inr h4)
        | (have hfs : fst1 (fun j => !H.1 j) 3 0 = some i := by
             rcases h4 with h4 | h4
             · rw [h4, fst1_t (by omega) (by show (!H.1 i) = true; rw [show H.1 i = false from h29]; rfl)]
             · omega
           refine ⟨_, rfl, rfl, Or.inr (Or.inr ⟨hj0, by omega, i, hfs, rfl, (((((hfr.tr k1).tr (frI_up (by omega) (by omega))).tr (frI_up (by omega) (by omega))).tr (frI_up (by omega) (by omega))).tr (frI_up (by omega) (by omega))), (va_up H.1 i true, va_up H.2.1 i B.2.1, va_up l3 i A.1, f2), rfl, rfl, qy_new (H := (va_up H.1 i true, va_up H.2.1 i B.2.1, l3, y3)) hD0.1 k2, fun j Q hj hji hq hl => qy_old (H := (va_up H.1 i true, va_up H.2.1 i B.2.1, l3, y3)) k3 hji (hqk.2.2 j Q hj hq hl) hl, k8⟩)⟩))
      · refine zx_aload_n dM_search_23 rfl ?_
        refine zx_get dM_search_24 flM_44 (by assumption) xp_tn ?_
        refine zx_iload_n dM_search_27 rfl ?_
        refine zn_zald dM_search_28 g_tn rfl (by omega) (by decide) (xa_tn i (by omega)) ?_
        refine zb_if_ne (tgt := 80) dM_search_29 rfl (fun h29 => ?_) (fun h29 => ?_)
        · refine zn_iinc (c := 1) dM_search_80 (Nat.le_of_ble_eq_true rfl) rfl rfl ?_
          refine zx_goto (tgt := 18) dM_search_83 rfl ?_
          first
          | exact ih (i + 1) (by omega) (by omega) (Or.inr (by omega))
          | exact ih (i + 1) (by omega) (by omega) (h4.imp (fun g => by rw [g, fst1_f (by omega) (by show (!H.1 i) = false; rw [show H.1 i = true from h29]; rfl)]; congr 1) id)
        · refine zx_aload_n dM_search_32 rfl ?_
          refine zx_get dM_search_33 flM_186 (by assumption) xf_sn ?_
          refine zx_bipush (v := nI 24) dM_search_36 (by decide) ?_
          refine zn_icmp_ge (tgt := 80) dM_search_38 rfl (by omega) (by omega) (fun h38 => ?_) (fun h38 => ?_)
          · refine zn_iinc (c := 1) dM_search_80 (Nat.le_of_ble_eq_true rfl) rfl rfl ?_
            refine zx_goto (tgt := 18) dM_search_83 rfl ?_
            first
            | exact ih (i + 1) (by omega) (by omega) (Or.inr (by omega))
            | exact ih (i + 1) (by omega) (by omega) (h4.imp (fun g => by rw [g, fst1_f (by omega) (by show (!H.1 i) = false; rw [show H.1 i = true from h29]; rfl)]; congr 1) id)
          · refine zx_aload_n dM_search_41 rfl ?_
            refine zx_iload_n dM_search_42 rfl ?_
            refine zc_Vv (n0 := n) (ce := 0) (kM_copy G (d - 1) (by omega) hM2 (j := i) (by omega) hD0 hDl) (meM_copy _) lkM_180 go rfl rfl hD (Nat.le_of_ble_eq_true rfl) rfl rfl (Nat.le_of_ble_eq_true rfl) (Nat.le_of_ble_eq_true rfl) (Nat.le_of_ble_eq_true rfl) dM_search_43 (fun r3 h9 => ?_)
            obtain ⟨k1, f2, k2, k3, k4⟩ := h9
            obtain ⟨⟨ygo, yg_dr, yg_au, yg_ti, yg_er, yg_ln, yg_tx, yg_tk, yg_fr, yg_to, yg_rw, yg_pk, yg_tn, yg_bd, yg_ql, yg_qy, yg_any, yg_all, yg_pa, yg_mi, yg_wf, yg_wt⟩, ⟨yp_dr, yp_au, yp_ti, yp_er, yp_ln, yp_tx, yp_tk, yp_fr, yp_to, yp_rw, yp_pk, yp_tn, yp_bd, yp_ql, yp_qy, yp_any, yp_all, yp_pa, yp_mi, yp_wf, yp_wt⟩, ⟨yf_dl, yf_md, yf_pb, yf_dn, yf_sn⟩, ya_dr, ya_au, ya_ti, ya_er, ya_ln, ya_tx, ya_tk, ya_fr, ya_to, ya_rw, ya_pk, ya_tn, ya_bd, ya_ql, ya_qy⟩ := id k4
            refine zx_aload_n dM_search_46 rfl ?_
            refine zx_get dM_search_47 flM_44 (by assumption) yp_tn ?_
            refine zx_iload_n dM_search_50 rfl ?_
            refine zx_iconst (v := nI 1) dM_search_51 (by decide) ?_
            refine zn_zast (b := true) dM_search_52 g_tn rfl (by omega) (by decide) ?_
            have k5 := k4.tn (i := i) (z := true)
            have zf_sn : zup r3 (m + 12) i (.int (bI true)) m 15 = .int (nI B.2.2.2) := by rw [zup_ne (by omega)]; exact yf_sn
            refine zx_aload_n dM_search_53 rfl ?_
            refine zx_dup dM_search_54 rfl ?_
            refine zx_get dM_search_55 flM_186 (by assumption) zf_sn ?_
            refine zx_iconst (v := nI 1) dM_search_58 (by decide) ?_
            refine zn_iadd dM_search_59 ?_
            refine zx_put dM_search_60 flM_186 tpM_15 (by assumption) rfl rfl ?_
            have k6 := k5.sn (z := B.2.2.2 + 1)
            obtain ⟨⟨wgo, wg_dr, wg_au, wg_ti, wg_er, wg_ln, wg_tx, wg_tk, wg_fr, wg_to, wg_rw, wg_pk, wg_tn, wg_bd, wg_ql, wg_qy, wg_any, wg_all, wg_pa, wg_mi, wg_wf, wg_wt⟩, ⟨wp_dr, wp_au, wp_ti, wp_er, wp_ln, wp_tx, wp_tk, wp_fr, wp_to, wp_rw, wp_pk, wp_tn, wp_bd, wp_ql, wp_qy, wp_any, wp_all, wp_pa, wp_mi, wp_wf, wp_wt⟩, ⟨wf_dl, wf_md, wf_pb, wf_dn, wf_sn⟩, wa_dr, wa_au, wa_ti, wa_er, wa_ln, wa_tx, wa_tk, wa_fr, wa_to, wa_rw, wa_pk, wa_tn, wa_bd, wa_ql, wa_qy⟩ := id k6
            refine zx_aload_n dM_search_63 rfl ?_
            refine zx_get dM_search_64 flM_47 (by assumption) wp_bd ?_
            refine zx_iload_n dM_search_67 rfl ?_
            refine zx_aload_n dM_search_68 rfl ?_
            refine zx_get dM_search_69 flM_82 (by assumption) wf_pb ?_
            refine zn_iast dM_search_72 g_bd rfl (by omega) (by decide) ?_
            have k7 := k6.bd (i := i) (z := B.2.1)
            refine zx_aload_n dM_search_73 rfl ?_
            refine zx_iconst (v := nI 0) dM_search_74 (by decide) ?_
            refine zx_put dM_search_75 flM_78 tpM_0 (by assumption) rfl rfl ?_
            have k8 := k7.dl (z := 0)
            refine zx_iload_n dM_search_78 rfl ?_
            exact zx_iret hE rfl dM_search_79 rfl (Nat.le_of_ble_eq_true rfl) (by
        first
        | (refine ⟨_, rfl, rfl, Or.inr (Or.inl ⟨hj0, ?_, rfl, hfr, _, hqk, hM2⟩)⟩
           rcases h4 with h4 | h4
           · left; rw [h4, show 3 - i = 0 by omega]; rfl
           · exact Or.inr h4)
        | (have hfs : fst1 (fun j => !H.1 j) 3 0 = some i := by
             rcases h4 with h4 | h4
             · rw [h4, fst1_t (by omega) (by show (!H.1 i) = true; rw [show H.1 i = false from h29]; rfl)]
             · omega
           refine ⟨_, rfl, rfl, Or.inr (Or.inr ⟨hj0, by omega, i, hfs, rfl, (((((hfr.tr k1).tr (frI_up (by omega) (by omega))).tr (frI_up (by omega) (by omega))).tr (frI_up (by omega) (by omega))).tr (frI_up (by omega) (by omega))), (va_up H.1 i true, va_up H.2.1 i B.2.1, va_up l3 i A.1, f2), rfl, rfl, qy_new (H := (va_up H.1 i true, va_up H.2.1 i B.2.1, l3, y3)) hD0.1 k2, fun j Q hj hji hq hl => qy_old (H := (va_up H.1 i true, va_up H.2.1 i B.2.1, l3, y3)) k3 hji (hqk.2.2 j Q hj hq hl) hl, k8⟩)⟩))
  refine zx_aload_n dM_search_0 rfl ?_
  refine zx_iconst (v := nI 3) dM_search_1 (by decide) ?_
  refine zc_Vv (n0 := n) (ce := 0) (kM_copy G (d - 1) (by omega) hM (j := 3) (by omega) hD0 hDl) (meM_copy _) lkM_180 go rfl rfl hD (Nat.le_of_ble_eq_true rfl) rfl rfl (Nat.le_of_ble_eq_true rfl) (Nat.le_of_ble_eq_true rfl) (Nat.le_of_ble_eq_true rfl) dM_search_2 (fun r1 h2 => ?_)
  obtain ⟨e1, f1, e2, e3, e4⟩ := h2
  have hq3 := qy_new (H := H) (j := 3) hD0.1 e2
  have hqk : qkp H (H.1, H.2.1, va_up H.2.2.1 3 A.1, f1) := ⟨rfl, rfl, fun j Q hj hq hl => qy_old e3 (by omega) hq hl⟩
  refine zx_aload_n dM_search_5 rfl ?_
  refine zx_iconst (v := nI 3) dM_search_6 (by decide) ?_
  refine zx_iconst (v := -1) dM_search_7 (by decide) ?_
  refine zc_Vr (n0 := n) (ce := 0) (kM_judgeN G (d - 1) (by omega) e4 (j := 3) (v := -1) (by decide) (by omega) hq3 hDl hch) (meM_judge _) lkM_183 go rfl rfl hD (Nat.le_of_ble_eq_true rfl) rfl rfl (Nat.le_of_ble_eq_true rfl) (Nat.le_of_ble_eq_true rfl) (Nat.le_of_ble_eq_true rfl) dM_search_8 (fun v r2 h9 => ?_)
  obtain ⟨rfl, e5⟩ := h9
  have e6 := e4.scr e5
  refine zx_if_ge (tgt := 16) dM_search_11 rfl (fun h11 => ?_) (fun h11 => ?_)
  · refine zx_iconst (v := nI 0) dM_search_16 (by decide) ?_
    refine zx_istore_n dM_search_17 (Nat.le_of_ble_eq_true rfl) rfl rfl ?_
    exact loop r2 _ _ (fun g => Int32.lt_irrefl (Int32.lt_of_lt_of_le g h11)) (e1.tr e5.fr) hqk e6 _ 0 (Nat.lt_succ_self _) (Nat.zero_le _) (Or.inl rfl)
  · refine zx_iconst (v := -1) dM_search_14 (by decide) ?_
    exact zx_iret hE rfl dM_search_15 rfl (Nat.le_of_ble_eq_true rfl) ⟨_, rfl, rfl, Or.inl ⟨Int32.not_le.mp h11, rfl, e1.tr e5.fr, _, hqk, e6⟩⟩

