theorem nine {a : Int32} (h : ¬ nI 9 < a) : ¬ nI 10 ≤ a := by
  intro g
  have e1 : (nI 9).toInt = 9 := by decide
  have e2 : (nI 10).toInt = 10 := by decide
  have g1 := Int32.le_iff_toInt_le.mp g
  exact h (Int32.lt_iff_toInt_lt.mpr (by omega))
theorem nine' {a : Int32} (h : nI 9 < a) : nI 10 ≤ a := by
  have e1 : (nI 9).toInt = 9 := by decide
  have e2 : (nI 10).toInt = 10 := by decide
  have g1 := Int32.lt_iff_toInt_lt.mp h
  exact Int32.le_iff_toInt_le.mpr (by omega)
abbrev mB : Type := Nat × Nat × Nat × Nat
/-- the post is made -/
def newP (P P' : mP) (md : Nat) (a t : Int32) (D : List Nat) : Prop := P'.1 = va_up P.1 md a ∧ P'.2.1 = va_up P.2.1 md t ∧ P'.2.2.1 = P.2.2.1 ∧ P'.2.2.2.1 = va_up P.2.2.2.1 md D.length ∧ (∀ k, k < D.length → P'.2.2.2.2 (24 * md + k) = at0 D k) ∧ ∀ k, (k < 24 * md ∨ 24 * md + D.length ≤ k) → P'.2.2.2.2 k = P.2.2.2.2 k
def newT (T T' : mT) (md : Nat) (D : List Nat) : Prop := tkA T' md (cutL D 0) ∧ (∀ i, i ≠ md → T'.1 i = T.1 i) ∧ tkO T T' md ∧ tkR T' ∧ (cutL D 0).length ≤ 12

set_option maxHeartbeats 4000000 in
set_option maxRecDepth 100000 in
theorem kM_post (G : zG) (d : Nat) (hd : 4 ≤ d) {n : Nat} {sh : zSh} {row : zRw} {m : Nat} {A : Nat × (Nat → Nat)} {B : Nat × Nat × Nat × Nat} {P : (Nat → Int32) × (Nat → Int32) × (Nat → Bool) × (Nat → Nat) × (Nat → Nat)} {T : (Nat → Nat) × (Nat → Nat) × (Nat → Nat)} {S : (Nat → Nat) × (Nat → Bool)} {H : (Nat → Bool) × (Nat → Nat) × (Nat → Nat) × (Nat → Nat)} (hM : MA sh row m A B P T S H) {a t : Int32} {D : List Nat} (hD0 : dA A D) (hDl : D.length ≤ 24) (hch : ∀ k, at0 D k < 127) (hR : tkR T) (hmd : B.1 ≤ 24) (hpm : B.2.1 ≤ B.1) : zM G (fM_post d) [.ref m, .int a, .int t] n sh row (zpR sh (fun v row' => (okP a (B.1, B.2.1, 0, 0, 0, 0) ∧ v = .int (nI B.1) ∧ frI m (m + 21) row row' ∧ ∃ (P' : mP) (T' : mT), newP P P' B.1 a t D ∧ newT T T' B.1 D ∧ MA sh row' m (0, A.2) (B.1 + 1, B.2) P' T' S H) ∨ (¬ okP a (B.1, B.2.1, 0, 0, 0, 0) ∧ v = .int (-1) ∧ frI m (m + 21) row row' ∧ MA sh row' m A B P T S H))) := by
  refine zM.of (by show plainName "PostIndexModel" = true; decide +kernel) (Nat.le_of_ble_eq_true rfl) (by intro v hv; simp at hv; rcases hv with rfl | rfl | rfl <;> rfl) ?_
  intro K hE
  show zX G K (fM_post d) n 0 0 sh row 0 [.ref m, .int a, .int t, .retAddr 0] []
  have hD : d - 1 + 1 ≤ d := by omega
  obtain ⟨⟨go, g_dr, g_au, g_ti, g_er, g_ln, g_tx, g_tk, g_fr, g_to, g_rw, g_pk, g_tn, g_bd, g_ql, g_qy, g_any, g_all, g_pa, g_mi, g_wf, g_wt⟩, ⟨p_dr, p_au, p_ti, p_er, p_ln, p_tx, p_tk, p_fr, p_to, p_rw, p_pk, p_tn, p_bd, p_ql, p_qy, p_any, p_all, p_pa, p_mi, p_wf, p_wt⟩, ⟨f_dl, f_md, f_pb, f_dn, f_sn⟩, a_dr, a_au, a_ti, a_er, a_ln, a_tx, a_tk, a_fr, a_to, a_rw, a_pk, a_tn, a_bd, a_ql, a_qy⟩ := id hM
  refine zx_iload_n dM_post_0 rfl ?_
  refine zx_if_lt (tgt := 32) dM_post_1 rfl (fun h1 => ?_) (fun h1 => ?_)
  · refine zx_iconst (v := -1) dM_post_32 (by decide) ?_
    exact zx_iret hE rfl dM_post_33 rfl (Nat.le_of_ble_eq_true rfl) (by refine ⟨_, rfl, rfl, Or.inr ⟨?_, rfl, frI.rf, hM⟩⟩; rintro ⟨y1, y2, y3, y4⟩; first | exact y1 h1 | exact y2 (nine' h7) | (have y3 : B.1 < 24 := y3; have y4 : B.1 - B.2.1 < 4 := y4; omega))
  · refine zx_iload_n dM_post_4 rfl ?_
    refine zx_bipush (v := nI 9) dM_post_5 (by decide) ?_
    refine zx_icmp_gt (tgt := 32) dM_post_7 rfl (fun h7 => ?_) (fun h7 => ?_)
    · refine zx_iconst (v := -1) dM_post_32 (by decide) ?_
      exact zx_iret hE rfl dM_post_33 rfl (Nat.le_of_ble_eq_true rfl) (by refine ⟨_, rfl, rfl, Or.inr ⟨?_, rfl, frI.rf, hM⟩⟩; rintro ⟨y1, y2, y3, y4⟩; first | exact y1 h1 | exact y2 (nine' h7) | (have y3 : B.1 < 24 := y3; have y4 : B.1 - B.2.1 < 4 := y4; omega))
    · refine zx_aload_n dM_post_10 rfl ?_
      refine zx_get dM_post_11 flM_91 (by assumption) (by assumption) ?_
      refine zx_aload_n dM_post_14 rfl ?_
      refine zx_get dM_post_15 flM_82 (by assumption) (by assumption) ?_
      refine zn_isub dM_post_18 (by omega) ?_
      refine zx_iconst (v := nI 4) dM_post_19 (by decide) ?_
      refine zn_icmp_ge (tgt := 32) dM_post_20 rfl (by omega) (by omega) (fun h20 => ?_) (fun h20 => ?_)
      · refine zx_iconst (v := -1) dM_post_32 (by decide) ?_
        exact zx_iret hE rfl dM_post_33 rfl (Nat.le_of_ble_eq_true rfl) (by refine ⟨_, rfl, rfl, Or.inr ⟨?_, rfl, frI.rf, hM⟩⟩; rintro ⟨y1, y2, y3, y4⟩; first | exact y1 h1 | exact y2 (nine' h7) | (have y3 : B.1 < 24 := y3; have y4 : B.1 - B.2.1 < 4 := y4; omega))
      · refine zx_aload_n dM_post_23 rfl ?_
        refine zx_get dM_post_24 flM_91 (by assumption) (by assumption) ?_
        refine zx_bipush (v := nI 24) dM_post_27 (by decide) ?_
        refine zn_icmp_lt (tgt := 34) dM_post_29 rfl (by omega) (by omega) (fun h29 => ?_) (fun h29 => ?_)
        · refine zx_aload_n dM_post_34 rfl ?_
          refine zx_get dM_post_35 flM_13 (by assumption) (by assumption) ?_
          refine zx_aload_n dM_post_38 rfl ?_
          refine zx_get dM_post_39 flM_91 (by assumption) (by assumption) ?_
          refine zx_iload_n dM_post_42 rfl ?_
          refine zn_iast dM_post_43 g_au rfl (by omega) (by decide) ?_
          have h8 := hM.au (i := B.1) (z := a)
          generalize hr1 : zup row (m + 2) B.1 (.int a) = r1 at h8 ⊢
          have hf1 : frI m (m + 21) row r1 := by rw [← hr1]; exact frI_up (by omega) (by omega)
          obtain ⟨⟨ygo, yg_dr, yg_au, yg_ti, yg_er, yg_ln, yg_tx, yg_tk, yg_fr, yg_to, yg_rw, yg_pk, yg_tn, yg_bd, yg_ql, yg_qy, yg_any, yg_all, yg_pa, yg_mi, yg_wf, yg_wt⟩, ⟨yp_dr, yp_au, yp_ti, yp_er, yp_ln, yp_tx, yp_tk, yp_fr, yp_to, yp_rw, yp_pk, yp_tn, yp_bd, yp_ql, yp_qy, yp_any, yp_all, yp_pa, yp_mi, yp_wf, yp_wt⟩, ⟨yf_dl, yf_md, yf_pb, yf_dn, yf_sn⟩, ya_dr, ya_au, ya_ti, ya_er, ya_ln, ya_tx, ya_tk, ya_fr, ya_to, ya_rw, ya_pk, ya_tn, ya_bd, ya_ql, ya_qy⟩ := id h8
          refine zx_aload_n dM_post_44 rfl ?_
          refine zx_get dM_post_45 flM_16 (by assumption) yp_ti ?_
          refine zx_aload_n dM_post_48 rfl ?_
          refine zx_get dM_post_49 flM_91 (by assumption) yf_md ?_
          refine zx_iload_n dM_post_52 rfl ?_
          refine zn_iast dM_post_53 g_ti rfl (by omega) (by decide) ?_
          have h9 := h8.ti (i := B.1) (z := t)
          generalize hr2 : zup r1 (m + 3) B.1 (.int t) = r2 at h9 ⊢
          have hf2 : frI m (m + 21) row r2 := by rw [← hr2]; exact hf1.tr (frI_up (by omega) (by omega))
          obtain ⟨⟨ugo, ug_dr, ug_au, ug_ti, ug_er, ug_ln, ug_tx, ug_tk, ug_fr, ug_to, ug_rw, ug_pk, ug_tn, ug_bd, ug_ql, ug_qy, ug_any, ug_all, ug_pa, ug_mi, ug_wf, ug_wt⟩, ⟨up_dr, up_au, up_ti, up_er, up_ln, up_tx, up_tk, up_fr, up_to, up_rw, up_pk, up_tn, up_bd, up_ql, up_qy, up_any, up_all, up_pa, up_mi, up_wf, up_wt⟩, ⟨uf_dl, uf_md, uf_pb, uf_dn, uf_sn⟩, ua_dr, ua_au, ua_ti, ua_er, ua_ln, ua_tx, ua_tk, ua_fr, ua_to, ua_rw, ua_pk, ua_tn, ua_bd, ua_ql, ua_qy⟩ := id h9
          refine zx_aload_n dM_post_54 rfl ?_
          refine zx_get dM_post_55 flM_23 (by assumption) up_ln ?_
          refine zx_aload_n dM_post_58 rfl ?_
          refine zx_get dM_post_59 flM_91 (by assumption) uf_md ?_
          refine zx_aload_n dM_post_62 rfl ?_
          refine zx_get dM_post_63 flM_78 (by assumption) uf_dl ?_
          refine zn_iast dM_post_66 g_ln rfl (by omega) (by decide) ?_
          have h10 := h9.ln (i := B.1) (z := A.1)
          have loop : ∀ (k : Nat) (i : Nat) (f1 : Nat → Nat) (r2 : zRw), D.length - i < k → i ≤ D.length → (∀ k, k < i → f1 (24 * B.1 + k) = at0 D k) → (∀ k, (k < 24 * B.1 ∨ 24 * B.1 + D.length ≤ k) → f1 k = P.2.2.2.2 k) → MA sh r2 m A B (va_up P.1 B.1 a, va_up P.2.1 B.1 t, P.2.2.1, va_up P.2.2.2.1 B.1 A.1, f1) T S H → frI m (m + 21) row r2 → zX G K (fM_post d) n 0 0 sh r2 69 [.ref m, .int a, .int t, .int (nI i)] [] := by
            intro k
            induction k with
            | zero => intro i f1 r2 hk; exact absurd hk (Nat.not_lt_zero _)
            | succ k ih =>
              intro i f1 r2 hk h3 k5 k5b k6 k7
              obtain ⟨⟨xgo, xg_dr, xg_au, xg_ti, xg_er, xg_ln, xg_tx, xg_tk, xg_fr, xg_to, xg_rw, xg_pk, xg_tn, xg_bd, xg_ql, xg_qy, xg_any, xg_all, xg_pa, xg_mi, xg_wf, xg_wt⟩, ⟨xp_dr, xp_au, xp_ti, xp_er, xp_ln, xp_tx, xp_tk, xp_fr, xp_to, xp_rw, xp_pk, xp_tn, xp_bd, xp_ql, xp_qy, xp_any, xp_all, xp_pa, xp_mi, xp_wf, xp_wt⟩, ⟨xf_dl, xf_md, xf_pb, xf_dn, xf_sn⟩, xa_dr, xa_au, xa_ti, xa_er, xa_ln, xa_tx, xa_tk, xa_fr, xa_to, xa_rw, xa_pk, xa_tn, xa_bd, xa_ql, xa_qy⟩ := id k6
              have hl := hD0.1
              refine zx_iload_n dM_post_69 rfl ?_
              refine zx_aload_n dM_post_70 rfl ?_
              refine zx_get dM_post_71 flM_78 (by assumption) (by assumption) ?_
              refine zn_icmp_ge (tgt := 103) dM_post_74 rfl (by omega) (by omega) (fun h74 => ?_) (fun h74 => ?_)
              · refine zx_aload_n dM_post_103 rfl ?_
                refine zx_iconst (v := nI 0) dM_post_104 (by decide) ?_
                refine zx_put dM_post_105 flM_78 tpM_0 (by assumption) rfl rfl ?_
                have h8 := k6.dl (z := 0)
                generalize hr3 : zup r2 m 0 (.int (nI 0)) = r3 at h8 ⊢
                have hf3 : frI m (m + 21) row r3 := by rw [← hr3]; exact k7.tr (frI_up (by omega) (by omega))
                obtain ⟨⟨ygo, yg_dr, yg_au, yg_ti, yg_er, yg_ln, yg_tx, yg_tk, yg_fr, yg_to, yg_rw, yg_pk, yg_tn, yg_bd, yg_ql, yg_qy, yg_any, yg_all, yg_pa, yg_mi, yg_wf, yg_wt⟩, ⟨yp_dr, yp_au, yp_ti, yp_er, yp_ln, yp_tx, yp_tk, yp_fr, yp_to, yp_rw, yp_pk, yp_tn, yp_bd, yp_ql, yp_qy, yp_any, yp_all, yp_pa, yp_mi, yp_wf, yp_wt⟩, ⟨yf_dl, yf_md, yf_pb, yf_dn, yf_sn⟩, ya_dr, ya_au, ya_ti, ya_er, ya_ln, ya_tx, ya_tk, ya_fr, ya_to, ya_rw, ya_pk, ya_tn, ya_bd, ya_ql, ya_qy⟩ := id h8
                refine zx_aload_n dM_post_108 rfl ?_
                refine zx_aload_n dM_post_109 rfl ?_
                refine zx_get dM_post_110 flM_91 (by assumption) yf_md ?_
                refine zc_Vv (n0 := n) (ce := 0) (kM_cut G (d - 1) (by omega) h8 (p := B.1) (xs := D) (by omega) ⟨by show va_up P.2.2.2.1 B.1 A.1 B.1 = _; rw [vup_eq, hD0.1], fun k hk => k5 k (by omega)⟩ hDl hch hR) (meM_cut _) lkM_94 go rfl rfl hD (Nat.le_of_ble_eq_true rfl) rfl rfl (Nat.le_of_ble_eq_true rfl) (Nat.le_of_ble_eq_true rfl) (Nat.le_of_ble_eq_true rfl) dM_post_113 (fun r4 h9 => ?_)
                obtain ⟨h10, T2, h11, h12, h13, h14, h15, h16⟩ := h9
                obtain ⟨⟨ugo, ug_dr, ug_au, ug_ti, ug_er, ug_ln, ug_tx, ug_tk, ug_fr, ug_to, ug_rw, ug_pk, ug_tn, ug_bd, ug_ql, ug_qy, ug_any, ug_all, ug_pa, ug_mi, ug_wf, ug_wt⟩, ⟨up_dr, up_au, up_ti, up_er, up_ln, up_tx, up_tk, up_fr, up_to, up_rw, up_pk, up_tn, up_bd, up_ql, up_qy, up_any, up_all, up_pa, up_mi, up_wf, up_wt⟩, ⟨uf_dl, uf_md, uf_pb, uf_dn, uf_sn⟩, ua_dr, ua_au, ua_ti, ua_er, ua_ln, ua_tx, ua_tk, ua_fr, ua_to, ua_rw, ua_pk, ua_tn, ua_bd, ua_ql, ua_qy⟩ := id h16
                refine zx_aload_n dM_post_116 rfl ?_
                refine zx_dup dM_post_117 rfl ?_
                refine zx_get dM_post_118 flM_91 (by assumption) uf_md ?_
                refine zx_iconst (v := nI 1) dM_post_121 (by decide) ?_
                refine zn_iadd dM_post_122 ?_
                refine zx_put dM_post_123 flM_91 tpM_2 (by assumption) rfl rfl ?_
                have h17 := h16.md (z := B.1 + 1)
                refine zx_aload_n dM_post_126 rfl ?_
                refine zx_get dM_post_127 flM_91 (by assumption) (v := .int (nI (B.1 + 1))) (zup_same _ _ _) ?_
                refine zx_iconst (v := nI 1) dM_post_130 (by decide) ?_
                refine zn_isub dM_post_131 (by omega) ?_
                rw [show B.1 + 1 - 1 = B.1 by omega]
                exact zx_iret hE rfl dM_post_132 rfl (Nat.le_of_ble_eq_true rfl) (by refine ⟨_, rfl, rfl, Or.inl ⟨⟨h1, nine h7, by show B.1 < 24; omega, by show B.1 - B.2.1 < 4; omega⟩, rfl, (hf3.tr h10).tr (frI_up (by omega) (by omega)), _, T2, ?_, ⟨h11, h12, h13, h14, h15⟩, h17⟩⟩; exact ⟨rfl, rfl, rfl, by rw [← hD0.1], fun k hk => k5 k (by omega), k5b⟩)
              · refine zx_aload_n dM_post_77 rfl ?_
                refine zx_get dM_post_78 flM_26 (by assumption) (by assumption) ?_
                refine zx_bipush (v := nI 24) dM_post_81 (by decide) ?_
                refine zx_aload_n dM_post_83 rfl ?_
                refine zx_get dM_post_84 flM_91 (by assumption) (by assumption) ?_
                refine zn_imul dM_post_87 ?_
                refine zx_iload_n dM_post_88 rfl ?_
                refine zn_iadd dM_post_89 ?_
                refine zx_aload_n dM_post_90 rfl ?_
                refine zx_get dM_post_91 flM_7 (by assumption) (by assumption) ?_
                refine zx_iload_n dM_post_94 rfl ?_
                refine zn_iald dM_post_95 g_dr rfl (by omega) (by decide) (xa_dr.g (i := i) (by omega) (hD0.2 i (by omega))) ?_
                refine zn_iast dM_post_96 g_tx rfl (by omega) (by decide) ?_
                have h8 := k6.tx (i := 24 * B.1 + i) (z := at0 D i)
                refine zn_iinc (c := 1) dM_post_97 (Nat.le_of_ble_eq_true rfl) rfl rfl ?_
                refine zx_goto (tgt := 69) dM_post_100 rfl ?_
                refine ih (i + 1) _ _ (by omega) (by omega) (fun k hk => ?_) (fun k hk => ?_) h8 (k7.tr (frI_up (by omega) (by omega)))
                · show va_up f1 (24 * B.1 + i) (at0 D i) (24 * B.1 + k) = _
                  unfold va_up
                  by_cases e : k = i
                  · rw [if_pos (by omega), e]
                  · rw [if_neg (by omega)]; exact k5 k (by omega)
                · show va_up f1 (24 * B.1 + i) (at0 D i) k = _
                  unfold va_up
                  rw [if_neg (by omega)]; exact k5b k hk
          refine zx_iconst (v := nI 0) dM_post_67 (by decide) ?_
          refine zx_istore_n dM_post_68 (Nat.le_of_ble_eq_true rfl) rfl rfl ?_
          exact loop _ 0 P.2.2.2.2 _ (Nat.lt_succ_self _) (Nat.zero_le _) (fun k hk => absurd hk (Nat.not_lt_zero _)) (fun k _ => rfl) h10 (hf2.tr (frI_up (by omega) (by omega)))
        · refine zx_iconst (v := -1) dM_post_32 (by decide) ?_
          exact zx_iret hE rfl dM_post_33 rfl (Nat.le_of_ble_eq_true rfl) (by refine ⟨_, rfl, rfl, Or.inr ⟨?_, rfl, frI.rf, hM⟩⟩; rintro ⟨y1, y2, y3, y4⟩; first | exact y1 h1 | exact y2 (nine' h7) | (have y3 : B.1 < 24 := y3; have y4 : B.1 - B.2.1 < 4 := y4; omega))

abbrev mS : Type := (Nat → Nat) × (Nat → Bool)
def pkM (B : mB) (S : mS) (g : Nat) : Bool := livM B g && (fullB B.2.1 g && !S.2 g)
def rwM (w : Nat) (S : mS) (g : Nat) : mS := if S.1 g < w then (va_up S.1 g (S.1 g + 1), S.2) else (S.1, va_up S.2 g true)
def rP (B : mB) (P : mP) (T : mT) : Nat → mS → Nat × mS
  | 0, S => (0, S)
  | u + 1, S => match fst1 (pkM B S) 6 0 with
    | none => (0, S)
    | some g => ((rP B P T u (rwM (sumM B P T g 3 4) S g)).1 + 1, (rP B P T u (rwM (sumM B P T g 3 4) S g)).2)
theorem rP_n {B : mB} {P : mP} {T : mT} {u : Nat} {S : mS} (h : fst1 (pkM B S) 6 0 = none) : rP B P T u S = (0, S) := by
  cases u with
  | zero => rfl
  | succ u => rw [rP, h]
theorem rP_s {B : mB} {P : mP} {T : mT} {u g : Nat} {S : mS} (h : fst1 (pkM B S) 6 0 = some g) : rP B P T (u + 1) S = ((rP B P T u (rwM (sumM B P T g 3 4) S g)).1 + 1, (rP B P T u (rwM (sumM B P T g 3 4) S g)).2) := by
  rw [rP, h]

set_option maxHeartbeats 4000000 in
set_option maxRecDepth 100000 in
theorem kM_pack (G : zG) (d : Nat) (hd : 5 ≤ d) {n : Nat} {sh : zSh} {row : zRw} {m : Nat} {A : Nat × (Nat → Nat)} {B : Nat × Nat × Nat × Nat} {P : (Nat → Int32) × (Nat → Int32) × (Nat → Bool) × (Nat → Nat) × (Nat → Nat)} {T : (Nat → Nat) × (Nat → Nat) × (Nat → Nat)} {S : (Nat → Nat) × (Nat → Bool)} {H : (Nat → Bool) × (Nat → Nat) × (Nat → Nat) × (Nat → Nat)} (hM : MA sh row m A B P T S H) (hO : MOk P T) {v : Int32} (hrw : ∀ j, j < 6 → S.1 j ≤ 5000) (hmd : B.1 ≤ 24) (hpb : B.2.1 ≤ 24) (hdn : B.2.2.1 ≤ 12) : zM G (fM_pack d) [.ref m, .int v] n sh row (zpR sh (fun w row' => w = .int (nI (rP B P T (unN v) S).1) ∧ frI m (m + 21) row row' ∧ MA sh row' m A B P T (rP B P T (unN v) S).2 H)) := by
  refine zM.of (by show plainName "PostIndexModel" = true; decide +kernel) (Nat.le_of_ble_eq_true rfl) (by intro v hv; simp at hv; rcases hv with rfl | rfl <;> rfl) ?_
  intro K hE
  show zX G K (fM_pack d) n 0 0 sh row 0 [.ref m, .int v, .retAddr 0, .retAddr 0] []
  have hD : d - 1 + 1 ≤ d := by omega
  obtain ⟨⟨go, g_dr, g_au, g_ti, g_er, g_ln, g_tx, g_tk, g_fr, g_to, g_rw, g_pk, g_tn, g_bd, g_ql, g_qy, g_any, g_all, g_pa, g_mi, g_wf, g_wt⟩, ⟨p_dr, p_au, p_ti, p_er, p_ln, p_tx, p_tk, p_fr, p_to, p_rw, p_pk, p_tn, p_bd, p_ql, p_qy, p_any, p_all, p_pa, p_mi, p_wf, p_wt⟩, ⟨f_dl, f_md, f_pb, f_dn, f_sn⟩, a_dr, a_au, a_ti, a_er, a_ln, a_tx, a_tk, a_fr, a_to, a_rw, a_pk, a_tn, a_bd, a_ql, a_qy⟩ := id hM
  refine zx_iload_n dM_pack_0 rfl ?_
  refine zx_iconst (v := nI 1) dM_pack_1 (by decide) ?_
  refine zx_icmp_lt (tgt := 11) dM_pack_2 rfl (fun h2 => ?_) (fun h2 => ?_)
  · refine zx_iconst (v := nI 0) dM_pack_11 (by decide) ?_
    exact zx_iret hE rfl dM_pack_12 rfl (Nat.le_of_ble_eq_true rfl) (by have e : unN v = 0 := (by unfold unN; first | rw [if_pos (Or.inl h2)] | rw [if_pos (Or.inr (Int32.not_le.mp h8))]); rw [e]; exact ⟨_, rfl, rfl, rfl, frI.rf, hM⟩)
  · refine zx_iload_n dM_pack_5 rfl ?_
    refine zx_bipush (v := nI 6) dM_pack_6 (by decide) ?_
    refine zx_icmp_le (tgt := 13) dM_pack_8 rfl (fun h8 => ?_) (fun h8 => ?_)
    · obtain ⟨hv, hu6⟩ := unN_of (u := 0) h2 h8
      generalize unN v = u at *
      subst hv
      have loop : ∀ (k i : Nat) (S1 : mS) (v3 : Value) (r2 : zRw), u - i < k → i ≤ u → v3.category = 1 → (∀ j, j < 6 → S1.1 j ≤ 5000) → rP B P T u S = (i + (rP B P T (u - i) S1).1, (rP B P T (u - i) S1).2) → MA sh r2 m A B P T S1 H → frI m (m + 21) row r2 → zX G K (fM_pack d) n 0 0 sh r2 15 [.ref m, .int (nI u), .int (nI i), v3] [] := by
        intro k
        induction k with
        | zero => intro i S1 v3 r2 hk; exact absurd hk (Nat.not_lt_zero _)
        | succ k ih =>
          intro i S1 v3 r2 hk h3 hv3 hS1 h5 h6 h7
          obtain ⟨⟨xgo, xg_dr, xg_au, xg_ti, xg_er, xg_ln, xg_tx, xg_tk, xg_fr, xg_to, xg_rw, xg_pk, xg_tn, xg_bd, xg_ql, xg_qy, xg_any, xg_all, xg_pa, xg_mi, xg_wf, xg_wt⟩, ⟨xp_dr, xp_au, xp_ti, xp_er, xp_ln, xp_tx, xp_tk, xp_fr, xp_to, xp_rw, xp_pk, xp_tn, xp_bd, xp_ql, xp_qy, xp_any, xp_all, xp_pa, xp_mi, xp_wf, xp_wt⟩, ⟨xf_dl, xf_md, xf_pb, xf_dn, xf_sn⟩, xa_dr, xa_au, xa_ti, xa_er, xa_ln, xa_tx, xa_tk, xa_fr, xa_to, xa_rw, xa_pk, xa_tn, xa_bd, xa_ql, xa_qy⟩ := id h6
          have at59 : ∀ g, (6 = g ∧ fst1 (pkM B S1) 6 0 = none) ∨ (g < 6 ∧ fst1 (pkM B S1) 6 0 = some g) → i < u → zX G K (fM_pack d) n 0 0 sh r2 59 [.ref m, .int (nI u), .int (nI i), .int (nI g)] [] := by
            intro g hgg hiu
            have hg6 : g ≤ 6 := by rcases hgg with hh | hh <;> omega
            refine zx_iload_n dM_pack_59 rfl ?_
            refine zx_bipush (v := nI 6) dM_pack_60 (by decide) ?_
            refine zn_icmp_ne (tgt := 67) dM_pack_62 rfl (by omega) (by omega) (fun h62 => ?_) (fun h62 => ?_)
            · refine zx_aload_n dM_pack_67 rfl ?_
              refine zx_get dM_pack_68 flM_38 (by assumption) (by assumption) ?_
              refine zx_iload_n dM_pack_71 rfl ?_
              have hrg := hS1 g (by omega)
              refine zn_iald dM_pack_72 g_rw rfl (by omega) (by decide) (xa_rw g (by omega)) ?_
              refine zx_aload_n dM_pack_73 rfl ?_
              refine zx_iload_n dM_pack_74 rfl ?_
              refine zx_iconst (v := nI 3) dM_pack_75 (by decide) ?_
              have hsl := sumM_le (w := 3) (d := 4) (B := B) hO (g := g) (by omega) (by omega) hdn
              refine zc_V (n0 := n) (ce := 0) (kM_sum G (d - 1) (by omega) h6 hO (g := g) (w := 3) (by omega) (by omega) hmd hpb hdn) (meM_sum _) lkM_132 go rfl rfl hD (Nat.le_of_ble_eq_true rfl) rfl rfl (Nat.le_of_ble_eq_true rfl) (Nat.le_of_ble_eq_true rfl) (Nat.le_of_ble_eq_true rfl) dM_pack_76 ?_
              refine zn_icmp_ge (tgt := 95) dM_pack_79 rfl (by omega) (by omega) (fun h79 => ?_) (fun h79 => ?_)
              · refine zx_aload_n dM_pack_95 rfl ?_
                refine zx_get dM_pack_96 flM_41 (by assumption) (by assumption) ?_
                refine zx_iload_n dM_pack_99 rfl ?_
                refine zx_iconst (v := nI 1) dM_pack_100 (by decide) ?_
                refine zn_zast (b := true) dM_pack_101 g_pk rfl (by omega) (by decide) ?_
                have h8 := h6.pk (i := g) (z := true)
                have h9 : rwM (sumM B P T g 3 4) S1 g = (S1.1, va_up S1.2 g true) := by unfold rwM; rw [if_neg (by omega)]
                have h11 := hS1
                refine zn_iinc (c := 1) dM_pack_102 (Nat.le_of_ble_eq_true rfl) (by first | rfl | (simp only [List.set, List.all_cons, List.all_nil, hv3]; done) | (simp only [List.set, List.all_cons, List.all_nil, hv3]; rfl)) rfl ?_
                refine zx_goto (tgt := 15) dM_pack_105 rfl ?_
                refine ih (i + 1) (rwM (sumM B P T g 3 4) S1 g) (.int (nI g)) _ (by omega) (by omega) rfl (by rw [h9]; exact h11) ?_ (by rw [h9]; exact h8) (h7.tr (frI_up (by omega) (by omega)))
                rcases hgg with ⟨_, hgn⟩ | ⟨_, hgs⟩
                · omega
                rw [h5, show u - i = u - (i + 1) + 1 by omega, rP_s hgs]
                refine Prod.ext ?_ rfl
                show i + (_ + 1) = i + 1 + _
                omega
              · refine zx_aload_n dM_pack_82 rfl ?_
                refine zx_get dM_pack_83 flM_38 (by assumption) (by assumption) ?_
                refine zx_iload_n dM_pack_86 rfl ?_
                refine zx_dup2 dM_pack_87 rfl rfl ?_
                refine zn_iald dM_pack_88 g_rw rfl (by omega) (by decide) (xa_rw g (by omega)) ?_
                refine zx_iconst (v := nI 1) dM_pack_89 (by decide) ?_
                refine zn_iadd dM_pack_90 ?_
                refine zn_iast dM_pack_91 g_rw rfl (by omega) (by decide) ?_
                have h8 := h6.rw (i := g) (z := S1.1 g + 1)
                have h9 : rwM (sumM B P T g 3 4) S1 g = (va_up S1.1 g (S1.1 g + 1), S1.2) := by unfold rwM; rw [if_pos (by omega)]
                have h11 : ∀ j, j < 6 → va_up S1.1 g (S1.1 g + 1) j ≤ 5000 := fun j hj => by unfold va_up; split <;> first | omega | exact hS1 j hj
                refine zx_goto (tgt := 102) dM_pack_92 rfl ?_
                refine zn_iinc (c := 1) dM_pack_102 (Nat.le_of_ble_eq_true rfl) (by first | rfl | (simp only [List.set, List.all_cons, List.all_nil, hv3]; done) | (simp only [List.set, List.all_cons, List.all_nil, hv3]; rfl)) rfl ?_
                refine zx_goto (tgt := 15) dM_pack_105 rfl ?_
                refine ih (i + 1) (rwM (sumM B P T g 3 4) S1 g) (.int (nI g)) _ (by omega) (by omega) rfl (by rw [h9]; exact h11) ?_ (by rw [h9]; exact h8) (h7.tr (frI_up (by omega) (by omega)))
                rcases hgg with ⟨_, hgn⟩ | ⟨_, hgs⟩
                · omega
                rw [h5, show u - i = u - (i + 1) + 1 by omega, rP_s hgs]
                refine Prod.ext ?_ rfl
                show i + (_ + 1) = i + 1 + _
                omega
            · refine zx_iload_n dM_pack_65 rfl ?_
              exact zx_iret hE rfl dM_pack_66 rfl (Nat.le_of_ble_eq_true rfl) (by rcases hgg with ⟨_, hgn⟩ | ⟨hgl, hgs⟩; (rw [rP_n hgn] at h5; rw [h5]; exact ⟨_, rfl, rfl, rfl, h7, h6⟩); omega)
          have gl : ∀ (k2 g : Nat), 6 - g < k2 → g ≤ 6 → fst1 (pkM B S1) (6 - g) g = fst1 (pkM B S1) 6 0 → i < u → zX G K (fM_pack d) n 0 0 sh r2 22 [.ref m, .int (nI u), .int (nI i), .int (nI g)] [] := by
            intro k2
            induction k2 with
            | zero => intro g hk; exact absurd hk (Nat.not_lt_zero _)
            | succ k2 ihg =>
              intro g hk2 g3 g4 hiu
              refine zx_iload_n dM_pack_22 rfl ?_
              refine zx_bipush (v := nI 6) dM_pack_23 (by decide) ?_
              refine zn_icmp_ge (tgt := 59) dM_pack_25 rfl (by omega) (by omega) (fun h25 => ?_) (fun h25 => ?_)
              · first
                | exact at59 g (Or.inl ⟨by omega, by rw [← g4, show 6 - g = 0 by omega]; rfl⟩) hiu
                | exact at59 g (Or.inr ⟨by omega, by rw [← g4, fst1_t (by omega) (by unfold pkM; rw [h33, h41, show S1.2 g = false from h50]; rfl)]⟩) hiu
              · refine zx_aload_n dM_pack_28 rfl ?_
                refine zx_iload_n dM_pack_29 rfl ?_
                refine zc_V (n0 := n) (ce := 0) (kM_full G (d - 1) (by omega) h6 (g := g) (by omega) hmd hpb (by omega)) (meM_full _) lkM_129 go rfl rfl hD (Nat.le_of_ble_eq_true rfl) rfl rfl (Nat.le_of_ble_eq_true rfl) (Nat.le_of_ble_eq_true rfl) (Nat.le_of_ble_eq_true rfl) dM_pack_30 ?_
                refine zb_if_eq (tgt := 53) dM_pack_33 rfl (fun h33 => ?_) (fun h33 => ?_)
                · refine zn_iinc (c := 1) dM_pack_53 (Nat.le_of_ble_eq_true rfl) (by first | rfl | (simp only [List.set, List.all_cons, List.all_nil, hv3]; done) | (simp only [List.set, List.all_cons, List.all_nil, hv3]; rfl)) rfl ?_
                  refine zx_goto (tgt := 22) dM_pack_56 rfl ?_
                  have hp : pkM B S1 g = false := by unfold pkM; first | (rw [h33]; simp; done) | (rw [h33, h41]; simp; done) | (rw [h33, h41, show S1.2 g = true from h50]; simp)
                  exact ihg (g + 1) (by omega) (by omega) (by rw [← g4, fst1_f (k := 6 - g) (by omega) hp, show 6 - g - 1 = 6 - (g + 1) by omega]) hiu
                · refine zx_aload_n dM_pack_36 rfl ?_
                  refine zx_iload_n dM_pack_37 rfl ?_
                  refine zc_V (n0 := n) (ce := 0) (kM_live G (d - 1) (by omega) h6 (g := g) (by omega) hmd hpb (by omega)) (meM_live _) lkM_85 go rfl rfl hD (Nat.le_of_ble_eq_true rfl) rfl rfl (Nat.le_of_ble_eq_true rfl) (Nat.le_of_ble_eq_true rfl) (Nat.le_of_ble_eq_true rfl) dM_pack_38 ?_
                  refine zb_if_eq (tgt := 53) dM_pack_41 rfl (fun h41 => ?_) (fun h41 => ?_)
                  · refine zn_iinc (c := 1) dM_pack_53 (Nat.le_of_ble_eq_true rfl) (by first | rfl | (simp only [List.set, List.all_cons, List.all_nil, hv3]; done) | (simp only [List.set, List.all_cons, List.all_nil, hv3]; rfl)) rfl ?_
                    refine zx_goto (tgt := 22) dM_pack_56 rfl ?_
                    have hp : pkM B S1 g = false := by unfold pkM; first | (rw [h33]; simp; done) | (rw [h33, h41]; simp; done) | (rw [h33, h41, show S1.2 g = true from h50]; simp)
                    exact ihg (g + 1) (by omega) (by omega) (by rw [← g4, fst1_f (k := 6 - g) (by omega) hp, show 6 - g - 1 = 6 - (g + 1) by omega]) hiu
                  · refine zx_aload_n dM_pack_44 rfl ?_
                    refine zx_get dM_pack_45 flM_41 (by assumption) (by assumption) ?_
                    refine zx_iload_n dM_pack_48 rfl ?_
                    refine zn_zald dM_pack_49 g_pk rfl (by omega) (by decide) (xa_pk g (by omega)) ?_
                    refine zb_if_eq (tgt := 59) dM_pack_50 rfl (fun h50 => ?_) (fun h50 => ?_)
                    · first
                      | exact at59 g (Or.inl ⟨by omega, by rw [← g4, show 6 - g = 0 by omega]; rfl⟩) hiu
                      | exact at59 g (Or.inr ⟨by omega, by rw [← g4, fst1_t (by omega) (by unfold pkM; rw [h33, h41, show S1.2 g = false from h50]; rfl)]⟩) hiu
                    · refine zn_iinc (c := 1) dM_pack_53 (Nat.le_of_ble_eq_true rfl) (by first | rfl | (simp only [List.set, List.all_cons, List.all_nil, hv3]; done) | (simp only [List.set, List.all_cons, List.all_nil, hv3]; rfl)) rfl ?_
                      refine zx_goto (tgt := 22) dM_pack_56 rfl ?_
                      have hp : pkM B S1 g = false := by unfold pkM; first | (rw [h33]; simp; done) | (rw [h33, h41]; simp; done) | (rw [h33, h41, show S1.2 g = true from h50]; simp)
                      exact ihg (g + 1) (by omega) (by omega) (by rw [← g4, fst1_f (k := 6 - g) (by omega) hp, show 6 - g - 1 = 6 - (g + 1) by omega]) hiu
          refine zx_iload_n dM_pack_15 rfl ?_
          refine zx_iload_n dM_pack_16 rfl ?_
          refine zn_icmp_ge (tgt := 108) dM_pack_17 rfl (by omega) (by omega) (fun h17 => ?_) (fun h17 => ?_)
          · refine zx_iload_n dM_pack_108 rfl ?_
            exact zx_iret hE rfl dM_pack_109 rfl (Nat.le_of_ble_eq_true rfl) (by rw [show u - i = 0 by omega] at h5; rw [h5]; exact ⟨_, rfl, rfl, by show Value.int (nI u) = .int (nI (i + 0)); rw [show i + 0 = u by omega], h7, h6⟩)
          · refine zx_iconst (v := nI 0) dM_pack_20 (by decide) ?_
            refine zx_istore_n dM_pack_21 (Nat.le_of_ble_eq_true rfl) (by first | rfl | (simp only [List.set, List.all_cons, List.all_nil, hv3]; done) | (simp only [List.set, List.all_cons, List.all_nil, hv3]; rfl)) rfl ?_
            exact gl _ 0 (Nat.lt_succ_self _) (by omega) rfl (by omega)
      refine zx_iconst (v := nI 0) dM_pack_13 (by decide) ?_
      refine zx_istore_n dM_pack_14 (Nat.le_of_ble_eq_true rfl) rfl rfl ?_
      exact loop _ 0 S _ row (Nat.lt_succ_self _) (Nat.zero_le _) rfl hrw (by rw [Nat.zero_add]; rfl) hM frI.rf
    · refine zx_iconst (v := nI 0) dM_pack_11 (by decide) ?_
      exact zx_iret hE rfl dM_pack_12 rfl (Nat.le_of_ble_eq_true rfl) (by have e : unN v = 0 := (by unfold unN; first | rw [if_pos (Or.inl h2)] | rw [if_pos (Or.inr (Int32.not_le.mp h8))]); rw [e]; exact ⟨_, rfl, rfl, rfl, frI.rf, hM⟩)

