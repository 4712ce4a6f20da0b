def dA (A : Nat × (Nat → Nat)) (D : List Nat) : Prop := A.1 = D.length ∧ ∀ k, k < D.length → A.2 k = at0 D k
def txA (P : mP) (i : Nat) (xs : List Nat) : Prop := P.2.2.2.1 i = xs.length ∧ ∀ k, k < xs.length → P.2.2.2.2 (24 * i + k) = at0 xs k
abbrev mH : Type := (Nat → Bool) × (Nat → Nat) × (Nat → Nat) × (Nat → Nat)
def qyA (H : mH) (j : Nat) (xs : List Nat) : Prop := H.2.2.1 j = xs.length ∧ ∀ k, k < xs.length → H.2.2.2 (24 * j + k) = at0 xs k
theorem arrI.g {row : zRw} {a N i z : Nat} {f : Nat → Nat} (h : arrI row a N (fun k => nI (f k))) (hi : i < N) (e : f i = z) : row a i = .int (nI z) := by rw [h i hi]; show Value.int (nI (f i)) = _; rw [e]
theorem at0_app1 {xs ys : List Nat} {k : Nat} (h : k < xs.length) : at0 (xs ++ ys) k = at0 xs k := by
  unfold at0; rw [List.getD_eq_getElem?_getD, List.getD_eq_getElem?_getD, List.getElem?_append_left h]
theorem at0_app2 {xs : List Nat} {z : Nat} : at0 (xs ++ [z]) xs.length = z := by
  unfold at0; rw [List.getD_eq_getElem?_getD, List.getElem?_append_right (Nat.le_refl _), Nat.sub_self]; rfl
theorem take_snoc0 {xs : List Nat} {i : Nat} (h : i < xs.length) : xs.take (i + 1) = xs.take i ++ [at0 xs i] := by
  unfold at0; rw [List.take_add_one, List.getD_eq_getElem?_getD, List.getElem?_eq_getElem h]; rfl
theorem dA.push {A : Nat × (Nat → Nat)} {D : List Nat} {z : Nat} (h : dA A D) : dA (A.1 + 1, va_up A.2 A.1 z) (D ++ [z]) := by
  refine ⟨by rw [List.length_append]; show A.1 + 1 = _; rw [h.1]; rfl, fun k hk => ?_⟩
  show va_up A.2 A.1 z k = _
  unfold va_up
  rw [List.length_append] at hk
  by_cases e : k = A.1
  · rw [if_pos e, e, h.1, at0_app2]
  · rw [if_neg e, at0_app1 (by have := h.1; simp at hk; omega)]
    exact h.2 k (by have := h.1; simp at hk; omega)

set_option maxHeartbeats 4000000 in
set_option maxRecDepth 100000 in
theorem kM_quote (G : zG) (d : Nat) (hd : 3 ≤ d) {n : Nat} {sh : zSh} {row : zRw} {m : Nat} {A : Nat × (Nat → Nat)} {B : Nat × Nat × Nat × Nat} {P : (Nat → Int32) × (Nat → Int32) × (Nat → Bool) × (Nat → Nat) × (Nat → Nat)} {T : (Nat → Nat) × (Nat → Nat) × (Nat → Nat)} {S : (Nat → Nat) × (Nat → Bool)} {H : (Nat → Bool) × (Nat → Nat) × (Nat → Nat) × (Nat → Nat)} (hM : MA sh row m A B P T S H) {j : Nat} (hj : j < 2147483648) {D xs : List Nat} (hD0 : dA A D) (hDl : D.length ≤ 24) (hx : j < B.2.1 → txA P j xs) (hxl : xs.length ≤ 24) (hmd : B.1 ≤ 24) (hpb : B.2.1 ≤ 24) (hdn : B.2.2.1 ≤ 12) : zM G (fM_quote d) [.ref m, .int (nI j)] n sh row (zpR sh (fun v row' => v = .int (if shoB B P.2.2.1 j = true then nI (min xs.length (24 - D.length)) else -1) ∧ frI m (m + 21) row row' ∧ ∃ A', dA A' (if shoB B P.2.2.1 j = true then D ++ xs.take (min xs.length (24 - D.length)) else D) ∧ MA sh row' m A' B P T S H)) := by
  refine zM.of (by show plainName "PostIndexModel" = true; decide +kernel) (Nat.le_of_ble_eq_true rfl) (by intro v hv; simp at hv; rcases hv with rfl | rfl <;> rfl) ?_
  intro K hE
  show zX G K (fM_quote d) n 0 0 sh row 0 [.ref m, .int (nI j), .retAddr 0] []
  have hD : d - 1 + 1 ≤ d := by omega
  obtain ⟨⟨go, g_dr, g_au, g_ti, g_er, g_ln, g_tx, g_tk, g_fr, g_to, g_rw, g_pk, g_tn, g_bd, g_ql, g_qy, g_any, g_all, g_pa, g_mi, g_wf, g_wt⟩, ⟨p_dr, p_au, p_ti, p_er, p_ln, p_tx, p_tk, p_fr, p_to, p_rw, p_pk, p_tn, p_bd, p_ql, p_qy, p_any, p_all, p_pa, p_mi, p_wf, p_wt⟩, ⟨f_dl, f_md, f_pb, f_dn, f_sn⟩, a_dr, a_au, a_ti, a_er, a_ln, a_tx, a_tk, a_fr, a_to, a_rw, a_pk, a_tn, a_bd, a_ql, a_qy⟩ := id hM
  refine zx_aload_n dM_quote_0 rfl ?_
  refine zx_iload_n dM_quote_1 rfl ?_
  refine zc_V (n0 := n) (ce := 0) (kM_shown G (d - 1) (by omega) hM hj hmd hpb (by omega)) (meM_shown _) lkM_88 go rfl rfl hD (Nat.le_of_ble_eq_true rfl) rfl rfl (Nat.le_of_ble_eq_true rfl) (Nat.le_of_ble_eq_true rfl) (Nat.le_of_ble_eq_true rfl) dM_quote_2 ?_
  refine zb_if_ne (tgt := 10) dM_quote_5 rfl (fun h5 => ?_) (fun h5 => ?_)
  · have hsh := h5
    have hjp : j < B.2.1 := by unfold shoB at h5; simp at h5; omega
    replace hx := hx hjp
    have loop : ∀ (k : Nat) (i : Nat) (A1 : Nat × (Nat → Nat)) (r2 : zRw), xs.length - i < k → i ≤ xs.length → D.length + i ≤ 24 → dA A1 (D ++ xs.take i) → MA sh r2 m A1 B P T S H → frI m (m + 21) row r2 → zX G K (fM_quote d) n 0 0 sh r2 12 [.ref m, .int (nI j), .int (nI i)] [] := by
      intro k
      induction k with
      | zero => intro i A1 r2 hk; exact absurd hk (Nat.not_lt_zero _)
      | succ k ih =>
        intro i A1 r2 hk h3 h4 h5 h6 h7
        obtain ⟨⟨xgo, xg_dr, xg_au, xg_ti, xg_er, xg_ln, xg_tx, xg_tk, xg_fr, xg_to, xg_rw, xg_pk, xg_tn, xg_bd, xg_ql, xg_qy, xg_any, xg_all, xg_pa, xg_mi, xg_wf, xg_wt⟩, ⟨xp_dr, xp_au, xp_ti, xp_er, xp_ln, xp_tx, xp_tk, xp_fr, xp_to, xp_rw, xp_pk, xp_tn, xp_bd, xp_ql, xp_qy, xp_any, xp_all, xp_pa, xp_mi, xp_wf, xp_wt⟩, ⟨xf_dl, xf_md, xf_pb, xf_dn, xf_sn⟩, xa_dr, xa_au, xa_ti, xa_er, xa_ln, xa_tx, xa_tk, xa_fr, xa_to, xa_rw, xa_pk, xa_tn, xa_bd, xa_ql, xa_qy⟩ := id h6
        have hl : A1.1 = D.length + i := by rw [h5.1, List.length_append, List.length_take]; omega
        refine zx_iload_n dM_quote_12 rfl ?_
        refine zx_aload_n dM_quote_13 rfl ?_
        refine zx_get dM_quote_14 flM_23 (by assumption) (by assumption) ?_
        refine zx_iload_n dM_quote_17 rfl ?_
        refine zn_iald dM_quote_18 g_ln rfl (by omega) (by decide) (xa_ln.g (i := j) (by omega) hx.1) ?_
        refine zn_icmp_ge (tgt := 67) dM_quote_19 rfl (by omega) (by omega) (fun h19 => ?_) (fun h19 => ?_)
        · refine zx_iload_n dM_quote_67 rfl ?_
          exact zx_iret hE rfl dM_quote_68 rfl (Nat.le_of_ble_eq_true rfl) (by have he : i = min xs.length (24 - D.length) := (by omega); refine ⟨_, rfl, rfl, by rw [if_pos hsh, he], h7, A1, ?_, h6⟩; rw [if_pos hsh, ← he]; exact h5)
        · refine zx_aload_n dM_quote_22 rfl ?_
          refine zx_get dM_quote_23 flM_78 (by assumption) (by assumption) ?_
          refine zx_bipush (v := nI 24) dM_quote_26 (by decide) ?_
          refine zn_icmp_ge (tgt := 67) dM_quote_28 rfl (by omega) (by omega) (fun h28 => ?_) (fun h28 => ?_)
          · refine zx_iload_n dM_quote_67 rfl ?_
            exact zx_iret hE rfl dM_quote_68 rfl (Nat.le_of_ble_eq_true rfl) (by have he : i = min xs.length (24 - D.length) := (by omega); refine ⟨_, rfl, rfl, by rw [if_pos hsh, he], h7, A1, ?_, h6⟩; rw [if_pos hsh, ← he]; exact h5)
          · refine zx_aload_n dM_quote_31 rfl ?_
            refine zx_get dM_quote_32 flM_7 (by assumption) (by assumption) ?_
            refine zx_aload_n dM_quote_35 rfl ?_
            refine zx_get dM_quote_36 flM_78 (by assumption) (by assumption) ?_
            refine zx_aload_n dM_quote_39 rfl ?_
            refine zx_get dM_quote_40 flM_26 (by assumption) (by assumption) ?_
            refine zx_bipush (v := nI 24) dM_quote_43 (by decide) ?_
            refine zx_iload_n dM_quote_45 rfl ?_
            refine zn_imul dM_quote_46 ?_
            refine zx_iload_n dM_quote_47 rfl ?_
            refine zn_iadd dM_quote_48 ?_
            have hxi := hx.2 i (by omega)
            refine zn_iald dM_quote_49 g_tx rfl (by omega) (by decide) (xa_tx.g (i := 24 * j + i) (by omega) hxi) ?_
            refine zn_iast dM_quote_50 g_dr rfl (by omega) (by decide) ?_
            have h8 := h6.dr (i := A1.1) (z := at0 xs i)
            have f2 : zup r2 (m + 1) A1.1 (.int (nI (at0 xs i))) m 0 = .int (nI A1.1) := by rw [zup_ne (by omega)]; exact xf_dl
            refine zx_aload_n dM_quote_51 rfl ?_
            refine zx_dup dM_quote_52 rfl ?_
            refine zx_get dM_quote_53 flM_78 (by assumption) (by assumption) ?_
            refine zx_iconst (v := nI 1) dM_quote_56 (by decide) ?_
            refine zn_iadd dM_quote_57 ?_
            refine zx_put dM_quote_58 flM_78 tpM_0 (by assumption) rfl rfl ?_
            refine zn_iinc (c := 1) dM_quote_61 (Nat.le_of_ble_eq_true rfl) rfl rfl ?_
            refine zx_goto (tgt := 12) dM_quote_64 rfl ?_
            have h9 := h8.dl (z := A1.1 + 1)
            refine ih (i + 1) (A1.1 + 1, va_up A1.2 A1.1 (at0 xs i)) _ (by omega) (by omega) (by omega) ?_ h9 ((h7.tr (frI_up (by omega) (by omega))).tr (frI_up (by omega) (by omega)))
            rw [take_snoc0 (by omega), ← List.append_assoc]
            exact h5.push
    refine zx_iconst (v := nI 0) dM_quote_10 (by decide) ?_
    refine zx_istore_n dM_quote_11 (Nat.le_of_ble_eq_true rfl) rfl rfl ?_
    exact loop _ 0 A row (Nat.lt_succ_self _) (Nat.zero_le _) (by omega) (by rw [List.take_zero, List.append_nil]; exact hD0) hM frI.rf
  · refine zx_iconst (v := -1) dM_quote_8 (by decide) ?_
    exact zx_iret hE rfl dM_quote_9 rfl (Nat.le_of_ble_eq_true rfl) (by refine ⟨_, rfl, rfl, by rw [if_neg (by rw [h5]; decide)], frI.rf, A, by rw [if_neg (by rw [h5]; decide)]; exact hD0, hM⟩)

set_option maxHeartbeats 4000000 in
set_option maxRecDepth 100000 in
theorem kM_at (G : zG) (d : Nat) (hd : 0 ≤ d) {n : Nat} {sh : zSh} {row : zRw} {m : Nat} {A : Nat × (Nat → Nat)} {B : Nat × Nat × Nat × Nat} {P : (Nat → Int32) × (Nat → Int32) × (Nat → Bool) × (Nat → Nat) × (Nat → Nat)} {T : (Nat → Nat) × (Nat → Nat) × (Nat → Nat)} {S : (Nat → Nat) × (Nat → Bool)} {H : (Nat → Bool) × (Nat → Nat) × (Nat → Nat) × (Nat → Nat)} (hM : MA sh row m A B P T S H) {j k : Nat} {xs : List Nat} (hj : j < 4) (hq : qyA H j xs) (hl : xs.length ≤ 24) (hk : k < 2147483648) : zM G (fM_at d) [.ref m, .int (nI j), .int (nI k)] n sh row (zP sh row (.int (nI (if k < xs.length then at0 xs k else 32)))) := by
  refine zM.of (by show plainName "PostIndexModel" = true; decide +kernel) (Nat.le_of_ble_eq_true rfl) (by intro v hv; simp at hv; rcases hv with rfl | rfl | rfl <;> rfl) ?_
  intro K hE
  show zX G K (fM_at d) n 0 0 sh row 0 [.ref m, .int (nI j), .int (nI k)] []
  obtain ⟨⟨go, g_dr, g_au, g_ti, g_er, g_ln, g_tx, g_tk, g_fr, g_to, g_rw, g_pk, g_tn, g_bd, g_ql, g_qy, g_any, g_all, g_pa, g_mi, g_wf, g_wt⟩, ⟨p_dr, p_au, p_ti, p_er, p_ln, p_tx, p_tk, p_fr, p_to, p_rw, p_pk, p_tn, p_bd, p_ql, p_qy, p_any, p_all, p_pa, p_mi, p_wf, p_wt⟩, ⟨f_dl, f_md, f_pb, f_dn, f_sn⟩, a_dr, a_au, a_ti, a_er, a_ln, a_tx, a_tk, a_fr, a_to, a_rw, a_pk, a_tn, a_bd, a_ql, a_qy⟩ := id hM
  refine zx_iload_n dM_at_0 rfl ?_
  refine zx_aload_n dM_at_1 rfl ?_
  refine zx_get dM_at_2 flM_50 (by assumption) (by assumption) ?_
  refine zx_iload_n dM_at_5 rfl ?_
  refine zn_iald dM_at_6 g_ql rfl (by omega) (by decide) (a_ql.g hj hq.1) ?_
  refine zn_icmp_ge (tgt := 24) dM_at_7 rfl (by omega) (by omega) (fun h7 => ?_) (fun h7 => ?_)
  · refine zx_bipush (v := nI 32) dM_at_24 (by decide) ?_
    exact zx_iret hE rfl dM_at_26 rfl (Nat.le_of_ble_eq_true rfl) ⟨by first | rw [if_pos (by omega)] | rw [if_neg (by omega)], rfl, rfl⟩
  · refine zx_aload_n dM_at_10 rfl ?_
    refine zx_get dM_at_11 flM_53 (by assumption) (by assumption) ?_
    refine zx_bipush (v := nI 24) dM_at_14 (by decide) ?_
    refine zx_iload_n dM_at_16 rfl ?_
    refine zn_imul dM_at_17 ?_
    refine zx_iload_n dM_at_18 rfl ?_
    refine zn_iadd dM_at_19 ?_
    refine zn_iald dM_at_20 g_qy rfl (by omega) (by decide) (a_qy.g (i := 24 * j + k) (by omega) (hq.2 k (by omega))) ?_
    refine zx_goto (tgt := 26) dM_at_21 rfl ?_
    exact zx_iret hE rfl dM_at_26 rfl (Nat.le_of_ble_eq_true rfl) ⟨by first | rw [if_pos (by omega)] | rw [if_neg (by omega)], rfl, rfl⟩

set_option maxHeartbeats 4000000 in
set_option maxRecDepth 100000 in
theorem kM_copy (G : zG) (d : Nat) (hd : 0 ≤ d) {n : Nat} {sh : zSh} {row : zRw} {m : Nat} {A : Nat × (Nat → Nat)} {B : Nat × Nat × Nat × Nat} {P : (Nat → Int32) × (Nat → Int32) × (Nat → Bool) × (Nat → Nat) × (Nat → Nat)} {T : (Nat → Nat) × (Nat → Nat) × (Nat → Nat)} {S : (Nat → Nat) × (Nat → Bool)} {H : (Nat → Bool) × (Nat → Nat) × (Nat → Nat) × (Nat → Nat)} (hM : MA sh row m A B P T S H) {j : Nat} {D : List Nat} (hj : j < 4) (hD0 : dA A D) (hDl : D.length ≤ 24) : zM G (fM_copy d) [.ref m, .int (nI j)] n sh row (zpV sh (fun row' => frI m (m + 21) row row' ∧ ∃ f1 : Nat → Nat, (∀ k, k < D.length → f1 (24 * j + k) = at0 D k) ∧ (∀ k, (k < 24 * j ∨ 24 * j + 24 ≤ k) → f1 k = H.2.2.2 k) ∧ MA sh row' m A B P T S (H.1, H.2.1, va_up H.2.2.1 j A.1, f1))) := by
  refine zM.of (by show plainName "PostIndexModel" = true; decide +kernel) (Nat.le_of_ble_eq_true rfl) (by intro v hv; simp at hv; rcases hv with rfl | rfl <;> rfl) ?_
  intro K hE
  show zX G K (fM_copy d) n 0 0 sh row 0 [.ref m, .int (nI j), .retAddr 0] []
  obtain ⟨⟨go, g_dr, g_au, g_ti, g_er, g_ln, g_tx, g_tk, g_fr, g_to, g_rw, g_pk, g_tn, g_bd, g_ql, g_qy, g_any, g_all, g_pa, g_mi, g_wf, g_wt⟩, ⟨p_dr, p_au, p_ti, p_er, p_ln, p_tx, p_tk, p_fr, p_to, p_rw, p_pk, p_tn, p_bd, p_ql, p_qy, p_any, p_all, p_pa, p_mi, p_wf, p_wt⟩, ⟨f_dl, f_md, f_pb, f_dn, f_sn⟩, a_dr, a_au, a_ti, a_er, a_ln, a_tx, a_tk, a_fr, a_to, a_rw, a_pk, a_tn, a_bd, a_ql, a_qy⟩ := id hM
  have loop : ∀ (k : Nat) (i : Nat) (f1 : Nat → Nat) (r2 : zRw), D.length - i < k → i ≤ D.length → (∀ k, k < i → f1 (24 * j + k) = at0 D k) → (∀ k, (k < 24 * j ∨ 24 * j + 24 ≤ k) → f1 k = H.2.2.2 k) → MA sh r2 m A B P T S (H.1, H.2.1, va_up H.2.2.1 j A.1, f1) → frI m (m + 21) row r2 → zX G K (fM_copy d) n 0 0 sh r2 12 [.ref m, .int (nI j), .int (nI i)] [] := by
    intro k
    induction k with
    | zero => intro i f1 r2 hk; exact absurd hk (Nat.not_lt_zero _)
    | succ k ih =>
      intro i f1 r2 hk h3 h5 h5b h6 h7
      obtain ⟨⟨xgo, xg_dr, xg_au, xg_ti, xg_er, xg_ln, xg_tx, xg_tk, xg_fr, xg_to, xg_rw, xg_pk, xg_tn, xg_bd, xg_ql, xg_qy, xg_any, xg_all, xg_pa, xg_mi, xg_wf, xg_wt⟩, ⟨xp_dr, xp_au, xp_ti, xp_er, xp_ln, xp_tx, xp_tk, xp_fr, xp_to, xp_rw, xp_pk, xp_tn, xp_bd, xp_ql, xp_qy, xp_any, xp_all, xp_pa, xp_mi, xp_wf, xp_wt⟩, ⟨xf_dl, xf_md, xf_pb, xf_dn, xf_sn⟩, xa_dr, xa_au, xa_ti, xa_er, xa_ln, xa_tx, xa_tk, xa_fr, xa_to, xa_rw, xa_pk, xa_tn, xa_bd, xa_ql, xa_qy⟩ := id h6
      have hl := hD0.1
      refine zx_iload_n dM_copy_12 rfl ?_
      refine zx_aload_n dM_copy_13 rfl ?_
      refine zx_get dM_copy_14 flM_78 (by assumption) (by assumption) ?_
      refine zn_icmp_ge (tgt := 43) dM_copy_17 rfl (by omega) (by omega) (fun h17 => ?_) (fun h17 => ?_)
      · exact zx_vret hE rfl dM_copy_43 rfl (Nat.le_of_ble_eq_true rfl) (by refine ⟨rfl, rfl, h7, f1, fun k hk => h5 k (by omega), h5b, h6⟩)
      · refine zx_aload_n dM_copy_20 rfl ?_
        refine zx_get dM_copy_21 flM_53 (by assumption) (by assumption) ?_
        refine zx_bipush (v := nI 24) dM_copy_24 (by decide) ?_
        refine zx_iload_n dM_copy_26 rfl ?_
        refine zn_imul dM_copy_27 ?_
        refine zx_iload_n dM_copy_28 rfl ?_
        refine zn_iadd dM_copy_29 ?_
        refine zx_aload_n dM_copy_30 rfl ?_
        refine zx_get dM_copy_31 flM_7 (by assumption) (by assumption) ?_
        refine zx_iload_n dM_copy_34 rfl ?_
        refine zn_iald dM_copy_35 g_dr rfl (by omega) (by decide) (xa_dr.g (i := i) (by omega) (hD0.2 i (by omega))) ?_
        refine zn_iast dM_copy_36 g_qy rfl (by omega) (by decide) ?_
        have h8 := h6.qy (i := 24 * j + i) (z := at0 D i)
        refine zn_iinc (c := 1) dM_copy_37 (Nat.le_of_ble_eq_true rfl) rfl rfl ?_
        refine zx_goto (tgt := 12) dM_copy_40 rfl ?_
        refine ih (i + 1) _ _ (by omega) (by omega) (fun k hk => ?_) (fun k hk => ?_) h8 (h7.tr (frI_up (by omega) (by omega)))
        · show va_up f1 (24 * j + i) (at0 D i) (24 * j + k) = _
          unfold va_up
          by_cases e : k = i
          · rw [if_pos (by omega), e]
          · rw [if_neg (by omega)]; exact h5 k (by omega)
        · show va_up f1 (24 * j + i) (at0 D i) k = _
          unfold va_up
          rw [if_neg (by omega)]; exact h5b k hk
  refine zx_aload_n dM_copy_0 rfl ?_
  refine zx_get dM_copy_1 flM_50 (by assumption) (by assumption) ?_
  refine zx_iload_n dM_copy_4 rfl ?_
  refine zx_aload_n dM_copy_5 rfl ?_
  refine zx_get dM_copy_6 flM_78 (by assumption) (by assumption) ?_
  refine zn_iast dM_copy_9 g_ql rfl (by omega) (by decide) ?_
  have h8 := hM.ql (i := j) (z := A.1)
  refine zx_iconst (v := nI 0) dM_copy_10 (by decide) ?_
  refine zx_istore_n dM_copy_11 (Nat.le_of_ble_eq_true rfl) rfl rfl ?_
  exact loop _ 0 H.2.2.2 _ (Nat.lt_succ_self _) (Nat.zero_le _) (fun k hk => absurd hk (Nat.not_lt_zero _)) (fun k hk => rfl) h8 (frI_up (by omega) (by omega))

def rW (tk : Nat → Nat) : Nat → Nat × Nat × Nat × Nat → Nat × Nat × Nat × Nat × Nat
  | 0, B => (0, B)
  | u + 1, B => if B.2.1 < B.1 then (if B.2.2.1 < tk B.2.1 then ((rW tk u (B.1, B.2.1, B.2.2.1 + 1, B.2.2.2)).1 + 1, (rW tk u (B.1, B.2.1, B.2.2.1 + 1, B.2.2.2)).2) else ((rW tk u (B.1, B.2.1 + 1, 0, B.2.2.2)).1 + 1, (rW tk u (B.1, B.2.1 + 1, 0, B.2.2.2)).2)) else (0, B)
theorem rW_t {tk : Nat → Nat} {u : Nat} {B : Nat × Nat × Nat × Nat} (h : B.2.1 < B.1) (h2 : B.2.2.1 < tk B.2.1) : rW tk (u + 1) B = ((rW tk u (B.1, B.2.1, B.2.2.1 + 1, B.2.2.2)).1 + 1, (rW tk u (B.1, B.2.1, B.2.2.1 + 1, B.2.2.2)).2) := by rw [rW, if_pos h, if_pos h2]
theorem rW_p {tk : Nat → Nat} {u : Nat} {B : Nat × Nat × Nat × Nat} (h : B.2.1 < B.1) (h2 : ¬ B.2.2.1 < tk B.2.1) : rW tk (u + 1) B = ((rW tk u (B.1, B.2.1 + 1, 0, B.2.2.2)).1 + 1, (rW tk u (B.1, B.2.1 + 1, 0, B.2.2.2)).2) := by rw [rW, if_pos h, if_neg h2]
theorem rW_e {tk : Nat → Nat} {u : Nat} {B : Nat × Nat × Nat × Nat} (h : u = 0 ∨ ¬ B.2.1 < B.1) : rW tk u B = (0, B) := by
  cases u with
  | zero => rfl
  | succ u => rw [rW, if_neg (by rcases h with h | h; omega; exact h)]
theorem unN_of {v : Int32} {u : Nat} (h1 : ¬ v < nI 1) (h2 : v ≤ nI 6) : v = nI (unN v) ∧ unN v ≤ 6 := by
  have h3 : ¬ nI 6 < v := Int32.not_lt.mpr h2
  have hv : unN v = v.toNatClampNeg := by unfold unN; rw [if_neg (by rintro (h | h); exact h1 h; exact h3 h)]
  have hl := unN_le v
  refine ⟨?_, hl⟩
  rw [hv]
  have h0 : (0 : Int) ≤ v.toInt := by
    have := Int32.le_iff_toInt_le.mp (Int32.not_lt.mp h1)
    have e : (nI 1).toInt = 1 := by decide
    omega
  apply Int32.toInt_inj.mp
  rw [hv] at hl
  have e2 : v.toInt = (v.toNatClampNeg : Int) := by unfold Int32.toNatClampNeg; omega
  rw [e2]
  exact (nI_toInt (by omega)).symm

set_option maxHeartbeats 4000000 in
set_option maxRecDepth 100000 in
theorem kM_write (G : zG) (d : Nat) (hd : 0 ≤ d) {n : Nat} {sh : zSh} {row : zRw} {m : Nat} {A : Nat × (Nat → Nat)} {B : Nat × Nat × Nat × Nat} {P : (Nat → Int32) × (Nat → Int32) × (Nat → Bool) × (Nat → Nat) × (Nat → Nat)} {T : (Nat → Nat) × (Nat → Nat) × (Nat → Nat)} {S : (Nat → Nat) × (Nat → Bool)} {H : (Nat → Bool) × (Nat → Nat) × (Nat → Nat) × (Nat → Nat)} (hM : MA sh row m A B P T S H) (hO : MOk P T) {v : Int32} (hmd : B.1 ≤ 24) (hpb : B.2.1 ≤ 24) (hdn : B.2.2.1 ≤ 12) : zM G (fM_write d) [.ref m, .int v] n sh row (zpR sh (fun w row' => w = .int (nI (rW T.1 (unN v) B).1) ∧ frI m (m + 21) row row' ∧ MA sh row' m A (rW T.1 (unN v) B).2 P T S H)) := by
  refine zM.of (by show plainName "PostIndexModel" = true; decide +kernel) (Nat.le_of_ble_eq_true rfl) (by intro v hv; simp at hv; rcases hv with rfl | rfl <;> rfl) ?_
  intro K hE
  show zX G K (fM_write d) n 0 0 sh row 0 [.ref m, .int v, .retAddr 0] []
  obtain ⟨⟨go, g_dr, g_au, g_ti, g_er, g_ln, g_tx, g_tk, g_fr, g_to, g_rw, g_pk, g_tn, g_bd, g_ql, g_qy, g_any, g_all, g_pa, g_mi, g_wf, g_wt⟩, ⟨p_dr, p_au, p_ti, p_er, p_ln, p_tx, p_tk, p_fr, p_to, p_rw, p_pk, p_tn, p_bd, p_ql, p_qy, p_any, p_all, p_pa, p_mi, p_wf, p_wt⟩, ⟨f_dl, f_md, f_pb, f_dn, f_sn⟩, a_dr, a_au, a_ti, a_er, a_ln, a_tx, a_tk, a_fr, a_to, a_rw, a_pk, a_tn, a_bd, a_ql, a_qy⟩ := id hM
  refine zx_iload_n dM_write_0 rfl ?_
  refine zx_iconst (v := nI 1) dM_write_1 (by decide) ?_
  refine zx_icmp_lt (tgt := 11) dM_write_2 rfl (fun h2 => ?_) (fun h2 => ?_)
  · refine zx_iconst (v := nI 0) dM_write_11 (by decide) ?_
    exact zx_iret hE rfl dM_write_12 rfl (Nat.le_of_ble_eq_true rfl) (by have e : unN v = 0 := (by unfold unN; first | rw [if_pos (Or.inl h2)] | rw [if_pos (Or.inr (Int32.not_le.mp h8))]); rw [e]; exact ⟨_, rfl, rfl, rfl, frI.rf, hM⟩)
  · refine zx_iload_n dM_write_5 rfl ?_
    refine zx_bipush (v := nI 6) dM_write_6 (by decide) ?_
    refine zx_icmp_le (tgt := 13) dM_write_8 rfl (fun h8 => ?_) (fun h8 => ?_)
    · obtain ⟨hv, hu6⟩ := unN_of (u := 0) h2 h8
      generalize unN v = u at *
      subst hv
      have loop : ∀ (k : Nat) (i : Nat) (B1 : Nat × Nat × Nat × Nat) (r2 : zRw), u - i < k → i ≤ u → (B1.1 = B.1 ∧ B1.2.1 ≤ 24 ∧ B1.2.2.1 ≤ 12) → rW T.1 u B = (i + (rW T.1 (u - i) B1).1, (rW T.1 (u - i) B1).2) → MA sh r2 m A B1 P T S H → frI m (m + 21) row r2 → zX G K (fM_write d) n 0 0 sh r2 15 [.ref m, .int (nI u), .int (nI i)] [] := by
        intro k
        induction k with
        | zero => intro i B1 r2 hk; exact absurd hk (Nat.not_lt_zero _)
        | succ k ih =>
          intro i B1 r2 hk h3 h4 h5 h6 h7
          obtain ⟨⟨xgo, xg_dr, xg_au, xg_ti, xg_er, xg_ln, xg_tx, xg_tk, xg_fr, xg_to, xg_rw, xg_pk, xg_tn, xg_bd, xg_ql, xg_qy, xg_any, xg_all, xg_pa, xg_mi, xg_wf, xg_wt⟩, ⟨xp_dr, xp_au, xp_ti, xp_er, xp_ln, xp_tx, xp_tk, xp_fr, xp_to, xp_rw, xp_pk, xp_tn, xp_bd, xp_ql, xp_qy, xp_any, xp_all, xp_pa, xp_mi, xp_wf, xp_wt⟩, ⟨xf_dl, xf_md, xf_pb, xf_dn, xf_sn⟩, xa_dr, xa_au, xa_ti, xa_er, xa_ln, xa_tx, xa_tk, xa_fr, xa_to, xa_rw, xa_pk, xa_tn, xa_bd, xa_ql, xa_qy⟩ := id h6
          refine zx_iload_n dM_write_15 rfl ?_
          refine zx_iload_n dM_write_16 rfl ?_
          refine zn_icmp_ge (tgt := 81) dM_write_17 rfl (by omega) (by omega) (fun h17 => ?_) (fun h17 => ?_)
          · refine zx_iload_n dM_write_81 rfl ?_
            exact zx_iret hE rfl dM_write_82 rfl (Nat.le_of_ble_eq_true rfl) (by rw [rW_e (u := u - i) (by omega)] at h5; rw [h5]; exact ⟨_, rfl, rfl, rfl, h7, h6⟩)
          · refine zx_aload_n dM_write_20 rfl ?_
            refine zx_get dM_write_21 flM_82 (by assumption) (by assumption) ?_
            refine zx_aload_n dM_write_24 rfl ?_
            refine zx_get dM_write_25 flM_91 (by assumption) (by assumption) ?_
            refine zn_icmp_ge (tgt := 81) dM_write_28 rfl (by omega) (by omega) (fun h28 => ?_) (fun h28 => ?_)
            · refine zx_iload_n dM_write_81 rfl ?_
              exact zx_iret hE rfl dM_write_82 rfl (Nat.le_of_ble_eq_true rfl) (by rw [rW_e (u := u - i) (by omega)] at h5; rw [h5]; exact ⟨_, rfl, rfl, rfl, h7, h6⟩)
            · refine zx_aload_n dM_write_31 rfl ?_
              refine zx_get dM_write_32 flM_101 (by assumption) (by assumption) ?_
              refine zx_aload_n dM_write_35 rfl ?_
              refine zx_get dM_write_36 flM_29 (by assumption) (by assumption) ?_
              refine zx_aload_n dM_write_39 rfl ?_
              refine zx_get dM_write_40 flM_82 (by assumption) (by assumption) ?_
              have htk := (hO.2.2 B1.2.1 (by omega)).2
              refine zn_iald dM_write_43 g_tk rfl (by omega) (by decide) (xa_tk B1.2.1 (by omega)) ?_
              refine zn_icmp_ge (tgt := 60) dM_write_44 rfl (by omega) (by omega) (fun h44 => ?_) (fun h44 => ?_)
              · refine zx_aload_n dM_write_60 rfl ?_
                refine zx_dup dM_write_61 rfl ?_
                refine zx_get dM_write_62 flM_82 (by assumption) (by assumption) ?_
                refine zx_iconst (v := nI 1) dM_write_65 (by decide) ?_
                refine zn_iadd dM_write_66 ?_
                refine zx_put dM_write_67 flM_82 tpM_3 (by assumption) rfl rfl ?_
                have h8 := h6.pb (z := B1.2.1 + 1)
                refine zx_aload_n dM_write_70 rfl ?_
                refine zx_iconst (v := nI 0) dM_write_71 (by decide) ?_
                refine zx_put dM_write_72 flM_101 tpM_4 (by assumption) rfl rfl ?_
                replace h8 := h8.dn (z := 0)
                have h9 := rW_p (tk := T.1) (u := u - (i + 1)) (B := B1) (by omega) (by omega)
                refine zn_iinc (c := 1) dM_write_75 (Nat.le_of_ble_eq_true rfl) rfl rfl ?_
                refine zx_goto (tgt := 15) dM_write_78 rfl ?_
                first
                | refine ih (i + 1) (B1.1, B1.2.1, B1.2.2.1 + 1, B1.2.2.2) _ (by omega) (by omega) ⟨h4.1, h4.2.1, by show B1.2.2.1 + 1 ≤ 12; omega⟩ ?_ h8 (h7.tr (frI_up (by omega) (by omega)))
                | refine ih (i + 1) (B1.1, B1.2.1 + 1, 0, B1.2.2.2) _ (by omega) (by omega) ⟨h4.1, by show B1.2.1 + 1 ≤ 24; omega, by show 0 ≤ 12; omega⟩ ?_ h8 ((h7.tr (frI_up (by omega) (by omega))).tr (frI_up (by omega) (by omega)))
                rw [h5, show u - i = u - (i + 1) + 1 by omega, h9]
                refine Prod.ext ?_ rfl
                show i + (_ + 1) = i + 1 + _
                omega
              · refine zx_aload_n dM_write_47 rfl ?_
                refine zx_dup dM_write_48 rfl ?_
                refine zx_get dM_write_49 flM_101 (by assumption) (by assumption) ?_
                refine zx_iconst (v := nI 1) dM_write_52 (by decide) ?_
                refine zn_iadd dM_write_53 ?_
                refine zx_put dM_write_54 flM_101 tpM_4 (by assumption) rfl rfl ?_
                have h8 := h6.dn (z := B1.2.2.1 + 1)
                have h9 := rW_t (tk := T.1) (u := u - (i + 1)) (B := B1) (by omega) (by omega)
                refine zx_goto (tgt := 75) dM_write_57 rfl ?_
                refine zn_iinc (c := 1) dM_write_75 (Nat.le_of_ble_eq_true rfl) rfl rfl ?_
                refine zx_goto (tgt := 15) dM_write_78 rfl ?_
                first
                | refine ih (i + 1) (B1.1, B1.2.1, B1.2.2.1 + 1, B1.2.2.2) _ (by omega) (by omega) ⟨h4.1, h4.2.1, by show B1.2.2.1 + 1 ≤ 12; omega⟩ ?_ h8 (h7.tr (frI_up (by omega) (by omega)))
                | refine ih (i + 1) (B1.1, B1.2.1 + 1, 0, B1.2.2.2) _ (by omega) (by omega) ⟨h4.1, by show B1.2.1 + 1 ≤ 24; omega, by show 0 ≤ 12; omega⟩ ?_ h8 ((h7.tr (frI_up (by omega) (by omega))).tr (frI_up (by omega) (by omega)))
                rw [h5, show u - i = u - (i + 1) + 1 by omega, h9]
                refine Prod.ext ?_ rfl
                show i + (_ + 1) = i + 1 + _
                omega
      refine zx_iconst (v := nI 0) dM_write_13 (by decide) ?_
      refine zx_istore_n dM_write_14 (Nat.le_of_ble_eq_true rfl) rfl rfl ?_
      exact loop _ 0 B row (Nat.lt_succ_self _) (Nat.zero_le _) ⟨rfl, hpb, hdn⟩ (by rw [Nat.zero_add]; rfl) hM frI.rf
    · refine zx_iconst (v := nI 0) dM_write_11 (by decide) ?_
      exact zx_iret hE rfl dM_write_12 rfl (Nat.le_of_ble_eq_true rfl) (by have e : unN v = 0 := (by unfold unN; first | rw [if_pos (Or.inl h2)] | rw [if_pos (Or.inr (Int32.not_le.mp h8))]); rw [e]; exact ⟨_, rfl, rfl, rfl, frI.rf, hM⟩)

