theorem zX_top {G : zG} {K : zK} {F : zF} {n0 ce sl : Nat} {sh : zSh} {row : zRw} {pc : Nat} {ls st : List Value} {a b : Nat} (h : a = b) (k : zX G K F n0 ce sl sh row pc ls (.int (nI a) :: st)) : zX G K F n0 ce sl sh row pc ls (.int (nI b) :: st) := by subst h; exact k

set_option maxHeartbeats 4000000 in
set_option maxRecDepth 100000 in
theorem kM_isFirst (G : zG) (d : Nat) (hd : 2 ≤ d) {n : Nat} {sh : zSh} {row : zRw} {m : Nat} {A : Nat × (Nat → Nat)} {B : Nat × Nat × Nat × Nat} {P : (Nat → Int32) × (Nat → Int32) × (Nat → Bool) × (Nat → Nat) × (Nat → Nat)} {T : (Nat → Nat) × (Nat → Nat) × (Nat → Nat)} {S : (Nat → Nat) × (Nat → Bool)} {H : (Nat → Bool) × (Nat → Nat) × (Nat → Nat) × (Nat → Nat)} (hM : MA sh row m A B P T S H) (hO : MOk P T) {p i : Nat} (hp : p < 24) (hi : i < 12) (hmd : B.1 ≤ 24) (hpb : B.2.1 ≤ 24) (hdn : B.2.2.1 ≤ 12) : zM G (fM_isFirst d) [.ref m, .int (nI p), .int (nI i)] n sh row (zP sh row (.int (bI (fstM B P T p i)))) := by
  refine zM.of (by show plainName "PostIndexModel" = true; decide +kernel) (Nat.le_of_ble_eq_true rfl) (by intro v hv; simp at hv; rcases hv with rfl | rfl | rfl <;> rfl) ?_
  intro K hE
  show zX G K (fM_isFirst d) n 0 0 sh row 0 [.ref m, .int (nI p), .int (nI i), .retAddr 0, .retAddr 0, .retAddr 0] []
  have hD : d - 1 + 1 ≤ d := by omega
  obtain ⟨⟨go, g_dr, g_au, g_ti, g_er, g_ln, g_tx, g_tk, g_fr, g_to, g_rw, g_pk, g_tn, g_bd, g_ql, g_qy, g_any, g_all, g_pa, g_mi, g_wf, g_wt⟩, ⟨p_dr, p_au, p_ti, p_er, p_ln, p_tx, p_tk, p_fr, p_to, p_rw, p_pk, p_tn, p_bd, p_ql, p_qy, p_any, p_all, p_pa, p_mi, p_wf, p_wt⟩, ⟨f_dl, f_md, f_pb, f_dn, f_sn⟩, a_dr, a_au, a_ti, a_er, a_ln, a_tx, a_tk, a_fr, a_to, a_rw, a_pk, a_tn, a_bd, a_ql, a_qy⟩ := id hM
  have loop : ∀ (k a : Nat) (v4 v5 : Value), v4.category = 1 → v5.category = 1 → p + 1 - a < k → p / 4 * 4 ≤ a → a ≤ p + 1 → (∀ z, p / 4 * 4 + z < a → exB (fun j => samB P T (12 * (p / 4 * 4 + z) + j) (12 * p + i)) (if p / 4 * 4 + z < p then idxN B T.1 (p / 4 * 4 + z) else i) = false) → zX G K (fM_isFirst d) n 0 0 sh row 6 [.ref m, .int (nI p), .int (nI i), .int (nI a), v4, v5] [] := by
    intro k
    induction k with
    | zero => intro a v4 v5 _ _ hk; exact absurd hk (Nat.not_lt_zero _)
    | succ k ih =>
      intro a v4 v5 hv4 hv5 hk h2 h3 h4
      refine zx_iload_n dM_isFirst_6 rfl ?_
      refine zx_iload_n dM_isFirst_7 rfl ?_
      refine zn_icmp_gt (tgt := 71) dM_isFirst_8 rfl (by omega) (by omega) (fun h8 => ?_) (fun h8 => ?_)
      · refine zx_iconst (v := nI 1) dM_isFirst_71 (by decide) ?_
        exact zx_zret hE rfl (by first | decide | exact bI_nar _) dM_isFirst_72 rfl (Nat.le_of_ble_eq_true rfl) ⟨by unfold fstM; rw [exB_f (fun z hz => h4 z (by omega))]; rfl, rfl, rfl⟩
      · refine zx_iload_n dM_isFirst_11 rfl ?_
        refine zx_iload_n dM_isFirst_12 rfl ?_
        refine zn_icmp_ge (tgt := 24) dM_isFirst_13 rfl (by omega) (by omega) (fun h13 => ?_) (fun h13 => ?_)
        · refine zx_iload_n dM_isFirst_24 rfl ?_
          first
          | (have hlim0 : (if a < p then idxN B T.1 a else i) = idxN B T.1 a := if_pos (by omega)
             rw [← hlim0])
          | (have hlim0 : (if a < p then idxN B T.1 a else i) = i := if_neg (by omega)
             refine zX_top hlim0 ?_)
          generalize hlim : (if a < p then idxN B T.1 a else i) = lim at *
          have hl12 : lim ≤ 12 := by
            rw [← hlim]
            split
            · exact idxN_le hO (by omega) hdn
            · omega
          have inner : ∀ (k2 j : Nat), lim - j < k2 → j ≤ lim → (∀ z, z < j → samB P T (12 * a + z) (12 * p + i) = false) → zX G K (fM_isFirst d) n 0 0 sh row 30 [.ref m, .int (nI p), .int (nI i), .int (nI a), .int (nI lim), .int (nI j)] [] := by
            intro k2
            induction k2 with
            | zero => intro j hk; exact absurd hk (Nat.not_lt_zero _)
            | succ k2 ihj =>
              intro j hk2 k3 k4
              refine zx_iload dM_isFirst_30 rfl ?_
              refine zx_iload dM_isFirst_32 rfl ?_
              refine zn_icmp_ge (tgt := 65) dM_isFirst_34 rfl (by omega) (by omega) (fun h34 => ?_) (fun h34 => ?_)
              · refine zn_iinc (c := 1) dM_isFirst_65 (Nat.le_of_ble_eq_true rfl) rfl rfl ?_
                refine zx_goto (tgt := 6) dM_isFirst_68 rfl ?_
                exact ih (a + 1) _ _ rfl rfl (by omega) (by omega) (by omega) (fun z hz => by by_cases e : p / 4 * 4 + z = a; (rw [e, exB_f (fun y hy => k4 y (by omega))]); exact h4 z (by omega))
              · refine zx_aload_n dM_isFirst_37 rfl ?_
                refine zx_bipush (v := nI 12) dM_isFirst_38 (by decide) ?_
                refine zx_iload_n dM_isFirst_40 rfl ?_
                refine zn_imul dM_isFirst_41 ?_
                refine zx_iload dM_isFirst_42 rfl ?_
                refine zn_iadd dM_isFirst_44 ?_
                refine zx_bipush (v := nI 12) dM_isFirst_45 (by decide) ?_
                refine zx_iload_n dM_isFirst_47 rfl ?_
                refine zn_imul dM_isFirst_48 ?_
                refine zx_iload_n dM_isFirst_49 rfl ?_
                refine zn_iadd dM_isFirst_50 ?_
                refine zc_V (n0 := n) (ce := 0) (kM_same G (d - 1) (by omega) hM hO (by omega) (by omega)) (meM_same _) lkM_114 go rfl rfl hD (Nat.le_of_ble_eq_true rfl) rfl rfl (Nat.le_of_ble_eq_true rfl) (Nat.le_of_ble_eq_true rfl) (Nat.le_of_ble_eq_true rfl) dM_isFirst_51 ?_
                refine zb_if_eq (tgt := 59) dM_isFirst_54 rfl (fun h54 => ?_) (fun h54 => ?_)
                · refine zn_iinc (c := 1) dM_isFirst_59 (Nat.le_of_ble_eq_true rfl) rfl rfl ?_
                  refine zx_goto (tgt := 30) dM_isFirst_62 rfl ?_
                  exact ihj (j + 1) (by omega) (by omega) (fun z hz => by by_cases e : z = j; rw [e]; exact h54; exact k4 z (by omega))
                · refine zx_iconst (v := nI 0) dM_isFirst_57 (by decide) ?_
                  exact zx_zret hE rfl (by first | decide | exact bI_nar _) dM_isFirst_58 rfl (Nat.le_of_ble_eq_true rfl) (by
                have hx : exB (fun d => exB (fun j => samB P T (12 * (p / 4 * 4 + d) + j) (12 * p + i)) (if p / 4 * 4 + d < p then idxN B T.1 (p / 4 * 4 + d) else i)) (p + 1 - p / 4 * 4) = true := by
                  refine exB_t (i := a - p / 4 * 4) (by omega) ?_
                  show exB (fun j => samB P T (12 * (p / 4 * 4 + (a - p / 4 * 4)) + j) (12 * p + i)) (if p / 4 * 4 + (a - p / 4 * 4) < p then idxN B T.1 (p / 4 * 4 + (a - p / 4 * 4)) else i) = true
                  rw [show p / 4 * 4 + (a - p / 4 * 4) = a by omega, hlim]
                  exact exB_t (f := fun j => samB P T (12 * a + j) (12 * p + i)) (i := j) (by omega) h54
                unfold fstM
                rw [hx]
                exact ⟨rfl, rfl, rfl⟩)
          refine zx_istore dM_isFirst_25 (Nat.le_of_ble_eq_true rfl) (by simp only [List.all_cons, List.all_nil, hv4, hv5]; rfl) rfl ?_
          refine zx_iconst (v := nI 0) dM_isFirst_27 (by decide) ?_
          refine zx_istore dM_isFirst_28 (Nat.le_of_ble_eq_true rfl) (by first | rfl | (simp only [List.set, List.all_cons, List.all_nil, hv5]; rfl)) rfl ?_
          exact inner _ 0 (Nat.lt_succ_self _) (Nat.zero_le _) (fun z hz => absurd hz (Nat.not_lt_zero _))
        · refine zx_aload_n dM_isFirst_16 rfl ?_
          refine zx_iload_n dM_isFirst_17 rfl ?_
          refine zc_V (n0 := n) (ce := 0) (kM_indexed G (d - 1) (by omega) hM (by omega) hmd hpb (by omega)) (meM_indexed _) lkM_111 go rfl rfl hD (Nat.le_of_ble_eq_true rfl) rfl rfl (Nat.le_of_ble_eq_true rfl) (Nat.le_of_ble_eq_true rfl) (Nat.le_of_ble_eq_true rfl) dM_isFirst_18 ?_
          refine zx_goto (tgt := 25) dM_isFirst_21 rfl ?_
          first
          | (have hlim0 : (if a < p then idxN B T.1 a else i) = idxN B T.1 a := if_pos (by omega)
             rw [← hlim0])
          | (have hlim0 : (if a < p then idxN B T.1 a else i) = i := if_neg (by omega)
             refine zX_top hlim0 ?_)
          generalize hlim : (if a < p then idxN B T.1 a else i) = lim at *
          have hl12 : lim ≤ 12 := by
            rw [← hlim]
            split
            · exact idxN_le hO (by omega) hdn
            · omega
          have inner : ∀ (k2 j : Nat), lim - j < k2 → j ≤ lim → (∀ z, z < j → samB P T (12 * a + z) (12 * p + i) = false) → zX G K (fM_isFirst d) n 0 0 sh row 30 [.ref m, .int (nI p), .int (nI i), .int (nI a), .int (nI lim), .int (nI j)] [] := by
            intro k2
            induction k2 with
            | zero => intro j hk; exact absurd hk (Nat.not_lt_zero _)
            | succ k2 ihj =>
              intro j hk2 k3 k4
              refine zx_iload dM_isFirst_30 rfl ?_
              refine zx_iload dM_isFirst_32 rfl ?_
              refine zn_icmp_ge (tgt := 65) dM_isFirst_34 rfl (by omega) (by omega) (fun h34 => ?_) (fun h34 => ?_)
              · refine zn_iinc (c := 1) dM_isFirst_65 (Nat.le_of_ble_eq_true rfl) rfl rfl ?_
                refine zx_goto (tgt := 6) dM_isFirst_68 rfl ?_
                exact ih (a + 1) _ _ rfl rfl (by omega) (by omega) (by omega) (fun z hz => by by_cases e : p / 4 * 4 + z = a; (rw [e, exB_f (fun y hy => k4 y (by omega))]); exact h4 z (by omega))
              · refine zx_aload_n dM_isFirst_37 rfl ?_
                refine zx_bipush (v := nI 12) dM_isFirst_38 (by decide) ?_
                refine zx_iload_n dM_isFirst_40 rfl ?_
                refine zn_imul dM_isFirst_41 ?_
                refine zx_iload dM_isFirst_42 rfl ?_
                refine zn_iadd dM_isFirst_44 ?_
                refine zx_bipush (v := nI 12) dM_isFirst_45 (by decide) ?_
                refine zx_iload_n dM_isFirst_47 rfl ?_
                refine zn_imul dM_isFirst_48 ?_
                refine zx_iload_n dM_isFirst_49 rfl ?_
                refine zn_iadd dM_isFirst_50 ?_
                refine zc_V (n0 := n) (ce := 0) (kM_same G (d - 1) (by omega) hM hO (by omega) (by omega)) (meM_same _) lkM_114 go rfl rfl hD (Nat.le_of_ble_eq_true rfl) rfl rfl (Nat.le_of_ble_eq_true rfl) (Nat.le_of_ble_eq_true rfl) (Nat.le_of_ble_eq_true rfl) dM_isFirst_51 ?_
                refine zb_if_eq (tgt := 59) dM_isFirst_54 rfl (fun h54 => ?_) (fun h54 => ?_)
                · refine zn_iinc (c := 1) dM_isFirst_59 (Nat.le_of_ble_eq_true rfl) rfl rfl ?_
                  refine zx_goto (tgt := 30) dM_isFirst_62 rfl ?_
                  exact ihj (j + 1) (by omega) (by omega) (fun z hz => by by_cases e : z = j; rw [e]; exact h54; exact k4 z (by omega))
                · refine zx_iconst (v := nI 0) dM_isFirst_57 (by decide) ?_
                  exact zx_zret hE rfl (by first | decide | exact bI_nar _) dM_isFirst_58 rfl (Nat.le_of_ble_eq_true rfl) (by
                have hx : exB (fun d => exB (fun j => samB P T (12 * (p / 4 * 4 + d) + j) (12 * p + i)) (if p / 4 * 4 + d < p then idxN B T.1 (p / 4 * 4 + d) else i)) (p + 1 - p / 4 * 4) = true := by
                  refine exB_t (i := a - p / 4 * 4) (by omega) ?_
                  show exB (fun j => samB P T (12 * (p / 4 * 4 + (a - p / 4 * 4)) + j) (12 * p + i)) (if p / 4 * 4 + (a - p / 4 * 4) < p then idxN B T.1 (p / 4 * 4 + (a - p / 4 * 4)) else i) = true
                  rw [show p / 4 * 4 + (a - p / 4 * 4) = a by omega, hlim]
                  exact exB_t (f := fun j => samB P T (12 * a + j) (12 * p + i)) (i := j) (by omega) h54
                unfold fstM
                rw [hx]
                exact ⟨rfl, rfl, rfl⟩)
          refine zx_istore dM_isFirst_25 (Nat.le_of_ble_eq_true rfl) (by simp only [List.all_cons, List.all_nil, hv4, hv5]; rfl) rfl ?_
          refine zx_iconst (v := nI 0) dM_isFirst_27 (by decide) ?_
          refine zx_istore dM_isFirst_28 (Nat.le_of_ble_eq_true rfl) (by first | rfl | (simp only [List.set, List.all_cons, List.all_nil, hv5]; rfl)) rfl ?_
          exact inner _ 0 (Nat.lt_succ_self _) (Nat.zero_le _) (fun z hz => absurd hz (Nat.not_lt_zero _))
  refine zx_iload_n dM_isFirst_0 rfl ?_
  refine zx_iconst (v := nI 4) dM_isFirst_1 (by decide) ?_
  refine zn_idiv dM_isFirst_2 (by omega) (by omega) (by omega) ?_
  refine zx_iconst (v := nI 4) dM_isFirst_3 (by decide) ?_
  refine zn_imul dM_isFirst_4 ?_
  refine zx_istore_n dM_isFirst_5 (Nat.le_of_ble_eq_true rfl) rfl rfl ?_
  exact loop _ (p / 4 * 4) _ _ rfl rfl (Nat.lt_succ_self _) (Nat.le_refl _) (by omega) (fun z hz => absurd hz (by omega))

def slM (m c sl r : Nat) : Prop := (c = 2 ∧ sl = 2 ∧ r = 2) ∨ (c = 6 ∧ sl = 4 ∧ r = 5 ∧ 2 < m) ∨ ∃ j, c = 6 + 8 * j ∧ sl = 8 ∧ r = 5 + 7 * j ∧ 1 ≤ j ∧ 7 * j < m + 2
theorem slM_b {m c sl r : Nat} (h : slM m c sl r) (hm : m ≤ 32) : 2 ≤ sl ∧ sl ≤ 8 ∧ r < 100 ∧ c < 200 := by
  rcases h with ⟨h4, h5, h6⟩ | ⟨h4, h5, h6, h7⟩ | ⟨j, h4, h5, h6, h7, h9⟩ <;> omega

set_option maxHeartbeats 4000000 in
set_option maxRecDepth 100000 in
theorem kM_measure (G : zG) (d : Nat) (hd : 3 ≤ d) {n : Nat} {sh : zSh} {row : zRw} {m : Nat} {A : Nat × (Nat → Nat)} {B : Nat × Nat × Nat × Nat} {P : (Nat → Int32) × (Nat → Int32) × (Nat → Bool) × (Nat → Nat) × (Nat → Nat)} {T : (Nat → Nat) × (Nat → Nat) × (Nat → Nat)} {S : (Nat → Nat) × (Nat → Bool)} {H : (Nat → Bool) × (Nat → Nat) × (Nat → Nat) × (Nat → Nat)} (hM : MA sh row m A B P T S H) (hO : MOk P T) {g t w : Nat} (hg : g < 6) (ht : t < 288) (hw : w < 3) (hmd : B.1 ≤ 24) (hpb : B.2.1 ≤ 24) (hdn : B.2.2.1 ≤ 12) : zM G (fM_measure d) [.ref m, .int (nI g), .int (nI t), .int (nI w)] n sh row (zP sh row (.int (nI (mesM B P T g t w)))) := by
  refine zM.of (by show plainName "PostIndexModel" = true; decide +kernel) (Nat.le_of_ble_eq_true rfl) (by intro v hv; simp at hv; rcases hv with rfl | rfl | rfl | rfl <;> rfl) ?_
  intro K hE
  show zX G K (fM_measure d) n 0 0 sh row 0 [.ref m, .int (nI g), .int (nI t), .int (nI w), .retAddr 0, .retAddr 0, .retAddr 0, .retAddr 0, .retAddr 0, .retAddr 0] []
  have hD : d - 1 + 1 ≤ d := by omega
  obtain ⟨⟨go, g_dr, g_au, g_ti, g_er, g_ln, g_tx, g_tk, g_fr, g_to, g_rw, g_pk, g_tn, g_bd, g_ql, g_qy, g_any, g_all, g_pa, g_mi, g_wf, g_wt⟩, ⟨p_dr, p_au, p_ti, p_er, p_ln, p_tx, p_tk, p_fr, p_to, p_rw, p_pk, p_tn, p_bd, p_ql, p_qy, p_any, p_all, p_pa, p_mi, p_wf, p_wt⟩, ⟨f_dl, f_md, f_pb, f_dn, f_sn⟩, a_dr, a_au, a_ti, a_er, a_ln, a_tx, a_tk, a_fr, a_to, a_rw, a_pk, a_tn, a_bd, a_ql, a_qy⟩ := id hM
  have cells : ∀ (q la pi : Nat), q ≤ 32 → q = cnt (fun v => pstB B P T (4 * g + v / 8) (v % 8) t) 32 → w = 1 → ∀ (k c sl r : Nat), q - r < k → slM q c sl r → zX G K (fM_measure d) n 0 0 sh row 114 [.ref m, .int (nI g), .int (nI t), .int (nI w), .int (nI q), .int (nI la), .int (nI pi), .int (nI c), .int (nI sl), .int (nI r)] [] := by
    intro q la pi hq32 hc hw k
    induction k with
    | zero => intro c sl r hk; exact absurd hk (Nat.not_lt_zero _)
    | succ k ih2 =>
      intro c sl r hk h3
      have hbb := slM_b h3 hq32
      refine zx_iload dM_measure_114 rfl ?_
      refine zx_iload dM_measure_116 rfl ?_
      refine zn_icmp_ge (tgt := 158) dM_measure_118 rfl (by omega) (by omega) (fun h118 => ?_) (fun h118 => ?_)
      · refine zx_iload dM_measure_158 rfl ?_
        exact zx_iret hE rfl dM_measure_160 rfl (Nat.le_of_ble_eq_true rfl) (by refine ⟨?_, rfl, rfl⟩; unfold mesM; rw [if_neg (by omega), if_pos (by omega), ← hc]; unfold slc; rcases h3 with ⟨z1, z2, z3⟩ | ⟨z1, z2, z3, z4⟩ | ⟨j, z1, z2, z3, z4, z5⟩; rw [if_pos (by omega), z1]; rw [if_neg (by omega), show (q + 1) / 7 = 0 by omega, z1]; rw [if_neg (by omega), show (q + 1) / 7 = j by omega, z1])
      · refine zx_iload dM_measure_121 rfl ?_
        refine zx_bipush (v := nI 8) dM_measure_123 (by decide) ?_
        refine zn_icmp_ge (tgt := 135) dM_measure_125 rfl (by omega) (by omega) (fun h125 => ?_) (fun h125 => ?_)
        · refine zx_bipush (v := nI 8) dM_measure_135 (by decide) ?_
          refine zx_istore dM_measure_137 (Nat.le_of_ble_eq_true rfl) rfl rfl ?_
          refine zx_iload dM_measure_139 rfl ?_
          refine zx_iload dM_measure_141 rfl ?_
          refine zn_iadd dM_measure_143 ?_
          refine zx_istore dM_measure_144 (Nat.le_of_ble_eq_true rfl) rfl rfl ?_
          refine zx_iload dM_measure_146 rfl ?_
          refine zx_iload dM_measure_148 rfl ?_
          refine zn_iadd dM_measure_150 ?_
          refine zx_iconst (v := nI 1) dM_measure_151 (by decide) ?_
          refine zn_isub dM_measure_152 (by omega) ?_
          refine zx_istore dM_measure_153 (Nat.le_of_ble_eq_true rfl) rfl rfl ?_
          refine zx_goto (tgt := 114) dM_measure_155 rfl ?_
          refine ih2 _ _ _ (by clear h3; omega) (Or.inr ?_)
          rcases h3 with ⟨z1, z2, z3⟩ | ⟨z1, z2, z3, z4⟩ | ⟨j, z1, z2, z3, z4, z5⟩
          · exact Or.inl ⟨by omega, by omega, by omega, by omega⟩
          · exact Or.inr ⟨1, by omega, by omega, by omega, by omega, by omega⟩
          · exact Or.inr ⟨j + 1, by omega, by omega, by omega, by omega, by omega⟩
        · refine zx_iconst (v := nI 2) dM_measure_128 (by decide) ?_
          refine zx_iload dM_measure_129 rfl ?_
          refine zn_imul dM_measure_131 ?_
          refine zx_goto (tgt := 137) dM_measure_132 rfl ?_
          refine zx_istore dM_measure_137 (Nat.le_of_ble_eq_true rfl) rfl rfl ?_
          refine zx_iload dM_measure_139 rfl ?_
          refine zx_iload dM_measure_141 rfl ?_
          refine zn_iadd dM_measure_143 ?_
          refine zx_istore dM_measure_144 (Nat.le_of_ble_eq_true rfl) rfl rfl ?_
          refine zx_iload dM_measure_146 rfl ?_
          refine zx_iload dM_measure_148 rfl ?_
          refine zn_iadd dM_measure_150 ?_
          refine zx_iconst (v := nI 1) dM_measure_151 (by decide) ?_
          refine zn_isub dM_measure_152 (by omega) ?_
          refine zx_istore dM_measure_153 (Nat.le_of_ble_eq_true rfl) rfl rfl ?_
          refine zx_goto (tgt := 114) dM_measure_155 rfl ?_
          refine ih2 _ _ _ (by clear h3; omega) (Or.inr ?_)
          rcases h3 with ⟨z1, z2, z3⟩ | ⟨z1, z2, z3, z4⟩ | ⟨j, z1, z2, z3, z4, z5⟩
          · exact Or.inl ⟨by omega, by omega, by omega, by omega⟩
          · exact Or.inr ⟨1, by omega, by omega, by omega, by omega, by omega⟩
          · exact Or.inr ⟨j + 1, by omega, by omega, by omega, by omega, by omega⟩
  have loop : ∀ (k q la pi x : Nat) (v8 v9 : Value), x < k → (x ≤ la ∧ la ≤ 32) → v8.category = 1 → v9.category = 1 → q + cnt (fun v => pstB B P T (4 * g + v / 8) (v % 8) t) x = cnt (fun v => pstB B P T (4 * g + v / 8) (v % 8) t) 32 → pi + pcs (fun v => pstB B P T (4 * g + v / 8) (v % 8) t) x la = pcs (fun v => pstB B P T (4 * g + v / 8) (v % 8) t) 32 32 → zX G K (fM_measure d) n 0 0 sh row 14 [.ref m, .int (nI g), .int (nI t), .int (nI w), .int (nI q), .int (nI la), .int (nI pi), .int (dI x), v8, v9] [] := by
    intro k
    induction k with
    | zero => intro q la pi x v8 v9 hk; exact absurd hk (Nat.not_lt_zero _)
    | succ k ih =>
      intro q la pi x v8 v9 hk h3 hv8 hv9 k4 k5
      have hq1 := cnt_le (fun v => pstB B P T (4 * g + v / 8) (v % 8) t) 32
      have hq2 := pcs_le (fun v => pstB B P T (4 * g + v / 8) (v % 8) t) 32 32
      cases x with
      | zero =>
        refine zx_iload dM_measure_14 rfl ?_
        refine zx_if_lt (tgt := 88) dM_measure_16 rfl (fun _ => ?_) (fun h => absurd (by decide) h)
        refine zx_iload_n dM_measure_88 rfl ?_
        refine zx_iconst (v := nI 1) dM_measure_89 (by decide) ?_
        refine zn_icmp_eq (tgt := 105) dM_measure_90 rfl (by omega) (by omega) (fun h90 => ?_) (fun h90 => ?_)
        · have hq : q = cnt (fun v => pstB B P T (4 * g + v / 8) (v % 8) t) 32 := by rw [← k4]; rfl
          refine zx_iconst (v := nI 2) dM_measure_105 (by decide) ?_
          refine zx_istore dM_measure_106 (Nat.le_of_ble_eq_true rfl) (by simp only [List.all_cons, List.all_nil, hv8, hv9]; rfl) rfl ?_
          refine zx_iconst (v := nI 2) dM_measure_108 (by decide) ?_
          refine zx_istore dM_measure_109 (Nat.le_of_ble_eq_true rfl) (by simp only [List.set, List.all_cons, List.all_nil, hv8, hv9]; rfl) rfl ?_
          refine zx_iconst (v := nI 2) dM_measure_111 (by decide) ?_
          refine zx_istore dM_measure_112 (Nat.le_of_ble_eq_true rfl) (by simp only [List.set, List.all_cons, List.all_nil, hv8, hv9]; rfl) rfl ?_
          exact cells q la pi (by have := cnt_le (fun v => pstB B P T (4 * g + v / 8) (v % 8) t) 32; omega) hq (by omega) _ 2 2 2 (Nat.lt_succ_self _) (Or.inl ⟨rfl, rfl, rfl⟩)
        · refine zx_iload_n dM_measure_93 rfl ?_
          refine zn_if_ne (tgt := 102) dM_measure_94 rfl (by omega) (fun h94 => ?_) (fun h94 => ?_)
          · refine zx_iload dM_measure_102 rfl ?_
            exact zx_iret hE rfl dM_measure_104 rfl (Nat.le_of_ble_eq_true rfl) ⟨by unfold mesM; first | (rw [if_pos (by omega), show q = cnt (fun v => pstB B P T (4 * g + v / 8) (v % 8) t) 32 by rw [← k4]; rfl]) | (rw [if_neg (by omega), if_neg (by omega), show pi = pcs (fun v => pstB B P T (4 * g + v / 8) (v % 8) t) 32 32 by rw [← k5]; rfl]), rfl, rfl⟩
          · refine zx_iload dM_measure_97 rfl ?_
            refine zx_goto (tgt := 104) dM_measure_99 rfl ?_
            exact zx_iret hE rfl dM_measure_104 rfl (Nat.le_of_ble_eq_true rfl) ⟨by unfold mesM; first | (rw [if_pos (by omega), show q = cnt (fun v => pstB B P T (4 * g + v / 8) (v % 8) t) 32 by rw [← k4]; rfl]) | (rw [if_neg (by omega), if_neg (by omega), show pi = pcs (fun v => pstB B P T (4 * g + v / 8) (v % 8) t) 32 32 by rw [← k5]; rfl]), rfl, rfl⟩
      | succ x =>
        rw [dI_s]
        refine zx_iload dM_measure_14 rfl ?_
        refine zn_if_lt (tgt := 88) dM_measure_16 rfl (by omega) ?_
        refine zx_aload_n dM_measure_19 rfl ?_
        refine zx_iconst (v := nI 4) dM_measure_20 (by decide) ?_
        refine zx_iload_n dM_measure_21 rfl ?_
        refine zn_imul dM_measure_22 ?_
        refine zx_iload dM_measure_23 rfl ?_
        refine zx_bipush (v := nI 8) dM_measure_25 (by decide) ?_
        refine zn_idiv dM_measure_27 (by omega) (by omega) (by omega) ?_
        refine zn_iadd dM_measure_28 ?_
        refine zx_iload dM_measure_29 rfl ?_
        refine zx_bipush (v := nI 8) dM_measure_31 (by decide) ?_
        refine zn_irem dM_measure_33 (by omega) (by omega) (by omega) ?_
        refine zx_iload_n dM_measure_34 rfl ?_
        refine zc_V (n0 := n) (ce := 0) (kM_posted G (d - 1) (by omega) hM hO (p := 4 * g + x / 8) (pl := x % 8) (by omega) (by omega) ht hmd hpb hdn) (meM_posted _) lkM_118 go rfl rfl hD (Nat.le_of_ble_eq_true rfl) rfl rfl (Nat.le_of_ble_eq_true rfl) (Nat.le_of_ble_eq_true rfl) (Nat.le_of_ble_eq_true rfl) dM_measure_35 ?_
        refine zb_if_eq (tgt := 82) dM_measure_38 rfl (fun h38 => ?_) (fun h38 => ?_)
        · refine zx_iinc (v := dI x) dM_measure_82 (Nat.le_of_ble_eq_true rfl) (by first | rfl | (simp only [List.set, List.all_cons, List.all_nil, hv8, hv9]; rfl)) rfl rfl rfl ?_
          refine zx_goto (tgt := 14) dM_measure_85 rfl ?_
          first
          | (rw [pcs_f (f := (fun v => pstB B P T (4 * g + v / 8) (v % 8) t)) (m := x) (fun h => absurd (h38.symm.trans h) (by decide))] at k5
             refine ih q la pi x _ _ (by omega) (by omega) hv8 hv9 ?_ k5
             rw [← k4]; show q + cnt _ x = q + (cnt _ x + (if pstB B P T (4 * g + x / 8) (x % 8) t = true then 1 else 0)); rw [if_neg (by rw [h38]; decide), Nat.add_zero])
          | (rw [pcs_t (f := (fun v => pstB B P T (4 * g + v / 8) (v % 8) t)) (m := x) h38] at k5
             refine ih (q + 1) x _ x _ _ (by omega) (by omega) rfl hv9 ?_ ?_
             · rw [← k4]; show q + 1 + cnt _ x = q + (cnt _ x + (if pstB B P T (4 * g + x / 8) (x % 8) t = true then 1 else 0)); rw [if_pos h38]; omega
             · have hc : cost (la - x) = _ := (by unfold cost; first | rw [if_pos (by omega)] | rw [if_neg (by omega), if_pos (by omega)] | rw [if_neg (by omega), if_neg (by omega)])
               omega)
        · refine zn_iinc (c := 1) dM_measure_41 (Nat.le_of_ble_eq_true rfl) (by simp only [List.all_cons, List.all_nil, hv8, hv9]; rfl) rfl ?_
          refine zx_iload dM_measure_44 rfl ?_
          refine zx_iload dM_measure_46 rfl ?_
          refine zn_isub dM_measure_48 (by omega) ?_
          refine zx_istore dM_measure_49 (Nat.le_of_ble_eq_true rfl) (by simp only [List.set, List.all_cons, List.all_nil, hv8, hv9]; rfl) rfl ?_
          refine zx_iload dM_measure_51 rfl ?_
          refine zx_iload dM_measure_53 rfl ?_
          refine zx_iconst (v := nI 4) dM_measure_55 (by decide) ?_
          refine zn_icmp_ge (tgt := 63) dM_measure_56 rfl (by omega) (by omega) (fun h56 => ?_) (fun h56 => ?_)
          · refine zx_iload dM_measure_63 rfl ?_
            refine zx_bipush (v := nI 16) dM_measure_65 (by decide) ?_
            refine zn_icmp_ge (tgt := 74) dM_measure_67 rfl (by omega) (by omega) (fun h67 => ?_) (fun h67 => ?_)
            · refine zx_iconst (v := nI 3) dM_measure_74 (by decide) ?_
              refine zn_iadd dM_measure_75 ?_
              refine zx_istore dM_measure_76 (Nat.le_of_ble_eq_true rfl) (by simp only [List.set, List.all_cons, List.all_nil, hv9]; rfl) rfl ?_
              refine zx_iload dM_measure_78 rfl ?_
              refine zx_istore dM_measure_80 (Nat.le_of_ble_eq_true rfl) (by simp only [List.set, List.all_cons, List.all_nil, hv9]; rfl) rfl ?_
              refine zx_iinc (v := dI x) dM_measure_82 (Nat.le_of_ble_eq_true rfl) (by first | rfl | (simp only [List.set, List.all_cons, List.all_nil, hv8, hv9]; rfl)) rfl rfl rfl ?_
              refine zx_goto (tgt := 14) dM_measure_85 rfl ?_
              first
              | (rw [pcs_f (f := (fun v => pstB B P T (4 * g + v / 8) (v % 8) t)) (m := x) (fun h => absurd (h38.symm.trans h) (by decide))] at k5
                 refine ih q la pi x _ _ (by omega) (by omega) hv8 hv9 ?_ k5
                 rw [← k4]; show q + cnt _ x = q + (cnt _ x + (if pstB B P T (4 * g + x / 8) (x % 8) t = true then 1 else 0)); rw [if_neg (by rw [h38]; decide), Nat.add_zero])
              | (rw [pcs_t (f := (fun v => pstB B P T (4 * g + v / 8) (v % 8) t)) (m := x) h38] at k5
                 refine ih (q + 1) x _ x _ _ (by omega) (by omega) rfl hv9 ?_ ?_
                 · rw [← k4]; show q + 1 + cnt _ x = q + (cnt _ x + (if pstB B P T (4 * g + x / 8) (x % 8) t = true then 1 else 0)); rw [if_pos h38]; omega
                 · have hc : cost (la - x) = _ := (by unfold cost; first | rw [if_pos (by omega)] | rw [if_neg (by omega), if_pos (by omega)] | rw [if_neg (by omega), if_neg (by omega)])
                   omega)
            · refine zx_iconst (v := nI 2) dM_measure_70 (by decide) ?_
              refine zx_goto (tgt := 75) dM_measure_71 rfl ?_
              refine zn_iadd dM_measure_75 ?_
              refine zx_istore dM_measure_76 (Nat.le_of_ble_eq_true rfl) (by simp only [List.set, List.all_cons, List.all_nil, hv9]; rfl) rfl ?_
              refine zx_iload dM_measure_78 rfl ?_
              refine zx_istore dM_measure_80 (Nat.le_of_ble_eq_true rfl) (by simp only [List.set, List.all_cons, List.all_nil, hv9]; rfl) rfl ?_
              refine zx_iinc (v := dI x) dM_measure_82 (Nat.le_of_ble_eq_true rfl) (by first | rfl | (simp only [List.set, List.all_cons, List.all_nil, hv8, hv9]; rfl)) rfl rfl rfl ?_
              refine zx_goto (tgt := 14) dM_measure_85 rfl ?_
              first
              | (rw [pcs_f (f := (fun v => pstB B P T (4 * g + v / 8) (v % 8) t)) (m := x) (fun h => absurd (h38.symm.trans h) (by decide))] at k5
                 refine ih q la pi x _ _ (by omega) (by omega) hv8 hv9 ?_ k5
                 rw [← k4]; show q + cnt _ x = q + (cnt _ x + (if pstB B P T (4 * g + x / 8) (x % 8) t = true then 1 else 0)); rw [if_neg (by rw [h38]; decide), Nat.add_zero])
              | (rw [pcs_t (f := (fun v => pstB B P T (4 * g + v / 8) (v % 8) t)) (m := x) h38] at k5
                 refine ih (q + 1) x _ x _ _ (by omega) (by omega) rfl hv9 ?_ ?_
                 · rw [← k4]; show q + 1 + cnt _ x = q + (cnt _ x + (if pstB B P T (4 * g + x / 8) (x % 8) t = true then 1 else 0)); rw [if_pos h38]; omega
                 · have hc : cost (la - x) = _ := (by unfold cost; first | rw [if_pos (by omega)] | rw [if_neg (by omega), if_pos (by omega)] | rw [if_neg (by omega), if_neg (by omega)])
                   omega)
          · refine zx_iconst (v := nI 1) dM_measure_59 (by decide) ?_
            refine zx_goto (tgt := 75) dM_measure_60 rfl ?_
            refine zn_iadd dM_measure_75 ?_
            refine zx_istore dM_measure_76 (Nat.le_of_ble_eq_true rfl) (by simp only [List.set, List.all_cons, List.all_nil, hv9]; rfl) rfl ?_
            refine zx_iload dM_measure_78 rfl ?_
            refine zx_istore dM_measure_80 (Nat.le_of_ble_eq_true rfl) (by simp only [List.set, List.all_cons, List.all_nil, hv9]; rfl) rfl ?_
            refine zx_iinc (v := dI x) dM_measure_82 (Nat.le_of_ble_eq_true rfl) (by first | rfl | (simp only [List.set, List.all_cons, List.all_nil, hv8, hv9]; rfl)) rfl rfl rfl ?_
            refine zx_goto (tgt := 14) dM_measure_85 rfl ?_
            first
            | (rw [pcs_f (f := (fun v => pstB B P T (4 * g + v / 8) (v % 8) t)) (m := x) (fun h => absurd (h38.symm.trans h) (by decide))] at k5
               refine ih q la pi x _ _ (by omega) (by omega) hv8 hv9 ?_ k5
               rw [← k4]; show q + cnt _ x = q + (cnt _ x + (if pstB B P T (4 * g + x / 8) (x % 8) t = true then 1 else 0)); rw [if_neg (by rw [h38]; decide), Nat.add_zero])
            | (rw [pcs_t (f := (fun v => pstB B P T (4 * g + v / 8) (v % 8) t)) (m := x) h38] at k5
               refine ih (q + 1) x _ x _ _ (by omega) (by omega) rfl hv9 ?_ ?_
               · rw [← k4]; show q + 1 + cnt _ x = q + (cnt _ x + (if pstB B P T (4 * g + x / 8) (x % 8) t = true then 1 else 0)); rw [if_pos h38]; omega
               · have hc : cost (la - x) = _ := (by unfold cost; first | rw [if_pos (by omega)] | rw [if_neg (by omega), if_pos (by omega)] | rw [if_neg (by omega), if_neg (by omega)])
                 omega)
  refine zx_iconst (v := nI 0) dM_measure_0 (by decide) ?_
  refine zx_istore dM_measure_1 (Nat.le_of_ble_eq_true rfl) rfl rfl ?_
  refine zx_bipush (v := nI 32) dM_measure_3 (by decide) ?_
  refine zx_istore dM_measure_5 (Nat.le_of_ble_eq_true rfl) rfl rfl ?_
  refine zx_iconst (v := nI 0) dM_measure_7 (by decide) ?_
  refine zx_istore dM_measure_8 (Nat.le_of_ble_eq_true rfl) rfl rfl ?_
  refine zx_bipush (v := nI 31) dM_measure_10 (by decide) ?_
  refine zx_istore dM_measure_12 (Nat.le_of_ble_eq_true rfl) rfl rfl ?_
  exact loop _ 0 32 0 32 _ _ (Nat.lt_succ_self _) ⟨by omega, by omega⟩ rfl rfl (Nat.zero_add _) (Nat.zero_add _)

