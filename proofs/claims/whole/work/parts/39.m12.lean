theorem jRun_0 {rowV : List (Nat × Nat) → Bool} {filV : Nat → Nat → Bool} {xs : List Nat} {f a : Nat} {st : List mL} (h : (rdP xs a).1 = nI 0) : jRun rowV filV xs (f + 1) a st = finV st := by unfold jRun; rw [if_pos h]
theorem jRun_n {rowV : List (Nat × Nat) → Bool} {filV : Nat → Nat → Bool} {xs : List Nat} {f a : Nat} {l : mL} {st : List mL} (h : ¬ (rdP xs a).1 = nI 0) (h2 : jStp rowV filV xs a l st = none) : jRun rowV filV xs (f + 1) a (l :: st) = -1 := by
  rw [jRun, if_neg h]; show (match jStp rowV filV xs a l st with | none => (-1 : Int32) | some (t, st2) => jRun rowV filV xs f t st2) = _; rw [h2]
theorem jRun_s {rowV : List (Nat × Nat) → Bool} {filV : Nat → Nat → Bool} {xs : List Nat} {f a t : Nat} {l : mL} {st st2 : List mL} (h : ¬ (rdP xs a).1 = nI 0) (h2 : jStp rowV filV xs a l st = some (t, st2)) : jRun rowV filV xs (f + 1) a (l :: st) = jRun rowV filV xs f t st2 := by
  rw [jRun, if_neg h]; show (match jStp rowV filV xs a l st with | none => (-1 : Int32) | some (t, st2) => jRun rowV filV xs f t st2) = _; rw [h2]

set_option maxHeartbeats 4000000 in
set_option maxRecDepth 100000 in
theorem kM_judge (G : zG) (d : Nat) (hd : 4 ≤ d) {n : Nat} {sh : zSh} {row : zRw} {m : Nat} {A : Nat × (Nat → Nat)} {B : Nat × Nat × Nat × Nat} {P : (Nat → Int32) × (Nat → Int32) × (Nat → Bool) × (Nat → Nat) × (Nat → Nat)} {T : (Nat → Nat) × (Nat → Nat) × (Nat → Nat)} {S : (Nat → Nat) × (Nat → Bool)} {H : (Nat → Bool) × (Nat → Nat) × (Nat → Nat) × (Nat → Nat)} (hM : MA sh row m A B P T S H) {j : Nat} {pv : Int32} {xs : List Nat} {rowV : List (Nat × Nat) → Bool} {filV : Nat → Nat → Bool} (hj : j < 4) (hq : qyA H j xs) (hl : xs.length ≤ 24) (hch : ∀ k, at0 xs k < 127) (hrow : ∀ (row' : zRw) (L : List (Nat × Nat)), MA sh row' m A B P T S H → wdA row' m L → (∀ q ∈ L, q.1 ≤ q.2 ∧ q.2 ≤ xs.length) → L.length ≤ 24 → zM G (fM_row (d - 1 - 1)) [.ref m, .int (nI j), .int pv] n sh row' (zP sh row' (.int (bI (rowV L))))) (hfil : ∀ (row' : zRw) (f t : Nat), MA sh row' m A B P T S H → row' m 21 = .int (nI f) → row' m 22 = .int (nI t) → f < t → t ≤ xs.length → (∀ k, f < k → k < t → 48 ≤ at0 xs k ∧ at0 xs k ≤ 57) → zM G (fM_filter (d - 1 - 1)) [.ref m, .int (nI j), .int pv] n sh row' (zP sh row' (.int (bI (filV f t))))) : zM G (fM_judge d) [.ref m, .int (nI j), .int pv] n sh row (zpR sh (fun v row' => v = .int (jRun rowV filV xs 30 0 [(false, true, 0, 0)]) ∧ scE m row row')) := by
  refine zM.of (by show plainName "PostIndexModel" = true; decide +kernel) (Nat.le_of_ble_eq_true rfl) (by intro v hv; simp at hv; rcases hv with rfl | rfl | rfl <;> rfl) ?_
  intro K hE
  show zX G K (fM_judge d) n 0 0 sh row 0 [.ref m, .int (nI j), .int pv] []
  have hD : d - 1 + 1 ≤ d := by omega
  obtain ⟨⟨go, g_dr, g_au, g_ti, g_er, g_ln, g_tx, g_tk, g_fr, g_to, g_rw, g_pk, g_tn, g_bd, g_ql, g_qy, g_any, g_all, g_pa, g_mi, g_wf, g_wt⟩, ⟨p_dr, p_au, p_ti, p_er, p_ln, p_tx, p_tk, p_fr, p_to, p_rw, p_pk, p_tn, p_bd, p_ql, p_qy, p_any, p_all, p_pa, p_mi, p_wf, p_wt⟩, ⟨f_dl, f_md, f_pb, f_dn, f_sn⟩, a_dr, a_au, a_ti, a_er, a_ln, a_tx, a_tk, a_fr, a_to, a_rw, a_pk, a_tn, a_bd, a_ql, a_qy⟩ := id hM
  have loop : ∀ (fu a : Nat) (l : mL) (st : List mL) (r3 : zRw), xs.length - a < fu → a ≤ xs.length → lvOk a (l :: st) → jRun rowV filV xs fu a (l :: st) = jRun rowV filV xs 30 0 [(false, true, 0, 0)] → lvA r3 m (l :: st) → (scE m row r3 ∧ r3 m 20 = .int (rdP xs a).1 ∧ r3 m 21 = .int (nI (rdP xs a).2.1) ∧ r3 m 22 = .int (nI (rdP xs a).2.2) ∧ r3 m 23 = .int (nI st.length)) → zX G K (fM_judge d) n 0 0 sh r3 15 [.ref m, .int (nI j), .int pv] [] := by
    intro fu
    induction fu with
    | zero => intro a l st r3 hk; exact absurd hk (Nat.not_lt_zero _)
    | succ fu ih =>
      intro a l st r3 hk ha1 hok hfu hvr hi
      obtain ⟨hsr, k2, k3, k4, k5⟩ := hi
      have hMr := hM.scr hsr
      obtain ⟨⟨zgo, zg_dr, zg_au, zg_ti, zg_er, zg_ln, zg_tx, zg_tk, zg_fr, zg_to, zg_rw, zg_pk, zg_tn, zg_bd, zg_ql, zg_qy, zg_any, zg_all, zg_pa, zg_mi, zg_wf, zg_wt⟩, ⟨zp_dr, zp_au, zp_ti, zp_er, zp_ln, zp_tx, zp_tk, zp_fr, zp_to, zp_rw, zp_pk, zp_tn, zp_bd, zp_ql, zp_qy, zp_any, zp_all, zp_pa, zp_mi, zp_wf, zp_wt⟩, ⟨zf_dl, zf_md, zf_pb, zf_dn, zf_sn⟩, za_dr, za_au, za_ti, za_er, za_ln, za_tx, za_tk, za_fr, za_to, za_rw, za_pk, za_tn, za_bd, za_ql, za_qy⟩ := id hMr
      refine zx_aload_n dM_judge_15 rfl ?_
      refine zx_get dM_judge_16 flM_145 (by assumption) k2 ?_
      refine zx_if_eq (tgt := 41) dM_judge_19 rfl (fun h19 => ?_) (fun h19 => ?_)
      · by_cases hst : st = []
        · subst hst
          obtain ⟨⟨y1, y2, y3, y4⟩, -⟩ := id hvr
          have y5 : l.2.2.1 < 1000 := by have := (hok.2 l List.mem_cons_self).1; omega
          have y6 : l.2.2.2 < 1000 := by have := (hok.2 l List.mem_cons_self).2; omega
          replace k5 : r3 m 23 = .int (nI 0) := k5
          refine zx_aload_n dM_judge_41 rfl ?_
          refine zx_get dM_judge_42 flM_155 (by assumption) k5 ?_
          refine zn_if_gt (tgt := 66) dM_judge_45 rfl (by omega) (fun h45 => ?_) (fun h45 => ?_)
          · refine zx_iconst (v := -1) dM_judge_66 (by decide) ?_
            exact zx_iret hE rfl dM_judge_67 rfl (Nat.le_of_ble_eq_true rfl) (by
            refine ⟨_, rfl, rfl, ?_, hsr⟩
            rw [← hfu, jRun_0 h19]
            show _ = Value.int (if l.2.2.1 = 0 ∨ ¬ l.2.2.2 = 0 then -1 else bI (l.1 || l.2.1))
            by_cases hx : l.2.2.1 = 0 ∨ ¬ l.2.2.2 = 0
            · first | (exact absurd h45 (by decide)) | (rw [if_pos hx]; done) | (exfalso; rcases hx with hx | hx; exact h54 hx; exact hx h63)
            · first | (exact absurd h45 (by decide)) | (exfalso; omega) | (rw [if_neg hx, h74]; rfl) | (rw [if_neg hx, h74, h83]; rfl))
          · refine zx_aload_n dM_judge_48 rfl ?_
            refine zx_get dM_judge_49 flM_62 (by assumption) zp_pa ?_
            refine zx_iconst (v := nI 0) dM_judge_52 (by decide) ?_
            refine zn_iald dM_judge_53 g_pa rfl (by omega) (by decide) y3 ?_
            refine zn_if_eq (tgt := 66) dM_judge_54 rfl (by omega) (fun h54 => ?_) (fun h54 => ?_)
            · refine zx_iconst (v := -1) dM_judge_66 (by decide) ?_
              exact zx_iret hE rfl dM_judge_67 rfl (Nat.le_of_ble_eq_true rfl) (by
            refine ⟨_, rfl, rfl, ?_, hsr⟩
            rw [← hfu, jRun_0 h19]
            show _ = Value.int (if l.2.2.1 = 0 ∨ ¬ l.2.2.2 = 0 then -1 else bI (l.1 || l.2.1))
            by_cases hx : l.2.2.1 = 0 ∨ ¬ l.2.2.2 = 0
            · first | (exact absurd h45 (by decide)) | (rw [if_pos hx]; done) | (exfalso; rcases hx with hx | hx; exact h54 hx; exact hx h63)
            · first | (exact absurd h45 (by decide)) | (exfalso; omega) | (rw [if_neg hx, h74]; rfl) | (rw [if_neg hx, h74, h83]; rfl))
            · refine zx_aload_n dM_judge_57 rfl ?_
              refine zx_get dM_judge_58 flM_65 (by assumption) zp_mi ?_
              refine zx_iconst (v := nI 0) dM_judge_61 (by decide) ?_
              refine zn_iald dM_judge_62 g_mi rfl (by omega) (by decide) y4 ?_
              refine zn_if_eq (tgt := 68) dM_judge_63 rfl (by omega) (fun h63 => ?_) (fun h63 => ?_)
              · refine zx_aload_n dM_judge_68 rfl ?_
                refine zx_get dM_judge_69 flM_56 (by assumption) zp_any ?_
                refine zx_iconst (v := nI 0) dM_judge_72 (by decide) ?_
                refine zn_zald dM_judge_73 g_any rfl (by omega) (by decide) y1 ?_
                refine zb_if_ne (tgt := 86) dM_judge_74 rfl (fun h74 => ?_) (fun h74 => ?_)
                · refine zx_iconst (v := nI 1) dM_judge_86 (by decide) ?_
                  refine zx_goto (tgt := 91) dM_judge_87 rfl ?_
                  exact zx_iret hE rfl dM_judge_91 rfl (Nat.le_of_ble_eq_true rfl) (by
            refine ⟨_, rfl, rfl, ?_, hsr⟩
            rw [← hfu, jRun_0 h19]
            show _ = Value.int (if l.2.2.1 = 0 ∨ ¬ l.2.2.2 = 0 then -1 else bI (l.1 || l.2.1))
            by_cases hx : l.2.2.1 = 0 ∨ ¬ l.2.2.2 = 0
            · first | (exact absurd h45 (by decide)) | (rw [if_pos hx]; done) | (exfalso; rcases hx with hx | hx; exact h54 hx; exact hx h63)
            · first | (exact absurd h45 (by decide)) | (exfalso; omega) | (rw [if_neg hx, h74]; rfl) | (rw [if_neg hx, h74, h83]; rfl))
                · refine zx_aload_n dM_judge_77 rfl ?_
                  refine zx_get dM_judge_78 flM_59 (by assumption) zp_all ?_
                  refine zx_iconst (v := nI 0) dM_judge_81 (by decide) ?_
                  refine zn_zald dM_judge_82 g_all rfl (by omega) (by decide) y2 ?_
                  refine zb_if_eq (tgt := 90) dM_judge_83 rfl (fun h83 => ?_) (fun h83 => ?_)
                  · refine zx_iconst (v := nI 0) dM_judge_90 (by decide) ?_
                    exact zx_iret hE rfl dM_judge_91 rfl (Nat.le_of_ble_eq_true rfl) (by
            refine ⟨_, rfl, rfl, ?_, hsr⟩
            rw [← hfu, jRun_0 h19]
            show _ = Value.int (if l.2.2.1 = 0 ∨ ¬ l.2.2.2 = 0 then -1 else bI (l.1 || l.2.1))
            by_cases hx : l.2.2.1 = 0 ∨ ¬ l.2.2.2 = 0
            · first | (exact absurd h45 (by decide)) | (rw [if_pos hx]; done) | (exfalso; rcases hx with hx | hx; exact h54 hx; exact hx h63)
            · first | (exact absurd h45 (by decide)) | (exfalso; omega) | (rw [if_neg hx, h74]; rfl) | (rw [if_neg hx, h74, h83]; rfl))
                  · refine zx_iconst (v := nI 1) dM_judge_86 (by decide) ?_
                    refine zx_goto (tgt := 91) dM_judge_87 rfl ?_
                    exact zx_iret hE rfl dM_judge_91 rfl (Nat.le_of_ble_eq_true rfl) (by
            refine ⟨_, rfl, rfl, ?_, hsr⟩
            rw [← hfu, jRun_0 h19]
            show _ = Value.int (if l.2.2.1 = 0 ∨ ¬ l.2.2.2 = 0 then -1 else bI (l.1 || l.2.1))
            by_cases hx : l.2.2.1 = 0 ∨ ¬ l.2.2.2 = 0
            · first | (exact absurd h45 (by decide)) | (rw [if_pos hx]; done) | (exfalso; rcases hx with hx | hx; exact h54 hx; exact hx h63)
            · first | (exact absurd h45 (by decide)) | (exfalso; omega) | (rw [if_neg hx, h74]; rfl) | (rw [if_neg hx, h74, h83]; rfl))
              · refine zx_iconst (v := -1) dM_judge_66 (by decide) ?_
                exact zx_iret hE rfl dM_judge_67 rfl (Nat.le_of_ble_eq_true rfl) (by
            refine ⟨_, rfl, rfl, ?_, hsr⟩
            rw [← hfu, jRun_0 h19]
            show _ = Value.int (if l.2.2.1 = 0 ∨ ¬ l.2.2.2 = 0 then -1 else bI (l.1 || l.2.1))
            by_cases hx : l.2.2.1 = 0 ∨ ¬ l.2.2.2 = 0
            · first | (exact absurd h45 (by decide)) | (rw [if_pos hx]; done) | (exfalso; rcases hx with hx | hx; exact h54 hx; exact hx h63)
            · first | (exact absurd h45 (by decide)) | (exfalso; omega) | (rw [if_neg hx, h74]; rfl) | (rw [if_neg hx, h74, h83]; rfl))
        · obtain ⟨l2, st2, rfl⟩ : ∃ l2 st2, st = l2 :: st2 := by
            cases st with
            | nil => exact absurd rfl hst
            | cons l2 st2 => exact ⟨l2, st2, rfl⟩
          have hl7 : (l2 :: st2).length ≤ 7 := by have := hok.1; simp only [List.length_cons] at this ⊢; omega
          have hl8 : 0 < (l2 :: st2).length := Nat.succ_pos _
          refine zx_aload_n dM_judge_41 rfl ?_
          refine zx_get dM_judge_42 flM_155 (by assumption) k5 ?_
          refine zn_if_gt (tgt := 66) dM_judge_45 rfl (by omega) (fun _ => ?_) (fun hh => absurd hl8 hh)
          refine zx_iconst (v := -1) dM_judge_66 (by decide) ?_
          exact zx_iret hE rfl dM_judge_67 rfl (Nat.le_of_ble_eq_true rfl) (by refine ⟨_, rfl, rfl, ?_, hsr⟩; rw [← hfu, jRun_0 h19]; rfl)
      · refine zx_aload_n dM_judge_22 rfl ?_
        refine zx_iload_n dM_judge_23 rfl ?_
        refine zx_iload_n dM_judge_24 rfl ?_
        refine zc_Vr (n0 := n) (ce := 0) (kM_step G (d - 1) (by omega) hMr (j := j) (a := a) (pv := pv) (rowV := rowV) (filV := filV) (l := l) (st := st) hj hq hl hch hrow hfil ha1 hok h19 k2 k3 k4 k5 hvr) (meM_step _) lkM_177 go rfl rfl hD (Nat.le_of_ble_eq_true rfl) rfl rfl (Nat.le_of_ble_eq_true rfl) (Nat.le_of_ble_eq_true rfl) (Nat.le_of_ble_eq_true rfl) dM_judge_25 (fun v r4 h9 => ?_)
        obtain ⟨rfl, h10, h11⟩ := h9
        refine zb_if_ne (tgt := 33) dM_judge_28 rfl (fun h28 => ?_) (fun h28 => ?_)
        · refine zx_aload_n dM_judge_33 rfl ?_
          refine zx_iload_n dM_judge_34 rfl ?_
          obtain ⟨⟨t2, st2⟩, hJ⟩ := Option.isSome_iff_exists.mp h28
          obtain ⟨z22, z23, z24⟩ := h11 t2 st2 hJ
          obtain ⟨j1, j2, j3, j4⟩ := jStp_ok ha1 hok h19 hJ
          have hM2 := hMr.scr h10
          refine zc_Vv (n0 := n) (ce := 0) (kM_read G (d - 1) (by omega) hM2 (j := j) (a := t2) hj hq hl hch j2 z22) (meM_read _) lkM_171 go rfl rfl hD (Nat.le_of_ble_eq_true rfl) rfl rfl (Nat.le_of_ble_eq_true rfl) (Nat.le_of_ble_eq_true rfl) (Nat.le_of_ble_eq_true rfl) dM_judge_35 (fun r5 h12 => ?_)
          obtain ⟨g1, g2, g3, g4⟩ := h12
          refine zx_goto (tgt := 15) dM_judge_38 rfl ?_
          cases st2 with
          | nil => exact absurd j4 (by simp)
          | cons l2 st2 => exact ih t2 l2 st2 r5 (by omega) j2 j3 (by rw [← hfu, jRun_s h19 hJ]) (g1.L z24) ⟨(hsr.tr h10).tr g1.E, g2, g3, g4, (g1 m 23 (by omega)).trans z23⟩
        · refine zx_iconst (v := -1) dM_judge_31 (by decide) ?_
          exact zx_iret hE rfl dM_judge_32 rfl (Nat.le_of_ble_eq_true rfl) (by refine ⟨_, rfl, rfl, ?_, hsr.tr h10⟩; rw [← hfu, jRun_n h19 (by cases hh : jStp rowV filV xs a l st with | none => rfl | some z => rw [hh] at h28; cases h28)])
  refine zx_aload_n dM_judge_0 rfl ?_
  refine zx_iconst (v := nI 0) dM_judge_1 (by decide) ?_
  refine zx_put dM_judge_2 flM_136 tpM_22 (by assumption) rfl rfl ?_
  have hs1 : scE m row (zup row m 22 (.int (nI 0))) := scE.rf.upF (by omega)
  have hM1 := hM.scr hs1
  refine zx_aload_n dM_judge_5 rfl ?_
  refine zx_iconst (v := nI 0) dM_judge_6 (by decide) ?_
  refine zc_Vv (n0 := n) (ce := 0) (kM_open G (d - 1) (by omega) hM1 (st := []) (by decide) trivial) (meM_open _) lkM_174 go rfl rfl hD (Nat.le_of_ble_eq_true rfl) rfl rfl (Nat.le_of_ble_eq_true rfl) (Nat.le_of_ble_eq_true rfl) (Nat.le_of_ble_eq_true rfl) dM_judge_7 (fun r2 h9 => ?_)
  obtain ⟨h9, h10, h11⟩ := h9
  have hM2 := hM1.scr h9.E
  have z22 : r2 m 22 = .int (nI 0) := (h9 m 22 (by omega) (by omega)).trans (zup_same _ _ _)
  refine zx_aload_n dM_judge_10 rfl ?_
  refine zx_iload_n dM_judge_11 rfl ?_
  refine zc_Vv (n0 := n) (ce := 0) (kM_read G (d - 1) (by omega) hM2 (j := j) (a := 0) hj hq hl hch (Nat.zero_le _) z22) (meM_read _) lkM_171 go rfl rfl hD (Nat.le_of_ble_eq_true rfl) rfl rfl (Nat.le_of_ble_eq_true rfl) (Nat.le_of_ble_eq_true rfl) (Nat.le_of_ble_eq_true rfl) dM_judge_12 (fun r5 h12 => ?_)
  obtain ⟨g1, g2, g3, g4⟩ := h12
  exact loop 30 0 (false, true, 0, 0) [] r5 (by omega) (Nat.zero_le _) ⟨by decide, fun q hq => by rcases List.mem_singleton.mp hq with rfl; exact ⟨Nat.zero_le _, Nat.zero_le _⟩⟩ rfl (g1.L h11) ⟨(hs1.tr h9.E).tr g1.E, g2, g3, g4, (g1 m 23 (by omega)).trans h10⟩

/-- the answers of judge for a post, and for none -/
def jdg (P : mP) (T : mT) (xs : List Nat) (p : Nat) : Int32 := jRun (rowM P T p xs) (filM P p xs) xs 30 0 [(false, true, 0, 0)]
def jdg0 (xs : List Nat) : Int32 := jRun (fun _ => false) (fun _ _ => false) xs 30 0 [(false, true, 0, 0)]
theorem kM_judgeP (G : zG) (d : Nat) (hd : 4 ≤ d) {n : Nat} {sh : zSh} {row : zRw} {m : Nat} {A : Nat × (Nat → Nat)} {B : Nat × Nat × Nat × Nat} {P : (Nat → Int32) × (Nat → Int32) × (Nat → Bool) × (Nat → Nat) × (Nat → Nat)} {T : (Nat → Nat) × (Nat → Nat) × (Nat → Nat)} {S : (Nat → Nat) × (Nat → Bool)} {H : (Nat → Bool) × (Nat → Nat) × (Nat → Nat) × (Nat → Nat)} (hM : MA sh row m A B P T S H) (hO : MOk P T) {j p : Nat} {xs : List Nat} (hj : j < 4) (hq : qyA H j xs) (hl : xs.length ≤ 24) (hch : ∀ k, at0 xs k < 127) (hp : p < 24) : zM G (fM_judge d) [.ref m, .int (nI j), .int (nI p)] n sh row (zpR sh (fun v row' => v = .int (jdg P T xs p) ∧ scE m row row')) :=
  kM_judge G d hd hM hj hq hl hch (fun row' L h1 h2 h3 h4 => kM_row G _ (by omega) h1 hO hj hq hl hch hp h2 h3 h4) (fun row' f t h1 h2 h3 h4 h5 h6 => kM_filter G _ (by omega) h1 hj hp hq hl hch h2 h3 h4 h5 h6)
theorem kM_judgeN (G : zG) (d : Nat) (hd : 4 ≤ d) {n : Nat} {sh : zSh} {row : zRw} {m : Nat} {A : Nat × (Nat → Nat)} {B : Nat × Nat × Nat × Nat} {P : (Nat → Int32) × (Nat → Int32) × (Nat → Bool) × (Nat → Nat) × (Nat → Nat)} {T : (Nat → Nat) × (Nat → Nat) × (Nat → Nat)} {S : (Nat → Nat) × (Nat → Bool)} {H : (Nat → Bool) × (Nat → Nat) × (Nat → Nat) × (Nat → Nat)} (hM : MA sh row m A B P T S H) {j : Nat} {v : Int32} {xs : List Nat} (hv : v < 0) (hj : j < 4) (hq : qyA H j xs) (hl : xs.length ≤ 24) (hch : ∀ k, at0 xs k < 127) : zM G (fM_judge d) [.ref m, .int (nI j), .int v] n sh row (zpR sh (fun v row' => v = .int (jdg0 xs) ∧ scE m row row')) :=
  kM_judge G d hd hM hj hq hl hch (fun row' L h1 h2 h3 h4 => kM_rowN G _ (Nat.zero_le _) h1 hv h2 h4) (fun row' f t h1 h2 h3 h4 h5 h6 => kM_filterN G _ (Nat.zero_le _) h1 hv)
def hitM (B : mB) (P : mP) (T : mT) (xs : List Nat) (p : Nat) : Bool := shoB B P.2.2.1 p && decide (jdg P T xs p = nI 1)

set_option maxHeartbeats 4000000 in
set_option maxRecDepth 100000 in
theorem kM_left (G : zG) (d : Nat) (hd : 5 ≤ d) {n : Nat} {sh : zSh} {row : zRw} {m : Nat} {A : Nat × (Nat → Nat)} {B : Nat × Nat × Nat × Nat} {P : (Nat → Int32) × (Nat → Int32) × (Nat → Bool) × (Nat → Nat) × (Nat → Nat)} {T : (Nat → Nat) × (Nat → Nat) × (Nat → Nat)} {S : (Nat → Nat) × (Nat → Bool)} {H : (Nat → Bool) × (Nat → Nat) × (Nat → Nat) × (Nat → Nat)} (hM : MA sh row m A B P T S H) (hO : MOk P T) {j : Nat} (hj : j < 2147483648) {xs : List Nat} (hqs : (decide (j < 3) && H.1 j) = true → qyA H j xs ∧ H.2.1 j ≤ 24) (hl : xs.length ≤ 24) (hch : ∀ k, at0 xs k < 127) (hmd : B.1 ≤ 24) (hpb : B.2.1 ≤ 24) (hdn : B.2.2.1 ≤ 12) : zM G (fM_left d) [.ref m, .int (nI j)] n sh row (zpR sh (fun v row' => v = .int (if (decide (j < 3) && H.1 j) = true then nI (cnt (hitM B P T xs) (H.2.1 j)) else -1) ∧ frI m (m + 21) row row' ∧ MA sh row' m A B P T S H)) := by
  refine zM.of (by show plainName "PostIndexModel" = true; decide +kernel) (Nat.le_of_ble_eq_true rfl) (by intro v hv; simp at hv; rcases hv with rfl | rfl <;> rfl) ?_
  intro K hE
  show zX G K (fM_left d) n 0 0 sh row 0 [.ref m, .int (nI j), .retAddr 0, .retAddr 0] []
  have hD : d - 1 + 1 ≤ d := by omega
  obtain ⟨⟨go, g_dr, g_au, g_ti, g_er, g_ln, g_tx, g_tk, g_fr, g_to, g_rw, g_pk, g_tn, g_bd, g_ql, g_qy, g_any, g_all, g_pa, g_mi, g_wf, g_wt⟩, ⟨p_dr, p_au, p_ti, p_er, p_ln, p_tx, p_tk, p_fr, p_to, p_rw, p_pk, p_tn, p_bd, p_ql, p_qy, p_any, p_all, p_pa, p_mi, p_wf, p_wt⟩, ⟨f_dl, f_md, f_pb, f_dn, f_sn⟩, a_dr, a_au, a_ti, a_er, a_ln, a_tx, a_tk, a_fr, a_to, a_rw, a_pk, a_tn, a_bd, a_ql, a_qy⟩ := id hM
  refine zx_aload_n dM_left_0 rfl ?_
  refine zx_iload_n dM_left_1 rfl ?_
  refine zc_V (n0 := n) (ce := 0) (kM_searching G (d - 1) (by omega) hM hj) (meM_searching _) lkM_189 go rfl rfl hD (Nat.le_of_ble_eq_true rfl) rfl rfl (Nat.le_of_ble_eq_true rfl) (Nat.le_of_ble_eq_true rfl) (Nat.le_of_ble_eq_true rfl) dM_left_2 ?_
  refine zb_if_ne (tgt := 10) dM_left_5 rfl (fun h5 => ?_) (fun h5 => ?_)
  · have hj3 : j < 3 := by simp at h5; omega
    obtain ⟨hq1, hq2⟩ := hqs h5
    have loop : ∀ (k : Nat) (a i : Nat) (r3 : zRw), H.2.1 j - i < k → i ≤ H.2.1 j → a = cnt (hitM B P T xs) i → scE m row r3 → zX G K (fM_left d) n 0 0 sh r3 14 [.ref m, .int (nI j), .int (nI a), .int (nI i)] [] := by
      intro k
      induction k with
      | zero => intro a i r3 hk; exact absurd hk (Nat.not_lt_zero _)
      | succ k ih =>
        intro a i r3 hk h3 h4 hsr
        have hcl := cnt_le (hitM B P T xs) i
        have hMr := hM.scr hsr
        obtain ⟨⟨xgo, xg_dr, xg_au, xg_ti, xg_er, xg_ln, xg_tx, xg_tk, xg_fr, xg_to, xg_rw, xg_pk, xg_tn, xg_bd, xg_ql, xg_qy, xg_any, xg_all, xg_pa, xg_mi, xg_wf, xg_wt⟩, ⟨xp_dr, xp_au, xp_ti, xp_er, xp_ln, xp_tx, xp_tk, xp_fr, xp_to, xp_rw, xp_pk, xp_tn, xp_bd, xp_ql, xp_qy, xp_any, xp_all, xp_pa, xp_mi, xp_wf, xp_wt⟩, ⟨xf_dl, xf_md, xf_pb, xf_dn, xf_sn⟩, xa_dr, xa_au, xa_ti, xa_er, xa_ln, xa_tx, xa_tk, xa_fr, xa_to, xa_rw, xa_pk, xa_tn, xa_bd, xa_ql, xa_qy⟩ := id hMr
        refine zx_iload_n dM_left_14 rfl ?_
        refine zx_aload_n dM_left_15 rfl ?_
        refine zx_get dM_left_16 flM_47 (by assumption) xp_bd ?_
        refine zx_iload_n dM_left_19 rfl ?_
        refine zn_iald dM_left_20 g_bd rfl (by omega) (by decide) (xa_bd j (by omega)) ?_
        refine zn_icmp_ge (tgt := 56) dM_left_21 rfl (by omega) (by omega) (fun h21 => ?_) (fun h21 => ?_)
        · refine zx_iload_n dM_left_56 rfl ?_
          exact zx_iret hE rfl dM_left_57 rfl (Nat.le_of_ble_eq_true rfl) (by refine ⟨_, rfl, rfl, ?_, hsr.fr, hMr⟩; rw [if_pos h5, h4, show i = H.2.1 j by omega])
        · refine zx_iload_n dM_left_24 rfl ?_
          refine zx_aload_n dM_left_25 rfl ?_
          refine zx_iload_n dM_left_26 rfl ?_
          refine zc_V (n0 := n) (ce := 0) (kM_shown G (d - 1) (by omega) hMr (j := i) (by omega) hmd hpb (by omega)) (meM_shown _) lkM_88 go rfl rfl hD (Nat.le_of_ble_eq_true rfl) rfl rfl (Nat.le_of_ble_eq_true rfl) (Nat.le_of_ble_eq_true rfl) (Nat.le_of_ble_eq_true rfl) dM_left_27 ?_
          refine zb_if_eq (tgt := 47) dM_left_30 rfl (fun h30 => ?_) (fun h30 => ?_)
          · refine zx_iconst (v := nI 0) dM_left_47 (by decide) ?_
            refine zn_iadd dM_left_48 ?_
            refine zx_istore_n dM_left_49 (Nat.le_of_ble_eq_true rfl) rfl rfl ?_
            refine zn_iinc (c := 1) dM_left_50 (Nat.le_of_ble_eq_true rfl) rfl rfl ?_
            refine zx_goto (tgt := 14) dM_left_53 rfl ?_
            first
            | (refine ih _ (i + 1) _ (by omega) (by omega) ?_ (hsr.tr h10)
               show _ = cnt _ i + (if hitM B P T xs i = true then 1 else 0)
               first
               | (rw [if_neg (by unfold hitM; rw [h30, decide_eq_false h40]; decide), h4])
               | (rw [if_pos (by unfold hitM; rw [h30, decide_eq_true h40]; rfl), h4]))
            | (refine ih _ (i + 1) _ (by omega) (by omega) ?_ hsr
               show _ = cnt _ i + (if hitM B P T xs i = true then 1 else 0)
               rw [if_neg (by unfold hitM; rw [h30]; simp), h4])
          · refine zx_aload_n dM_left_33 rfl ?_
            refine zx_iload_n dM_left_34 rfl ?_
            refine zx_iload_n dM_left_35 rfl ?_
            refine zc_Vr (n0 := n) (ce := 0) (kM_judgeP G (d - 1) (by omega) hMr hO (j := j) (p := i) (xs := xs) (by omega) hq1 hl hch (by omega)) (meM_judge _) lkM_183 go rfl rfl hD (Nat.le_of_ble_eq_true rfl) rfl rfl (Nat.le_of_ble_eq_true rfl) (Nat.le_of_ble_eq_true rfl) (Nat.le_of_ble_eq_true rfl) dM_left_36 (fun v r4 h9 => ?_)
            obtain ⟨rfl, h10⟩ := h9
            refine zx_iconst (v := nI 1) dM_left_39 (by decide) ?_
            refine zx_icmp_ne (tgt := 47) dM_left_40 rfl (fun h40 => ?_) (fun h40 => ?_)
            · refine zx_iconst (v := nI 0) dM_left_47 (by decide) ?_
              refine zn_iadd dM_left_48 ?_
              refine zx_istore_n dM_left_49 (Nat.le_of_ble_eq_true rfl) rfl rfl ?_
              refine zn_iinc (c := 1) dM_left_50 (Nat.le_of_ble_eq_true rfl) rfl rfl ?_
              refine zx_goto (tgt := 14) dM_left_53 rfl ?_
              first
              | (refine ih _ (i + 1) _ (by omega) (by omega) ?_ (hsr.tr h10)
                 show _ = cnt _ i + (if hitM B P T xs i = true then 1 else 0)
                 first
                 | (rw [if_neg (by unfold hitM; rw [h30, decide_eq_false h40]; decide), h4])
                 | (rw [if_pos (by unfold hitM; rw [h30, decide_eq_true h40]; rfl), h4]))
              | (refine ih _ (i + 1) _ (by omega) (by omega) ?_ hsr
                 show _ = cnt _ i + (if hitM B P T xs i = true then 1 else 0)
                 rw [if_neg (by unfold hitM; rw [h30]; simp), h4])
            · refine zx_iconst (v := nI 1) dM_left_43 (by decide) ?_
              refine zx_goto (tgt := 48) dM_left_44 rfl ?_
              refine zn_iadd dM_left_48 ?_
              refine zx_istore_n dM_left_49 (Nat.le_of_ble_eq_true rfl) rfl rfl ?_
              refine zn_iinc (c := 1) dM_left_50 (Nat.le_of_ble_eq_true rfl) rfl rfl ?_
              refine zx_goto (tgt := 14) dM_left_53 rfl ?_
              first
              | (refine ih _ (i + 1) _ (by omega) (by omega) ?_ (hsr.tr h10)
                 show _ = cnt _ i + (if hitM B P T xs i = true then 1 else 0)
                 first
                 | (rw [if_neg (by unfold hitM; rw [h30, decide_eq_false h40]; decide), h4])
                 | (rw [if_pos (by unfold hitM; rw [h30, decide_eq_true h40]; rfl), h4]))
              | (refine ih _ (i + 1) _ (by omega) (by omega) ?_ hsr
                 show _ = cnt _ i + (if hitM B P T xs i = true then 1 else 0)
                 rw [if_neg (by unfold hitM; rw [h30]; simp), h4])
    refine zx_iconst (v := nI 0) dM_left_10 (by decide) ?_
    refine zx_istore_n dM_left_11 (Nat.le_of_ble_eq_true rfl) rfl rfl ?_
    refine zx_iconst (v := nI 0) dM_left_12 (by decide) ?_
    refine zx_istore_n dM_left_13 (Nat.le_of_ble_eq_true rfl) rfl rfl ?_
    exact loop _ 0 0 row (Nat.lt_succ_self _) (Nat.zero_le _) rfl scE.rf
  · refine zx_iconst (v := -1) dM_left_8 (by decide) ?_
    exact zx_iret hE rfl dM_left_9 rfl (Nat.le_of_ble_eq_true rfl) (by refine ⟨_, rfl, rfl, ?_, frI.rf, hM⟩; rw [if_neg (by rw [h5]; decide)])

def nxM (H : mH) (j : Nat) (o : Option Nat) : mH := match o with
  | some k => (H.1, va_up H.2.1 j k, H.2.2)
  | none => H

set_option maxHeartbeats 4000000 in
set_option maxRecDepth 100000 in
theorem kM_next (G : zG) (d : Nat) (hd : 5 ≤ d) {n : Nat} {sh : zSh} {row : zRw} {m : Nat} {A : Nat × (Nat → Nat)} {B : Nat × Nat × Nat × Nat} {P : (Nat → Int32) × (Nat → Int32) × (Nat → Bool) × (Nat → Nat) × (Nat → Nat)} {T : (Nat → Nat) × (Nat → Nat) × (Nat → Nat)} {S : (Nat → Nat) × (Nat → Bool)} {H : (Nat → Bool) × (Nat → Nat) × (Nat → Nat) × (Nat → Nat)} (hM : MA sh row m A B P T S H) (hO : MOk P T) {j : Nat} (hj : j < 2147483648) {xs : List Nat} (hqs : (decide (j < 3) && H.1 j) = true → qyA H j xs ∧ H.2.1 j ≤ 24) (hl : xs.length ≤ 24) (hch : ∀ k, at0 xs k < 127) (hmd : B.1 ≤ 24) (hpb : B.2.1 ≤ 24) (hdn : B.2.2.1 ≤ 12) : zM G (fM_next d) [.ref m, .int (nI j)] n sh row (zpR sh (fun v row' => v = .int (if (decide (j < 3) && H.1 j) = true then oI (nxt (hitM B P T xs) (H.2.1 j)) else -1) ∧ frI m (m + 21) row row' ∧ MA sh row' m A B P T S (if (decide (j < 3) && H.1 j) = true then nxM H j (nxt (hitM B P T xs) (H.2.1 j)) else H))) := by
  refine zM.of (by show plainName "PostIndexModel" = true; decide +kernel) (Nat.le_of_ble_eq_true rfl) (by intro v hv; simp at hv; rcases hv with rfl | rfl <;> rfl) ?_
  intro K hE
  show zX G K (fM_next d) n 0 0 sh row 0 [.ref m, .int (nI j), .retAddr 0] []
  have hD : d - 1 + 1 ≤ d := by omega
  obtain ⟨⟨go, g_dr, g_au, g_ti, g_er, g_ln, g_tx, g_tk, g_fr, g_to, g_rw, g_pk, g_tn, g_bd, g_ql, g_qy, g_any, g_all, g_pa, g_mi, g_wf, g_wt⟩, ⟨p_dr, p_au, p_ti, p_er, p_ln, p_tx, p_tk, p_fr, p_to, p_rw, p_pk, p_tn, p_bd, p_ql, p_qy, p_any, p_all, p_pa, p_mi, p_wf, p_wt⟩, ⟨f_dl, f_md, f_pb, f_dn, f_sn⟩, a_dr, a_au, a_ti, a_er, a_ln, a_tx, a_tk, a_fr, a_to, a_rw, a_pk, a_tn, a_bd, a_ql, a_qy⟩ := id hM
  refine zx_aload_n dM_next_0 rfl ?_
  refine zx_iload_n dM_next_1 rfl ?_
  refine zc_V (n0 := n) (ce := 0) (kM_searching G (d - 1) (by omega) hM hj) (meM_searching _) lkM_189 go rfl rfl hD (Nat.le_of_ble_eq_true rfl) rfl rfl (Nat.le_of_ble_eq_true rfl) (Nat.le_of_ble_eq_true rfl) (Nat.le_of_ble_eq_true rfl) dM_next_2 ?_
  refine zb_if_ne (tgt := 10) dM_next_5 rfl (fun h5 => ?_) (fun h5 => ?_)
  · have hj3 : j < 3 := by simp at h5; omega
    obtain ⟨hq1, hq2⟩ := hqs h5
    have loop : ∀ (kk k : Nat) (r3 : zRw), k < kk → k ≤ 24 → nxt (hitM B P T xs) k = nxt (hitM B P T xs) (H.2.1 j) → scE m row r3 → zX G K (fM_next d) n 0 0 sh r3 19 [.ref m, .int (nI j), .int (dI k)] [] := by
      intro kk
      induction kk with
      | zero => intro k r3 hk; exact absurd hk (Nat.not_lt_zero _)
      | succ kk ih =>
        intro k r3 hk h3 h4 hsr
        have hMr := hM.scr hsr
        obtain ⟨⟨xgo, xg_dr, xg_au, xg_ti, xg_er, xg_ln, xg_tx, xg_tk, xg_fr, xg_to, xg_rw, xg_pk, xg_tn, xg_bd, xg_ql, xg_qy, xg_any, xg_all, xg_pa, xg_mi, xg_wf, xg_wt⟩, ⟨xp_dr, xp_au, xp_ti, xp_er, xp_ln, xp_tx, xp_tk, xp_fr, xp_to, xp_rw, xp_pk, xp_tn, xp_bd, xp_ql, xp_qy, xp_any, xp_all, xp_pa, xp_mi, xp_wf, xp_wt⟩, ⟨xf_dl, xf_md, xf_pb, xf_dn, xf_sn⟩, xa_dr, xa_au, xa_ti, xa_er, xa_ln, xa_tx, xa_tk, xa_fr, xa_to, xa_rw, xa_pk, xa_tn, xa_bd, xa_ql, xa_qy⟩ := id hMr
        cases k with
        | zero =>
          refine zx_iload_n dM_next_19 rfl ?_
          refine zx_if_lt (tgt := 56) dM_next_20 rfl (fun _ => ?_) (fun h => absurd (by decide) h)
          refine zx_iconst (v := -1) dM_next_56 (by decide) ?_
          exact zx_iret hE rfl dM_next_57 rfl (Nat.le_of_ble_eq_true rfl) (by refine ⟨_, rfl, rfl, ?_, hsr.fr, ?_⟩ <;> (rw [if_pos h5, ← h4]; first | rfl | exact hMr))
        | succ k =>
          rw [dI_s]
          refine zx_iload_n dM_next_19 rfl ?_
          refine zn_if_lt (tgt := 56) dM_next_20 rfl (by omega) ?_
          refine zx_aload_n dM_next_23 rfl ?_
          refine zx_iload_n dM_next_24 rfl ?_
          refine zc_V (n0 := n) (ce := 0) (kM_shown G (d - 1) (by omega) hMr (j := k) (by omega) hmd hpb (by omega)) (meM_shown _) lkM_88 go rfl rfl hD (Nat.le_of_ble_eq_true rfl) rfl rfl (Nat.le_of_ble_eq_true rfl) (Nat.le_of_ble_eq_true rfl) (Nat.le_of_ble_eq_true rfl) dM_next_25 ?_
          refine zb_if_eq (tgt := 50) dM_next_28 rfl (fun h28 => ?_) (fun h28 => ?_)
          · refine zx_iinc (v := dI k) dM_next_50 (Nat.le_of_ble_eq_true rfl) rfl rfl rfl rfl ?_
            refine zx_goto (tgt := 19) dM_next_53 rfl ?_
            have hx : hitM B P T xs k = false := by unfold hitM; first | (rw [h28]; rfl) | (rw [h28, decide_eq_false h38]; rfl)
            first | exact ih k r3 (by omega) (by omega) (by rw [← h4, nxt_f hx]) hsr | exact ih k _ (by omega) (by omega) (by rw [← h4, nxt_f hx]) (hsr.tr h10)
          · refine zx_aload_n dM_next_31 rfl ?_
            refine zx_iload_n dM_next_32 rfl ?_
            refine zx_iload_n dM_next_33 rfl ?_
            refine zc_Vr (n0 := n) (ce := 0) (kM_judgeP G (d - 1) (by omega) hMr hO (j := j) (p := k) (xs := xs) (by omega) hq1 hl hch (by omega)) (meM_judge _) lkM_183 go rfl rfl hD (Nat.le_of_ble_eq_true rfl) rfl rfl (Nat.le_of_ble_eq_true rfl) (Nat.le_of_ble_eq_true rfl) (Nat.le_of_ble_eq_true rfl) dM_next_34 (fun v r4 h9 => ?_)
            obtain ⟨rfl, h10⟩ := h9
            have hM4 := hMr.scr h10
            refine zx_iconst (v := nI 1) dM_next_37 (by decide) ?_
            refine zx_icmp_ne (tgt := 50) dM_next_38 rfl (fun h38 => ?_) (fun h38 => ?_)
            · refine zx_iinc (v := dI k) dM_next_50 (Nat.le_of_ble_eq_true rfl) rfl rfl rfl rfl ?_
              refine zx_goto (tgt := 19) dM_next_53 rfl ?_
              have hx : hitM B P T xs k = false := by unfold hitM; first | (rw [h28]; rfl) | (rw [h28, decide_eq_false h38]; rfl)
              first | exact ih k r3 (by omega) (by omega) (by rw [← h4, nxt_f hx]) hsr | exact ih k _ (by omega) (by omega) (by rw [← h4, nxt_f hx]) (hsr.tr h10)
            · refine zx_aload_n dM_next_41 rfl ?_
              refine zx_get dM_next_42 flM_47 (by assumption) (show r4 m 17 = .ref (m + 13) from (h10 m 17 (by omega) (by omega)).trans xp_bd) ?_
              refine zx_iload_n dM_next_45 rfl ?_
              refine zx_iload_n dM_next_46 rfl ?_
              refine zn_iast dM_next_47 g_bd rfl (by omega) (by decide) ?_
              have h8 := hM4.bd (i := j) (z := k)
              refine zx_iload_n dM_next_48 rfl ?_
              exact zx_iret hE rfl dM_next_49 rfl (Nat.le_of_ble_eq_true rfl) (by
            have hx : hitM B P T xs k = true := (by unfold hitM; rw [h28, decide_eq_true h38]; rfl)
            rw [nxt_t hx] at h4
            refine ⟨_, rfl, rfl, ?_, (hsr.tr h10).fr.tr (frI_up (by omega) (by omega)), ?_⟩
            · rw [if_pos h5, ← h4]; rfl
            · rw [if_pos h5, ← h4]; exact h8)
    refine zx_aload_n dM_next_10 rfl ?_
    refine zx_get dM_next_11 flM_47 (by assumption) (by assumption) ?_
    refine zx_iload_n dM_next_14 rfl ?_
    refine zn_iald dM_next_15 g_bd rfl (by omega) (by decide) (a_bd j (by omega)) ?_
    refine zx_iconst (v := nI 1) dM_next_16 (by decide) ?_
    refine zx_isub dM_next_17 ?_
    rw [dI_sub]
    refine zx_istore_n dM_next_18 (Nat.le_of_ble_eq_true rfl) rfl rfl ?_
    exact loop _ (H.2.1 j) row (Nat.lt_succ_self _) hq2 rfl scE.rf
  · refine zx_iconst (v := -1) dM_next_8 (by decide) ?_
    exact zx_iret hE rfl dM_next_9 rfl (Nat.le_of_ble_eq_true rfl) (by refine ⟨_, rfl, rfl, ?_, frI.rf, ?_⟩ <;> rw [if_neg (by rw [h5]; decide)]; exact hM)

