theorem arrI.keep {row row' : zRw} {a N : Nat} {f : Nat → Int32} (h : arrI row a N f) (e : ∀ k, row' a k = row a k) : arrI row' a N f := fun k hk => by rw [e]; exact h k hk
/-- only what the reader of a query uses has changed -/
def scE (m : Nat) (row row' : zRw) : Prop := ∀ b k, (b ≠ m ∨ k < 20 ∨ (23 < k ∧ k ≠ 28)) → (b < m + 16 ∨ m + 21 < b) → row' b k = row b k
def scR (m : Nat) (row row' : zRw) : Prop := ∀ b k, (b ≠ m ∨ k < 20 ∨ 22 < k) → row' b k = row b k
theorem scE.rf {m : Nat} {row : zRw} : scE m row row := fun _ _ _ _ => rfl
theorem scE.tr {m : Nat} {r1 r2 r3 : zRw} (h : scE m r1 r2) (g : scE m r2 r3) : scE m r1 r3 := fun b k h1 h2 => (g b k h1 h2).trans (h b k h1 h2)
theorem scR.rf {m : Nat} {row : zRw} : scR m row row := fun _ _ _ => rfl
theorem scR.E {m : Nat} {r1 r2 : zRw} (h : scR m r1 r2) : scE m r1 r2 := fun b k h1 _ => h b k (by omega)
theorem scR.up {m k : Nat} {v : Value} {r1 r2 : zRw} (h : scR m r1 r2) (h1 : 20 ≤ k) (h2 : k ≤ 22) : scR m r1 (zup r2 m k v) := fun b j hb => by rw [zup_k (by omega)]; exact h b j hb
theorem scE.upF {m k : Nat} {v : Value} {r1 r2 : zRw} (h : scE m r1 r2) (h1 : (20 ≤ k ∧ k ≤ 23) ∨ k = 28) : scE m r1 (zup r2 m k v) := fun b j hb hc => by rw [zup_k (by omega)]; exact h b j hb hc
theorem scE.upA {m a k : Nat} {v : Value} {r1 r2 : zRw} (h : scE m r1 r2) (h1 : m + 16 ≤ a) (h2 : a ≤ m + 21) : scE m r1 (zup r2 a k v) := fun b j hb hc => by rw [zup_k (by omega)]; exact h b j hb hc
theorem scE.fr {m : Nat} {r1 r2 : zRw} (h : scE m r1 r2) : frI m (m + 21) r1 r2 := fun b hb => funext fun k => h b k (by omega) (by omega)
theorem MA.scr {sh : zSh} {row row' : zRw} {m : Nat} {A : Nat × (Nat → Nat)} {B : Nat × Nat × Nat × Nat} {P : (Nat → Int32) × (Nat → Int32) × (Nat → Bool) × (Nat → Nat) × (Nat → Nat)} {T : (Nat → Nat) × (Nat → Nat) × (Nat → Nat)} {S : (Nat → Nat) × (Nat → Bool)} {H : (Nat → Bool) × (Nat → Nat) × (Nat → Nat) × (Nat → Nat)} (hM : MA sh row m A B P T S H) (hs : scE m row row') : MA sh row' m A B P T S H := by
  obtain ⟨⟨go, g_dr, g_au, g_ti, g_er, g_ln, g_tx, g_tk, g_fr, g_to, g_rw, g_pk, g_tn, g_bd, g_ql, g_qy, g_any, g_all, g_pa, g_mi, g_wf, g_wt⟩, ⟨p_dr, p_au, p_ti, p_er, p_ln, p_tx, p_tk, p_fr, p_to, p_rw, p_pk, p_tn, p_bd, p_ql, p_qy, p_any, p_all, p_pa, p_mi, p_wf, p_wt⟩, ⟨f_dl, f_md, f_pb, f_dn, f_sn⟩, a_dr, a_au, a_ti, a_er, a_ln, a_tx, a_tk, a_fr, a_to, a_rw, a_pk, a_tn, a_bd, a_ql, a_qy⟩ := id hM
  have hF : ∀ k, k < 20 ∨ (23 < k ∧ k ≠ 28) → row' m k = row m k := fun k hk => hs m k (by omega) (by omega)
  refine ⟨⟨go, g_dr, g_au, g_ti, g_er, g_ln, g_tx, g_tk, g_fr, g_to, g_rw, g_pk, g_tn, g_bd, g_ql, g_qy, g_any, g_all, g_pa, g_mi, g_wf, g_wt⟩, ⟨?_, ?_, ?_, ?_, ?_, ?_, ?_, ?_, ?_, ?_, ?_, ?_, ?_, ?_, ?_, ?_, ?_, ?_, ?_, ?_, ?_⟩, ⟨?_, ?_, ?_, ?_, ?_⟩, ?_, ?_, ?_, ?_, ?_, ?_, ?_, ?_, ?_, ?_, ?_, ?_, ?_, ?_, ?_⟩ <;> first | (rw [hF _ (by omega)]; assumption) | exact arrI.keep (by assumption) (fun k => hs _ _ (by omega) (by omega))

def scanD (xs : List Nat) (i : Nat) : Nat := i + ((xs.drop i).takeWhile isDg).length
theorem scanD_s {xs : List Nat} {i : Nat} (h : i < xs.length) (hw : isDg (at0 xs i) = true) : scanD xs i = scanD xs (i + 1) := by
  unfold scanD; rw [drop_at0 h, List.takeWhile_cons, hw]; simp; omega
theorem scanD_e {xs : List Nat} {i : Nat} (h : xs.length ≤ i ∨ isDg (at0 xs i) = false) : scanD xs i = i := by
  unfold scanD
  rcases Nat.lt_or_ge i xs.length with g | g
  · rw [drop_at0 g, List.takeWhile_cons]
    rcases h with h | h
    · omega
    · rw [h]; rfl
  · rw [List.drop_eq_nil_of_le g]; rfl
theorem scanD_ge {xs : List Nat} {i : Nat} : i ≤ scanD xs i := by unfold scanD; omega
theorem scanD_le {xs : List Nat} {i : Nat} (h : i ≤ xs.length) : scanD xs i ≤ xs.length := by
  unfold scanD
  have := (List.takeWhile_prefix (l := xs.drop i) isDg).length_le
  rw [List.length_drop] at this
  omega
/-- the next piece: its kind, where it begins and ends -/
def rdP (xs : List Nat) (a : Nat) : Int32 × Nat × Nat :=
  if xs.length ≤ skp xs a then (nI 0, skp xs a, skp xs a + 1)
  else if isWd (at0 xs (skp xs a)) = true ∨ (at0 xs (skp xs a) = 35 ∨ at0 xs (skp xs a) = 64) then ((if (at0 xs (skp xs a) = 35 ∨ at0 xs (skp xs a) = 64) ∧ scanW xs (skp xs a + 1) = skp xs a + 1 then -1 else nI 1), skp xs a, scanW xs (skp xs a + 1))
  else if at0 xs (skp xs a) = 61 ∨ at0 xs (skp xs a) = 60 ∨ at0 xs (skp xs a) = 62 then ((if scanD xs (skp xs a + 1) = skp xs a + 1 ∨ skp xs a + 10 < scanD xs (skp xs a + 1) then -1 else nI 2), skp xs a, scanD xs (skp xs a + 1))
  else ((if at0 xs (skp xs a) = 124 ∨ at0 xs (skp xs a) = 45 ∨ at0 xs (skp xs a) = 34 ∨ at0 xs (skp xs a) = 40 ∨ at0 xs (skp xs a) = 41 then nI (at0 xs (skp xs a)) else -1), skp xs a, skp xs a + 1)
theorem atV {xs : List Nat} {k : Nat} (hch : ∀ k, at0 xs k < 127) : (if k < xs.length then at0 xs k else 32) < 127 := by have := hch k; split <;> omega

set_option maxHeartbeats 4000000 in
set_option maxRecDepth 100000 in
theorem kM_read (G : zG) (d : Nat) (hd : 2 ≤ d) {n : Nat} {sh : zSh} {row : zRw} {m : Nat} {A : Nat × (Nat → Nat)} {B : Nat × Nat × Nat × Nat} {P : (Nat → Int32) × (Nat → Int32) × (Nat → Bool) × (Nat → Nat) × (Nat → Nat)} {T : (Nat → Nat) × (Nat → Nat) × (Nat → Nat)} {S : (Nat → Nat) × (Nat → Bool)} {H : (Nat → Bool) × (Nat → Nat) × (Nat → Nat) × (Nat → Nat)} (hM : MA sh row m A B P T S H) {j a : Nat} {xs : List Nat} (hj : j < 4) (hq : qyA H j xs) (hl : xs.length ≤ 24) (hch : ∀ k, at0 xs k < 127) (ha : a ≤ xs.length) (h22 : row m 22 = .int (nI a)) : zM G (fM_read d) [.ref m, .int (nI j)] n sh row (zpV sh (fun row' => scR m row row' ∧ row' m 20 = .int (rdP xs a).1 ∧ row' m 21 = .int (nI (rdP xs a).2.1) ∧ row' m 22 = .int (nI (rdP xs a).2.2))) := by
  refine zM.of (by show plainName "PostIndexModel" = true; decide +kernel) (Nat.le_of_ble_eq_true rfl) (by intro v hv; simp at hv; rcases hv with rfl | rfl <;> rfl) ?_
  intro K hE
  show zX G K (fM_read d) n 0 0 sh row 0 [.ref m, .int (nI j), .retAddr 0, .retAddr 0, .retAddr 0, .retAddr 0] []
  have hD : d - 1 + 1 ≤ d := by omega
  obtain ⟨⟨go, g_dr, g_au, g_ti, g_er, g_ln, g_tx, g_tk, g_fr, g_to, g_rw, g_pk, g_tn, g_bd, g_ql, g_qy, g_any, g_all, g_pa, g_mi, g_wf, g_wt⟩, ⟨p_dr, p_au, p_ti, p_er, p_ln, p_tx, p_tk, p_fr, p_to, p_rw, p_pk, p_tn, p_bd, p_ql, p_qy, p_any, p_all, p_pa, p_mi, p_wf, p_wt⟩, ⟨f_dl, f_md, f_pb, f_dn, f_sn⟩, a_dr, a_au, a_ti, a_er, a_ln, a_tx, a_tk, a_fr, a_to, a_rw, a_pk, a_tn, a_bd, a_ql, a_qy⟩ := id hM
  have m51 : ∀ (k c : Nat) (r2 : zRw) (v4 v5 : Value), v4.category = 1 → v5.category = 1 → skp xs a = k → k ≤ xs.length → c = (if k < xs.length then at0 xs k else 32) → scR m row r2 → r2 m 21 = .int (nI k) → r2 m 22 = .int (nI (k + 1)) → zX G K (fM_read d) n 0 0 sh r2 51 [.ref m, .int (nI j), .int (nI k), .int (nI c), v4, v5] [] := by
    intro k c r2 v4 v5 hv4 hv5 hk0 hkl hc hsc h21 h22
    have hMr := hM.scr hsc.E
    obtain ⟨⟨xgo, xg_dr, xg_au, xg_ti, xg_er, xg_ln, xg_tx, xg_tk, xg_fr, xg_to, xg_rw, xg_pk, xg_tn, xg_bd, xg_ql, xg_qy, xg_any, xg_all, xg_pa, xg_mi, xg_wf, xg_wt⟩, ⟨xp_dr, xp_au, xp_ti, xp_er, xp_ln, xp_tx, xp_tk, xp_fr, xp_to, xp_rw, xp_pk, xp_tn, xp_bd, xp_ql, xp_qy, xp_any, xp_all, xp_pa, xp_mi, xp_wf, xp_wt⟩, ⟨xf_dl, xf_md, xf_pb, xf_dn, xf_sn⟩, xa_dr, xa_au, xa_ti, xa_er, xa_ln, xa_tx, xa_tk, xa_fr, xa_to, xa_rw, xa_pk, xa_tn, xa_bd, xa_ql, xa_qy⟩ := id hMr
    have hcl : c < 127 := by rw [hc]; exact atV hch
    have m68 : ∀ b4 : Bool, b4 = decide (c = 35 ∨ c = 64) → zX G K (fM_read d) n 0 0 sh r2 68 [.ref m, .int (nI j), .int (nI k), .int (nI c), v4, v5] [.int (bI b4)] := by
      intro b4 hb4
      have m93 : ∀ b5 : Bool, b5 = decide (c = 61 ∨ c = 60 ∨ c = 62) → zX G K (fM_read d) n 0 0 sh r2 93 [.ref m, .int (nI j), .int (nI k), .int (nI c), .int (bI b4), v5] [.int (bI b5)] := by
        intro b5 hb5
        have w125 : (isWd (at0 xs k) = true ∨ (at0 xs k = 35 ∨ at0 xs k = 64)) → k < xs.length → zX G K (fM_read d) n 0 0 sh r2 125 [.ref m, .int (nI j), .int (nI k), .int (nI c), .int (bI b4), .int (bI b5)] [] := by
          intro hwm hklt
          rw [if_pos hklt] at hc
          subst hc
          have m153 : ∀ r3, scR m row r3 → r3 m 21 = .int (nI k) → r3 m 22 = .int (nI (scanW xs (k + 1))) → zX G K (fM_read d) n 0 0 sh r3 153 [.ref m, .int (nI j), .int (nI k), .int (nI (at0 xs k)), .int (bI b4), .int (bI b5)] [] := by
            intro r3 hs3 hf21 hf22
            have hle := scanW_le (xs := xs) (i := k + 1) (by omega)
            have hge := @scanW_ge xs (k + 1)
            refine zx_aload_n dM_read_153 rfl ?_
            refine zx_iload dM_read_154 rfl ?_
            refine zb_if_eq (tgt := 173) dM_read_156 rfl (fun h156 => ?_) (fun h156 => ?_)
            · refine zx_iconst (v := nI 1) dM_read_173 (by decide) ?_
              refine zx_put dM_read_174 flM_145 tpM_20 (by assumption) rfl rfl ?_
              refine zx_goto (tgt := 285) dM_read_177 rfl ?_
              exact zx_vret hE rfl dM_read_285 rfl (Nat.le_of_ble_eq_true rfl) (by
              have hR : rdP xs a = _ := (by unfold rdP; rw [hk0, if_neg (by omega), if_pos hwm])
              rw [hR]
              refine ⟨rfl, rfl, hs3.up (by omega) (by omega), ?_, by rw [zup_k (Or.inr (by decide))]; exact hf21, by rw [zup_k (Or.inr (by decide))]; exact hf22⟩
              rw [zup_same]
              by_cases hmk : (at0 xs k = 35 ∨ at0 xs k = 64) ∧ scanW xs (k + 1) = k + 1
              · have h8 : decide (at0 xs k = 35 ∨ at0 xs k = 64) = true := decide_eq_true hmk.1
                have h7 := hmk.2
                rw [h8] at hb4
                first | (rw [if_pos hmk]; done) | (exfalso; omega) | (exfalso; rw [hb4] at h156; cases h156)
              · first | (rw [if_neg hmk]; done) | (exfalso; exact hmk ⟨of_decide_eq_true (hb4.symm.trans h156), by omega⟩))
            · refine zx_aload_n dM_read_159 rfl ?_
              refine zx_get dM_read_160 flM_136 (by assumption) hf22 ?_
              refine zx_iload_n dM_read_163 rfl ?_
              refine zx_iconst (v := nI 1) dM_read_164 (by decide) ?_
              refine zn_iadd dM_read_165 ?_
              refine zn_icmp_ne (tgt := 173) dM_read_166 rfl (by omega) (by omega) (fun h166 => ?_) (fun h166 => ?_)
              · refine zx_iconst (v := nI 1) dM_read_173 (by decide) ?_
                refine zx_put dM_read_174 flM_145 tpM_20 (by assumption) rfl rfl ?_
                refine zx_goto (tgt := 285) dM_read_177 rfl ?_
                exact zx_vret hE rfl dM_read_285 rfl (Nat.le_of_ble_eq_true rfl) (by
              have hR : rdP xs a = _ := (by unfold rdP; rw [hk0, if_neg (by omega), if_pos hwm])
              rw [hR]
              refine ⟨rfl, rfl, hs3.up (by omega) (by omega), ?_, by rw [zup_k (Or.inr (by decide))]; exact hf21, by rw [zup_k (Or.inr (by decide))]; exact hf22⟩
              rw [zup_same]
              by_cases hmk : (at0 xs k = 35 ∨ at0 xs k = 64) ∧ scanW xs (k + 1) = k + 1
              · have h8 : decide (at0 xs k = 35 ∨ at0 xs k = 64) = true := decide_eq_true hmk.1
                have h7 := hmk.2
                rw [h8] at hb4
                first | (rw [if_pos hmk]; done) | (exfalso; omega) | (exfalso; rw [hb4] at h156; cases h156)
              · first | (rw [if_neg hmk]; done) | (exfalso; exact hmk ⟨of_decide_eq_true (hb4.symm.trans h156), by omega⟩))
              · refine zx_iconst (v := -1) dM_read_169 (by decide) ?_
                refine zx_goto (tgt := 174) dM_read_170 rfl ?_
                refine zx_put dM_read_174 flM_145 tpM_20 (by assumption) rfl rfl ?_
                refine zx_goto (tgt := 285) dM_read_177 rfl ?_
                exact zx_vret hE rfl dM_read_285 rfl (Nat.le_of_ble_eq_true rfl) (by
              have hR : rdP xs a = _ := (by unfold rdP; rw [hk0, if_neg (by omega), if_pos hwm])
              rw [hR]
              refine ⟨rfl, rfl, hs3.up (by omega) (by omega), ?_, by rw [zup_k (Or.inr (by decide))]; exact hf21, by rw [zup_k (Or.inr (by decide))]; exact hf22⟩
              rw [zup_same]
              by_cases hmk : (at0 xs k = 35 ∨ at0 xs k = 64) ∧ scanW xs (k + 1) = k + 1
              · have h8 : decide (at0 xs k = 35 ∨ at0 xs k = 64) = true := decide_eq_true hmk.1
                have h7 := hmk.2
                rw [h8] at hb4
                first | (rw [if_pos hmk]; done) | (exfalso; omega) | (exfalso; rw [hb4] at h156; cases h156)
              · first | (rw [if_neg hmk]; done) | (exfalso; exact hmk ⟨of_decide_eq_true (hb4.symm.trans h156), by omega⟩))
          have lp : ∀ (k2 e : Nat) (r3 : zRw), xs.length - e < k2 → k + 1 ≤ e → e ≤ xs.length → scanW xs e = scanW xs (k + 1) → scR m row r3 → r3 m 21 = .int (nI k) → r3 m 22 = .int (nI e) → zX G K (fM_read d) n 0 0 sh r3 125 [.ref m, .int (nI j), .int (nI k), .int (nI (at0 xs k)), .int (bI b4), .int (bI b5)] [] := by
            intro k2
            induction k2 with
            | zero => intro e r3 hk; exact absurd hk (Nat.not_lt_zero _)
            | succ k2 ih2 =>
            intro e r3 z1 z2 z4 z3 hs3 hf21 hf22
            refine zx_aload_n dM_read_125 rfl ?_
            refine zx_iload_n dM_read_126 rfl ?_
            refine zx_aload_n dM_read_127 rfl ?_
            refine zx_get dM_read_128 flM_136 (by assumption) hf22 ?_
            have hM3 := hM.scr hs3.E
            have hca := atV (k := e) hch
            refine zc_V (n0 := n) (ce := 0) (kM_at G (d - 1) (by omega) hM3 (j := j) (k := e) hj hq hl (by omega)) (meM_at _) lkM_139 go rfl rfl hD (Nat.le_of_ble_eq_true rfl) rfl rfl (Nat.le_of_ble_eq_true rfl) (Nat.le_of_ble_eq_true rfl) (Nat.le_of_ble_eq_true rfl) dM_read_131 ?_
            refine zc_S (n0 := n) (ce := 0) (kM_wordy G (d - 1) (by omega) (c := if e < xs.length then at0 xs e else 32) (by omega)) (meM_wordy _) lkM_98 rfl hD (Nat.le_of_ble_eq_true rfl) rfl rfl (Nat.le_of_ble_eq_true rfl) (Nat.le_of_ble_eq_true rfl) (Nat.le_of_ble_eq_true rfl) dM_read_134 ?_
            refine zb_if_eq (tgt := 153) dM_read_137 rfl (fun h137 => ?_) (fun h137 => ?_)
            · have he : e = scanW xs (k + 1) := by
                rw [← z3]
                rcases Nat.lt_or_ge e xs.length with g | g
                · rw [if_pos g] at h137; exact (scanW_e (Or.inr h137)).symm
                · exact (scanW_e (Or.inl g)).symm
              subst he
              exact m153 r3 hs3 hf21 hf22
            · refine zx_aload_n dM_read_140 rfl ?_
              refine zx_dup dM_read_141 rfl ?_
              refine zx_get dM_read_142 flM_136 (by assumption) hf22 ?_
              refine zx_iconst (v := nI 1) dM_read_145 (by decide) ?_
              refine zn_iadd dM_read_146 ?_
              refine zx_put dM_read_147 flM_136 tpM_22 (by assumption) rfl rfl ?_
              refine zx_goto (tgt := 125) dM_read_150 rfl ?_
              have hel : e < xs.length := by
                rcases Nat.lt_or_ge e xs.length with g | g
                · exact g
                · rw [if_neg (by omega)] at h137; exact absurd h137 (by decide)
              rw [if_pos hel] at h137
              exact ih2 (e + 1) _ (by omega) (by omega) (by omega) (by rw [← z3, scanW_s hel h137]) (hs3.up (by omega) (by omega)) (by rw [zup_k (Or.inr (by decide))]; exact hf21) (zup_same _ _ _)
          exact lp _ (k + 1) r2 (Nat.lt_succ_self _) (Nat.le_refl _) (by omega) rfl hsc h21 h22
        have w185 : ¬ (isWd (at0 xs k) = true ∨ (at0 xs k = 35 ∨ at0 xs k = 64)) → (at0 xs k = 61 ∨ at0 xs k = 60 ∨ at0 xs k = 62) → k < xs.length → zX G K (fM_read d) n 0 0 sh r2 185 [.ref m, .int (nI j), .int (nI k), .int (nI c), .int (bI b4), .int (bI b5)] [] := by
          intro hnw hts hklt
          rw [if_pos hklt] at hc
          subst hc
          have m213 : ∀ r3, scR m row r3 → r3 m 21 = .int (nI k) → r3 m 22 = .int (nI (scanD xs (k + 1))) → zX G K (fM_read d) n 0 0 sh r3 213 [.ref m, .int (nI j), .int (nI k), .int (nI (at0 xs k)), .int (bI b4), .int (bI b5)] [] := by
            intro r3 hs3 hf21 hf22
            have hle := scanD_le (xs := xs) (i := k + 1) (by omega)
            have hge := @scanD_ge xs (k + 1)
            refine zx_aload_n dM_read_213 rfl ?_
            refine zx_aload_n dM_read_214 rfl ?_
            refine zx_get dM_read_215 flM_136 (by assumption) hf22 ?_
            refine zx_iload_n dM_read_218 rfl ?_
            refine zx_iconst (v := nI 1) dM_read_219 (by decide) ?_
            refine zn_iadd dM_read_220 ?_
            refine zn_icmp_eq (tgt := 235) dM_read_221 rfl (by omega) (by omega) (fun h221 => ?_) (fun h221 => ?_)
            · refine zx_iconst (v := -1) dM_read_235 (by decide) ?_
              refine zx_goto (tgt := 240) dM_read_236 rfl ?_
              refine zx_put dM_read_240 flM_145 tpM_20 (by assumption) rfl rfl ?_
              refine zx_goto (tgt := 285) dM_read_243 rfl ?_
              exact zx_vret hE rfl dM_read_285 rfl (Nat.le_of_ble_eq_true rfl) (by
              have hR : rdP xs a = _ := (by unfold rdP; rw [hk0, if_neg (by omega), if_neg hnw, if_pos hts])
              rw [hR]
              refine ⟨rfl, rfl, hs3.up (by omega) (by omega), ?_, by rw [zup_k (Or.inr (by decide))]; exact hf21, by rw [zup_k (Or.inr (by decide))]; exact hf22⟩
              rw [zup_same]
              first
              | rw [if_pos (Or.inl (by omega))]
              | rw [if_pos (Or.inr (by omega))]
              | rw [if_neg (fun hh => by omega)])
            · refine zx_aload_n dM_read_224 rfl ?_
              refine zx_get dM_read_225 flM_136 (by assumption) hf22 ?_
              refine zx_iload_n dM_read_228 rfl ?_
              refine zx_bipush (v := nI 10) dM_read_229 (by decide) ?_
              refine zn_iadd dM_read_231 ?_
              refine zn_icmp_le (tgt := 239) dM_read_232 rfl (by omega) (by omega) (fun h232 => ?_) (fun h232 => ?_)
              · refine zx_iconst (v := nI 2) dM_read_239 (by decide) ?_
                refine zx_put dM_read_240 flM_145 tpM_20 (by assumption) rfl rfl ?_
                refine zx_goto (tgt := 285) dM_read_243 rfl ?_
                exact zx_vret hE rfl dM_read_285 rfl (Nat.le_of_ble_eq_true rfl) (by
              have hR : rdP xs a = _ := (by unfold rdP; rw [hk0, if_neg (by omega), if_neg hnw, if_pos hts])
              rw [hR]
              refine ⟨rfl, rfl, hs3.up (by omega) (by omega), ?_, by rw [zup_k (Or.inr (by decide))]; exact hf21, by rw [zup_k (Or.inr (by decide))]; exact hf22⟩
              rw [zup_same]
              first
              | rw [if_pos (Or.inl (by omega))]
              | rw [if_pos (Or.inr (by omega))]
              | rw [if_neg (fun hh => by omega)])
              · refine zx_iconst (v := -1) dM_read_235 (by decide) ?_
                refine zx_goto (tgt := 240) dM_read_236 rfl ?_
                refine zx_put dM_read_240 flM_145 tpM_20 (by assumption) rfl rfl ?_
                refine zx_goto (tgt := 285) dM_read_243 rfl ?_
                exact zx_vret hE rfl dM_read_285 rfl (Nat.le_of_ble_eq_true rfl) (by
              have hR : rdP xs a = _ := (by unfold rdP; rw [hk0, if_neg (by omega), if_neg hnw, if_pos hts])
              rw [hR]
              refine ⟨rfl, rfl, hs3.up (by omega) (by omega), ?_, by rw [zup_k (Or.inr (by decide))]; exact hf21, by rw [zup_k (Or.inr (by decide))]; exact hf22⟩
              rw [zup_same]
              first
              | rw [if_pos (Or.inl (by omega))]
              | rw [if_pos (Or.inr (by omega))]
              | rw [if_neg (fun hh => by omega)])
          have lp : ∀ (k2 e : Nat) (r3 : zRw), xs.length - e < k2 → k + 1 ≤ e → e ≤ xs.length → scanD xs e = scanD xs (k + 1) → scR m row r3 → r3 m 21 = .int (nI k) → r3 m 22 = .int (nI e) → zX G K (fM_read d) n 0 0 sh r3 185 [.ref m, .int (nI j), .int (nI k), .int (nI (at0 xs k)), .int (bI b4), .int (bI b5)] [] := by
            intro k2
            induction k2 with
            | zero => intro e r3 hk; exact absurd hk (Nat.not_lt_zero _)
            | succ k2 ih2 =>
            intro e r3 z1 z2 z4 z3 hs3 hf21 hf22
            refine zx_aload_n dM_read_185 rfl ?_
            refine zx_iload_n dM_read_186 rfl ?_
            refine zx_aload_n dM_read_187 rfl ?_
            refine zx_get dM_read_188 flM_136 (by assumption) hf22 ?_
            have hM3 := hM.scr hs3.E
            have hca := atV (k := e) hch
            refine zc_V (n0 := n) (ce := 0) (kM_at G (d - 1) (by omega) hM3 (j := j) (k := e) hj hq hl (by omega)) (meM_at _) lkM_139 go rfl rfl hD (Nat.le_of_ble_eq_true rfl) rfl rfl (Nat.le_of_ble_eq_true rfl) (Nat.le_of_ble_eq_true rfl) (Nat.le_of_ble_eq_true rfl) dM_read_191 ?_
            refine zc_S (n0 := n) (ce := 0) (kM_digit G (d - 1) (by omega) (c := if e < xs.length then at0 xs e else 32) (by omega)) (meM_digit _) lkM_74 rfl hD (Nat.le_of_ble_eq_true rfl) rfl rfl (Nat.le_of_ble_eq_true rfl) (Nat.le_of_ble_eq_true rfl) (Nat.le_of_ble_eq_true rfl) dM_read_194 ?_
            refine zb_if_eq (tgt := 213) dM_read_197 rfl (fun h197 => ?_) (fun h197 => ?_)
            · have he : e = scanD xs (k + 1) := by
                rw [← z3]
                rcases Nat.lt_or_ge e xs.length with g | g
                · rw [if_pos g] at h197; exact (scanD_e (Or.inr h197)).symm
                · exact (scanD_e (Or.inl g)).symm
              subst he
              exact m213 r3 hs3 hf21 hf22
            · refine zx_aload_n dM_read_200 rfl ?_
              refine zx_dup dM_read_201 rfl ?_
              refine zx_get dM_read_202 flM_136 (by assumption) hf22 ?_
              refine zx_iconst (v := nI 1) dM_read_205 (by decide) ?_
              refine zn_iadd dM_read_206 ?_
              refine zx_put dM_read_207 flM_136 tpM_22 (by assumption) rfl rfl ?_
              refine zx_goto (tgt := 185) dM_read_210 rfl ?_
              have hel : e < xs.length := by
                rcases Nat.lt_or_ge e xs.length with g | g
                · exact g
                · rw [if_neg (by omega)] at h197; exact absurd h197 (by decide)
              rw [if_pos hel] at h197
              exact ih2 (e + 1) _ (by omega) (by omega) (by omega) (by rw [← z3, scanD_s hel h197]) (hs3.up (by omega) (by omega)) (by rw [zup_k (Or.inr (by decide))]; exact hf21) (zup_same _ _ _)
          exact lp _ (k + 1) r2 (Nat.lt_succ_self _) (Nat.le_refl _) (by omega) rfl hsc h21 h22
        have m95 : zX G K (fM_read d) n 0 0 sh r2 95 [.ref m, .int (nI j), .int (nI k), .int (nI c), .int (bI b4), .int (bI b5)] [] := by
          refine zx_iload_n dM_read_95 rfl ?_
          refine zx_aload_n dM_read_96 rfl ?_
          refine zx_get dM_read_97 flM_50 (by assumption) (by assumption) ?_
          refine zx_iload_n dM_read_100 rfl ?_
          refine zn_iald dM_read_101 g_ql rfl (by omega) (by decide) (xa_ql.g (i := j) (by omega) hq.1) ?_
          refine zn_icmp_lt (tgt := 113) dM_read_102 rfl (by omega) (by omega) (fun h102 => ?_) (fun h102 => ?_)
          · refine zx_iload_n dM_read_113 rfl ?_
            refine zc_S (n0 := n) (ce := 0) (kM_wordy G (d - 1) (by omega) (c := c) (by omega)) (meM_wordy _) lkM_98 rfl hD (Nat.le_of_ble_eq_true rfl) rfl rfl (Nat.le_of_ble_eq_true rfl) (Nat.le_of_ble_eq_true rfl) (Nat.le_of_ble_eq_true rfl) dM_read_114 ?_
            refine zb_if_ne (tgt := 125) dM_read_117 rfl (fun h117 => ?_) (fun h117 => ?_)
            · have hwm : isWd (at0 xs k) = true ∨ (at0 xs k = 35 ∨ at0 xs k = 64) := by
                rw [if_pos (by omega)] at hc
                subst hc
                first | exact Or.inl h117 | exact Or.inr (of_decide_eq_true (hb4.symm.trans h122))
              exact w125 hwm (by omega)
            · refine zx_iload dM_read_120 rfl ?_
              refine zb_if_eq (tgt := 180) dM_read_122 rfl (fun h122 => ?_) (fun h122 => ?_)
              · refine zx_iload dM_read_180 rfl ?_
                refine zb_if_eq (tgt := 246) dM_read_182 rfl (fun h182 => ?_) (fun h182 => ?_)
                · refine zx_aload_n dM_read_246 rfl ?_
                  refine zx_iload_n dM_read_247 rfl ?_
                  refine zx_bipush (v := nI 124) dM_read_248 (by decide) ?_
                  refine zn_icmp_eq (tgt := 277) dM_read_250 rfl (by omega) (by omega) (fun h250 => ?_) (fun h250 => ?_)
                  · refine zx_iload_n dM_read_277 rfl ?_
                    refine zx_goto (tgt := 282) dM_read_278 rfl ?_
                    refine zx_put dM_read_282 flM_145 tpM_20 (by assumption) rfl rfl ?_
                    exact zx_vret hE rfl dM_read_285 rfl (Nat.le_of_ble_eq_true rfl) (by
            have hs3 := hsc
            have hf21 := h21
            have hf22 := h22
            first
            | (have hR : rdP xs a = _ := (by unfold rdP; rw [hk0, if_pos (by omega)])
               rw [hR]
               exact ⟨rfl, rfl, hs3.up (by omega) (by omega), zup_same _ _ _, by rw [zup_k (Or.inr (by decide))]; exact hf21, by rw [zup_k (Or.inr (by decide))]; exact hf22⟩)
            | (rw [if_pos (by omega)] at hc
               subst hc
               have hR : rdP xs a = _ := (by unfold rdP; rw [hk0, if_neg (by omega), if_neg (by rintro (hh | hh); (rw [h117] at hh; cases hh); (have := hb4.symm.trans h122; rw [decide_eq_true hh] at this; cases this)), if_neg (by intro hh; have := hb5.symm.trans h182; rw [decide_eq_true hh] at this; cases this)])
               rw [hR]
               refine ⟨rfl, rfl, hs3.up (by omega) (by omega), ?_, by rw [zup_k (Or.inr (by decide))]; exact hf21, by rw [zup_k (Or.inr (by decide))]; exact hf22⟩
               rw [zup_same]
               first | rw [if_pos (by omega)] | rw [if_neg (by omega)]))
                  · refine zx_iload_n dM_read_253 rfl ?_
                    refine zx_bipush (v := nI 45) dM_read_254 (by decide) ?_
                    refine zn_icmp_eq (tgt := 277) dM_read_256 rfl (by omega) (by omega) (fun h256 => ?_) (fun h256 => ?_)
                    · refine zx_iload_n dM_read_277 rfl ?_
                      refine zx_goto (tgt := 282) dM_read_278 rfl ?_
                      refine zx_put dM_read_282 flM_145 tpM_20 (by assumption) rfl rfl ?_
                      exact zx_vret hE rfl dM_read_285 rfl (Nat.le_of_ble_eq_true rfl) (by
            have hs3 := hsc
            have hf21 := h21
            have hf22 := h22
            first
            | (have hR : rdP xs a = _ := (by unfold rdP; rw [hk0, if_pos (by omega)])
               rw [hR]
               exact ⟨rfl, rfl, hs3.up (by omega) (by omega), zup_same _ _ _, by rw [zup_k (Or.inr (by decide))]; exact hf21, by rw [zup_k (Or.inr (by decide))]; exact hf22⟩)
            | (rw [if_pos (by omega)] at hc
               subst hc
               have hR : rdP xs a = _ := (by unfold rdP; rw [hk0, if_neg (by omega), if_neg (by rintro (hh | hh); (rw [h117] at hh; cases hh); (have := hb4.symm.trans h122; rw [decide_eq_true hh] at this; cases this)), if_neg (by intro hh; have := hb5.symm.trans h182; rw [decide_eq_true hh] at this; cases this)])
               rw [hR]
               refine ⟨rfl, rfl, hs3.up (by omega) (by omega), ?_, by rw [zup_k (Or.inr (by decide))]; exact hf21, by rw [zup_k (Or.inr (by decide))]; exact hf22⟩
               rw [zup_same]
               first | rw [if_pos (by omega)] | rw [if_neg (by omega)]))
                    · refine zx_iload_n dM_read_259 rfl ?_
                      refine zx_bipush (v := nI 34) dM_read_260 (by decide) ?_
                      refine zn_icmp_eq (tgt := 277) dM_read_262 rfl (by omega) (by omega) (fun h262 => ?_) (fun h262 => ?_)
                      · refine zx_iload_n dM_read_277 rfl ?_
                        refine zx_goto (tgt := 282) dM_read_278 rfl ?_
                        refine zx_put dM_read_282 flM_145 tpM_20 (by assumption) rfl rfl ?_
                        exact zx_vret hE rfl dM_read_285 rfl (Nat.le_of_ble_eq_true rfl) (by
            have hs3 := hsc
            have hf21 := h21
            have hf22 := h22
            first
            | (have hR : rdP xs a = _ := (by unfold rdP; rw [hk0, if_pos (by omega)])
               rw [hR]
               exact ⟨rfl, rfl, hs3.up (by omega) (by omega), zup_same _ _ _, by rw [zup_k (Or.inr (by decide))]; exact hf21, by rw [zup_k (Or.inr (by decide))]; exact hf22⟩)
            | (rw [if_pos (by omega)] at hc
               subst hc
               have hR : rdP xs a = _ := (by unfold rdP; rw [hk0, if_neg (by omega), if_neg (by rintro (hh | hh); (rw [h117] at hh; cases hh); (have := hb4.symm.trans h122; rw [decide_eq_true hh] at this; cases this)), if_neg (by intro hh; have := hb5.symm.trans h182; rw [decide_eq_true hh] at this; cases this)])
               rw [hR]
               refine ⟨rfl, rfl, hs3.up (by omega) (by omega), ?_, by rw [zup_k (Or.inr (by decide))]; exact hf21, by rw [zup_k (Or.inr (by decide))]; exact hf22⟩
               rw [zup_same]
               first | rw [if_pos (by omega)] | rw [if_neg (by omega)]))
                      · refine zx_iload_n dM_read_265 rfl ?_
                        refine zx_bipush (v := nI 40) dM_read_266 (by decide) ?_
                        refine zn_icmp_eq (tgt := 277) dM_read_268 rfl (by omega) (by omega) (fun h268 => ?_) (fun h268 => ?_)
                        · refine zx_iload_n dM_read_277 rfl ?_
                          refine zx_goto (tgt := 282) dM_read_278 rfl ?_
                          refine zx_put dM_read_282 flM_145 tpM_20 (by assumption) rfl rfl ?_
                          exact zx_vret hE rfl dM_read_285 rfl (Nat.le_of_ble_eq_true rfl) (by
            have hs3 := hsc
            have hf21 := h21
            have hf22 := h22
            first
            | (have hR : rdP xs a = _ := (by unfold rdP; rw [hk0, if_pos (by omega)])
               rw [hR]
               exact ⟨rfl, rfl, hs3.up (by omega) (by omega), zup_same _ _ _, by rw [zup_k (Or.inr (by decide))]; exact hf21, by rw [zup_k (Or.inr (by decide))]; exact hf22⟩)
            | (rw [if_pos (by omega)] at hc
               subst hc
               have hR : rdP xs a = _ := (by unfold rdP; rw [hk0, if_neg (by omega), if_neg (by rintro (hh | hh); (rw [h117] at hh; cases hh); (have := hb4.symm.trans h122; rw [decide_eq_true hh] at this; cases this)), if_neg (by intro hh; have := hb5.symm.trans h182; rw [decide_eq_true hh] at this; cases this)])
               rw [hR]
               refine ⟨rfl, rfl, hs3.up (by omega) (by omega), ?_, by rw [zup_k (Or.inr (by decide))]; exact hf21, by rw [zup_k (Or.inr (by decide))]; exact hf22⟩
               rw [zup_same]
               first | rw [if_pos (by omega)] | rw [if_neg (by omega)]))
                        · refine zx_iload_n dM_read_271 rfl ?_
                          refine zx_bipush (v := nI 41) dM_read_272 (by decide) ?_
                          refine zn_icmp_ne (tgt := 281) dM_read_274 rfl (by omega) (by omega) (fun h274 => ?_) (fun h274 => ?_)
                          · refine zx_iconst (v := -1) dM_read_281 (by decide) ?_
                            refine zx_put dM_read_282 flM_145 tpM_20 (by assumption) rfl rfl ?_
                            exact zx_vret hE rfl dM_read_285 rfl (Nat.le_of_ble_eq_true rfl) (by
            have hs3 := hsc
            have hf21 := h21
            have hf22 := h22
            first
            | (have hR : rdP xs a = _ := (by unfold rdP; rw [hk0, if_pos (by omega)])
               rw [hR]
               exact ⟨rfl, rfl, hs3.up (by omega) (by omega), zup_same _ _ _, by rw [zup_k (Or.inr (by decide))]; exact hf21, by rw [zup_k (Or.inr (by decide))]; exact hf22⟩)
            | (rw [if_pos (by omega)] at hc
               subst hc
               have hR : rdP xs a = _ := (by unfold rdP; rw [hk0, if_neg (by omega), if_neg (by rintro (hh | hh); (rw [h117] at hh; cases hh); (have := hb4.symm.trans h122; rw [decide_eq_true hh] at this; cases this)), if_neg (by intro hh; have := hb5.symm.trans h182; rw [decide_eq_true hh] at this; cases this)])
               rw [hR]
               refine ⟨rfl, rfl, hs3.up (by omega) (by omega), ?_, by rw [zup_k (Or.inr (by decide))]; exact hf21, by rw [zup_k (Or.inr (by decide))]; exact hf22⟩
               rw [zup_same]
               first | rw [if_pos (by omega)] | rw [if_neg (by omega)]))
                          · refine zx_iload_n dM_read_277 rfl ?_
                            refine zx_goto (tgt := 282) dM_read_278 rfl ?_
                            refine zx_put dM_read_282 flM_145 tpM_20 (by assumption) rfl rfl ?_
                            exact zx_vret hE rfl dM_read_285 rfl (Nat.le_of_ble_eq_true rfl) (by
            have hs3 := hsc
            have hf21 := h21
            have hf22 := h22
            first
            | (have hR : rdP xs a = _ := (by unfold rdP; rw [hk0, if_pos (by omega)])
               rw [hR]
               exact ⟨rfl, rfl, hs3.up (by omega) (by omega), zup_same _ _ _, by rw [zup_k (Or.inr (by decide))]; exact hf21, by rw [zup_k (Or.inr (by decide))]; exact hf22⟩)
            | (rw [if_pos (by omega)] at hc
               subst hc
               have hR : rdP xs a = _ := (by unfold rdP; rw [hk0, if_neg (by omega), if_neg (by rintro (hh | hh); (rw [h117] at hh; cases hh); (have := hb4.symm.trans h122; rw [decide_eq_true hh] at this; cases this)), if_neg (by intro hh; have := hb5.symm.trans h182; rw [decide_eq_true hh] at this; cases this)])
               rw [hR]
               refine ⟨rfl, rfl, hs3.up (by omega) (by omega), ?_, by rw [zup_k (Or.inr (by decide))]; exact hf21, by rw [zup_k (Or.inr (by decide))]; exact hf22⟩
               rw [zup_same]
               first | rw [if_pos (by omega)] | rw [if_neg (by omega)]))
                · have hts : at0 xs k = 61 ∨ at0 xs k = 60 ∨ at0 xs k = 62 := by
                    rw [if_pos (by omega)] at hc
                    subst hc
                    exact of_decide_eq_true (hb5.symm.trans h182)
                  have hnw : ¬ (isWd (at0 xs k) = true ∨ (at0 xs k = 35 ∨ at0 xs k = 64)) := by
                    rw [if_pos (by omega)] at hc
                    subst hc
                    rintro (hh | hh)
                    · rw [h117] at hh; cases hh
                    · have := hb4.symm.trans h122; rw [decide_eq_true hh] at this; cases this
                  exact w185 hnw hts (by omega)
              · have hwm : isWd (at0 xs k) = true ∨ (at0 xs k = 35 ∨ at0 xs k = 64) := by
                  rw [if_pos (by omega)] at hc
                  subst hc
                  first | exact Or.inl h117 | exact Or.inr (of_decide_eq_true (hb4.symm.trans h122))
                exact w125 hwm (by omega)
          · refine zx_aload_n dM_read_105 rfl ?_
            refine zx_iconst (v := nI 0) dM_read_106 (by decide) ?_
            refine zx_put dM_read_107 flM_145 tpM_20 (by assumption) rfl rfl ?_
            refine zx_goto (tgt := 285) dM_read_110 rfl ?_
            exact zx_vret hE rfl dM_read_285 rfl (Nat.le_of_ble_eq_true rfl) (by
            have hs3 := hsc
            have hf21 := h21
            have hf22 := h22
            first
            | (have hR : rdP xs a = _ := (by unfold rdP; rw [hk0, if_pos (by omega)])
               rw [hR]
               exact ⟨rfl, rfl, hs3.up (by omega) (by omega), zup_same _ _ _, by rw [zup_k (Or.inr (by decide))]; exact hf21, by rw [zup_k (Or.inr (by decide))]; exact hf22⟩)
            | (rw [if_pos (by omega)] at hc
               subst hc
               have hR : rdP xs a = _ := (by unfold rdP; rw [hk0, if_neg (by omega), if_neg (by rintro (hh | hh); (rw [h117] at hh; cases hh); (have := hb4.symm.trans h122; rw [decide_eq_true hh] at this; cases this)), if_neg (by intro hh; have := hb5.symm.trans h182; rw [decide_eq_true hh] at this; cases this)])
               rw [hR]
               refine ⟨rfl, rfl, hs3.up (by omega) (by omega), ?_, by rw [zup_k (Or.inr (by decide))]; exact hf21, by rw [zup_k (Or.inr (by decide))]; exact hf22⟩
               rw [zup_same]
               first | rw [if_pos (by omega)] | rw [if_neg (by omega)]))
        refine zx_istore dM_read_93 (Nat.le_of_ble_eq_true rfl) (by first | rfl | (simp only [List.set, List.all_cons, List.all_nil, hv4, hv5]; done) | (simp only [List.set, List.all_cons, List.all_nil, hv4, hv5]; rfl)) rfl ?_
        exact m95
      refine zx_istore dM_read_68 (Nat.le_of_ble_eq_true rfl) (by first | rfl | (simp only [List.set, List.all_cons, List.all_nil, hv4, hv5]; done) | (simp only [List.set, List.all_cons, List.all_nil, hv4, hv5]; rfl)) rfl ?_
      refine zx_iload_n dM_read_70 rfl ?_
      refine zx_bipush (v := nI 61) dM_read_71 (by decide) ?_
      refine zn_icmp_eq (tgt := 88) dM_read_73 rfl (by omega) (by omega) (fun h73 => ?_) (fun h73 => ?_)
      · refine zx_iconst (v := nI 1) dM_read_88 (by decide) ?_
        refine zx_goto (tgt := 93) dM_read_89 rfl ?_
        first | exact m93 true (decide_eq_true (by omega)).symm | exact m93 false (decide_eq_false (by omega)).symm
      · refine zx_iload_n dM_read_76 rfl ?_
        refine zx_bipush (v := nI 60) dM_read_77 (by decide) ?_
        refine zn_icmp_eq (tgt := 88) dM_read_79 rfl (by omega) (by omega) (fun h79 => ?_) (fun h79 => ?_)
        · refine zx_iconst (v := nI 1) dM_read_88 (by decide) ?_
          refine zx_goto (tgt := 93) dM_read_89 rfl ?_
          first | exact m93 true (decide_eq_true (by omega)).symm | exact m93 false (decide_eq_false (by omega)).symm
        · refine zx_iload_n dM_read_82 rfl ?_
          refine zx_bipush (v := nI 62) dM_read_83 (by decide) ?_
          refine zn_icmp_ne (tgt := 92) dM_read_85 rfl (by omega) (by omega) (fun h85 => ?_) (fun h85 => ?_)
          · refine zx_iconst (v := nI 0) dM_read_92 (by decide) ?_
            first | exact m93 true (decide_eq_true (by omega)).symm | exact m93 false (decide_eq_false (by omega)).symm
          · refine zx_iconst (v := nI 1) dM_read_88 (by decide) ?_
            refine zx_goto (tgt := 93) dM_read_89 rfl ?_
            first | exact m93 true (decide_eq_true (by omega)).symm | exact m93 false (decide_eq_false (by omega)).symm
    refine zx_iload_n dM_read_51 rfl ?_
    refine zx_bipush (v := nI 35) dM_read_52 (by decide) ?_
    refine zn_icmp_eq (tgt := 63) dM_read_54 rfl (by omega) (by omega) (fun h54 => ?_) (fun h54 => ?_)
    · refine zx_iconst (v := nI 1) dM_read_63 (by decide) ?_
      refine zx_goto (tgt := 68) dM_read_64 rfl ?_
      first | exact m68 true (decide_eq_true (by omega)).symm | exact m68 false (decide_eq_false (by omega)).symm
    · refine zx_iload_n dM_read_57 rfl ?_
      refine zx_bipush (v := nI 64) dM_read_58 (by decide) ?_
      refine zn_icmp_ne (tgt := 67) dM_read_60 rfl (by omega) (by omega) (fun h60 => ?_) (fun h60 => ?_)
      · refine zx_iconst (v := nI 0) dM_read_67 (by decide) ?_
        first | exact m68 true (decide_eq_true (by omega)).symm | exact m68 false (decide_eq_false (by omega)).symm
      · refine zx_iconst (v := nI 1) dM_read_63 (by decide) ?_
        refine zx_goto (tgt := 68) dM_read_64 rfl ?_
        first | exact m68 true (decide_eq_true (by omega)).symm | exact m68 false (decide_eq_false (by omega)).symm
  have loop : ∀ (k2 k : Nat), xs.length - k < k2 → k ≤ xs.length → skp xs k = skp xs a → zX G K (fM_read d) n 0 0 sh row 5 [.ref m, .int (nI j), .int (nI k), .retAddr 0, .retAddr 0, .retAddr 0] [] := by
    intro k2
    induction k2 with
    | zero => intro k hk; exact absurd hk (Nat.not_lt_zero _)
    | succ k2 ih =>
      intro k z1 z2 z3
      refine zx_iload_n dM_read_5 rfl ?_
      refine zx_aload_n dM_read_6 rfl ?_
      refine zx_get dM_read_7 flM_50 (by assumption) (by assumption) ?_
      refine zx_iload_n dM_read_10 rfl ?_
      refine zn_iald dM_read_11 g_ql rfl (by omega) (by decide) (a_ql.g (i := j) (by omega) hq.1) ?_
      refine zn_icmp_ge (tgt := 32) dM_read_12 rfl (by omega) (by omega) (fun h12 => ?_) (fun h12 => ?_)
      · refine zx_aload_n dM_read_32 rfl ?_
        refine zx_iload_n dM_read_33 rfl ?_
        refine zx_put dM_read_34 flM_142 tpM_21 (by assumption) rfl rfl ?_
        refine zx_aload_n dM_read_37 rfl ?_
        refine zx_iload_n dM_read_38 rfl ?_
        refine zx_iconst (v := nI 1) dM_read_39 (by decide) ?_
        refine zn_iadd dM_read_40 ?_
        refine zx_put dM_read_41 flM_136 tpM_22 (by assumption) rfl rfl ?_
        have hsc : scR m row (zup (zup row m 21 (.int (nI k))) m 22 (.int (nI (k + 1)))) := (scR.rf.up (by omega) (by omega)).up (by omega) (by omega)
        have hMr := hM.scr hsc.E
        refine zx_aload_n dM_read_44 rfl ?_
        refine zx_iload_n dM_read_45 rfl ?_
        refine zx_iload_n dM_read_46 rfl ?_
        refine zc_V (n0 := n) (ce := 0) (kM_at G (d - 1) (by omega) hMr (j := j) (k := k) hj hq hl (by omega)) (meM_at _) lkM_139 go rfl rfl hD (Nat.le_of_ble_eq_true rfl) rfl rfl (Nat.le_of_ble_eq_true rfl) (Nat.le_of_ble_eq_true rfl) (Nat.le_of_ble_eq_true rfl) dM_read_47 ?_
        refine zx_istore_n dM_read_50 (Nat.le_of_ble_eq_true rfl) rfl rfl ?_
        have hke : skp xs a = k := by rw [← z3]; exact skp_e (by first | exact Or.inl (by omega) | exact Or.inr (by omega))
        exact m51 k _ _ _ _ rfl rfl hke (by omega) rfl hsc (by rw [zup_k (Or.inr (by decide)), zup_same]) (zup_same _ _ _)
      · refine zx_aload_n dM_read_15 rfl ?_
        refine zx_iload_n dM_read_16 rfl ?_
        refine zx_iload_n dM_read_17 rfl ?_
        have hca := atV (k := k) hch
        refine zc_V (n0 := n) (ce := 0) (kM_at G (d - 1) (by omega) hM (j := j) (k := k) hj hq hl (by omega)) (meM_at _) lkM_139 go rfl rfl hD (Nat.le_of_ble_eq_true rfl) rfl rfl (Nat.le_of_ble_eq_true rfl) (Nat.le_of_ble_eq_true rfl) (Nat.le_of_ble_eq_true rfl) dM_read_18 ?_
        rw [if_pos (show k < xs.length by omega)] at hca ⊢
        refine zx_bipush (v := nI 32) dM_read_21 (by decide) ?_
        refine zn_icmp_ne (tgt := 32) dM_read_23 rfl (by omega) (by omega) (fun h23 => ?_) (fun h23 => ?_)
        · refine zx_aload_n dM_read_32 rfl ?_
          refine zx_iload_n dM_read_33 rfl ?_
          refine zx_put dM_read_34 flM_142 tpM_21 (by assumption) rfl rfl ?_
          refine zx_aload_n dM_read_37 rfl ?_
          refine zx_iload_n dM_read_38 rfl ?_
          refine zx_iconst (v := nI 1) dM_read_39 (by decide) ?_
          refine zn_iadd dM_read_40 ?_
          refine zx_put dM_read_41 flM_136 tpM_22 (by assumption) rfl rfl ?_
          have hsc : scR m row (zup (zup row m 21 (.int (nI k))) m 22 (.int (nI (k + 1)))) := (scR.rf.up (by omega) (by omega)).up (by omega) (by omega)
          have hMr := hM.scr hsc.E
          refine zx_aload_n dM_read_44 rfl ?_
          refine zx_iload_n dM_read_45 rfl ?_
          refine zx_iload_n dM_read_46 rfl ?_
          refine zc_V (n0 := n) (ce := 0) (kM_at G (d - 1) (by omega) hMr (j := j) (k := k) hj hq hl (by omega)) (meM_at _) lkM_139 go rfl rfl hD (Nat.le_of_ble_eq_true rfl) rfl rfl (Nat.le_of_ble_eq_true rfl) (Nat.le_of_ble_eq_true rfl) (Nat.le_of_ble_eq_true rfl) dM_read_47 ?_
          refine zx_istore_n dM_read_50 (Nat.le_of_ble_eq_true rfl) rfl rfl ?_
          have hke : skp xs a = k := by rw [← z3]; exact skp_e (by first | exact Or.inl (by omega) | exact Or.inr (by omega))
          exact m51 k _ _ _ _ rfl rfl hke (by omega) rfl hsc (by rw [zup_k (Or.inr (by decide)), zup_same]) (zup_same _ _ _)
        · refine zn_iinc (c := 1) dM_read_26 (Nat.le_of_ble_eq_true rfl) rfl rfl ?_
          refine zx_goto (tgt := 5) dM_read_29 rfl ?_
          exact ih (k + 1) (by omega) (by omega) (by rw [← z3, skp_s (by omega) h23])
  refine zx_aload_n dM_read_0 rfl ?_
  refine zx_get dM_read_1 flM_136 (by assumption) (by assumption) ?_
  refine zx_istore_n dM_read_4 (Nat.le_of_ble_eq_true rfl) rfl rfl ?_
  exact loop _ a (Nat.lt_succ_self _) ha rfl

