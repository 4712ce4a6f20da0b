def fst0 (xs : List Nat) (k : Nat) : Bool := isWd (at0 xs k) && (decide (k = 0) || !isWd (at0 xs (k - 1)))
def mk0 (xs : List Nat) (k : Nat) : Bool := decide (0 < k ∧ (at0 xs (k - 1) = 35 ∨ at0 xs (k - 1) = 64))
def tkF (xs : List Nat) (k : Nat) : Nat := if mk0 xs k = true then k - 1 else k
def cutF (xs : List Nat) : Nat → Nat → List (Nat × Nat)
  | 0, _ => []
  | f + 1, k => if fst0 xs k = true then (tkF xs k, scanW xs k) :: cutF xs f (k + 1) else cutF xs f (k + 1)
/-- a text's tokens from a place on -/
def cutL (xs : List Nat) (k : Nat) : List (Nat × Nat) := cutF xs (xs.length - k) k
theorem cutL_t {xs : List Nat} {k : Nat} (h : k < xs.length) (hf : fst0 xs k = true) : cutL xs k = (tkF xs k, scanW xs k) :: cutL xs (k + 1) := by
  unfold cutL; rw [show xs.length - k = xs.length - (k + 1) + 1 by omega, cutF, if_pos hf]
theorem cutL_f {xs : List Nat} {k : Nat} (h : k < xs.length) (hf : fst0 xs k = false) : cutL xs k = cutL xs (k + 1) := by
  unfold cutL; rw [show xs.length - k = xs.length - (k + 1) + 1 by omega, cutF, if_neg (by rw [hf]; decide)]
theorem cutL_e {xs : List Nat} {k : Nat} (h : xs.length ≤ k) : cutL xs k = [] := by
  unfold cutL; rw [show xs.length - k = 0 by omega]; rfl
def tkB (T : mT) (i : Nat) (L : List (Nat × Nat)) : Prop := ∀ k q, L[k]? = some q → T.2.1 (12 * i + k) = 24 * i + q.1 ∧ T.2.2 (12 * i + k) = 24 * i + q.2
def tkA (T : mT) (i : Nat) (L : List (Nat × Nat)) : Prop := T.1 i = L.length ∧ tkB T i L
def tkR (T : mT) : Prop := ∀ s, s < 288 → T.2.1 s ≤ T.2.2 s ∧ T.2.2 s ≤ 576
def tkO (T T' : mT) (p : Nat) : Prop := ∀ s, (s < 12 * p ∨ 12 * p + 12 ≤ s) → T'.2.1 s = T.2.1 s ∧ T'.2.2 s = T.2.2 s
theorem tkF_le {xs : List Nat} {k : Nat} : tkF xs k ≤ k := by unfold tkF; split <;> omega
theorem vup_eq {α : Type} {f : Nat → α} {i : Nat} {z : α} : va_up f i z i = z := by unfold va_up; rw [if_pos rfl]
theorem vup_ne {α : Type} {f : Nat → α} {i k : Nat} {z : α} (h : k ≠ i) : va_up f i z k = f k := by unfold va_up; rw [if_neg h]
theorem tk_push {T T1 : mT} {p : Nat} {L : List (Nat × Nat)} {q : Nat × Nat} (h : tkB T1 p L) (hr : tkR T1) (ho : tkO T T1 p) (hp : p < 24) (hl : L.length < 12) (hq : q.1 ≤ q.2) (hq2 : q.2 ≤ 24) : tkB (T1.1, va_up T1.2.1 (12 * p + L.length) (24 * p + q.1), va_up T1.2.2 (12 * p + L.length) (24 * p + q.2)) p (L ++ [q]) ∧ tkR (T1.1, va_up T1.2.1 (12 * p + L.length) (24 * p + q.1), va_up T1.2.2 (12 * p + L.length) (24 * p + q.2)) ∧ tkO T (T1.1, va_up T1.2.1 (12 * p + L.length) (24 * p + q.1), va_up T1.2.2 (12 * p + L.length) (24 * p + q.2)) p := by
  refine ⟨fun k z hz => ?_, fun s hs => ?_, fun s hs => ?_⟩
  · show va_up _ _ _ _ = _ ∧ va_up _ _ _ _ = _
    by_cases e : k = L.length
    · subst e
      rw [List.getElem?_append_right (Nat.le_refl _), Nat.sub_self] at hz
      cases hz
      rw [vup_eq, vup_eq]; exact ⟨rfl, rfl⟩
    · have hk : k < L.length := by
        have := (List.getElem?_eq_some_iff.mp hz).1
        rw [List.length_append] at this
        simp at this
        omega
      rw [List.getElem?_append_left hk] at hz
      rw [vup_ne (by omega), vup_ne (by omega)]
      exact h k z hz
  · show va_up _ _ _ _ ≤ va_up _ _ _ _ ∧ va_up _ _ _ _ ≤ 576
    by_cases e : s = 12 * p + L.length
    · subst e; rw [vup_eq, vup_eq]; omega
    · rw [vup_ne e, vup_ne e]; exact hr s hs
  · show va_up _ _ _ _ = _ ∧ va_up _ _ _ _ = _
    rw [vup_ne (by omega), vup_ne (by omega)]; exact ho s hs

set_option maxHeartbeats 4000000 in
set_option maxRecDepth 100000 in
theorem kM_cut (G : zG) (d : Nat) (hd : 3 ≤ d) {n : Nat} {sh : zSh} {row : zRw} {m : Nat} {A : Nat × (Nat → Nat)} {B : Nat × Nat × Nat × Nat} {P : (Nat → Int32) × (Nat → Int32) × (Nat → Bool) × (Nat → Nat) × (Nat → Nat)} {T : (Nat → Nat) × (Nat → Nat) × (Nat → Nat)} {S : (Nat → Nat) × (Nat → Bool)} {H : (Nat → Bool) × (Nat → Nat) × (Nat → Nat) × (Nat → Nat)} (hM : MA sh row m A B P T S H) {p : Nat} {xs : List Nat} (hp : p < 24) (hx : txA P p xs) (hxl : xs.length ≤ 24) (hch : ∀ k, at0 xs k < 127) (hR : tkR T) : zM G (fM_cut d) [.ref m, .int (nI p)] n sh row (zpV sh (fun row' => frI m (m + 21) row row' ∧ ∃ T' : mT, tkA T' p (cutL xs 0) ∧ (∀ i, i ≠ p → T'.1 i = T.1 i) ∧ tkO T T' p ∧ tkR T' ∧ (cutL xs 0).length ≤ 12 ∧ MA sh row' m A B P T' S H)) := by
  refine zM.of (by show plainName "PostIndexModel" = true; decide +kernel) (Nat.le_of_ble_eq_true rfl) (by intro v hv; simp at hv; rcases hv with rfl | rfl <;> rfl) ?_
  intro K hE
  show zX G K (fM_cut d) n 0 0 sh row 0 [.ref m, .int (nI p), .retAddr 0, .retAddr 0, .retAddr 0, .retAddr 0, .retAddr 0, .retAddr 0] []
  have hD : d - 1 + 1 ≤ d := by omega
  obtain ⟨⟨go, g_dr, g_au, g_ti, g_er, g_ln, g_tx, g_tk, g_fr, g_to, g_rw, g_pk, g_tn, g_bd, g_ql, g_qy, g_any, g_all, g_pa, g_mi, g_wf, g_wt⟩, ⟨p_dr, p_au, p_ti, p_er, p_ln, p_tx, p_tk, p_fr, p_to, p_rw, p_pk, p_tn, p_bd, p_ql, p_qy, p_any, p_all, p_pa, p_mi, p_wf, p_wt⟩, ⟨f_dl, f_md, f_pb, f_dn, f_sn⟩, a_dr, a_au, a_ti, a_er, a_ln, a_tx, a_tk, a_fr, a_to, a_rw, a_pk, a_tn, a_bd, a_ql, a_qy⟩ := id hM
  have loop : ∀ (kk k : Nat) (L1 : List (Nat × Nat)) (T1 : mT) (v5 v6 v7 : Value) (r2 : zRw), xs.length - k < kk → k ≤ xs.length → v5.category = 1 → v6.category = 1 → v7.category = 1 → tkB T1 p L1 → tkR T1 → (T1.1 = T.1 ∧ tkO T T1 p) → L1 ++ cutL xs k = cutL xs 0 → (2 * L1.length ≤ k + 1 ∧ ((k = 0 ∨ isWd (at0 xs (k - 1)) = false) → 2 * L1.length ≤ k)) → MA sh r2 m A B P T1 S H → frI m (m + 21) row r2 → zX G K (fM_cut d) n 0 0 sh r2 10 [.ref m, .int (nI p), .int (nI L1.length), .int (nI (24 * p)), .int (nI k), v5, v6, v7] [] := by
    intro kk
    induction kk with
    | zero => intro k L1 T1 v5 v6 v7 r2 hk; exact absurd hk (Nat.not_lt_zero _)
    | succ kk ih =>
      intro k L1 T1 v5 v6 v7 r2 hk hkl0 hv5 hv6 hv7 h3 h4 h5' h5c hcn h6 h7
      obtain ⟨h5b, h5⟩ := h5'
      obtain ⟨⟨xgo, xg_dr, xg_au, xg_ti, xg_er, xg_ln, xg_tx, xg_tk, xg_fr, xg_to, xg_rw, xg_pk, xg_tn, xg_bd, xg_ql, xg_qy, xg_any, xg_all, xg_pa, xg_mi, xg_wf, xg_wt⟩, ⟨xp_dr, xp_au, xp_ti, xp_er, xp_ln, xp_tx, xp_tk, xp_fr, xp_to, xp_rw, xp_pk, xp_tn, xp_bd, xp_ql, xp_qy, xp_any, xp_all, xp_pa, xp_mi, xp_wf, xp_wt⟩, ⟨xf_dl, xf_md, xf_pb, xf_dn, xf_sn⟩, xa_dr, xa_au, xa_ti, xa_er, xa_ln, xa_tx, xa_tk, xa_fr, xa_to, xa_rw, xa_pk, xa_tn, xa_bd, xa_ql, xa_qy⟩ := id h6
      have m63 : ∀ b0 : Bool, b0 = fst0 xs k → k < xs.length → zX G K (fM_cut d) n 0 0 sh r2 63 [.ref m, .int (nI p), .int (nI L1.length), .int (nI (24 * p)), .int (nI k), v5, v6, v7] [.int (bI b0)] := by
        intro b0 hb0 hkl
        have m112 : ∀ b : Bool, fst0 xs k = true → k < xs.length → b = mk0 xs k → zX G K (fM_cut d) n 0 0 sh r2 112 [.ref m, .int (nI p), .int (nI L1.length), .int (nI (24 * p)), .int (nI k), .int (bI b0), v6, v7] [.int (bI b)] := by
          intro b hf0 hkl hb
          have hwk : isWd (at0 xs k) = true := by unfold fst0 at hf0; cases hw : isWd (at0 xs k) with
            | true => rfl
            | false => rw [hw] at hf0; cases hf0
          have hn2 : 2 * L1.length ≤ k := by
            refine hcn.2 ?_
            unfold fst0 at hf0
            rw [hwk] at hf0
            by_cases hk0 : k = 0
            · exact Or.inl hk0
            · rw [decide_eq_false hk0] at hf0
              right
              cases hw : isWd (at0 xs (k - 1)) with
              | false => rfl
              | true => rw [hw] at hf0; cases hf0
          have hq2 : scanW xs k ≤ 24 := by have := scanW_le (xs := xs) (i := k) (by omega); omega
          have hq1 : tkF xs k ≤ scanW xs k := Nat.le_trans tkF_le scanW_ge
          have hq3 := @tkF_le xs k
          have m175 : ∀ {z : Nat}, z = tkF xs k → zX G K (fM_cut d) n 0 0 sh r2 175 [.ref m, .int (nI p), .int (nI L1.length), .int (nI (24 * p)), .int (nI k), .int (bI b0), .int (bI b), .int (nI (scanW xs k))] [.int (nI z), .int (nI (24 * p)), .int (nI (12 * p + L1.length)), .ref (m + 8)] := by
            intro z hz
            subst hz
            refine zn_iadd dM_cut_175 ?_
            refine zn_iast dM_cut_176 g_fr rfl (by omega) (by decide) ?_
            have h8 := h6.fr (i := 12 * p + L1.length) (z := 24 * p + tkF xs k)
            have f_to2 : zup r2 (m + 8) (12 * p + L1.length) (.int (nI (24 * p + tkF xs k))) m 12 = .ref (m + 9) := by rw [zup_ne (by omega)]; exact xp_to
            refine zx_aload_n dM_cut_177 rfl ?_
            refine zx_get dM_cut_178 flM_35 (by assumption) f_to2 ?_
            refine zx_bipush (v := nI 12) dM_cut_181 (by decide) ?_
            refine zx_iload_n dM_cut_183 rfl ?_
            refine zn_imul dM_cut_184 ?_
            refine zx_iload_n dM_cut_185 rfl ?_
            refine zn_iadd dM_cut_186 ?_
            refine zx_iload_n dM_cut_187 rfl ?_
            refine zx_iload dM_cut_188 rfl ?_
            refine zn_iadd dM_cut_190 ?_
            refine zn_iast dM_cut_191 g_to rfl (by omega) (by decide) ?_
            replace h8 := h8.to (i := 12 * p + L1.length) (z := 24 * p + scanW xs k)
            obtain ⟨t1, t2, t3⟩ := tk_push (q := (tkF xs k, scanW xs k)) h3 h4 h5 hp (by omega) hq1 hq2
            refine zn_iinc (c := 1) dM_cut_192 (Nat.le_of_ble_eq_true rfl) (by first | rfl | (simp only [List.set, List.all_cons, List.all_nil, hv5, hv6, hv7]; done) | (simp only [List.set, List.all_cons, List.all_nil, hv5, hv6, hv7]; rfl)) rfl ?_
            refine zn_iinc (c := 1) dM_cut_195 (Nat.le_of_ble_eq_true rfl) (by first | rfl | (simp only [List.set, List.all_cons, List.all_nil, hv5, hv6, hv7]; done) | (simp only [List.set, List.all_cons, List.all_nil, hv5, hv6, hv7]; rfl)) rfl ?_
            refine zx_goto (tgt := 10) dM_cut_198 rfl ?_
            have hlen : (L1 ++ [(tkF xs k, scanW xs k)]).length = L1.length + 1 := by rw [List.length_append]; rfl
            have ih' := ih (k + 1) (L1 ++ [(tkF xs k, scanW xs k)])
            rw [hlen] at ih'
            refine ih' _ (.int (bI b0)) (.int (bI b)) (.int (nI (scanW xs k))) _ (by omega) (by omega) rfl rfl rfl t1 t2 ⟨h5b, t3⟩ (by rw [List.append_assoc]; show L1 ++ ((tkF xs k, scanW xs k) :: cutL xs (k + 1)) = _; rw [← cutL_t (by omega) hf0]; exact h5c) ?_ h8 ((h7.tr (frI_up (by omega) (by omega))).tr (frI_up (by omega) (by omega)))
            refine ⟨by omega, fun hh => ?_⟩
            rcases hh with hh | hh
            · omega
            · rw [show k + 1 - 1 = k by omega, hwk] at hh; cases hh
          have m150 : zX G K (fM_cut d) n 0 0 sh r2 150 [.ref m, .int (nI p), .int (nI L1.length), .int (nI (24 * p)), .int (nI k), .int (bI b0), .int (bI b), .int (nI (scanW xs k))] [] := by
            refine zx_aload_n dM_cut_150 rfl ?_
            refine zx_get dM_cut_151 flM_32 (by assumption) (by assumption) ?_
            refine zx_bipush (v := nI 12) dM_cut_154 (by decide) ?_
            refine zx_iload_n dM_cut_156 rfl ?_
            refine zn_imul dM_cut_157 ?_
            refine zx_iload_n dM_cut_158 rfl ?_
            refine zn_iadd dM_cut_159 ?_
            refine zx_iload_n dM_cut_160 rfl ?_
            refine zx_iload dM_cut_161 rfl ?_
            refine zb_if_eq (tgt := 173) dM_cut_163 rfl (fun h163 => ?_) (fun h163 => ?_)
            · refine zx_iload dM_cut_173 rfl ?_
              first
              | exact m175 (by unfold tkF; rw [if_pos (hb.symm.trans h163)])
              | exact m175 (by unfold tkF; rw [if_neg (by rw [← hb, h163]; decide)])
            · refine zx_iload dM_cut_166 rfl ?_
              refine zx_iconst (v := nI 1) dM_cut_168 (by decide) ?_
              have hk0 : 0 < k := by
                have hh := hb.symm.trans h163
                unfold mk0 at hh
                exact (of_decide_eq_true hh).1
              refine zn_isub dM_cut_169 (by omega) ?_
              refine zx_goto (tgt := 175) dM_cut_170 rfl ?_
              first
              | exact m175 (by unfold tkF; rw [if_pos (hb.symm.trans h163)])
              | exact m175 (by unfold tkF; rw [if_neg (by rw [← hb, h163]; decide)])
          have in118 : ∀ (k2 e : Nat), xs.length - e < k2 → k ≤ e → e ≤ xs.length → scanW xs e = scanW xs k → zX G K (fM_cut d) n 0 0 sh r2 118 [.ref m, .int (nI p), .int (nI L1.length), .int (nI (24 * p)), .int (nI k), .int (bI b0), .int (bI b), .int (nI e)] [] := by
            intro k2
            induction k2 with
            | zero => intro e hk; exact absurd hk (Nat.not_lt_zero _)
            | succ k2 ih2 =>
            intro e z1 z2 z4 z3
            refine zx_iload dM_cut_118 rfl ?_
            refine zx_aload_n dM_cut_120 rfl ?_
            refine zx_get dM_cut_121 flM_23 (by assumption) (by assumption) ?_
            refine zx_iload_n dM_cut_124 rfl ?_
            refine zn_iald dM_cut_125 g_ln rfl (by omega) (by decide) (xa_ln.g (i := p) (by omega) hx.1) ?_
            refine zn_icmp_ge (tgt := 150) dM_cut_126 rfl (by omega) (by omega) (fun h126 => ?_) (fun h126 => ?_)
            · have he : e = scanW xs k := by rw [← z3]; exact (scanW_e (by first | exact Or.inl (by omega) | exact Or.inr h141)).symm
              subst he
              exact m150
            · refine zx_aload_n dM_cut_129 rfl ?_
              refine zx_get dM_cut_130 flM_26 (by assumption) (by assumption) ?_
              refine zx_iload_n dM_cut_133 rfl ?_
              refine zx_iload dM_cut_134 rfl ?_
              refine zn_iadd dM_cut_136 ?_
              have hk3 := hx.2 e (by omega)
              refine zn_iald dM_cut_137 g_tx rfl (by omega) (by decide) (xa_tx.g (i := 24 * p + e) (by omega) hk3) ?_
              refine zc_S (n0 := n) (ce := 0) (kM_wordy G (d - 1) (by omega) (c := at0 xs e) (by have := hch e; omega)) (meM_wordy _) lkM_98 rfl hD (Nat.le_of_ble_eq_true rfl) rfl rfl (Nat.le_of_ble_eq_true rfl) (Nat.le_of_ble_eq_true rfl) (Nat.le_of_ble_eq_true rfl) dM_cut_138 ?_
              refine zb_if_eq (tgt := 150) dM_cut_141 rfl (fun h141 => ?_) (fun h141 => ?_)
              · have he : e = scanW xs k := by rw [← z3]; exact (scanW_e (by first | exact Or.inl (by omega) | exact Or.inr h141)).symm
                subst he
                exact m150
              · refine zn_iinc (c := 1) dM_cut_144 (Nat.le_of_ble_eq_true rfl) (by first | rfl | (simp only [List.set, List.all_cons, List.all_nil, hv5, hv6, hv7]; done) | (simp only [List.set, List.all_cons, List.all_nil, hv5, hv6, hv7]; rfl)) rfl ?_
                refine zx_goto (tgt := 118) dM_cut_147 rfl ?_
                exact ih2 (e + 1) (by omega) (by omega) (by omega) (by rw [← z3, scanW_s (by omega) h141])
          refine zx_istore dM_cut_112 (Nat.le_of_ble_eq_true rfl) (by first | rfl | (simp only [List.set, List.all_cons, List.all_nil, hv5, hv6, hv7]; done) | (simp only [List.set, List.all_cons, List.all_nil, hv5, hv6, hv7]; rfl)) rfl ?_
          refine zx_iload dM_cut_114 rfl ?_
          refine zx_istore dM_cut_116 (Nat.le_of_ble_eq_true rfl) (by first | rfl | (simp only [List.set, List.all_cons, List.all_nil, hv5, hv6, hv7]; done) | (simp only [List.set, List.all_cons, List.all_nil, hv5, hv6, hv7]; rfl)) rfl ?_
          exact in118 _ k (Nat.lt_succ_self _) (Nat.le_refl _) (by omega) rfl
        refine zx_istore dM_cut_63 (Nat.le_of_ble_eq_true rfl) (by first | rfl | (simp only [List.set, List.all_cons, List.all_nil, hv5, hv6, hv7]; done) | (simp only [List.set, List.all_cons, List.all_nil, hv5, hv6, hv7]; rfl)) rfl ?_
        refine zx_iload dM_cut_65 rfl ?_
        refine zb_if_eq (tgt := 195) dM_cut_67 rfl (fun h67 => ?_) (fun h67 => ?_)
        · refine zn_iinc (c := 1) dM_cut_195 (Nat.le_of_ble_eq_true rfl) (by first | rfl | (simp only [List.set, List.all_cons, List.all_nil, hv5, hv6, hv7]; done) | (simp only [List.set, List.all_cons, List.all_nil, hv5, hv6, hv7]; rfl)) rfl ?_
          refine zx_goto (tgt := 10) dM_cut_198 rfl ?_
          refine ih (k + 1) L1 T1 _ _ _ r2 (by omega) (by omega) rfl hv6 hv7 h3 h4 ⟨h5b, h5⟩ (by rw [← cutL_f (by omega) (hb0.symm.trans h67)]; exact h5c) ⟨by omega, fun hh => ?_⟩ h6 h7
          omega
        · refine zx_iload dM_cut_70 rfl ?_
          refine zn_if_le (tgt := 111) dM_cut_72 rfl (by omega) (fun h72 => ?_) (fun h72 => ?_)
          · refine zx_iconst (v := nI 0) dM_cut_111 (by decide) ?_
            first | exact m112 true (hb0.symm.trans h67) hkl (by unfold mk0; rw [decide_eq_true (by omega)]) | exact m112 false (hb0.symm.trans h67) hkl (by unfold mk0; rw [decide_eq_false (by omega)])
          · refine zx_aload_n dM_cut_75 rfl ?_
            refine zx_get dM_cut_76 flM_26 (by assumption) (by assumption) ?_
            refine zx_iload_n dM_cut_79 rfl ?_
            refine zx_iload dM_cut_80 rfl ?_
            refine zn_iadd dM_cut_82 ?_
            refine zx_iconst (v := nI 1) dM_cut_83 (by decide) ?_
            refine zn_isub dM_cut_84 (by omega) ?_
            have hch2 := hch (k - 1)
            have hk2 := hx.2 (k - 1) (by omega)
            refine zn_iald dM_cut_85 g_tx rfl (by omega) (by decide) (xa_tx.g (i := 24 * p + k - 1) (z := at0 xs (k - 1)) (by omega) (by rw [show 24 * p + k - 1 = 24 * p + (k - 1) by omega]; exact hk2)) ?_
            refine zx_bipush (v := nI 35) dM_cut_86 (by decide) ?_
            refine zn_icmp_eq (tgt := 107) dM_cut_88 rfl (by omega) (by omega) (fun h88 => ?_) (fun h88 => ?_)
            · refine zx_iconst (v := nI 1) dM_cut_107 (by decide) ?_
              refine zx_goto (tgt := 112) dM_cut_108 rfl ?_
              first | exact m112 true (hb0.symm.trans h67) hkl (by unfold mk0; rw [decide_eq_true (by omega)]) | exact m112 false (hb0.symm.trans h67) hkl (by unfold mk0; rw [decide_eq_false (by omega)])
            · refine zx_aload_n dM_cut_91 rfl ?_
              refine zx_get dM_cut_92 flM_26 (by assumption) (by assumption) ?_
              refine zx_iload_n dM_cut_95 rfl ?_
              refine zx_iload dM_cut_96 rfl ?_
              refine zn_iadd dM_cut_98 ?_
              refine zx_iconst (v := nI 1) dM_cut_99 (by decide) ?_
              refine zn_isub dM_cut_100 (by omega) ?_
              have hch2 := hch (k - 1)
              have hk2 := hx.2 (k - 1) (by omega)
              refine zn_iald dM_cut_101 g_tx rfl (by omega) (by decide) (xa_tx.g (i := 24 * p + k - 1) (z := at0 xs (k - 1)) (by omega) (by rw [show 24 * p + k - 1 = 24 * p + (k - 1) by omega]; exact hk2)) ?_
              refine zx_bipush (v := nI 64) dM_cut_102 (by decide) ?_
              refine zn_icmp_ne (tgt := 111) dM_cut_104 rfl (by omega) (by omega) (fun h104 => ?_) (fun h104 => ?_)
              · refine zx_iconst (v := nI 0) dM_cut_111 (by decide) ?_
                first | exact m112 true (hb0.symm.trans h67) hkl (by unfold mk0; rw [decide_eq_true (by omega)]) | exact m112 false (hb0.symm.trans h67) hkl (by unfold mk0; rw [decide_eq_false (by omega)])
              · refine zx_iconst (v := nI 1) dM_cut_107 (by decide) ?_
                refine zx_goto (tgt := 112) dM_cut_108 rfl ?_
                first | exact m112 true (hb0.symm.trans h67) hkl (by unfold mk0; rw [decide_eq_true (by omega)]) | exact m112 false (hb0.symm.trans h67) hkl (by unfold mk0; rw [decide_eq_false (by omega)])
      refine zx_iload dM_cut_10 rfl ?_
      refine zx_aload_n dM_cut_12 rfl ?_
      refine zx_get dM_cut_13 flM_23 (by assumption) (by assumption) ?_
      refine zx_iload_n dM_cut_16 rfl ?_
      refine zn_iald dM_cut_17 g_ln rfl (by omega) (by decide) (xa_ln.g (i := p) (by omega) hx.1) ?_
      refine zn_icmp_ge (tgt := 201) dM_cut_18 rfl (by omega) (by omega) (fun h18 => ?_) (fun h18 => ?_)
      · refine zx_aload_n dM_cut_201 rfl ?_
        refine zx_get dM_cut_202 flM_29 (by assumption) (by assumption) ?_
        refine zx_iload_n dM_cut_205 rfl ?_
        refine zx_iload_n dM_cut_206 rfl ?_
        refine zn_iast dM_cut_207 g_tk rfl (by omega) (by decide) ?_
        have h8 := h6.tk (i := p) (z := L1.length)
        exact zx_vret hE rfl dM_cut_208 rfl (Nat.le_of_ble_eq_true rfl) (by
          have hL : L1 = cutL xs 0 := by rw [← h5c, cutL_e (by omega), List.append_nil]
          refine ⟨rfl, rfl, h7.tr (frI_up (by omega) (by omega)), (va_up T1.1 p L1.length, T1.2), ⟨?_, ?_⟩, fun i hi => ?_, h5, h4, by rw [← hL]; omega, h8⟩
          · show va_up T1.1 p L1.length p = _; rw [vup_eq, hL]
          · rw [← hL]; exact h3
          · show va_up T1.1 p L1.length i = _; rw [vup_ne hi, h5b])
      · refine zx_aload_n dM_cut_21 rfl ?_
        refine zx_get dM_cut_22 flM_26 (by assumption) (by assumption) ?_
        refine zx_iload_n dM_cut_25 rfl ?_
        refine zx_iload dM_cut_26 rfl ?_
        refine zn_iadd dM_cut_28 ?_
        have hk1 := hx.2 k (by omega)
        refine zn_iald dM_cut_29 g_tx rfl (by omega) (by decide) (xa_tx.g (i := 24 * p + k) (by omega) hk1) ?_
        refine zc_S (n0 := n) (ce := 0) (kM_wordy G (d - 1) (by omega) (c := at0 xs k) (by have := hch k; omega)) (meM_wordy _) lkM_98 rfl hD (Nat.le_of_ble_eq_true rfl) rfl rfl (Nat.le_of_ble_eq_true rfl) (Nat.le_of_ble_eq_true rfl) (Nat.le_of_ble_eq_true rfl) dM_cut_30 ?_
        refine zb_if_eq (tgt := 62) dM_cut_33 rfl (fun h33 => ?_) (fun h33 => ?_)
        · refine zx_iconst (v := nI 0) dM_cut_62 (by decide) ?_
          first
          | exact m63 true (by unfold fst0; rw [h33, h38]; rfl) (by omega)
          | exact m63 true (by unfold fst0; rw [h33, h55]; simp) (by omega)
          | exact m63 false (by unfold fst0; rw [h33]; rfl) (by omega)
          | exact m63 false (by unfold fst0; rw [h33, h55, decide_eq_false h38]; rfl) (by omega)
        · refine zx_iload dM_cut_36 rfl ?_
          refine zn_if_eq (tgt := 58) dM_cut_38 rfl (by omega) (fun h38 => ?_) (fun h38 => ?_)
          · refine zx_iconst (v := nI 1) dM_cut_58 (by decide) ?_
            refine zx_goto (tgt := 63) dM_cut_59 rfl ?_
            first
            | exact m63 true (by unfold fst0; rw [h33, h38]; rfl) (by omega)
            | exact m63 true (by unfold fst0; rw [h33, h55]; simp) (by omega)
            | exact m63 false (by unfold fst0; rw [h33]; rfl) (by omega)
            | exact m63 false (by unfold fst0; rw [h33, h55, decide_eq_false h38]; rfl) (by omega)
          · refine zx_aload_n dM_cut_41 rfl ?_
            refine zx_get dM_cut_42 flM_26 (by assumption) (by assumption) ?_
            refine zx_iload_n dM_cut_45 rfl ?_
            refine zx_iload dM_cut_46 rfl ?_
            refine zn_iadd dM_cut_48 ?_
            refine zx_iconst (v := nI 1) dM_cut_49 (by decide) ?_
            refine zn_isub dM_cut_50 (by omega) ?_
            have hch2 := hch (k - 1)
            have hk2 := hx.2 (k - 1) (by omega)
            refine zn_iald dM_cut_51 g_tx rfl (by omega) (by decide) (xa_tx.g (i := 24 * p + k - 1) (z := at0 xs (k - 1)) (by omega) (by rw [show 24 * p + k - 1 = 24 * p + (k - 1) by omega]; exact hk2)) ?_
            refine zc_S (n0 := n) (ce := 0) (kM_wordy G (d - 1) (by omega) (c := at0 xs (k - 1)) (by have := hch (k - 1); omega)) (meM_wordy _) lkM_98 rfl hD (Nat.le_of_ble_eq_true rfl) rfl rfl (Nat.le_of_ble_eq_true rfl) (Nat.le_of_ble_eq_true rfl) (Nat.le_of_ble_eq_true rfl) dM_cut_52 ?_
            refine zb_if_ne (tgt := 62) dM_cut_55 rfl (fun h55 => ?_) (fun h55 => ?_)
            · refine zx_iconst (v := nI 0) dM_cut_62 (by decide) ?_
              first
              | exact m63 true (by unfold fst0; rw [h33, h38]; rfl) (by omega)
              | exact m63 true (by unfold fst0; rw [h33, h55]; simp) (by omega)
              | exact m63 false (by unfold fst0; rw [h33]; rfl) (by omega)
              | exact m63 false (by unfold fst0; rw [h33, h55, decide_eq_false h38]; rfl) (by omega)
            · refine zx_iconst (v := nI 1) dM_cut_58 (by decide) ?_
              refine zx_goto (tgt := 63) dM_cut_59 rfl ?_
              first
              | exact m63 true (by unfold fst0; rw [h33, h38]; rfl) (by omega)
              | exact m63 true (by unfold fst0; rw [h33, h55]; simp) (by omega)
              | exact m63 false (by unfold fst0; rw [h33]; rfl) (by omega)
              | exact m63 false (by unfold fst0; rw [h33, h55, decide_eq_false h38]; rfl) (by omega)
  refine zx_iconst (v := nI 0) dM_cut_0 (by decide) ?_
  refine zx_istore_n dM_cut_1 (Nat.le_of_ble_eq_true rfl) rfl rfl ?_
  refine zx_bipush (v := nI 24) dM_cut_2 (by decide) ?_
  refine zx_iload_n dM_cut_4 rfl ?_
  refine zn_imul dM_cut_5 ?_
  refine zx_istore_n dM_cut_6 (Nat.le_of_ble_eq_true rfl) rfl rfl ?_
  refine zx_iconst (v := nI 0) dM_cut_7 (by decide) ?_
  refine zx_istore dM_cut_8 (Nat.le_of_ble_eq_true rfl) rfl rfl ?_
  exact loop _ 0 [] T _ _ _ row (Nat.lt_succ_self _) (Nat.zero_le _) rfl rfl rfl (fun k q h => by cases h) hR ⟨rfl, fun s _ => ⟨rfl, rfl⟩⟩ rfl ⟨by simp, fun _ => by simp⟩ hM frI.rf

