abbrev mL : Type := Bool × Bool × Nat × Nat
/-- the levels of a query, the innermost first -/
def lvA (row : zRw) (m : Nat) : List mL → Prop
  | [] => True
  | l :: st => (row (m + 16) st.length = .int (bI l.1) ∧ row (m + 17) st.length = .int (bI l.2.1) ∧ row (m + 18) st.length = .int (nI l.2.2.1) ∧ row (m + 19) st.length = .int (nI l.2.2.2)) ∧ lvA row m st
theorem lvA.keep {row row' : zRw} {m N : Nat} (hk : ∀ b k, m + 16 ≤ b → b ≤ m + 19 → k < N → row' b k = row b k) : ∀ {st : List mL}, st.length ≤ N → lvA row m st → lvA row' m st := by
  intro st
  induction st with
  | nil => intro _ _; trivial
  | cons l st ih =>
    intro hl h
    rw [List.length_cons] at hl
    obtain ⟨⟨h1, h2, h3, h4⟩, h5⟩ := h
    exact ⟨⟨by rw [hk _ _ (by omega) (by omega) (by omega)]; exact h1, by rw [hk _ _ (by omega) (by omega) (by omega)]; exact h2, by rw [hk _ _ (by omega) (by omega) (by omega)]; exact h3, by rw [hk _ _ (by omega) (by omega) (by omega)]; exact h4⟩, ih (by omega) h5⟩
def wdA (row : zRw) (m : Nat) (L : List (Nat × Nat)) : Prop := row m 28 = .int (nI L.length) ∧ ∀ k q, L[k]? = some q → row (m + 20) k = .int (nI q.1) ∧ row (m + 21) k = .int (nI q.2)
def prt (l : mL) (v : Bool) : mL := (l.1, l.2.1 && (if l.2.2.2 = 1 then !v else v), l.2.2.1 + 1, 0)
/-- the words' cells, the levels' cells -/
def scW (m : Nat) (row row' : zRw) : Prop := ∀ b k, (b ≠ m ∨ k ≠ 28) → (b < m + 20 ∨ m + 21 < b) → row' b k = row b k
def scL (m N : Nat) (row row' : zRw) : Prop := ∀ b k, (b ≠ m ∨ k ≠ 23) → (b < m + 16 ∨ m + 19 < b ∨ k < N) → row' b k = row b k
theorem scW.E {m : Nat} {r1 r2 : zRw} (h : scW m r1 r2) : scE m r1 r2 := fun b k h1 h2 => h b k (by omega) (by omega)
theorem scL.E {m N : Nat} {r1 r2 : zRw} (h : scL m N r1 r2) : scE m r1 r2 := fun b k h1 h2 => h b k (by omega) (by omega)
theorem wdA.push {row : zRw} {m f t : Nat} {L : List (Nat × Nat)} (h : wdA row m L) : wdA (zup (zup (zup row (m + 20) L.length (.int (nI f))) (m + 21) L.length (.int (nI t))) m 28 (.int (nI (L.length + 1)))) m (L ++ [(f, t)]) := by
  refine ⟨by rw [zup_same, List.length_append]; rfl, fun k q hq => ?_⟩
  rw [zup_ne (by omega), zup_ne (by omega : m + 21 ≠ m), zup_ne (by omega : m + 20 ≠ m + 21)]
  by_cases e : k = L.length
  · subst e
    rw [List.getElem?_append_right (Nat.le_refl _), Nat.sub_self] at hq
    cases hq
    exact ⟨zup_same _ _ _, zup_same _ _ _⟩
  · have hk : k < L.length := by
      have := (List.getElem?_eq_some_iff.mp hq).1
      rw [List.length_append] at this
      simp at this
      omega
    rw [List.getElem?_append_left hk] at hq
    rw [zup_k (Or.inr e), zup_k (Or.inr e), zup_ne (by omega)]
    exact h.2 k q hq

set_option maxHeartbeats 4000000 in
set_option maxRecDepth 100000 in
theorem kM_keepWord (G : zG) (d : Nat) (hd : 0 ≤ d) {n : Nat} {sh : zSh} {row : zRw} {m : Nat} {A : Nat × (Nat → Nat)} {B : Nat × Nat × Nat × Nat} {P : (Nat → Int32) × (Nat → Int32) × (Nat → Bool) × (Nat → Nat) × (Nat → Nat)} {T : (Nat → Nat) × (Nat → Nat) × (Nat → Nat)} {S : (Nat → Nat) × (Nat → Bool)} {H : (Nat → Bool) × (Nat → Nat) × (Nat → Nat) × (Nat → Nat)} (hM : MA sh row m A B P T S H) {f t : Nat} {L : List (Nat × Nat)} (hL : wdA row m L) (hl : L.length < 24) (h21 : row m 21 = .int (nI f)) (h22 : row m 22 = .int (nI t)) : zM G (fM_keepWord d) [.ref m] n sh row (zpV sh (fun row' => scW m row row' ∧ wdA row' m (L ++ [(f, t)]))) := by
  refine zM.of (by show plainName "PostIndexModel" = true; decide +kernel) (Nat.le_of_ble_eq_true rfl) (by intro v hv; simp at hv; rcases hv with rfl <;> rfl) ?_
  intro K hE
  show zX G K (fM_keepWord d) n 0 0 sh row 0 [.ref m] []
  obtain ⟨⟨go, g_dr, g_au, g_ti, g_er, g_ln, g_tx, g_tk, g_fr, g_to, g_rw, g_pk, g_tn, g_bd, g_ql, g_qy, g_any, g_all, g_pa, g_mi, g_wf, g_wt⟩, ⟨p_dr, p_au, p_ti, p_er, p_ln, p_tx, p_tk, p_fr, p_to, p_rw, p_pk, p_tn, p_bd, p_ql, p_qy, p_any, p_all, p_pa, p_mi, p_wf, p_wt⟩, ⟨f_dl, f_md, f_pb, f_dn, f_sn⟩, a_dr, a_au, a_ti, a_er, a_ln, a_tx, a_tk, a_fr, a_to, a_rw, a_pk, a_tn, a_bd, a_ql, a_qy⟩ := id hM
  have h28 := hL.1
  refine zx_aload_n dM_keepWord_0 rfl ?_
  refine zx_get dM_keepWord_1 flM_68 (by assumption) (by first | assumption | exact ((zup_k (by omega)).trans (by assumption)) | exact ((zup_k (by omega)).trans ((zup_k (by omega)).trans (by assumption))) | exact ((zup_k (by omega)).trans ((zup_k (by omega)).trans ((zup_k (by omega)).trans (by assumption)))) | exact ((zup_k (by omega)).trans ((zup_k (by omega)).trans ((zup_k (by omega)).trans ((zup_k (by omega)).trans (by assumption)))))) ?_
  refine zx_aload_n dM_keepWord_4 rfl ?_
  refine zx_get dM_keepWord_5 flM_148 (by assumption) (by first | assumption | exact ((zup_k (by omega)).trans (by assumption)) | exact ((zup_k (by omega)).trans ((zup_k (by omega)).trans (by assumption))) | exact ((zup_k (by omega)).trans ((zup_k (by omega)).trans ((zup_k (by omega)).trans (by assumption)))) | exact ((zup_k (by omega)).trans ((zup_k (by omega)).trans ((zup_k (by omega)).trans ((zup_k (by omega)).trans (by assumption)))))) ?_
  refine zx_aload_n dM_keepWord_8 rfl ?_
  refine zx_get dM_keepWord_9 flM_142 (by assumption) (by first | assumption | exact ((zup_k (by omega)).trans (by assumption)) | exact ((zup_k (by omega)).trans ((zup_k (by omega)).trans (by assumption))) | exact ((zup_k (by omega)).trans ((zup_k (by omega)).trans ((zup_k (by omega)).trans (by assumption)))) | exact ((zup_k (by omega)).trans ((zup_k (by omega)).trans ((zup_k (by omega)).trans ((zup_k (by omega)).trans (by assumption)))))) ?_
  refine zn_iast dM_keepWord_12 g_wf rfl (by omega) (by decide) ?_
  refine zx_aload_n dM_keepWord_13 rfl ?_
  refine zx_get dM_keepWord_14 flM_71 (by assumption) (by first | assumption | exact ((zup_k (by omega)).trans (by assumption)) | exact ((zup_k (by omega)).trans ((zup_k (by omega)).trans (by assumption))) | exact ((zup_k (by omega)).trans ((zup_k (by omega)).trans ((zup_k (by omega)).trans (by assumption)))) | exact ((zup_k (by omega)).trans ((zup_k (by omega)).trans ((zup_k (by omega)).trans ((zup_k (by omega)).trans (by assumption)))))) ?_
  refine zx_aload_n dM_keepWord_17 rfl ?_
  refine zx_get dM_keepWord_18 flM_148 (by assumption) (by first | assumption | exact ((zup_k (by omega)).trans (by assumption)) | exact ((zup_k (by omega)).trans ((zup_k (by omega)).trans (by assumption))) | exact ((zup_k (by omega)).trans ((zup_k (by omega)).trans ((zup_k (by omega)).trans (by assumption)))) | exact ((zup_k (by omega)).trans ((zup_k (by omega)).trans ((zup_k (by omega)).trans ((zup_k (by omega)).trans (by assumption)))))) ?_
  refine zx_aload_n dM_keepWord_21 rfl ?_
  refine zx_get dM_keepWord_22 flM_136 (by assumption) (by first | assumption | exact ((zup_k (by omega)).trans (by assumption)) | exact ((zup_k (by omega)).trans ((zup_k (by omega)).trans (by assumption))) | exact ((zup_k (by omega)).trans ((zup_k (by omega)).trans ((zup_k (by omega)).trans (by assumption)))) | exact ((zup_k (by omega)).trans ((zup_k (by omega)).trans ((zup_k (by omega)).trans ((zup_k (by omega)).trans (by assumption)))))) ?_
  refine zn_iast dM_keepWord_25 g_wt rfl (by omega) (by decide) ?_
  refine zx_aload_n dM_keepWord_26 rfl ?_
  refine zx_dup dM_keepWord_27 rfl ?_
  refine zx_get dM_keepWord_28 flM_148 (by assumption) (by first | assumption | exact ((zup_k (by omega)).trans (by assumption)) | exact ((zup_k (by omega)).trans ((zup_k (by omega)).trans (by assumption))) | exact ((zup_k (by omega)).trans ((zup_k (by omega)).trans ((zup_k (by omega)).trans (by assumption)))) | exact ((zup_k (by omega)).trans ((zup_k (by omega)).trans ((zup_k (by omega)).trans ((zup_k (by omega)).trans (by assumption)))))) ?_
  refine zx_iconst (v := nI 1) dM_keepWord_31 (by decide) ?_
  refine zn_iadd dM_keepWord_32 ?_
  refine zx_put dM_keepWord_33 flM_148 tpM_28 (by assumption) rfl rfl ?_
  exact zx_vret hE rfl dM_keepWord_36 rfl (Nat.le_of_ble_eq_true rfl) ⟨rfl, rfl, fun b k h1 h2 => by rw [zup_k (by omega), zup_k (by omega), zup_k (by omega)], hL.push⟩

set_option maxHeartbeats 4000000 in
set_option maxRecDepth 100000 in
theorem kM_open (G : zG) (d : Nat) (hd : 0 ≤ d) {n : Nat} {sh : zSh} {row : zRw} {m : Nat} {A : Nat × (Nat → Nat)} {B : Nat × Nat × Nat × Nat} {P : (Nat → Int32) × (Nat → Int32) × (Nat → Bool) × (Nat → Nat) × (Nat → Nat)} {T : (Nat → Nat) × (Nat → Nat) × (Nat → Nat)} {S : (Nat → Nat) × (Nat → Bool)} {H : (Nat → Bool) × (Nat → Nat) × (Nat → Nat) × (Nat → Nat)} (hM : MA sh row m A B P T S H) {st : List mL} (hl : st.length < 8) (hv : lvA row m st) : zM G (fM_open d) [.ref m, .int (nI st.length)] n sh row (zpV sh (fun row' => scL m st.length row row' ∧ row' m 23 = .int (nI st.length) ∧ lvA row' m ((false, true, 0, 0) :: st))) := by
  refine zM.of (by show plainName "PostIndexModel" = true; decide +kernel) (Nat.le_of_ble_eq_true rfl) (by intro v hv; simp at hv; rcases hv with rfl | rfl <;> rfl) ?_
  intro K hE
  show zX G K (fM_open d) n 0 0 sh row 0 [.ref m, .int (nI st.length)] []
  obtain ⟨⟨go, g_dr, g_au, g_ti, g_er, g_ln, g_tx, g_tk, g_fr, g_to, g_rw, g_pk, g_tn, g_bd, g_ql, g_qy, g_any, g_all, g_pa, g_mi, g_wf, g_wt⟩, ⟨p_dr, p_au, p_ti, p_er, p_ln, p_tx, p_tk, p_fr, p_to, p_rw, p_pk, p_tn, p_bd, p_ql, p_qy, p_any, p_all, p_pa, p_mi, p_wf, p_wt⟩, ⟨f_dl, f_md, f_pb, f_dn, f_sn⟩, a_dr, a_au, a_ti, a_er, a_ln, a_tx, a_tk, a_fr, a_to, a_rw, a_pk, a_tn, a_bd, a_ql, a_qy⟩ := id hM
  refine zx_aload_n dM_open_0 rfl ?_
  refine zx_iload_n dM_open_1 rfl ?_
  refine zx_put dM_open_2 flM_155 tpM_23 (by assumption) rfl rfl ?_
  refine zx_aload_n dM_open_5 rfl ?_
  refine zx_get dM_open_6 flM_56 (by assumption) (by first | assumption | exact ((zup_k (by omega)).trans (by assumption)) | exact ((zup_k (by omega)).trans ((zup_k (by omega)).trans (by assumption))) | exact ((zup_k (by omega)).trans ((zup_k (by omega)).trans ((zup_k (by omega)).trans (by assumption)))) | exact ((zup_k (by omega)).trans ((zup_k (by omega)).trans ((zup_k (by omega)).trans ((zup_k (by omega)).trans (by assumption)))))) ?_
  refine zx_iload_n dM_open_9 rfl ?_
  refine zx_iconst (v := nI 0) dM_open_10 (by decide) ?_
  refine zn_zast (b := false) dM_open_11 g_any rfl (by omega) (by decide) ?_
  refine zx_aload_n dM_open_12 rfl ?_
  refine zx_get dM_open_13 flM_59 (by assumption) (by first | assumption | exact ((zup_k (by omega)).trans (by assumption)) | exact ((zup_k (by omega)).trans ((zup_k (by omega)).trans (by assumption))) | exact ((zup_k (by omega)).trans ((zup_k (by omega)).trans ((zup_k (by omega)).trans (by assumption)))) | exact ((zup_k (by omega)).trans ((zup_k (by omega)).trans ((zup_k (by omega)).trans ((zup_k (by omega)).trans (by assumption)))))) ?_
  refine zx_iload_n dM_open_16 rfl ?_
  refine zx_iconst (v := nI 1) dM_open_17 (by decide) ?_
  refine zn_zast (b := true) dM_open_18 g_all rfl (by omega) (by decide) ?_
  refine zx_aload_n dM_open_19 rfl ?_
  refine zx_get dM_open_20 flM_62 (by assumption) (by first | assumption | exact ((zup_k (by omega)).trans (by assumption)) | exact ((zup_k (by omega)).trans ((zup_k (by omega)).trans (by assumption))) | exact ((zup_k (by omega)).trans ((zup_k (by omega)).trans ((zup_k (by omega)).trans (by assumption)))) | exact ((zup_k (by omega)).trans ((zup_k (by omega)).trans ((zup_k (by omega)).trans ((zup_k (by omega)).trans (by assumption)))))) ?_
  refine zx_iload_n dM_open_23 rfl ?_
  refine zx_iconst (v := nI 0) dM_open_24 (by decide) ?_
  refine zn_iast dM_open_25 g_pa rfl (by omega) (by decide) ?_
  refine zx_aload_n dM_open_26 rfl ?_
  refine zx_get dM_open_27 flM_65 (by assumption) (by first | assumption | exact ((zup_k (by omega)).trans (by assumption)) | exact ((zup_k (by omega)).trans ((zup_k (by omega)).trans (by assumption))) | exact ((zup_k (by omega)).trans ((zup_k (by omega)).trans ((zup_k (by omega)).trans (by assumption)))) | exact ((zup_k (by omega)).trans ((zup_k (by omega)).trans ((zup_k (by omega)).trans ((zup_k (by omega)).trans (by assumption)))))) ?_
  refine zx_iload_n dM_open_30 rfl ?_
  refine zx_iconst (v := nI 0) dM_open_31 (by decide) ?_
  refine zn_iast dM_open_32 g_mi rfl (by omega) (by decide) ?_
  exact zx_vret hE rfl dM_open_33 rfl (Nat.le_of_ble_eq_true rfl) (by
    have hs : scL m st.length row (zup (zup (zup (zup (zup row m 23 (.int (nI st.length))) (m + 16) st.length (.int (bI false))) (m + 17) st.length (.int (bI true))) (m + 18) st.length (.int (nI 0))) (m + 19) st.length (.int (nI 0))) := fun b k h1 h2 => by rw [zup_k (by omega), zup_k (by omega), zup_k (by omega), zup_k (by omega), zup_k (by omega)]
    refine ⟨rfl, rfl, hs, by rw [zup_ne (by omega), zup_ne (by omega), zup_ne (by omega), zup_ne (by omega), zup_same], ⟨?_, ?_, ?_, ?_⟩, hv.keep (fun b k h1 h2 h3 => hs b k (by omega) (by omega)) (Nat.le_refl _)⟩
    · rw [zup_ne (by omega), zup_ne (by omega), zup_ne (by omega), zup_same]
    · rw [zup_ne (by omega), zup_ne (by omega), zup_same]
    · rw [zup_ne (by omega), zup_same]
    · rw [zup_same])

set_option maxHeartbeats 4000000 in
set_option maxRecDepth 100000 in
theorem kM_part (G : zG) (d : Nat) (hd : 0 ≤ d) {n : Nat} {sh : zSh} {row : zRw} {m : Nat} {A : Nat × (Nat → Nat)} {B : Nat × Nat × Nat × Nat} {P : (Nat → Int32) × (Nat → Int32) × (Nat → Bool) × (Nat → Nat) × (Nat → Nat)} {T : (Nat → Nat) × (Nat → Nat) × (Nat → Nat)} {S : (Nat → Nat) × (Nat → Bool)} {H : (Nat → Bool) × (Nat → Nat) × (Nat → Nat) × (Nat → Nat)} (hM : MA sh row m A B P T S H) {st : List mL} {l : mL} {v : Bool} (hl : st.length < 8) (hv : lvA row m (l :: st)) (h23 : row m 23 = .int (nI st.length)) (hp : l.2.2.1 < 1000) (hm2 : l.2.2.2 ≤ 2) : zM G (fM_part d) [.ref m, .int (bI v)] n sh row (zpV sh (fun row' => scL m st.length row row' ∧ row' m 23 = .int (nI st.length) ∧ lvA row' m (prt l v :: st))) := by
  refine zM.of (by show plainName "PostIndexModel" = true; decide +kernel) (Nat.le_of_ble_eq_true rfl) (by intro v hv; simp at hv; rcases hv with rfl | rfl <;> rfl) ?_
  intro K hE
  show zX G K (fM_part d) n 0 0 sh row 0 [.ref m, .int (bI v), .retAddr 0] []
  obtain ⟨⟨go, g_dr, g_au, g_ti, g_er, g_ln, g_tx, g_tk, g_fr, g_to, g_rw, g_pk, g_tn, g_bd, g_ql, g_qy, g_any, g_all, g_pa, g_mi, g_wf, g_wt⟩, ⟨p_dr, p_au, p_ti, p_er, p_ln, p_tx, p_tk, p_fr, p_to, p_rw, p_pk, p_tn, p_bd, p_ql, p_qy, p_any, p_all, p_pa, p_mi, p_wf, p_wt⟩, ⟨f_dl, f_md, f_pb, f_dn, f_sn⟩, a_dr, a_au, a_ti, a_er, a_ln, a_tx, a_tk, a_fr, a_to, a_rw, a_pk, a_tn, a_bd, a_ql, a_qy⟩ := id hM
  obtain ⟨⟨han, hal, hpa, hmi⟩, hv0⟩ := id hv
  have m26 : ∀ b : Bool, b = (if l.2.2.2 = 1 then !v else v) → zX G K (fM_part d) n 0 0 sh row 26 [.ref m, .int (bI v), .retAddr 0] [.int (bI b)] := by
    intro b hb
    have m56 : ∀ b2 : Bool, b2 = (l.2.1 && b) → zX G K (fM_part d) n 0 0 sh row 56 [.ref m, .int (bI v), .int (bI b)] [.int (bI b2), .int (nI st.length), .ref (m + 17)] := by
      intro b2 hb2
      refine zn_zast (b := b2) dM_part_56 g_all rfl (by omega) (by decide) ?_
      refine zx_aload_n dM_part_57 rfl ?_
      refine zx_get dM_part_58 flM_62 (by assumption) (by first | assumption | exact ((zup_k (by omega)).trans (by assumption)) | exact ((zup_k (by omega)).trans ((zup_k (by omega)).trans (by assumption))) | exact ((zup_k (by omega)).trans ((zup_k (by omega)).trans ((zup_k (by omega)).trans (by assumption)))) | exact ((zup_k (by omega)).trans ((zup_k (by omega)).trans ((zup_k (by omega)).trans ((zup_k (by omega)).trans (by assumption)))))) ?_
      refine zx_aload_n dM_part_61 rfl ?_
      refine zx_get dM_part_62 flM_155 (by assumption) (by first | assumption | exact ((zup_k (by omega)).trans (by assumption)) | exact ((zup_k (by omega)).trans ((zup_k (by omega)).trans (by assumption))) | exact ((zup_k (by omega)).trans ((zup_k (by omega)).trans ((zup_k (by omega)).trans (by assumption)))) | exact ((zup_k (by omega)).trans ((zup_k (by omega)).trans ((zup_k (by omega)).trans ((zup_k (by omega)).trans (by assumption)))))) ?_
      refine zx_dup2 dM_part_65 rfl rfl ?_
      refine zn_iald dM_part_66 g_pa rfl (by omega) (by decide) (x := nI l.2.2.1) (by rw [zup_ne (by omega)]; exact hpa) ?_
      refine zx_iconst (v := nI 1) dM_part_67 (by decide) ?_
      refine zn_iadd dM_part_68 ?_
      refine zn_iast dM_part_69 g_pa rfl (by omega) (by decide) ?_
      refine zx_aload_n dM_part_70 rfl ?_
      refine zx_get dM_part_71 flM_65 (by assumption) (by first | assumption | exact ((zup_k (by omega)).trans (by assumption)) | exact ((zup_k (by omega)).trans ((zup_k (by omega)).trans (by assumption))) | exact ((zup_k (by omega)).trans ((zup_k (by omega)).trans ((zup_k (by omega)).trans (by assumption)))) | exact ((zup_k (by omega)).trans ((zup_k (by omega)).trans ((zup_k (by omega)).trans ((zup_k (by omega)).trans (by assumption)))))) ?_
      refine zx_aload_n dM_part_74 rfl ?_
      refine zx_get dM_part_75 flM_155 (by assumption) (by first | assumption | exact ((zup_k (by omega)).trans (by assumption)) | exact ((zup_k (by omega)).trans ((zup_k (by omega)).trans (by assumption))) | exact ((zup_k (by omega)).trans ((zup_k (by omega)).trans ((zup_k (by omega)).trans (by assumption)))) | exact ((zup_k (by omega)).trans ((zup_k (by omega)).trans ((zup_k (by omega)).trans ((zup_k (by omega)).trans (by assumption)))))) ?_
      refine zx_iconst (v := nI 0) dM_part_78 (by decide) ?_
      refine zn_iast dM_part_79 g_mi rfl (by omega) (by decide) ?_
      exact zx_vret hE rfl dM_part_80 rfl (Nat.le_of_ble_eq_true rfl) (by
        have hs : scL m st.length row (zup (zup (zup row (m + 17) st.length (.int (bI b2))) (m + 18) st.length (.int (nI (l.2.2.1 + 1)))) (m + 19) st.length (.int (nI 0))) := fun b k h1 h2 => by rw [zup_k (by omega), zup_k (by omega), zup_k (by omega)]
        refine ⟨rfl, rfl, hs, by rw [zup_ne (by omega), zup_ne (by omega), zup_ne (by omega)]; exact h23, ⟨?_, ?_, ?_, ?_⟩, hv0.keep (fun b k h1 h2 h3 => hs b k (by omega) (by omega)) (Nat.le_refl _)⟩
        · rw [zup_ne (by omega), zup_ne (by omega), zup_ne (by omega)]; exact han
        · rw [zup_ne (by omega), zup_ne (by omega), zup_same, hb2, hb]; rfl
        · rw [zup_ne (by omega), zup_same]; rfl
        · rw [zup_same]; rfl)
    refine zx_istore_n dM_part_26 (Nat.le_of_ble_eq_true rfl) rfl rfl ?_
    refine zx_aload_n dM_part_27 rfl ?_
    refine zx_get dM_part_28 flM_59 (by assumption) (by first | assumption | exact ((zup_k (by omega)).trans (by assumption)) | exact ((zup_k (by omega)).trans ((zup_k (by omega)).trans (by assumption))) | exact ((zup_k (by omega)).trans ((zup_k (by omega)).trans ((zup_k (by omega)).trans (by assumption)))) | exact ((zup_k (by omega)).trans ((zup_k (by omega)).trans ((zup_k (by omega)).trans ((zup_k (by omega)).trans (by assumption)))))) ?_
    refine zx_aload_n dM_part_31 rfl ?_
    refine zx_get dM_part_32 flM_155 (by assumption) (by first | assumption | exact ((zup_k (by omega)).trans (by assumption)) | exact ((zup_k (by omega)).trans ((zup_k (by omega)).trans (by assumption))) | exact ((zup_k (by omega)).trans ((zup_k (by omega)).trans ((zup_k (by omega)).trans (by assumption)))) | exact ((zup_k (by omega)).trans ((zup_k (by omega)).trans ((zup_k (by omega)).trans ((zup_k (by omega)).trans (by assumption)))))) ?_
    refine zx_aload_n dM_part_35 rfl ?_
    refine zx_get dM_part_36 flM_59 (by assumption) (by first | assumption | exact ((zup_k (by omega)).trans (by assumption)) | exact ((zup_k (by omega)).trans ((zup_k (by omega)).trans (by assumption))) | exact ((zup_k (by omega)).trans ((zup_k (by omega)).trans ((zup_k (by omega)).trans (by assumption)))) | exact ((zup_k (by omega)).trans ((zup_k (by omega)).trans ((zup_k (by omega)).trans ((zup_k (by omega)).trans (by assumption)))))) ?_
    refine zx_aload_n dM_part_39 rfl ?_
    refine zx_get dM_part_40 flM_155 (by assumption) (by first | assumption | exact ((zup_k (by omega)).trans (by assumption)) | exact ((zup_k (by omega)).trans ((zup_k (by omega)).trans (by assumption))) | exact ((zup_k (by omega)).trans ((zup_k (by omega)).trans ((zup_k (by omega)).trans (by assumption)))) | exact ((zup_k (by omega)).trans ((zup_k (by omega)).trans ((zup_k (by omega)).trans ((zup_k (by omega)).trans (by assumption)))))) ?_
    refine zn_zald dM_part_43 g_all rfl (by omega) (by decide) hal ?_
    refine zb_if_eq (tgt := 55) dM_part_44 rfl (fun h44 => ?_) (fun h44 => ?_)
    · refine zx_iconst (v := nI 0) dM_part_55 (by decide) ?_
      first | exact m56 false (by rw [h44]; rfl) | exact m56 true (by rw [h44, h48]; rfl) | exact m56 false (by rw [h44, h48]; rfl)
    · refine zx_iload_n dM_part_47 rfl ?_
      refine zb_if_eq (tgt := 55) dM_part_48 rfl (fun h48 => ?_) (fun h48 => ?_)
      · refine zx_iconst (v := nI 0) dM_part_55 (by decide) ?_
        first | exact m56 false (by rw [h44]; rfl) | exact m56 true (by rw [h44, h48]; rfl) | exact m56 false (by rw [h44, h48]; rfl)
      · refine zx_iconst (v := nI 1) dM_part_51 (by decide) ?_
        refine zx_goto (tgt := 56) dM_part_52 rfl ?_
        first | exact m56 false (by rw [h44]; rfl) | exact m56 true (by rw [h44, h48]; rfl) | exact m56 false (by rw [h44, h48]; rfl)
  refine zx_aload_n dM_part_0 rfl ?_
  refine zx_get dM_part_1 flM_65 (by assumption) (by first | assumption | exact ((zup_k (by omega)).trans (by assumption)) | exact ((zup_k (by omega)).trans ((zup_k (by omega)).trans (by assumption))) | exact ((zup_k (by omega)).trans ((zup_k (by omega)).trans ((zup_k (by omega)).trans (by assumption)))) | exact ((zup_k (by omega)).trans ((zup_k (by omega)).trans ((zup_k (by omega)).trans ((zup_k (by omega)).trans (by assumption)))))) ?_
  refine zx_aload_n dM_part_4 rfl ?_
  refine zx_get dM_part_5 flM_155 (by assumption) (by first | assumption | exact ((zup_k (by omega)).trans (by assumption)) | exact ((zup_k (by omega)).trans ((zup_k (by omega)).trans (by assumption))) | exact ((zup_k (by omega)).trans ((zup_k (by omega)).trans ((zup_k (by omega)).trans (by assumption)))) | exact ((zup_k (by omega)).trans ((zup_k (by omega)).trans ((zup_k (by omega)).trans ((zup_k (by omega)).trans (by assumption)))))) ?_
  refine zn_iald dM_part_8 g_mi rfl (by omega) (by decide) hmi ?_
  refine zx_iconst (v := nI 1) dM_part_9 (by decide) ?_
  refine zn_icmp_ne (tgt := 25) dM_part_10 rfl (by omega) (by omega) (fun h10 => ?_) (fun h10 => ?_)
  · refine zx_iload_n dM_part_25 rfl ?_
    first | exact m26 v (by rw [if_neg h10]) | exact m26 true (by rw [if_pos h10, h14]; rfl) | exact m26 false (by rw [if_pos h10, h14]; rfl)
  · refine zx_iload_n dM_part_13 rfl ?_
    refine zb_if_ne (tgt := 21) dM_part_14 rfl (fun h14 => ?_) (fun h14 => ?_)
    · refine zx_iconst (v := nI 0) dM_part_21 (by decide) ?_
      refine zx_goto (tgt := 26) dM_part_22 rfl ?_
      first | exact m26 v (by rw [if_neg h10]) | exact m26 true (by rw [if_pos h10, h14]; rfl) | exact m26 false (by rw [if_pos h10, h14]; rfl)
    · refine zx_iconst (v := nI 1) dM_part_17 (by decide) ?_
      refine zx_goto (tgt := 26) dM_part_18 rfl ?_
      first | exact m26 v (by rw [if_neg h10]) | exact m26 true (by rw [if_pos h10, h14]; rfl) | exact m26 false (by rw [if_pos h10, h14]; rfl)

def numV (xs : List Nat) (a : Nat) : Nat → Nat
  | 0 => 0
  | i + 1 => 10 * numV xs a i + (at0 xs (a + i) - 48)
theorem numV_lt {xs : List Nat} {a i : Nat} (h : ∀ k, k < i → at0 xs (a + k) ≤ 57) : numV xs a i < 10 ^ i := by
  induction i with
  | zero => exact Nat.one_pos
  | succ i ih =>
    have h1 := ih (fun k hk => h k (by omega))
    have h2 := h i (by omega)
    show 10 * numV xs a i + (at0 xs (a + i) - 48) < _
    rw [Nat.pow_succ]
    omega
def filM (P : mP) (p : Nat) (xs : List Nat) (f t : Nat) : Bool := if at0 xs f = 61 then decide (P.1 p = nI (numV xs (f + 1) (t - (f + 1)))) else if at0 xs f = 60 then decide (P.2.1 p < nI (numV xs (f + 1) (t - (f + 1)))) else decide (nI (numV xs (f + 1) (t - (f + 1))) < P.2.1 p)

set_option maxHeartbeats 4000000 in
set_option maxRecDepth 100000 in
theorem kM_filter (G : zG) (d : Nat) (hd : 1 ≤ d) {n : Nat} {sh : zSh} {row : zRw} {m : Nat} {A : Nat × (Nat → Nat)} {B : Nat × Nat × Nat × Nat} {P : (Nat → Int32) × (Nat → Int32) × (Nat → Bool) × (Nat → Nat) × (Nat → Nat)} {T : (Nat → Nat) × (Nat → Nat) × (Nat → Nat)} {S : (Nat → Nat) × (Nat → Bool)} {H : (Nat → Bool) × (Nat → Nat) × (Nat → Nat) × (Nat → Nat)} (hM : MA sh row m A B P T S H) {j p f t : Nat} {xs : List Nat} (hj : j < 4) (hp : p < 24) (hq : qyA H j xs) (hl : xs.length ≤ 24) (hch : ∀ k, at0 xs k < 127) (h21 : row m 21 = .int (nI f)) (h22 : row m 22 = .int (nI t)) (hft : f + 1 ≤ t) (htl : t ≤ xs.length) (hdi : ∀ k, f < k → k < t → 48 ≤ at0 xs k ∧ at0 xs k ≤ 57) : zM G (fM_filter d) [.ref m, .int (nI j), .int (nI p)] n sh row (zP sh row (.int (bI (filM P p xs f t)))) := by
  refine zM.of (by show plainName "PostIndexModel" = true; decide +kernel) (Nat.le_of_ble_eq_true rfl) (by intro v hv; simp at hv; rcases hv with rfl | rfl | rfl <;> rfl) ?_
  intro K hE
  show zX G K (fM_filter d) n 0 0 sh row 0 [.ref m, .int (nI j), .int (nI p), .retAddr 0, .retAddr 0] []
  have hD : d - 1 + 1 ≤ d := by omega
  obtain ⟨⟨go, g_dr, g_au, g_ti, g_er, g_ln, g_tx, g_tk, g_fr, g_to, g_rw, g_pk, g_tn, g_bd, g_ql, g_qy, g_any, g_all, g_pa, g_mi, g_wf, g_wt⟩, ⟨p_dr, p_au, p_ti, p_er, p_ln, p_tx, p_tk, p_fr, p_to, p_rw, p_pk, p_tn, p_bd, p_ql, p_qy, p_any, p_all, p_pa, p_mi, p_wf, p_wt⟩, ⟨f_dl, f_md, f_pb, f_dn, f_sn⟩, a_dr, a_au, a_ti, a_er, a_ln, a_tx, a_tk, a_fr, a_to, a_rw, a_pk, a_tn, a_bd, a_ql, a_qy⟩ := id hM
  have loop : ∀ (k : Nat) (i : Nat), t - (f + 1 + i) < k → f + 1 + i ≤ t → zX G K (fM_filter d) n 0 0 sh row 16 [.ref m, .int (nI j), .int (nI p), .int (nI (numV xs (f + 1) i)), .int (nI (f + 1 + i))] [] := by
    intro k
    induction k with
    | zero => intro i hk; exact absurd hk (Nat.not_lt_zero _)
    | succ k ih =>
      intro i hk h3
      refine zx_iload dM_filter_16 rfl ?_
      refine zx_aload_n dM_filter_18 rfl ?_
      refine zx_get dM_filter_19 flM_136 (by assumption) (by assumption) ?_
      refine zn_icmp_ge (tgt := 47) dM_filter_22 rfl (by omega) (by omega) (fun h22 => ?_) (fun h22 => ?_)
      · have hif : i = t - (f + 1) := by omega
        refine zx_aload_n dM_filter_47 rfl ?_
        refine zx_iload_n dM_filter_48 rfl ?_
        refine zx_aload_n dM_filter_49 rfl ?_
        refine zx_get dM_filter_50 flM_142 (by assumption) (by assumption) ?_
        refine zc_V (n0 := n) (ce := 0) (kM_at G (d - 1) (by omega) hM (j := j) (k := f) hj hq hl (by omega)) (meM_at _) lkM_139 go rfl rfl hD (Nat.le_of_ble_eq_true rfl) rfl rfl (Nat.le_of_ble_eq_true rfl) (Nat.le_of_ble_eq_true rfl) (Nat.le_of_ble_eq_true rfl) dM_filter_53 ?_
        rw [if_pos (show f < xs.length by omega)]
        have hcf := hch f
        refine zx_istore dM_filter_56 (Nat.le_of_ble_eq_true rfl) rfl rfl ?_
        refine zx_iload dM_filter_58 rfl ?_
        refine zx_bipush (v := nI 61) dM_filter_60 (by decide) ?_
        refine zn_icmp_ne (tgt := 83) dM_filter_62 rfl (by omega) (by omega) (fun h62 => ?_) (fun h62 => ?_)
        · refine zx_iload dM_filter_83 rfl ?_
          refine zx_bipush (v := nI 60) dM_filter_85 (by decide) ?_
          refine zn_icmp_ne (tgt := 108) dM_filter_87 rfl (by omega) (by omega) (fun h87 => ?_) (fun h87 => ?_)
          · refine zx_aload_n dM_filter_108 rfl ?_
            refine zx_get dM_filter_109 flM_16 (by assumption) (by assumption) ?_
            refine zx_iload_n dM_filter_112 rfl ?_
            refine zn_iald dM_filter_113 g_ti rfl (by omega) (by decide) (a_ti p hp) ?_
            refine zx_iload_n dM_filter_114 rfl ?_
            refine zx_icmp_le (tgt := 122) dM_filter_115 rfl (fun h115 => ?_) (fun h115 => ?_)
            · refine zx_iconst (v := nI 0) dM_filter_122 (by decide) ?_
              exact zx_zret hE rfl (by first | decide | exact bI_nar _) dM_filter_123 rfl (Nat.le_of_ble_eq_true rfl) ⟨by
          unfold filM
          rw [← hif]
          first
          | (rw [if_pos h62, decide_eq_true h72]; rfl)
          | (rw [if_pos h62, decide_eq_false h72]; rfl)
          | (rw [if_neg h62, if_pos h87, decide_eq_true (Int32.not_le.mp h97)]; rfl)
          | (rw [if_neg h62, if_pos h87, decide_eq_false (Int32.not_lt.mpr h97)]; rfl)
          | (rw [if_neg h62, if_neg h87, decide_eq_true (Int32.not_le.mp h115)]; rfl)
          | (rw [if_neg h62, if_neg h87, decide_eq_false (Int32.not_lt.mpr h115)]; rfl), rfl, rfl⟩
            · refine zx_iconst (v := nI 1) dM_filter_118 (by decide) ?_
              refine zx_goto (tgt := 123) dM_filter_119 rfl ?_
              exact zx_zret hE rfl (by first | decide | exact bI_nar _) dM_filter_123 rfl (Nat.le_of_ble_eq_true rfl) ⟨by
          unfold filM
          rw [← hif]
          first
          | (rw [if_pos h62, decide_eq_true h72]; rfl)
          | (rw [if_pos h62, decide_eq_false h72]; rfl)
          | (rw [if_neg h62, if_pos h87, decide_eq_true (Int32.not_le.mp h97)]; rfl)
          | (rw [if_neg h62, if_pos h87, decide_eq_false (Int32.not_lt.mpr h97)]; rfl)
          | (rw [if_neg h62, if_neg h87, decide_eq_true (Int32.not_le.mp h115)]; rfl)
          | (rw [if_neg h62, if_neg h87, decide_eq_false (Int32.not_lt.mpr h115)]; rfl), rfl, rfl⟩
          · refine zx_aload_n dM_filter_90 rfl ?_
            refine zx_get dM_filter_91 flM_16 (by assumption) (by assumption) ?_
            refine zx_iload_n dM_filter_94 rfl ?_
            refine zn_iald dM_filter_95 g_ti rfl (by omega) (by decide) (a_ti p hp) ?_
            refine zx_iload_n dM_filter_96 rfl ?_
            refine zx_icmp_ge (tgt := 104) dM_filter_97 rfl (fun h97 => ?_) (fun h97 => ?_)
            · refine zx_iconst (v := nI 0) dM_filter_104 (by decide) ?_
              refine zx_goto (tgt := 123) dM_filter_105 rfl ?_
              exact zx_zret hE rfl (by first | decide | exact bI_nar _) dM_filter_123 rfl (Nat.le_of_ble_eq_true rfl) ⟨by
          unfold filM
          rw [← hif]
          first
          | (rw [if_pos h62, decide_eq_true h72]; rfl)
          | (rw [if_pos h62, decide_eq_false h72]; rfl)
          | (rw [if_neg h62, if_pos h87, decide_eq_true (Int32.not_le.mp h97)]; rfl)
          | (rw [if_neg h62, if_pos h87, decide_eq_false (Int32.not_lt.mpr h97)]; rfl)
          | (rw [if_neg h62, if_neg h87, decide_eq_true (Int32.not_le.mp h115)]; rfl)
          | (rw [if_neg h62, if_neg h87, decide_eq_false (Int32.not_lt.mpr h115)]; rfl), rfl, rfl⟩
            · refine zx_iconst (v := nI 1) dM_filter_100 (by decide) ?_
              refine zx_goto (tgt := 123) dM_filter_101 rfl ?_
              exact zx_zret hE rfl (by first | decide | exact bI_nar _) dM_filter_123 rfl (Nat.le_of_ble_eq_true rfl) ⟨by
          unfold filM
          rw [← hif]
          first
          | (rw [if_pos h62, decide_eq_true h72]; rfl)
          | (rw [if_pos h62, decide_eq_false h72]; rfl)
          | (rw [if_neg h62, if_pos h87, decide_eq_true (Int32.not_le.mp h97)]; rfl)
          | (rw [if_neg h62, if_pos h87, decide_eq_false (Int32.not_lt.mpr h97)]; rfl)
          | (rw [if_neg h62, if_neg h87, decide_eq_true (Int32.not_le.mp h115)]; rfl)
          | (rw [if_neg h62, if_neg h87, decide_eq_false (Int32.not_lt.mpr h115)]; rfl), rfl, rfl⟩
        · refine zx_aload_n dM_filter_65 rfl ?_
          refine zx_get dM_filter_66 flM_13 (by assumption) (by assumption) ?_
          refine zx_iload_n dM_filter_69 rfl ?_
          refine zn_iald dM_filter_70 g_au rfl (by omega) (by decide) (a_au p hp) ?_
          refine zx_iload_n dM_filter_71 rfl ?_
          refine zx_icmp_ne (tgt := 79) dM_filter_72 rfl (fun h72 => ?_) (fun h72 => ?_)
          · refine zx_iconst (v := nI 0) dM_filter_79 (by decide) ?_
            refine zx_goto (tgt := 123) dM_filter_80 rfl ?_
            exact zx_zret hE rfl (by first | decide | exact bI_nar _) dM_filter_123 rfl (Nat.le_of_ble_eq_true rfl) ⟨by
          unfold filM
          rw [← hif]
          first
          | (rw [if_pos h62, decide_eq_true h72]; rfl)
          | (rw [if_pos h62, decide_eq_false h72]; rfl)
          | (rw [if_neg h62, if_pos h87, decide_eq_true (Int32.not_le.mp h97)]; rfl)
          | (rw [if_neg h62, if_pos h87, decide_eq_false (Int32.not_lt.mpr h97)]; rfl)
          | (rw [if_neg h62, if_neg h87, decide_eq_true (Int32.not_le.mp h115)]; rfl)
          | (rw [if_neg h62, if_neg h87, decide_eq_false (Int32.not_lt.mpr h115)]; rfl), rfl, rfl⟩
          · refine zx_iconst (v := nI 1) dM_filter_75 (by decide) ?_
            refine zx_goto (tgt := 123) dM_filter_76 rfl ?_
            exact zx_zret hE rfl (by first | decide | exact bI_nar _) dM_filter_123 rfl (Nat.le_of_ble_eq_true rfl) ⟨by
          unfold filM
          rw [← hif]
          first
          | (rw [if_pos h62, decide_eq_true h72]; rfl)
          | (rw [if_pos h62, decide_eq_false h72]; rfl)
          | (rw [if_neg h62, if_pos h87, decide_eq_true (Int32.not_le.mp h97)]; rfl)
          | (rw [if_neg h62, if_pos h87, decide_eq_false (Int32.not_lt.mpr h97)]; rfl)
          | (rw [if_neg h62, if_neg h87, decide_eq_true (Int32.not_le.mp h115)]; rfl)
          | (rw [if_neg h62, if_neg h87, decide_eq_false (Int32.not_lt.mpr h115)]; rfl), rfl, rfl⟩
      · refine zx_bipush (v := nI 10) dM_filter_25 (by decide) ?_
        refine zx_iload_n dM_filter_27 rfl ?_
        refine zn_imul dM_filter_28 ?_
        refine zx_aload_n dM_filter_29 rfl ?_
        refine zx_iload_n dM_filter_30 rfl ?_
        refine zx_iload dM_filter_31 rfl ?_
        have hdg := hdi (f + 1 + i) (by omega) (by omega)
        refine zc_V (n0 := n) (ce := 0) (kM_at G (d - 1) (by omega) hM (j := j) (k := f + 1 + i) hj hq hl (by omega)) (meM_at _) lkM_139 go rfl rfl hD (Nat.le_of_ble_eq_true rfl) rfl rfl (Nat.le_of_ble_eq_true rfl) (Nat.le_of_ble_eq_true rfl) (Nat.le_of_ble_eq_true rfl) dM_filter_33 ?_
        rw [if_pos (show f + 1 + i < xs.length by omega)]
        refine zn_iadd dM_filter_36 ?_
        refine zx_bipush (v := nI 48) dM_filter_37 (by decide) ?_
        refine zn_isub dM_filter_39 (by omega) ?_
        rw [show 10 * numV xs (f + 1) i + at0 xs (f + 1 + i) - 48 = numV xs (f + 1) (i + 1) by show _ = 10 * numV xs (f + 1) i + (at0 xs (f + 1 + i) - 48); omega]
        refine zx_istore_n dM_filter_40 (Nat.le_of_ble_eq_true rfl) rfl rfl ?_
        refine zn_iinc (c := 1) dM_filter_41 (Nat.le_of_ble_eq_true rfl) rfl rfl ?_
        refine zx_goto (tgt := 16) dM_filter_44 rfl ?_
        exact ih (i + 1) (by omega) (by omega)
  refine zx_iload_n dM_filter_0 rfl ?_
  refine zn_if_ge (tgt := 6) dM_filter_1 rfl (by omega) ?_
  refine zx_iconst (v := nI 0) dM_filter_6 (by decide) ?_
  refine zx_istore_n dM_filter_7 (Nat.le_of_ble_eq_true rfl) rfl rfl ?_
  refine zx_aload_n dM_filter_8 rfl ?_
  refine zx_get dM_filter_9 flM_142 (by assumption) (by assumption) ?_
  refine zx_iconst (v := nI 1) dM_filter_12 (by decide) ?_
  refine zn_iadd dM_filter_13 ?_
  refine zx_istore dM_filter_14 (Nat.le_of_ble_eq_true rfl) rfl rfl ?_
  exact loop _ 0 (Nat.lt_succ_self _) (by omega)

set_option maxHeartbeats 4000000 in
set_option maxRecDepth 100000 in
theorem kM_filterN (G : zG) (d : Nat) (hd : 0 ≤ d) {n : Nat} {sh : zSh} {row : zRw} {m : Nat} {A : Nat × (Nat → Nat)} {B : Nat × Nat × Nat × Nat} {P : (Nat → Int32) × (Nat → Int32) × (Nat → Bool) × (Nat → Nat) × (Nat → Nat)} {T : (Nat → Nat) × (Nat → Nat) × (Nat → Nat)} {S : (Nat → Nat) × (Nat → Bool)} {H : (Nat → Bool) × (Nat → Nat) × (Nat → Nat) × (Nat → Nat)} (hM : MA sh row m A B P T S H) {j : Nat} {v : Int32} (hv : v < 0) : zM G (fM_filter d) [.ref m, .int (nI j), .int v] n sh row (zP sh row (.int (bI false))) := by
  refine zM.of (by show plainName "PostIndexModel" = true; decide +kernel) (Nat.le_of_ble_eq_true rfl) (by intro v hv; simp at hv; rcases hv with rfl | rfl | rfl <;> rfl) ?_
  intro K hE
  show zX G K (fM_filter d) n 0 0 sh row 0 [.ref m, .int (nI j), .int v, .retAddr 0, .retAddr 0] []
  obtain ⟨⟨go, g_dr, g_au, g_ti, g_er, g_ln, g_tx, g_tk, g_fr, g_to, g_rw, g_pk, g_tn, g_bd, g_ql, g_qy, g_any, g_all, g_pa, g_mi, g_wf, g_wt⟩, ⟨p_dr, p_au, p_ti, p_er, p_ln, p_tx, p_tk, p_fr, p_to, p_rw, p_pk, p_tn, p_bd, p_ql, p_qy, p_any, p_all, p_pa, p_mi, p_wf, p_wt⟩, ⟨f_dl, f_md, f_pb, f_dn, f_sn⟩, a_dr, a_au, a_ti, a_er, a_ln, a_tx, a_tk, a_fr, a_to, a_rw, a_pk, a_tn, a_bd, a_ql, a_qy⟩ := id hM
  refine zx_iload_n dM_filter_0 rfl ?_
  refine zx_if_ge (tgt := 6) dM_filter_1 rfl (fun h1 => ?_) (fun h1 => ?_)
  · exact absurd h1 (Int32.not_le.mpr hv)
  · refine zx_iconst (v := nI 0) dM_filter_4 (by decide) ?_
    exact zx_zret hE rfl (by first | decide | exact bI_nar _) dM_filter_5 rfl (Nat.le_of_ble_eq_true rfl) ⟨rfl, rfl, rfl⟩

