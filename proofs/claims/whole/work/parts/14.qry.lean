/-- a post at the cell p: its text at p + 1 -/
def PostA (sh : zSh) (row : zRw) (p : Nat) (au ti : Int32) (xs : List Nat) (er : Bool) : Prop := sh p = some (0, 0, 4) ∧ row p 0 = .ref (p + 1) ∧ row p 1 = .int au ∧ row p 2 = .int ti ∧ row p 3 = .int (bI er) ∧ Txt sh row (p + 1) xs
theorem PostA.keep {sh : zSh} {row row' : zRw} {p lo hi : Nat} {au ti : Int32} {xs : List Nat} {er : Bool} (h : PostA sh row p au ti xs er) (hf : frI lo hi row row') (hn : p + 2 < lo ∨ hi < p) : PostA sh row' p au ti xs er := by
  obtain ⟨h1, h2, h3, h4, h5, h6⟩ := h
  have e : row' p = row p := hf p (by omega)
  refine ⟨h1, ?_, ?_, ?_, ?_, h6.keepI hf (by omega)⟩ <;> (rw [e]; assumption)

set_option maxHeartbeats 4000000 in
set_option maxRecDepth 100000 in
theorem kP_fill (G : zG) (d : Nat) (hd : 3 ≤ d) {n : Nat} {sh : zSh} {row : zRw} {p : Nat} {au ti au2 ti2 : Int32} {xs : List Nat} {er : Bool} (hP : PostA sh row p au ti xs er) {o : Nat} {ys : List Nat} (hO : Txt sh row o ys) (ho : o + 1 < p ∨ p + 2 < o) : zM G (fP_fill d) [.ref p, .int au2, .int ti2, .ref o] n sh row (zpV sh (fun row' => frI p (p + 2) row row' ∧ PostA sh row' p au2 ti2 ys er)) := by
  refine zM.of (by show plainName "PostIndex$Post" = true; decide +kernel) (Nat.le_of_ble_eq_true rfl) (by intro v hv; simp at hv; rcases hv with rfl | rfl | rfl | rfl <;> rfl) ?_
  intro K hE
  show zX G K (fP_fill d) n 0 0 sh row 0 [.ref p, .int au2, .int ti2, .ref o] []
  have hD : d - 1 + 1 ≤ d := by omega
  obtain ⟨hs, hp0, hp1, hp2, hp3, hT⟩ := id hP
  refine zx_aload_n dP_fill_0 rfl ?_
  refine zx_iload_n dP_fill_1 rfl ?_
  refine zx_put dP_fill_2 flP_16 tpP_1 (by assumption) rfl rfl ?_
  refine zx_aload_n dP_fill_5 rfl ?_
  refine zx_iload_n dP_fill_6 rfl ?_
  refine zx_put dP_fill_7 flP_20 tpP_2 hs rfl rfl ?_
  have q0 : zup (zup row p 1 (.int au2)) p 2 (.int ti2) p 0 = .ref (p + 1) := by rw [zup_k (Or.inr (by decide)), zup_k (Or.inr (by decide))]; exact hp0
  have hT2 : Txt sh (zup (zup row p 1 (.int au2)) p 2 (.int ti2)) (p + 1) xs := hT.keep (by rw [zup_ne (by omega), zup_ne (by omega)]) (by rw [zup_ne (by omega), zup_ne (by omega)])
  refine zx_aload_n dP_fill_10 rfl ?_
  refine zx_get dP_fill_11 flP_10 (by assumption) (by assumption) ?_
  refine zc_Vv (kT_makeEmpty G (d - 1) (by omega) hT.1) (meT_makeEmpty _) lkP_23 hT.1 rfl rfl hD (Nat.le_of_ble_eq_true rfl) rfl rfl (Nat.le_of_ble_eq_true rfl) (Nat.le_of_ble_eq_true rfl) (Nat.le_of_ble_eq_true rfl) dP_fill_14 (fun r3 hr3 => ?_)
  have q1 : r3 p 0 = .ref (p + 1) := by rw [hr3, zup_ne (by omega)]; exact q0
  have hT3 : Txt sh r3 (p + 1) [] := by rw [hr3]; exact hT2.empty
  have hO3 : Txt sh r3 o ys := hO.keep (by rw [hr3, zup_ne (by omega), zup_ne (by omega), zup_ne (by omega)]) (by rw [hr3, zup_ne (by omega), zup_ne (by omega), zup_ne (by omega)])
  refine zx_aload_n dP_fill_17 rfl ?_
  refine zx_get dP_fill_18 flP_10 (by assumption) (by assumption) ?_
  refine zx_aload_n dP_fill_21 rfl ?_
  refine zc_Vr (kT_appendBeginning G (d - 1) (by omega) hT3 hO3) (meT_appendBeginning _) lkP_26 hT3.1 rfl rfl hD (Nat.le_of_ble_eq_true rfl) rfl rfl (Nat.le_of_ble_eq_true rfl) (Nat.le_of_ble_eq_true rfl) (Nat.le_of_ble_eq_true rfl) dP_fill_22 (fun v r4 h6 => ?_)
  obtain ⟨rfl, h7, h8⟩ := h6
  refine zx_pop dP_fill_25 rfl ?_
  exact zx_vret hE rfl dP_fill_26 rfl (Nat.le_of_ble_eq_true rfl) (by
      have hmin : min ys.length (24 - ([] : List Nat).length) = ys.length := by have := hO.2.2.2.2.1; simp; omega
      rw [hmin, List.take_length, List.nil_append] at h8
      have e : r4 p = r3 p := h7 p (by omega) (by omega)
      refine ⟨rfl, rfl, ?_, hs, ?_, ?_, ?_, ?_, h8⟩
      · exact (((frI_up (by omega) (by omega)).tr (frI_up (by omega) (by omega))).tr (hr3 ▸ frI_up (by omega) (by omega))).tr ((fr2.I h7).wide (by omega) (by omega))
      · rw [e, hr3, zup_ne (by omega), zup_k (Or.inr (by decide)), zup_k (Or.inr (by decide))]; exact hp0
      · rw [e, hr3, zup_ne (by omega), zup_k (Or.inr (by decide)), zup_same]
      · rw [e, hr3, zup_ne (by omega), zup_same]
      · rw [e, hr3, zup_ne (by omega), zup_k (Or.inr (by decide)), zup_k (Or.inr (by decide))]; exact hp3)

/-- a query at the cell q: kinds q + 1, numbers q + 2, wordEnds q + 3, words q + 4 -/
abbrev qStep : Type := Nat × Int32 × Nat
def QryA (sh : zSh) (row : zRw) (q : Nat) (ks : List qStep) (wds : List (List Nat)) : Prop :=
  (sh q = some (0, 1, 6) ∧ sh (q + 1) = some (1, 0, 48) ∧ sh (q + 2) = some (1, 0, 48) ∧ sh (q + 3) = some (1, 0, 48) ∧ sh (q + 4) = some (2, 3, 12)) ∧
  (row q 0 = .ref (q + 1) ∧ row q 1 = .ref (q + 2) ∧ row q 2 = .ref (q + 3) ∧ row q 3 = .int (nI ks.length) ∧ row q 4 = .ref (q + 4) ∧ row q 5 = .int (nI wds.length)) ∧
  (ks.length ≤ 48 ∧ wds.length ≤ 12) ∧
  (∀ i, i < 12 → row (q + 4) i = .ref (q + 5 + 2 * i)) ∧
  (∀ i, i < 12 → ∃ xs, Txt sh row (q + 5 + 2 * i) xs ∧ ∀ w, wds[i]? = some w → w = xs) ∧
  (∀ i k, ks[i]? = some k → row (q + 1) i = .int (nI k.1) ∧ row (q + 2) i = .int k.2.1 ∧ row (q + 3) i = .int (nI k.2.2))
theorem QryA.keep {sh : zSh} {row row' : zRw} {q lo hi : Nat} {ks : List qStep} {wds : List (List Nat)} (h : QryA sh row q ks wds) (hf : frI lo hi row row') (hn : q + 28 < lo ∨ hi < q) : QryA sh row' q ks wds := by
  obtain ⟨h1, h2, h3, h4, h5, h6⟩ := h
  have e0 : row' q = row q := hf _ (by omega)
  have e1 : row' (q + 1) = row (q + 1) := hf _ (by omega)
  have e2 : row' (q + 2) = row (q + 2) := hf _ (by omega)
  have e3 : row' (q + 3) = row (q + 3) := hf _ (by omega)
  have e4 : row' (q + 4) = row (q + 4) := hf _ (by omega)
  refine ⟨h1, by rw [e0]; exact h2, h3, by rw [e4]; exact h4, fun i hi => ?_, by rw [e1, e2, e3]; exact h6⟩
  obtain ⟨xs, a, b⟩ := h5 i hi
  exact ⟨xs, a.keepI hf (by omega), b⟩
theorem QryA.step {sh : zSh} {row : zRw} {q kd : Nat} {nu : Int32} {ks : List qStep} {wds : List (List Nat)} (h : QryA sh row q ks wds) (hl : ks.length < 48) : QryA sh (zup (zup (zup (zup row (q + 1) ks.length (.int (nI kd))) (q + 2) ks.length (.int nu)) (q + 3) ks.length (.int (nI wds.length))) q 3 (.int (nI (ks.length + 1)))) q (ks ++ [(kd, nu, wds.length)]) wds := by
  obtain ⟨h1, h2, h3, h4, h5, h6⟩ := h
  have hlen : (ks ++ [(kd, nu, wds.length)]).length = ks.length + 1 := by simp
  refine ⟨h1, ?_, by rw [hlen]; omega, ?_, fun i hi => ?_, fun i k hk => ?_⟩
  · rw [hlen]
    refine ⟨?_, ?_, ?_, zup_same _ _ _, ?_, ?_⟩ <;> rw [zup_k (Or.inr (by decide)), zup_ne (by omega), zup_ne (by omega), zup_ne (by omega)]
    · exact h2.1
    · exact h2.2.1
    · exact h2.2.2.1
    · exact h2.2.2.2.2.1
    · exact h2.2.2.2.2.2
  · rw [zup_ne (by omega), zup_ne (by omega), zup_ne (by omega), zup_ne (by omega)]; exact h4
  · obtain ⟨xs, a, b⟩ := h5 i hi
    exact ⟨xs, a.keep (by rw [zup_ne (by omega), zup_ne (by omega), zup_ne (by omega), zup_ne (by omega)]) (by rw [zup_ne (by omega), zup_ne (by omega), zup_ne (by omega), zup_ne (by omega)]), b⟩
  · rw [zup_ne (show q + 1 ≠ q by omega), zup_ne (show q + 1 ≠ q + 3 by omega), zup_ne (show q + 1 ≠ q + 2 by omega), zup_ne (show q + 2 ≠ q by omega), zup_ne (show q + 2 ≠ q + 3 by omega), zup_ne (show q + 3 ≠ q by omega)]
    by_cases hi : i = ks.length
    · subst hi
      rw [List.getElem?_append_right (Nat.le_refl _), Nat.sub_self] at hk
      cases hk
      exact ⟨zup_same _ _ _, zup_same _ _ _, zup_same _ _ _⟩
    · by_cases hl2 : i < ks.length
      · rw [List.getElem?_append_left hl2] at hk
        obtain ⟨a, b, c⟩ := h6 i k hk
        exact ⟨by rw [zup_k (Or.inr hi)]; exact a, by rw [zup_k (Or.inr hi), zup_ne (by omega)]; exact b, by rw [zup_k (Or.inr hi), zup_ne (by omega), zup_ne (by omega)]; exact c⟩
      · rw [List.getElem?_eq_none (by rw [hlen]; omega)] at hk
        cases hk
theorem QryA.word {sh : zSh} {row r3 : zRw} {q : Nat} {ks : List qStep} {wds : List (List Nat)} {w : List Nat} (h : QryA sh row q ks wds) (hl : wds.length < 12) (hr : fr2 (q + 5 + 2 * wds.length) row r3) (hT : Txt sh r3 (q + 5 + 2 * wds.length) w) : QryA sh (zup r3 q 5 (.int (nI (wds.length + 1)))) q ks (wds ++ [w]) := by
  obtain ⟨h1, h2, h3, h4, h5, h6⟩ := h
  have hlen : (wds ++ [w]).length = wds.length + 1 := by simp
  have e0 : r3 q = row q := hr _ (by omega) (by omega)
  have e1 : r3 (q + 1) = row (q + 1) := hr _ (by omega) (by omega)
  have e2 : r3 (q + 2) = row (q + 2) := hr _ (by omega) (by omega)
  have e3 : r3 (q + 3) = row (q + 3) := hr _ (by omega) (by omega)
  have e4 : r3 (q + 4) = row (q + 4) := hr _ (by omega) (by omega)
  refine ⟨h1, ?_, by rw [hlen]; omega, ?_, fun i hi => ?_, fun i k hk => ?_⟩
  · rw [hlen]
    refine ⟨?_, ?_, ?_, ?_, ?_, zup_same _ _ _⟩ <;> rw [zup_k (Or.inr (by decide)), e0]
    · exact h2.1
    · exact h2.2.1
    · exact h2.2.2.1
    · exact h2.2.2.2.1
    · exact h2.2.2.2.2.1
  · rw [zup_ne (by omega), e4]; exact h4
  · by_cases hj : i = wds.length
    · subst hj
      refine ⟨w, hT.keep (zup_ne (by omega)) (zup_ne (by omega)), fun p hp => ?_⟩
      rw [List.getElem?_append_right (Nat.le_refl _), Nat.sub_self] at hp
      cases hp
      rfl
    · obtain ⟨xs, a, c⟩ := h5 i hi
      refine ⟨xs, (a.keep (hr _ (by omega) (by omega)) (hr _ (by omega) (by omega))).keep (zup_ne (by omega)) (zup_ne (by omega)), fun p hp => ?_⟩
      by_cases hl2 : i < wds.length
      · rw [List.getElem?_append_left hl2] at hp
        exact c p hp
      · rw [List.getElem?_eq_none (by rw [hlen]; omega)] at hp
        cases hp
  · rw [zup_ne (show q + 1 ≠ q by omega), zup_ne (show q + 2 ≠ q by omega), zup_ne (show q + 3 ≠ q by omega), e1, e2, e3]
    exact h6 i k hk

set_option maxHeartbeats 4000000 in
set_option maxRecDepth 100000 in
theorem kQ_makeEmpty (G : zG) (d : Nat) (hd : 0 ≤ d) {n : Nat} {sh : zSh} {row : zRw} {q : Nat} {ks : List qStep} {wds : List (List Nat)} (hQ : QryA sh row q ks wds) : zM G (fQ_makeEmpty d) [.ref q] n sh row (zpV sh (fun row' => frI q q row row' ∧ QryA sh row' q [] [])) := by
  refine zM.of (by show plainName "PostIndex$Query" = true; decide +kernel) (Nat.le_of_ble_eq_true rfl) (by intro v hv; simp at hv; rcases hv with rfl <;> rfl) ?_
  intro K hE
  show zX G K (fQ_makeEmpty d) n 0 0 sh row 0 [.ref q] []
  obtain ⟨⟨hs0, hs1, hs2, hs3, hs4⟩, ⟨hp0, hp1, hp2, hp3, hp4, hp5⟩, ⟨hl1, hl2⟩, hrf, htx, hst⟩ := id hQ
  refine zx_aload_n dQ_makeEmpty_0 rfl ?_
  refine zx_iconst (v := nI 0) dQ_makeEmpty_1 (by decide) ?_
  refine zx_put dQ_makeEmpty_2 flQ_28 tpQ_3 (by assumption) rfl rfl ?_
  refine zx_aload_n dQ_makeEmpty_5 rfl ?_
  refine zx_iconst (v := nI 0) dQ_makeEmpty_6 (by decide) ?_
  refine zx_put dQ_makeEmpty_7 flQ_32 tpQ_5 (by assumption) rfl rfl ?_
  exact zx_vret hE rfl dQ_makeEmpty_10 rfl (Nat.le_of_ble_eq_true rfl) (by
    refine ⟨rfl, rfl, (frI_up (by omega) (by omega)).tr (frI_up (by omega) (by omega)), ⟨hs0, hs1, hs2, hs3, hs4⟩, ⟨?_, ?_, ?_, ?_, ?_, zup_same _ _ _⟩, ⟨by simp, by simp⟩, fun i hi => ?_, fun i hi => ?_, fun i k hk => by cases hk⟩
    · rw [zup_k (Or.inr (by decide)), zup_k (Or.inr (by decide))]; exact hp0
    · rw [zup_k (Or.inr (by decide)), zup_k (Or.inr (by decide))]; exact hp1
    · rw [zup_k (Or.inr (by decide)), zup_k (Or.inr (by decide))]; exact hp2
    · rw [zup_k (Or.inr (by decide)), zup_same]; rfl
    · rw [zup_k (Or.inr (by decide)), zup_k (Or.inr (by decide))]; exact hp4
    · rw [zup_ne (by omega), zup_ne (by omega)]; exact hrf i hi
    · obtain ⟨xs, a, c⟩ := htx i hi
      exact ⟨xs, a.keep (by rw [zup_ne (by omega), zup_ne (by omega)]) (by rw [zup_ne (by omega), zup_ne (by omega)]), fun w hw => by cases hw⟩)

set_option maxHeartbeats 4000000 in
set_option maxRecDepth 100000 in
theorem kQ_addStep (G : zG) (d : Nat) (hd : 0 ≤ d) {n : Nat} {sh : zSh} {row : zRw} {q : Nat} {ks : List qStep} {wds : List (List Nat)} (hQ : QryA sh row q ks wds) {kd : Nat} {nu : Int32} : zM G (fQ_addStep d) [.ref q, .int (nI kd), .int nu] n sh row (zpR sh (fun v row' => v = .int (bI (decide (ks.length < 48))) ∧ frI q (q + 28) row row' ∧ QryA sh row' q (if ks.length < 48 then ks ++ [(kd, nu, wds.length)] else ks) wds)) := by
  refine zM.of (by show plainName "PostIndex$Query" = true; decide +kernel) (Nat.le_of_ble_eq_true rfl) (by intro v hv; simp at hv; rcases hv with rfl | rfl | rfl <;> rfl) ?_
  intro K hE
  show zX G K (fQ_addStep d) n 0 0 sh row 0 [.ref q, .int (nI kd), .int nu] []
  obtain ⟨⟨hs0, hs1, hs2, hs3, hs4⟩, ⟨hp0, hp1, hp2, hp3, hp4, hp5⟩, ⟨hl1, hl2⟩, hrf, htx, hst⟩ := id hQ
  refine zx_aload_n dQ_addStep_0 rfl ?_
  refine zx_get dQ_addStep_1 flQ_28 (by assumption) (by assumption) ?_
  refine zx_bipush (v := nI 48) dQ_addStep_4 (by decide) ?_
  refine zn_icmp_lt (tgt := 11) dQ_addStep_6 rfl (by omega) (by omega) (fun h6 => ?_) (fun h6 => ?_)
  · refine zx_aload_n dQ_addStep_11 rfl ?_
    refine zx_get dQ_addStep_12 flQ_9 (by assumption) (by assumption) ?_
    refine zx_aload_n dQ_addStep_15 rfl ?_
    refine zx_get dQ_addStep_16 flQ_28 (by assumption) (by assumption) ?_
    refine zx_iload_n dQ_addStep_19 rfl ?_
    refine zn_iast dQ_addStep_20 hs1 rfl (by omega) (by decide) ?_
    have a1 : (zup row (q + 1) ks.length (.int (nI kd))) q 1 = .ref (q + 2) := by rw [zup_ne (by omega)]; exact hp1
    have a2 : (zup row (q + 1) ks.length (.int (nI kd))) q 2 = .ref (q + 3) := by rw [zup_ne (by omega)]; exact hp2
    have a3 : (zup row (q + 1) ks.length (.int (nI kd))) q 3 = .int (nI ks.length) := by rw [zup_ne (by omega)]; exact hp3
    have a5 : (zup row (q + 1) ks.length (.int (nI kd))) q 5 = .int (nI wds.length) := by rw [zup_ne (by omega)]; exact hp5
    refine zx_aload_n dQ_addStep_21 rfl ?_
    refine zx_get dQ_addStep_22 flQ_15 (by assumption) (by assumption) ?_
    refine zx_aload_n dQ_addStep_25 rfl ?_
    refine zx_get dQ_addStep_26 flQ_28 (by assumption) (by assumption) ?_
    refine zx_iload_n dQ_addStep_29 rfl ?_
    refine zn_iast dQ_addStep_30 hs2 rfl (by omega) (by decide) ?_
    have b1 : (zup (zup row (q + 1) ks.length (.int (nI kd))) (q + 2) ks.length (.int nu)) q 1 = .ref (q + 2) := by rw [zup_ne (by omega), zup_ne (by omega)]; exact hp1
    have b2 : (zup (zup row (q + 1) ks.length (.int (nI kd))) (q + 2) ks.length (.int nu)) q 2 = .ref (q + 3) := by rw [zup_ne (by omega), zup_ne (by omega)]; exact hp2
    have b3 : (zup (zup row (q + 1) ks.length (.int (nI kd))) (q + 2) ks.length (.int nu)) q 3 = .int (nI ks.length) := by rw [zup_ne (by omega), zup_ne (by omega)]; exact hp3
    have b5 : (zup (zup row (q + 1) ks.length (.int (nI kd))) (q + 2) ks.length (.int nu)) q 5 = .int (nI wds.length) := by rw [zup_ne (by omega), zup_ne (by omega)]; exact hp5
    refine zx_aload_n dQ_addStep_31 rfl ?_
    refine zx_get dQ_addStep_32 flQ_18 (by assumption) (by assumption) ?_
    refine zx_aload_n dQ_addStep_35 rfl ?_
    refine zx_get dQ_addStep_36 flQ_28 (by assumption) (by assumption) ?_
    refine zx_aload_n dQ_addStep_39 rfl ?_
    refine zx_get dQ_addStep_40 flQ_32 (by assumption) (by assumption) ?_
    refine zn_iast dQ_addStep_43 hs3 rfl (by omega) (by decide) ?_
    have c1 : (zup (zup (zup row (q + 1) ks.length (.int (nI kd))) (q + 2) ks.length (.int nu)) (q + 3) ks.length (.int (nI wds.length))) q 1 = .ref (q + 2) := by rw [zup_ne (by omega), zup_ne (by omega), zup_ne (by omega)]; exact hp1
    have c2 : (zup (zup (zup row (q + 1) ks.length (.int (nI kd))) (q + 2) ks.length (.int nu)) (q + 3) ks.length (.int (nI wds.length))) q 2 = .ref (q + 3) := by rw [zup_ne (by omega), zup_ne (by omega), zup_ne (by omega)]; exact hp2
    have c3 : (zup (zup (zup row (q + 1) ks.length (.int (nI kd))) (q + 2) ks.length (.int nu)) (q + 3) ks.length (.int (nI wds.length))) q 3 = .int (nI ks.length) := by rw [zup_ne (by omega), zup_ne (by omega), zup_ne (by omega)]; exact hp3
    have c5 : (zup (zup (zup row (q + 1) ks.length (.int (nI kd))) (q + 2) ks.length (.int nu)) (q + 3) ks.length (.int (nI wds.length))) q 5 = .int (nI wds.length) := by rw [zup_ne (by omega), zup_ne (by omega), zup_ne (by omega)]; exact hp5
    refine zx_aload_n dQ_addStep_44 rfl ?_
    refine zx_dup dQ_addStep_45 rfl ?_
    refine zx_get dQ_addStep_46 flQ_28 (by assumption) (by assumption) ?_
    refine zx_iconst (v := nI 1) dQ_addStep_49 (by decide) ?_
    refine zn_iadd dQ_addStep_50 ?_
    refine zx_put dQ_addStep_51 flQ_28 tpQ_3 (by assumption) rfl rfl ?_
    refine zx_iconst (v := nI 1) dQ_addStep_54 (by decide) ?_
    exact zx_zret hE rfl (by first | decide | exact bI_nar _) dQ_addStep_55 rfl (Nat.le_of_ble_eq_true rfl) (by first | exact ⟨_, rfl, rfl, by rw [decide_eq_true h6]; rfl, ((((frI_up (by omega) (by omega)).tr (frI_up (by omega) (by omega))).tr (frI_up (by omega) (by omega))).tr (frI_up (by omega) (by omega))), by rw [if_pos h6]; exact hQ.step h6⟩ | exact ⟨_, rfl, rfl, by rw [decide_eq_false h6]; rfl, frI.rf, by rw [if_neg h6]; exact hQ⟩)
  · refine zx_iconst (v := nI 0) dQ_addStep_9 (by decide) ?_
    exact zx_zret hE rfl (by first | decide | exact bI_nar _) dQ_addStep_10 rfl (Nat.le_of_ble_eq_true rfl) (by first | exact ⟨_, rfl, rfl, by rw [decide_eq_true h6]; rfl, ((((frI_up (by omega) (by omega)).tr (frI_up (by omega) (by omega))).tr (frI_up (by omega) (by omega))).tr (frI_up (by omega) (by omega))), by rw [if_pos h6]; exact hQ.step h6⟩ | exact ⟨_, rfl, rfl, by rw [decide_eq_false h6]; rfl, frI.rf, by rw [if_neg h6]; exact hQ⟩)

set_option maxHeartbeats 4000000 in
set_option maxRecDepth 100000 in
theorem kQ_addWordsStep (G : zG) (d : Nat) (hd : 1 ≤ d) {n : Nat} {sh : zSh} {row : zRw} {q : Nat} {ks : List qStep} {wds : List (List Nat)} (hQ : QryA sh row q ks wds) {nu : Int32} : zM G (fQ_addWordsStep d) [.ref q, .int nu] n sh row (zpR sh (fun v row' => v = .int (bI (decide (ks.length < 48))) ∧ frI q (q + 28) row row' ∧ QryA sh row' q (if ks.length < 48 then ks ++ [(0, nu, wds.length)] else ks) wds)) := by
  refine zM.of (by show plainName "PostIndex$Query" = true; decide +kernel) (Nat.le_of_ble_eq_true rfl) (by intro v hv; simp at hv; rcases hv with rfl | rfl <;> rfl) ?_
  intro K hE
  show zX G K (fQ_addWordsStep d) n 0 0 sh row 0 [.ref q, .int nu] []
  have hD : d - 1 + 1 ≤ d := by omega
  obtain ⟨⟨hs0, hs1, hs2, hs3, hs4⟩, ⟨hp0, hp1, hp2, hp3, hp4, hp5⟩, ⟨hl1, hl2⟩, hrf, htx, hst⟩ := id hQ
  refine zx_aload_n dQ_addWordsStep_0 rfl ?_
  refine zx_iconst (v := nI 0) dQ_addWordsStep_1 (by decide) ?_
  refine zx_iload_n dQ_addWordsStep_2 rfl ?_
  refine zc_Vr (kQ_addStep G (d - 1) (by omega) (kd := 0) hQ) (meQ_addStep _) lkQ_39 hs0 rfl rfl hD (Nat.le_of_ble_eq_true rfl) rfl rfl (Nat.le_of_ble_eq_true rfl) (Nat.le_of_ble_eq_true rfl) (Nat.le_of_ble_eq_true rfl) dQ_addWordsStep_3 (fun v r3 h7 => ?_)
  have hv := h7.1
  subst hv
  exact zx_zret hE rfl (by first | decide | exact bI_nar _) dQ_addWordsStep_6 rfl (Nat.le_of_ble_eq_true rfl) ⟨_, rfl, rfl, h7⟩

set_option maxHeartbeats 4000000 in
set_option maxRecDepth 100000 in
theorem kQ_addWord (G : zG) (d : Nat) (hd : 3 ≤ d) {n : Nat} {sh : zSh} {row : zRw} {q : Nat} {ks : List qStep} {wds : List (List Nat)} (hQ : QryA sh row q ks wds) {o fr to : Nat} {ys : List Nat} (hO : Txt sh row o ys) (ho : o + 1 < q ∨ q + 28 < o) (h1 : fr ≤ to) (h2 : to ≤ ys.length) : zM G (fQ_addWord d) [.ref q, .ref o, .int (nI fr), .int (nI to)] n sh row (zpR sh (fun v row' => v = .int (bI (decide (wds.length < 12))) ∧ frI q (q + 28) row row' ∧ QryA sh row' q ks (if wds.length < 12 then wds ++ [((ys.drop fr).take (to - fr)).map fold1] else wds))) := by
  refine zM.of (by show plainName "PostIndex$Query" = true; decide +kernel) (Nat.le_of_ble_eq_true rfl) (by intro v hv; simp at hv; rcases hv with rfl | rfl | rfl | rfl <;> rfl) ?_
  intro K hE
  show zX G K (fQ_addWord d) n 0 0 sh row 0 [.ref q, .ref o, .int (nI fr), .int (nI to)] []
  have hD : d - 1 + 1 ≤ d := by omega
  obtain ⟨⟨hs0, hs1, hs2, hs3, hs4⟩, ⟨hp0, hp1, hp2, hp3, hp4, hp5⟩, ⟨hl1, hl2⟩, hrf, htx, hst⟩ := id hQ
  refine zx_aload_n dQ_addWord_0 rfl ?_
  refine zx_get dQ_addWord_1 flQ_32 (by assumption) (by assumption) ?_
  refine zx_bipush (v := nI 12) dQ_addWord_4 (by decide) ?_
  refine zn_icmp_lt (tgt := 11) dQ_addWord_6 rfl (by omega) (by omega) (fun h6 => ?_) (fun h6 => ?_)
  · refine zx_aload_n dQ_addWord_11 rfl ?_
    refine zx_get dQ_addWord_12 flQ_23 (by assumption) (by assumption) ?_
    refine zx_aload_n dQ_addWord_15 rfl ?_
    refine zx_get dQ_addWord_16 flQ_32 (by assumption) (by assumption) ?_
    obtain ⟨xs, hx, hx2⟩ := htx wds.length (by omega)
    refine zn_aald dQ_addWord_19 hs4 rfl (by omega) (by decide) (hrf _ (by omega)) ?_
    refine zx_aload_n dQ_addWord_20 rfl ?_
    refine zx_iload_n dQ_addWord_21 rfl ?_
    refine zx_iload_n dQ_addWord_22 rfl ?_
    refine zc_Vv (kT_setFolded G (d - 1) (by omega) hx hO (by omega) h1 h2) (meT_setFolded _) lkQ_35 hx.1 rfl rfl hD (Nat.le_of_ble_eq_true rfl) rfl rfl (Nat.le_of_ble_eq_true rfl) (Nat.le_of_ble_eq_true rfl) (Nat.le_of_ble_eq_true rfl) dQ_addWord_23 (fun r3 h7 => ?_)
    obtain ⟨h8, h9⟩ := h7
    have hp5' : r3 q 5 = .int (nI wds.length) := by rw [h8 q (by omega) (by omega)]; exact hp5
    refine zx_aload_n dQ_addWord_26 rfl ?_
    refine zx_dup dQ_addWord_27 rfl ?_
    refine zx_get dQ_addWord_28 flQ_32 (by assumption) (by assumption) ?_
    refine zx_iconst (v := nI 1) dQ_addWord_31 (by decide) ?_
    refine zn_iadd dQ_addWord_32 ?_
    refine zx_put dQ_addWord_33 flQ_32 tpQ_5 (by assumption) rfl rfl ?_
    refine zx_iconst (v := nI 1) dQ_addWord_36 (by decide) ?_
    exact zx_zret hE rfl (by first | decide | exact bI_nar _) dQ_addWord_37 rfl (Nat.le_of_ble_eq_true rfl) (by first | exact ⟨_, rfl, rfl, by rw [decide_eq_true h6]; rfl, ((fr2.I h8).wide (by omega) (by omega)).tr (frI_up (by omega) (by omega)), by rw [if_pos h6]; exact hQ.word h6 h8 h9⟩ | exact ⟨_, rfl, rfl, by rw [decide_eq_false h6]; rfl, frI.rf, by rw [if_neg h6]; exact hQ⟩)
  · refine zx_iconst (v := nI 0) dQ_addWord_9 (by decide) ?_
    exact zx_zret hE rfl (by first | decide | exact bI_nar _) dQ_addWord_10 rfl (Nat.le_of_ble_eq_true rfl) (by first | exact ⟨_, rfl, rfl, by rw [decide_eq_true h6]; rfl, ((fr2.I h8).wide (by omega) (by omega)).tr (frI_up (by omega) (by omega)), by rw [if_pos h6]; exact hQ.word h6 h8 h9⟩ | exact ⟨_, rfl, rfl, by rw [decide_eq_false h6]; rfl, frI.rf, by rw [if_neg h6]; exact hQ⟩)

