set_option maxHeartbeats 4000000 in
/-- each side stands while the other's cells change -/
theorem MA.same {sh sh' : zSh} {row row' : zRw} {m : Nat} {A : Nat × (Nat → Nat)} {B : Nat × Nat × Nat × Nat} {P : (Nat → Int32) × (Nat → Int32) × (Nat → Bool) × (Nat → Nat) × (Nat → Nat)} {T : (Nat → Nat) × (Nat → Nat) × (Nat → Nat)} {S : (Nat → Nat) × (Nat → Bool)} {H : (Nat → Bool) × (Nat → Nat) × (Nat → Nat) × (Nat → Nat)} (hM : MA sh row m A B P T S H) (hs : same m 22 sh sh' row row') : MA sh' row' m A B P T S H := by
  obtain ⟨⟨go, g_dr, g_au, g_ti, g_er, g_ln, g_tx, g_tk, g_fr, g_to, g_rw, g_pk, g_tn, g_bd, g_ql, g_qy, g_any, g_all, g_pa, g_mi, g_wf, g_wt⟩, ⟨p_dr, p_au, p_ti, p_er, p_ln, p_tx, p_tk, p_fr, p_to, p_rw, p_pk, p_tn, p_bd, p_ql, p_qy, p_any, p_all, p_pa, p_mi, p_wf, p_wt⟩, ⟨f_dl, f_md, f_pb, f_dn, f_sn⟩, a_dr, a_au, a_ti, a_er, a_ln, a_tx, a_tk, a_fr, a_to, a_rw, a_pk, a_tn, a_bd, a_ql, a_qy⟩ := id hM
  have es : ∀ i, i < 22 → sh' (m + i) = sh (m + i) := fun i hi => (hs (m + i) (by omega) (by omega)).1
  have er : ∀ i, i < 22 → row' (m + i) = row (m + i) := fun i hi => (hs (m + i) (by omega) (by omega)).2
  have es0 : sh' m = sh m := es 0 (by omega)
  have er0 : row' m = row m := er 0 (by omega)
  refine ⟨⟨by rw [es0]; exact go, by rw [es 1 (by omega)]; exact g_dr, by rw [es 2 (by omega)]; exact g_au, by rw [es 3 (by omega)]; exact g_ti, by rw [es 4 (by omega)]; exact g_er, by rw [es 5 (by omega)]; exact g_ln, by rw [es 6 (by omega)]; exact g_tx, by rw [es 7 (by omega)]; exact g_tk, by rw [es 8 (by omega)]; exact g_fr, by rw [es 9 (by omega)]; exact g_to, by rw [es 10 (by omega)]; exact g_rw, by rw [es 11 (by omega)]; exact g_pk, by rw [es 12 (by omega)]; exact g_tn, by rw [es 13 (by omega)]; exact g_bd, by rw [es 14 (by omega)]; exact g_ql, by rw [es 15 (by omega)]; exact g_qy, by rw [es 16 (by omega)]; exact g_any, by rw [es 17 (by omega)]; exact g_all, by rw [es 18 (by omega)]; exact g_pa, by rw [es 19 (by omega)]; exact g_mi, by rw [es 20 (by omega)]; exact g_wf, by rw [es 21 (by omega)]; exact g_wt⟩, ⟨by rw [er0]; exact p_dr, by rw [er0]; exact p_au, by rw [er0]; exact p_ti, by rw [er0]; exact p_er, by rw [er0]; exact p_ln, by rw [er0]; exact p_tx, by rw [er0]; exact p_tk, by rw [er0]; exact p_fr, by rw [er0]; exact p_to, by rw [er0]; exact p_rw, by rw [er0]; exact p_pk, by rw [er0]; exact p_tn, by rw [er0]; exact p_bd, by rw [er0]; exact p_ql, by rw [er0]; exact p_qy, by rw [er0]; exact p_any, by rw [er0]; exact p_all, by rw [er0]; exact p_pa, by rw [er0]; exact p_mi, by rw [er0]; exact p_wf, by rw [er0]; exact p_wt⟩, ⟨by rw [er0]; exact f_dl, by rw [er0]; exact f_md, by rw [er0]; exact f_pb, by rw [er0]; exact f_dn, by rw [er0]; exact f_sn⟩, fun k hk => by rw [er 1 (by omega)]; exact a_dr k hk, fun k hk => by rw [er 2 (by omega)]; exact a_au k hk, fun k hk => by rw [er 3 (by omega)]; exact a_ti k hk, fun k hk => by rw [er 4 (by omega)]; exact a_er k hk, fun k hk => by rw [er 5 (by omega)]; exact a_ln k hk, fun k hk => by rw [er 6 (by omega)]; exact a_tx k hk, fun k hk => by rw [er 7 (by omega)]; exact a_tk k hk, fun k hk => by rw [er 8 (by omega)]; exact a_fr k hk, fun k hk => by rw [er 9 (by omega)]; exact a_to k hk, fun k hk => by rw [er 10 (by omega)]; exact a_rw k hk, fun k hk => by rw [er 11 (by omega)]; exact a_pk k hk, fun k hk => by rw [er 12 (by omega)]; exact a_tn k hk, fun k hk => by rw [er 13 (by omega)]; exact a_bd k hk, fun k hk => by rw [er 14 (by omega)]; exact a_ql k hk, fun k hk => by rw [er 15 (by omega)]; exact a_qy k hk⟩
set_option maxHeartbeats 4000000 in
theorem XA.same {sh sh' : zSh} {row row' : zRw} {x : Nat} {D : List Nat} {pf : PF} {sf : SF} {hf : HF} {c : CT} {qr : Nat} (h : XA sh row x D pf sf hf c qr) (hs : same x 796 sh sh' row row') : XA sh' row' x D pf sf hf c qr := by
  obtain ⟨⟨o1, o2⟩, hD, ⟨tk, ht⟩, hP, hS, ⟨e1, e2⟩, ⟨⟨⟨a, ys, ks, wds, p1, p2, p3⟩, p4, p5, p6, p7⟩, hq⟩, hJ⟩ := h
  have e0 := hs x (by omega) (by omega)
  have e5 := hs (x + 5) (by omega) (by omega)
  have e705 := hs (x + 705) (by omega) (by omega)
  have hqr : qr + 28 < x + 796 ∧ x ≤ qr := by unfold isQ at hq; omega
  refine ⟨⟨by rw [e0.1]; exact o1, by rw [e0.2]; exact o2⟩, hs.Txt hD (by omega) (by omega), ⟨tk, hs.Txt ht (by omega) (by omega)⟩, hP.same (hs.wide (by omega) (by omega)), hS.same (hs.wide (by omega) (by omega)), ⟨by rw [e705.1]; exact e1, fun j hj => ?_⟩, ⟨⟨⟨a, ys, ks, wds, by rw [e5.2]; exact p1, hs.Txt p2 (by omega) (by omega), hs.Qry p3 (by omega) (by omega)⟩, by rw [e5.1]; exact p4, by rw [e5.2]; exact p5, by rw [e5.2]; exact p6, p7⟩, hq⟩, hJ⟩
  obtain ⟨a1, a2, a3, a4, a5, a6, a7⟩ := e2 j hj
  have ej := hs (x + 706 + 30 * j) (by omega) (by omega)
  have hqj : (hf j).2.2.1 + 28 < x + 796 ∧ x ≤ (hf j).2.2.1 := by unfold isQ at a6; omega
  exact ⟨by rw [e705.2]; exact a1, by rw [ej.1]; exact a2, by rw [ej.2]; exact a3, by rw [ej.2]; exact a4, by rw [ej.2]; exact a5, a6, hs.Qry a7 (by omega) (by omega)⟩
theorem MA.oth {sh : zSh} {row row' : zRw} {lo hi : Nat} {m : Nat} {A : Nat × (Nat → Nat)} {B : Nat × Nat × Nat × Nat} {P : (Nat → Int32) × (Nat → Int32) × (Nat → Bool) × (Nat → Nat) × (Nat → Nat)} {T : (Nat → Nat) × (Nat → Nat) × (Nat → Nat)} {S : (Nat → Nat) × (Nat → Bool)} {H : (Nat → Bool) × (Nat → Nat) × (Nat → Nat) × (Nat → Nat)} (hM : MA sh row m A B P T S H) (hf : frI lo hi row row') (hn : m + 21 < lo ∨ hi < m) : MA sh row' m A B P T S H := hM.same (fun b h1 h2 => ⟨rfl, hf b (by omega)⟩)
theorem XA.oth {sh : zSh} {row row' : zRw} {lo hi : Nat} {x : Nat} {D : List Nat} {pf : PF} {sf : SF} {hf : HF} {c : CT} {qr : Nat} (h : XA sh row x D pf sf hf c qr) (hr : frI lo hi row row') (hn : x + 795 < lo ∨ hi < x) : XA sh row' x D pf sf hf c qr := h.same (fun b h1 h2 => ⟨rfl, hr b (by omega)⟩)
/-- both sides stand, in step -/
def JI (sh : zSh) (row : zRw) : Prop := ∃ (D : List Nat) (pf : PF) (sf : SF) (hf : HF) (c : CT) (qr : Nat) (A : Nat × (Nat → Nat)) (B : mB) (P : mP) (T : mT) (S : mS) (H : mH), XA sh row 1 D pf sf hf c qr ∧ MA sh row 797 A B P T S H ∧ rel D pf sf hf c A B P T S H
/-- the same call on both sides: it answers the same, and they are in step again -/
def op2 (G : zG) (fx fm : zF) (av : List Value) (n : Nat) (sh : zSh) (row : zRw) : Prop := ∃ Qx, zM G fx (.ref 1 :: av) n sh row Qx ∧ ∀ r sh1 r1, Qx r sh1 r1 → sh1 = sh ∧ ∃ (w : Int32) (Qm : Option Value → zSh → zRw → Prop), r = some (.int w) ∧ zM G fm (.ref 797 :: av) n sh r1 Qm ∧ ∀ r' sh2 r2, Qm r' sh2 r2 → sh2 = sh ∧ r' = some (.int w) ∧ JI sh r2
section OPS
variable {G : zG} {d n : Nat} {sh : zSh} {row : zRw}

theorem o_length (hJ : JI sh row) (hd : 35 ≤ d)  : op2 G (fX_length d) (fM_length d) [] n sh row := by
  obtain ⟨D, pf, sf, hf, c, qr, A, B, P, T, S, H, hX, hM, hR⟩ := id hJ
  have hdn := hR.dn
  have hsb := hR.sb.1
  obtain ⟨⟨hdA, hDo⟩, ⟨b1, b2, b3, b4⟩, ⟨c1, c2, c3, c4⟩, hO, hP, hS, hw, hg, hH⟩ := id hR
  refine ⟨_, kX_length G d (by omega) hX, ?_⟩
  rintro _ _ _ ⟨rfl, rfl, rfl⟩
  have hX1 := hX
  have hM1 := hM
  refine ⟨rfl, _, _, rfl, kM_length G d (by omega) hM1, ?_⟩
  rintro _ _ _ ⟨rfl, rfl, rfl⟩
  exact ⟨rfl, by rw [hdA.1], hJ⟩

theorem o_published (hJ : JI sh row) (hd : 35 ≤ d)  : op2 G (fX_published d) (fM_published d) [] n sh row := by
  obtain ⟨D, pf, sf, hf, c, qr, A, B, P, T, S, H, hX, hM, hR⟩ := id hJ
  have hdn := hR.dn
  have hsb := hR.sb.1
  obtain ⟨⟨hdA, hDo⟩, ⟨b1, b2, b3, b4⟩, ⟨c1, c2, c3, c4⟩, hO, hP, hS, hw, hg, hH⟩ := id hR
  refine ⟨_, kX_published G d (by omega) hX, ?_⟩
  rintro _ _ _ ⟨rfl, rfl, rfl⟩
  have hX1 := hX
  have hM1 := hM
  refine ⟨rfl, _, _, rfl, kM_published G d (by omega) hM1, ?_⟩
  rintro _ _ _ ⟨rfl, rfl, rfl⟩
  exact ⟨rfl, by rw [b2], hJ⟩

theorem o_quoteN (hJ : JI sh row) (hd : 35 ≤ d) {v : Int32} (hv : v < 0) : op2 G (fX_quote d) (fM_quote d) [.int v] n sh row := by
  obtain ⟨D, pf, sf, hf, c, qr, A, B, P, T, S, H, hX, hM, hR⟩ := id hJ
  have hdn := hR.dn
  have hsb := hR.sb.1
  obtain ⟨⟨hdA, hDo⟩, ⟨b1, b2, b3, b4⟩, ⟨c1, c2, c3, c4⟩, hO, hP, hS, hw, hg, hH⟩ := id hR
  refine ⟨_, kX_quoteN G d (by omega) hX hv, ?_⟩
  rintro _ _ _ ⟨rfl, rfl, rfl⟩
  have hX1 := hX
  have hM1 := hM
  refine ⟨rfl, _, _, rfl, kM_quoteN G d (by omega) hM1 hv, ?_⟩
  rintro _ _ _ ⟨rfl, rfl, rfl⟩
  exact ⟨rfl, rfl, hJ⟩

theorem o_eraseN (hJ : JI sh row) (hd : 35 ≤ d) {v : Int32} (hv : v < 0) : op2 G (fX_erase d) (fM_erase d) [.int v] n sh row := by
  obtain ⟨D, pf, sf, hf, c, qr, A, B, P, T, S, H, hX, hM, hR⟩ := id hJ
  have hdn := hR.dn
  have hsb := hR.sb.1
  obtain ⟨⟨hdA, hDo⟩, ⟨b1, b2, b3, b4⟩, ⟨c1, c2, c3, c4⟩, hO, hP, hS, hw, hg, hH⟩ := id hR
  refine ⟨_, kX_eraseN G d (by omega) hX hv, ?_⟩
  rintro _ _ _ ⟨rfl, rfl, rfl⟩
  have hX1 := hX
  have hM1 := hM
  refine ⟨rfl, _, _, rfl, kM_eraseN G d (by omega) hM1 hv, ?_⟩
  rintro _ _ _ ⟨rfl, rfl, rfl⟩
  exact ⟨rfl, rfl, hJ⟩

theorem o_nextN (hJ : JI sh row) (hd : 35 ≤ d) {v : Int32} (hv : v < 0) : op2 G (fX_next d) (fM_next d) [.int v] n sh row := by
  obtain ⟨D, pf, sf, hf, c, qr, A, B, P, T, S, H, hX, hM, hR⟩ := id hJ
  have hdn := hR.dn
  have hsb := hR.sb.1
  obtain ⟨⟨hdA, hDo⟩, ⟨b1, b2, b3, b4⟩, ⟨c1, c2, c3, c4⟩, hO, hP, hS, hw, hg, hH⟩ := id hR
  refine ⟨_, kX_nextN G d (by omega) hX hv, ?_⟩
  rintro _ _ _ ⟨rfl, rfl, rfl⟩
  have hX1 := hX
  have hM1 := hM
  refine ⟨rfl, _, _, rfl, kM_nextN G d (by omega) hM1 hv, ?_⟩
  rintro _ _ _ ⟨rfl, rfl, rfl⟩
  exact ⟨rfl, rfl, hJ⟩

theorem o_leftN (hJ : JI sh row) (hd : 35 ≤ d) {v : Int32} (hv : v < 0) : op2 G (fX_left d) (fM_left d) [.int v] n sh row := by
  obtain ⟨D, pf, sf, hf, c, qr, A, B, P, T, S, H, hX, hM, hR⟩ := id hJ
  have hdn := hR.dn
  have hsb := hR.sb.1
  obtain ⟨⟨hdA, hDo⟩, ⟨b1, b2, b3, b4⟩, ⟨c1, c2, c3, c4⟩, hO, hP, hS, hw, hg, hH⟩ := id hR
  refine ⟨_, kX_leftN G d (by omega) hX hv, ?_⟩
  rintro _ _ _ ⟨rfl, rfl, rfl⟩
  have hX1 := hX
  have hM1 := hM
  refine ⟨rfl, _, _, rfl, kM_leftN G d (by omega) hM1 hv, ?_⟩
  rintro _ _ _ ⟨rfl, rfl, rfl⟩
  exact ⟨rfl, rfl, hJ⟩

theorem o_closeN (hJ : JI sh row) (hd : 35 ≤ d) {v : Int32} (hv : v < 0) : op2 G (fX_close d) (fM_close d) [.int v] n sh row := by
  obtain ⟨D, pf, sf, hf, c, qr, A, B, P, T, S, H, hX, hM, hR⟩ := id hJ
  have hdn := hR.dn
  have hsb := hR.sb.1
  obtain ⟨⟨hdA, hDo⟩, ⟨b1, b2, b3, b4⟩, ⟨c1, c2, c3, c4⟩, hO, hP, hS, hw, hg, hH⟩ := id hR
  refine ⟨_, kX_closeN G d (by omega) hX hv, ?_⟩
  rintro _ _ _ ⟨rfl, rfl, rfl⟩
  have hX1 := hX
  have hM1 := hM
  refine ⟨rfl, _, _, rfl, kM_closeN G d (by omega) hM1 hv, ?_⟩
  rintro _ _ _ ⟨rfl, rfl, rfl⟩
  exact ⟨rfl, rfl, hJ⟩

theorem o_formN (hJ : JI sh row) (hd : 35 ≤ d) {v : Int32} (hv : v < 0) : op2 G (fX_form d) (fM_form d) [.int v] n sh row := by
  obtain ⟨D, pf, sf, hf, c, qr, A, B, P, T, S, H, hX, hM, hR⟩ := id hJ
  have hdn := hR.dn
  have hsb := hR.sb.1
  obtain ⟨⟨hdA, hDo⟩, ⟨b1, b2, b3, b4⟩, ⟨c1, c2, c3, c4⟩, hO, hP, hS, hw, hg, hH⟩ := id hR
  refine ⟨_, kX_formN G d (by omega) hX hv, ?_⟩
  rintro _ _ _ ⟨rfl, rfl, rfl⟩
  have hX1 := hX
  have hM1 := hM
  refine ⟨rfl, _, _, rfl, kM_formN G d (by omega) hM1 hv, ?_⟩
  rintro _ _ _ ⟨rfl, rfl, rfl⟩
  exact ⟨rfl, rfl, hJ⟩

theorem o_sizeN (hJ : JI sh row) (hd : 35 ≤ d) {v : Int32} (hv : v < 0) : op2 G (fX_size d) (fM_size d) [.int v] n sh row := by
  obtain ⟨D, pf, sf, hf, c, qr, A, B, P, T, S, H, hX, hM, hR⟩ := id hJ
  have hdn := hR.dn
  have hsb := hR.sb.1
  obtain ⟨⟨hdA, hDo⟩, ⟨b1, b2, b3, b4⟩, ⟨c1, c2, c3, c4⟩, hO, hP, hS, hw, hg, hH⟩ := id hR
  refine ⟨_, kX_sizeN G d (by omega) hX hv, ?_⟩
  rintro _ _ _ ⟨rfl, rfl, rfl⟩
  have hX1 := hX
  have hM1 := hM
  refine ⟨rfl, _, _, rfl, kM_sizeN G d (by omega) hM1 hv, ?_⟩
  rintro _ _ _ ⟨rfl, rfl, rfl⟩
  exact ⟨rfl, rfl, hJ⟩

theorem o_termsN (hJ : JI sh row) (hd : 35 ≤ d) {v : Int32} (hv : v < 0) : op2 G (fX_terms d) (fM_terms d) [.int v] n sh row := by
  obtain ⟨D, pf, sf, hf, c, qr, A, B, P, T, S, H, hX, hM, hR⟩ := id hJ
  have hdn := hR.dn
  have hsb := hR.sb.1
  obtain ⟨⟨hdA, hDo⟩, ⟨b1, b2, b3, b4⟩, ⟨c1, c2, c3, c4⟩, hO, hP, hS, hw, hg, hH⟩ := id hR
  refine ⟨_, kX_termsN G d (by omega) hX hv, ?_⟩
  rintro _ _ _ ⟨rfl, rfl, rfl⟩
  have hX1 := hX
  have hM1 := hM
  refine ⟨rfl, _, _, rfl, kM_termsN G d (by omega) hM1 hv, ?_⟩
  rintro _ _ _ ⟨rfl, rfl, rfl⟩
  exact ⟨rfl, rfl, hJ⟩

theorem o_postingsN (hJ : JI sh row) (hd : 35 ≤ d) {v : Int32} (hv : v < 0) : op2 G (fX_postings d) (fM_postings d) [.int v] n sh row := by
  obtain ⟨D, pf, sf, hf, c, qr, A, B, P, T, S, H, hX, hM, hR⟩ := id hJ
  have hdn := hR.dn
  have hsb := hR.sb.1
  obtain ⟨⟨hdA, hDo⟩, ⟨b1, b2, b3, b4⟩, ⟨c1, c2, c3, c4⟩, hO, hP, hS, hw, hg, hH⟩ := id hR
  refine ⟨_, kX_postingsN G d (by omega) hX hv, ?_⟩
  rintro _ _ _ ⟨rfl, rfl, rfl⟩
  have hX1 := hX
  have hM1 := hM
  refine ⟨rfl, _, _, rfl, kM_postingsN G d (by omega) hM1 hv, ?_⟩
  rintro _ _ _ ⟨rfl, rfl, rfl⟩
  exact ⟨rfl, rfl, hJ⟩

theorem o_form (hJ : JI sh row) (hd : 35 ≤ d) {j : Nat} (hj : j < 2147483648) : op2 G (fX_form d) (fM_form d) [.int (nI j)] n sh row := by
  obtain ⟨D, pf, sf, hf, c, qr, A, B, P, T, S, H, hX, hM, hR⟩ := id hJ
  have hdn := hR.dn
  have hsb := hR.sb.1
  obtain ⟨⟨hdA, hDo⟩, ⟨b1, b2, b3, b4⟩, ⟨c1, c2, c3, c4⟩, hO, hP, hS, hw, hg, hH⟩ := id hR
  refine ⟨_, kX_form G d (by omega) hX hj hsb (by omega), ?_⟩
  rintro _ _ _ ⟨rfl, rfl, rfl⟩
  have hX1 := hX
  have hM1 := hM
  refine ⟨rfl, _, _, rfl, kM_form G d (by omega) hM1 hj (fun g hg6 => by have := (hg g hg6).2.1; omega) (by omega) (by omega) hdn.2.1, ?_⟩
  rintro _ _ _ ⟨rfl, rfl, rfl⟩
  exact ⟨rfl, by rw [hR.form], hJ⟩

theorem o_terms (hJ : JI sh row) (hd : 35 ≤ d) {j : Nat} (hj : j < 2147483648) : op2 G (fX_terms d) (fM_terms d) [.int (nI j)] n sh row := by
  obtain ⟨D, pf, sf, hf, c, qr, A, B, P, T, S, H, hX, hM, hR⟩ := id hJ
  have hdn := hR.dn
  have hsb := hR.sb.1
  obtain ⟨⟨hdA, hDo⟩, ⟨b1, b2, b3, b4⟩, ⟨c1, c2, c3, c4⟩, hO, hP, hS, hw, hg, hH⟩ := id hR
  refine ⟨_, kX_terms G d (by omega) hX hj hsb, ?_⟩
  rintro _ _ _ ⟨rfl, rfl, rfl⟩
  have hX1 := hX
  have hM1 := hM
  refine ⟨rfl, _, _, rfl, kM_terms G d (by omega) hM1 hO hj (by omega) (by omega) hdn.2.1, ?_⟩
  rintro _ _ _ ⟨rfl, rfl, rfl⟩
  refine ⟨rfl, ?_, hJ⟩
  rw [hR.lives]
  by_cases hl : liveB c.2.2.1 j = true
  · have hj6 : j < 6 := by unfold liveB at hl; have := of_decide_eq_true hl; omega
    rw [if_pos hl, if_pos hl]
    rw [(hg j hj6).2.2, (terms_eq hS hdn.1 hj6)]
  · rw [if_neg hl, if_neg hl]

theorem o_postings (hJ : JI sh row) (hd : 35 ≤ d) {j : Nat} (hj : j < 2147483648) : op2 G (fX_postings d) (fM_postings d) [.int (nI j)] n sh row := by
  obtain ⟨D, pf, sf, hf, c, qr, A, B, P, T, S, H, hX, hM, hR⟩ := id hJ
  have hdn := hR.dn
  have hsb := hR.sb.1
  obtain ⟨⟨hdA, hDo⟩, ⟨b1, b2, b3, b4⟩, ⟨c1, c2, c3, c4⟩, hO, hP, hS, hw, hg, hH⟩ := id hR
  refine ⟨_, kX_postings G d (by omega) hX hj hsb, ?_⟩
  rintro _ _ _ ⟨rfl, rfl, rfl⟩
  have hX1 := hX
  have hM1 := hM
  refine ⟨rfl, _, _, rfl, kM_postings G d (by omega) hM1 hO hj (by omega) (by omega) hdn.2.1, ?_⟩
  rintro _ _ _ ⟨rfl, rfl, rfl⟩
  refine ⟨rfl, ?_, hJ⟩
  rw [hR.lives]
  by_cases hl : liveB c.2.2.1 j = true
  · have hj6 : j < 6 := by unfold liveB at hl; have := of_decide_eq_true hl; omega
    rw [if_pos hl, if_pos hl]
    rw [(hg j hj6).2.2, (postings_eq hS hdn.1 hj6)]
  · rw [if_neg hl, if_neg hl]

theorem o_size (hJ : JI sh row) (hd : 35 ≤ d) {j : Nat} (hj : j < 2147483648) : op2 G (fX_size d) (fM_size d) [.int (nI j)] n sh row := by
  obtain ⟨D, pf, sf, hf, c, qr, A, B, P, T, S, H, hX, hM, hR⟩ := id hJ
  have hdn := hR.dn
  have hsb := hR.sb.1
  obtain ⟨⟨hdA, hDo⟩, ⟨b1, b2, b3, b4⟩, ⟨c1, c2, c3, c4⟩, hO, hP, hS, hw, hg, hH⟩ := id hR
  refine ⟨_, kX_size G d (by omega) hX hj hsb, ?_⟩
  rintro _ _ _ ⟨rfl, rfl, rfl⟩
  have hX1 := hX
  have hM1 := hM
  refine ⟨rfl, _, _, rfl, kM_size G d (by omega) hM1 hO hj (by omega) (by omega) hdn.2.1, ?_⟩
  rintro _ _ _ ⟨rfl, rfl, rfl⟩
  refine ⟨rfl, ?_, hJ⟩
  rw [hR.lives]
  by_cases hl : liveB c.2.2.1 j = true
  · have hj6 : j < 6 := by unfold liveB at hl; have := of_decide_eq_true hl; omega
    rw [if_pos hl, if_pos hl]
    rw [(hg j hj6).2.2, (hg j hj6).1, (size_eq hS hdn.1 hj6)]
  · rw [if_neg hl, if_neg hl]

theorem o_type (hJ : JI sh row) (hd : 35 ≤ d) {k : Nat} (hk : k < 65536) : op2 G (fX_type d) (fM_type d) [.int (nI k)] n sh row := by
  obtain ⟨D, pf, sf, hf, c, qr, A, B, P, T, S, H, hX, hM, hR⟩ := id hJ
  have hdn := hR.dn
  have hsb := hR.sb.1
  obtain ⟨⟨hdA, hDo⟩, ⟨b1, b2, b3, b4⟩, ⟨c1, c2, c3, c4⟩, hO, hP, hS, hw, hg, hH⟩ := id hR
  refine ⟨_, kX_type G d (by omega) hX hk, ?_⟩
  rintro _ _ r1 ⟨vv, rfl, rfl, hv, hf1, hX1⟩
  have hM1 := hM.oth hf1 (Or.inr (by omega))
  refine ⟨rfl, _, _, congrArg some hv, kM_type G d (by omega) hM1 hk (by rw [hdA.1]; exact hDo.1), ?_⟩
  rintro _ _ r2 ⟨v2, rfl, rfl, hv2, hf2, hM2⟩
  have hX2 := hX1.oth hf2 (Or.inl (by omega))
  rw [hdA.1] at hv2
  refine ⟨rfl, congrArg some hv2, _, _, _, _, _, _, _, _, _, _, _, _, hX2, hM2, ?_⟩
  have := hR.type (k := k)
  rw [hdA.1]
  rw [hdA.1] at this
  exact this

theorem o_quote (hJ : JI sh row) (hd : 35 ≤ d) {j : Nat} (hj : j < 2147483648) : op2 G (fX_quote d) (fM_quote d) [.int (nI j)] n sh row := by
  obtain ⟨D, pf, sf, hf, c, qr, A, B, P, T, S, H, hX, hM, hR⟩ := id hJ
  have hdn := hR.dn
  have hsb := hR.sb.1
  obtain ⟨⟨hdA, hDo⟩, ⟨b1, b2, b3, b4⟩, ⟨c1, c2, c3, c4⟩, hO, hP, hS, hw, hg, hH⟩ := id hR
  have hst0 : standB pf c j = true → j < c.2.1 := fun hst => by unfold standB at hst; rw [Bool.and_eq_true] at hst; exact of_decide_eq_true hst.1
  obtain ⟨xs, hxs, hx, hxl⟩ : ∃ xs, (standB pf c j = true → xs = (pf j).2.2.1) ∧ (j < B.2.1 → txA P j xs) ∧ xs.length ≤ 24 := by
    by_cases h24 : j < 24
    · exact ⟨_, fun _ => rfl, fun _ => (hS j h24).1, (hP j h24).2.2.2.1⟩
    · exact ⟨[], fun h => absurd (hst0 h) (by omega), fun h => absurd h (by omega), Nat.zero_le _⟩
  refine ⟨_, kX_quote G d (by omega) hX hj hsb (by omega), ?_⟩
  rintro _ _ r1 ⟨v, rfl, rfl, hv, hf1, hX1⟩
  have hM1 := hM.oth hf1 (Or.inr (by omega))
  refine ⟨rfl, _, _, congrArg some hv, kM_quote G d (by omega) hM1 hj (xs := xs) hdA hDo.1 hx hxl (by omega) (by omega) hdn.2.1, ?_⟩
  rintro _ _ r2 ⟨v2, rfl, rfl, hv2, hf2, A2, hA2, hM2⟩
  have hX2 := hX1.oth hf2 (Or.inl (by omega))
  rw [hR.sho] at hv2 hA2
  by_cases hst : standB pf c j = true
  · have e := hxs hst
    subst e
    have hjp := hst0 hst
    refine ⟨rfl, congrArg some hv2, _, _, _, _, _, _, _, _, _, _, _, _, hX2, hM2, hR.draft hA2 ?_⟩
    rw [if_pos hst]
    exact hDo.quote (hP j (by omega)).2.2.2
  · rw [if_neg hst] at hv2 hA2
    rw [if_neg hst] at hX2
    refine ⟨rfl, ?_, _, _, _, _, _, _, _, _, _, _, _, _, hX2, hM2, hR.draft hA2 hDo⟩
    rw [hv2, if_neg hst]

theorem o_erase (hJ : JI sh row) (hd : 35 ≤ d) {j : Nat} (hj : j < 2147483648) : op2 G (fX_erase d) (fM_erase d) [.int (nI j)] n sh row := by
  obtain ⟨D, pf, sf, hf, c, qr, A, B, P, T, S, H, hX, hM, hR⟩ := id hJ
  have hdn := hR.dn
  have hsb := hR.sb.1
  obtain ⟨⟨hdA, hDo⟩, ⟨b1, b2, b3, b4⟩, ⟨c1, c2, c3, c4⟩, hO, hP, hS, hw, hg, hH⟩ := id hR
  refine ⟨_, kX_erase G d (by omega) hX hj hsb (by omega), ?_⟩
  rintro _ _ r1 ⟨vv, rfl, rfl, hv, hf1, hX1⟩
  have hM1 := hM.oth hf1 (Or.inr (by omega))
  refine ⟨rfl, _, _, congrArg some hv, kM_erase G d (by omega) hM1 hj (by omega) (by omega) (by omega), ?_⟩
  rintro _ _ r2 ⟨v2, rfl, rfl, hv2, hf2, hM2⟩
  have hX2 := hX1.oth hf2 (Or.inl (by omega))
  rw [hR.sho] at hv2 hM2
  refine ⟨rfl, congrArg some hv2, _, _, _, _, _, _, _, _, _, _, _, _, hX2, hM2, ?_⟩
  by_cases hst : standB pf c j = true
  · rw [if_pos hst, if_pos hst]; exact hR.erase hst
  · rw [if_neg hst, if_neg hst]; exact hR

theorem o_close (hJ : JI sh row) (hd : 35 ≤ d) {j : Nat} (hj : j < 2147483648) : op2 G (fX_close d) (fM_close d) [.int (nI j)] n sh row := by
  obtain ⟨D, pf, sf, hf, c, qr, A, B, P, T, S, H, hX, hM, hR⟩ := id hJ
  have hdn := hR.dn
  have hsb := hR.sb.1
  obtain ⟨⟨hdA, hDo⟩, ⟨b1, b2, b3, b4⟩, ⟨c1, c2, c3, c4⟩, hO, hP, hS, hw, hg, hH⟩ := id hR
  refine ⟨_, kX_close G d (by omega) hX hj, ?_⟩
  rintro _ _ r1 ⟨vv, rfl, rfl, hv, hf1, hX1⟩
  have hM1 := hM.oth hf1 (Or.inr (by omega))
  refine ⟨rfl, _, _, congrArg some hv, kM_close G d (by omega) hM1 hj, ?_⟩
  rintro _ _ r2 ⟨v2, rfl, rfl, hv2, hf2, hM2⟩
  have hX2 := hX1.oth hf2 (Or.inl (by omega))
  rw [hR.opn] at hv2 hM2
  refine ⟨rfl, congrArg some hv2, _, _, _, _, _, _, _, _, _, _, _, _, hX2, hM2, ?_⟩
  by_cases hst : opB hf j = true
  · rw [if_pos hst, if_pos hst]; exact hR.close
  · rw [if_neg hst, if_neg hst]; exact hR

theorem o_write (hJ : JI sh row) (hd : 35 ≤ d) {v : Int32} : op2 G (fX_write d) (fM_write d) [.int v] n sh row := by
  obtain ⟨D, pf, sf, hf, c, qr, A, B, P, T, S, H, hX, hM, hR⟩ := id hJ
  have hdn := hR.dn
  have hsb := hR.sb.1
  obtain ⟨⟨hdA, hDo⟩, ⟨b1, b2, b3, b4⟩, ⟨c1, c2, c3, c4⟩, hO, hP, hS, hw, hg, hH⟩ := id hR
  refine ⟨_, kX_write G d (by omega) hX (I := fun s => ∃ B2, rel D pf s.2 hf s.1 A B2 P T S H) ⟨B, hR⟩ ⟨fun s ⟨B2, h⟩ hlt => (h.unit hlt).1, fun s ⟨B2, h⟩ hlt => ⟨_, (h.unit hlt).2⟩, fun s ⟨B2, h⟩ => ⟨h.2.2.1.2.1, Nat.le_trans h.2.2.1.1 h.2.2.1.2.1⟩⟩, ?_⟩
  rintro _ _ r1 ⟨vv, rfl, rfl, hv, hf1, hX1⟩
  have hM1 := hM.oth hf1 (Or.inr (by omega))
  refine ⟨rfl, _, _, congrArg some hv, kM_write G d (by omega) hM1 hO (by omega) (by omega) hdn.2.1, ?_⟩
  rintro _ _ r2 ⟨v2, rfl, rfl, hv2, hf2, hM2⟩
  have hX2 := hX1.oth hf2 (Or.inl (by omega))
  obtain ⟨w1, w2⟩ := rel.write (unN v) sf c B hR
  rw [← w1] at hv2
  exact ⟨rfl, congrArg some hv2, _, _, _, _, _, _, _, _, _, _, _, _, hX2, hM2, w2⟩

theorem o_pack (hJ : JI sh row) (hd : 35 ≤ d) {v : Int32} : op2 G (fX_pack d) (fM_pack d) [.int v] n sh row := by
  obtain ⟨D, pf, sf, hf, c, qr, A, B, P, T, S, H, hX, hM, hR⟩ := id hJ
  have hdn := hR.dn
  have hsb := hR.sb.1
  obtain ⟨⟨hdA, hDo⟩, ⟨b1, b2, b3, b4⟩, ⟨c1, c2, c3, c4⟩, hO, hP, hS, hw, hg, hH⟩ := id hR
  refine ⟨_, kX_pack G d (by omega) hX hsb (by omega), ?_⟩
  rintro _ _ r1 ⟨vv, rfl, rfl, hv, hf1, hX1⟩
  have hM1 := hM.oth hf1 (Or.inr (by omega))
  refine ⟨rfl, _, _, congrArg some hv, kM_pack G d (by omega) hM1 hO (fun j hj6 => by have := (hg j hj6).2.1; omega) (by omega) (by omega) hdn.2.1, ?_⟩
  rintro _ _ r2 ⟨v2, rfl, rfl, hv2, hf2, hM2⟩
  have hX2 := hX1.oth hf2 (Or.inl (by omega))
  obtain ⟨w1, w2⟩ := rel.pack (unN v) sf S hR
  rw [← w1] at hv2
  exact ⟨rfl, congrArg some hv2, _, _, _, _, _, _, _, _, _, _, _, _, hX2, hM2, w2⟩

theorem o_left (hJ : JI sh row) (hd : 35 ≤ d) {j : Nat} (hj : j < 2147483648) : op2 G (fX_left d) (fM_left d) [.int (nI j)] n sh row := by
  obtain ⟨D, pf, sf, hf, c, qr, A, B, P, T, S, H, hX, hM, hR⟩ := id hJ
  have hdn := hR.dn
  have hsb := hR.sb.1
  obtain ⟨⟨hdA, hDo⟩, ⟨b1, b2, b3, b4⟩, ⟨c1, c2, c3, c4⟩, hO, hP, hS, hw, hg, hH⟩ := id hR
  have hq0 : ∃ Q, txO Q ∧ (opB hf j = true → j < 3 ∧ qyA H j Q ∧ H.2.1 j = (hf j).2.1 ∧ (hf j).2.1 ≤ 24 ∧ qOk (hf j).2.2.2.1 (hf j).2.2.2.2 ∧ ∀ p, hitM B P T Q p = hitB pf sf c (hf j).2.2.2.1 (hf j).2.2.2.2 p) := by
    by_cases ho : opB hf j = true
    · have ho2 := ho
      unfold opB at ho2
      rw [Bool.and_eq_true] at ho2
      have hj3 := of_decide_eq_true ho2.1
      obtain ⟨Q, q1, q2, q3, q4, q5, q6⟩ := hR.hit hj3 ho2.2
      exact ⟨Q, q2, fun _ => ⟨hj3, q1, q3, q4, q5, q6⟩⟩
    · exact ⟨[], txO_nil, fun g => absurd g ho⟩
  obtain ⟨Q, hQo, hQ⟩ := hq0
  refine ⟨_, kX_left G d (by omega) hX hj hsb (by omega) (fun g => ⟨(hQ g).2.2.2.2.1, (hQ g).2.2.2.1⟩), ?_⟩
  rintro _ _ _ ⟨rfl, rfl, rfl⟩
  have hX1 := hX
  have hM1 := hM
  refine ⟨rfl, _, _, rfl, kM_left G d (by omega) hM1 hO hj (xs := Q) (fun g => by rw [hR.opn] at g; obtain ⟨q0, q1, q2, q3, q4, q5⟩ := hQ g; exact ⟨q1, by omega⟩) hQo.1 hQo.hi (by omega) (by omega) hdn.2.1, ?_⟩
  rintro _ _ r2 ⟨v2, rfl, rfl, hv2, hf2, hM2⟩
  have hX2 := hX1.oth hf2 (Or.inl (by omega))
  refine ⟨rfl, congrArg some (hv2.trans ?_), _, _, _, _, _, _, _, _, _, _, _, _, hX2, hM2, hR⟩
  rw [hR.opn]
  by_cases ho : opB hf j = true
  · obtain ⟨q0, q1, q2, q3, q4, q5⟩ := hQ ho
    rw [if_pos ho, if_pos ho, q2, cnt_congr (fun i _ => q5 i)]
  · rw [if_neg ho, if_neg ho]

theorem o_next (hJ : JI sh row) (hd : 35 ≤ d) {j : Nat} (hj : j < 2147483648) : op2 G (fX_next d) (fM_next d) [.int (nI j)] n sh row := by
  obtain ⟨D, pf, sf, hf, c, qr, A, B, P, T, S, H, hX, hM, hR⟩ := id hJ
  have hdn := hR.dn
  have hsb := hR.sb.1
  obtain ⟨⟨hdA, hDo⟩, ⟨b1, b2, b3, b4⟩, ⟨c1, c2, c3, c4⟩, hO, hP, hS, hw, hg, hH⟩ := id hR
  have hq0 : ∃ Q, txO Q ∧ (opB hf j = true → j < 3 ∧ qyA H j Q ∧ H.2.1 j = (hf j).2.1 ∧ (hf j).2.1 ≤ 24 ∧ qOk (hf j).2.2.2.1 (hf j).2.2.2.2 ∧ ∀ p, hitM B P T Q p = hitB pf sf c (hf j).2.2.2.1 (hf j).2.2.2.2 p) := by
    by_cases ho : opB hf j = true
    · have ho2 := ho
      unfold opB at ho2
      rw [Bool.and_eq_true] at ho2
      have hj3 := of_decide_eq_true ho2.1
      obtain ⟨Q, q1, q2, q3, q4, q5, q6⟩ := hR.hit hj3 ho2.2
      exact ⟨Q, q2, fun _ => ⟨hj3, q1, q3, q4, q5, q6⟩⟩
    · exact ⟨[], txO_nil, fun g => absurd g ho⟩
  obtain ⟨Q, hQo, hQ⟩ := hq0
  refine ⟨_, kX_next G d (by omega) hX hj hsb (by omega) (fun g => ⟨(hQ g).2.2.2.2.1, (hQ g).2.2.2.1⟩), ?_⟩
  rintro _ _ r1 ⟨vv, rfl, rfl, hv, hf1, hX1⟩
  have hM1 := hM.oth hf1 (Or.inr (by omega))
  refine ⟨rfl, _, _, congrArg some hv, kM_next G d (by omega) hM1 hO hj (xs := Q) (fun g => by rw [hR.opn] at g; obtain ⟨q0, q1, q2, q3, q4, q5⟩ := hQ g; exact ⟨q1, by omega⟩) hQo.1 hQo.hi (by omega) (by omega) hdn.2.1, ?_⟩
  rintro _ _ r2 ⟨v2, rfl, rfl, hv2, hf2, hM2⟩
  have hX2 := hX1.oth hf2 (Or.inl (by omega))
  rw [hR.opn] at hv2 hM2
  by_cases ho : opB hf j = true
  · obtain ⟨q0, q1, q2, q3, q4, q5⟩ := hQ ho
    have e : nxt (hitM B P T Q) (H.2.1 j) = nxt (hitB pf sf c (hf j).2.2.2.1 (hf j).2.2.2.2) (hf j).2.1 := by rw [q2, nxt_ext q5]
    rw [if_pos ho, e] at hv2 hM2
    rw [if_pos ho] at hX2
    refine ⟨rfl, congrArg some (hv2.trans (by rw [if_pos ho])), _, _, _, _, _, _, _, _, _, _, _, _, hX2, hM2, ?_⟩
    cases hn : nxt (hitB pf sf c (hf j).2.2.2.1 (hf j).2.2.2.2) (hf j).2.1 with
    | none => exact hR
    | some k => exact hR.next (by have := nxt_lt hn; omega)
  · rw [if_neg ho] at hv2 hM2
    rw [if_neg ho] at hX2
    exact ⟨rfl, congrArg some (hv2.trans (by rw [if_neg ho])), _, _, _, _, _, _, _, _, _, _, _, _, hX2, hM2, hR⟩

theorem o_post (hJ : JI sh row) (hd : 35 ≤ d) {a t : Int32} : op2 G (fX_post d) (fM_post d) [.int a, .int t] n sh row := by
  obtain ⟨D, pf, sf, hf, c, qr, A, B, P, T, S, H, hX, hM, hR⟩ := id hJ
  have hdn := hR.dn
  have hsb := hR.sb.1
  obtain ⟨⟨hdA, hDo⟩, ⟨b1, b2, b3, b4⟩, ⟨c1, c2, c3, c4⟩, hO, hP, hS, hw, hg, hH⟩ := id hR
  have hok : okP a (B.1, B.2.1, 0, 0, 0, 0) ↔ okP a c := by unfold okP; show _ ∧ _ ∧ B.1 < 24 ∧ B.1 - B.2.1 < 4 ↔ _; rw [b1, b2]
  refine ⟨_, kX_post G d (by omega) hX (by omega) c1, ?_⟩
  rintro _ _ r1 ⟨v, rfl, rfl, hq⟩
  have hf1 : frI 1 (1 + 795) row r1 := by rcases hq with ⟨_, _, h, _⟩ | ⟨_, _, h, _⟩ <;> exact h
  have hM1 := hM.oth hf1 (Or.inr (by omega))
  have hv : ∃ w : Int32, v = .int w := by rcases hq with ⟨_, h, _⟩ | ⟨_, h, _⟩ <;> exact ⟨_, h⟩
  obtain ⟨w, rfl⟩ := hv
  refine ⟨rfl, w, _, rfl, kM_post G d (by omega) hM1 hdA hDo.1 hDo.hi hO.1 (by omega) (by omega), ?_⟩
  rintro _ _ r2 ⟨v2, rfl, rfl, hq2⟩
  rcases hq with ⟨k1, k2, _, hX1⟩ | ⟨k1, k2, _, hX1⟩
  · rcases hq2 with ⟨g1, g2, g3, P2, T2, g4, g5, hM2⟩ | ⟨g1, _⟩
    · have hX2 := hX1.oth g3 (Or.inl (by omega))
      refine ⟨rfl, ?_, _, _, _, _, _, _, _, _, _, _, _, _, hX2, hM2, hR.post k1.2.2.1 g4 g5⟩
      rw [g2, k2, b1]
    · exact absurd (hok.mpr k1) g1
  · rcases hq2 with ⟨g1, _⟩ | ⟨g1, g2, g3, hM2⟩
    · exact absurd (hok.mp g1) k1
    · have hX2 := hX1.oth g3 (Or.inl (by omega))
      refine ⟨rfl, ?_, _, _, _, _, _, _, _, _, _, _, _, _, hX2, hM2, hR⟩
      rw [g2, k2]

theorem o_search (hJ : JI sh row) (hd : 35 ≤ d) : op2 G (fX_search d) (fM_search d) [] n sh row := by
  obtain ⟨D, pf, sf, hf, c, qr, A, B, P, T, S, H, hX, hM, hR⟩ := id hJ
  have hdn := hR.dn
  have hsb := hR.sb.1
  obtain ⟨⟨hdA, hDo⟩, ⟨b1, b2, b3, b4⟩, ⟨c1, c2, c3, c4⟩, hO, hP, hS, hw, hg, hH⟩ := id hR
  have hj0 := jdg0_eq hDo
  have hfs : fst1 (fun j => !H.1 j) 3 0 = fst1 (fun j => !(hf j).1) 3 0 := fst1_ext 3 0 (fun j _ hj => by show (!H.1 j) = !(hf j).1; rw [(hH j (by omega)).1])
  refine ⟨_, kX_search G d (by omega) hX c3, ?_⟩
  rintro _ _ r1 ⟨v, rfl, rfl, hq⟩
  have hf1 : frI 1 (1 + 795) row r1 := by rcases hq with ⟨_, _, h, _⟩ | ⟨_, _, _, h, _⟩ | ⟨_, _, g, _, _, h, _⟩ <;> exact h
  have hM1 := hM.oth hf1 (Or.inr (by omega))
  have hv : ∃ w : Int32, v = .int w := by rcases hq with ⟨_, h, _⟩ | ⟨_, _, h, _⟩ | ⟨_, _, g, _, h, _⟩ <;> exact ⟨_, h⟩
  obtain ⟨w, rfl⟩ := hv
  refine ⟨rfl, w, _, rfl, kM_search G d (by omega) hM1 hdA hDo.1 hDo.hi (by omega) (by omega), ?_⟩
  rintro _ _ r2 ⟨v2, rfl, rfl, hq2⟩
  rcases hq with ⟨k1, k2, _, hX1⟩ | ⟨k1, k2, k3, _, hX1⟩ | ⟨k1, k2, g, k3, k4, _, hX1⟩
  · have hneg := hj0.mpr k1
    rcases hq2 with ⟨_, g2, g3, H2, g4, hM2⟩ | ⟨g1, _⟩ | ⟨g1, _⟩
    · have hX2 := hX1.oth g3 (Or.inl (by omega))
      refine ⟨rfl, ?_, _, _, _, _, _, _, _, _, _, _, _, _, hX2, hM2, hR.qry g4.1 g4.2.1 g4.2.2⟩
      rw [g2, k2]
    · exact absurd hneg g1
    · exact absurd hneg g1
  · have hneg : ¬ jdg0 D < 0 := fun h => by rw [hj0.mp h] at k1; cases k1
    rcases hq2 with ⟨g1, _⟩ | ⟨_, g1, g2, g3, H2, g4, hM2⟩ | ⟨_, g1, g, g2, _⟩
    · exact absurd g1 hneg
    · have hX2 := hX1.oth g3 (Or.inl (by omega))
      refine ⟨rfl, ?_, _, _, _, _, _, _, _, _, _, _, _, _, hX2, hM2, hR.qry g4.1 g4.2.1 g4.2.2⟩
      rw [g2, k3]
    · exfalso
      rcases k2 with k2 | k2
      · rw [hfs, k2] at g2; cases g2
      · omega
  · have hneg : ¬ jdg0 D < 0 := fun h => by rw [hj0.mp h] at k1; cases k1
    rcases hq2 with ⟨g1, _⟩ | ⟨_, g1, _⟩ | ⟨_, g1, g', g2, g3, g4, H2, e1, e2, e3, e4, hM2⟩
    · exact absurd g1 hneg
    · exfalso
      rcases g1 with g1 | g1
      · rw [hfs, k3] at g1; cases g1
      · omega
    · have hX2 := hX1.oth g4 (Or.inl (by omega))
      have eg : g' = g := by rw [hfs, k3] at g2; cases g2; rfl
      subst eg
      have hg3 := (fst1_some k3).2.1
      refine ⟨rfl, ?_, _, _, _, _, _, _, _, _, _, _, _, _, hX2, hM2, hR.begin (by omega) k1 k2 e1 e2 e3 e4⟩
      rw [g3, k4]

theorem o_clear (hJ : JI sh row) (hd : 35 ≤ d) : ∃ Qx, zM G (fX_clear d) [.ref 1] n sh row Qx ∧ ∀ r sh1 r1, Qx r sh1 r1 → sh1 = sh ∧ r = none ∧ ∃ Qm, zM G (fM_clear d) [.ref 797] n sh r1 Qm ∧ ∀ r' sh2 r2, Qm r' sh2 r2 → sh2 = sh ∧ r' = none ∧ JI sh r2 := by
  obtain ⟨D, pf, sf, hf, c, qr, A, B, P, T, S, H, hX, hM, hR⟩ := id hJ
  refine ⟨_, kX_clear G d (by omega) hX, ?_⟩
  rintro _ _ r1 ⟨rfl, rfl, hf1, hX1⟩
  have hM1 := hM.oth hf1 (Or.inr (by omega))
  refine ⟨rfl, rfl, _, kM_clear G d (by omega) hM1, ?_⟩
  rintro _ _ r2 ⟨rfl, rfl, hf2, hM2⟩
  exact ⟨rfl, rfl, _, _, _, _, _, _, _, _, _, _, _, _, hX1.oth hf2 (Or.inl (by omega)), hM2, hR.clear⟩

theorem o_quoteV (hJ : JI sh row) (hd : 35 ≤ d) {v : Int32} : op2 G (fX_quote d) (fM_quote d) [.int v] n sh row := by
  by_cases h : v < 0
  · exact o_quoteN hJ hd h
  · obtain ⟨j, hj, rfl⟩ := nI_m1 h
    exact o_quote hJ hd hj
theorem o_eraseV (hJ : JI sh row) (hd : 35 ≤ d) {v : Int32} : op2 G (fX_erase d) (fM_erase d) [.int v] n sh row := by
  by_cases h : v < 0
  · exact o_eraseN hJ hd h
  · obtain ⟨j, hj, rfl⟩ := nI_m1 h
    exact o_erase hJ hd hj
theorem o_nextV (hJ : JI sh row) (hd : 35 ≤ d) {v : Int32} : op2 G (fX_next d) (fM_next d) [.int v] n sh row := by
  by_cases h : v < 0
  · exact o_nextN hJ hd h
  · obtain ⟨j, hj, rfl⟩ := nI_m1 h
    exact o_next hJ hd hj
theorem o_leftV (hJ : JI sh row) (hd : 35 ≤ d) {v : Int32} : op2 G (fX_left d) (fM_left d) [.int v] n sh row := by
  by_cases h : v < 0
  · exact o_leftN hJ hd h
  · obtain ⟨j, hj, rfl⟩ := nI_m1 h
    exact o_left hJ hd hj
theorem o_closeV (hJ : JI sh row) (hd : 35 ≤ d) {v : Int32} : op2 G (fX_close d) (fM_close d) [.int v] n sh row := by
  by_cases h : v < 0
  · exact o_closeN hJ hd h
  · obtain ⟨j, hj, rfl⟩ := nI_m1 h
    exact o_close hJ hd hj
theorem o_formV (hJ : JI sh row) (hd : 35 ≤ d) {v : Int32} : op2 G (fX_form d) (fM_form d) [.int v] n sh row := by
  by_cases h : v < 0
  · exact o_formN hJ hd h
  · obtain ⟨j, hj, rfl⟩ := nI_m1 h
    exact o_form hJ hd hj
theorem o_sizeV (hJ : JI sh row) (hd : 35 ≤ d) {v : Int32} : op2 G (fX_size d) (fM_size d) [.int v] n sh row := by
  by_cases h : v < 0
  · exact o_sizeN hJ hd h
  · obtain ⟨j, hj, rfl⟩ := nI_m1 h
    exact o_size hJ hd hj
theorem o_termsV (hJ : JI sh row) (hd : 35 ≤ d) {v : Int32} : op2 G (fX_terms d) (fM_terms d) [.int v] n sh row := by
  by_cases h : v < 0
  · exact o_termsN hJ hd h
  · obtain ⟨j, hj, rfl⟩ := nI_m1 h
    exact o_terms hJ hd hj
theorem o_postingsV (hJ : JI sh row) (hd : 35 ≤ d) {v : Int32} : op2 G (fX_postings d) (fM_postings d) [.int v] n sh row := by
  by_cases h : v < 0
  · exact o_postingsN hJ hd h
  · obtain ⟨j, hj, rfl⟩ := nI_m1 h
    exact o_postings hJ hd hj
end OPS
