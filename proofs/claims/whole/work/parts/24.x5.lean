set_option maxHeartbeats 4000000 in
set_option maxRecDepth 100000 in
theorem kX_left (G : zG) (d : Nat) (hd : 7 ≤ d) {n : Nat} {sh : zSh} {row : zRw} {x : Nat} {D : List Nat} {pf : PF} {sf : SF} {hf : HF} {c : CT} {qr : Nat} (hX : XA sh row x D pf sf hf c qr) {j : Nat} (hj : j < 2147483648) (hsb : c.2.2.1 ≤ 6) (hpb : c.2.1 ≤ 24) (hqs : opB hf j = true → qOk (hf j).2.2.2.1 (hf j).2.2.2.2 ∧ (hf j).2.1 ≤ 24) : zM G (fX_left d) [.ref x, .int (nI j)] n sh row (zP sh row (.int (if opB hf j = true then nI (cnt (hitB pf sf c (hf j).2.2.2.1 (hf j).2.2.2.2) (hf j).2.1) else -1))) := by
  refine zM.of (by show plainName "PostIndex" = true; decide +kernel) (Nat.le_of_ble_eq_true rfl) (by intro v hv; simp at hv; rcases hv with rfl | rfl <;> rfl) ?_
  intro K hE
  show zX G K (fX_left d) n 0 0 sh row 0 [.ref x, .int (nI j), .retAddr 0, .retAddr 0, .retAddr 0] []
  have hD : d - 1 + 1 ≤ d := by omega
  obtain ⟨hO, hD0, htk, hPs, hSg, hSe, hRd, hDj⟩ := id hX
  obtain ⟨ho, h_0, h_1, h_2, h_3, h_4, h_5, h_6, h_7, h_8, h_9, h_10, h_11⟩ := id hO
  refine zx_aload_n dX_left_0 rfl ?_
  refine zx_iload_n dX_left_1 rfl ?_
  refine zc_V (n0 := n) (ce := 0) (kX_isOpen G (d - 1) (by omega) hX hj) (meX_isOpen _) lkX_122 ho rfl rfl hD (Nat.le_of_ble_eq_true rfl) rfl rfl (Nat.le_of_ble_eq_true rfl) (Nat.le_of_ble_eq_true rfl) (Nat.le_of_ble_eq_true rfl) dX_left_2 ?_
  refine zb_if_ne (tgt := 10) dX_left_5 rfl (fun h5 => ?_) (fun h5 => ?_)
  · refine zx_aload_n dX_left_10 rfl ?_
    refine zx_get dX_left_11 flX_42 (by assumption) (by assumption) ?_
    refine zx_iload_n dX_left_14 rfl ?_
    have hj3 : j < 3 := by unfold opB at h5; simp at h5; omega
    obtain ⟨q1, q2, q3, q4, q5, q6, q7⟩ := hSe.2 j hj3
    obtain ⟨hq1, hq2⟩ := hqs h5
    refine zn_aald dX_left_15 hSe.1 rfl (by omega) (by decide) q1 ?_
    have loop : ∀ (k : Nat) (a i : Nat), (hf j).2.1 - i < k → i ≤ (hf j).2.1 → a = cnt (hitB pf sf c (hf j).2.2.2.1 (hf j).2.2.2.2) i → zX G K (fX_left d) n 0 0 sh row 22 [.ref x, .int (nI j), .ref (x + 706 + 30 * j), .int (nI a), .int (nI i)] [] := by
      intro k
      induction k with
      | zero => intro a i hk; exact absurd hk (Nat.not_lt_zero _)
      | succ k ih =>
        intro a i hk h3 h4
        have hcl := cnt_le (hitB pf sf c (hf j).2.2.2.1 (hf j).2.2.2.2) i
        refine zx_iload dX_left_22 rfl ?_
        refine zx_aload_n dX_left_24 rfl ?_
        refine zx_getN dX_left_25 flX_116 q2 q4 ?_
        refine zn_icmp_ge (tgt := 53) dX_left_28 rfl (by omega) (by omega) (fun h28 => ?_) (fun h28 => ?_)
        · refine zx_iload_n dX_left_53 rfl ?_
          exact zx_iret hE rfl dX_left_54 rfl (Nat.le_of_ble_eq_true rfl) ⟨by rw [if_pos h5, h4, show i = (hf j).2.1 by omega], rfl, rfl⟩
        · refine zx_aload_n dX_left_31 rfl ?_
          refine zx_aload_n dX_left_32 rfl ?_
          refine zx_getN dX_left_33 flX_108 q2 q3 ?_
          refine zx_iload dX_left_36 rfl ?_
          refine zc_V (n0 := n) (ce := 0) (kX_isHit G (d - 1) (by omega) hX q7 hq1 (by omega) hsb hpb) (meX_isHit _) lkX_125 ho rfl rfl hD (Nat.le_of_ble_eq_true rfl) rfl rfl (Nat.le_of_ble_eq_true rfl) (Nat.le_of_ble_eq_true rfl) (Nat.le_of_ble_eq_true rfl) dX_left_38 ?_
          refine zb_if_eq (tgt := 47) dX_left_41 rfl (fun h41 => ?_) (fun h41 => ?_)
          · refine zn_iinc (c := 1) dX_left_47 (Nat.le_of_ble_eq_true rfl) rfl rfl ?_
            refine zx_goto (tgt := 22) dX_left_50 rfl ?_
            refine ih _ (i + 1) (by omega) (by omega) ?_
            show _ = cnt _ i + (if (hitB pf sf c (hf j).2.2.2.1 (hf j).2.2.2.2) i = true then 1 else 0)
            first | rw [if_pos h41, h4] | rw [if_neg (by rw [h41]; decide), h4, Nat.add_zero]
          · refine zn_iinc (c := 1) dX_left_44 (Nat.le_of_ble_eq_true rfl) rfl rfl ?_
            refine zn_iinc (c := 1) dX_left_47 (Nat.le_of_ble_eq_true rfl) rfl rfl ?_
            refine zx_goto (tgt := 22) dX_left_50 rfl ?_
            refine ih _ (i + 1) (by omega) (by omega) ?_
            show _ = cnt _ i + (if (hitB pf sf c (hf j).2.2.2.1 (hf j).2.2.2.2) i = true then 1 else 0)
            first | rw [if_pos h41, h4] | rw [if_neg (by rw [h41]; decide), h4, Nat.add_zero]
    refine zx_astore_n dX_left_16 (Nat.le_of_ble_eq_true rfl) rfl rfl ?_
    refine zx_iconst (v := nI 0) dX_left_17 (by decide) ?_
    refine zx_istore_n dX_left_18 (Nat.le_of_ble_eq_true rfl) rfl rfl ?_
    refine zx_iconst (v := nI 0) dX_left_19 (by decide) ?_
    refine zx_istore dX_left_20 (Nat.le_of_ble_eq_true rfl) rfl rfl ?_
    exact loop _ 0 0 (Nat.lt_succ_self _) (Nat.zero_le _) rfl
  · refine zx_iconst (v := -1) dX_left_8 (by decide) ?_
    exact zx_iret hE rfl dX_left_9 rfl (Nat.le_of_ble_eq_true rfl) ⟨by rw [if_neg (by rw [h5]; decide)], rfl, rfl⟩

theorem oI_s (m : Nat) : oI (some m) = nI m := rfl

def nxH (hf : HF) (j : Nat) (o : Option Nat) : HF := match o with
  | some m => va_up hf j ((hf j).1, m, (hf j).2.2)
  | none => hf

set_option maxHeartbeats 4000000 in
set_option maxRecDepth 100000 in
theorem kX_next (G : zG) (d : Nat) (hd : 7 ≤ d) {n : Nat} {sh : zSh} {row : zRw} {x : Nat} {D : List Nat} {pf : PF} {sf : SF} {hf : HF} {c : CT} {qr : Nat} (hX : XA sh row x D pf sf hf c qr) {j : Nat} (hj : j < 2147483648) (hsb : c.2.2.1 ≤ 6) (hpb : c.2.1 ≤ 24) (hqs : opB hf j = true → qOk (hf j).2.2.2.1 (hf j).2.2.2.2 ∧ (hf j).2.1 ≤ 24) : zM G (fX_next d) [.ref x, .int (nI j)] n sh row (zpR sh (fun v row' => v = .int (if opB hf j = true then oI (nxt (hitB pf sf c (hf j).2.2.2.1 (hf j).2.2.2.2) (hf j).2.1) else -1) ∧ frI x (x + 795) row row' ∧ XA sh row' x D pf sf (if opB hf j = true then nxH hf j (nxt (hitB pf sf c (hf j).2.2.2.1 (hf j).2.2.2.2) (hf j).2.1) else hf) c qr)) := by
  refine zM.of (by show plainName "PostIndex" = true; decide +kernel) (Nat.le_of_ble_eq_true rfl) (by intro v hv; simp at hv; rcases hv with rfl | rfl <;> rfl) ?_
  intro K hE
  show zX G K (fX_next d) n 0 0 sh row 0 [.ref x, .int (nI j), .retAddr 0, .retAddr 0] []
  have hD : d - 1 + 1 ≤ d := by omega
  obtain ⟨hO, hD0, htk, hPs, hSg, hSe, hRd, hDj⟩ := id hX
  obtain ⟨ho, h_0, h_1, h_2, h_3, h_4, h_5, h_6, h_7, h_8, h_9, h_10, h_11⟩ := id hO
  refine zx_aload_n dX_next_0 rfl ?_
  refine zx_iload_n dX_next_1 rfl ?_
  refine zc_V (n0 := n) (ce := 0) (kX_isOpen G (d - 1) (by omega) hX hj) (meX_isOpen _) lkX_122 ho rfl rfl hD (Nat.le_of_ble_eq_true rfl) rfl rfl (Nat.le_of_ble_eq_true rfl) (Nat.le_of_ble_eq_true rfl) (Nat.le_of_ble_eq_true rfl) dX_next_2 ?_
  refine zb_if_ne (tgt := 10) dX_next_5 rfl (fun h5 => ?_) (fun h5 => ?_)
  · refine zx_aload_n dX_next_10 rfl ?_
    refine zx_get dX_next_11 flX_42 (by assumption) (by assumption) ?_
    refine zx_iload_n dX_next_14 rfl ?_
    have hj3 : j < 3 := by unfold opB at h5; simp at h5; omega
    obtain ⟨q1, q2, q3, q4, q5, q6, q7⟩ := hSe.2 j hj3
    obtain ⟨hq1, hq2⟩ := hqs h5
    refine zn_aald dX_next_15 hSe.1 rfl (by omega) (by decide) q1 ?_
    have loop : ∀ (k m : Nat), m < k → m ≤ 24 → nxt (hitB pf sf c (hf j).2.2.2.1 (hf j).2.2.2.2) m = nxt (hitB pf sf c (hf j).2.2.2.1 (hf j).2.2.2.2) (hf j).2.1 → zX G K (fX_next d) n 0 0 sh row 24 [.ref x, .int (nI j), .ref (x + 706 + 30 * j), .int (dI m)] [] := by
      intro k
      induction k with
      | zero => intro m hk; exact absurd hk (Nat.not_lt_zero _)
      | succ k ih =>
        intro m hk h3 h4
        cases m with
        | zero =>
          refine zx_iload_n dX_next_24 rfl ?_
          refine zx_if_lt (tgt := 53) dX_next_25 rfl (fun _ => ?_) (fun h => absurd (by decide) h)
          refine zx_iconst (v := -1) dX_next_53 (by decide) ?_
          exact zx_iret hE rfl dX_next_54 rfl (Nat.le_of_ble_eq_true rfl) (by refine ⟨_, rfl, rfl, ?_, frI.rf, ?_⟩ <;> (rw [if_pos h5, ← h4]; first | rfl | exact hX))
        | succ m =>
          rw [dI_s]
          refine zx_iload_n dX_next_24 rfl ?_
          refine zn_if_lt (tgt := 53) dX_next_25 rfl (by omega) ?_
          refine zx_aload_n dX_next_28 rfl ?_
          refine zx_aload_n dX_next_29 rfl ?_
          refine zx_getN dX_next_30 flX_108 q2 q3 ?_
          refine zx_iload_n dX_next_33 rfl ?_
          refine zc_V (n0 := n) (ce := 0) (kX_isHit G (d - 1) (by omega) hX q7 hq1 (by omega) hsb hpb) (meX_isHit _) lkX_125 ho rfl rfl hD (Nat.le_of_ble_eq_true rfl) rfl rfl (Nat.le_of_ble_eq_true rfl) (Nat.le_of_ble_eq_true rfl) (Nat.le_of_ble_eq_true rfl) dX_next_34 ?_
          refine zb_if_eq (tgt := 47) dX_next_37 rfl (fun h37 => ?_) (fun h37 => ?_)
          · refine zx_iinc (v := dI m) dX_next_47 (Nat.le_of_ble_eq_true rfl) rfl rfl rfl rfl ?_
            refine zx_goto (tgt := 24) dX_next_50 rfl ?_
            exact ih m (by omega) (by omega) (by rw [← h4, nxt_f h37])
          · refine zx_aload_n dX_next_40 rfl ?_
            refine zx_iload_n dX_next_41 rfl ?_
            refine zx_putN dX_next_42 flX_116 tpH_1 q2 rfl rfl ?_
            refine zx_iload_n dX_next_45 rfl ?_
            exact zx_iret hE rfl dX_next_46 rfl (Nat.le_of_ble_eq_true rfl) (by rw [nxt_t h37] at h4; refine ⟨_, rfl, rfl, ?_, frI_up (by omega) (by omega), ?_⟩; (rw [if_pos h5, ← h4]; rfl); (rw [if_pos h5, ← h4]; exact hX.seaU hj3 (frI_up (by omega) (by omega)) (by rw [zup_k (Or.inr (by decide))]; exact q3) (zup_same _ _ _) (by rw [zup_k (Or.inr (by decide))]; exact q5)))
    refine zx_astore_n dX_next_16 (Nat.le_of_ble_eq_true rfl) rfl rfl ?_
    refine zx_aload_n dX_next_17 rfl ?_
    refine zx_getN dX_next_18 flX_116 q2 q4 ?_
    refine zx_iconst (v := nI 1) dX_next_21 (by decide) ?_
    refine zx_isub dX_next_22 ?_
    rw [dI_sub]
    refine zx_istore_n dX_next_23 (Nat.le_of_ble_eq_true rfl) rfl rfl ?_
    exact loop _ (hf j).2.1 (Nat.lt_succ_self _) hq2 rfl
  · refine zx_iconst (v := -1) dX_next_8 (by decide) ?_
    exact zx_iret hE rfl dX_next_9 rfl (Nat.le_of_ble_eq_true rfl) (by refine ⟨_, rfl, rfl, ?_, frI.rf, ?_⟩ <;> rw [if_neg (by rw [h5]; decide)]; exact hX)

theorem isQ.dj {x p q : Nat} (hp : isQ x p) (hq : isQ x q) (h : p ≠ q) : p + 28 < q ∨ q + 28 < p := by
  rcases hp with e | e | e | e <;> rcases hq with f | f | f | f <;> omega
theorem XA.rd {sh : zSh} {row row' : zRw} {x : Nat} {D : List Nat} {pf : PF} {sf : SF} {hf : HF} {c : CT} {qr : Nat} (h : XA sh row x D pf sf hf c qr) (hr : frQ (x + 5) qr row row') (hR : RdI sh row' (x + 5) qr) : XA sh row' x D pf sf hf c qr := by
  obtain ⟨hO, hD0, ⟨tk, htk⟩, hPs, hSg, hSe, hRd, hDj⟩ := h
  have hqr := hRd.2.rng
  have kT : ∀ {t : Nat} {xs : List Nat}, Txt sh row t xs → (x + 7 < t ∨ t + 1 < x + 5) → (t + 1 < qr ∨ qr + 28 < t) → Txt sh row' t xs := fun a b e => a.keep (hr _ (by omega) (by omega)) (hr _ (by omega) (by omega))
  have kI : ∀ (lo hi : Nat), x + 37 ≤ lo → hi ≤ x + 704 → frI lo hi row' row' := fun _ _ _ _ => frI.rf
  refine ⟨hO.keep (hr x (by omega) (by omega)), kT hD0 (by omega) (by omega), ⟨tk, kT htk (by omega) (by omega)⟩, ⟨hPs.1, fun i hi => ?_⟩, ⟨hSg.1, fun g hg => ?_⟩, ⟨hSe.1, fun j hj => ?_⟩, ⟨hR, hRd.2⟩, hDj⟩
  · obtain ⟨a, b1, b2, b3, b4, b5, b6⟩ := hPs.2 i hi
    have e1 : row' (x + 38 + 3 * i) = row (x + 38 + 3 * i) := hr _ (by omega) (by omega)
    exact ⟨by rw [hr (x + 37) (by omega) (by omega)]; exact a, b1, by rw [e1]; exact b2, by rw [e1]; exact b3, by rw [e1]; exact b4, by rw [e1]; exact b5, kT b6 (by omega) (by omega)⟩
  · obtain ⟨a, b1, b2, b3, b4, b5, b6⟩ := hSg.2 g hg
    have e0 : row' (x + 111 + 99 * g) = row (x + 111 + 99 * g) := hr _ (by omega) (by omega)
    have e1 : row' (x + 111 + 99 * g + 1) = row (x + 111 + 99 * g + 1) := hr _ (by omega) (by omega)
    have e2 : row' (x + 111 + 99 * g + 2) = row (x + 111 + 99 * g + 2) := hr _ (by omega) (by omega)
    refine ⟨by rw [hr (x + 110) (by omega) (by omega)]; exact a, b1, by rw [e0]; exact b2, b3, by rw [e2]; exact b4, fun i hi => ?_, by rw [e1]; exact b6⟩
    obtain ⟨xs, u, w⟩ := b5 i hi
    exact ⟨xs, kT u (by omega) (by omega), w⟩
  · obtain ⟨a, b, e, f, g, q, k⟩ := hSe.2 j hj
    have e1 : row' (x + 706 + 30 * j) = row (x + 706 + 30 * j) := hr _ (by omega) (by rcases hRd.2 with z | z | z | z <;> omega)
    have hd := q.dj hRd.2 (hDj.1 j hj)
    have hq := q.rng
    refine ⟨by rw [hr (x + 705) (by omega) (by rcases hRd.2 with z | z | z | z <;> omega)]; exact a, b, by rw [e1]; exact e, by rw [e1]; exact f, by rw [e1]; exact g, q, ?_⟩
    obtain ⟨k1, k2, k3, k4, k5, k6⟩ := k
    have z0 : row' (hf j).2.2.1 = row (hf j).2.2.1 := hr _ (by omega) (by omega)
    have z1 : row' ((hf j).2.2.1 + 1) = row ((hf j).2.2.1 + 1) := hr _ (by omega) (by omega)
    have z2 : row' ((hf j).2.2.1 + 2) = row ((hf j).2.2.1 + 2) := hr _ (by omega) (by omega)
    have z3 : row' ((hf j).2.2.1 + 3) = row ((hf j).2.2.1 + 3) := hr _ (by omega) (by omega)
    have z4 : row' ((hf j).2.2.1 + 4) = row ((hf j).2.2.1 + 4) := hr _ (by omega) (by omega)
    refine ⟨k1, by rw [z0]; exact k2, k3, by rw [z4]; exact k4, fun i hi => ?_, by rw [z1, z2, z3]; exact k6⟩
    obtain ⟨xs, u, w⟩ := k5 i hi
    exact ⟨xs, kT u (by omega) (by omega), w⟩
/-- the reader's query goes to a search, the search's to the reader -/
def swp (row : zRw) (x j qr q bd : Nat) : zRw := zup (zup (zup (zup row (x + 5) 1 (.ref q)) (x + 706 + 30 * j) 0 (.ref qr)) (x + 706 + 30 * j) 1 (.int (nI bd))) (x + 706 + 30 * j) 2 (.int (nI 1))
theorem XA.swap {sh : zSh} {row : zRw} {x j bd : Nat} {D : List Nat} {pf : PF} {sf : SF} {hf : HF} {c : CT} {qr : Nat} {ks : List qStep} {wds : List (List Nat)} (h : XA sh row x D pf sf hf c qr) (hQ : QryA sh row qr ks wds) (hj : j < 3) : XA sh (swp row x j qr (hf j).2.2.1 bd) x D pf sf (va_up hf j (true, bd, qr, ks, wds)) c (hf j).2.2.1 := by
  obtain ⟨hO, hD0, ⟨tk, htk⟩, hPs, hSg, hSe, hRd, hDj⟩ := h
  have ho : ∀ b, b ≠ x + 5 → b ≠ x + 706 + 30 * j → swp row x j qr (hf j).2.2.1 bd b = row b := fun b h1 h2 => by unfold swp; rw [zup_ne h2, zup_ne h2, zup_ne h2, zup_ne h1]
  generalize hR : swp row x j qr (hf j).2.2.1 bd = row' at ho ⊢
  have hs5 : row' (x + 5) = fun k => if k = 1 then .ref (hf j).2.2.1 else row (x + 5) k := by
    rw [← hR]; unfold swp; rw [zup_ne (by omega), zup_ne (by omega), zup_ne (by omega), zup_row]
  have kT : ∀ {t : Nat} {xs : List Nat}, Txt sh row t xs → (t + 1 < x + 5 ∨ x + 5 < t) → (t + 1 < x + 706 + 30 * j ∨ x + 706 + 30 * j < t) → Txt sh row' t xs := fun a b e => a.keep (ho _ (by omega) (by omega)) (ho _ (by omega) (by omega))
  have kQ : ∀ {q : Nat} {k2 : List qStep} {w2 : List (List Nat)}, isQ x q → QryA sh row q k2 w2 → QryA sh row' q k2 w2 := by
    intro q k2 w2 hq hk
    have hb : q + 28 < x + 706 + 30 * j ∨ x + 706 + 30 * j < q := by rcases hq with e | e | e | e <;> omega
    have hb2 : x + 5 < q := by rcases hq with e | e | e | e <;> omega
    have f1 : frI (x + 5) (x + 5) row (fun b => if b = x + 5 then row' b else row b) := fun b hb => if_neg (by omega)
    have f2 : frI (x + 706 + 30 * j) (x + 706 + 30 * j) (fun b => if b = x + 5 then row' b else row b) row' := fun b hb => by
      by_cases h5 : b = x + 5
      · exact (if_pos h5).symm
      · exact (ho b h5 (by omega)).trans (if_neg h5).symm
    exact (hk.keep f1 (by omega)).keep f2 (by omega)
  obtain ⟨a0, b0, e0, g0, i0, q0, k0⟩ := hSe.2 j hj
  obtain ⟨⟨ra, rys, rks, rwd, r1, r2, r3⟩, r4, r5, r6, r7⟩ := hRd.1
  have hcell : row' (x + 706 + 30 * j) 0 = .ref qr ∧ row' (x + 706 + 30 * j) 1 = .int (nI bd) ∧ row' (x + 706 + 30 * j) 2 = .int (bI true) := by
    rw [← hR]; unfold swp
    exact ⟨by rw [zup_k (Or.inr (by decide)), zup_k (Or.inr (by decide)), zup_same], by rw [zup_k (Or.inr (by decide)), zup_same], zup_same _ _ _⟩
  refine ⟨hO.keep (ho x (by omega) (by omega)), kT hD0 (by omega) (by omega), ⟨tk, kT htk (by omega) (by omega)⟩, ⟨hPs.1, fun i hi => ?_⟩, ⟨hSg.1, fun g hg => ?_⟩, ⟨hSe.1, fun i hi => ?_⟩, ⟨⟨⟨ra, rys, _, _, ?_, kT r2 (by omega) (by omega), kQ q0 k0⟩, r4, ?_, ?_, ?_⟩, q0⟩, ?_⟩
  · obtain ⟨a, b1, b2, b3, b4, b5, b6⟩ := hPs.2 i hi
    have e1 : row' (x + 38 + 3 * i) = row (x + 38 + 3 * i) := ho _ (by omega) (by omega)
    exact ⟨by rw [ho (x + 37) (by omega) (by omega)]; exact a, b1, by rw [e1]; exact b2, by rw [e1]; exact b3, by rw [e1]; exact b4, by rw [e1]; exact b5, kT b6 (by omega) (by omega)⟩
  · obtain ⟨a, b1, b2, b3, b4, b5, b6⟩ := hSg.2 g hg
    have e0 : row' (x + 111 + 99 * g) = row (x + 111 + 99 * g) := ho _ (by omega) (by omega)
    have e1 : row' (x + 111 + 99 * g + 1) = row (x + 111 + 99 * g + 1) := ho _ (by omega) (by omega)
    have e2 : row' (x + 111 + 99 * g + 2) = row (x + 111 + 99 * g + 2) := ho _ (by omega) (by omega)
    refine ⟨by rw [ho (x + 110) (by omega) (by omega)]; exact a, b1, by rw [e0]; exact b2, b3, by rw [e2]; exact b4, fun i hi => ?_, by rw [e1]; exact b6⟩
    obtain ⟨xs, u, w⟩ := b5 i hi
    exact ⟨xs, kT u (by omega) (by omega), w⟩
  · obtain ⟨a, b, e, f, g, q, k⟩ := hSe.2 i hi
    by_cases hij : i = j
    · subst hij
      rw [show va_up hf i (true, bd, qr, ks, wds) i = (true, bd, qr, ks, wds) by unfold va_up; rw [if_pos rfl]]
      exact ⟨by rw [ho (x + 705) (by omega) (by omega)]; exact a, b, hcell.1, hcell.2.1, hcell.2.2, hRd.2, kQ hRd.2 hQ⟩
    · rw [show va_up hf j (true, bd, qr, ks, wds) i = hf i by unfold va_up; rw [if_neg hij]]
      have e1 : row' (x + 706 + 30 * i) = row (x + 706 + 30 * i) := ho _ (by omega) (by omega)
      exact ⟨by rw [ho (x + 705) (by omega) (by omega)]; exact a, b, by rw [e1]; exact e, by rw [e1]; exact f, by rw [e1]; exact g, q, kQ q k⟩
  · rw [hs5]; exact r1
  · rw [hs5]; exact r5
  · rw [hs5]; rfl
  · rcases q0 with z | z | z | z <;> omega
  · have hv : ∀ i, (va_up hf j (true, bd, qr, ks, wds) i).2.2.1 = if i = j then qr else (hf i).2.2.1 := by
      intro i; unfold va_up; split <;> rfl
    refine ⟨fun i hi => ?_, fun a b ha hb hab => ?_⟩
    · rw [hv]
      split
      · exact (hDj.1 j hj).symm
      · next hij => exact hDj.2 i j hi hj hij
    · rw [hv, hv]
      split
      · next e => rw [if_neg (fun e2 => hab (e.trans e2.symm))]; exact (hDj.1 b hb).symm
      · split
        · exact hDj.1 a ha
        · exact hDj.2 a b ha hb hab

set_option maxHeartbeats 4000000 in
set_option maxRecDepth 100000 in
theorem kX_search (G : zG) (d : Nat) (hd : 35 ≤ d) {n : Nat} {sh : zSh} {row : zRw} {x : Nat} {D : List Nat} {pf : PF} {sf : SF} {hf : HF} {c : CT} {qr : Nat} (hX : XA sh row x D pf sf hf c qr) (hsn : c.2.2.2.1 ≤ 24) : zM G (fX_search d) [.ref x] n sh row (zpR sh (fun v row' => ((pRead D).1 = false ∧ v = .int (-1) ∧ frI x (x + 795) row row' ∧ XA sh row' x D pf sf hf c qr) ∨ ((pRead D).1 = true ∧ (fst1 (fun j => !(hf j).1) 3 0 = none ∨ 24 ≤ c.2.2.2.1) ∧ v = .int (-2) ∧ frI x (x + 795) row row' ∧ XA sh row' x D pf sf hf c qr) ∨ ((pRead D).1 = true ∧ c.2.2.2.1 < 24 ∧ ∃ g, fst1 (fun j => !(hf j).1) 3 0 = some g ∧ v = .int (nI g) ∧ frI x (x + 795) row row' ∧ XA sh row' x [] pf sf (va_up hf g (true, c.2.1, qr, (pRead D).2.2.1, (pRead D).2.2.2)) (c.1, c.2.1, c.2.2.1, c.2.2.2.1 + 1, c.2.2.2.2) (hf g).2.2.1))) := by
  refine zM.of (by show plainName "PostIndex" = true; decide +kernel) (Nat.le_of_ble_eq_true rfl) (by intro v hv; simp at hv; rcases hv with rfl <;> rfl) ?_
  intro K hE
  show zX G K (fX_search d) n 0 0 sh row 0 [.ref x, .retAddr 0, .retAddr 0] []
  have hD : d - 1 + 1 ≤ d := by omega
  obtain ⟨hO, hD0, htk, hPs, hSg, hSe, hRd, hDj⟩ := id hX
  obtain ⟨ho, h_0, h_1, h_2, h_3, h_4, h_5, h_6, h_7, h_8, h_9, h_10, h_11⟩ := id hO
  refine zx_aload_n dX_search_0 rfl ?_
  refine zx_get dX_search_1 flX_22 (by assumption) (by assumption) ?_
  refine zx_aload_n dX_search_4 rfl ?_
  refine zx_get dX_search_5 flX_12 (by assumption) (by assumption) ?_
  refine zc_Vr (n0 := n) (ce := 0) (kR_read G (d - 1) (by omega) hRd.1 hD0 (by omega) (by have := hRd.2.rng; omega)) (meR_read _) lkX_98 hRd.1.2.1 rfl rfl hD (Nat.le_of_ble_eq_true rfl) rfl rfl (Nat.le_of_ble_eq_true rfl) (Nat.le_of_ble_eq_true rfl) (Nat.le_of_ble_eq_true rfl) dX_search_8 (fun v r1 h6 => ?_)
  obtain ⟨rfl, hfq, hRI, hQ1⟩ := h6
  have hX1 := hX.rd hfq hRI
  have hqr := hRd.2.rng
  have hf1 : frI x (x + 795) row r1 := fun b hb => hfq b (by omega) (by omega)
  obtain ⟨gO, gD0, gtk, gPs, gSg, gSe, gRd, gDj⟩ := id hX1
  obtain ⟨go, g_0, g_1, g_2, g_3, g_4, g_5, g_6, g_7, g_8, g_9, g_10, g_11⟩ := id gO
  refine zb_if_ne (tgt := 16) dX_search_11 rfl (fun h11 => ?_) (fun h11 => ?_)
  · refine zx_aload_n dX_search_16 rfl ?_
    refine zc_V (n0 := n) (ce := 0) (kX_freePlace G (d - 1) (by omega) hX1) (meX_freePlace _) lkX_102 ho rfl rfl hD (Nat.le_of_ble_eq_true rfl) rfl rfl (Nat.le_of_ble_eq_true rfl) (Nat.le_of_ble_eq_true rfl) (Nat.le_of_ble_eq_true rfl) dX_search_17 ?_
    cases hg : fst1 (fun j => !(hf j).1) 3 0 with
    | none =>
      show zX G K _ n 0 0 sh r1 _ _ [.int (-1)]
      refine zx_istore_n dX_search_20 (Nat.le_of_ble_eq_true rfl) rfl rfl ?_
      refine zx_iload_n dX_search_21 rfl ?_
      refine zx_if_lt (tgt := 34) dX_search_22 rfl (fun _ => ?_) (fun h => absurd (by decide) h)
      refine zx_bipush (v := -2) dX_search_34 (by decide) ?_
      exact zx_iret hE rfl dX_search_36 rfl (Nat.le_of_ble_eq_true rfl) (by exact ⟨_, rfl, rfl, Or.inr (Or.inl ⟨h11, by first | exact Or.inl hg | exact Or.inr (by omega), rfl, hf1, hX1⟩)⟩)
    | some g =>
      obtain ⟨-, hg3, hg4⟩ := fst1_some hg
      have hg3 : g < 3 := by omega
      obtain ⟨q1, q2, q3, q4, q5, q6, q7⟩ := gSe.2 g hg3
      show zX G K _ n 0 0 sh r1 _ _ [.int (nI g)]
      refine zx_istore_n dX_search_20 (Nat.le_of_ble_eq_true rfl) rfl rfl ?_
      refine zx_iload_n dX_search_21 rfl ?_
      refine zn_if_lt (tgt := 34) dX_search_22 rfl (by omega) ?_
      refine zx_aload_n dX_search_25 rfl ?_
      refine zx_get dX_search_26 flX_105 ho g_8 ?_
      refine zx_bipush (v := nI 24) dX_search_29 (by decide) ?_
      refine zn_icmp_lt (tgt := 37) dX_search_31 rfl (by omega) (by omega) (fun h31 => ?_) (fun h31 => ?_)
      · refine zx_aload_n dX_search_37 rfl ?_
        refine zx_get dX_search_38 flX_42 ho g_3 ?_
        refine zx_iload_n dX_search_41 rfl ?_
        refine zn_aald dX_search_42 gSe.1 rfl (by omega) (by decide) q1 ?_
        refine zx_astore_n dX_search_43 (Nat.le_of_ble_eq_true rfl) rfl rfl ?_
        refine zx_aload_n dX_search_44 rfl ?_
        refine zx_aload_n dX_search_45 rfl ?_
        refine zx_get dX_search_46 flX_22 ho g_4 ?_
        refine zx_aload_n dX_search_49 rfl ?_
        refine zx_getN dX_search_50 flX_108 q2 q3 ?_
        refine zc_Vr (n0 := n) (ce := 0) (kR_exchange G (d - 1) (by omega) (u := (hf g).2.2.1) gRd.1.2.1 gRd.1.2.2.2.1) (meR_exchange _) lkX_112 gRd.1.2.1 rfl rfl hD (Nat.le_of_ble_eq_true rfl) rfl rfl (Nat.le_of_ble_eq_true rfl) (Nat.le_of_ble_eq_true rfl) (Nat.le_of_ble_eq_true rfl) dX_search_53 (fun v r2 h9 => ?_)
        obtain ⟨rfl, hr2⟩ := h9
        refine zx_putN dX_search_56 flX_108 tpH_0 q2 rfl rfl ?_
        refine zx_aload_n dX_search_59 rfl ?_
        refine zx_aload_n dX_search_60 rfl ?_
        refine zx_get dX_search_61 flX_72 ho (v := .int (nI c.2.1)) (by rw [zup_ne (by omega), hr2, zup_ne (by omega)]; exact g_6) ?_
        refine zx_putN dX_search_64 flX_116 tpH_1 q2 rfl rfl ?_
        refine zx_aload_n dX_search_67 rfl ?_
        refine zx_iconst (v := nI 1) dX_search_68 (by decide) ?_
        refine zx_putN dX_search_69 flX_119 tpH_2 q2 rfl rfl ?_
        have hX2 := hX1.swap (bd := c.2.1) hQ1 hg3
        unfold swp at hX2
        rw [hr2]
        generalize hr3 : zup (zup (zup (zup r1 (x + 5) 1 (.ref (hf g).2.2.1)) (x + 706 + 30 * g) 0 (.ref qr)) (x + 706 + 30 * g) 1 (.int (nI c.2.1))) (x + 706 + 30 * g) 2 (.int (nI 1)) = r3 at hX2 ⊢
        have hf3 : frI x (x + 795) r1 r3 := by
          rw [← hr3]
          exact (((frI_up (by omega) (by omega)).tr (frI_up (by omega) (by omega))).tr (frI_up (by omega) (by omega))).tr (frI_up (by omega) (by omega))
        have k_8 := hX2.1.2.2.2.2.2.2.2.2.2.1
        refine zx_aload_n dX_search_72 rfl ?_
        refine zx_dup dX_search_73 rfl ?_
        refine zx_get dX_search_74 flX_105 (by assumption) (by assumption) ?_
        refine zx_iconst (v := nI 1) dX_search_77 (by decide) ?_
        refine zn_iadd dX_search_78 ?_
        refine zx_put dX_search_79 flX_105 tpX_8 ho rfl rfl ?_
        have hX3 := hX2.up8 (m := c.2.2.2.1 + 1)
        generalize hr4 : zup r3 x 8 (.int (nI (c.2.2.2.1 + 1))) = r4 at hX3 ⊢
        have hf4 : frI x (x + 795) r3 r4 := by rw [← hr4]; exact frI_up (by omega) (by omega)
        have k_0 := hX3.1.2.1
        refine zx_aload_n dX_search_82 rfl ?_
        refine zx_get dX_search_83 flX_12 (by assumption) (by assumption) ?_
        refine zc_Vv (n0 := n) (ce := 0) (kT_makeEmpty G (d - 1) (by omega) hX3.2.1.1) (meT_makeEmpty _) lkX_62 hX3.2.1.1 rfl rfl hD (Nat.le_of_ble_eq_true rfl) rfl rfl (Nat.le_of_ble_eq_true rfl) (Nat.le_of_ble_eq_true rfl) (Nat.le_of_ble_eq_true rfl) dX_search_86 (fun r5 hr5 => ?_)
        have hf5 : frI x (x + 795) r4 r5 := by rw [hr5]; exact frI_up (by omega) (by omega)
        have hX4 := hX3.draft (row' := r5) (by rw [hr5]; exact fr2_up) (by rw [hr5]; exact hX3.2.1.empty)
        refine zx_iload_n dX_search_89 rfl ?_
        exact zx_iret hE rfl dX_search_90 rfl (Nat.le_of_ble_eq_true rfl) (by exact ⟨_, rfl, rfl, Or.inr (Or.inr ⟨h11, by omega, g, hg, rfl, ((hf1.tr hf3).tr hf4).tr hf5, hX4⟩)⟩)
      · refine zx_bipush (v := -2) dX_search_34 (by decide) ?_
        exact zx_iret hE rfl dX_search_36 rfl (Nat.le_of_ble_eq_true rfl) (by exact ⟨_, rfl, rfl, Or.inr (Or.inl ⟨h11, by first | exact Or.inl hg | exact Or.inr (by omega), rfl, hf1, hX1⟩)⟩)
  · refine zx_iconst (v := -1) dX_search_14 (by decide) ?_
    exact zx_iret hE rfl dX_search_15 rfl (Nat.le_of_ble_eq_true rfl) (by exact ⟨_, rfl, rfl, Or.inl ⟨h11, rfl, hf1, hX1⟩⟩)

