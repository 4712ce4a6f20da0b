def pRead (xs : List Nat) : PR := ((pAny xs 6 (0, [], [])).1 && decide (at0 xs (skp xs (pAny xs 6 (0, [], [])).2.1) = 0), (pAny xs 6 (0, [], [])).2)
/-- a reader between two readings -/
def RdI (sh : zSh) (row : zRw) (r q : Nat) : Prop := (∃ (a : Int32) (ys : List Nat) (ks : List qStep) (wds : List (List Nat)), row r 2 = .int a ∧ Txt sh row (r + 1) ys ∧ QryA sh row q ks wds) ∧ sh r = some (0, 2, 3) ∧ row r 0 = .ref (r + 1) ∧ row r 1 = .ref q ∧ (q + 28 < r ∨ r + 2 < q)
theorem RdA.I {sh : zSh} {row : zRw} {r q : Nat} {xs : List Nat} {s : PS} (h : RdA sh row r q xs s) : RdI sh row r q := ⟨⟨_, _, _, _, h.2.2.2.1, h.2.2.2.2.1, h.2.2.2.2.2.1⟩, h.1, h.2.1, h.2.2.1, h.2.2.2.2.2.2.2⟩
/-- the reader's cells, and its query's -/
def frQ (r q : Nat) (row row' : zRw) : Prop := ∀ b, ¬ (r ≤ b ∧ b ≤ r + 2) → ¬ (q ≤ b ∧ b ≤ q + 28) → row' b = row b
theorem frQ.tr {r q : Nat} {r1 r2 r3 : zRw} (h : frQ r q r1 r2) (g : frQ r q r2 r3) : frQ r q r1 r3 := fun b h1 h2 => (g b h1 h2).trans (h b h1 h2)
theorem frR.Q {r q : Nat} {r1 r2 : zRw} (h : frR r q r1 r2) : frQ r q r1 r2 := fun b h1 h2 => h b (by omega) h2
theorem Txt.keepQ {sh : zSh} {row row' : zRw} {r q t : Nat} {xs : List Nat} (h : Txt sh row t xs) (hf : frQ r q row row') (h1 : t + 1 < r ∨ r + 2 < t) (h2 : t + 1 < q ∨ q + 28 < t) : Txt sh row' t xs := h.keep (hf t (by omega) (by omega)) (hf (t + 1) (by omega) (by omega))

set_option maxHeartbeats 4000000 in
set_option maxRecDepth 100000 in
theorem kR_read (G : zG) (d : Nat) (hd : 34 ≤ d) {n : Nat} {sh : zSh} {row : zRw} {r q : Nat} (hI : RdI sh row r q) {o : Nat} {xs : List Nat} (hO : Txt sh row o xs) (ho1 : o + 1 < r ∨ r + 2 < o) (ho2 : o + 1 < q ∨ q + 28 < o) : zM G (fR_read d) [.ref r, .ref o] n sh row (zpR sh (fun v row' => v = .int (bI (pRead xs).1) ∧ frQ r q row row' ∧ RdI sh row' r q ∧ QryA sh row' q (pRead xs).2.2.1 (pRead xs).2.2.2)) := by
  refine zM.of (by show plainName "PostIndex$QueryReader" = true; decide +kernel) (Nat.le_of_ble_eq_true rfl) (by intro v hv; simp at hv; rcases hv with rfl | rfl <;> rfl) ?_
  intro K hE
  show zX G K (fR_read d) n 0 0 sh row 0 [.ref r, .ref o] []
  have hD : d - 1 + 1 ≤ d := by omega
  obtain ⟨⟨a0, ys, ks, wds, hp2, hT, hQ⟩, hs, hp0, hp1, hdj⟩ := id hI
  refine zx_aload_n dR_read_0 rfl ?_
  refine zx_get dR_read_1 flR_12 (by assumption) (by assumption) ?_
  refine zc_Vv (n0 := n) (ce := 0) (kT_makeEmpty G (d - 1) (by omega) hT.1) (meT_makeEmpty _) lkR_25 hT.1 rfl rfl hD (Nat.le_of_ble_eq_true rfl) rfl rfl (Nat.le_of_ble_eq_true rfl) (Nat.le_of_ble_eq_true rfl) (Nat.le_of_ble_eq_true rfl) dR_read_4 (fun r1 hr1 => ?_)
  have hT1 : Txt sh r1 (r + 1) [] := by rw [hr1]; exact hT.empty
  have hO1 : Txt sh r1 o xs := hO.keep (by rw [hr1, zup_ne (by omega)]) (by rw [hr1, zup_ne (by omega)])
  have e1 : r1 r = row r := by rw [hr1, zup_ne (by omega)]
  have q1 : r1 r 0 = .ref (r + 1) := by rw [e1]; exact hp0
  have hQ1 : QryA sh r1 q ks wds := hQ.keep (lo := r + 1) (hi := r + 1) (by rw [hr1]; exact frI_up (by omega) (by omega)) (by omega)
  have hf1 : frQ r q row r1 := fun b h1 _ => by rw [hr1]; exact zup_ne (by omega)
  refine zx_aload_n dR_read_7 rfl ?_
  refine zx_get dR_read_8 flR_12 (by assumption) (by assumption) ?_
  refine zx_aload_n dR_read_11 rfl ?_
  refine zc_Vr (n0 := n) (ce := 0) (kT_appendBeginning G (d - 1) (by omega) hT1 hO1) (meT_appendBeginning _) lkR_28 hT.1 rfl rfl hD (Nat.le_of_ble_eq_true rfl) rfl rfl (Nat.le_of_ble_eq_true rfl) (Nat.le_of_ble_eq_true rfl) (Nat.le_of_ble_eq_true rfl) dR_read_12 (fun v r2 h6 => ?_)
  obtain ⟨rfl, hfr, hT2⟩ := h6
  have hmin : min xs.length (24 - ([] : List Nat).length) = xs.length := by have := hO.2.2.2.2.1; simp; omega
  rw [hmin, List.take_length, List.nil_append] at hT2
  have e2 : r2 r = r1 r := hfr r (by omega) (by omega)
  have q2 : r2 r 1 = .ref q := by rw [e2, e1]; exact hp1
  have hQ2 : QryA sh r2 q ks wds := hQ1.keep (fr2.I hfr) (by omega)
  have hf2 : frQ r q r1 r2 := fun b h1 _ => hfr b (by omega) (by omega)
  refine zx_pop dR_read_15 rfl ?_
  refine zx_aload_n dR_read_16 rfl ?_
  refine zx_get dR_read_17 flR_21 (by assumption) (by assumption) ?_
  refine zc_Vv (n0 := n) (ce := 0) (kQ_makeEmpty G (d - 1) (by omega) hQ2) (meQ_makeEmpty _) lkR_32 hQ2.1.1 rfl rfl hD (Nat.le_of_ble_eq_true rfl) rfl rfl (Nat.le_of_ble_eq_true rfl) (Nat.le_of_ble_eq_true rfl) (Nat.le_of_ble_eq_true rfl) dR_read_20 (fun r3 h7 => ?_)
  obtain ⟨hfq, hQ3⟩ := h7
  have e3 : r3 r = r2 r := hfq r (by omega)
  have hT3 : Txt sh r3 (r + 1) xs := hT2.keepI hfq (by omega)
  have hf3a : frQ r q r2 r3 := fun b _ h2 => hfq b (by omega)
  refine zx_aload_n dR_read_23 rfl ?_
  refine zx_iconst (v := nI 0) dR_read_24 (by decide) ?_
  refine zx_put dR_read_25 flR_33 tpR_2 hs rfl rfl ?_
  have hf3 : frQ r q r2 (zup r3 r 2 (.int (nI 0))) := hf3a.tr (fun b h1 _ => zup_ne (by omega))
  have hR0 : RdA sh (zup r3 r 2 (.int (nI 0))) r q xs (0, [], []) := by
    refine ⟨hs, ?_, ?_, zup_same _ _ _, hT3.keep (zup_ne (by omega)) (zup_ne (by omega)), hQ3.keep (lo := r) (hi := r) (frI_up (by omega) (by omega)) (by omega), Nat.zero_le _, hdj⟩
    · rw [zup_k (Or.inr (by decide)), e3, e2, e1]; exact hp0
    · rw [zup_k (Or.inr (by decide)), e3, e2, e1]; exact hp1
  refine zx_aload_n dR_read_28 rfl ?_
  refine zx_iconst (v := nI 0) dR_read_29 (by decide) ?_
  refine zc_Vr (n0 := n) (ce := 0) (kR_readAny G 6 (d - 1) (by omega) (by omega) _ _ hR0) (meR_readAny _) lkR_37 hs rfl rfl hD (Nat.le_of_ble_eq_true rfl) rfl rfl (Nat.le_of_ble_eq_true rfl) (Nat.le_of_ble_eq_true rfl) (Nat.le_of_ble_eq_true rfl) dR_read_30 (fun v r4 h7 => ?_)
  obtain ⟨rfl, h8, h9⟩ := h7
  have hz := hT.lt (i := 0)
  refine zb_if_eq (tgt := 47) dR_read_33 rfl (fun h33 => ?_) (fun h33 => ?_)
  · refine zx_iconst (v := nI 0) dR_read_47 (by decide) ?_
    exact zx_zret hE rfl (by first | decide | exact bI_nar _) dR_read_48 rfl (Nat.le_of_ble_eq_true rfl) (by
      unfold pRead
      first
      | (rw [h33, Bool.true_and]
         refine ⟨_, rfl, rfl, ?_, ((hf1.tr hf2).tr hf3).tr ((frR.Q h8).tr (frR.Q h11)), h12.I, h12.2.2.2.2.2.1⟩
         first | (rw [decide_eq_true (by omega)]; rfl) | (rw [decide_eq_false (by omega)]; rfl))
      | (rw [h33, Bool.false_and]
         exact ⟨_, rfl, rfl, rfl, ((hf1.tr hf2).tr hf3).tr (frR.Q h8), h9.I, h9.2.2.2.2.2.1⟩))
  · refine zx_aload_n dR_read_36 rfl ?_
    refine zc_Vr (n0 := n) (ce := 0) (kR_peekPiece G (d - 1) (by omega) h9) (meR_peekPiece _) lkR_41 hs rfl rfl hD (Nat.le_of_ble_eq_true rfl) rfl rfl (Nat.le_of_ble_eq_true rfl) (Nat.le_of_ble_eq_true rfl) (Nat.le_of_ble_eq_true rfl) dR_read_37 (fun v r5 h10 => ?_)
    obtain ⟨rfl, h11, h12⟩ := h10
    have hz := hT3.lt (i := skp xs (pAny xs 6 (0, [], [])).2.1)
    refine zn_if_ne (tgt := 47) dR_read_40 rfl (by omega) (fun h40 => ?_) (fun h40 => ?_)
    · refine zx_iconst (v := nI 0) dR_read_47 (by decide) ?_
      exact zx_zret hE rfl (by first | decide | exact bI_nar _) dR_read_48 rfl (Nat.le_of_ble_eq_true rfl) (by
      unfold pRead
      first
      | (rw [h33, Bool.true_and]
         refine ⟨_, rfl, rfl, ?_, ((hf1.tr hf2).tr hf3).tr ((frR.Q h8).tr (frR.Q h11)), h12.I, h12.2.2.2.2.2.1⟩
         first | (rw [decide_eq_true (by omega)]; rfl) | (rw [decide_eq_false (by omega)]; rfl))
      | (rw [h33, Bool.false_and]
         exact ⟨_, rfl, rfl, rfl, ((hf1.tr hf2).tr hf3).tr (frR.Q h8), h9.I, h9.2.2.2.2.2.1⟩))
    · refine zx_iconst (v := nI 1) dR_read_43 (by decide) ?_
      refine zx_goto (tgt := 48) dR_read_44 rfl ?_
      exact zx_zret hE rfl (by first | decide | exact bI_nar _) dR_read_48 rfl (Nat.le_of_ble_eq_true rfl) (by
      unfold pRead
      first
      | (rw [h33, Bool.true_and]
         refine ⟨_, rfl, rfl, ?_, ((hf1.tr hf2).tr hf3).tr ((frR.Q h8).tr (frR.Q h11)), h12.I, h12.2.2.2.2.2.1⟩
         first | (rw [decide_eq_true (by omega)]; rfl) | (rw [decide_eq_false (by omega)]; rfl))
      | (rw [h33, Bool.false_and]
         exact ⟨_, rfl, rfl, rfl, ((hf1.tr hf2).tr hf3).tr (frR.Q h8), h9.I, h9.2.2.2.2.2.1⟩))

set_option maxHeartbeats 4000000 in
set_option maxRecDepth 100000 in
theorem kR_exchange (G : zG) (d : Nat) (hd : 0 ≤ d) {n : Nat} {sh : zSh} {row : zRw} {r q u : Nat} (hs : sh r = some (0, 2, 3)) (hp1 : row r 1 = .ref q) : zM G (fR_exchange d) [.ref r, .ref u] n sh row (zpR sh (fun v row' => v = .ref q ∧ row' = zup row r 1 (.ref u))) := by
  refine zM.of (by show plainName "PostIndex$QueryReader" = true; decide +kernel) (Nat.le_of_ble_eq_true rfl) (by intro v hv; simp at hv; rcases hv with rfl | rfl <;> rfl) ?_
  intro K hE
  show zX G K (fR_exchange d) n 0 0 sh row 0 [.ref r, .ref u, .retAddr 0] []
  refine zx_aload_n dR_exchange_0 rfl ?_
  refine zx_get dR_exchange_1 flR_21 (by assumption) (by assumption) ?_
  refine zx_astore_n dR_exchange_4 (Nat.le_of_ble_eq_true rfl) rfl rfl ?_
  refine zx_aload_n dR_exchange_5 rfl ?_
  refine zx_aload_n dR_exchange_6 rfl ?_
  refine zx_put dR_exchange_7 flR_21 tpR_1 (by assumption) rfl rfl ?_
  refine zx_aload_n dR_exchange_10 rfl ?_
  exact zx_aret hE rfl (Or.inl ⟨_, rfl⟩) dR_exchange_11 rfl (Nat.le_of_ble_eq_true rfl) ⟨_, rfl, rfl, rfl, rfl⟩

