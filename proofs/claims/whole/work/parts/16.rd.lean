/-- the reader's state, as a value: where it is, the steps, the words -/
abbrev PS : Type := Nat × List qStep × List (List Nat)
def RdA (sh : zSh) (row : zRw) (r q : Nat) (xs : List Nat) (s : PS) : Prop := sh r = some (0, 2, 3) ∧ row r 0 = .ref (r + 1) ∧ row r 1 = .ref q ∧ row r 2 = .int (nI s.1) ∧ Txt sh row (r + 1) xs ∧ QryA sh row q s.2.1 s.2.2 ∧ s.1 ≤ xs.length ∧ (q + 28 < r ∨ r + 2 < q)
def frR (r q : Nat) (row row' : zRw) : Prop := ∀ b, b ≠ r → ¬ (q ≤ b ∧ b ≤ q + 28) → row' b = row b
theorem frR.rf {r q : Nat} {row : zRw} : frR r q row row := fun _ _ _ => rfl
theorem frR.tr {r q : Nat} {r1 r2 r3 : zRw} (h : frR r q r1 r2) (g : frR r q r2 r3) : frR r q r1 r3 := fun b h1 h2 => (g b h1 h2).trans (h b h1 h2)
theorem frR_up {r q k : Nat} {row : zRw} {v : Value} : frR r q row (zup row r k v) := fun b h1 _ => zup_ne h1
theorem frI.R {r q : Nat} {r1 r2 : zRw} (h : frI q (q + 28) r1 r2) : frR r q r1 r2 := fun b _ h2 => h b h2
theorem RdA.at {sh : zSh} {row : zRw} {r q a : Nat} {xs : List Nat} {s : PS} (h : RdA sh row r q xs s) (ha : a ≤ xs.length) : RdA sh (zup row r 2 (.int (nI a))) r q xs (a, s.2) := by
  obtain ⟨h1, h2, h3, h4, h5, h6, h7, h8⟩ := h
  refine ⟨h1, ?_, ?_, zup_same _ _ _, h5.keep (zup_ne (by omega)) (zup_ne (by omega)), h6.keep (lo := r) (hi := r) (frI_up (by omega) (by omega)) (by omega), ha, h8⟩
  · rw [zup_k (Or.inr (by decide))]; exact h2
  · rw [zup_k (Or.inr (by decide))]; exact h3
theorem RdA.qry {sh : zSh} {row row' : zRw} {r q : Nat} {xs : List Nat} {s : PS} {ks : List qStep} {wds : List (List Nat)} (h : RdA sh row r q xs s) (hf : frI q (q + 28) row row') (hq : QryA sh row' q ks wds) : RdA sh row' r q xs (s.1, ks, wds) := by
  obtain ⟨h1, h2, h3, h4, h5, h6, h7, h8⟩ := h
  have e : row' r = row r := hf r (by omega)
  refine ⟨h1, by rw [e]; exact h2, by rw [e]; exact h3, by rw [e]; exact h4, h5.keepI hf (by omega), hq, h7, h8⟩
/-- spaces left out -/
def skp (xs : List Nat) (a : Nat) : Nat := a + ((xs.drop a).takeWhile (fun c => decide (c = 32))).length
theorem skp_s {xs : List Nat} {i : Nat} (h : i < xs.length) (hw : at0 xs i = 32) : skp xs i = skp xs (i + 1) := by
  unfold skp
  rw [drop_at0 h, List.takeWhile_cons_of_pos (by simp [hw])]
  simp only [List.length_cons]
  omega
theorem skp_e {xs : List Nat} {i : Nat} (h : xs.length ≤ i ∨ ¬ at0 xs i = 32) : skp xs i = i := by
  unfold skp
  by_cases hl : i < xs.length
  · rw [drop_at0 hl, List.takeWhile_cons_of_neg (by rcases h with h | h; omega; simp [h])]
    rfl
  · rw [List.drop_eq_nil_of_le (by omega)]
    rfl
theorem skp_ge {xs : List Nat} {i : Nat} : i ≤ skp xs i := by unfold skp; omega
theorem skp_le {xs : List Nat} {i : Nat} (h : i ≤ xs.length) : skp xs i ≤ xs.length := by
  unfold skp
  have := (List.takeWhile_sublist (l := xs.drop i) (fun c => decide (c = 32))).length_le
  rw [List.length_drop] at this
  omega
/-- the reader's methods, as functions -/
abbrev PR : Type := Bool × PS
def pTake (xs : List Nat) (c : Nat) (s : PS) : PR := if at0 xs (skp xs s.1) = c then (true, (skp xs s.1 + 1, s.2)) else (false, (skp xs s.1, s.2))
def pStep (kd : Nat) (nu : Int32) (s : PS) : PR := (decide (s.2.1.length < 48), (s.1, (if s.2.1.length < 48 then s.2.1 ++ [(kd, nu, s.2.2.length)] else s.2.1), s.2.2))
def pWord (xs : List Nat) (s : PS) : PR :=
  if skp xs s.1 < tokEnd xs (skp xs s.1) then (decide (s.2.2.length < 12), (tokEnd xs (skp xs s.1), s.2.1, (if s.2.2.length < 12 then s.2.2 ++ [((xs.drop (skp xs s.1)).take (tokEnd xs (skp xs s.1) - skp xs s.1)).map fold1] else s.2.2)))
  else (false, (tokEnd xs (skp xs s.1), s.2))
def filL (xs : List Nat) : Nat → Nat → Nat → Nat × Nat
  | 0, a, n => (a, n)
  | j + 1, a, n => if a < xs.length ∧ isDg (at0 xs a) = true then filL xs j (a + 1) (10 * n + (at0 xs a - 48)) else (a, n)
def pFilter (xs : List Nat) (kd : Nat) (s : PS) : PR :=
  if s.1 + 1 < (filL xs 9 (s.1 + 1) 0).1 ∧ isDg (at0 xs (filL xs 9 (s.1 + 1) 0).1) = false then pStep kd (nI (filL xs 9 (s.1 + 1) 0).2) ((filL xs 9 (s.1 + 1) 0).1, s.2)
  else (false, ((filL xs 9 (s.1 + 1) 0).1, s.2))
theorem filL_ge {xs : List Nat} {j a n : Nat} : a ≤ (filL xs j a n).1 := by
  induction j generalizing a n with
  | zero => exact Nat.le_refl _
  | succ j ih =>
    unfold filL
    split
    · have := ih (a := a + 1) (n := 10 * n + (at0 xs a - 48)); omega
    · exact Nat.le_refl _
theorem filL_le {xs : List Nat} {j a n : Nat} (h : a ≤ xs.length) : (filL xs j a n).1 ≤ xs.length := by
  induction j generalizing a n with
  | zero => exact h
  | succ j ih =>
    unfold filL
    split
    · next hq => exact ih hq.1
    · exact h

set_option maxHeartbeats 4000000 in
set_option maxRecDepth 100000 in
theorem kR_skipSpaces (G : zG) (d : Nat) (hd : 1 ≤ d) {n : Nat} {sh : zSh} {row : zRw} {r q : Nat} {xs : List Nat} {s : PS} (hR : RdA sh row r q xs s) : zM G (fR_skipSpaces d) [.ref r] n sh row (zpV sh (fun row' => frR r q row row' ∧ RdA sh row' r q xs (skp xs s.1, s.2))) := by
  refine zM.of (by show plainName "PostIndex$QueryReader" = true; decide +kernel) (Nat.le_of_ble_eq_true rfl) (by intro v hv; simp at hv; rcases hv with rfl <;> rfl) ?_
  intro K hE
  show zX G K (fR_skipSpaces d) n 0 0 sh row 0 [.ref r] []
  have hD : d - 1 + 1 ≤ d := by omega
  obtain ⟨hs, hp0, hp1, hp2, hT, hQ, hat, hdj⟩ := id hR
  have hxl := hT.2.2.2.2.1
  have loop : ∀ (k : Nat) (a : Nat) (r2 : zRw), xs.length - a < k → frR r q row r2 → RdA sh r2 r q xs (a, s.2) → skp xs a = skp xs s.1 → zX G K (fR_skipSpaces d) n 0 0 sh r2 0 [.ref r] [] := by
    intro k
    induction k with
    | zero => intro a r2 hk; exact absurd hk (Nat.not_lt_zero _)
    | succ k ih =>
      intro a r2 hk h3 h4 h5
      obtain ⟨gs, gp0, gp1, gp2, gT, gQ, gat, gdj⟩ := id h4
      have gct := gT.2.2.2.1
      have gat : a ≤ xs.length := gat
      have gp2 : r2 r 2 = .int (nI a) := gp2
      refine zx_aload_n dR_skipSpaces_0 rfl ?_
      refine zx_get dR_skipSpaces_1 flR_33 (by assumption) (by assumption) ?_
      refine zx_aload_n dR_skipSpaces_4 rfl ?_
      refine zx_get dR_skipSpaces_5 flR_12 (by assumption) (by assumption) ?_
      refine zx_getN dR_skipSpaces_8 flR_92 gT.1 gct ?_
      refine zn_icmp_ge (tgt := 43) dR_skipSpaces_11 rfl (by omega) (by omega) (fun h11 => ?_) (fun h11 => ?_)
      · exact zx_vret hE rfl dR_skipSpaces_43 rfl (Nat.le_of_ble_eq_true rfl) (by refine ⟨rfl, rfl, h3, ?_⟩; rw [← h5, skp_e (by first | exact Or.inl (by omega) | exact Or.inr (by omega))]; exact h4)
      · refine zx_aload_n dR_skipSpaces_14 rfl ?_
        refine zx_get dR_skipSpaces_15 flR_12 (by assumption) (by assumption) ?_
        refine zx_aload_n dR_skipSpaces_18 rfl ?_
        refine zx_get dR_skipSpaces_19 flR_33 (by assumption) (by assumption) ?_
        refine zc_V (kT_charOr0 G (d - 1) (by omega) gT (by omega)) (meT_charOr0 _) lkR_95 gT.1 rfl rfl hD (Nat.le_of_ble_eq_true rfl) rfl rfl (Nat.le_of_ble_eq_true rfl) (Nat.le_of_ble_eq_true rfl) (Nat.le_of_ble_eq_true rfl) dR_skipSpaces_22 ?_
        have hz := gT.lt (i := a)
        refine zx_bipush (v := nI 32) dR_skipSpaces_25 (by decide) ?_
        refine zn_icmp_ne (tgt := 43) dR_skipSpaces_27 rfl (by omega) (by omega) (fun h27 => ?_) (fun h27 => ?_)
        · exact zx_vret hE rfl dR_skipSpaces_43 rfl (Nat.le_of_ble_eq_true rfl) (by refine ⟨rfl, rfl, h3, ?_⟩; rw [← h5, skp_e (by first | exact Or.inl (by omega) | exact Or.inr (by omega))]; exact h4)
        · refine zx_aload_n dR_skipSpaces_30 rfl ?_
          refine zx_dup dR_skipSpaces_31 rfl ?_
          refine zx_get dR_skipSpaces_32 flR_33 (by assumption) (by assumption) ?_
          refine zx_iconst (v := nI 1) dR_skipSpaces_35 (by decide) ?_
          refine zn_iadd dR_skipSpaces_36 ?_
          refine zx_put dR_skipSpaces_37 flR_33 tpR_2 (by assumption) rfl rfl ?_
          refine zx_goto (tgt := 0) dR_skipSpaces_40 rfl ?_
          exact ih (a + 1) _ (by omega) (h3.tr frR_up) (h4.at (by omega)) (by rw [← h5]; exact (skp_s (by omega) (by omega)).symm)
  exact loop _ s.1 row (Nat.lt_succ_self _) frR.rf hR rfl

set_option maxHeartbeats 4000000 in
set_option maxRecDepth 100000 in
theorem kR_peekPiece (G : zG) (d : Nat) (hd : 2 ≤ d) {n : Nat} {sh : zSh} {row : zRw} {r q : Nat} {xs : List Nat} {s : PS} (hR : RdA sh row r q xs s) : zM G (fR_peekPiece d) [.ref r] n sh row (zpR sh (fun v row' => v = .int (nI (at0 xs (skp xs s.1))) ∧ frR r q row row' ∧ RdA sh row' r q xs (skp xs s.1, s.2))) := by
  refine zM.of (by show plainName "PostIndex$QueryReader" = true; decide +kernel) (Nat.le_of_ble_eq_true rfl) (by intro v hv; simp at hv; rcases hv with rfl <;> rfl) ?_
  intro K hE
  show zX G K (fR_peekPiece d) n 0 0 sh row 0 [.ref r] []
  have hD : d - 1 + 1 ≤ d := by omega
  obtain ⟨hs, hp0, hp1, hp2, hT, hQ, hat, hdj⟩ := id hR
  have hxl := hT.2.2.2.2.1
  refine zx_aload_n dR_peekPiece_0 rfl ?_
  refine zc_Vv (kR_skipSpaces G (d - 1) (by omega) hR) (meR_skipSpaces _) lkR_81 hs rfl rfl hD (Nat.le_of_ble_eq_true rfl) rfl rfl (Nat.le_of_ble_eq_true rfl) (Nat.le_of_ble_eq_true rfl) (Nat.le_of_ble_eq_true rfl) dR_peekPiece_1 (fun r2 h2 => ?_)
  obtain ⟨h3, h4⟩ := h2
  obtain ⟨gs, gp0, gp1, gp2, gT, gQ, gat, gdj⟩ := id h4
  have gct := gT.2.2.2.1
  have gat : skp xs s.1 ≤ xs.length := gat
  have gp2 : r2 r 2 = .int (nI (skp xs s.1)) := gp2
  have hz := gT.lt (i := skp xs s.1)
  refine zx_aload_n dR_peekPiece_4 rfl ?_
  refine zx_get dR_peekPiece_5 flR_12 (by assumption) (by assumption) ?_
  refine zx_aload_n dR_peekPiece_8 rfl ?_
  refine zx_get dR_peekPiece_9 flR_33 (by assumption) (by assumption) ?_
  refine zc_V (kT_charOr0 G (d - 1) (by omega) gT (by omega)) (meT_charOr0 _) lkR_95 gT.1 rfl rfl hD (Nat.le_of_ble_eq_true rfl) rfl rfl (Nat.le_of_ble_eq_true rfl) (Nat.le_of_ble_eq_true rfl) (Nat.le_of_ble_eq_true rfl) dR_peekPiece_12 ?_
  exact zx_zret hE rfl (by first | decide | exact cI_nar (by omega)) dR_peekPiece_15 rfl (Nat.le_of_ble_eq_true rfl) ⟨_, rfl, rfl, rfl, h3, h4⟩

set_option maxHeartbeats 4000000 in
set_option maxRecDepth 100000 in
theorem kR_take (G : zG) (d : Nat) (hd : 3 ≤ d) {n : Nat} {sh : zSh} {row : zRw} {r q : Nat} {xs : List Nat} {s : PS} (hR : RdA sh row r q xs s) {c : Nat} (hc : c < 127) (hc0 : 0 < c) : zM G (fR_take d) [.ref r, .int (nI c)] n sh row (zpR sh (fun v row' => v = .int (bI (pTake xs c s).1) ∧ frR r q row row' ∧ RdA sh row' r q xs (pTake xs c s).2)) := by
  refine zM.of (by show plainName "PostIndex$QueryReader" = true; decide +kernel) (Nat.le_of_ble_eq_true rfl) (by intro v hv; simp at hv; rcases hv with rfl | rfl <;> rfl) ?_
  intro K hE
  show zX G K (fR_take d) n 0 0 sh row 0 [.ref r, .int (nI c)] []
  have hD : d - 1 + 1 ≤ d := by omega
  obtain ⟨hs, hp0, hp1, hp2, hT, hQ, hat, hdj⟩ := id hR
  have hxl := hT.2.2.2.2.1
  refine zx_aload_n dR_take_0 rfl ?_
  refine zc_Vr (kR_peekPiece G (d - 1) (by omega) hR) (meR_peekPiece _) lkR_41 hs rfl rfl hD (Nat.le_of_ble_eq_true rfl) rfl rfl (Nat.le_of_ble_eq_true rfl) (Nat.le_of_ble_eq_true rfl) (Nat.le_of_ble_eq_true rfl) dR_take_1 (fun v r2 h2 => ?_)
  obtain ⟨rfl, h3, h4⟩ := h2
  obtain ⟨gs, gp0, gp1, gp2, gT, gQ, gat, gdj⟩ := id h4
  have gct := gT.2.2.2.1
  have gat : skp xs s.1 ≤ xs.length := gat
  have gp2 : r2 r 2 = .int (nI (skp xs s.1)) := gp2
  have hz := gT.lt (i := skp xs s.1)
  refine zx_iload_n dR_take_4 rfl ?_
  refine zn_icmp_eq (tgt := 10) dR_take_5 rfl (by omega) (by omega) (fun h5 => ?_) (fun h5 => ?_)
  · refine zx_aload_n dR_take_10 rfl ?_
    refine zx_dup dR_take_11 rfl ?_
    refine zx_get dR_take_12 flR_33 (by assumption) (by assumption) ?_
    refine zx_iconst (v := nI 1) dR_take_15 (by decide) ?_
    refine zn_iadd dR_take_16 ?_
    refine zx_put dR_take_17 flR_33 tpR_2 (by assumption) rfl rfl ?_
    refine zx_iconst (v := nI 1) dR_take_20 (by decide) ?_
    exact zx_zret hE rfl (by first | decide | exact bI_nar _) dR_take_21 rfl (Nat.le_of_ble_eq_true rfl) (by
      first
      | (have hlt : skp xs s.1 < xs.length := Nat.lt_of_not_le (fun h => by rw [at0_big h] at h5; omega)
         refine ⟨_, rfl, rfl, ?_, h3.tr frR_up, ?_⟩
         · unfold pTake; rw [if_pos h5]; rfl
         · unfold pTake; rw [if_pos h5]; exact h4.at (by omega))
      | (refine ⟨_, rfl, rfl, ?_, h3, ?_⟩
         · unfold pTake; rw [if_neg h5]; rfl
         · unfold pTake; rw [if_neg h5]; exact h4))
  · refine zx_iconst (v := nI 0) dR_take_8 (by decide) ?_
    exact zx_zret hE rfl (by first | decide | exact bI_nar _) dR_take_9 rfl (Nat.le_of_ble_eq_true rfl) (by
      first
      | (have hlt : skp xs s.1 < xs.length := Nat.lt_of_not_le (fun h => by rw [at0_big h] at h5; omega)
         refine ⟨_, rfl, rfl, ?_, h3.tr frR_up, ?_⟩
         · unfold pTake; rw [if_pos h5]; rfl
         · unfold pTake; rw [if_pos h5]; exact h4.at (by omega))
      | (refine ⟨_, rfl, rfl, ?_, h3, ?_⟩
         · unfold pTake; rw [if_neg h5]; rfl
         · unfold pTake; rw [if_neg h5]; exact h4))

def pFol (xs : List Nat) (s : PS) : PR := (decide (¬ at0 xs (skp xs s.1) = 0 ∧ ¬ at0 xs (skp xs s.1) = 124 ∧ ¬ at0 xs (skp xs s.1) = 41), (skp xs s.1, s.2))

set_option maxHeartbeats 4000000 in
set_option maxRecDepth 100000 in
theorem kR_partFollows (G : zG) (d : Nat) (hd : 3 ≤ d) {n : Nat} {sh : zSh} {row : zRw} {r q : Nat} {xs : List Nat} {s : PS} (hR : RdA sh row r q xs s) : zM G (fR_partFollows d) [.ref r] n sh row (zpR sh (fun v row' => v = .int (bI (pFol xs s).1) ∧ frR r q row row' ∧ RdA sh row' r q xs (pFol xs s).2)) := by
  refine zM.of (by show plainName "PostIndex$QueryReader" = true; decide +kernel) (Nat.le_of_ble_eq_true rfl) (by intro v hv; simp at hv; rcases hv with rfl <;> rfl) ?_
  intro K hE
  show zX G K (fR_partFollows d) n 0 0 sh row 0 [.ref r, .retAddr 0] []
  have hD : d - 1 + 1 ≤ d := by omega
  obtain ⟨hs, hp0, hp1, hp2, hT, hQ, hat, hdj⟩ := id hR
  have hxl := hT.2.2.2.2.1
  refine zx_aload_n dR_partFollows_0 rfl ?_
  refine zc_Vr (kR_peekPiece G (d - 1) (by omega) hR) (meR_peekPiece _) lkR_41 hs rfl rfl hD (Nat.le_of_ble_eq_true rfl) rfl rfl (Nat.le_of_ble_eq_true rfl) (Nat.le_of_ble_eq_true rfl) (Nat.le_of_ble_eq_true rfl) dR_partFollows_1 (fun v r2 h2 => ?_)
  obtain ⟨rfl, h3, h4⟩ := h2
  obtain ⟨gs, gp0, gp1, gp2, gT, gQ, gat, gdj⟩ := id h4
  have gct := gT.2.2.2.1
  have gat : skp xs s.1 ≤ xs.length := gat
  have gp2 : r2 r 2 = .int (nI (skp xs s.1)) := gp2
  have hz := gT.lt (i := skp xs s.1)
  refine zx_istore_n dR_partFollows_4 (Nat.le_of_ble_eq_true rfl) rfl rfl ?_
  refine zx_iload_n dR_partFollows_5 rfl ?_
  refine zn_if_eq (tgt := 25) dR_partFollows_6 rfl (by omega) (fun h6 => ?_) (fun h6 => ?_)
  · refine zx_iconst (v := nI 0) dR_partFollows_25 (by decide) ?_
    exact zx_zret hE rfl (by first | decide | exact bI_nar _) dR_partFollows_26 rfl (Nat.le_of_ble_eq_true rfl) (by refine ⟨_, rfl, rfl, ?_, h3, h4⟩; unfold pFol; first | (rw [decide_eq_true (by omega)]; rfl) | (rw [decide_eq_false (by omega)]; rfl))
  · refine zx_iload_n dR_partFollows_9 rfl ?_
    refine zx_bipush (v := nI 124) dR_partFollows_10 (by decide) ?_
    refine zn_icmp_eq (tgt := 25) dR_partFollows_12 rfl (by omega) (by omega) (fun h12 => ?_) (fun h12 => ?_)
    · refine zx_iconst (v := nI 0) dR_partFollows_25 (by decide) ?_
      exact zx_zret hE rfl (by first | decide | exact bI_nar _) dR_partFollows_26 rfl (Nat.le_of_ble_eq_true rfl) (by refine ⟨_, rfl, rfl, ?_, h3, h4⟩; unfold pFol; first | (rw [decide_eq_true (by omega)]; rfl) | (rw [decide_eq_false (by omega)]; rfl))
    · refine zx_iload_n dR_partFollows_15 rfl ?_
      refine zx_bipush (v := nI 41) dR_partFollows_16 (by decide) ?_
      refine zn_icmp_eq (tgt := 25) dR_partFollows_18 rfl (by omega) (by omega) (fun h18 => ?_) (fun h18 => ?_)
      · refine zx_iconst (v := nI 0) dR_partFollows_25 (by decide) ?_
        exact zx_zret hE rfl (by first | decide | exact bI_nar _) dR_partFollows_26 rfl (Nat.le_of_ble_eq_true rfl) (by refine ⟨_, rfl, rfl, ?_, h3, h4⟩; unfold pFol; first | (rw [decide_eq_true (by omega)]; rfl) | (rw [decide_eq_false (by omega)]; rfl))
      · refine zx_iconst (v := nI 1) dR_partFollows_21 (by decide) ?_
        refine zx_goto (tgt := 26) dR_partFollows_22 rfl ?_
        exact zx_zret hE rfl (by first | decide | exact bI_nar _) dR_partFollows_26 rfl (Nat.le_of_ble_eq_true rfl) (by refine ⟨_, rfl, rfl, ?_, h3, h4⟩; unfold pFol; first | (rw [decide_eq_true (by omega)]; rfl) | (rw [decide_eq_false (by omega)]; rfl))

set_option maxHeartbeats 4000000 in
set_option maxRecDepth 100000 in
theorem kR_readWord (G : zG) (d : Nat) (hd : 4 ≤ d) {n : Nat} {sh : zSh} {row : zRw} {r q : Nat} {xs : List Nat} {s : PS} (hR : RdA sh row r q xs s) : zM G (fR_readWord d) [.ref r] n sh row (zpR sh (fun v row' => v = .int (bI (pWord xs s).1) ∧ frR r q row row' ∧ RdA sh row' r q xs (pWord xs s).2)) := by
  refine zM.of (by show plainName "PostIndex$QueryReader" = true; decide +kernel) (Nat.le_of_ble_eq_true rfl) (by intro v hv; simp at hv; rcases hv with rfl <;> rfl) ?_
  intro K hE
  show zX G K (fR_readWord d) n 0 0 sh row 0 [.ref r, .retAddr 0] []
  have hD : d - 1 + 1 ≤ d := by omega
  obtain ⟨hs, hp0, hp1, hp2, hT, hQ, hat, hdj⟩ := id hR
  have hxl := hT.2.2.2.2.1
  refine zx_aload_n dR_readWord_0 rfl ?_
  refine zc_Vv (kR_skipSpaces G (d - 1) (by omega) hR) (meR_skipSpaces _) lkR_81 hs rfl rfl hD (Nat.le_of_ble_eq_true rfl) rfl rfl (Nat.le_of_ble_eq_true rfl) (Nat.le_of_ble_eq_true rfl) (Nat.le_of_ble_eq_true rfl) dR_readWord_1 (fun r2 h2 => ?_)
  obtain ⟨h3, h4⟩ := h2
  obtain ⟨gs, gp0, gp1, gp2, gT, gQ, gat, gdj⟩ := id h4
  have gct := gT.2.2.2.1
  have gat : skp xs s.1 ≤ xs.length := gat
  have gp2 : r2 r 2 = .int (nI (skp xs s.1)) := gp2
  have hte := tokEnd_le (xs := xs) gat
  have htg := tokEnd_ge (xs := xs) (f := skp xs s.1)
  refine zx_aload_n dR_readWord_4 rfl ?_
  refine zx_get dR_readWord_5 flR_33 (by assumption) (by assumption) ?_
  refine zx_istore_n dR_readWord_8 (Nat.le_of_ble_eq_true rfl) rfl rfl ?_
  refine zx_aload_n dR_readWord_9 rfl ?_
  refine zx_aload_n dR_readWord_10 rfl ?_
  refine zx_get dR_readWord_11 flR_12 (by assumption) (by assumption) ?_
  refine zx_iload_n dR_readWord_14 rfl ?_
  refine zc_V (kT_tokenEnd G (d - 1) (by omega) gT (by omega)) (meT_tokenEnd _) lkR_84 gT.1 rfl rfl hD (Nat.le_of_ble_eq_true rfl) rfl rfl (Nat.le_of_ble_eq_true rfl) (Nat.le_of_ble_eq_true rfl) (Nat.le_of_ble_eq_true rfl) dR_readWord_15 ?_
  refine zx_put dR_readWord_18 flR_33 tpR_2 hs rfl rfl ?_
  have h6 := h4.at hte
  obtain ⟨ks0, kp0, kp1, kp2, kT, kQ, kat, kdj⟩ := id h6
  refine zx_aload_n dR_readWord_21 rfl ?_
  refine zx_get dR_readWord_22 flR_33 (by assumption) (by assumption) ?_
  refine zx_iload_n dR_readWord_25 rfl ?_
  refine zn_icmp_le (tgt := 52) dR_readWord_26 rfl (by omega) (by omega) (fun h26 => ?_) (fun h26 => ?_)
  · refine zx_iconst (v := nI 0) dR_readWord_52 (by decide) ?_
    exact zx_zret hE rfl (by first | decide | exact bI_nar _) dR_readWord_53 rfl (Nat.le_of_ble_eq_true rfl) (by
      unfold pWord
      first
      | (rw [if_pos (by omega)]
         have h7 := hq7.2.1
         have h8 := hq7.2.2
         refine ⟨_, rfl, rfl, ?_, (h3.tr frR_up).tr h7.R, (h6.qry h7 h8)⟩
         rw [h45]; rfl)
      | (rw [if_neg (by omega)]
         exact ⟨_, rfl, rfl, rfl, h3.tr frR_up, h6⟩))
  · refine zx_aload_n dR_readWord_29 rfl ?_
    refine zx_get dR_readWord_30 flR_21 (by assumption) (by assumption) ?_
    refine zx_aload_n dR_readWord_33 rfl ?_
    refine zx_get dR_readWord_34 flR_12 (by assumption) (by assumption) ?_
    refine zx_iload_n dR_readWord_37 rfl ?_
    refine zx_aload_n dR_readWord_38 rfl ?_
    refine zx_get dR_readWord_39 flR_33 (by assumption) (by assumption) ?_
    refine zc_Vr (kQ_addWord G (d - 1) (by omega) kQ kT (by omega) htg hte) (meQ_addWord _) lkR_88 kQ.1.1 rfl rfl hD (Nat.le_of_ble_eq_true rfl) rfl rfl (Nat.le_of_ble_eq_true rfl) (Nat.le_of_ble_eq_true rfl) (Nat.le_of_ble_eq_true rfl) dR_readWord_42 (fun v r4 hq7 => ?_)
    have hv := hq7.1
    subst hv
    refine zb_if_eq (tgt := 52) dR_readWord_45 rfl (fun h45 => ?_) (fun h45 => ?_)
    · refine zx_iconst (v := nI 0) dR_readWord_52 (by decide) ?_
      exact zx_zret hE rfl (by first | decide | exact bI_nar _) dR_readWord_53 rfl (Nat.le_of_ble_eq_true rfl) (by
      unfold pWord
      first
      | (rw [if_pos (by omega)]
         have h7 := hq7.2.1
         have h8 := hq7.2.2
         refine ⟨_, rfl, rfl, ?_, (h3.tr frR_up).tr h7.R, (h6.qry h7 h8)⟩
         rw [h45]; rfl)
      | (rw [if_neg (by omega)]
         exact ⟨_, rfl, rfl, rfl, h3.tr frR_up, h6⟩))
    · refine zx_iconst (v := nI 1) dR_readWord_48 (by decide) ?_
      refine zx_goto (tgt := 53) dR_readWord_49 rfl ?_
      exact zx_zret hE rfl (by first | decide | exact bI_nar _) dR_readWord_53 rfl (Nat.le_of_ble_eq_true rfl) (by
      unfold pWord
      first
      | (rw [if_pos (by omega)]
         have h7 := hq7.2.1
         have h8 := hq7.2.2
         refine ⟨_, rfl, rfl, ?_, (h3.tr frR_up).tr h7.R, (h6.qry h7 h8)⟩
         rw [h45]; rfl)
      | (rw [if_neg (by omega)]
         exact ⟨_, rfl, rfl, rfl, h3.tr frR_up, h6⟩))

