section ZT2
variable {G : zG} {K : zK} {F : zF} {n0 ce sl : Nat} {sh : zSh} {row : zRw} {pc : Nat} {ls st : List Value}
theorem zn_min {a b idx : Nat} (hd : decode (zcc F) pc = .ok (.invokestatic idx, 3)) (hl : Cond.methodLink (zow F) idx Lib.Math.min.name ∈ zAll ∧ Cond.static Lib.Math.min.name ∈ zAll ∧ Cond.initialized "java/lang/Math" ∈ zAll ∧ Cond.code Lib.Math.min.name Lib.Math.min.code 2 (some .int) ∈ zAll) (hz : 1 ≤ zd F) (hs : (st.map fun v => v.category).sum ≤ 8) (hce : ce ≤ zmc F) (hsl : sl ≤ zms F) (ha : a < 2147483648) (hb : b < 2147483648) (kk : zX G K F n0 ce sl sh row (pc + 3) ls (.int (nI (min a b)) :: st)) : zX G K F n0 ce sl sh row pc ls (.int (nI b) :: .int (nI a) :: st) := by
  refine zx_min hd hl hz hs hce hsl ?_
  have e : (if nI b < nI a then nI b else nI a) = nI (min a b) := by
    by_cases h : b < a
    · rw [if_pos ((nI_ltI (zL31 hb) (zL31 ha)).mpr h), Nat.min_eq_right (by omega)]
    · rw [if_neg (fun g => h ((nI_ltI (zL31 hb) (zL31 ha)).mp g)), Nat.min_eq_left (by omega)]
  rw [e]
  exact kk
end ZT2
/-- nothing but the text at t has changed -/
def fr2 (t : Nat) (row row' : zRw) : Prop := ∀ b, b ≠ t → b ≠ t + 1 → row' b = row b
theorem fr2.rf {t : Nat} {row : zRw} : fr2 t row row := fun _ _ _ => rfl
theorem fr2.tr {t : Nat} {r1 r2 r3 : zRw} (h : fr2 t r1 r2) (g : fr2 t r2 r3) : fr2 t r1 r3 := fun b h1 h2 => (g b h1 h2).trans (h b h1 h2)
theorem Txt.keep {sh : zSh} {row row' : zRw} {t : Nat} {xs : List Nat} (h : Txt sh row t xs) (h1 : row' t = row t) (h2 : row' (t + 1) = row (t + 1)) : Txt sh row' t xs := by
  unfold Txt at h ⊢
  rw [h1, h2]
  exact h
/-- another text than t keeps what it has -/
theorem Txt.other {sh : zSh} {row row' : zRw} {t o : Nat} {ys : List Nat} (h : Txt sh row o ys) (hf : fr2 t row row') (hn : o ≠ t) (hs : sh t = some (0, 5, 2)) (hs2 : sh (t + 1) = some (1, 1, 24)) : Txt sh row' o ys := by
  have a1 : o ≠ t + 1 := fun e => by rw [e] at h; have := h.1; rw [hs2] at this; cases this
  have a2 : o + 1 ≠ t := fun e => by have := h.2.1; rw [e, hs] at this; cases this
  exact h.keep (hf o hn a1) (hf (o + 1) a2 (by omega))
theorem Txt.push {sh : zSh} {row : zRw} {t c : Nat} {xs : List Nat} (h : Txt sh row t xs) (hl : xs.length < 24) (hc : c < 127) : Txt sh (zup (zup row (t + 1) xs.length (.int (nI c))) t 1 (.int (nI (xs.length + 1)))) t (xs ++ [c]) := by
  obtain ⟨h1, h2, h3, h4, h5, h6⟩ := h
  refine ⟨h1, h2, ?_, ?_, by simp; omega, fun i hi => ?_⟩
  · rw [zup_k (Or.inr (by decide)), zup_k (Or.inl (by omega))]; exact h3
  · rw [zup_same]; simp
  · rw [zup_k (Or.inl (by omega))]
    by_cases hx : i = xs.length
    · subst hx
      exact ⟨c, hc, zup_same _ _ _, fun _ => by simp⟩
    · obtain ⟨z, a, b, e⟩ := h6 i hi
      refine ⟨z, a, by rw [zup_k (Or.inr hx)]; exact b, fun hl2 => ?_⟩
      have : i < xs.length := by simp at hl2; omega
      rw [List.getElem?_append_left this]
      exact e this
theorem Txt.empty {sh : zSh} {row : zRw} {t : Nat} {xs : List Nat} (h : Txt sh row t xs) : Txt sh (zup row t 1 (.int (nI 0))) t [] := by
  obtain ⟨h1, h2, h3, h4, h5, h6⟩ := h
  refine ⟨h1, h2, ?_, zup_same _ _ _, by simp, fun i hi => ?_⟩
  · rw [zup_k (Or.inr (by decide))]; exact h3
  · obtain ⟨z, a, b, e⟩ := h6 i hi
    exact ⟨z, a, by rw [zup_k (Or.inl (by omega))]; exact b, fun h => by simp at h⟩
theorem fr2_up {row : zRw} {t k : Nat} {v : Value} : fr2 t row (zup row t k v) := fun b h1 _ => zup_ne h1
theorem fr2_up1 {row : zRw} {t k : Nat} {v : Value} : fr2 t row (zup row (t + 1) k v) := fun b _ h2 => zup_ne h2
theorem Txt.lt {sh : zSh} {row : zRw} {t i : Nat} {xs : List Nat} (h : Txt sh row t xs) : at0 xs i < 127 := by
  unfold at0
  rw [List.getD_eq_getElem?_getD]
  by_cases hi : i < xs.length
  · obtain ⟨z, a, b, e⟩ := h.2.2.2.2.2 i (by have := h.2.2.2.2.1; omega)
    rw [e hi]; exact a
  · rw [List.getElem?_eq_none (by omega)]; decide
theorem fold1_127 {c : Nat} (h : c < 127) : fold1 c < 127 := by unfold fold1; split <;> omega
/-- where a word ends; a token's end; a token's beginning -/
def scanW (xs : List Nat) (i : Nat) : Nat := i + ((xs.drop i).takeWhile isWd).length
def tokS (xs : List Nat) (f : Nat) : Nat := if at0 xs f = 35 ∨ at0 xs f = 64 then f + 1 else f
def tokEnd (xs : List Nat) (f : Nat) : Nat := if tokS xs f < scanW xs (tokS xs f) then scanW xs (tokS xs f) else f
def tokStart (xs : List Nat) (f : Nat) : Nat := if f < xs.length then (if f < tokEnd xs f then f else tokStart xs (f + 1)) else xs.length
termination_by xs.length - f
theorem drop_at0 {xs : List Nat} {i : Nat} (h : i < xs.length) : xs.drop i = at0 xs i :: xs.drop (i + 1) := by
  rw [List.drop_eq_getElem_cons h]
  unfold at0
  rw [List.getD_eq_getElem?_getD, List.getElem?_eq_getElem h]
  rfl
theorem scanW_s {xs : List Nat} {i : Nat} (h : i < xs.length) (hw : isWd (at0 xs i) = true) : scanW xs i = scanW xs (i + 1) := by
  unfold scanW
  rw [drop_at0 h, List.takeWhile_cons_of_pos hw]
  simp only [List.length_cons]
  omega
theorem scanW_e {xs : List Nat} {i : Nat} (h : xs.length ≤ i ∨ isWd (at0 xs i) = false) : scanW xs i = i := by
  unfold scanW
  by_cases hl : i < xs.length
  · rw [drop_at0 hl, List.takeWhile_cons_of_neg (by rcases h with h | h; omega; rw [h]; decide)]
    rfl
  · rw [List.drop_eq_nil_of_le (by omega)]
    rfl
theorem scanW_ge {xs : List Nat} {i : Nat} : i ≤ scanW xs i := by unfold scanW; omega
theorem scanW_le {xs : List Nat} {i : Nat} (h : i ≤ xs.length) : scanW xs i ≤ xs.length := by
  unfold scanW
  have := (List.takeWhile_sublist (l := xs.drop i) isWd).length_le
  rw [List.length_drop] at this
  omega
theorem at0_big {xs : List Nat} {f : Nat} (h : xs.length ≤ f) : at0 xs f = 0 := by
  unfold at0; rw [List.getD_eq_getElem?_getD, List.getElem?_eq_none h]; rfl
theorem tokEnd_ge {xs : List Nat} {f : Nat} : f ≤ tokEnd xs f := by
  unfold tokEnd
  have h1 : f ≤ tokS xs f := by unfold tokS; split <;> omega
  have h2 := @scanW_ge xs (tokS xs f)
  split <;> omega
theorem tokEnd_le {xs : List Nat} {f : Nat} (h : f ≤ xs.length) : tokEnd xs f ≤ xs.length := by
  unfold tokEnd
  split
  · refine scanW_le ?_
    unfold tokS
    split
    · next hq =>
      by_cases hf : f < xs.length
      · omega
      · rw [at0_big (by omega)] at hq; omega
    · exact h
  · exact h
theorem tokStart_le {xs : List Nat} {f : Nat} (h : f ≤ xs.length) : f ≤ tokStart xs f ∧ tokStart xs f ≤ xs.length := by
  generalize hm : xs.length - f = m
  induction m generalizing f with
  | zero =>
    rw [tokStart, if_neg (by omega)]
    omega
  | succ m ih =>
    rw [tokStart, if_pos (by omega)]
    split
    · omega
    · have := ih (f := f + 1) (by omega) (by omega)
      omega

set_option maxHeartbeats 4000000 in
set_option maxRecDepth 100000 in
theorem kT_init (G : zG) (d : Nat) (hd : 1 ≤ d) {n : Nat} {sh : zSh} {row : zRw} {t : Nat} (hs : sh t = some (0, 5, 2)) (ht : t ≤ n) : zM G (fT_init d) [.ref t] n sh row (fun r sh' row' => r = none ∧ sh' = zps sh (n + 1) (1, 1, 24) ∧ row' = zup (zpr row (n + 1) (fun _ => .int 0)) t 0 (.ref (n + 1))) := by
  refine zM.of (by show plainName "PostIndex$Text" = true; decide +kernel) (Nat.le_of_ble_eq_true rfl) (by intro v hv; simp at hv; rcases hv with rfl <;> rfl) ?_
  intro K hE
  show zX G K (fT_init d) n 0 0 sh row 0 [.ref t] []
  have hD : d - 1 + 1 ≤ d := by omega
  refine zx_aload_n dT_init_0 rfl ?_
  refine zx_obj dT_init_1 lkT_3 (by show 1 ≤ d; omega) (Nat.le_of_ble_eq_true rfl) ?_
  refine zx_aload_n dT_init_4 rfl ?_
  refine zx_bipush (v := nI 24) dT_init_5 (by decide) ?_
  refine zx_newa (N := 24) dT_init_7 arC rfl rfl (by decide) (by decide) (by decide) (Nat.le_of_ble_eq_true rfl) (Nat.le_of_ble_eq_true rfl) ?_
  refine zx_putF hE rfl (fun C T h => by cases h; rfl) dT_init_9 flT_9 tpT_0 (by rw [zps_ne (by omega)]; exact hs) rfl rfl ?_
  exact zx_vret hE rfl dT_init_12 rfl (Nat.le_of_ble_eq_true rfl) ⟨rfl, rfl, rfl⟩

set_option maxHeartbeats 4000000 in
set_option maxRecDepth 100000 in
theorem kT_append (G : zG) (d : Nat) (hd : 0 ≤ d) {n : Nat} {sh : zSh} {row : zRw} {t c : Nat} {xs : List Nat} (hT : Txt sh row t xs) (hc : c < 127) : zM G (fT_append d) [.ref t, .int (nI c)] n sh row (zpR sh (fun v row' => v = .int (bI (decide (xs.length < 24))) ∧ fr2 t row row' ∧ Txt sh row' t (if xs.length < 24 then xs ++ [c] else xs))) := by
  refine zM.of (by show plainName "PostIndex$Text" = true; decide +kernel) (Nat.le_of_ble_eq_true rfl) (by intro v hv; simp at hv; rcases hv with rfl | rfl <;> rfl) ?_
  intro K hE
  show zX G K (fT_append d) n 0 0 sh row 0 [.ref t, .int (nI c)] []
  obtain ⟨hs1, hs2, hp, hct, hl, hch⟩ := id hT
  refine zx_aload_n dT_append_0 rfl ?_
  refine zx_get dT_append_1 flT_15 (by assumption) (by assumption) ?_
  refine zx_bipush (v := nI 24) dT_append_4 (by decide) ?_
  refine zn_icmp_lt (tgt := 11) dT_append_6 rfl (by omega) (by omega) (fun h6 => ?_) (fun h6 => ?_)
  · refine zx_aload_n dT_append_11 rfl ?_
    refine zx_get dT_append_12 flT_9 (by assumption) (by assumption) ?_
    refine zx_aload_n dT_append_15 rfl ?_
    refine zx_get dT_append_16 flT_15 (by assumption) (by assumption) ?_
    refine zx_iload_n dT_append_19 rfl ?_
    refine zn_cast dT_append_20 hs2 rfl (by omega) (by decide) (by omega) ?_
    have hct1 : zup row (t + 1) xs.length (.int (nI c)) t 1 = .int (nI xs.length) := by rw [zup_k (Or.inl (by omega))]; exact hct
    refine zx_aload_n dT_append_21 rfl ?_
    refine zx_dup dT_append_22 rfl ?_
    refine zx_get dT_append_23 flT_15 (by assumption) (by assumption) ?_
    refine zx_iconst (v := nI 1) dT_append_26 (by decide) ?_
    refine zn_iadd dT_append_27 ?_
    refine zx_put dT_append_28 flT_15 tpT_1 (by assumption) rfl rfl ?_
    refine zx_iconst (v := nI 1) dT_append_31 (by decide) ?_
    exact zx_zret hE rfl (by first | decide | exact bI_nar _) dT_append_32 rfl (Nat.le_of_ble_eq_true rfl) (by first | exact ⟨_, rfl, rfl, by rw [decide_eq_true h6]; rfl, fr2.tr fr2_up1 fr2_up, by rw [if_pos h6]; exact hT.push h6 hc⟩ | exact ⟨_, rfl, rfl, by rw [decide_eq_false h6]; rfl, fr2.rf, by rw [if_neg h6]; exact hT⟩)
  · refine zx_iconst (v := nI 0) dT_append_9 (by decide) ?_
    exact zx_zret hE rfl (by first | decide | exact bI_nar _) dT_append_10 rfl (Nat.le_of_ble_eq_true rfl) (by first | exact ⟨_, rfl, rfl, by rw [decide_eq_true h6]; rfl, fr2.tr fr2_up1 fr2_up, by rw [if_pos h6]; exact hT.push h6 hc⟩ | exact ⟨_, rfl, rfl, by rw [decide_eq_false h6]; rfl, fr2.rf, by rw [if_neg h6]; exact hT⟩)

theorem sfstep {sh : zSh} {r : zRw} {t fr i : Nat} {ys : List Nat} (h : Txt sh r t (((ys.drop fr).take (i - fr)).map fold1 ++ [fold1 (at0 ys i)])) (h1 : fr ≤ i) (h2 : i < ys.length) : Txt sh r t (((ys.drop fr).take (i + 1 - fr)).map fold1) := by
  have e : (ys.drop fr).take (i + 1 - fr) = (ys.drop fr).take (i - fr) ++ [at0 ys i] := by
    rw [show i + 1 - fr = i - fr + 1 by omega, List.take_add_one, List.getElem?_drop, show fr + (i - fr) = i by omega]
    unfold at0
    rw [List.getD_eq_getElem?_getD, List.getElem?_eq_getElem h2]
    rfl
  rw [e, List.map_append]
  exact h

set_option maxHeartbeats 4000000 in
set_option maxRecDepth 100000 in
theorem kT_setFolded (G : zG) (d : Nat) (hd : 2 ≤ d) {n : Nat} {sh : zSh} {row : zRw} {t o fr to : Nat} {xs ys : List Nat} (hT : Txt sh row t xs) (hO : Txt sh row o ys) (hn : o ≠ t) (h1 : fr ≤ to) (h2 : to ≤ ys.length) : zM G (fT_setFolded d) [.ref t, .ref o, .int (nI fr), .int (nI to)] n sh row (zpV sh (fun row' => fr2 t row row' ∧ Txt sh row' t (((ys.drop fr).take (to - fr)).map fold1))) := by
  refine zM.of (by show plainName "PostIndex$Text" = true; decide +kernel) (Nat.le_of_ble_eq_true rfl) (by intro v hv; simp at hv; rcases hv with rfl | rfl | rfl | rfl <;> rfl) ?_
  intro K hE
  show zX G K (fT_setFolded d) n 0 0 sh row 0 [.ref t, .ref o, .int (nI fr), .int (nI to), .retAddr 0] []
  have hD : d - 1 + 1 ≤ d := by omega
  obtain ⟨hs1, hs2, hp, hct, hl, hch⟩ := id hT
  have hyl := hO.2.2.2.2.1
  have loop : ∀ (k : Nat) (i : Nat) (r2 : zRw), to - i < k → fr ≤ i → i ≤ to → fr2 t row r2 → Txt sh r2 t (((ys.drop fr).take (i - fr)).map fold1) → zX G K (fT_setFolded d) n 0 0 sh r2 8 [.ref t, .ref o, .int (nI fr), .int (nI to), .int (nI i)] [] := by
    intro k
    induction k with
    | zero => intro i r2 hk; exact absurd hk (Nat.not_lt_zero _)
    | succ k ih =>
      intro i r2 hk h3 h4 h5 h6
      have hO2 := hO.other h5 hn hs1 hs2
      have hz := hO2.lt (i := i)
      have hf := fold1_127 hz
      refine zx_iload dT_setFolded_8 rfl ?_
      refine zx_iload_n dT_setFolded_10 rfl ?_
      refine zn_icmp_ge (tgt := 34) dT_setFolded_11 rfl (by omega) (by omega) (fun h11 => ?_) (fun h11 => ?_)
      · exact zx_vret hE rfl dT_setFolded_34 rfl (Nat.le_of_ble_eq_true rfl) (by obtain rfl : i = to := (by omega); exact ⟨rfl, rfl, h5, h6⟩)
      · refine zx_aload_n dT_setFolded_14 rfl ?_
        refine zx_aload_n dT_setFolded_15 rfl ?_
        refine zx_iload dT_setFolded_16 rfl ?_
        refine zc_V (kT_charOr0 G (d - 1) (by omega) hO2 (by omega)) (meT_charOr0 _) lkT_31 hO2.1 rfl rfl hD (Nat.le_of_ble_eq_true rfl) rfl rfl (Nat.le_of_ble_eq_true rfl) (Nat.le_of_ble_eq_true rfl) (Nat.le_of_ble_eq_true rfl) dT_setFolded_18 ?_
        refine zc_S (kT_folded G (d - 1) (by omega) (by omega)) (meT_folded _) lkT_35 rfl hD (Nat.le_of_ble_eq_true rfl) rfl rfl (Nat.le_of_ble_eq_true rfl) (Nat.le_of_ble_eq_true rfl) (Nat.le_of_ble_eq_true rfl) dT_setFolded_21 ?_
        refine zc_Vr (kT_append G (d - 1) (by omega) h6 hf) (meT_append _) lkT_39 hs1 rfl rfl hD (Nat.le_of_ble_eq_true rfl) rfl rfl (Nat.le_of_ble_eq_true rfl) (Nat.le_of_ble_eq_true rfl) (Nat.le_of_ble_eq_true rfl) dT_setFolded_24 (fun v r3 h7 => ?_)
        obtain ⟨rfl, h8, h9⟩ := h7
        refine zx_pop dT_setFolded_27 rfl ?_
        refine zn_iinc (c := 1) dT_setFolded_28 (Nat.le_of_ble_eq_true rfl) rfl rfl ?_
        refine zx_goto (tgt := 8) dT_setFolded_31 rfl ?_
        refine ih (i + 1) r3 (by omega) (by omega) (by omega) (h5.tr h8) ?_
        rw [if_pos (by simp; omega)] at h9
        exact sfstep h9 (by omega) (by omega)
  refine zx_aload_n dT_setFolded_0 rfl ?_
  refine zx_iconst (v := nI 0) dT_setFolded_1 (by decide) ?_
  refine zx_put dT_setFolded_2 flT_15 tpT_1 (by assumption) rfl rfl ?_
  refine zx_iload_n dT_setFolded_5 rfl ?_
  refine zx_istore dT_setFolded_6 (Nat.le_of_ble_eq_true rfl) rfl rfl ?_
  exact loop (to - fr + 1) fr _ (by omega) (Nat.le_refl _) h1 fr2_up (by rw [Nat.sub_self]; exact hT.empty)

