section ZT3
variable {G : zG} {K : zK} {F : zF} {n0 ce sl : Nat} {sh : zSh} {row : zRw} {pc : Nat} {ls st : List Value}
theorem zn_copy {a a' t N N' idx sp dp w : Nat} {ty : FieldType} (hd : decode (zcc F) pc = .ok (.invokestatic idx, 3)) (hl : Cond.methodLink (zow F) idx arraycopyName ∈ zAll ∧ Cond.native arraycopyName ∈ zAll ∧ Cond.static arraycopyName ∈ zAll ∧ Cond.initialized "java/lang/System" ∈ zAll) (hs : sh a = some (1, t, N)) (hs' : sh a' = some (1, t, N')) (ht : zTy[t]? = some ty) (hp : refKind ty = false) (hN : N < 2147483648) (hN' : N' < 2147483648) (h4 : sp + w ≤ N) (h5 : dp + w ≤ N') (hfit : ∀ i, i < w → fits ty (.int (zi (row a (sp + i)))) = true) (hz : 2 ≤ zd F) (hst : (st.map fun v => v.category).sum ≤ 8)
    (kk : zX G K F n0 ce sl sh (zpr row a' (fun k => .int (va_cpy (fun k => zi (row a k)) (fun k => zi (row a' k)) sp dp w k))) (pc + 3) ls st) : zX G K F n0 ce sl sh row pc ls (.int (nI w) :: .int (nI dp) :: .ref a' :: .int (nI sp) :: .ref a :: st) := by
  have e1 : (nI sp).toNatClampNeg = sp := nI_cl (by omega)
  have e2 : (nI dp).toNatClampNeg = dp := nI_cl (by omega)
  have e3 : (nI w).toNatClampNeg = w := nI_cl (by omega)
  refine zx_copy hd hl hs hs' ht hp (nI_pos (zL31 (by omega))) (nI_pos (zL31 (by omega))) (nI_pos (zL31 (by omega))) (by rw [e1, e3]; exact h4) (by rw [e2, e3]; exact h5) (by rw [e1, e3]; exact hfit) hz hst ?_
  rw [e1, e2, e3]
  exact kk
end ZT3
theorem Txt.copy {sh : zSh} {row : zRw} {t o k : Nat} {xs ys : List Nat} (hT : Txt sh row t xs) (hO : Txt sh row o ys) (hk : k ≤ ys.length) (hx : xs.length + k ≤ 24) : Txt sh (zup (zpr row (t + 1) (fun j => .int (va_cpy (fun k => zi (row (o + 1) k)) (fun k => zi (row (t + 1) k)) 0 xs.length k j))) t 1 (.int (nI (xs.length + k)))) t (xs ++ ys.take k) := by
  obtain ⟨h1, h2, h3, h4, h5, h6⟩ := hT
  have hlen : (xs ++ ys.take k).length = xs.length + k := by simp; omega
  refine ⟨h1, h2, ?_, ?_, by rw [hlen]; exact hx, fun i hi => ?_⟩
  · rw [zup_k (Or.inr (by decide)), zpr_ne (by omega)]; exact h3
  · rw [zup_same, hlen]
  · rw [zup_k (Or.inl (by omega)), zpr_self, hlen]
    by_cases hq : xs.length ≤ i ∧ i < xs.length + k
    · obtain ⟨z, a, b, e⟩ := hO.2.2.2.2.2 (i - xs.length) (by omega)
      refine ⟨z, a, ?_, fun _ => ?_⟩
      · show Value.int (va_cpy _ _ 0 xs.length k i) = _
        unfold va_cpy
        rw [if_pos hq, Nat.zero_add]
        show Value.int (zi (row (o + 1) (i - xs.length))) = _
        rw [b]
        rfl
      · rw [List.getElem?_append_right hq.1, List.getElem?_take_of_lt (by omega)]
        exact e (by omega)
    · obtain ⟨z, a, b, e⟩ := h6 i hi
      refine ⟨z, a, ?_, fun hl => ?_⟩
      · show Value.int (va_cpy _ _ 0 xs.length k i) = _
        unfold va_cpy
        rw [if_neg hq]
        show Value.int (zi (row (t + 1) i)) = _
        rw [b]
        rfl
      · have : i < xs.length := by omega
        rw [List.getElem?_append_left this]
        exact e this

set_option maxHeartbeats 4000000 in
set_option maxRecDepth 100000 in
theorem kT_appendBeginning (G : zG) (d : Nat) (hd : 2 ≤ d) {n : Nat} {sh : zSh} {row : zRw} {t o : Nat} {xs ys : List Nat} (hT : Txt sh row t xs) (hO : Txt sh row o ys) : zM G (fT_appendBeginning d) [.ref t, .ref o] n sh row (zpR sh (fun v row' => v = .int (nI (min ys.length (24 - xs.length))) ∧ fr2 t row row' ∧ Txt sh row' t (xs ++ ys.take (min ys.length (24 - xs.length))))) := by
  refine zM.of (by show plainName "PostIndex$Text" = true; decide +kernel) (Nat.le_of_ble_eq_true rfl) (by intro v hv; simp at hv; rcases hv with rfl | rfl <;> rfl) ?_
  intro K hE
  show zX G K (fT_appendBeginning d) n 0 0 sh row 0 [.ref t, .ref o, .retAddr 0] []
  have hD : d - 1 + 1 ≤ d := by omega
  obtain ⟨hs1, hs2, hp, hct, hl, hch⟩ := id hT
  obtain ⟨ho1, ho2, hop, hoc, hol, hoh⟩ := id hO
  refine zx_aload_n dT_appendBeginning_0 rfl ?_
  refine zx_get dT_appendBeginning_1 flT_15 (by assumption) (by assumption) ?_
  refine zx_bipush (v := nI 24) dT_appendBeginning_4 (by decide) ?_
  refine zx_aload_n dT_appendBeginning_6 rfl ?_
  refine zx_get dT_appendBeginning_7 flT_15 (by assumption) (by assumption) ?_
  refine zn_isub dT_appendBeginning_10 (by omega) ?_
  refine zn_min dT_appendBeginning_11 lkT_19 (by show 1 ≤ d; omega) (Nat.le_of_ble_eq_true rfl) (Nat.le_of_ble_eq_true rfl) (Nat.le_of_ble_eq_true rfl) (by omega) (by omega) ?_
  refine zx_istore_n dT_appendBeginning_14 (Nat.le_of_ble_eq_true rfl) rfl rfl ?_
  refine zx_aload_n dT_appendBeginning_15 rfl ?_
  refine zx_get dT_appendBeginning_16 flT_9 (by assumption) (by assumption) ?_
  refine zx_iconst (v := nI 0) dT_appendBeginning_19 (by decide) ?_
  refine zx_aload_n dT_appendBeginning_20 rfl ?_
  refine zx_get dT_appendBeginning_21 flT_9 (by assumption) (by assumption) ?_
  refine zx_aload_n dT_appendBeginning_24 rfl ?_
  refine zx_get dT_appendBeginning_25 flT_15 (by assumption) (by assumption) ?_
  refine zx_iload_n dT_appendBeginning_28 rfl ?_
  refine zn_copy (ty := .char) dT_appendBeginning_29 lkT_25 ho2 hs2 rfl rfl (by decide) (by decide) (by omega) (by omega) (fun i hi => ?_) (by show 2 ≤ d; omega) (Nat.le_of_ble_eq_true rfl) ?_
  · obtain ⟨z, hz, hz1, -⟩ := hoh (0 + i) (by omega)
    rw [hz1]
    exact (pk_charN (by omega)).2
  have hc2 : zpr row (t + 1) (fun j => .int (va_cpy (fun k => zi (row (o + 1) k)) (fun k => zi (row (t + 1) k)) 0 xs.length (min ys.length (24 - xs.length)) j)) t 1 = .int (nI xs.length) := by rw [zpr_ne (by omega)]; exact hct
  refine zx_aload_n dT_appendBeginning_32 rfl ?_
  refine zx_dup dT_appendBeginning_33 rfl ?_
  refine zx_get dT_appendBeginning_34 flT_15 (by assumption) (by assumption) ?_
  refine zx_iload_n dT_appendBeginning_37 rfl ?_
  refine zn_iadd dT_appendBeginning_38 ?_
  refine zx_put dT_appendBeginning_39 flT_15 tpT_1 (by assumption) rfl rfl ?_
  refine zx_iload_n dT_appendBeginning_42 rfl ?_
  exact zx_iret hE rfl dT_appendBeginning_43 rfl (Nat.le_of_ble_eq_true rfl) ⟨_, rfl, rfl, rfl, fun b b1 b2 => by rw [zup_ne b1, zpr_ne b2], hT.copy hO (by omega) (by omega)⟩

set_option maxHeartbeats 4000000 in
set_option maxRecDepth 100000 in
theorem kT_isSame (G : zG) (d : Nat) (hd : 0 ≤ d) {n : Nat} {sh : zSh} {row : zRw} {t o : Nat} {xs ys : List Nat} (hT : Txt sh row t xs) (hO : Txt sh row o ys) : zM G (fT_isSame d) [.ref t, .ref o] n sh row (zP sh row (.int (bI (decide (xs = ys))))) := by
  refine zM.of (by show plainName "PostIndex$Text" = true; decide +kernel) (Nat.le_of_ble_eq_true rfl) (by intro v hv; simp at hv; rcases hv with rfl | rfl <;> rfl) ?_
  intro K hE
  show zX G K (fT_isSame d) n 0 0 sh row 0 [.ref t, .ref o, .retAddr 0] []
  obtain ⟨hs1, hs2, hp, hct, hl, hch⟩ := id hT
  obtain ⟨ho1, ho2, hop, hoc, hol, hoh⟩ := id hO
  refine zx_aload_n dT_isSame_0 rfl ?_
  refine zx_get dT_isSame_1 flT_15 (by assumption) (by assumption) ?_
  refine zx_aload_n dT_isSame_4 rfl ?_
  refine zx_get dT_isSame_5 flT_15 (by assumption) (by assumption) ?_
  refine zn_icmp_eq (tgt := 13) dT_isSame_8 rfl (by omega) (by omega) (fun h8 => ?_) (fun h8 => ?_)
  · have hle : xs.length = ys.length := h8
    have loop : ∀ (k : Nat) (i : Nat), xs.length - i < k → i ≤ xs.length → (∀ j, j < i → xs[j]? = ys[j]?) → zX G K (fT_isSame d) n 0 0 sh row 15 [.ref t, .ref o, .int (nI i)] [] := by
      intro k
      induction k with
      | zero => intro i hk; exact absurd hk (Nat.not_lt_zero _)
      | succ k ih =>
        intro i hk h3 h4
        refine zx_iload_n dT_isSame_15 rfl ?_
        refine zx_aload_n dT_isSame_16 rfl ?_
        refine zx_get dT_isSame_17 flT_15 (by assumption) (by assumption) ?_
        refine zn_icmp_ge (tgt := 46) dT_isSame_20 rfl (by omega) (by omega) (fun h20 => ?_) (fun h20 => ?_)
        · refine zx_iconst (v := nI 1) dT_isSame_46 (by decide) ?_
          exact zx_zret hE rfl (by first | decide | exact bI_nar _) dT_isSame_47 rfl (Nat.le_of_ble_eq_true rfl) (by first | (refine ⟨?_, rfl, rfl⟩; rw [decide_eq_true]; rfl; apply List.ext_getElem?; intro j; by_cases hj : j < xs.length; exact h4 j (by omega); rw [List.getElem?_eq_none (by omega), List.getElem?_eq_none (by omega)]) | (refine ⟨?_, rfl, rfl⟩; rw [decide_eq_false]; rfl; intro e; have e1 := hz2 (by omega); have e2 := hw2 (by omega); rw [e, e2] at e1; exact h35 (Option.some.inj e1).symm))
        · refine zx_aload_n dT_isSame_23 rfl ?_
          refine zx_get dT_isSame_24 flT_9 (by assumption) (by assumption) ?_
          refine zx_iload_n dT_isSame_27 rfl ?_
          obtain ⟨z, hz, hz1, hz2⟩ := hch i (by omega)
          refine zn_cald dT_isSame_28 hs2 rfl (by omega) (by decide) hz1 ?_
          refine zx_aload_n dT_isSame_29 rfl ?_
          refine zx_get dT_isSame_30 flT_9 (by assumption) (by assumption) ?_
          refine zx_iload_n dT_isSame_33 rfl ?_
          obtain ⟨w, hw, hw1, hw2⟩ := hoh i (by omega)
          refine zn_cald dT_isSame_34 ho2 rfl (by omega) (by decide) hw1 ?_
          refine zn_icmp_eq (tgt := 40) dT_isSame_35 rfl (by omega) (by omega) (fun h35 => ?_) (fun h35 => ?_)
          · refine zn_iinc (c := 1) dT_isSame_40 (Nat.le_of_ble_eq_true rfl) rfl rfl ?_
            refine zx_goto (tgt := 15) dT_isSame_43 rfl ?_
            refine ih (i + 1) (by omega) (by omega) (fun j hj => ?_)
            by_cases hji : j = i
            · rw [hji, hz2 (by omega), hw2 (by omega), h35]
            · exact h4 j (by omega)
          · refine zx_iconst (v := nI 0) dT_isSame_38 (by decide) ?_
            exact zx_zret hE rfl (by first | decide | exact bI_nar _) dT_isSame_39 rfl (Nat.le_of_ble_eq_true rfl) (by first | (refine ⟨?_, rfl, rfl⟩; rw [decide_eq_true]; rfl; apply List.ext_getElem?; intro j; by_cases hj : j < xs.length; exact h4 j (by omega); rw [List.getElem?_eq_none (by omega), List.getElem?_eq_none (by omega)]) | (refine ⟨?_, rfl, rfl⟩; rw [decide_eq_false]; rfl; intro e; have e1 := hz2 (by omega); have e2 := hw2 (by omega); rw [e, e2] at e1; exact h35 (Option.some.inj e1).symm))
    refine zx_iconst (v := nI 0) dT_isSame_13 (by decide) ?_
    refine zx_istore_n dT_isSame_14 (Nat.le_of_ble_eq_true rfl) rfl rfl ?_
    exact loop (xs.length + 1) 0 (by omega) (by omega) (fun j hj => absurd hj (Nat.not_lt_zero _))
  · refine zx_iconst (v := nI 0) dT_isSame_11 (by decide) ?_
    exact zx_zret hE rfl (by first | decide | exact bI_nar _) dT_isSame_12 rfl (Nat.le_of_ble_eq_true rfl) (by refine ⟨?_, rfl, rfl⟩; rw [decide_eq_false (fun e => h8 (by rw [e]))]; rfl)

set_option maxHeartbeats 4000000 in
set_option maxRecDepth 100000 in
theorem kT_tokenEnd (G : zG) (d : Nat) (hd : 2 ≤ d) {n : Nat} {sh : zSh} {row : zRw} {t f : Nat} {xs : List Nat} (hT : Txt sh row t xs) (hf : f < 1000000) : zM G (fT_tokenEnd d) [.ref t, .int (nI f)] n sh row (zP sh row (.int (nI (tokEnd xs f)))) := by
  refine zM.of (by show plainName "PostIndex$Text" = true; decide +kernel) (Nat.le_of_ble_eq_true rfl) (by intro v hv; simp at hv; rcases hv with rfl | rfl <;> rfl) ?_
  intro K hE
  show zX G K (fT_tokenEnd d) n 0 0 sh row 0 [.ref t, .int (nI f), .retAddr 0, .retAddr 0, .retAddr 0] []
  have hD : d - 1 + 1 ≤ d := by omega
  obtain ⟨hs1, hs2, hp, hct, hl, hch⟩ := id hT
  have loop : ∀ (k : Nat) (s e : Nat), xs.length - e < k → tokS xs f = s → s ≤ e → scanW xs e = scanW xs s → (e ≤ f + 1 ∨ e ≤ xs.length) → zX G K (fT_tokenEnd d) n 0 0 sh row 29 [.ref t, .int (nI f), .int (nI (at0 xs f)), .int (nI s), .int (nI e)] [] := by
    intro k
    induction k with
    | zero => intro s e hk; exact absurd hk (Nat.not_lt_zero _)
    | succ k ih =>
      intro s e hk h3 h4 h5 h6
      refine zx_iload dT_tokenEnd_29 rfl ?_
      refine zx_aload_n dT_tokenEnd_31 rfl ?_
      refine zx_get dT_tokenEnd_32 flT_15 (by assumption) (by assumption) ?_
      refine zn_icmp_ge (tgt := 56) dT_tokenEnd_35 rfl (by omega) (by omega) (fun h35 => ?_) (fun h35 => ?_)
      · have he : e = scanW xs s := by rw [← h5]; exact (scanW_e (by first | exact Or.inl (by omega) | exact Or.inr h47)).symm
        refine zx_iload dT_tokenEnd_56 rfl ?_
        refine zx_iload_n dT_tokenEnd_58 rfl ?_
        refine zn_icmp_le (tgt := 67) dT_tokenEnd_59 rfl (by omega) (by omega) (fun h59 => ?_) (fun h59 => ?_)
        · refine zx_iload_n dT_tokenEnd_67 rfl ?_
          exact zx_iret hE rfl dT_tokenEnd_68 rfl (Nat.le_of_ble_eq_true rfl) (by refine ⟨?_, rfl, rfl⟩; unfold tokEnd; rw [h3, ← he]; first | rw [if_pos (by omega)] | rw [if_neg (by omega)])
        · refine zx_iload dT_tokenEnd_62 rfl ?_
          refine zx_goto (tgt := 68) dT_tokenEnd_64 rfl ?_
          exact zx_iret hE rfl dT_tokenEnd_68 rfl (Nat.le_of_ble_eq_true rfl) (by refine ⟨?_, rfl, rfl⟩; unfold tokEnd; rw [h3, ← he]; first | rw [if_pos (by omega)] | rw [if_neg (by omega)])
      · refine zx_aload_n dT_tokenEnd_38 rfl ?_
        refine zx_iload dT_tokenEnd_39 rfl ?_
        refine zc_V (kT_charOr0 G (d - 1) (by omega) hT (by omega)) (meT_charOr0 _) lkT_31 hs1 rfl rfl hD (Nat.le_of_ble_eq_true rfl) rfl rfl (Nat.le_of_ble_eq_true rfl) (Nat.le_of_ble_eq_true rfl) (Nat.le_of_ble_eq_true rfl) dT_tokenEnd_41 ?_
        refine zc_S (kT_isWordCharacter G (d - 1) (by omega) (by have := hT.lt (i := e); omega)) (meT_isWordCharacter _) lkT_43 rfl hD (Nat.le_of_ble_eq_true rfl) rfl rfl (Nat.le_of_ble_eq_true rfl) (Nat.le_of_ble_eq_true rfl) (Nat.le_of_ble_eq_true rfl) dT_tokenEnd_44 ?_
        refine zb_if_eq (tgt := 56) dT_tokenEnd_47 rfl (fun h47 => ?_) (fun h47 => ?_)
        · have he : e = scanW xs s := by rw [← h5]; exact (scanW_e (by first | exact Or.inl (by omega) | exact Or.inr h47)).symm
          refine zx_iload dT_tokenEnd_56 rfl ?_
          refine zx_iload_n dT_tokenEnd_58 rfl ?_
          refine zn_icmp_le (tgt := 67) dT_tokenEnd_59 rfl (by omega) (by omega) (fun h59 => ?_) (fun h59 => ?_)
          · refine zx_iload_n dT_tokenEnd_67 rfl ?_
            exact zx_iret hE rfl dT_tokenEnd_68 rfl (Nat.le_of_ble_eq_true rfl) (by refine ⟨?_, rfl, rfl⟩; unfold tokEnd; rw [h3, ← he]; first | rw [if_pos (by omega)] | rw [if_neg (by omega)])
          · refine zx_iload dT_tokenEnd_62 rfl ?_
            refine zx_goto (tgt := 68) dT_tokenEnd_64 rfl ?_
            exact zx_iret hE rfl dT_tokenEnd_68 rfl (Nat.le_of_ble_eq_true rfl) (by refine ⟨?_, rfl, rfl⟩; unfold tokEnd; rw [h3, ← he]; first | rw [if_pos (by omega)] | rw [if_neg (by omega)])
        · refine zn_iinc (c := 1) dT_tokenEnd_50 (Nat.le_of_ble_eq_true rfl) rfl rfl ?_
          refine zx_goto (tgt := 29) dT_tokenEnd_53 rfl ?_
          exact ih s (e + 1) (by omega) h3 (by omega) (by rw [← h5, scanW_s (by omega) h47]) (by omega)
  refine zx_aload_n dT_tokenEnd_0 rfl ?_
  refine zx_iload_n dT_tokenEnd_1 rfl ?_
  refine zc_V (kT_charOr0 G (d - 1) (by omega) hT (by omega)) (meT_charOr0 _) lkT_31 hs1 rfl rfl hD (Nat.le_of_ble_eq_true rfl) rfl rfl (Nat.le_of_ble_eq_true rfl) (Nat.le_of_ble_eq_true rfl) (Nat.le_of_ble_eq_true rfl) dT_tokenEnd_2 ?_
  have hz := hT.lt (i := f)
  refine zx_istore_n dT_tokenEnd_5 (Nat.le_of_ble_eq_true rfl) rfl rfl ?_
  refine zx_iload_n dT_tokenEnd_6 rfl ?_
  refine zx_bipush (v := nI 35) dT_tokenEnd_7 (by decide) ?_
  refine zn_icmp_eq (tgt := 18) dT_tokenEnd_9 rfl (by omega) (by omega) (fun h9 => ?_) (fun h9 => ?_)
  · refine zx_iload_n dT_tokenEnd_18 rfl ?_
    refine zx_iconst (v := nI 1) dT_tokenEnd_19 (by decide) ?_
    refine zn_iadd dT_tokenEnd_20 ?_
    refine zx_goto (tgt := 25) dT_tokenEnd_21 rfl ?_
    refine zx_istore_n dT_tokenEnd_25 (Nat.le_of_ble_eq_true rfl) rfl rfl ?_
    refine zx_iload_n dT_tokenEnd_26 rfl ?_
    refine zx_istore dT_tokenEnd_27 (Nat.le_of_ble_eq_true rfl) rfl rfl ?_
    exact loop _ _ _ (Nat.lt_succ_self _) (by unfold tokS; first | rw [if_pos (by omega)] | rw [if_neg (by omega)]) (Nat.le_refl _) rfl (by omega)
  · refine zx_iload_n dT_tokenEnd_12 rfl ?_
    refine zx_bipush (v := nI 64) dT_tokenEnd_13 (by decide) ?_
    refine zn_icmp_ne (tgt := 24) dT_tokenEnd_15 rfl (by omega) (by omega) (fun h15 => ?_) (fun h15 => ?_)
    · refine zx_iload_n dT_tokenEnd_24 rfl ?_
      refine zx_istore_n dT_tokenEnd_25 (Nat.le_of_ble_eq_true rfl) rfl rfl ?_
      refine zx_iload_n dT_tokenEnd_26 rfl ?_
      refine zx_istore dT_tokenEnd_27 (Nat.le_of_ble_eq_true rfl) rfl rfl ?_
      exact loop _ _ _ (Nat.lt_succ_self _) (by unfold tokS; first | rw [if_pos (by omega)] | rw [if_neg (by omega)]) (Nat.le_refl _) rfl (by omega)
    · refine zx_iload_n dT_tokenEnd_18 rfl ?_
      refine zx_iconst (v := nI 1) dT_tokenEnd_19 (by decide) ?_
      refine zn_iadd dT_tokenEnd_20 ?_
      refine zx_goto (tgt := 25) dT_tokenEnd_21 rfl ?_
      refine zx_istore_n dT_tokenEnd_25 (Nat.le_of_ble_eq_true rfl) rfl rfl ?_
      refine zx_iload_n dT_tokenEnd_26 rfl ?_
      refine zx_istore dT_tokenEnd_27 (Nat.le_of_ble_eq_true rfl) rfl rfl ?_
      exact loop _ _ _ (Nat.lt_succ_self _) (by unfold tokS; first | rw [if_pos (by omega)] | rw [if_neg (by omega)]) (Nat.le_refl _) rfl (by omega)

theorem tokStart_s {xs : List Nat} {i : Nat} (h : i < xs.length) (h2 : ¬ i < tokEnd xs i) : tokStart xs i = tokStart xs (i + 1) := by
  rw [tokStart, if_pos h, if_neg h2]
theorem tokStart_b {xs : List Nat} {i : Nat} (h : i < xs.length) (h2 : i < tokEnd xs i) : tokStart xs i = i := by
  rw [tokStart, if_pos h, if_pos h2]
theorem tokStart_e {xs : List Nat} {i : Nat} (h : xs.length ≤ i) : tokStart xs i = xs.length := by
  rw [tokStart, if_neg (by omega)]

set_option maxHeartbeats 4000000 in
set_option maxRecDepth 100000 in
theorem kT_tokenStart (G : zG) (d : Nat) (hd : 3 ≤ d) {n : Nat} {sh : zSh} {row : zRw} {t f : Nat} {xs : List Nat} (hT : Txt sh row t xs) (hf : f ≤ xs.length) : zM G (fT_tokenStart d) [.ref t, .int (nI f)] n sh row (zP sh row (.int (nI (tokStart xs f)))) := by
  refine zM.of (by show plainName "PostIndex$Text" = true; decide +kernel) (Nat.le_of_ble_eq_true rfl) (by intro v hv; simp at hv; rcases hv with rfl | rfl <;> rfl) ?_
  intro K hE
  show zX G K (fT_tokenStart d) n 0 0 sh row 0 [.ref t, .int (nI f), .retAddr 0] []
  have hD : d - 1 + 1 ≤ d := by omega
  obtain ⟨hs1, hs2, hp, hct, hl, hch⟩ := id hT
  have loop : ∀ (k : Nat) (i : Nat), xs.length - i < k → tokStart xs f = tokStart xs i → i ≤ xs.length → zX G K (fT_tokenStart d) n 0 0 sh row 2 [.ref t, .int (nI f), .int (nI i)] [] := by
    intro k
    induction k with
    | zero => intro i hk; exact absurd hk (Nat.not_lt_zero _)
    | succ k ih =>
      intro i hk h3 h4
      have hte := tokEnd_le (xs := xs) (f := i) h4
      refine zx_iload_n dT_tokenStart_2 rfl ?_
      refine zx_aload_n dT_tokenStart_3 rfl ?_
      refine zx_get dT_tokenStart_4 flT_15 (by assumption) (by assumption) ?_
      refine zn_icmp_ge (tgt := 27) dT_tokenStart_7 rfl (by omega) (by omega) (fun h7 => ?_) (fun h7 => ?_)
      · refine zx_aload_n dT_tokenStart_27 rfl ?_
        refine zx_get dT_tokenStart_28 flT_15 (by assumption) (by assumption) ?_
        exact zx_iret hE rfl dT_tokenStart_31 rfl (Nat.le_of_ble_eq_true rfl) ⟨by rw [h3]; first | rw [tokStart_b (by omega) (by omega)] | rw [tokStart_e (by omega)], rfl, rfl⟩
      · refine zx_aload_n dT_tokenStart_10 rfl ?_
        refine zx_iload_n dT_tokenStart_11 rfl ?_
        refine zc_V (kT_tokenEnd G (d - 1) (by omega) hT (by omega)) (meT_tokenEnd _) lkT_46 hs1 rfl rfl hD (Nat.le_of_ble_eq_true rfl) rfl rfl (Nat.le_of_ble_eq_true rfl) (Nat.le_of_ble_eq_true rfl) (Nat.le_of_ble_eq_true rfl) dT_tokenStart_12 ?_
        refine zx_iload_n dT_tokenStart_15 rfl ?_
        refine zn_icmp_le (tgt := 21) dT_tokenStart_16 rfl (by omega) (by omega) (fun h16 => ?_) (fun h16 => ?_)
        · refine zn_iinc (c := 1) dT_tokenStart_21 (Nat.le_of_ble_eq_true rfl) rfl rfl ?_
          refine zx_goto (tgt := 2) dT_tokenStart_24 rfl ?_
          exact ih (i + 1) (by omega) (by rw [h3]; exact tokStart_s (by omega) (by omega)) (by omega)
        · refine zx_iload_n dT_tokenStart_19 rfl ?_
          exact zx_iret hE rfl dT_tokenStart_20 rfl (Nat.le_of_ble_eq_true rfl) ⟨by rw [h3]; first | rw [tokStart_b (by omega) (by omega)] | rw [tokStart_e (by omega)], rfl, rfl⟩
  refine zx_iload_n dT_tokenStart_0 rfl ?_
  refine zx_istore_n dT_tokenStart_1 (Nat.le_of_ble_eq_true rfl) rfl rfl ?_
  exact loop _ f (Nat.lt_succ_self _) rfl hf

