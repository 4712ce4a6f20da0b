/-- the characters, as numbers -/
def fold1 (c : Nat) : Nat := if 65 ≤ c ∧ c ≤ 90 then c + 32 else c
def isDg (c : Nat) : Bool := decide (48 ≤ c ∧ c ≤ 57)
def isWd (c : Nat) : Bool := decide (97 ≤ fold1 c ∧ fold1 c ≤ 122) || isDg c || decide (c = 95)
def at0 (xs : List Nat) (i : Nat) : Nat := xs.getD i 0
theorem fold1_lt {c : Nat} (h : c < 65000) : fold1 c < 65536 := by unfold fold1; split <;> omega
/-- a text at the cell t, its row at t + 1 -/
def Txt (sh : zSh) (row : zRw) (t : Nat) (xs : List Nat) : Prop := sh t = some (0, 5, 2) ∧ sh (t + 1) = some (1, 1, 24) ∧ row t 0 = .ref (t + 1) ∧ row t 1 = .int (nI xs.length) ∧ xs.length ≤ 24 ∧ ∀ i, i < 24 → ∃ z, z < 127 ∧ row (t + 1) i = .int (nI z) ∧ (i < xs.length → xs[i]? = some z)

set_option maxHeartbeats 4000000 in
set_option maxRecDepth 100000 in
theorem kT_isDigit (G : zG) (d : Nat) (hd : 0 ≤ d) {n : Nat} {sh : zSh} {row : zRw} {c : Nat} (hc : c < 65536) : zM G (fT_isDigit d) [.int (nI c)] n sh row (zP sh row (.int (bI (isDg c)))) := by
  refine zM.of (by show plainName "PostIndex$Text" = true; decide +kernel) (Nat.le_of_ble_eq_true rfl) (by intro v hv; simp at hv; rcases hv with rfl <;> rfl) ?_
  intro K hE
  show zX G K (fT_isDigit d) n 0 0 sh row 0 [.int (nI c)] []
  refine zx_iload_n dT_isDigit_0 rfl ?_
  refine zx_bipush (v := nI 48) dT_isDigit_1 (by decide) ?_
  refine zn_icmp_lt (tgt := 16) dT_isDigit_3 rfl (by omega) (by omega) (fun h3 => ?_) (fun h3 => ?_)
  · refine zx_iconst (v := nI 0) dT_isDigit_16 (by decide) ?_
    exact zx_zret hE rfl (by first | decide | exact bI_nar _) dT_isDigit_17 rfl (Nat.le_of_ble_eq_true rfl) ⟨by rw [show isDg c = decide (48 ≤ c ∧ c ≤ 57) from rfl]; first | (rw [decide_eq_false (by omega)]; rfl) | (rw [decide_eq_true (by omega)]; rfl), rfl, rfl⟩
  · refine zx_iload_n dT_isDigit_6 rfl ?_
    refine zx_bipush (v := nI 57) dT_isDigit_7 (by decide) ?_
    refine zn_icmp_gt (tgt := 16) dT_isDigit_9 rfl (by omega) (by omega) (fun h9 => ?_) (fun h9 => ?_)
    · refine zx_iconst (v := nI 0) dT_isDigit_16 (by decide) ?_
      exact zx_zret hE rfl (by first | decide | exact bI_nar _) dT_isDigit_17 rfl (Nat.le_of_ble_eq_true rfl) ⟨by rw [show isDg c = decide (48 ≤ c ∧ c ≤ 57) from rfl]; first | (rw [decide_eq_false (by omega)]; rfl) | (rw [decide_eq_true (by omega)]; rfl), rfl, rfl⟩
    · refine zx_iconst (v := nI 1) dT_isDigit_12 (by decide) ?_
      refine zx_goto (tgt := 17) dT_isDigit_13 rfl ?_
      exact zx_zret hE rfl (by first | decide | exact bI_nar _) dT_isDigit_17 rfl (Nat.le_of_ble_eq_true rfl) ⟨by rw [show isDg c = decide (48 ≤ c ∧ c ≤ 57) from rfl]; first | (rw [decide_eq_false (by omega)]; rfl) | (rw [decide_eq_true (by omega)]; rfl), rfl, rfl⟩

set_option maxHeartbeats 4000000 in
set_option maxRecDepth 100000 in
theorem kT_folded (G : zG) (d : Nat) (hd : 0 ≤ d) {n : Nat} {sh : zSh} {row : zRw} {c : Nat} (hc : c < 65000) : zM G (fT_folded d) [.int (nI c)] n sh row (zP sh row (.int (nI (fold1 c)))) := by
  refine zM.of (by show plainName "PostIndex$Text" = true; decide +kernel) (Nat.le_of_ble_eq_true rfl) (by intro v hv; simp at hv; rcases hv with rfl <;> rfl) ?_
  intro K hE
  show zX G K (fT_folded d) n 0 0 sh row 0 [.int (nI c)] []
  refine zx_iload_n dT_folded_0 rfl ?_
  refine zx_bipush (v := nI 65) dT_folded_1 (by decide) ?_
  refine zn_icmp_lt (tgt := 23) dT_folded_3 rfl (by omega) (by omega) (fun h3 => ?_) (fun h3 => ?_)
  · refine zx_iload_n dT_folded_23 rfl ?_
    exact zx_zret hE rfl (by first | decide | exact cI_nar (by omega)) dT_folded_24 rfl (Nat.le_of_ble_eq_true rfl) ⟨by unfold fold1; first | rw [if_neg (by omega)] | (rw [if_pos (by omega)]; exact congrArg (fun z => some (Value.int (nI z))) (by omega)), rfl, rfl⟩
  · refine zx_iload_n dT_folded_6 rfl ?_
    refine zx_bipush (v := nI 90) dT_folded_7 (by decide) ?_
    refine zn_icmp_gt (tgt := 23) dT_folded_9 rfl (by omega) (by omega) (fun h9 => ?_) (fun h9 => ?_)
    · refine zx_iload_n dT_folded_23 rfl ?_
      exact zx_zret hE rfl (by first | decide | exact cI_nar (by omega)) dT_folded_24 rfl (Nat.le_of_ble_eq_true rfl) ⟨by unfold fold1; first | rw [if_neg (by omega)] | (rw [if_pos (by omega)]; exact congrArg (fun z => some (Value.int (nI z))) (by omega)), rfl, rfl⟩
    · refine zx_iload_n dT_folded_12 rfl ?_
      refine zx_bipush (v := nI 65) dT_folded_13 (by decide) ?_
      refine zn_isub dT_folded_15 (by omega) ?_
      refine zx_bipush (v := nI 97) dT_folded_16 (by decide) ?_
      refine zn_iadd dT_folded_18 ?_
      refine zn_i2c dT_folded_19 (by omega) ?_
      refine zx_goto (tgt := 24) dT_folded_20 rfl ?_
      exact zx_zret hE rfl (by first | decide | exact cI_nar (by omega)) dT_folded_24 rfl (Nat.le_of_ble_eq_true rfl) ⟨by unfold fold1; first | rw [if_neg (by omega)] | (rw [if_pos (by omega)]; exact congrArg (fun z => some (Value.int (nI z))) (by omega)), rfl, rfl⟩

set_option maxHeartbeats 4000000 in
set_option maxRecDepth 100000 in
theorem kT_isWordCharacter (G : zG) (d : Nat) (hd : 1 ≤ d) {n : Nat} {sh : zSh} {row : zRw} {c : Nat} (hc : c < 65000) : zM G (fT_isWordCharacter d) [.int (nI c)] n sh row (zP sh row (.int (bI (isWd c)))) := by
  refine zM.of (by show plainName "PostIndex$Text" = true; decide +kernel) (Nat.le_of_ble_eq_true rfl) (by intro v hv; simp at hv; rcases hv with rfl <;> rfl) ?_
  intro K hE
  show zX G K (fT_isWordCharacter d) n 0 0 sh row 0 [.int (nI c), .retAddr 0] []
  have hD : d - 1 + 1 ≤ d := by omega
  have hf : fold1 c < 65536 := fold1_lt hc
  refine zx_iload_n dT_isWordCharacter_0 rfl ?_
  refine zc_S (kT_folded G (d - 1) (by omega) hc) (meT_folded _) lkT_35 rfl hD (Nat.le_of_ble_eq_true rfl) rfl rfl (Nat.le_of_ble_eq_true rfl) (Nat.le_of_ble_eq_true rfl) (Nat.le_of_ble_eq_true rfl) dT_isWordCharacter_1 ?_
  refine zx_istore_n dT_isWordCharacter_4 (Nat.le_of_ble_eq_true rfl) rfl rfl ?_
  refine zx_iload_n dT_isWordCharacter_5 rfl ?_
  refine zx_bipush (v := nI 97) dT_isWordCharacter_6 (by decide) ?_
  refine zn_icmp_lt (tgt := 17) dT_isWordCharacter_8 rfl (by omega) (by omega) (fun h8 => ?_) (fun h8 => ?_)
  · refine zx_iload_n dT_isWordCharacter_17 rfl ?_
    refine zc_S (kT_isDigit G (d - 1) (by omega) (c := c) (by omega)) (meT_isDigit _) lkT_50 rfl hD (Nat.le_of_ble_eq_true rfl) rfl rfl (Nat.le_of_ble_eq_true rfl) (Nat.le_of_ble_eq_true rfl) (Nat.le_of_ble_eq_true rfl) dT_isWordCharacter_18 ?_
    refine zb_if_ne (tgt := 30) dT_isWordCharacter_21 rfl (fun h21 => ?_) (fun h21 => ?_)
    · refine zx_iconst (v := nI 1) dT_isWordCharacter_30 (by decide) ?_
      refine zx_goto (tgt := 35) dT_isWordCharacter_31 rfl ?_
      exact zx_zret hE rfl (by first | decide | exact bI_nar _) dT_isWordCharacter_35 rfl (Nat.le_of_ble_eq_true rfl) ⟨by simp only [isWd]; first | (rw [decide_eq_true (show 97 ≤ fold1 c ∧ fold1 c ≤ 122 by omega)]; rfl) | (rw [decide_eq_false (show ¬ (97 ≤ fold1 c ∧ fold1 c ≤ 122) by omega)]; first | (rw [h21]; rfl) | (rw [h21, decide_eq_true (show c = 95 by omega)]; rfl) | (rw [h21, decide_eq_false (show ¬ c = 95 by omega)]; rfl)), rfl, rfl⟩
    · refine zx_iload_n dT_isWordCharacter_24 rfl ?_
      refine zx_bipush (v := nI 95) dT_isWordCharacter_25 (by decide) ?_
      refine zn_icmp_ne (tgt := 34) dT_isWordCharacter_27 rfl (by omega) (by omega) (fun h27 => ?_) (fun h27 => ?_)
      · refine zx_iconst (v := nI 0) dT_isWordCharacter_34 (by decide) ?_
        exact zx_zret hE rfl (by first | decide | exact bI_nar _) dT_isWordCharacter_35 rfl (Nat.le_of_ble_eq_true rfl) ⟨by simp only [isWd]; first | (rw [decide_eq_true (show 97 ≤ fold1 c ∧ fold1 c ≤ 122 by omega)]; rfl) | (rw [decide_eq_false (show ¬ (97 ≤ fold1 c ∧ fold1 c ≤ 122) by omega)]; first | (rw [h21]; rfl) | (rw [h21, decide_eq_true (show c = 95 by omega)]; rfl) | (rw [h21, decide_eq_false (show ¬ c = 95 by omega)]; rfl)), rfl, rfl⟩
      · refine zx_iconst (v := nI 1) dT_isWordCharacter_30 (by decide) ?_
        refine zx_goto (tgt := 35) dT_isWordCharacter_31 rfl ?_
        exact zx_zret hE rfl (by first | decide | exact bI_nar _) dT_isWordCharacter_35 rfl (Nat.le_of_ble_eq_true rfl) ⟨by simp only [isWd]; first | (rw [decide_eq_true (show 97 ≤ fold1 c ∧ fold1 c ≤ 122 by omega)]; rfl) | (rw [decide_eq_false (show ¬ (97 ≤ fold1 c ∧ fold1 c ≤ 122) by omega)]; first | (rw [h21]; rfl) | (rw [h21, decide_eq_true (show c = 95 by omega)]; rfl) | (rw [h21, decide_eq_false (show ¬ c = 95 by omega)]; rfl)), rfl, rfl⟩
  · refine zx_iload_n dT_isWordCharacter_11 rfl ?_
    refine zx_bipush (v := nI 122) dT_isWordCharacter_12 (by decide) ?_
    refine zn_icmp_le (tgt := 30) dT_isWordCharacter_14 rfl (by omega) (by omega) (fun h14 => ?_) (fun h14 => ?_)
    · refine zx_iconst (v := nI 1) dT_isWordCharacter_30 (by decide) ?_
      refine zx_goto (tgt := 35) dT_isWordCharacter_31 rfl ?_
      exact zx_zret hE rfl (by first | decide | exact bI_nar _) dT_isWordCharacter_35 rfl (Nat.le_of_ble_eq_true rfl) ⟨by simp only [isWd]; first | (rw [decide_eq_true (show 97 ≤ fold1 c ∧ fold1 c ≤ 122 by omega)]; rfl) | (rw [decide_eq_false (show ¬ (97 ≤ fold1 c ∧ fold1 c ≤ 122) by omega)]; first | (rw [h21]; rfl) | (rw [h21, decide_eq_true (show c = 95 by omega)]; rfl) | (rw [h21, decide_eq_false (show ¬ c = 95 by omega)]; rfl)), rfl, rfl⟩
    · refine zx_iload_n dT_isWordCharacter_17 rfl ?_
      refine zc_S (kT_isDigit G (d - 1) (by omega) (c := c) (by omega)) (meT_isDigit _) lkT_50 rfl hD (Nat.le_of_ble_eq_true rfl) rfl rfl (Nat.le_of_ble_eq_true rfl) (Nat.le_of_ble_eq_true rfl) (Nat.le_of_ble_eq_true rfl) dT_isWordCharacter_18 ?_
      refine zb_if_ne (tgt := 30) dT_isWordCharacter_21 rfl (fun h21 => ?_) (fun h21 => ?_)
      · refine zx_iconst (v := nI 1) dT_isWordCharacter_30 (by decide) ?_
        refine zx_goto (tgt := 35) dT_isWordCharacter_31 rfl ?_
        exact zx_zret hE rfl (by first | decide | exact bI_nar _) dT_isWordCharacter_35 rfl (Nat.le_of_ble_eq_true rfl) ⟨by simp only [isWd]; first | (rw [decide_eq_true (show 97 ≤ fold1 c ∧ fold1 c ≤ 122 by omega)]; rfl) | (rw [decide_eq_false (show ¬ (97 ≤ fold1 c ∧ fold1 c ≤ 122) by omega)]; first | (rw [h21]; rfl) | (rw [h21, decide_eq_true (show c = 95 by omega)]; rfl) | (rw [h21, decide_eq_false (show ¬ c = 95 by omega)]; rfl)), rfl, rfl⟩
      · refine zx_iload_n dT_isWordCharacter_24 rfl ?_
        refine zx_bipush (v := nI 95) dT_isWordCharacter_25 (by decide) ?_
        refine zn_icmp_ne (tgt := 34) dT_isWordCharacter_27 rfl (by omega) (by omega) (fun h27 => ?_) (fun h27 => ?_)
        · refine zx_iconst (v := nI 0) dT_isWordCharacter_34 (by decide) ?_
          exact zx_zret hE rfl (by first | decide | exact bI_nar _) dT_isWordCharacter_35 rfl (Nat.le_of_ble_eq_true rfl) ⟨by simp only [isWd]; first | (rw [decide_eq_true (show 97 ≤ fold1 c ∧ fold1 c ≤ 122 by omega)]; rfl) | (rw [decide_eq_false (show ¬ (97 ≤ fold1 c ∧ fold1 c ≤ 122) by omega)]; first | (rw [h21]; rfl) | (rw [h21, decide_eq_true (show c = 95 by omega)]; rfl) | (rw [h21, decide_eq_false (show ¬ c = 95 by omega)]; rfl)), rfl, rfl⟩
        · refine zx_iconst (v := nI 1) dT_isWordCharacter_30 (by decide) ?_
          refine zx_goto (tgt := 35) dT_isWordCharacter_31 rfl ?_
          exact zx_zret hE rfl (by first | decide | exact bI_nar _) dT_isWordCharacter_35 rfl (Nat.le_of_ble_eq_true rfl) ⟨by simp only [isWd]; first | (rw [decide_eq_true (show 97 ≤ fold1 c ∧ fold1 c ≤ 122 by omega)]; rfl) | (rw [decide_eq_false (show ¬ (97 ≤ fold1 c ∧ fold1 c ≤ 122) by omega)]; first | (rw [h21]; rfl) | (rw [h21, decide_eq_true (show c = 95 by omega)]; rfl) | (rw [h21, decide_eq_false (show ¬ c = 95 by omega)]; rfl)), rfl, rfl⟩

set_option maxHeartbeats 4000000 in
set_option maxRecDepth 100000 in
theorem kT_charOr0 (G : zG) (d : Nat) (hd : 0 ≤ d) {n : Nat} {sh : zSh} {row : zRw} {t i : Nat} {xs : List Nat} (hT : Txt sh row t xs) (hi : i < 2147483648) : zM G (fT_charOr0 d) [.ref t, .int (nI i)] n sh row (zP sh row (.int (nI (at0 xs i)))) := by
  refine zM.of (by show plainName "PostIndex$Text" = true; decide +kernel) (Nat.le_of_ble_eq_true rfl) (by intro v hv; simp at hv; rcases hv with rfl | rfl <;> rfl) ?_
  intro K hE
  show zX G K (fT_charOr0 d) n 0 0 sh row 0 [.ref t, .int (nI i)] []
  obtain ⟨hs1, hs2, hp, hct, hl, hch⟩ := hT
  refine zx_iload_n dT_charOr0_0 rfl ?_
  refine zn_if_lt (tgt := 21) dT_charOr0_1 rfl (by omega) ?_
  refine zx_iload_n dT_charOr0_4 rfl ?_
  refine zx_aload_n dT_charOr0_5 rfl ?_
  refine zx_get dT_charOr0_6 flT_15 (by assumption) (by assumption) ?_
  refine zn_icmp_ge (tgt := 21) dT_charOr0_9 rfl (by omega) (by omega) (fun h9 => ?_) (fun h9 => ?_)
  · refine zx_iconst (v := nI 0) dT_charOr0_21 (by decide) ?_
    exact zx_zret hE rfl (by first | decide | exact cI_nar (by omega)) dT_charOr0_22 rfl (Nat.le_of_ble_eq_true rfl) ⟨by unfold at0; rw [List.getD_eq_getElem?_getD]; first | (rw [List.getElem?_eq_none (by omega)]; rfl) | (rw [hz2 (by omega)]; rfl), rfl, rfl⟩
  · refine zx_aload_n dT_charOr0_12 rfl ?_
    refine zx_get dT_charOr0_13 flT_9 (by assumption) (by assumption) ?_
    refine zx_iload_n dT_charOr0_16 rfl ?_
    obtain ⟨z, hz, hz1, hz2⟩ := hch i (by omega)
    refine zn_cald dT_charOr0_17 hs2 rfl (by omega) (by decide) hz1 ?_
    refine zx_goto (tgt := 22) dT_charOr0_18 rfl ?_
    exact zx_zret hE rfl (by first | decide | exact cI_nar (by omega)) dT_charOr0_22 rfl (Nat.le_of_ble_eq_true rfl) ⟨by unfold at0; rw [List.getD_eq_getElem?_getD]; first | (rw [List.getElem?_eq_none (by omega)]; rfl) | (rw [hz2 (by omega)]; rfl), rfl, rfl⟩

set_option maxHeartbeats 4000000 in
set_option maxRecDepth 100000 in
theorem kT_makeEmpty (G : zG) (d : Nat) (hd : 0 ≤ d) {n : Nat} {sh : zSh} {row : zRw} {t : Nat} (hs : sh t = some (0, 5, 2)) : zM G (fT_makeEmpty d) [.ref t] n sh row (zpV sh (fun row' => row' = zup row t 1 (.int (nI 0)))) := by
  refine zM.of (by show plainName "PostIndex$Text" = true; decide +kernel) (Nat.le_of_ble_eq_true rfl) (by intro v hv; simp at hv; rcases hv with rfl <;> rfl) ?_
  intro K hE
  show zX G K (fT_makeEmpty d) n 0 0 sh row 0 [.ref t] []
  refine zx_aload_n dT_makeEmpty_0 rfl ?_
  refine zx_iconst (v := nI 0) dT_makeEmpty_1 (by decide) ?_
  refine zx_put dT_makeEmpty_2 flT_15 tpT_1 (by assumption) rfl rfl ?_
  exact zx_vret hE rfl dT_makeEmpty_5 rfl (Nat.le_of_ble_eq_true rfl) ⟨rfl, rfl, rfl⟩

