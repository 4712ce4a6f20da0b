set_option maxHeartbeats 4000000 in
set_option maxRecDepth 100000 in
theorem kR_readOne (G : zG) (d : Nat) (hd : 6 ≤ d) {n : Nat} {sh : zSh} {row : zRw} {r q : Nat} {xs : List Nat} {s : PS} (hR : RdA sh row r q xs s) {op : Nat} (hop : op ≤ 6) {nest : PS → PR} (hN : op < 6 → ∀ (row' : zRw) (s' : PS), RdA sh row' r q xs s' → zM G (fR_readAny (d - 1)) [.ref r, .int (nI (op + 1))] n sh row' (zRd sh row' r q xs (nest s'))) : zM G (fR_readOne d) [.ref r, .int (nI op)] n sh row (zRd sh row r q xs (gOne xs nest (decide (op < 6)) s)) := by
  refine zM.of (by show plainName "PostIndex$QueryReader" = true; decide +kernel) (Nat.le_of_ble_eq_true rfl) (by intro v hv; simp at hv; rcases hv with rfl | rfl <;> rfl) ?_
  intro K hE
  show zX G K (fR_readOne d) n 0 0 sh row 0 [.ref r, .int (nI op)] []
  have hD : d - 1 + 1 ≤ d := by omega
  obtain ⟨hs, hp0, hp1, hp2, hT, hQ, hat, hdj⟩ := id hR
  have hxl := hT.2.2.2.2.1
  refine zx_aload_n dR_readOne_0 rfl ?_
  refine zc_Vr (n0 := n) (ce := 0) (kR_peekPiece G (d - 1) (by omega) hR) (meR_peekPiece _) lkR_41 hs rfl rfl hD (Nat.le_of_ble_eq_true rfl) rfl rfl (Nat.le_of_ble_eq_true rfl) (Nat.le_of_ble_eq_true rfl) (Nat.le_of_ble_eq_true rfl) dR_readOne_1 (fun v r2 h2 => ?_)
  obtain ⟨rfl, h3, h4⟩ := h2
  have hz := hT.lt (i := skp xs s.1)
  have hlt0 : ¬ at0 xs (skp xs s.1) = 0 → skp xs s.1 < xs.length := fun h => Nat.lt_of_not_le (fun g => h (at0_big g))
  skip
  by_cases h40 : at0 xs (skp xs s.1) = 40
  · rw [h40]
    have hlt : skp xs s.1 < xs.length := hlt0 (by omega)
    refine zx_look (tgt := 56) (off := 52) dR_readOne_4 (by decide) (by decide) rfl ?_
    refine zx_iload_n dR_readOne_56 rfl ?_
    refine zx_bipush (v := nI 6) dR_readOne_57 (by decide) ?_
    refine zn_icmp_ge (tgt := 94) dR_readOne_59 rfl (by omega) (by omega) (fun h59 => ?_) (fun h59 => ?_)
    · refine zx_iconst (v := nI 0) dR_readOne_94 (by decide) ?_
      exact zx_zret hE rfl (by first | decide | exact bI_nar _) dR_readOne_95 rfl (Nat.le_of_ble_eq_true rfl) (by
        unfold gOne
        rw [if_pos h40]
        first
        | (rw [if_neg (by rw [decide_eq_false (by omega)]; decide)]; exact ⟨_, rfl, rfl, rfl, h3, h4⟩)
        | (rw [if_pos (decide_eq_true (by omega)), pThen_t h68, pThen_t h78]; exact ⟨_, rfl, rfl, by rw [h87]; rfl, ((h3.tr h6).tr h9).tr h12, h13⟩)
        | (rw [if_pos (decide_eq_true (by omega)), pThen_t h68, pThen_f h78]; exact ⟨_, rfl, rfl, rfl, (h3.tr h6).tr h9, h10⟩)
        | (rw [if_pos (decide_eq_true (by omega)), pThen_f h68]; exact ⟨_, rfl, rfl, rfl, h3.tr h6, h7⟩))
    · refine zx_aload_n dR_readOne_62 rfl ?_
      refine zx_bipush (v := nI 40) dR_readOne_63 (by decide) ?_
      refine zc_Vr (n0 := n) (ce := 0) (kR_take G (d - 1) (by omega) h4 (c := 40) (by decide) (by decide)) (meR_take _) lkR_48 hs rfl rfl hD (Nat.le_of_ble_eq_true rfl) rfl rfl (Nat.le_of_ble_eq_true rfl) (Nat.le_of_ble_eq_true rfl) (Nat.le_of_ble_eq_true rfl) dR_readOne_65 (fun v r3 h5 => ?_)
      obtain ⟨rfl, h6, h7⟩ := h5
      refine zb_if_eq (tgt := 94) dR_readOne_68 rfl (fun h68 => ?_) (fun h68 => ?_)
      · refine zx_iconst (v := nI 0) dR_readOne_94 (by decide) ?_
        exact zx_zret hE rfl (by first | decide | exact bI_nar _) dR_readOne_95 rfl (Nat.le_of_ble_eq_true rfl) (by
        unfold gOne
        rw [if_pos h40]
        first
        | (rw [if_neg (by rw [decide_eq_false (by omega)]; decide)]; exact ⟨_, rfl, rfl, rfl, h3, h4⟩)
        | (rw [if_pos (decide_eq_true (by omega)), pThen_t h68, pThen_t h78]; exact ⟨_, rfl, rfl, by rw [h87]; rfl, ((h3.tr h6).tr h9).tr h12, h13⟩)
        | (rw [if_pos (decide_eq_true (by omega)), pThen_t h68, pThen_f h78]; exact ⟨_, rfl, rfl, rfl, (h3.tr h6).tr h9, h10⟩)
        | (rw [if_pos (decide_eq_true (by omega)), pThen_f h68]; exact ⟨_, rfl, rfl, rfl, h3.tr h6, h7⟩))
      · refine zx_aload_n dR_readOne_71 rfl ?_
        refine zx_iload_n dR_readOne_72 rfl ?_
        refine zx_iconst (v := nI 1) dR_readOne_73 (by decide) ?_
        refine zn_iadd dR_readOne_74 ?_
        refine zc_Vr (n0 := n) (ce := 0) (hN (by omega) r3 _ h7) (meR_readAny _) lkR_37 hs rfl rfl hD (Nat.le_of_ble_eq_true rfl) rfl rfl (Nat.le_of_ble_eq_true rfl) (Nat.le_of_ble_eq_true rfl) (Nat.le_of_ble_eq_true rfl) dR_readOne_75 (fun v r4 h8 => ?_)
        obtain ⟨rfl, h9, h10⟩ := h8
        refine zb_if_eq (tgt := 94) dR_readOne_78 rfl (fun h78 => ?_) (fun h78 => ?_)
        · refine zx_iconst (v := nI 0) dR_readOne_94 (by decide) ?_
          exact zx_zret hE rfl (by first | decide | exact bI_nar _) dR_readOne_95 rfl (Nat.le_of_ble_eq_true rfl) (by
        unfold gOne
        rw [if_pos h40]
        first
        | (rw [if_neg (by rw [decide_eq_false (by omega)]; decide)]; exact ⟨_, rfl, rfl, rfl, h3, h4⟩)
        | (rw [if_pos (decide_eq_true (by omega)), pThen_t h68, pThen_t h78]; exact ⟨_, rfl, rfl, by rw [h87]; rfl, ((h3.tr h6).tr h9).tr h12, h13⟩)
        | (rw [if_pos (decide_eq_true (by omega)), pThen_t h68, pThen_f h78]; exact ⟨_, rfl, rfl, rfl, (h3.tr h6).tr h9, h10⟩)
        | (rw [if_pos (decide_eq_true (by omega)), pThen_f h68]; exact ⟨_, rfl, rfl, rfl, h3.tr h6, h7⟩))
        · refine zx_aload_n dR_readOne_81 rfl ?_
          refine zx_bipush (v := nI 41) dR_readOne_82 (by decide) ?_
          refine zc_Vr (n0 := n) (ce := 0) (kR_take G (d - 1) (by omega) h10 (c := 41) (by decide) (by decide)) (meR_take _) lkR_48 hs rfl rfl hD (Nat.le_of_ble_eq_true rfl) rfl rfl (Nat.le_of_ble_eq_true rfl) (Nat.le_of_ble_eq_true rfl) (Nat.le_of_ble_eq_true rfl) dR_readOne_84 (fun v r5 h11 => ?_)
          obtain ⟨rfl, h12, h13⟩ := h11
          refine zb_if_eq (tgt := 94) dR_readOne_87 rfl (fun h87 => ?_) (fun h87 => ?_)
          · refine zx_iconst (v := nI 0) dR_readOne_94 (by decide) ?_
            exact zx_zret hE rfl (by first | decide | exact bI_nar _) dR_readOne_95 rfl (Nat.le_of_ble_eq_true rfl) (by
        unfold gOne
        rw [if_pos h40]
        first
        | (rw [if_neg (by rw [decide_eq_false (by omega)]; decide)]; exact ⟨_, rfl, rfl, rfl, h3, h4⟩)
        | (rw [if_pos (decide_eq_true (by omega)), pThen_t h68, pThen_t h78]; exact ⟨_, rfl, rfl, by rw [h87]; rfl, ((h3.tr h6).tr h9).tr h12, h13⟩)
        | (rw [if_pos (decide_eq_true (by omega)), pThen_t h68, pThen_f h78]; exact ⟨_, rfl, rfl, rfl, (h3.tr h6).tr h9, h10⟩)
        | (rw [if_pos (decide_eq_true (by omega)), pThen_f h68]; exact ⟨_, rfl, rfl, rfl, h3.tr h6, h7⟩))
          · refine zx_iconst (v := nI 1) dR_readOne_90 (by decide) ?_
            refine zx_goto (tgt := 95) dR_readOne_91 rfl ?_
            exact zx_zret hE rfl (by first | decide | exact bI_nar _) dR_readOne_95 rfl (Nat.le_of_ble_eq_true rfl) (by
        unfold gOne
        rw [if_pos h40]
        first
        | (rw [if_neg (by rw [decide_eq_false (by omega)]; decide)]; exact ⟨_, rfl, rfl, rfl, h3, h4⟩)
        | (rw [if_pos (decide_eq_true (by omega)), pThen_t h68, pThen_t h78]; exact ⟨_, rfl, rfl, by rw [h87]; rfl, ((h3.tr h6).tr h9).tr h12, h13⟩)
        | (rw [if_pos (decide_eq_true (by omega)), pThen_t h68, pThen_f h78]; exact ⟨_, rfl, rfl, rfl, (h3.tr h6).tr h9, h10⟩)
        | (rw [if_pos (decide_eq_true (by omega)), pThen_f h68]; exact ⟨_, rfl, rfl, rfl, h3.tr h6, h7⟩))
  by_cases h34 : at0 xs (skp xs s.1) = 34
  · rw [h34]
    have hlt : skp xs s.1 < xs.length := hlt0 (by omega)
    refine zx_look (tgt := 96) (off := 92) dR_readOne_4 (by decide) (by decide) rfl ?_
    refine zx_aload_n dR_readOne_96 rfl ?_
    refine zc_Vr (n0 := n) (ce := 0) (kR_readRow G (d - 1) (by omega) h4) (meR_readRow _) lkR_66 hs rfl rfl hD (Nat.le_of_ble_eq_true rfl) rfl rfl (Nat.le_of_ble_eq_true rfl) (Nat.le_of_ble_eq_true rfl) (Nat.le_of_ble_eq_true rfl) dR_readOne_97 (fun v r3 h5 => ?_)
    obtain ⟨rfl, h6, h7⟩ := h5
    exact zx_zret hE rfl (by first | decide | exact bI_nar _) dR_readOne_100 rfl (Nat.le_of_ble_eq_true rfl) (by unfold gOne; rw [if_neg (by omega), if_pos h34]; exact ⟨_, rfl, rfl, rfl, h3.tr h6, h7⟩)
  by_cases h61 : at0 xs (skp xs s.1) = 61
  · rw [h61]
    have hlt : skp xs s.1 < xs.length := hlt0 (by omega)
    refine zx_look (tgt := 101) (off := 97) dR_readOne_4 (by decide) (by decide) rfl ?_
    refine zx_aload_n dR_readOne_101 rfl ?_
    refine zx_iconst (v := nI 1) dR_readOne_102 (by decide) ?_
    refine zc_Vr (n0 := n) (ce := 0) (kR_readFilter G (d - 1) (by omega) h4 (kd := 1) hlt) (meR_readFilter _) lkR_69 hs rfl rfl hD (Nat.le_of_ble_eq_true rfl) rfl rfl (Nat.le_of_ble_eq_true rfl) (Nat.le_of_ble_eq_true rfl) (Nat.le_of_ble_eq_true rfl) dR_readOne_103 (fun v r3 h5 => ?_)
    obtain ⟨rfl, h6, h7⟩ := h5
    exact zx_zret hE rfl (by first | decide | exact bI_nar _) dR_readOne_106 rfl (Nat.le_of_ble_eq_true rfl) (by unfold gOne; rw [if_neg (by omega), if_neg (by omega), if_pos h61]; exact ⟨_, rfl, rfl, rfl, h3.tr h6, h7⟩)
  by_cases h60 : at0 xs (skp xs s.1) = 60
  · rw [h60]
    have hlt : skp xs s.1 < xs.length := hlt0 (by omega)
    refine zx_look (tgt := 107) (off := 103) dR_readOne_4 (by decide) (by decide) rfl ?_
    refine zx_aload_n dR_readOne_107 rfl ?_
    refine zx_iconst (v := nI 2) dR_readOne_108 (by decide) ?_
    refine zc_Vr (n0 := n) (ce := 0) (kR_readFilter G (d - 1) (by omega) h4 (kd := 2) hlt) (meR_readFilter _) lkR_69 hs rfl rfl hD (Nat.le_of_ble_eq_true rfl) rfl rfl (Nat.le_of_ble_eq_true rfl) (Nat.le_of_ble_eq_true rfl) (Nat.le_of_ble_eq_true rfl) dR_readOne_109 (fun v r3 h5 => ?_)
    obtain ⟨rfl, h6, h7⟩ := h5
    exact zx_zret hE rfl (by first | decide | exact bI_nar _) dR_readOne_112 rfl (Nat.le_of_ble_eq_true rfl) (by unfold gOne; rw [if_neg (by omega), if_neg (by omega), if_neg (by omega), if_pos h60]; exact ⟨_, rfl, rfl, rfl, h3.tr h6, h7⟩)
  by_cases h62 : at0 xs (skp xs s.1) = 62
  · rw [h62]
    have hlt : skp xs s.1 < xs.length := hlt0 (by omega)
    refine zx_look (tgt := 113) (off := 109) dR_readOne_4 (by decide) (by decide) rfl ?_
    refine zx_aload_n dR_readOne_113 rfl ?_
    refine zx_iconst (v := nI 3) dR_readOne_114 (by decide) ?_
    refine zc_Vr (n0 := n) (ce := 0) (kR_readFilter G (d - 1) (by omega) h4 (kd := 3) hlt) (meR_readFilter _) lkR_69 hs rfl rfl hD (Nat.le_of_ble_eq_true rfl) rfl rfl (Nat.le_of_ble_eq_true rfl) (Nat.le_of_ble_eq_true rfl) (Nat.le_of_ble_eq_true rfl) dR_readOne_115 (fun v r3 h5 => ?_)
    obtain ⟨rfl, h6, h7⟩ := h5
    exact zx_zret hE rfl (by first | decide | exact bI_nar _) dR_readOne_118 rfl (Nat.le_of_ble_eq_true rfl) (by unfold gOne; rw [if_neg (by omega), if_neg (by omega), if_neg (by omega), if_neg (by omega), if_pos h62]; exact ⟨_, rfl, rfl, rfl, h3.tr h6, h7⟩)
  have hne : ∀ k : Nat, k < 127 → ¬ at0 xs (skp xs s.1) = k → ¬ nI (at0 xs (skp xs s.1)) = nI k := fun k hk h g => h ((nI_eq (zL31 (by omega)) (zL31 (by omega))).mp g)
  refine zx_look (tgt := 119) (off := 115) dR_readOne_4 (by decide) (by
    show Op.lookupswitch.offset [(34, 92), (40, 52), (60, 103), (61, 97), (62, 109)] 115 _ = 115
    rw [lv_osw (hne 34 (by decide) h34) (by decide), lv_osw (hne 40 (by decide) h40) (by decide), lv_osw (hne 60 (by decide) h60) (by decide), lv_osw (hne 61 (by decide) h61) (by decide), lv_osw (hne 62 (by decide) h62) (by decide)]
    rfl) rfl ?_
  refine zx_aload_n dR_readOne_119 rfl ?_
  refine zc_Vr (n0 := n) (ce := 0) (kR_readWord G (d - 1) (by omega) h4) (meR_readWord _) lkR_72 hs rfl rfl hD (Nat.le_of_ble_eq_true rfl) rfl rfl (Nat.le_of_ble_eq_true rfl) (Nat.le_of_ble_eq_true rfl) (Nat.le_of_ble_eq_true rfl) dR_readOne_120 (fun v r3 h5 => ?_)
  obtain ⟨rfl, h6, h7⟩ := h5
  refine zb_if_eq (tgt := 149) dR_readOne_123 rfl (fun h123 => ?_) (fun h123 => ?_)
  · refine zx_iconst (v := nI 0) dR_readOne_149 (by decide) ?_
    exact zx_zret hE rfl (by first | decide | exact bI_nar _) dR_readOne_150 rfl (Nat.le_of_ble_eq_true rfl) (by
      unfold gOne
      rw [if_neg (by omega), if_neg (by omega), if_neg (by omega), if_neg (by omega), if_neg (by omega)]
      first
      | (rw [pThen_t h123]; exact ⟨_, rfl, rfl, by rw [h142]; rfl, (h3.tr h6).tr h8, h9⟩)
      | (rw [pThen_f h123]; exact ⟨_, rfl, rfl, rfl, h3.tr h6, h7⟩))
  · refine zx_aload_n dR_readOne_126 rfl ?_
    refine zx_get dR_readOne_127 flR_21 hs h7.2.2.1 ?_
    refine zx_aload_n dR_readOne_130 rfl ?_
    refine zx_get dR_readOne_131 flR_21 hs h7.2.2.1 ?_
    have hwp := pWord_pos h123
    refine zx_getN dR_readOne_134 flR_75 h7.2.2.2.2.2.1.1.1 h7.2.2.2.2.2.1.2.1.2.2.2.2.2 ?_
    refine zx_iconst (v := nI 1) dR_readOne_137 (by decide) ?_
    refine zn_isub dR_readOne_138 (by omega) ?_
    refine zc_Vr (n0 := n) (ce := 0) (kQ_addWordsStep G (d - 1) (by omega) (nu := nI ((pWord xs (skp xs s.1, s.2)).2.2.2.length - 1)) h7.2.2.2.2.2.1) (meQ_addWordsStep _) lkR_78 h7.2.2.2.2.2.1.1.1 rfl rfl hD (Nat.le_of_ble_eq_true rfl) rfl rfl (Nat.le_of_ble_eq_true rfl) (Nat.le_of_ble_eq_true rfl) (Nat.le_of_ble_eq_true rfl) dR_readOne_139 (fun v r4 hq7 => ?_)
    obtain ⟨hv, h8, h9⟩ := rd_step h7 hq7
    subst hv
    refine zb_if_eq (tgt := 149) dR_readOne_142 rfl (fun h142 => ?_) (fun h142 => ?_)
    · refine zx_iconst (v := nI 0) dR_readOne_149 (by decide) ?_
      exact zx_zret hE rfl (by first | decide | exact bI_nar _) dR_readOne_150 rfl (Nat.le_of_ble_eq_true rfl) (by
      unfold gOne
      rw [if_neg (by omega), if_neg (by omega), if_neg (by omega), if_neg (by omega), if_neg (by omega)]
      first
      | (rw [pThen_t h123]; exact ⟨_, rfl, rfl, by rw [h142]; rfl, (h3.tr h6).tr h8, h9⟩)
      | (rw [pThen_f h123]; exact ⟨_, rfl, rfl, rfl, h3.tr h6, h7⟩))
    · refine zx_iconst (v := nI 1) dR_readOne_145 (by decide) ?_
      refine zx_goto (tgt := 150) dR_readOne_146 rfl ?_
      exact zx_zret hE rfl (by first | decide | exact bI_nar _) dR_readOne_150 rfl (Nat.le_of_ble_eq_true rfl) (by
      unfold gOne
      rw [if_neg (by omega), if_neg (by omega), if_neg (by omega), if_neg (by omega), if_neg (by omega)]
      first
      | (rw [pThen_t h123]; exact ⟨_, rfl, rfl, by rw [h142]; rfl, (h3.tr h6).tr h8, h9⟩)
      | (rw [pThen_f h123]; exact ⟨_, rfl, rfl, rfl, h3.tr h6, h7⟩))

theorem bI_not {b : Bool} : bI (!b) = if b = true then nI 0 else nI 1 := by cases b <;> rfl

theorem partL_f {xs : List Nat} {j : Nat} {g : PR} (hj : 0 < j) (h : (pTake xs 45 g.2).1 = false) : partL xs j g = (g.1, (pTake xs 45 g.2).2) := by
  cases j with
  | zero => omega
  | succ j => show (if (pTake xs 45 g.2).1 = true then _ else _) = _; rw [if_neg (by rw [h]; decide)]

set_option maxHeartbeats 4000000 in
set_option maxRecDepth 100000 in
theorem kR_readPart (G : zG) (d : Nat) (hd : 7 ≤ d) {n : Nat} {sh : zSh} {row : zRw} {r q : Nat} {xs : List Nat} {s : PS} (hR : RdA sh row r q xs s) {op : Nat} (hop : op ≤ 6) {nest : PS → PR} (hN : op < 6 → ∀ (row' : zRw) (s' : PS), RdA sh row' r q xs s' → zM G (fR_readAny (d - 2)) [.ref r, .int (nI (op + 1))] n sh row' (zRd sh row' r q xs (nest s'))) : zM G (fR_readPart d) [.ref r, .int (nI op)] n sh row (zRd sh row r q xs (gPart xs nest (decide (op < 6)) s)) := by
  refine zM.of (by show plainName "PostIndex$QueryReader" = true; decide +kernel) (Nat.le_of_ble_eq_true rfl) (by intro v hv; simp at hv; rcases hv with rfl | rfl <;> rfl) ?_
  intro K hE
  show zX G K (fR_readPart d) n 0 0 sh row 0 [.ref r, .int (nI op), .retAddr 0, .retAddr 0] []
  have hD : d - 1 + 1 ≤ d := by omega
  obtain ⟨hs, hp0, hp1, hp2, hT, hQ, hat, hdj⟩ := id hR
  have hxl := hT.2.2.2.2.1
  have hN : op < 6 → ∀ (row' : zRw) (s' : PS), RdA sh row' r q xs s' → zM G (fR_readAny (d - 1 - 1)) [.ref r, .int (nI (op + 1))] n sh row' (zRd sh row' r q xs (nest s')) := hN
  have exit : ∀ (l : PR) (v3 : Value) (rX : zRw), l = partL xs 24 (false, s) → frR r q row rX → RdA sh rX r q xs l.2 → zX G K (fR_readPart d) n 0 0 sh rX 35 [.ref r, .int (nI op), .int (bI l.1), v3] [] := by
    intro l v3 rX hL hXf hX
    refine zx_aload_n dR_readPart_35 rfl ?_
    refine zx_iload_n dR_readPart_36 rfl ?_
    refine zc_Vr (n0 := n) (ce := 0) (kR_readOne G (d - 1) (by omega) hX hop (by first | exact hN)) (meR_readOne _) lkR_63 hs rfl rfl hD (Nat.le_of_ble_eq_true rfl) rfl rfl (Nat.le_of_ble_eq_true rfl) (Nat.le_of_ble_eq_true rfl) (Nat.le_of_ble_eq_true rfl) dR_readPart_37 (fun v r3 h5 => ?_)
    obtain ⟨rfl, h6, h7⟩ := h5
    refine zb_if_eq (tgt := 63) dR_readPart_40 rfl (fun h40 => ?_) (fun h40 => ?_)
    · refine zx_iconst (v := nI 0) dR_readPart_63 (by decide) ?_
      exact zx_zret hE rfl (by first | decide | exact bI_nar _) dR_readPart_64 rfl (Nat.le_of_ble_eq_true rfl) (by
      unfold gPart
      rw [← hL]
      first
      | (rw [pThen_t h40, denF_t h44]; exact ⟨_, rfl, rfl, by rw [h56]; rfl, (hXf.tr h6).tr h8, h9⟩)
      | (rw [pThen_t h40, denF_f h44]; exact ⟨_, rfl, rfl, rfl, hXf.tr h6, h7⟩)
      | (rw [pThen_f h40]; exact ⟨_, rfl, rfl, rfl, hXf.tr h6, h7⟩))
    · refine zx_iload_n dR_readPart_43 rfl ?_
      refine zb_if_eq (tgt := 59) dR_readPart_44 rfl (fun h44 => ?_) (fun h44 => ?_)
      · refine zx_iconst (v := nI 1) dR_readPart_59 (by decide) ?_
        refine zx_goto (tgt := 64) dR_readPart_60 rfl ?_
        exact zx_zret hE rfl (by first | decide | exact bI_nar _) dR_readPart_64 rfl (Nat.le_of_ble_eq_true rfl) (by
      unfold gPart
      rw [← hL]
      first
      | (rw [pThen_t h40, denF_t h44]; exact ⟨_, rfl, rfl, by rw [h56]; rfl, (hXf.tr h6).tr h8, h9⟩)
      | (rw [pThen_t h40, denF_f h44]; exact ⟨_, rfl, rfl, rfl, hXf.tr h6, h7⟩)
      | (rw [pThen_f h40]; exact ⟨_, rfl, rfl, rfl, hXf.tr h6, h7⟩))
      · refine zx_aload_n dR_readPart_47 rfl ?_
        refine zx_get dR_readPart_48 flR_21 hs h7.2.2.1 ?_
        refine zx_iconst (v := nI 4) dR_readPart_51 (by decide) ?_
        refine zx_iconst (v := nI 0) dR_readPart_52 (by decide) ?_
        refine zc_Vr (n0 := n) (ce := 0) (kQ_addStep G (d - 1) (by omega) (kd := 4) (nu := nI 0) h7.2.2.2.2.2.1) (meQ_addStep _) lkR_52 h7.2.2.2.2.2.1.1.1 rfl rfl hD (Nat.le_of_ble_eq_true rfl) rfl rfl (Nat.le_of_ble_eq_true rfl) (Nat.le_of_ble_eq_true rfl) (Nat.le_of_ble_eq_true rfl) dR_readPart_53 (fun v r4 hq7 => ?_)
        obtain ⟨hv, h8, h9⟩ := rd_step h7 hq7
        subst hv
        refine zb_if_eq (tgt := 63) dR_readPart_56 rfl (fun h56 => ?_) (fun h56 => ?_)
        · refine zx_iconst (v := nI 0) dR_readPart_63 (by decide) ?_
          exact zx_zret hE rfl (by first | decide | exact bI_nar _) dR_readPart_64 rfl (Nat.le_of_ble_eq_true rfl) (by
      unfold gPart
      rw [← hL]
      first
      | (rw [pThen_t h40, denF_t h44]; exact ⟨_, rfl, rfl, by rw [h56]; rfl, (hXf.tr h6).tr h8, h9⟩)
      | (rw [pThen_t h40, denF_f h44]; exact ⟨_, rfl, rfl, rfl, hXf.tr h6, h7⟩)
      | (rw [pThen_f h40]; exact ⟨_, rfl, rfl, rfl, hXf.tr h6, h7⟩))
        · refine zx_iconst (v := nI 1) dR_readPart_59 (by decide) ?_
          refine zx_goto (tgt := 64) dR_readPart_60 rfl ?_
          exact zx_zret hE rfl (by first | decide | exact bI_nar _) dR_readPart_64 rfl (Nat.le_of_ble_eq_true rfl) (by
      unfold gPart
      rw [← hL]
      first
      | (rw [pThen_t h40, denF_t h44]; exact ⟨_, rfl, rfl, by rw [h56]; rfl, (hXf.tr h6).tr h8, h9⟩)
      | (rw [pThen_t h40, denF_f h44]; exact ⟨_, rfl, rfl, rfl, hXf.tr h6, h7⟩)
      | (rw [pThen_f h40]; exact ⟨_, rfl, rfl, rfl, hXf.tr h6, h7⟩))
  have loop : ∀ (k : Nat) (g : PR) (i j : Nat) (r2 : zRw), 24 - i < k → frR r q row r2 → RdA sh r2 r q xs g.2 → partL xs j g = partL xs 24 (false, s) → j + i = 24 → zX G K (fR_readPart d) n 0 0 sh r2 4 [.ref r, .int (nI op), .int (bI g.1), .int (nI i)] [] := by
    intro k
    induction k with
    | zero => intro g i j r2 hk; exact absurd hk (Nat.not_lt_zero _)
    | succ k ih =>
      intro g i j r2 hk h3 h4 h5 h6
      refine zx_iload_n dR_readPart_4 rfl ?_
      refine zx_bipush (v := nI 24) dR_readPart_5 (by decide) ?_
      refine zn_icmp_ge (tgt := 35) dR_readPart_7 rfl (by omega) (by omega) (fun h7 => ?_) (fun h7 => ?_)
      · first | exact exit (g.1, (pTake xs 45 g.2).2) _ r3 (by rw [← h5, partL_f (by omega) h16]) (h3.tr h8) h9 | exact exit g _ r2 (by rw [← h5, show j = 0 by omega]; rfl) h3 h4
      · refine zx_aload_n dR_readPart_10 rfl ?_
        refine zx_bipush (v := nI 45) dR_readPart_11 (by decide) ?_
        refine zc_Vr (n0 := n) (ce := 0) (kR_take G (d - 1) (by omega) h4 (c := 45) (by decide) (by decide)) (meR_take _) lkR_48 hs rfl rfl hD (Nat.le_of_ble_eq_true rfl) rfl rfl (Nat.le_of_ble_eq_true rfl) (Nat.le_of_ble_eq_true rfl) (Nat.le_of_ble_eq_true rfl) dR_readPart_13 (fun v r3 h7 => ?_)
        obtain ⟨rfl, h8, h9⟩ := h7
        refine zb_if_eq (tgt := 35) dR_readPart_16 rfl (fun h16 => ?_) (fun h16 => ?_)
        · first | exact exit (g.1, (pTake xs 45 g.2).2) _ r3 (by rw [← h5, partL_f (by omega) h16]) (h3.tr h8) h9 | exact exit g _ r2 (by rw [← h5, show j = 0 by omega]; rfl) h3 h4
        · refine zx_iload_n dR_readPart_19 rfl ?_
          refine zb_if_ne (tgt := 27) dR_readPart_20 rfl (fun h20 => ?_) (fun h20 => ?_)
          · refine zx_iconst (v := nI 0) dR_readPart_27 (by decide) ?_
            obtain ⟨j, rfl⟩ : ∃ j1, j = j1 + 1 := ⟨j - 1, by omega⟩
            have hh := ih (!g.1, (pTake xs 45 g.2).2) (i + 1) j r3 (by omega) (h3.tr h8) h9 (by rw [← h5]; show _ = (if (pTake xs 45 g.2).1 = true then _ else _); rw [if_pos h16]) (by omega)
            rw [show bI ((!g.1, (pTake xs 45 g.2).2) : PR).1 = (if g.1 = true then nI 0 else nI 1) from bI_not] at hh
            first | rw [if_pos h20] at hh | rw [if_neg (by rw [h20]; decide)] at hh
            refine zx_istore_n dR_readPart_28 (Nat.le_of_ble_eq_true rfl) rfl rfl ?_
            refine zn_iinc (c := 1) dR_readPart_29 (Nat.le_of_ble_eq_true rfl) rfl rfl ?_
            refine zx_goto (tgt := 4) dR_readPart_32 rfl ?_
            exact hh
          · refine zx_iconst (v := nI 1) dR_readPart_23 (by decide) ?_
            refine zx_goto (tgt := 28) dR_readPart_24 rfl ?_
            obtain ⟨j, rfl⟩ : ∃ j1, j = j1 + 1 := ⟨j - 1, by omega⟩
            have hh := ih (!g.1, (pTake xs 45 g.2).2) (i + 1) j r3 (by omega) (h3.tr h8) h9 (by rw [← h5]; show _ = (if (pTake xs 45 g.2).1 = true then _ else _); rw [if_pos h16]) (by omega)
            rw [show bI ((!g.1, (pTake xs 45 g.2).2) : PR).1 = (if g.1 = true then nI 0 else nI 1) from bI_not] at hh
            first | rw [if_pos h20] at hh | rw [if_neg (by rw [h20]; decide)] at hh
            refine zx_istore_n dR_readPart_28 (Nat.le_of_ble_eq_true rfl) rfl rfl ?_
            refine zn_iinc (c := 1) dR_readPart_29 (Nat.le_of_ble_eq_true rfl) rfl rfl ?_
            refine zx_goto (tgt := 4) dR_readPart_32 rfl ?_
            exact hh
  refine zx_iconst (v := nI 0) dR_readPart_0 (by decide) ?_
  refine zx_istore_n dR_readPart_1 (Nat.le_of_ble_eq_true rfl) rfl rfl ?_
  refine zx_iconst (v := nI 0) dR_readPart_2 (by decide) ?_
  refine zx_istore_n dR_readPart_3 (Nat.le_of_ble_eq_true rfl) rfl rfl ?_
  exact loop _ (false, s) 0 24 row (Nat.lt_succ_self _) frR.rf hR rfl rfl

theorem allL_f {xs : List Nat} {p : PS → PR} {j : Nat} {g : PR} (h : g.1 = false) : allL xs p j g = g := by
  cases j with
  | zero => rfl
  | succ j => show (if g.1 = true then _ else _) = _; rw [if_neg (by rw [h]; decide)]
theorem allL_t {xs : List Nat} {p : PS → PR} {j : Nat} {g : PR} (hj : 0 < j) (h : g.1 = true) (h2 : (pFol xs g.2).1 = false) : allL xs p j g = (true, (pFol xs g.2).2) := by
  cases j with
  | zero => omega
  | succ j => show (if g.1 = true then _ else _) = _; rw [if_pos h, if_neg (by rw [h2]; decide)]
theorem anyL_f {xs : List Nat} {p : PS → PR} {j : Nat} {g : PR} (h : g.1 = false) : anyL xs p j g = g := by
  cases j with
  | zero => rfl
  | succ j => show (if g.1 = true then _ else _) = _; rw [if_neg (by rw [h]; decide)]
theorem anyL_t {xs : List Nat} {p : PS → PR} {j : Nat} {g : PR} (hj : 0 < j) (h : g.1 = true) (h2 : (pTake xs 124 g.2).1 = false) : anyL xs p j g = (true, (pTake xs 124 g.2).2) := by
  cases j with
  | zero => omega
  | succ j => show (if g.1 = true then _ else _) = _; rw [if_pos h, if_neg (by rw [h2]; decide)]

set_option maxHeartbeats 4000000 in
set_option maxRecDepth 100000 in
theorem kR_readAll (G : zG) (d : Nat) (hd : 8 ≤ d) {n : Nat} {sh : zSh} {row : zRw} {r q : Nat} {xs : List Nat} {s : PS} (hR : RdA sh row r q xs s) {op : Nat} (hop : op ≤ 6) {nest : PS → PR} (hN : op < 6 → ∀ (row' : zRw) (s' : PS), RdA sh row' r q xs s' → zM G (fR_readAny (d - 3)) [.ref r, .int (nI (op + 1))] n sh row' (zRd sh row' r q xs (nest s'))) : zM G (fR_readAll d) [.ref r, .int (nI op)] n sh row (zRd sh row r q xs (gAll xs nest (decide (op < 6)) s)) := by
  refine zM.of (by show plainName "PostIndex$QueryReader" = true; decide +kernel) (Nat.le_of_ble_eq_true rfl) (by intro v hv; simp at hv; rcases hv with rfl | rfl <;> rfl) ?_
  intro K hE
  show zX G K (fR_readAll d) n 0 0 sh row 0 [.ref r, .int (nI op), .retAddr 0, .retAddr 0] []
  have hD : d - 1 + 1 ≤ d := by omega
  obtain ⟨hs, hp0, hp1, hp2, hT, hQ, hat, hdj⟩ := id hR
  have hxl := hT.2.2.2.2.1
  have hN : op < 6 → ∀ (row' : zRw) (s' : PS), RdA sh row' r q xs s' → zM G (fR_readAny (d - 1 - 2)) [.ref r, .int (nI (op + 1))] n sh row' (zRd sh row' r q xs (nest s')) := hN
  have loop : ∀ (k : Nat) (g : PR) (i j : Nat) (r2 : zRw), 24 - i < k → frR r q row r2 → RdA sh r2 r q xs g.2 → allL xs (gPart xs nest (decide (op < 6))) j g = allL xs (gPart xs nest (decide (op < 6))) 24 (gPart xs nest (decide (op < 6)) s) → j + i = 24 → zX G K (fR_readAll d) n 0 0 sh r2 8 [.ref r, .int (nI op), .int (bI g.1), .int (nI i)] [] := by
    intro k
    induction k with
    | zero => intro g i j r2 hk; exact absurd hk (Nat.not_lt_zero _)
    | succ k ih =>
      intro g i j r2 hk h3 h4 h5 h6
      refine zx_iload_n dR_readAll_8 rfl ?_
      refine zx_bipush (v := nI 24) dR_readAll_9 (by decide) ?_
      refine zn_icmp_ge (tgt := 57) dR_readAll_11 rfl (by omega) (by omega) (fun h11 => ?_) (fun h11 => ?_)
      · first
        | (have hL : allL xs (gPart xs nest (decide (op < 6))) 24 (gPart xs nest (decide (op < 6)) s) = (g.1, (pFol xs g.2).2) := by rw [← h5, allL_t (by omega) h15 h22, h15]
           refine zx_iload_n dR_readAll_57 rfl ?_
           exact zx_zret hE rfl (by first | decide | exact bI_nar _) dR_readAll_58 rfl (Nat.le_of_ble_eq_true rfl) (by refine ⟨_, rfl, rfl, ?_, h3.tr h8, ?_⟩ <;> (unfold gAll; rw [hL]); exact h9))
        | (have hL : allL xs (gPart xs nest (decide (op < 6))) 24 (gPart xs nest (decide (op < 6)) s) = g := by rw [← h5]; first | rw [allL_f h15] | (rw [show j = 0 by omega]; rfl)
           refine zx_iload_n dR_readAll_57 rfl ?_
           exact zx_zret hE rfl (by first | decide | exact bI_nar _) dR_readAll_58 rfl (Nat.le_of_ble_eq_true rfl) (by refine ⟨_, rfl, rfl, ?_, h3, ?_⟩ <;> (unfold gAll; rw [hL]); exact h4))
      · refine zx_iload_n dR_readAll_14 rfl ?_
        refine zb_if_eq (tgt := 57) dR_readAll_15 rfl (fun h15 => ?_) (fun h15 => ?_)
        · first
          | (have hL : allL xs (gPart xs nest (decide (op < 6))) 24 (gPart xs nest (decide (op < 6)) s) = (g.1, (pFol xs g.2).2) := by rw [← h5, allL_t (by omega) h15 h22, h15]
             refine zx_iload_n dR_readAll_57 rfl ?_
             exact zx_zret hE rfl (by first | decide | exact bI_nar _) dR_readAll_58 rfl (Nat.le_of_ble_eq_true rfl) (by refine ⟨_, rfl, rfl, ?_, h3.tr h8, ?_⟩ <;> (unfold gAll; rw [hL]); exact h9))
          | (have hL : allL xs (gPart xs nest (decide (op < 6))) 24 (gPart xs nest (decide (op < 6)) s) = g := by rw [← h5]; first | rw [allL_f h15] | (rw [show j = 0 by omega]; rfl)
             refine zx_iload_n dR_readAll_57 rfl ?_
             exact zx_zret hE rfl (by first | decide | exact bI_nar _) dR_readAll_58 rfl (Nat.le_of_ble_eq_true rfl) (by refine ⟨_, rfl, rfl, ?_, h3, ?_⟩ <;> (unfold gAll; rw [hL]); exact h4))
        · refine zx_aload_n dR_readAll_18 rfl ?_
          refine zc_Vr (n0 := n) (ce := 0) (kR_partFollows G (d - 1) (by omega) h4) (meR_partFollows _) lkR_59 hs rfl rfl hD (Nat.le_of_ble_eq_true rfl) rfl rfl (Nat.le_of_ble_eq_true rfl) (Nat.le_of_ble_eq_true rfl) (Nat.le_of_ble_eq_true rfl) dR_readAll_19 (fun v r3 h7 => ?_)
          obtain ⟨rfl, h8, h9⟩ := h7
          refine zb_if_eq (tgt := 57) dR_readAll_22 rfl (fun h22 => ?_) (fun h22 => ?_)
          · first
            | (have hL : allL xs (gPart xs nest (decide (op < 6))) 24 (gPart xs nest (decide (op < 6)) s) = (g.1, (pFol xs g.2).2) := by rw [← h5, allL_t (by omega) h15 h22, h15]
               refine zx_iload_n dR_readAll_57 rfl ?_
               exact zx_zret hE rfl (by first | decide | exact bI_nar _) dR_readAll_58 rfl (Nat.le_of_ble_eq_true rfl) (by refine ⟨_, rfl, rfl, ?_, h3.tr h8, ?_⟩ <;> (unfold gAll; rw [hL]); exact h9))
            | (have hL : allL xs (gPart xs nest (decide (op < 6))) 24 (gPart xs nest (decide (op < 6)) s) = g := by rw [← h5]; first | rw [allL_f h15] | (rw [show j = 0 by omega]; rfl)
               refine zx_iload_n dR_readAll_57 rfl ?_
               exact zx_zret hE rfl (by first | decide | exact bI_nar _) dR_readAll_58 rfl (Nat.le_of_ble_eq_true rfl) (by refine ⟨_, rfl, rfl, ?_, h3, ?_⟩ <;> (unfold gAll; rw [hL]); exact h4))
          · refine zx_aload_n dR_readAll_25 rfl ?_
            refine zx_iload_n dR_readAll_26 rfl ?_
            refine zc_Vr (n0 := n) (ce := 0) (kR_readPart G (d - 1) (by omega) h9 hop hN) (meR_readPart _) lkR_56 hs rfl rfl hD (Nat.le_of_ble_eq_true rfl) rfl rfl (Nat.le_of_ble_eq_true rfl) (Nat.le_of_ble_eq_true rfl) (Nat.le_of_ble_eq_true rfl) dR_readAll_27 (fun v r4 h10 => ?_)
            obtain ⟨rfl, h11, h12⟩ := h10
            refine zb_if_eq (tgt := 49) dR_readAll_30 rfl (fun h30 => ?_) (fun h30 => ?_)
            · refine zx_iconst (v := nI 0) dR_readAll_49 (by decide) ?_
              obtain ⟨j, rfl⟩ : ∃ j1, j = j1 + 1 := ⟨j - 1, by omega⟩
              have h5 : allL xs (gPart xs nest (decide (op < 6))) j (pThen (gPart xs nest (decide (op < 6)) (pFol xs g.2).2) (pStep 5 (nI 0))) = allL xs (gPart xs nest (decide (op < 6))) 24 (gPart xs nest (decide (op < 6)) s) := by rw [← h5]; show _ = (if g.1 = true then (if (pFol xs g.2).1 = true then _ else _) else _); rw [if_pos h15, if_pos h22]
              first
              | (have e : pThen (gPart xs nest (decide (op < 6)) (pFol xs g.2).2) (pStep 5 (nI 0)) = pStep 5 (nI 0) (gPart xs nest (decide (op < 6)) (pFol xs g.2).2).2 := pThen_t h30
                 rw [e] at h5
                 have hh := ih _ (i + 1) j r5 (by omega) (((h3.tr h8).tr h11).tr h13) h14 h5 (by omega)
                 rw [h42] at hh
                 refine zx_istore_n dR_readAll_50 (Nat.le_of_ble_eq_true rfl) rfl rfl ?_
                 refine zn_iinc (c := 1) dR_readAll_51 (Nat.le_of_ble_eq_true rfl) rfl rfl ?_
                 refine zx_goto (tgt := 8) dR_readAll_54 rfl ?_
                 exact hh)
              | (have e : pThen (gPart xs nest (decide (op < 6)) (pFol xs g.2).2) (pStep 5 (nI 0)) = (false, (gPart xs nest (decide (op < 6)) (pFol xs g.2).2).2) := pThen_f h30
                 rw [e] at h5
                 have hh := ih (false, (gPart xs nest (decide (op < 6)) (pFol xs g.2).2).2) (i + 1) j r4 (by omega) ((h3.tr h8).tr h11) h12 h5 (by omega)
                 refine zx_istore_n dR_readAll_50 (Nat.le_of_ble_eq_true rfl) rfl rfl ?_
                 refine zn_iinc (c := 1) dR_readAll_51 (Nat.le_of_ble_eq_true rfl) rfl rfl ?_
                 refine zx_goto (tgt := 8) dR_readAll_54 rfl ?_
                 exact hh)
            · refine zx_aload_n dR_readAll_33 rfl ?_
              refine zx_get dR_readAll_34 flR_21 hs h12.2.2.1 ?_
              refine zx_iconst (v := nI 5) dR_readAll_37 (by decide) ?_
              refine zx_iconst (v := nI 0) dR_readAll_38 (by decide) ?_
              refine zc_Vr (n0 := n) (ce := 0) (kQ_addStep G (d - 1) (by omega) (kd := 5) (nu := nI 0) h12.2.2.2.2.2.1) (meQ_addStep _) lkR_52 h12.2.2.2.2.2.1.1.1 rfl rfl hD (Nat.le_of_ble_eq_true rfl) rfl rfl (Nat.le_of_ble_eq_true rfl) (Nat.le_of_ble_eq_true rfl) (Nat.le_of_ble_eq_true rfl) dR_readAll_39 (fun v r5 hq7 => ?_)
              obtain ⟨hv, h13, h14⟩ := rd_step h12 hq7
              subst hv
              refine zb_if_eq (tgt := 49) dR_readAll_42 rfl (fun h42 => ?_) (fun h42 => ?_)
              · refine zx_iconst (v := nI 0) dR_readAll_49 (by decide) ?_
                obtain ⟨j, rfl⟩ : ∃ j1, j = j1 + 1 := ⟨j - 1, by omega⟩
                have h5 : allL xs (gPart xs nest (decide (op < 6))) j (pThen (gPart xs nest (decide (op < 6)) (pFol xs g.2).2) (pStep 5 (nI 0))) = allL xs (gPart xs nest (decide (op < 6))) 24 (gPart xs nest (decide (op < 6)) s) := by rw [← h5]; show _ = (if g.1 = true then (if (pFol xs g.2).1 = true then _ else _) else _); rw [if_pos h15, if_pos h22]
                first
                | (have e : pThen (gPart xs nest (decide (op < 6)) (pFol xs g.2).2) (pStep 5 (nI 0)) = pStep 5 (nI 0) (gPart xs nest (decide (op < 6)) (pFol xs g.2).2).2 := pThen_t h30
                   rw [e] at h5
                   have hh := ih _ (i + 1) j r5 (by omega) (((h3.tr h8).tr h11).tr h13) h14 h5 (by omega)
                   rw [h42] at hh
                   refine zx_istore_n dR_readAll_50 (Nat.le_of_ble_eq_true rfl) rfl rfl ?_
                   refine zn_iinc (c := 1) dR_readAll_51 (Nat.le_of_ble_eq_true rfl) rfl rfl ?_
                   refine zx_goto (tgt := 8) dR_readAll_54 rfl ?_
                   exact hh)
                | (have e : pThen (gPart xs nest (decide (op < 6)) (pFol xs g.2).2) (pStep 5 (nI 0)) = (false, (gPart xs nest (decide (op < 6)) (pFol xs g.2).2).2) := pThen_f h30
                   rw [e] at h5
                   have hh := ih (false, (gPart xs nest (decide (op < 6)) (pFol xs g.2).2).2) (i + 1) j r4 (by omega) ((h3.tr h8).tr h11) h12 h5 (by omega)
                   refine zx_istore_n dR_readAll_50 (Nat.le_of_ble_eq_true rfl) rfl rfl ?_
                   refine zn_iinc (c := 1) dR_readAll_51 (Nat.le_of_ble_eq_true rfl) rfl rfl ?_
                   refine zx_goto (tgt := 8) dR_readAll_54 rfl ?_
                   exact hh)
              · refine zx_iconst (v := nI 1) dR_readAll_45 (by decide) ?_
                refine zx_goto (tgt := 50) dR_readAll_46 rfl ?_
                obtain ⟨j, rfl⟩ : ∃ j1, j = j1 + 1 := ⟨j - 1, by omega⟩
                have h5 : allL xs (gPart xs nest (decide (op < 6))) j (pThen (gPart xs nest (decide (op < 6)) (pFol xs g.2).2) (pStep 5 (nI 0))) = allL xs (gPart xs nest (decide (op < 6))) 24 (gPart xs nest (decide (op < 6)) s) := by rw [← h5]; show _ = (if g.1 = true then (if (pFol xs g.2).1 = true then _ else _) else _); rw [if_pos h15, if_pos h22]
                first
                | (have e : pThen (gPart xs nest (decide (op < 6)) (pFol xs g.2).2) (pStep 5 (nI 0)) = pStep 5 (nI 0) (gPart xs nest (decide (op < 6)) (pFol xs g.2).2).2 := pThen_t h30
                   rw [e] at h5
                   have hh := ih _ (i + 1) j r5 (by omega) (((h3.tr h8).tr h11).tr h13) h14 h5 (by omega)
                   rw [h42] at hh
                   refine zx_istore_n dR_readAll_50 (Nat.le_of_ble_eq_true rfl) rfl rfl ?_
                   refine zn_iinc (c := 1) dR_readAll_51 (Nat.le_of_ble_eq_true rfl) rfl rfl ?_
                   refine zx_goto (tgt := 8) dR_readAll_54 rfl ?_
                   exact hh)
                | (have e : pThen (gPart xs nest (decide (op < 6)) (pFol xs g.2).2) (pStep 5 (nI 0)) = (false, (gPart xs nest (decide (op < 6)) (pFol xs g.2).2).2) := pThen_f h30
                   rw [e] at h5
                   have hh := ih (false, (gPart xs nest (decide (op < 6)) (pFol xs g.2).2).2) (i + 1) j r4 (by omega) ((h3.tr h8).tr h11) h12 h5 (by omega)
                   refine zx_istore_n dR_readAll_50 (Nat.le_of_ble_eq_true rfl) rfl rfl ?_
                   refine zn_iinc (c := 1) dR_readAll_51 (Nat.le_of_ble_eq_true rfl) rfl rfl ?_
                   refine zx_goto (tgt := 8) dR_readAll_54 rfl ?_
                   exact hh)
  refine zx_aload_n dR_readAll_0 rfl ?_
  refine zx_iload_n dR_readAll_1 rfl ?_
  refine zc_Vr (n0 := n) (ce := 0) (kR_readPart G (d - 1) (by omega) hR hop hN) (meR_readPart _) lkR_56 hs rfl rfl hD (Nat.le_of_ble_eq_true rfl) rfl rfl (Nat.le_of_ble_eq_true rfl) (Nat.le_of_ble_eq_true rfl) (Nat.le_of_ble_eq_true rfl) dR_readAll_2 (fun v r1 h1 => ?_)
  obtain ⟨rfl, h2, h3⟩ := h1
  refine zx_istore_n dR_readAll_5 (Nat.le_of_ble_eq_true rfl) rfl rfl ?_
  refine zx_iconst (v := nI 0) dR_readAll_6 (by decide) ?_
  refine zx_istore_n dR_readAll_7 (Nat.le_of_ble_eq_true rfl) rfl rfl ?_
  exact loop _ _ 0 24 r1 (Nat.lt_succ_self _) h2 h3 rfl rfl

set_option maxHeartbeats 4000000 in
set_option maxRecDepth 100000 in
theorem kR_readAny0 (G : zG) (d : Nat) (hd : 9 ≤ d) {n : Nat} {sh : zSh} {row : zRw} {r q : Nat} {xs : List Nat} {s : PS} (hR : RdA sh row r q xs s) {op : Nat} (hop : op ≤ 6) {nest : PS → PR} (hN : op < 6 → ∀ (row' : zRw) (s' : PS), RdA sh row' r q xs s' → zM G (fR_readAny (d - 4)) [.ref r, .int (nI (op + 1))] n sh row' (zRd sh row' r q xs (nest s'))) : zM G (fR_readAny d) [.ref r, .int (nI op)] n sh row (zRd sh row r q xs (gAny xs nest (decide (op < 6)) s)) := by
  refine zM.of (by show plainName "PostIndex$QueryReader" = true; decide +kernel) (Nat.le_of_ble_eq_true rfl) (by intro v hv; simp at hv; rcases hv with rfl | rfl <;> rfl) ?_
  intro K hE
  show zX G K (fR_readAny d) n 0 0 sh row 0 [.ref r, .int (nI op), .retAddr 0, .retAddr 0] []
  have hD : d - 1 + 1 ≤ d := by omega
  obtain ⟨hs, hp0, hp1, hp2, hT, hQ, hat, hdj⟩ := id hR
  have hxl := hT.2.2.2.2.1
  have hN : op < 6 → ∀ (row' : zRw) (s' : PS), RdA sh row' r q xs s' → zM G (fR_readAny (d - 1 - 3)) [.ref r, .int (nI (op + 1))] n sh row' (zRd sh row' r q xs (nest s')) := hN
  have loop : ∀ (k : Nat) (g : PR) (i j : Nat) (r2 : zRw), 24 - i < k → frR r q row r2 → RdA sh r2 r q xs g.2 → anyL xs (gAll xs nest (decide (op < 6))) j g = anyL xs (gAll xs nest (decide (op < 6))) 24 (gAll xs nest (decide (op < 6)) s) → j + i = 24 → zX G K (fR_readAny d) n 0 0 sh r2 8 [.ref r, .int (nI op), .int (bI g.1), .int (nI i)] [] := by
    intro k
    induction k with
    | zero => intro g i j r2 hk; exact absurd hk (Nat.not_lt_zero _)
    | succ k ih =>
      intro g i j r2 hk h3 h4 h5 h6
      refine zx_iload_n dR_readAny_8 rfl ?_
      refine zx_bipush (v := nI 24) dR_readAny_9 (by decide) ?_
      refine zn_icmp_ge (tgt := 60) dR_readAny_11 rfl (by omega) (by omega) (fun h11 => ?_) (fun h11 => ?_)
      · first
        | (have hL : anyL xs (gAll xs nest (decide (op < 6))) 24 (gAll xs nest (decide (op < 6)) s) = (g.1, (pTake xs 124 g.2).2) := by rw [← h5, anyL_t (by omega) h15 h24, h15]
           refine zx_iload_n dR_readAny_60 rfl ?_
           exact zx_zret hE rfl (by first | decide | exact bI_nar _) dR_readAny_61 rfl (Nat.le_of_ble_eq_true rfl) (by refine ⟨_, rfl, rfl, ?_, h3.tr h8, ?_⟩ <;> (unfold gAny; rw [hL]); exact h9))
        | (have hL : anyL xs (gAll xs nest (decide (op < 6))) 24 (gAll xs nest (decide (op < 6)) s) = g := by rw [← h5]; first | rw [anyL_f h15] | (rw [show j = 0 by omega]; rfl)
           refine zx_iload_n dR_readAny_60 rfl ?_
           exact zx_zret hE rfl (by first | decide | exact bI_nar _) dR_readAny_61 rfl (Nat.le_of_ble_eq_true rfl) (by refine ⟨_, rfl, rfl, ?_, h3, ?_⟩ <;> (unfold gAny; rw [hL]); exact h4))
      · refine zx_iload_n dR_readAny_14 rfl ?_
        refine zb_if_eq (tgt := 60) dR_readAny_15 rfl (fun h15 => ?_) (fun h15 => ?_)
        · first
          | (have hL : anyL xs (gAll xs nest (decide (op < 6))) 24 (gAll xs nest (decide (op < 6)) s) = (g.1, (pTake xs 124 g.2).2) := by rw [← h5, anyL_t (by omega) h15 h24, h15]
             refine zx_iload_n dR_readAny_60 rfl ?_
             exact zx_zret hE rfl (by first | decide | exact bI_nar _) dR_readAny_61 rfl (Nat.le_of_ble_eq_true rfl) (by refine ⟨_, rfl, rfl, ?_, h3.tr h8, ?_⟩ <;> (unfold gAny; rw [hL]); exact h9))
          | (have hL : anyL xs (gAll xs nest (decide (op < 6))) 24 (gAll xs nest (decide (op < 6)) s) = g := by rw [← h5]; first | rw [anyL_f h15] | (rw [show j = 0 by omega]; rfl)
             refine zx_iload_n dR_readAny_60 rfl ?_
             exact zx_zret hE rfl (by first | decide | exact bI_nar _) dR_readAny_61 rfl (Nat.le_of_ble_eq_true rfl) (by refine ⟨_, rfl, rfl, ?_, h3, ?_⟩ <;> (unfold gAny; rw [hL]); exact h4))
        · refine zx_aload_n dR_readAny_18 rfl ?_
          refine zx_bipush (v := nI 124) dR_readAny_19 (by decide) ?_
          refine zc_Vr (n0 := n) (ce := 0) (kR_take G (d - 1) (by omega) h4 (c := 124) (by decide) (by decide)) (meR_take _) lkR_48 hs rfl rfl hD (Nat.le_of_ble_eq_true rfl) rfl rfl (Nat.le_of_ble_eq_true rfl) (Nat.le_of_ble_eq_true rfl) (Nat.le_of_ble_eq_true rfl) dR_readAny_21 (fun v r3 h7 => ?_)
          obtain ⟨rfl, h8, h9⟩ := h7
          refine zb_if_eq (tgt := 60) dR_readAny_24 rfl (fun h24 => ?_) (fun h24 => ?_)
          · first
            | (have hL : anyL xs (gAll xs nest (decide (op < 6))) 24 (gAll xs nest (decide (op < 6)) s) = (g.1, (pTake xs 124 g.2).2) := by rw [← h5, anyL_t (by omega) h15 h24, h15]
               refine zx_iload_n dR_readAny_60 rfl ?_
               exact zx_zret hE rfl (by first | decide | exact bI_nar _) dR_readAny_61 rfl (Nat.le_of_ble_eq_true rfl) (by refine ⟨_, rfl, rfl, ?_, h3.tr h8, ?_⟩ <;> (unfold gAny; rw [hL]); exact h9))
            | (have hL : anyL xs (gAll xs nest (decide (op < 6))) 24 (gAll xs nest (decide (op < 6)) s) = g := by rw [← h5]; first | rw [anyL_f h15] | (rw [show j = 0 by omega]; rfl)
               refine zx_iload_n dR_readAny_60 rfl ?_
               exact zx_zret hE rfl (by first | decide | exact bI_nar _) dR_readAny_61 rfl (Nat.le_of_ble_eq_true rfl) (by refine ⟨_, rfl, rfl, ?_, h3, ?_⟩ <;> (unfold gAny; rw [hL]); exact h4))
          · refine zx_aload_n dR_readAny_27 rfl ?_
            refine zx_iload_n dR_readAny_28 rfl ?_
            refine zc_Vr (n0 := n) (ce := 0) (kR_readAll G (d - 1) (by omega) h9 hop hN) (meR_readAll _) lkR_45 hs rfl rfl hD (Nat.le_of_ble_eq_true rfl) rfl rfl (Nat.le_of_ble_eq_true rfl) (Nat.le_of_ble_eq_true rfl) (Nat.le_of_ble_eq_true rfl) dR_readAny_29 (fun v r4 h10 => ?_)
            obtain ⟨rfl, h11, h12⟩ := h10
            refine zb_if_eq (tgt := 52) dR_readAny_32 rfl (fun h32 => ?_) (fun h32 => ?_)
            · refine zx_iconst (v := nI 0) dR_readAny_52 (by decide) ?_
              obtain ⟨j, rfl⟩ : ∃ j1, j = j1 + 1 := ⟨j - 1, by omega⟩
              have h5 : anyL xs (gAll xs nest (decide (op < 6))) j (pThen (gAll xs nest (decide (op < 6)) (pTake xs 124 g.2).2) (pStep 6 (nI 0))) = anyL xs (gAll xs nest (decide (op < 6))) 24 (gAll xs nest (decide (op < 6)) s) := by rw [← h5]; show _ = (if g.1 = true then (if (pTake xs 124 g.2).1 = true then _ else _) else _); rw [if_pos h15, if_pos h24]
              first
              | (have e : pThen (gAll xs nest (decide (op < 6)) (pTake xs 124 g.2).2) (pStep 6 (nI 0)) = pStep 6 (nI 0) (gAll xs nest (decide (op < 6)) (pTake xs 124 g.2).2).2 := pThen_t h32
                 rw [e] at h5
                 have hh := ih _ (i + 1) j r5 (by omega) (((h3.tr h8).tr h11).tr h13) h14 h5 (by omega)
                 rw [h45] at hh
                 refine zx_istore_n dR_readAny_53 (Nat.le_of_ble_eq_true rfl) rfl rfl ?_
                 refine zn_iinc (c := 1) dR_readAny_54 (Nat.le_of_ble_eq_true rfl) rfl rfl ?_
                 refine zx_goto (tgt := 8) dR_readAny_57 rfl ?_
                 exact hh)
              | (have e : pThen (gAll xs nest (decide (op < 6)) (pTake xs 124 g.2).2) (pStep 6 (nI 0)) = (false, (gAll xs nest (decide (op < 6)) (pTake xs 124 g.2).2).2) := pThen_f h32
                 rw [e] at h5
                 have hh := ih (false, (gAll xs nest (decide (op < 6)) (pTake xs 124 g.2).2).2) (i + 1) j r4 (by omega) ((h3.tr h8).tr h11) h12 h5 (by omega)
                 refine zx_istore_n dR_readAny_53 (Nat.le_of_ble_eq_true rfl) rfl rfl ?_
                 refine zn_iinc (c := 1) dR_readAny_54 (Nat.le_of_ble_eq_true rfl) rfl rfl ?_
                 refine zx_goto (tgt := 8) dR_readAny_57 rfl ?_
                 exact hh)
            · refine zx_aload_n dR_readAny_35 rfl ?_
              refine zx_get dR_readAny_36 flR_21 hs h12.2.2.1 ?_
              refine zx_bipush (v := nI 6) dR_readAny_39 (by decide) ?_
              refine zx_iconst (v := nI 0) dR_readAny_41 (by decide) ?_
              refine zc_Vr (n0 := n) (ce := 0) (kQ_addStep G (d - 1) (by omega) (kd := 6) (nu := nI 0) h12.2.2.2.2.2.1) (meQ_addStep _) lkR_52 h12.2.2.2.2.2.1.1.1 rfl rfl hD (Nat.le_of_ble_eq_true rfl) rfl rfl (Nat.le_of_ble_eq_true rfl) (Nat.le_of_ble_eq_true rfl) (Nat.le_of_ble_eq_true rfl) dR_readAny_42 (fun v r5 hq7 => ?_)
              obtain ⟨hv, h13, h14⟩ := rd_step h12 hq7
              subst hv
              refine zb_if_eq (tgt := 52) dR_readAny_45 rfl (fun h45 => ?_) (fun h45 => ?_)
              · refine zx_iconst (v := nI 0) dR_readAny_52 (by decide) ?_
                obtain ⟨j, rfl⟩ : ∃ j1, j = j1 + 1 := ⟨j - 1, by omega⟩
                have h5 : anyL xs (gAll xs nest (decide (op < 6))) j (pThen (gAll xs nest (decide (op < 6)) (pTake xs 124 g.2).2) (pStep 6 (nI 0))) = anyL xs (gAll xs nest (decide (op < 6))) 24 (gAll xs nest (decide (op < 6)) s) := by rw [← h5]; show _ = (if g.1 = true then (if (pTake xs 124 g.2).1 = true then _ else _) else _); rw [if_pos h15, if_pos h24]
                first
                | (have e : pThen (gAll xs nest (decide (op < 6)) (pTake xs 124 g.2).2) (pStep 6 (nI 0)) = pStep 6 (nI 0) (gAll xs nest (decide (op < 6)) (pTake xs 124 g.2).2).2 := pThen_t h32
                   rw [e] at h5
                   have hh := ih _ (i + 1) j r5 (by omega) (((h3.tr h8).tr h11).tr h13) h14 h5 (by omega)
                   rw [h45] at hh
                   refine zx_istore_n dR_readAny_53 (Nat.le_of_ble_eq_true rfl) rfl rfl ?_
                   refine zn_iinc (c := 1) dR_readAny_54 (Nat.le_of_ble_eq_true rfl) rfl rfl ?_
                   refine zx_goto (tgt := 8) dR_readAny_57 rfl ?_
                   exact hh)
                | (have e : pThen (gAll xs nest (decide (op < 6)) (pTake xs 124 g.2).2) (pStep 6 (nI 0)) = (false, (gAll xs nest (decide (op < 6)) (pTake xs 124 g.2).2).2) := pThen_f h32
                   rw [e] at h5
                   have hh := ih (false, (gAll xs nest (decide (op < 6)) (pTake xs 124 g.2).2).2) (i + 1) j r4 (by omega) ((h3.tr h8).tr h11) h12 h5 (by omega)
                   refine zx_istore_n dR_readAny_53 (Nat.le_of_ble_eq_true rfl) rfl rfl ?_
                   refine zn_iinc (c := 1) dR_readAny_54 (Nat.le_of_ble_eq_true rfl) rfl rfl ?_
                   refine zx_goto (tgt := 8) dR_readAny_57 rfl ?_
                   exact hh)
              · refine zx_iconst (v := nI 1) dR_readAny_48 (by decide) ?_
                refine zx_goto (tgt := 53) dR_readAny_49 rfl ?_
                obtain ⟨j, rfl⟩ : ∃ j1, j = j1 + 1 := ⟨j - 1, by omega⟩
                have h5 : anyL xs (gAll xs nest (decide (op < 6))) j (pThen (gAll xs nest (decide (op < 6)) (pTake xs 124 g.2).2) (pStep 6 (nI 0))) = anyL xs (gAll xs nest (decide (op < 6))) 24 (gAll xs nest (decide (op < 6)) s) := by rw [← h5]; show _ = (if g.1 = true then (if (pTake xs 124 g.2).1 = true then _ else _) else _); rw [if_pos h15, if_pos h24]
                first
                | (have e : pThen (gAll xs nest (decide (op < 6)) (pTake xs 124 g.2).2) (pStep 6 (nI 0)) = pStep 6 (nI 0) (gAll xs nest (decide (op < 6)) (pTake xs 124 g.2).2).2 := pThen_t h32
                   rw [e] at h5
                   have hh := ih _ (i + 1) j r5 (by omega) (((h3.tr h8).tr h11).tr h13) h14 h5 (by omega)
                   rw [h45] at hh
                   refine zx_istore_n dR_readAny_53 (Nat.le_of_ble_eq_true rfl) rfl rfl ?_
                   refine zn_iinc (c := 1) dR_readAny_54 (Nat.le_of_ble_eq_true rfl) rfl rfl ?_
                   refine zx_goto (tgt := 8) dR_readAny_57 rfl ?_
                   exact hh)
                | (have e : pThen (gAll xs nest (decide (op < 6)) (pTake xs 124 g.2).2) (pStep 6 (nI 0)) = (false, (gAll xs nest (decide (op < 6)) (pTake xs 124 g.2).2).2) := pThen_f h32
                   rw [e] at h5
                   have hh := ih (false, (gAll xs nest (decide (op < 6)) (pTake xs 124 g.2).2).2) (i + 1) j r4 (by omega) ((h3.tr h8).tr h11) h12 h5 (by omega)
                   refine zx_istore_n dR_readAny_53 (Nat.le_of_ble_eq_true rfl) rfl rfl ?_
                   refine zn_iinc (c := 1) dR_readAny_54 (Nat.le_of_ble_eq_true rfl) rfl rfl ?_
                   refine zx_goto (tgt := 8) dR_readAny_57 rfl ?_
                   exact hh)
  refine zx_aload_n dR_readAny_0 rfl ?_
  refine zx_iload_n dR_readAny_1 rfl ?_
  refine zc_Vr (n0 := n) (ce := 0) (kR_readAll G (d - 1) (by omega) hR hop hN) (meR_readAll _) lkR_45 hs rfl rfl hD (Nat.le_of_ble_eq_true rfl) rfl rfl (Nat.le_of_ble_eq_true rfl) (Nat.le_of_ble_eq_true rfl) (Nat.le_of_ble_eq_true rfl) dR_readAny_2 (fun v r1 h1 => ?_)
  obtain ⟨rfl, h2, h3⟩ := h1
  refine zx_istore_n dR_readAny_5 (Nat.le_of_ble_eq_true rfl) rfl rfl ?_
  refine zx_iconst (v := nI 0) dR_readAny_6 (by decide) ?_
  refine zx_istore_n dR_readAny_7 (Nat.le_of_ble_eq_true rfl) rfl rfl ?_
  exact loop _ _ 0 24 r1 (Nat.lt_succ_self _) h2 h3 rfl rfl

/-- the recursion: m brackets may still be opened -/
theorem kR_readAny (G : zG) {n : Nat} {sh : zSh} {r q : Nat} {xs : List Nat} : ∀ (m d : Nat), m ≤ 6 → 9 + 4 * m ≤ d → ∀ (row : zRw) (s : PS), RdA sh row r q xs s → zM G (fR_readAny d) [.ref r, .int (nI (6 - m))] n sh row (zRd sh row r q xs (pAny xs m s)) := by
  intro m
  induction m with
  | zero =>
    intro d _ hd row s hR
    have h := kR_readAny0 G d (by omega) (n := n) hR (op := 6) (by omega) (nest := fun s => (false, s)) (fun h => absurd h (by omega))
    exact h
  | succ m ih =>
    intro d hm hd row s hR
    have h := kR_readAny0 G d (by omega) (n := n) hR (op := 6 - (m + 1)) (by omega) (nest := pAny xs m) (fun _ row' s' hR' => by
      have := ih (d - 4) (by omega) (by omega) row' s' hR'
      rw [show 6 - (m + 1) + 1 = 6 - m by omega]
      exact this)
    rw [decide_eq_true (show 6 - (m + 1) < 6 by omega)] at h
    exact h

