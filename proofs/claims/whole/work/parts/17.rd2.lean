def pThen (a : PR) (f : PS → PR) : PR := if a.1 = true then f a.2 else (false, a.2)
theorem pThen_t {a : PR} {f : PS → PR} (h : a.1 = true) : pThen a f = f a.2 := by unfold pThen; rw [if_pos h]
theorem pThen_f {a : PR} {f : PS → PR} (h : a.1 = false) : pThen a f = (false, a.2) := by unfold pThen; rw [if_neg (by rw [h]; decide)]
def rowL (xs : List Nat) : Nat → PR → PR
  | 0, g => g
  | j + 1, g => if g.1 = true then (if at0 xs (skp xs g.2.1) = 34 then (true, (skp xs g.2.1, g.2.2)) else rowL xs j (pWord xs (skp xs g.2.1, g.2.2))) else g
theorem rowL_f {xs : List Nat} {j : Nat} {g : PR} (h : g.1 = false) : rowL xs j g = g := by
  cases j with
  | zero => rfl
  | succ j => show (if g.1 = true then _ else _) = _; rw [if_neg (by rw [h]; decide)]
theorem rowL_q {xs : List Nat} {j : Nat} {g : PR} (hj : 0 < j) (h : g.1 = true) (h2 : at0 xs (skp xs g.2.1) = 34) : rowL xs j g = (true, (skp xs g.2.1, g.2.2)) := by
  cases j with
  | zero => omega
  | succ j => show (if g.1 = true then _ else _) = _; rw [if_pos h, if_pos h2]
def pRow (xs : List Nat) (s : PS) : PR := pThen (rowL xs 24 (pThen (pTake xs 34 s) (pWord xs))) (fun s1 => pThen (pTake xs 34 s1) (pStep 0 (nI s.2.2.length)))
def partL (xs : List Nat) : Nat → PR → PR
  | 0, g => g
  | j + 1, g => if (pTake xs 45 g.2).1 = true then partL xs j (!g.1, (pTake xs 45 g.2).2) else (g.1, (pTake xs 45 g.2).2)
def gOne (xs : List Nat) (nest : PS → PR) (can : Bool) (s : PS) : PR :=
  if at0 xs (skp xs s.1) = 40 then (if can = true then pThen (pTake xs 40 (skp xs s.1, s.2)) (fun s2 => pThen (nest s2) (pTake xs 41)) else (false, (skp xs s.1, s.2)))
  else if at0 xs (skp xs s.1) = 34 then pRow xs (skp xs s.1, s.2)
  else if at0 xs (skp xs s.1) = 61 then pFilter xs 1 (skp xs s.1, s.2)
  else if at0 xs (skp xs s.1) = 60 then pFilter xs 2 (skp xs s.1, s.2)
  else if at0 xs (skp xs s.1) = 62 then pFilter xs 3 (skp xs s.1, s.2)
  else pThen (pWord xs (skp xs s.1, s.2)) (fun s2 => pStep 0 (nI (s2.2.2.length - 1)) s2)
def denF (b : Bool) (s2 : PS) : PR := if b = true then pStep 4 (nI 0) s2 else (true, s2)
theorem denF_t {b : Bool} {s2 : PS} (h : b = true) : denF b s2 = pStep 4 (nI 0) s2 := by unfold denF; rw [if_pos h]
theorem denF_f {b : Bool} {s2 : PS} (h : b = false) : denF b s2 = (true, s2) := by unfold denF; rw [if_neg (by rw [h]; decide)]
def gPart (xs : List Nat) (nest : PS → PR) (can : Bool) (s : PS) : PR := pThen (gOne xs nest can (partL xs 24 (false, s)).2) (denF (partL xs 24 (false, s)).1)
def allL (xs : List Nat) (part : PS → PR) : Nat → PR → PR
  | 0, g => g
  | j + 1, g => if g.1 = true then (if (pFol xs g.2).1 = true then allL xs part j (pThen (part (pFol xs g.2).2) (pStep 5 (nI 0))) else (true, (pFol xs g.2).2)) else g
def gAll (xs : List Nat) (nest : PS → PR) (can : Bool) (s : PS) : PR := allL xs (gPart xs nest can) 24 (gPart xs nest can s)
def anyL (xs : List Nat) (all : PS → PR) : Nat → PR → PR
  | 0, g => g
  | j + 1, g => if g.1 = true then (if (pTake xs 124 g.2).1 = true then anyL xs all j (pThen (all (pTake xs 124 g.2).2) (pStep 6 (nI 0))) else (true, (pTake xs 124 g.2).2)) else g
def gAny (xs : List Nat) (nest : PS → PR) (can : Bool) (s : PS) : PR := anyL xs (gAll xs nest can) 24 (gAll xs nest can s)
/-- m: how many brackets may still be opened -/
def pAny (xs : List Nat) : Nat → PS → PR
  | 0 => gAny xs (fun s => (false, s)) false
  | m + 1 => gAny xs (pAny xs m) true
/-- what a reader's method does: the function's answer and state -/
abbrev zRd (sh : zSh) (row : zRw) (r q : Nat) (xs : List Nat) (a : PR) : Option Value → zSh → zRw → Prop := zpR sh (fun v row' => v = .int (bI a.1) ∧ frR r q row row' ∧ RdA sh row' r q xs a.2)
theorem pWord_pos {xs : List Nat} {s : PS} (h : (pWord xs s).1 = true) : 1 ≤ (pWord xs s).2.2.2.length := by
  unfold pWord at h ⊢
  split
  · next hq =>
    rw [if_pos hq] at h
    have hl := of_decide_eq_true h
    show 1 ≤ (if s.2.2.length < 12 then _ else _ : List (List Nat)).length
    rw [if_pos hl]; simp
  · next hq => rw [if_neg hq] at h; cases h
theorem rd_step {sh : zSh} {row row' : zRw} {r q kd : Nat} {nu : Int32} {xs : List Nat} {s : PS} {v : Value} (h : RdA sh row r q xs s) (h7 : v = .int (bI (decide (s.2.1.length < 48))) ∧ frI q (q + 28) row row' ∧ QryA sh row' q (if s.2.1.length < 48 then s.2.1 ++ [(kd, nu, s.2.2.length)] else s.2.1) s.2.2) : v = .int (bI (pStep kd nu s).1) ∧ frR r q row row' ∧ RdA sh row' r q xs (pStep kd nu s).2 := ⟨h7.1, h7.2.1.R, h.qry h7.2.1 h7.2.2⟩

set_option maxHeartbeats 4000000 in
set_option maxRecDepth 100000 in
theorem kR_readFilter (G : zG) (d : Nat) (hd : 3 ≤ d) {n : Nat} {sh : zSh} {row : zRw} {r q : Nat} {xs : List Nat} {s : PS} (hR : RdA sh row r q xs s) {kd : Nat} (hlt : s.1 < xs.length) : zM G (fR_readFilter d) [.ref r, .int (nI kd)] n sh row (zRd sh row r q xs (pFilter xs kd s)) := by
  refine zM.of (by show plainName "PostIndex$QueryReader" = true; decide +kernel) (Nat.le_of_ble_eq_true rfl) (by intro v hv; simp at hv; rcases hv with rfl | rfl <;> rfl) ?_
  intro K hE
  show zX G K (fR_readFilter d) n 0 0 sh row 0 [.ref r, .int (nI kd), .retAddr 0, .retAddr 0] []
  have hD : d - 1 + 1 ≤ d := by omega
  obtain ⟨hs, hp0, hp1, hp2, hT, hQ, hat, hdj⟩ := id hR
  have hxl := hT.2.2.2.2.1
  have loop : ∀ (k : Nat) (a m j : Nat) (r2 : zRw), xs.length - a < k → frR r q row r2 → RdA sh r2 r q xs (a, s.2) → filL xs 9 (s.1 + 1) 0 = filL xs j a m → a + j = s.1 + 1 + 9 → s.1 + 1 ≤ a → zX G K (fR_readFilter d) n 0 0 sh r2 17 [.ref r, .int (nI kd), .int (nI (s.1 + 1)), .int (nI m)] [] := by
    intro k
    induction k with
    | zero => intro a m j r2 hk; exact absurd hk (Nat.not_lt_zero _)
    | succ k ih =>
      intro a m j r2 hk h3 h4 h5 h6 h7
      obtain ⟨gs, gp0, gp1, gp2, gT, gQ, gat, gdj⟩ := id h4
      have gct := gT.2.2.2.1
      have gat : a ≤ xs.length := gat
      have gp2 : r2 r 2 = .int (nI a) := gp2
      refine zx_aload_n dR_readFilter_17 rfl ?_
      refine zx_get dR_readFilter_18 flR_33 (by assumption) (by assumption) ?_
      refine zx_aload_n dR_readFilter_21 rfl ?_
      refine zx_get dR_readFilter_22 flR_12 (by assumption) (by assumption) ?_
      refine zx_getN dR_readFilter_25 flR_92 gT.1 gct ?_
      refine zn_icmp_ge (tgt := 92) dR_readFilter_28 rfl (by omega) (by omega) (fun h28 => ?_) (fun h28 => ?_)
      · have hfx : filL xs 9 (s.1 + 1) 0 = (a, m) := by
          rw [h5]
          cases j with
          | zero => rfl
          | succ j => rw [filL, if_neg (by first | (intro hh; omega) | (intro hh; rw [h56] at hh; exact absurd hh.2 (by decide)))]
        have hz2 := gT.lt (i := a)
        refine zx_aload_n dR_readFilter_92 rfl ?_
        refine zx_get dR_readFilter_93 flR_33 (by assumption) (by assumption) ?_
        refine zx_iload_n dR_readFilter_96 rfl ?_
        refine zn_icmp_le (tgt := 133) dR_readFilter_97 rfl (by omega) (by omega) (fun h97 => ?_) (fun h97 => ?_)
        · refine zx_iconst (v := nI 0) dR_readFilter_133 (by decide) ?_
          exact zx_zret hE rfl (by first | decide | exact bI_nar _) dR_readFilter_134 rfl (Nat.le_of_ble_eq_true rfl) (by
              unfold pFilter
              rw [hfx]
              first
              | (rw [if_pos ⟨by omega, h114⟩]; exact ⟨_, rfl, rfl, by rw [h126]; rfl, h3.tr hf4, hR4⟩)
              | (rw [if_neg (by first | (intro hh; omega) | (intro hh; rw [h114] at hh; exact absurd hh.2 (by decide)))]; exact ⟨_, rfl, rfl, rfl, h3, h4⟩))
        · refine zx_aload_n dR_readFilter_100 rfl ?_
          refine zx_get dR_readFilter_101 flR_12 (by assumption) (by assumption) ?_
          refine zx_aload_n dR_readFilter_104 rfl ?_
          refine zx_get dR_readFilter_105 flR_33 (by assumption) (by assumption) ?_
          refine zc_V (kT_charOr0 G (d - 1) (by omega) gT (by omega)) (meT_charOr0 _) lkR_95 gT.1 rfl rfl hD (Nat.le_of_ble_eq_true rfl) rfl rfl (Nat.le_of_ble_eq_true rfl) (Nat.le_of_ble_eq_true rfl) (Nat.le_of_ble_eq_true rfl) dR_readFilter_108 ?_
          refine zc_S (kT_isDigit G (d - 1) (by omega) (by omega)) (meT_isDigit _) lkR_99 rfl hD (Nat.le_of_ble_eq_true rfl) rfl rfl (Nat.le_of_ble_eq_true rfl) (Nat.le_of_ble_eq_true rfl) (Nat.le_of_ble_eq_true rfl) dR_readFilter_111 ?_
          refine zb_if_ne (tgt := 133) dR_readFilter_114 rfl (fun h114 => ?_) (fun h114 => ?_)
          · refine zx_iconst (v := nI 0) dR_readFilter_133 (by decide) ?_
            exact zx_zret hE rfl (by first | decide | exact bI_nar _) dR_readFilter_134 rfl (Nat.le_of_ble_eq_true rfl) (by
              unfold pFilter
              rw [hfx]
              first
              | (rw [if_pos ⟨by omega, h114⟩]; exact ⟨_, rfl, rfl, by rw [h126]; rfl, h3.tr hf4, hR4⟩)
              | (rw [if_neg (by first | (intro hh; omega) | (intro hh; rw [h114] at hh; exact absurd hh.2 (by decide)))]; exact ⟨_, rfl, rfl, rfl, h3, h4⟩))
          · refine zx_aload_n dR_readFilter_117 rfl ?_
            refine zx_get dR_readFilter_118 flR_21 (by assumption) (by assumption) ?_
            refine zx_iload_n dR_readFilter_121 rfl ?_
            refine zx_iload_n dR_readFilter_122 rfl ?_
            refine zc_Vr (kQ_addStep G (d - 1) (by omega) (kd := kd) (nu := nI m) gQ) (meQ_addStep _) lkR_52 gQ.1.1 rfl rfl hD (Nat.le_of_ble_eq_true rfl) rfl rfl (Nat.le_of_ble_eq_true rfl) (Nat.le_of_ble_eq_true rfl) (Nat.le_of_ble_eq_true rfl) dR_readFilter_123 (fun v r4 hq7 => ?_)
            obtain ⟨hv, hf4, hR4⟩ := rd_step h4 hq7
            subst hv
            refine zb_if_eq (tgt := 133) dR_readFilter_126 rfl (fun h126 => ?_) (fun h126 => ?_)
            · refine zx_iconst (v := nI 0) dR_readFilter_133 (by decide) ?_
              exact zx_zret hE rfl (by first | decide | exact bI_nar _) dR_readFilter_134 rfl (Nat.le_of_ble_eq_true rfl) (by
              unfold pFilter
              rw [hfx]
              first
              | (rw [if_pos ⟨by omega, h114⟩]; exact ⟨_, rfl, rfl, by rw [h126]; rfl, h3.tr hf4, hR4⟩)
              | (rw [if_neg (by first | (intro hh; omega) | (intro hh; rw [h114] at hh; exact absurd hh.2 (by decide)))]; exact ⟨_, rfl, rfl, rfl, h3, h4⟩))
            · refine zx_iconst (v := nI 1) dR_readFilter_129 (by decide) ?_
              refine zx_goto (tgt := 134) dR_readFilter_130 rfl ?_
              exact zx_zret hE rfl (by first | decide | exact bI_nar _) dR_readFilter_134 rfl (Nat.le_of_ble_eq_true rfl) (by
              unfold pFilter
              rw [hfx]
              first
              | (rw [if_pos ⟨by omega, h114⟩]; exact ⟨_, rfl, rfl, by rw [h126]; rfl, h3.tr hf4, hR4⟩)
              | (rw [if_neg (by first | (intro hh; omega) | (intro hh; rw [h114] at hh; exact absurd hh.2 (by decide)))]; exact ⟨_, rfl, rfl, rfl, h3, h4⟩))
      · refine zx_aload_n dR_readFilter_31 rfl ?_
        refine zx_get dR_readFilter_32 flR_33 (by assumption) (by assumption) ?_
        refine zx_iload_n dR_readFilter_35 rfl ?_
        refine zn_isub dR_readFilter_36 (by omega) ?_
        refine zx_bipush (v := nI 9) dR_readFilter_37 (by decide) ?_
        refine zn_icmp_ge (tgt := 92) dR_readFilter_39 rfl (by omega) (by omega) (fun h39 => ?_) (fun h39 => ?_)
        · have hfx : filL xs 9 (s.1 + 1) 0 = (a, m) := by
            rw [h5]
            cases j with
            | zero => rfl
            | succ j => rw [filL, if_neg (by first | (intro hh; omega) | (intro hh; rw [h56] at hh; exact absurd hh.2 (by decide)))]
          have hz2 := gT.lt (i := a)
          refine zx_aload_n dR_readFilter_92 rfl ?_
          refine zx_get dR_readFilter_93 flR_33 (by assumption) (by assumption) ?_
          refine zx_iload_n dR_readFilter_96 rfl ?_
          refine zn_icmp_le (tgt := 133) dR_readFilter_97 rfl (by omega) (by omega) (fun h97 => ?_) (fun h97 => ?_)
          · refine zx_iconst (v := nI 0) dR_readFilter_133 (by decide) ?_
            exact zx_zret hE rfl (by first | decide | exact bI_nar _) dR_readFilter_134 rfl (Nat.le_of_ble_eq_true rfl) (by
                unfold pFilter
                rw [hfx]
                first
                | (rw [if_pos ⟨by omega, h114⟩]; exact ⟨_, rfl, rfl, by rw [h126]; rfl, h3.tr hf4, hR4⟩)
                | (rw [if_neg (by first | (intro hh; omega) | (intro hh; rw [h114] at hh; exact absurd hh.2 (by decide)))]; exact ⟨_, rfl, rfl, rfl, h3, h4⟩))
          · refine zx_aload_n dR_readFilter_100 rfl ?_
            refine zx_get dR_readFilter_101 flR_12 (by assumption) (by assumption) ?_
            refine zx_aload_n dR_readFilter_104 rfl ?_
            refine zx_get dR_readFilter_105 flR_33 (by assumption) (by assumption) ?_
            refine zc_V (kT_charOr0 G (d - 1) (by omega) gT (by omega)) (meT_charOr0 _) lkR_95 gT.1 rfl rfl hD (Nat.le_of_ble_eq_true rfl) rfl rfl (Nat.le_of_ble_eq_true rfl) (Nat.le_of_ble_eq_true rfl) (Nat.le_of_ble_eq_true rfl) dR_readFilter_108 ?_
            refine zc_S (kT_isDigit G (d - 1) (by omega) (by omega)) (meT_isDigit _) lkR_99 rfl hD (Nat.le_of_ble_eq_true rfl) rfl rfl (Nat.le_of_ble_eq_true rfl) (Nat.le_of_ble_eq_true rfl) (Nat.le_of_ble_eq_true rfl) dR_readFilter_111 ?_
            refine zb_if_ne (tgt := 133) dR_readFilter_114 rfl (fun h114 => ?_) (fun h114 => ?_)
            · refine zx_iconst (v := nI 0) dR_readFilter_133 (by decide) ?_
              exact zx_zret hE rfl (by first | decide | exact bI_nar _) dR_readFilter_134 rfl (Nat.le_of_ble_eq_true rfl) (by
                unfold pFilter
                rw [hfx]
                first
                | (rw [if_pos ⟨by omega, h114⟩]; exact ⟨_, rfl, rfl, by rw [h126]; rfl, h3.tr hf4, hR4⟩)
                | (rw [if_neg (by first | (intro hh; omega) | (intro hh; rw [h114] at hh; exact absurd hh.2 (by decide)))]; exact ⟨_, rfl, rfl, rfl, h3, h4⟩))
            · refine zx_aload_n dR_readFilter_117 rfl ?_
              refine zx_get dR_readFilter_118 flR_21 (by assumption) (by assumption) ?_
              refine zx_iload_n dR_readFilter_121 rfl ?_
              refine zx_iload_n dR_readFilter_122 rfl ?_
              refine zc_Vr (kQ_addStep G (d - 1) (by omega) (kd := kd) (nu := nI m) gQ) (meQ_addStep _) lkR_52 gQ.1.1 rfl rfl hD (Nat.le_of_ble_eq_true rfl) rfl rfl (Nat.le_of_ble_eq_true rfl) (Nat.le_of_ble_eq_true rfl) (Nat.le_of_ble_eq_true rfl) dR_readFilter_123 (fun v r4 hq7 => ?_)
              obtain ⟨hv, hf4, hR4⟩ := rd_step h4 hq7
              subst hv
              refine zb_if_eq (tgt := 133) dR_readFilter_126 rfl (fun h126 => ?_) (fun h126 => ?_)
              · refine zx_iconst (v := nI 0) dR_readFilter_133 (by decide) ?_
                exact zx_zret hE rfl (by first | decide | exact bI_nar _) dR_readFilter_134 rfl (Nat.le_of_ble_eq_true rfl) (by
                unfold pFilter
                rw [hfx]
                first
                | (rw [if_pos ⟨by omega, h114⟩]; exact ⟨_, rfl, rfl, by rw [h126]; rfl, h3.tr hf4, hR4⟩)
                | (rw [if_neg (by first | (intro hh; omega) | (intro hh; rw [h114] at hh; exact absurd hh.2 (by decide)))]; exact ⟨_, rfl, rfl, rfl, h3, h4⟩))
              · refine zx_iconst (v := nI 1) dR_readFilter_129 (by decide) ?_
                refine zx_goto (tgt := 134) dR_readFilter_130 rfl ?_
                exact zx_zret hE rfl (by first | decide | exact bI_nar _) dR_readFilter_134 rfl (Nat.le_of_ble_eq_true rfl) (by
                unfold pFilter
                rw [hfx]
                first
                | (rw [if_pos ⟨by omega, h114⟩]; exact ⟨_, rfl, rfl, by rw [h126]; rfl, h3.tr hf4, hR4⟩)
                | (rw [if_neg (by first | (intro hh; omega) | (intro hh; rw [h114] at hh; exact absurd hh.2 (by decide)))]; exact ⟨_, rfl, rfl, rfl, h3, h4⟩))
        · refine zx_aload_n dR_readFilter_42 rfl ?_
          refine zx_get dR_readFilter_43 flR_12 (by assumption) (by assumption) ?_
          refine zx_aload_n dR_readFilter_46 rfl ?_
          refine zx_get dR_readFilter_47 flR_33 (by assumption) (by assumption) ?_
          refine zc_V (kT_charOr0 G (d - 1) (by omega) gT (by omega)) (meT_charOr0 _) lkR_95 gT.1 rfl rfl hD (Nat.le_of_ble_eq_true rfl) rfl rfl (Nat.le_of_ble_eq_true rfl) (Nat.le_of_ble_eq_true rfl) (Nat.le_of_ble_eq_true rfl) dR_readFilter_50 ?_
          have hz := gT.lt (i := a)
          refine zc_S (kT_isDigit G (d - 1) (by omega) (by omega)) (meT_isDigit _) lkR_99 rfl hD (Nat.le_of_ble_eq_true rfl) rfl rfl (Nat.le_of_ble_eq_true rfl) (Nat.le_of_ble_eq_true rfl) (Nat.le_of_ble_eq_true rfl) dR_readFilter_53 ?_
          refine zb_if_eq (tgt := 92) dR_readFilter_56 rfl (fun h56 => ?_) (fun h56 => ?_)
          · have hfx : filL xs 9 (s.1 + 1) 0 = (a, m) := by
              rw [h5]
              cases j with
              | zero => rfl
              | succ j => rw [filL, if_neg (by first | (intro hh; omega) | (intro hh; rw [h56] at hh; exact absurd hh.2 (by decide)))]
            have hz2 := gT.lt (i := a)
            refine zx_aload_n dR_readFilter_92 rfl ?_
            refine zx_get dR_readFilter_93 flR_33 (by assumption) (by assumption) ?_
            refine zx_iload_n dR_readFilter_96 rfl ?_
            refine zn_icmp_le (tgt := 133) dR_readFilter_97 rfl (by omega) (by omega) (fun h97 => ?_) (fun h97 => ?_)
            · refine zx_iconst (v := nI 0) dR_readFilter_133 (by decide) ?_
              exact zx_zret hE rfl (by first | decide | exact bI_nar _) dR_readFilter_134 rfl (Nat.le_of_ble_eq_true rfl) (by
                  unfold pFilter
                  rw [hfx]
                  first
                  | (rw [if_pos ⟨by omega, h114⟩]; exact ⟨_, rfl, rfl, by rw [h126]; rfl, h3.tr hf4, hR4⟩)
                  | (rw [if_neg (by first | (intro hh; omega) | (intro hh; rw [h114] at hh; exact absurd hh.2 (by decide)))]; exact ⟨_, rfl, rfl, rfl, h3, h4⟩))
            · refine zx_aload_n dR_readFilter_100 rfl ?_
              refine zx_get dR_readFilter_101 flR_12 (by assumption) (by assumption) ?_
              refine zx_aload_n dR_readFilter_104 rfl ?_
              refine zx_get dR_readFilter_105 flR_33 (by assumption) (by assumption) ?_
              refine zc_V (kT_charOr0 G (d - 1) (by omega) gT (by omega)) (meT_charOr0 _) lkR_95 gT.1 rfl rfl hD (Nat.le_of_ble_eq_true rfl) rfl rfl (Nat.le_of_ble_eq_true rfl) (Nat.le_of_ble_eq_true rfl) (Nat.le_of_ble_eq_true rfl) dR_readFilter_108 ?_
              refine zc_S (kT_isDigit G (d - 1) (by omega) (by omega)) (meT_isDigit _) lkR_99 rfl hD (Nat.le_of_ble_eq_true rfl) rfl rfl (Nat.le_of_ble_eq_true rfl) (Nat.le_of_ble_eq_true rfl) (Nat.le_of_ble_eq_true rfl) dR_readFilter_111 ?_
              refine zb_if_ne (tgt := 133) dR_readFilter_114 rfl (fun h114 => ?_) (fun h114 => ?_)
              · refine zx_iconst (v := nI 0) dR_readFilter_133 (by decide) ?_
                exact zx_zret hE rfl (by first | decide | exact bI_nar _) dR_readFilter_134 rfl (Nat.le_of_ble_eq_true rfl) (by
                  unfold pFilter
                  rw [hfx]
                  first
                  | (rw [if_pos ⟨by omega, h114⟩]; exact ⟨_, rfl, rfl, by rw [h126]; rfl, h3.tr hf4, hR4⟩)
                  | (rw [if_neg (by first | (intro hh; omega) | (intro hh; rw [h114] at hh; exact absurd hh.2 (by decide)))]; exact ⟨_, rfl, rfl, rfl, h3, h4⟩))
              · refine zx_aload_n dR_readFilter_117 rfl ?_
                refine zx_get dR_readFilter_118 flR_21 (by assumption) (by assumption) ?_
                refine zx_iload_n dR_readFilter_121 rfl ?_
                refine zx_iload_n dR_readFilter_122 rfl ?_
                refine zc_Vr (kQ_addStep G (d - 1) (by omega) (kd := kd) (nu := nI m) gQ) (meQ_addStep _) lkR_52 gQ.1.1 rfl rfl hD (Nat.le_of_ble_eq_true rfl) rfl rfl (Nat.le_of_ble_eq_true rfl) (Nat.le_of_ble_eq_true rfl) (Nat.le_of_ble_eq_true rfl) dR_readFilter_123 (fun v r4 hq7 => ?_)
                obtain ⟨hv, hf4, hR4⟩ := rd_step h4 hq7
                subst hv
                refine zb_if_eq (tgt := 133) dR_readFilter_126 rfl (fun h126 => ?_) (fun h126 => ?_)
                · refine zx_iconst (v := nI 0) dR_readFilter_133 (by decide) ?_
                  exact zx_zret hE rfl (by first | decide | exact bI_nar _) dR_readFilter_134 rfl (Nat.le_of_ble_eq_true rfl) (by
                  unfold pFilter
                  rw [hfx]
                  first
                  | (rw [if_pos ⟨by omega, h114⟩]; exact ⟨_, rfl, rfl, by rw [h126]; rfl, h3.tr hf4, hR4⟩)
                  | (rw [if_neg (by first | (intro hh; omega) | (intro hh; rw [h114] at hh; exact absurd hh.2 (by decide)))]; exact ⟨_, rfl, rfl, rfl, h3, h4⟩))
                · refine zx_iconst (v := nI 1) dR_readFilter_129 (by decide) ?_
                  refine zx_goto (tgt := 134) dR_readFilter_130 rfl ?_
                  exact zx_zret hE rfl (by first | decide | exact bI_nar _) dR_readFilter_134 rfl (Nat.le_of_ble_eq_true rfl) (by
                  unfold pFilter
                  rw [hfx]
                  first
                  | (rw [if_pos ⟨by omega, h114⟩]; exact ⟨_, rfl, rfl, by rw [h126]; rfl, h3.tr hf4, hR4⟩)
                  | (rw [if_neg (by first | (intro hh; omega) | (intro hh; rw [h114] at hh; exact absurd hh.2 (by decide)))]; exact ⟨_, rfl, rfl, rfl, h3, h4⟩))
          · have hdg : 48 ≤ at0 xs a := (of_decide_eq_true h56).1
            refine zx_bipush (v := nI 10) dR_readFilter_59 (by decide) ?_
            refine zx_iload_n dR_readFilter_61 rfl ?_
            refine zn_imul dR_readFilter_62 ?_
            refine zx_aload_n dR_readFilter_63 rfl ?_
            refine zx_get dR_readFilter_64 flR_12 (by assumption) (by assumption) ?_
            refine zx_aload_n dR_readFilter_67 rfl ?_
            refine zx_get dR_readFilter_68 flR_33 (by assumption) (by assumption) ?_
            refine zc_V (kT_charOr0 G (d - 1) (by omega) gT (by omega)) (meT_charOr0 _) lkR_95 gT.1 rfl rfl hD (Nat.le_of_ble_eq_true rfl) rfl rfl (Nat.le_of_ble_eq_true rfl) (Nat.le_of_ble_eq_true rfl) (Nat.le_of_ble_eq_true rfl) dR_readFilter_71 ?_
            refine zx_bipush (v := nI 48) dR_readFilter_74 (by decide) ?_
            refine zn_isub dR_readFilter_76 (by omega) ?_
            refine zn_iadd dR_readFilter_77 ?_
            refine zx_istore_n dR_readFilter_78 (Nat.le_of_ble_eq_true rfl) rfl rfl ?_
            refine zx_aload_n dR_readFilter_79 rfl ?_
            refine zx_dup dR_readFilter_80 rfl ?_
            refine zx_get dR_readFilter_81 flR_33 (by assumption) (by assumption) ?_
            refine zx_iconst (v := nI 1) dR_readFilter_84 (by decide) ?_
            refine zn_iadd dR_readFilter_85 ?_
            refine zx_put dR_readFilter_86 flR_33 tpR_2 (by assumption) rfl rfl ?_
            refine zx_goto (tgt := 17) dR_readFilter_89 rfl ?_
            obtain ⟨j, rfl⟩ : ∃ j1, j = j1 + 1 := ⟨j - 1, by omega⟩
            refine ih (a + 1) _ j _ (by omega) (h3.tr frR_up) (h4.at (by omega)) ?_ (by omega) (by omega)
            rw [h5, filL, if_pos ⟨by omega, h56⟩]
  refine zx_aload_n dR_readFilter_0 rfl ?_
  refine zx_dup dR_readFilter_1 rfl ?_
  refine zx_get dR_readFilter_2 flR_33 (by assumption) (by assumption) ?_
  refine zx_iconst (v := nI 1) dR_readFilter_5 (by decide) ?_
  refine zn_iadd dR_readFilter_6 ?_
  refine zx_put dR_readFilter_7 flR_33 tpR_2 hs rfl rfl ?_
  have hR1 := hR.at (a := s.1 + 1) (by omega)
  have kp2 := hR1.2.2.2.1
  refine zx_aload_n dR_readFilter_10 rfl ?_
  refine zx_get dR_readFilter_11 flR_33 (by assumption) (by assumption) ?_
  refine zx_istore_n dR_readFilter_14 (Nat.le_of_ble_eq_true rfl) rfl rfl ?_
  refine zx_iconst (v := nI 0) dR_readFilter_15 (by decide) ?_
  refine zx_istore_n dR_readFilter_16 (Nat.le_of_ble_eq_true rfl) rfl rfl ?_
  exact loop _ (s.1 + 1) 0 9 _ (Nat.lt_succ_self _) frR_up hR1 rfl rfl (Nat.le_refl _)

set_option maxHeartbeats 4000000 in
set_option maxRecDepth 100000 in
theorem kR_readRow (G : zG) (d : Nat) (hd : 5 ≤ d) {n : Nat} {sh : zSh} {row : zRw} {r q : Nat} {xs : List Nat} {s : PS} (hR : RdA sh row r q xs s) : zM G (fR_readRow d) [.ref r] n sh row (zRd sh row r q xs (pRow xs s)) := by
  refine zM.of (by show plainName "PostIndex$QueryReader" = true; decide +kernel) (Nat.le_of_ble_eq_true rfl) (by intro v hv; simp at hv; rcases hv with rfl <;> rfl) ?_
  intro K hE
  show zX G K (fR_readRow d) n 0 0 sh row 0 [.ref r, .retAddr 0, .retAddr 0, .retAddr 0] []
  have hD : d - 1 + 1 ≤ d := by omega
  obtain ⟨hs, hp0, hp1, hp2, hT, hQ, hat, hdj⟩ := id hR
  have hxl := hT.2.2.2.2.1
  have exit : ∀ (l : PR) (v3 : Value) (rX : zRw), l = rowL xs 24 (pThen (pTake xs 34 s) (pWord xs)) → frR r q row rX → RdA sh rX r q xs l.2 → zX G K (fR_readRow d) n 0 0 sh rX 62 [.ref r, .int (nI s.2.2.length), .int (bI l.1), v3] [] := by
    intro l v3 rX hL hXf hX
    refine zx_iload_n dR_readRow_62 rfl ?_
    refine zb_if_eq (tgt := 90) dR_readRow_63 rfl (fun h63 => ?_) (fun h63 => ?_)
    · refine zx_iconst (v := nI 0) dR_readRow_90 (by decide) ?_
      exact zx_zret hE rfl (by first | decide | exact bI_nar _) dR_readRow_91 rfl (Nat.le_of_ble_eq_true rfl) (by
      unfold pRow
      rw [← hL]
      first
      | (rw [pThen_t h63, pThen_t h72]; exact ⟨_, rfl, rfl, by rw [h83]; rfl, (hXf.tr h14).tr hf6, hR6⟩)
      | (rw [pThen_t h63, pThen_f h72]; exact ⟨_, rfl, rfl, rfl, hXf.tr h14, h15⟩)
      | (rw [pThen_f h63]; exact ⟨_, rfl, rfl, rfl, hXf, hX⟩))
    · refine zx_aload_n dR_readRow_66 rfl ?_
      refine zx_bipush (v := nI 34) dR_readRow_67 (by decide) ?_
      refine zc_Vr (kR_take G (d - 1) (by omega) hX (c := 34) (by decide) (by decide)) (meR_take _) lkR_48 hs rfl rfl hD (Nat.le_of_ble_eq_true rfl) rfl rfl (Nat.le_of_ble_eq_true rfl) (Nat.le_of_ble_eq_true rfl) (Nat.le_of_ble_eq_true rfl) dR_readRow_69 (fun v r5 h13 => ?_)
      obtain ⟨rfl, h14, h15⟩ := h13
      refine zb_if_eq (tgt := 90) dR_readRow_72 rfl (fun h72 => ?_) (fun h72 => ?_)
      · refine zx_iconst (v := nI 0) dR_readRow_90 (by decide) ?_
        exact zx_zret hE rfl (by first | decide | exact bI_nar _) dR_readRow_91 rfl (Nat.le_of_ble_eq_true rfl) (by
      unfold pRow
      rw [← hL]
      first
      | (rw [pThen_t h63, pThen_t h72]; exact ⟨_, rfl, rfl, by rw [h83]; rfl, (hXf.tr h14).tr hf6, hR6⟩)
      | (rw [pThen_t h63, pThen_f h72]; exact ⟨_, rfl, rfl, rfl, hXf.tr h14, h15⟩)
      | (rw [pThen_f h63]; exact ⟨_, rfl, rfl, rfl, hXf, hX⟩))
      · refine zx_aload_n dR_readRow_75 rfl ?_
        refine zx_get dR_readRow_76 flR_21 hs h15.2.2.1 ?_
        refine zx_iload_n dR_readRow_79 rfl ?_
        refine zc_Vr (kQ_addWordsStep G (d - 1) (by omega) (nu := nI s.2.2.length) h15.2.2.2.2.2.1) (meQ_addWordsStep _) lkR_78 h15.2.2.2.2.2.1.1.1 rfl rfl hD (Nat.le_of_ble_eq_true rfl) rfl rfl (Nat.le_of_ble_eq_true rfl) (Nat.le_of_ble_eq_true rfl) (Nat.le_of_ble_eq_true rfl) dR_readRow_80 (fun v r6 hq7 => ?_)
        obtain ⟨hv, hf6, hR6⟩ := rd_step h15 hq7
        subst hv
        refine zb_if_eq (tgt := 90) dR_readRow_83 rfl (fun h83 => ?_) (fun h83 => ?_)
        · refine zx_iconst (v := nI 0) dR_readRow_90 (by decide) ?_
          exact zx_zret hE rfl (by first | decide | exact bI_nar _) dR_readRow_91 rfl (Nat.le_of_ble_eq_true rfl) (by
      unfold pRow
      rw [← hL]
      first
      | (rw [pThen_t h63, pThen_t h72]; exact ⟨_, rfl, rfl, by rw [h83]; rfl, (hXf.tr h14).tr hf6, hR6⟩)
      | (rw [pThen_t h63, pThen_f h72]; exact ⟨_, rfl, rfl, rfl, hXf.tr h14, h15⟩)
      | (rw [pThen_f h63]; exact ⟨_, rfl, rfl, rfl, hXf, hX⟩))
        · refine zx_iconst (v := nI 1) dR_readRow_86 (by decide) ?_
          refine zx_goto (tgt := 91) dR_readRow_87 rfl ?_
          exact zx_zret hE rfl (by first | decide | exact bI_nar _) dR_readRow_91 rfl (Nat.le_of_ble_eq_true rfl) (by
      unfold pRow
      rw [← hL]
      first
      | (rw [pThen_t h63, pThen_t h72]; exact ⟨_, rfl, rfl, by rw [h83]; rfl, (hXf.tr h14).tr hf6, hR6⟩)
      | (rw [pThen_t h63, pThen_f h72]; exact ⟨_, rfl, rfl, rfl, hXf.tr h14, h15⟩)
      | (rw [pThen_f h63]; exact ⟨_, rfl, rfl, rfl, hXf, hX⟩))
  have loop : ∀ (k : Nat) (g : PR) (i j : Nat) (r2 : zRw), 24 - i < k → frR r q row r2 → RdA sh r2 r q xs g.2 → rowL xs j g = rowL xs 24 (pThen (pTake xs 34 s) (pWord xs)) → j + i = 24 → zX G K (fR_readRow d) n 0 0 sh r2 32 [.ref r, .int (nI s.2.2.length), .int (bI g.1), .int (nI i)] [] := by
    intro k
    induction k with
    | zero => intro g i j r2 hk; exact absurd hk (Nat.not_lt_zero _)
    | succ k ih =>
      intro g i j r2 hk h3 h4 h5 h6
      refine zx_iload_n dR_readRow_32 rfl ?_
      refine zx_bipush (v := nI 24) dR_readRow_33 (by decide) ?_
      refine zn_icmp_ge (tgt := 62) dR_readRow_35 rfl (by omega) (by omega) (fun h35 => ?_) (fun h35 => ?_)
      · first | exact exit (g.1, (skp xs g.2.1, g.2.2)) _ r3 (by rw [h39, ← h5, rowL_q (by omega) h39 (by omega)]) (h3.tr h8) h9 | exact exit g _ r2 (by rw [← h5, rowL_f h39]) h3 h4 | exact exit g _ r2 (by rw [← h5, show j = 0 by omega]; rfl) h3 h4
      · refine zx_iload_n dR_readRow_38 rfl ?_
        refine zb_if_eq (tgt := 62) dR_readRow_39 rfl (fun h39 => ?_) (fun h39 => ?_)
        · first | exact exit (g.1, (skp xs g.2.1, g.2.2)) _ r3 (by rw [h39, ← h5, rowL_q (by omega) h39 (by omega)]) (h3.tr h8) h9 | exact exit g _ r2 (by rw [← h5, rowL_f h39]) h3 h4 | exact exit g _ r2 (by rw [← h5, show j = 0 by omega]; rfl) h3 h4
        · refine zx_aload_n dR_readRow_42 rfl ?_
          refine zc_Vr (kR_peekPiece G (d - 1) (by omega) h4) (meR_peekPiece _) lkR_41 hs rfl rfl hD (Nat.le_of_ble_eq_true rfl) rfl rfl (Nat.le_of_ble_eq_true rfl) (Nat.le_of_ble_eq_true rfl) (Nat.le_of_ble_eq_true rfl) dR_readRow_43 (fun v r3 h7 => ?_)
          obtain ⟨rfl, h8, h9⟩ := h7
          have hz := h4.2.2.2.2.1.lt (i := skp xs g.2.1)
          refine zx_bipush (v := nI 34) dR_readRow_46 (by decide) ?_
          refine zn_icmp_eq (tgt := 62) dR_readRow_48 rfl (by omega) (by omega) (fun h48 => ?_) (fun h48 => ?_)
          · first | exact exit (g.1, (skp xs g.2.1, g.2.2)) _ r3 (by rw [h39, ← h5, rowL_q (by omega) h39 (by omega)]) (h3.tr h8) h9 | exact exit g _ r2 (by rw [← h5, rowL_f h39]) h3 h4 | exact exit g _ r2 (by rw [← h5, show j = 0 by omega]; rfl) h3 h4
          · refine zx_aload_n dR_readRow_51 rfl ?_
            refine zc_Vr (kR_readWord G (d - 1) (by omega) h9) (meR_readWord _) lkR_72 hs rfl rfl hD (Nat.le_of_ble_eq_true rfl) rfl rfl (Nat.le_of_ble_eq_true rfl) (Nat.le_of_ble_eq_true rfl) (Nat.le_of_ble_eq_true rfl) dR_readRow_52 (fun v r4 h10 => ?_)
            obtain ⟨rfl, h11, h12⟩ := h10
            refine zx_istore_n dR_readRow_55 (Nat.le_of_ble_eq_true rfl) rfl rfl ?_
            refine zn_iinc (c := 1) dR_readRow_56 (Nat.le_of_ble_eq_true rfl) rfl rfl ?_
            refine zx_goto (tgt := 32) dR_readRow_59 rfl ?_
            obtain ⟨j, rfl⟩ : ∃ j1, j = j1 + 1 := ⟨j - 1, by omega⟩
            refine ih (pWord xs (skp xs g.2.1, g.2.2)) (i + 1) j _ (by omega) ((h3.tr h8).tr h11) h12 ?_ (by omega)
            rw [← h5]
            show _ = if g.1 = true then _ else _
            rw [if_pos h39, if_neg (by omega)]
  refine zx_aload_n dR_readRow_0 rfl ?_
  refine zx_get dR_readRow_1 flR_21 (by assumption) (by assumption) ?_
  refine zx_getN dR_readRow_4 flR_75 hQ.1.1 hQ.2.1.2.2.2.2.2 ?_
  refine zx_istore_n dR_readRow_7 (Nat.le_of_ble_eq_true rfl) rfl rfl ?_
  refine zx_aload_n dR_readRow_8 rfl ?_
  refine zx_bipush (v := nI 34) dR_readRow_9 (by decide) ?_
  refine zc_Vr (kR_take G (d - 1) (by omega) hR (c := 34) (by decide) (by decide)) (meR_take _) lkR_48 hs rfl rfl hD (Nat.le_of_ble_eq_true rfl) rfl rfl (Nat.le_of_ble_eq_true rfl) (Nat.le_of_ble_eq_true rfl) (Nat.le_of_ble_eq_true rfl) dR_readRow_11 (fun v r1 h1 => ?_)
  obtain ⟨rfl, h2, h3⟩ := h1
  refine zb_if_eq (tgt := 28) dR_readRow_14 rfl (fun h14 => ?_) (fun h14 => ?_)
  · refine zx_iconst (v := nI 0) dR_readRow_28 (by decide) ?_
    first
    | (have e : pThen (pTake xs 34 s) (pWord xs) = pWord xs (pTake xs 34 s).2 := pThen_t h14
       have eb : bI (pThen (pTake xs 34 s) (pWord xs)).1 = bI (pWord xs (pTake xs 34 s).2).1 := by rw [e]
       rw [h21] at eb
       refine zx_istore_n dR_readRow_29 (Nat.le_of_ble_eq_true rfl) rfl rfl ?_
       refine zx_iconst (v := nI 0) dR_readRow_30 (by decide) ?_
       refine zx_istore_n dR_readRow_31 (Nat.le_of_ble_eq_true rfl) rfl rfl ?_
       have hh := loop _ (pThen (pTake xs 34 s) (pWord xs)) 0 24 r2 (Nat.lt_succ_self _) (h2.tr h5) (by rw [e]; exact h6) rfl rfl
       rw [eb] at hh
       exact hh)
    | (have e : pThen (pTake xs 34 s) (pWord xs) = (false, (pTake xs 34 s).2) := pThen_f h14
       refine zx_istore_n dR_readRow_29 (Nat.le_of_ble_eq_true rfl) rfl rfl ?_
       refine zx_iconst (v := nI 0) dR_readRow_30 (by decide) ?_
       refine zx_istore_n dR_readRow_31 (Nat.le_of_ble_eq_true rfl) rfl rfl ?_
       have hh := loop _ (pThen (pTake xs 34 s) (pWord xs)) 0 24 r1 (Nat.lt_succ_self _) h2 (by rw [e]; exact h3) rfl rfl
       have eb : bI (pThen (pTake xs 34 s) (pWord xs)).1 = nI 0 := by rw [e]; rfl
       rw [eb] at hh
       exact hh)
  · refine zx_aload_n dR_readRow_17 rfl ?_
    refine zc_Vr (kR_readWord G (d - 1) (by omega) h3) (meR_readWord _) lkR_72 hs rfl rfl hD (Nat.le_of_ble_eq_true rfl) rfl rfl (Nat.le_of_ble_eq_true rfl) (Nat.le_of_ble_eq_true rfl) (Nat.le_of_ble_eq_true rfl) dR_readRow_18 (fun v r2 h4 => ?_)
    obtain ⟨rfl, h5, h6⟩ := h4
    refine zb_if_eq (tgt := 28) dR_readRow_21 rfl (fun h21 => ?_) (fun h21 => ?_)
    · refine zx_iconst (v := nI 0) dR_readRow_28 (by decide) ?_
      first
      | (have e : pThen (pTake xs 34 s) (pWord xs) = pWord xs (pTake xs 34 s).2 := pThen_t h14
         have eb : bI (pThen (pTake xs 34 s) (pWord xs)).1 = bI (pWord xs (pTake xs 34 s).2).1 := by rw [e]
         rw [h21] at eb
         refine zx_istore_n dR_readRow_29 (Nat.le_of_ble_eq_true rfl) rfl rfl ?_
         refine zx_iconst (v := nI 0) dR_readRow_30 (by decide) ?_
         refine zx_istore_n dR_readRow_31 (Nat.le_of_ble_eq_true rfl) rfl rfl ?_
         have hh := loop _ (pThen (pTake xs 34 s) (pWord xs)) 0 24 r2 (Nat.lt_succ_self _) (h2.tr h5) (by rw [e]; exact h6) rfl rfl
         rw [eb] at hh
         exact hh)
      | (have e : pThen (pTake xs 34 s) (pWord xs) = (false, (pTake xs 34 s).2) := pThen_f h14
         refine zx_istore_n dR_readRow_29 (Nat.le_of_ble_eq_true rfl) rfl rfl ?_
         refine zx_iconst (v := nI 0) dR_readRow_30 (by decide) ?_
         refine zx_istore_n dR_readRow_31 (Nat.le_of_ble_eq_true rfl) rfl rfl ?_
         have hh := loop _ (pThen (pTake xs 34 s) (pWord xs)) 0 24 r1 (Nat.lt_succ_self _) h2 (by rw [e]; exact h3) rfl rfl
         have eb : bI (pThen (pTake xs 34 s) (pWord xs)).1 = nI 0 := by rw [e]; rfl
         rw [eb] at hh
         exact hh)
    · refine zx_iconst (v := nI 1) dR_readRow_24 (by decide) ?_
      refine zx_goto (tgt := 29) dR_readRow_25 rfl ?_
      first
      | (have e : pThen (pTake xs 34 s) (pWord xs) = pWord xs (pTake xs 34 s).2 := pThen_t h14
         have eb : bI (pThen (pTake xs 34 s) (pWord xs)).1 = bI (pWord xs (pTake xs 34 s).2).1 := by rw [e]
         rw [h21] at eb
         refine zx_istore_n dR_readRow_29 (Nat.le_of_ble_eq_true rfl) rfl rfl ?_
         refine zx_iconst (v := nI 0) dR_readRow_30 (by decide) ?_
         refine zx_istore_n dR_readRow_31 (Nat.le_of_ble_eq_true rfl) rfl rfl ?_
         have hh := loop _ (pThen (pTake xs 34 s) (pWord xs)) 0 24 r2 (Nat.lt_succ_self _) (h2.tr h5) (by rw [e]; exact h6) rfl rfl
         rw [eb] at hh
         exact hh)
      | (have e : pThen (pTake xs 34 s) (pWord xs) = (false, (pTake xs 34 s).2) := pThen_f h14
         refine zx_istore_n dR_readRow_29 (Nat.le_of_ble_eq_true rfl) rfl rfl ?_
         refine zx_iconst (v := nI 0) dR_readRow_30 (by decide) ?_
         refine zx_istore_n dR_readRow_31 (Nat.le_of_ble_eq_true rfl) rfl rfl ?_
         have hh := loop _ (pThen (pTake xs 34 s) (pWord xs)) 0 24 r1 (Nat.lt_succ_self _) h2 (by rw [e]; exact h3) rfl rfl
         have eb : bI (pThen (pTake xs 34 s) (pWord xs)).1 = nI 0 := by rw [e]; rfl
         rw [eb] at hh
         exact hh)

