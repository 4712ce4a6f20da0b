def wRun (pf : PF) : Nat → CT × SF → Nat × CT × SF
  | 0, s => (0, s)
  | u + 1, s => if s.1.2.1 < s.1.1 then ((wRun pf u (wC pf s.1, wS pf s.1 s.2)).1 + 1, (wRun pf u (wC pf s.1, wS pf s.1 s.2)).2) else (0, s)
/-- what the writer needs of the state -/
def wOk (pf : PF) (s : CT × SF) : Prop := s.1.2.1 < 24 ∧ s.1.2.2.2.2.1 ≤ (pf s.1.2.1).2.2.1.length ∧ s.1.2.2.2.2.2 < 100 ∧ (¬ (pf s.1.2.1).2.2.1.length ≤ tokStart (pf s.1.2.1).2.2.1 s.1.2.2.2.2.1 → fT (s.2 (s.1.2.1 / 4)).1 (wTok pf s.1) < 48)
theorem wRun_s {pf : PF} {u : Nat} {s : CT × SF} (h : s.1.2.1 < s.1.1) : wRun pf (u + 1) s = ((wRun pf u (wC pf s.1, wS pf s.1 s.2)).1 + 1, (wRun pf u (wC pf s.1, wS pf s.1 s.2)).2) := by
  show (if s.1.2.1 < s.1.1 then _ else _) = _; rw [if_pos h]
theorem wRun_e {pf : PF} {u : Nat} {s : CT × SF} (h : u = 0 ∨ ¬ s.1.2.1 < s.1.1) : wRun pf u s = (0, s) := by
  cases u with
  | zero => rfl
  | succ u => show (if s.1.2.1 < s.1.1 then _ else _) = _; rw [if_neg (by rcases h with h | h; omega; exact h)]
theorem wRun_le {pf : PF} {u : Nat} {s : CT × SF} : (wRun pf u s).1 ≤ u := by
  induction u generalizing s with
  | zero => exact Nat.le_refl _
  | succ u ih =>
    by_cases h : s.1.2.1 < s.1.1
    · rw [wRun_s h]; have := ih (s := (wC pf s.1, wS pf s.1 s.2)); show _ + 1 ≤ u + 1; omega
    · rw [wRun_e (Or.inr h)]; omega
/-- the first number from i on, of k, that has it -/
def fst1 (p : Nat → Bool) : Nat → Nat → Option Nat
  | 0, _ => none
  | k + 1, i => if p i = true then some i else fst1 p k (i + 1)
theorem fst1_t {p : Nat → Bool} {k i : Nat} (hk : 0 < k) (h : p i = true) : fst1 p k i = some i := by
  cases k with
  | zero => omega
  | succ k => show (if p i = true then _ else _) = _; rw [if_pos h]
theorem fst1_f {p : Nat → Bool} {k i : Nat} (hk : 0 < k) (h : p i = false) : fst1 p k i = fst1 p (k - 1) (i + 1) := by
  cases k with
  | zero => omega
  | succ k => show (if p i = true then _ else _) = _; rw [if_neg (by rw [h]; decide)]; rfl
theorem fst1_some {p : Nat → Bool} {k i j : Nat} (h : fst1 p k i = some j) : i ≤ j ∧ j < i + k ∧ p j = true := by
  induction k generalizing i with
  | zero => cases h
  | succ k ih =>
    unfold fst1 at h
    split at h
    · next hp => cases h; exact ⟨by omega, by omega, hp⟩
    · have := ih h; exact ⟨by omega, by omega, this.2.2⟩
def oI (o : Option Nat) : Int32 := match o with
  | some j => nI j
  | none => -1
def pkF (sf : SF) (c : CT) (g : Nat) : Bool := liveB c.2.2.1 g && (fullB c.2.1 g && !(sf g).2.2)
def rwU (s : List (List Nat × Int32) × Nat × Bool) : List (List Nat × Int32) × Nat × Bool := (s.1, (if s.2.1 < s.1.length then s.2.1 + 1 else s.2.1), (if s.2.1 < s.1.length then s.2.2 else true))
def pRun (c : CT) : Nat → SF → Nat × SF
  | 0, sf => (0, sf)
  | u + 1, sf => match fst1 (pkF sf c) c.2.2.1 0 with
    | none => (0, sf)
    | some g => ((pRun c u (va_up sf g (rwU (sf g)))).1 + 1, (pRun c u (va_up sf g (rwU (sf g)))).2)
theorem pRun_n {c : CT} {u : Nat} {sf : SF} (h : fst1 (pkF sf c) c.2.2.1 0 = none) : pRun c u sf = (0, sf) := by
  cases u with
  | zero => rfl
  | succ u => unfold pRun; rw [h]
theorem pRun_s {c : CT} {u g : Nat} {sf : SF} (h : fst1 (pkF sf c) c.2.2.1 0 = some g) : pRun c (u + 1) sf = ((pRun c u (va_up sf g (rwU (sf g)))).1 + 1, (pRun c u (va_up sf g (rwU (sf g)))).2) := by
  rw [pRun, h]
def nxt (p : Nat → Bool) : Nat → Option Nat
  | 0 => none
  | m + 1 => if p m = true then some m else nxt p m
theorem nxt_t {p : Nat → Bool} {m : Nat} (h : p m = true) : nxt p (m + 1) = some m := by
  show (if p m = true then _ else _) = _; rw [if_pos h]
theorem nxt_f {p : Nat → Bool} {m : Nat} (h : p m = false) : nxt p (m + 1) = nxt p m := by
  show (if p m = true then _ else _) = _; rw [if_neg (by rw [h]; decide)]
/-- a query is worked out to something, whatever its leaves are -/
def qOk (ks : List qStep) (wds : List (List Nat)) : Prop := (∀ env, ∃ b fin, evalS env ks [] = some (b :: fin)) ∧ ∀ k ∈ ks, leafOk wds k
def qv (pf : PF) (sf : SF) (ks : List qStep) (wds : List (List Nat)) (j : Nat) : Bool := match evalS (envI (pf j).1 (pf j).2.1 wds (sf (j / 4)).1 (j % 4)) ks [] with
  | some (b :: _) => b
  | _ => false
def hitB (pf : PF) (sf : SF) (c : CT) (ks : List qStep) (wds : List (List Nat)) (j : Nat) : Bool := standB pf c j && qv pf sf ks wds j
theorem dI_sub (m : Nat) : nI m - nI 1 = dI m := by
  unfold dI
  apply Int32.toBitVec_inj.mp
  rw [Int32.toBitVec_sub, Int32.toBitVec_add]
  rw [BitVec.sub_eq_add_neg]
  congr 1

set_option maxHeartbeats 4000000 in
set_option maxRecDepth 100000 in
theorem kX_write (G : zG) (d : Nat) (hd : 5 ≤ d) {n : Nat} {sh : zSh} {row : zRw} {x : Nat} {D : List Nat} {pf : PF} {sf : SF} {hf : HF} {c : CT} {qr : Nat} (hX : XA sh row x D pf sf hf c qr) {v : Int32} {I : CT × SF → Prop} (hI0 : I (c, sf)) (hI : (∀ s, I s → s.1.2.1 < s.1.1 → wOk pf s) ∧ (∀ s, I s → s.1.2.1 < s.1.1 → I (wC pf s.1, wS pf s.1 s.2)) ∧ ∀ s, I s → s.1.1 ≤ 24 ∧ s.1.2.1 ≤ 24) : zM G (fX_write d) [.ref x, .int v] n sh row (zpR sh (fun w row' => w = .int (nI (wRun pf (unN v) (c, sf)).1) ∧ frI x (x + 795) row row' ∧ XA sh row' x D pf (wRun pf (unN v) (c, sf)).2.2 hf (wRun pf (unN v) (c, sf)).2.1 qr)) := by
  refine zM.of (by show plainName "PostIndex" = true; decide +kernel) (Nat.le_of_ble_eq_true rfl) (by intro v hv; simp at hv; rcases hv with rfl | rfl <;> rfl) ?_
  intro K hE
  show zX G K (fX_write d) n 0 0 sh row 0 [.ref x, .int v, .retAddr 0, .retAddr 0] []
  have hD : d - 1 + 1 ≤ d := by omega
  obtain ⟨hO, hD0, htk, hPs, hSg, hSe, hRd, hDj⟩ := id hX
  obtain ⟨ho, h_0, h_1, h_2, h_3, h_4, h_5, h_6, h_7, h_8, h_9, h_10, h_11⟩ := id hO
  refine zx_iload_n dX_write_0 rfl ?_
  refine zc_S (n0 := n) (ce := 0) (kX_unitsAsked G (d - 1) (by omega)) (meX_unitsAsked _) lkX_79 rfl hD (Nat.le_of_ble_eq_true rfl) rfl rfl (Nat.le_of_ble_eq_true rfl) (Nat.le_of_ble_eq_true rfl) (Nat.le_of_ble_eq_true rfl) dX_write_1 ?_
  have hul := unN_le v
  generalize unN v = u at *
  have loop : ∀ (k : Nat) (i : Nat) (s1 : CT × SF) (r2 : zRw), u - i < k → i ≤ u → frI x (x + 795) row r2 → XA sh r2 x D pf s1.2 hf s1.1 qr → I s1 → wRun pf u (c, sf) = (i + (wRun pf (u - i) s1).1, (wRun pf (u - i) s1).2) → zX G K (fX_write d) n 0 0 sh r2 7 [.ref x, .int v, .int (nI u), .int (nI i)] [] := by
    intro k
    induction k with
    | zero => intro i s1 r2 hk; exact absurd hk (Nat.not_lt_zero _)
    | succ k ih =>
      intro i s1 r2 hk h3 h4 h5 h6 h7
      have hb := hI.2.2 s1 h6
      obtain ⟨gO, gD0, gtk, gPs, gSg, gSe, gRd, gDj⟩ := id h5
      obtain ⟨go, g_0, g_1, g_2, g_3, g_4, g_5, g_6, g_7, g_8, g_9, g_10, g_11⟩ := id gO
      refine zx_iload_n dX_write_7 rfl ?_
      refine zx_iload_n dX_write_8 rfl ?_
      refine zn_icmp_ge (tgt := 37) dX_write_9 rfl (by omega) (by omega) (fun h9 => ?_) (fun h9 => ?_)
      · refine zx_iload_n dX_write_37 rfl ?_
        exact zx_iret hE rfl dX_write_38 rfl (Nat.le_of_ble_eq_true rfl) (by rw [wRun_e (u := u - i) (s := s1) (by omega)] at h7; rw [h7]; exact ⟨_, rfl, rfl, rfl, h4, h5⟩)
      · refine zx_aload_n dX_write_12 rfl ?_
        refine zx_get dX_write_13 flX_72 (by assumption) (by assumption) ?_
        refine zx_aload_n dX_write_16 rfl ?_
        refine zx_get dX_write_17 flX_69 (by assumption) (by assumption) ?_
        refine zn_icmp_ge (tgt := 37) dX_write_20 rfl (by omega) (by omega) (fun h20 => ?_) (fun h20 => ?_)
        · refine zx_iload_n dX_write_37 rfl ?_
          exact zx_iret hE rfl dX_write_38 rfl (Nat.le_of_ble_eq_true rfl) (by rw [wRun_e (u := u - i) (s := s1) (by omega)] at h7; rw [h7]; exact ⟨_, rfl, rfl, rfl, h4, h5⟩)
        · refine zx_aload_n dX_write_23 rfl ?_
          refine zx_aload_n dX_write_24 rfl ?_
          obtain ⟨hw1, hw2, hw3, hw4⟩ := hI.1 s1 h6 (by omega)
          refine zx_get dX_write_25 flX_72 ho g_6 ?_
          refine zc_Vv (n0 := n) (ce := 0) (kX_writeUnit G (d - 1) (by omega) h5 hw1 hw2 hw3 hw4) (meX_writeUnit _) lkX_83 ho rfl rfl hD (Nat.le_of_ble_eq_true rfl) rfl rfl (Nat.le_of_ble_eq_true rfl) (Nat.le_of_ble_eq_true rfl) (Nat.le_of_ble_eq_true rfl) dX_write_28 (fun r3 h8 => ?_)
          obtain ⟨h9, h10⟩ := h8
          refine zn_iinc (c := 1) dX_write_31 (Nat.le_of_ble_eq_true rfl) rfl rfl ?_
          refine zx_goto (tgt := 7) dX_write_34 rfl ?_
          refine ih (i + 1) (wC pf s1.1, wS pf s1.1 s1.2) r3 (by omega) (by omega) (h4.tr h9) h10 (hI.2.1 s1 h6 (by omega)) ?_
          rw [h7, show u - i = u - (i + 1) + 1 by omega, wRun_s (by omega)]
          show (i + ((wRun pf (u - (i + 1)) (wC pf s1.1, wS pf s1.1 s1.2)).1 + 1), _) = _
          rw [show i + ((wRun pf (u - (i + 1)) (wC pf s1.1, wS pf s1.1 s1.2)).1 + 1) = i + 1 + (wRun pf (u - (i + 1)) (wC pf s1.1, wS pf s1.1 s1.2)).1 by omega]
  refine zx_istore_n dX_write_4 (Nat.le_of_ble_eq_true rfl) rfl rfl ?_
  refine zx_iconst (v := nI 0) dX_write_5 (by decide) ?_
  refine zx_istore_n dX_write_6 (Nat.le_of_ble_eq_true rfl) rfl rfl ?_
  exact loop _ 0 (c, sf) row (Nat.lt_succ_self _) (Nat.zero_le _) frI.rf hX hI0 (by rw [Nat.zero_add]; rfl)

set_option maxHeartbeats 4000000 in
set_option maxRecDepth 100000 in
theorem kX_segmentToPack (G : zG) (d : Nat) (hd : 1 ≤ d) {n : Nat} {sh : zSh} {row : zRw} {x : Nat} {D : List Nat} {pf : PF} {sf : SF} {hf : HF} {c : CT} {qr : Nat} (hX : XA sh row x D pf sf hf c qr) (hsb : c.2.2.1 ≤ 6) (hpb : c.2.1 ≤ 24) : zM G (fX_segmentToPack d) [.ref x] n sh row (zP sh row (.int (oI (fst1 (pkF sf c) c.2.2.1 0)))) := by
  refine zM.of (by show plainName "PostIndex" = true; decide +kernel) (Nat.le_of_ble_eq_true rfl) (by intro v hv; simp at hv; rcases hv with rfl <;> rfl) ?_
  intro K hE
  show zX G K (fX_segmentToPack d) n 0 0 sh row 0 [.ref x, .retAddr 0] []
  have hD : d - 1 + 1 ≤ d := by omega
  obtain ⟨hO, hD0, htk, hPs, hSg, hSe, hRd, hDj⟩ := id hX
  obtain ⟨ho, h_0, h_1, h_2, h_3, h_4, h_5, h_6, h_7, h_8, h_9, h_10, h_11⟩ := id hO
  have loop : ∀ (k : Nat) (i : Nat), c.2.2.1 - i < k → i ≤ c.2.2.1 → fst1 (pkF sf c) (c.2.2.1 - i) i = fst1 (pkF sf c) c.2.2.1 0 → zX G K (fX_segmentToPack d) n 0 0 sh row 2 [.ref x, .int (nI i)] [] := by
    intro k
    induction k with
    | zero => intro i hk; exact absurd hk (Nat.not_lt_zero _)
    | succ k ih =>
      intro i hk h3 h4
      refine zx_iload_n dX_segmentToPack_2 rfl ?_
      refine zx_aload_n dX_segmentToPack_3 rfl ?_
      refine zx_get dX_segmentToPack_4 flX_129 (by assumption) (by assumption) ?_
      refine zn_icmp_ge (tgt := 46) dX_segmentToPack_7 rfl (by omega) (by omega) (fun h7 => ?_) (fun h7 => ?_)
      · refine zx_iconst (v := -1) dX_segmentToPack_46 (by decide) ?_
        exact zx_iret hE rfl dX_segmentToPack_47 rfl (Nat.le_of_ble_eq_true rfl) (by refine ⟨?_, rfl, rfl⟩; rw [← h4]; first | (rw [show c.2.2.1 - i = 0 by omega]; rfl) | (have hp : pkF sf c i = true := (by unfold pkF; rw [h15, h23, h35]; rfl); rw [fst1_t (by omega) hp]; rfl))
      · refine zx_aload_n dX_segmentToPack_10 rfl ?_
        refine zx_iload_n dX_segmentToPack_11 rfl ?_
        refine zc_V (n0 := n) (ce := 0) (kX_isLive G (d - 1) (by omega) hX (by omega) hsb) (meX_isLive _) lkX_132 ho rfl rfl hD (Nat.le_of_ble_eq_true rfl) rfl rfl (Nat.le_of_ble_eq_true rfl) (Nat.le_of_ble_eq_true rfl) (Nat.le_of_ble_eq_true rfl) dX_segmentToPack_12 ?_
        refine zb_if_eq (tgt := 40) dX_segmentToPack_15 rfl (fun h15 => ?_) (fun h15 => ?_)
        · refine zn_iinc (c := 1) dX_segmentToPack_40 (Nat.le_of_ble_eq_true rfl) rfl rfl ?_
          refine zx_goto (tgt := 2) dX_segmentToPack_43 rfl ?_
          have hp : pkF sf c i = false := by unfold pkF; first | (rw [h15]; rfl) | (rw [h15, h23]; rfl) | (rw [h15, h23, h35]; rfl)
          exact ih (i + 1) (by omega) (by omega) (by rw [← h4, fst1_f (by omega) hp, show c.2.2.1 - i - 1 = c.2.2.1 - (i + 1) by omega])
        · refine zx_aload_n dX_segmentToPack_18 rfl ?_
          refine zx_iload_n dX_segmentToPack_19 rfl ?_
          refine zc_V (n0 := n) (ce := 0) (kX_isFull G (d - 1) (by omega) hX (by omega) hpb) (meX_isFull _) lkX_135 ho rfl rfl hD (Nat.le_of_ble_eq_true rfl) rfl rfl (Nat.le_of_ble_eq_true rfl) (Nat.le_of_ble_eq_true rfl) (Nat.le_of_ble_eq_true rfl) dX_segmentToPack_20 ?_
          refine zb_if_eq (tgt := 40) dX_segmentToPack_23 rfl (fun h23 => ?_) (fun h23 => ?_)
          · refine zn_iinc (c := 1) dX_segmentToPack_40 (Nat.le_of_ble_eq_true rfl) rfl rfl ?_
            refine zx_goto (tgt := 2) dX_segmentToPack_43 rfl ?_
            have hp : pkF sf c i = false := by unfold pkF; first | (rw [h15]; rfl) | (rw [h15, h23]; rfl) | (rw [h15, h23, h35]; rfl)
            exact ih (i + 1) (by omega) (by omega) (by rw [← h4, fst1_f (by omega) hp, show c.2.2.1 - i - 1 = c.2.2.1 - (i + 1) by omega])
          · refine zx_aload_n dX_segmentToPack_26 rfl ?_
            refine zx_get dX_segmentToPack_27 flX_35 (by assumption) (by assumption) ?_
            refine zx_iload_n dX_segmentToPack_30 rfl ?_
            obtain ⟨q1, q2⟩ := hSg.2 i (by omega)
            refine zn_aald dX_segmentToPack_31 hSg.1 rfl (by omega) (by decide) q1 ?_
            refine zx_getN dX_segmentToPack_32 flX_138 q2.1.1 q2.2.1.2.2.2.2 ?_
            refine zb_if_ne (tgt := 40) dX_segmentToPack_35 rfl (fun h35 => ?_) (fun h35 => ?_)
            · refine zn_iinc (c := 1) dX_segmentToPack_40 (Nat.le_of_ble_eq_true rfl) rfl rfl ?_
              refine zx_goto (tgt := 2) dX_segmentToPack_43 rfl ?_
              have hp : pkF sf c i = false := by unfold pkF; first | (rw [h15]; rfl) | (rw [h15, h23]; rfl) | (rw [h15, h23, h35]; rfl)
              exact ih (i + 1) (by omega) (by omega) (by rw [← h4, fst1_f (by omega) hp, show c.2.2.1 - i - 1 = c.2.2.1 - (i + 1) by omega])
            · refine zx_iload_n dX_segmentToPack_38 rfl ?_
              exact zx_iret hE rfl dX_segmentToPack_39 rfl (Nat.le_of_ble_eq_true rfl) (by refine ⟨?_, rfl, rfl⟩; rw [← h4]; first | (rw [show c.2.2.1 - i = 0 by omega]; rfl) | (have hp : pkF sf c i = true := (by unfold pkF; rw [h15, h23, h35]; rfl); rw [fst1_t (by omega) hp]; rfl))
  refine zx_iconst (v := nI 0) dX_segmentToPack_0 (by decide) ?_
  refine zx_istore_n dX_segmentToPack_1 (Nat.le_of_ble_eq_true rfl) rfl rfl ?_
  exact loop _ 0 (Nat.lt_succ_self _) (Nat.zero_le _) rfl

set_option maxHeartbeats 4000000 in
set_option maxRecDepth 100000 in
theorem kX_freePlace (G : zG) (d : Nat) (hd : 0 ≤ d) {n : Nat} {sh : zSh} {row : zRw} {x : Nat} {D : List Nat} {pf : PF} {sf : SF} {hf : HF} {c : CT} {qr : Nat} (hX : XA sh row x D pf sf hf c qr) : zM G (fX_freePlace d) [.ref x] n sh row (zP sh row (.int (oI (fst1 (fun j => !(hf j).1) 3 0)))) := by
  refine zM.of (by show plainName "PostIndex" = true; decide +kernel) (Nat.le_of_ble_eq_true rfl) (by intro v hv; simp at hv; rcases hv with rfl <;> rfl) ?_
  intro K hE
  show zX G K (fX_freePlace d) n 0 0 sh row 0 [.ref x, .retAddr 0] []
  obtain ⟨hO, hD0, htk, hPs, hSg, hSe, hRd, hDj⟩ := id hX
  obtain ⟨ho, h_0, h_1, h_2, h_3, h_4, h_5, h_6, h_7, h_8, h_9, h_10, h_11⟩ := id hO
  have loop : ∀ (k : Nat) (i : Nat), 3 - i < k → i ≤ 3 → fst1 (fun j => !(hf j).1) (3 - i) i = fst1 (fun j => !(hf j).1) 3 0 → zX G K (fX_freePlace d) n 0 0 sh row 2 [.ref x, .int (nI i)] [] := by
    intro k
    induction k with
    | zero => intro i hk; exact absurd hk (Nat.not_lt_zero _)
    | succ k ih =>
      intro i hk k3 k4
      refine zx_iload_n dX_freePlace_2 rfl ?_
      refine zx_iconst (v := nI 3) dX_freePlace_3 (by decide) ?_
      refine zn_icmp_ge (tgt := 27) dX_freePlace_4 rfl (by omega) (by omega) (fun h4 => ?_) (fun h4 => ?_)
      · refine zx_iconst (v := -1) dX_freePlace_27 (by decide) ?_
        exact zx_iret hE rfl dX_freePlace_28 rfl (Nat.le_of_ble_eq_true rfl) (by refine ⟨?_, rfl, rfl⟩; rw [← k4]; first | (rw [show 3 - i = 0 by omega]; rfl) | (rw [fst1_t (by omega) (by simp [h16])]; rfl))
      · refine zx_aload_n dX_freePlace_7 rfl ?_
        refine zx_get dX_freePlace_8 flX_42 (by assumption) (by assumption) ?_
        refine zx_iload_n dX_freePlace_11 rfl ?_
        obtain ⟨q1, q2, q3, q4, q5, q6, q7⟩ := hSe.2 i (by omega)
        refine zn_aald dX_freePlace_12 hSe.1 rfl (by omega) (by decide) q1 ?_
        refine zx_getN dX_freePlace_13 flX_119 (by assumption) (by assumption) ?_
        refine zb_if_ne (tgt := 21) dX_freePlace_16 rfl (fun h16 => ?_) (fun h16 => ?_)
        · refine zn_iinc (c := 1) dX_freePlace_21 (Nat.le_of_ble_eq_true rfl) rfl rfl ?_
          refine zx_goto (tgt := 2) dX_freePlace_24 rfl ?_
          exact ih (i + 1) (by omega) (by omega) (by rw [← k4, fst1_f (k := 3 - i) (i := i) (by omega) (by simp [h16]), show 3 - i - 1 = 3 - (i + 1) by omega])
        · refine zx_iload_n dX_freePlace_19 rfl ?_
          exact zx_iret hE rfl dX_freePlace_20 rfl (Nat.le_of_ble_eq_true rfl) (by refine ⟨?_, rfl, rfl⟩; rw [← k4]; first | (rw [show 3 - i = 0 by omega]; rfl) | (rw [fst1_t (by omega) (by simp [h16])]; rfl))
  refine zx_iconst (v := nI 0) dX_freePlace_0 (by decide) ?_
  refine zx_istore_n dX_freePlace_1 (Nat.le_of_ble_eq_true rfl) rfl rfl ?_
  exact loop _ 0 (Nat.lt_succ_self _) (Nat.zero_le _) rfl

theorem hSg' {sh : zSh} {row : zRw} {x g : Nat} {D : List Nat} {pf : PF} {sf : SF} {hf : HF} {c : CT} {qr : Nat} (h : XA sh row x D pf sf hf c qr) (hg : g < 6) : row (x + 110) g = .ref (x + 111 + 99 * g) ∧ SegA sh row (x + 111 + 99 * g) (sf g).1 (sf g).2.1 (sf g).2.2 := h.2.2.2.2.1.2 g hg

set_option maxHeartbeats 4000000 in
set_option maxRecDepth 100000 in
theorem kX_pack (G : zG) (d : Nat) (hd : 2 ≤ d) {n : Nat} {sh : zSh} {row : zRw} {x : Nat} {D : List Nat} {pf : PF} {sf : SF} {hf : HF} {c : CT} {qr : Nat} (hX : XA sh row x D pf sf hf c qr) {v : Int32} (hsb : c.2.2.1 ≤ 6) (hpb : c.2.1 ≤ 24) : zM G (fX_pack d) [.ref x, .int v] n sh row (zpR sh (fun w row' => w = .int (nI (pRun c (unN v) sf).1) ∧ frI x (x + 795) row row' ∧ XA sh row' x D pf (pRun c (unN v) sf).2 hf c qr)) := by
  refine zM.of (by show plainName "PostIndex" = true; decide +kernel) (Nat.le_of_ble_eq_true rfl) (by intro v hv; simp at hv; rcases hv with rfl | rfl <;> rfl) ?_
  intro K hE
  show zX G K (fX_pack d) n 0 0 sh row 0 [.ref x, .int v, .retAddr 0, .retAddr 0, .retAddr 0] []
  have hD : d - 1 + 1 ≤ d := by omega
  obtain ⟨hO, hD0, htk, hPs, hSg, hSe, hRd, hDj⟩ := id hX
  obtain ⟨ho, h_0, h_1, h_2, h_3, h_4, h_5, h_6, h_7, h_8, h_9, h_10, h_11⟩ := id hO

  refine zx_iload_n dX_pack_0 rfl ?_
  refine zc_S (n0 := n) (ce := 0) (kX_unitsAsked G (d - 1) (by omega)) (meX_unitsAsked _) lkX_79 rfl hD (Nat.le_of_ble_eq_true rfl) rfl rfl (Nat.le_of_ble_eq_true rfl) (Nat.le_of_ble_eq_true rfl) (Nat.le_of_ble_eq_true rfl) dX_pack_1 ?_
  have hul := unN_le v
  generalize unN v = u at *
  have loop : ∀ (k : Nat) (i : Nat) (sf1 : SF) (v4 : Value) (r2 : zRw), u - i < k → i ≤ u → v4.category = 1 → frI x (x + 795) row r2 → XA sh r2 x D pf sf1 hf c qr → pRun c u sf = (i + (pRun c (u - i) sf1).1, (pRun c (u - i) sf1).2) → zX G K (fX_pack d) n 0 0 sh r2 7 [.ref x, .int v, .int (nI u), .int (nI i), v4] [] := by
    intro k
    induction k with
    | zero => intro i sf1 v4 r2 hk; exact absurd hk (Nat.not_lt_zero _)
    | succ k ih =>
      intro i sf1 v4 r2 hk h3 hv4 h4 h5 h7
      refine zx_iload_n dX_pack_7 rfl ?_
      refine zx_iload_n dX_pack_8 rfl ?_
      refine zn_icmp_ge (tgt := 41) dX_pack_9 rfl (by omega) (by omega) (fun h9 => ?_) (fun h9 => ?_)
      · refine zx_iload_n dX_pack_41 rfl ?_
        exact zx_iret hE rfl dX_pack_42 rfl (Nat.le_of_ble_eq_true rfl) (by rw [show u - i = 0 by omega] at h7; rw [h7]; exact ⟨_, rfl, rfl, by show Value.int (nI u) = .int (nI (i + 0)); rw [show i + 0 = u by omega], h4, h5⟩)
      · refine zx_aload_n dX_pack_12 rfl ?_
        refine zc_V (n0 := n) (ce := 0) (kX_segmentToPack G (d - 1) (by omega) h5 hsb hpb) (meX_segmentToPack _) lkX_91 ho rfl rfl hD (Nat.le_of_ble_eq_true rfl) rfl rfl (Nat.le_of_ble_eq_true rfl) (Nat.le_of_ble_eq_true rfl) (Nat.le_of_ble_eq_true rfl) dX_pack_13 ?_
        cases hg : fst1 (pkF sf1 c) c.2.2.1 0 with
        | none =>
          show zX G K _ n 0 0 sh r2 _ _ [.int (-1)]
          refine zx_istore dX_pack_16 (Nat.le_of_ble_eq_true rfl) (by simp only [List.all_cons, List.all_nil, hv4]; rfl) rfl ?_
          refine zx_iload dX_pack_18 rfl ?_
          refine zx_if_ge (tgt := 25) dX_pack_20 rfl (fun h => absurd h (by decide)) (fun _ => ?_)
          refine zx_iload_n dX_pack_23 rfl ?_
          exact zx_iret hE rfl dX_pack_24 rfl (Nat.le_of_ble_eq_true rfl) (by rw [pRun_n hg] at h7; rw [h7]; exact ⟨_, rfl, rfl, rfl, h4, h5⟩)
        | some g =>
          obtain ⟨-, hg2, hg3⟩ := fst1_some hg
          obtain ⟨q1, q2⟩ := hSg' h5 (g := g) (by omega)
          show zX G K _ n 0 0 sh r2 _ _ [.int (nI g)]
          refine zx_istore dX_pack_16 (Nat.le_of_ble_eq_true rfl) (by simp only [List.all_cons, List.all_nil, hv4]; rfl) rfl ?_
          refine zx_iload dX_pack_18 rfl ?_
          refine zn_if_ge (tgt := 25) dX_pack_20 rfl (by omega) ?_
          refine zx_aload_n dX_pack_25 rfl ?_
          refine zx_get dX_pack_26 flX_35 ho h5.1.2.2.2.1 ?_
          refine zx_iload dX_pack_29 rfl ?_
          refine zn_aald dX_pack_31 h5.2.2.2.2.1.1 rfl (by omega) (by decide) q1 ?_
          refine zc_Vv (n0 := n) (ce := 0) (kS_rewriteUnit G (d - 1) (by omega) q2) (meS_rewriteUnit _) lkX_95 q2.1.1 rfl rfl hD (Nat.le_of_ble_eq_true rfl) rfl rfl (Nat.le_of_ble_eq_true rfl) (Nat.le_of_ble_eq_true rfl) (Nat.le_of_ble_eq_true rfl) dX_pack_32 (fun r3 h8 => ?_)
          obtain ⟨h9, h10⟩ := h8
          refine zn_iinc (c := 1) dX_pack_35 (Nat.le_of_ble_eq_true rfl) rfl rfl ?_
          refine zx_goto (tgt := 7) dX_pack_38 rfl ?_
          refine ih (i + 1) (va_up sf1 g (rwU (sf1 g))) _ r3 (by omega) (by omega) rfl (h4.tr (h9.wide (by omega) (by omega))) (h5.segU (v := rwU (sf1 g)) (by omega) (h9.wide (by omega) (by omega)) h10) ?_
          rw [h7, show u - i = u - (i + 1) + 1 by omega, pRun_s hg]
          show (i + ((pRun c (u - (i + 1)) (va_up sf1 g (rwU (sf1 g)))).1 + 1), _) = _
          rw [show i + ((pRun c (u - (i + 1)) (va_up sf1 g (rwU (sf1 g)))).1 + 1) = i + 1 + (pRun c (u - (i + 1)) (va_up sf1 g (rwU (sf1 g)))).1 by omega]
  refine zx_istore_n dX_pack_4 (Nat.le_of_ble_eq_true rfl) rfl rfl ?_
  refine zx_iconst (v := nI 0) dX_pack_5 (by decide) ?_
  refine zx_istore_n dX_pack_6 (Nat.le_of_ble_eq_true rfl) rfl rfl ?_
  exact loop _ 0 sf _ row (Nat.lt_succ_self _) (Nat.zero_le _) rfl frI.rf hX (by rw [Nat.zero_add]; rfl)

set_option maxHeartbeats 4000000 in
set_option maxRecDepth 100000 in
theorem kX_isHit (G : zG) (d : Nat) (hd : 6 ≤ d) {n : Nat} {sh : zSh} {row : zRw} {x : Nat} {D : List Nat} {pf : PF} {sf : SF} {hf : HF} {c : CT} {qr : Nat} (hX : XA sh row x D pf sf hf c qr) {q j : Nat} {ks : List qStep} {wds : List (List Nat)} (hQ : QryA sh row q ks wds) (hq : qOk ks wds) (hj : j < 24) (hsb : c.2.2.1 ≤ 6) (hpb : c.2.1 ≤ 24) : zM G (fX_isHit d) [.ref x, .ref q, .int (nI j)] n sh row (zP sh row (.int (bI (hitB pf sf c ks wds j)))) := by
  refine zM.of (by show plainName "PostIndex" = true; decide +kernel) (Nat.le_of_ble_eq_true rfl) (by intro v hv; simp at hv; rcases hv with rfl | rfl | rfl <;> rfl) ?_
  intro K hE
  show zX G K (fX_isHit d) n 0 0 sh row 0 [.ref x, .ref q, .int (nI j)] []
  have hD : d - 1 + 1 ≤ d := by omega
  obtain ⟨hO, hD0, htk, hPs, hSg, hSe, hRd, hDj⟩ := id hX
  obtain ⟨ho, h_0, h_1, h_2, h_3, h_4, h_5, h_6, h_7, h_8, h_9, h_10, h_11⟩ := id hO
  refine zx_aload_n dX_isHit_0 rfl ?_
  refine zx_iload_n dX_isHit_1 rfl ?_
  refine zc_V (n0 := n) (ce := 0) (kX_stands G (d - 1) (by omega) hX (j := j) (by omega) hsb hpb) (meX_stands _) lkX_51 ho rfl rfl hD (Nat.le_of_ble_eq_true rfl) rfl rfl (Nat.le_of_ble_eq_true rfl) (Nat.le_of_ble_eq_true rfl) (Nat.le_of_ble_eq_true rfl) dX_isHit_2 ?_
  refine zb_if_eq (tgt := 36) dX_isHit_5 rfl (fun h5 => ?_) (fun h5 => ?_)
  · refine zx_iconst (v := nI 0) dX_isHit_36 (by decide) ?_
    exact zx_zret hE rfl (by first | decide | exact bI_nar _) dX_isHit_37 rfl (Nat.le_of_ble_eq_true rfl) ⟨by unfold hitB; first | (rw [h5]; rfl) | (rw [h5, hqv, h29]; rfl), rfl, rfl⟩
  · refine zx_aload_n dX_isHit_8 rfl ?_
    refine zx_aload_n dX_isHit_9 rfl ?_
    refine zx_get dX_isHit_10 flX_28 (by assumption) (by assumption) ?_
    refine zx_iload_n dX_isHit_13 rfl ?_
    obtain ⟨q1, q2⟩ := hPs.2 j hj
    obtain ⟨q3, q4⟩ := hSg.2 (j / 4) (by omega)
    obtain ⟨b0, fin, hev⟩ := hq.1 (envI (pf j).1 (pf j).2.1 wds (sf (j / 4)).1 (j % 4))
    have hqv : qv pf sf ks wds j = b0 := by unfold qv; rw [hev]
    refine zn_aald dX_isHit_14 hPs.1 rfl (by omega) (by decide) q1 ?_
    refine zx_aload_n dX_isHit_15 rfl ?_
    refine zx_get dX_isHit_16 flX_35 (by assumption) (by assumption) ?_
    refine zx_iload_n dX_isHit_19 rfl ?_
    refine zx_iconst (v := nI 4) dX_isHit_20 (by decide) ?_
    refine zn_idiv dX_isHit_21 (by omega) (by omega) (by omega) ?_
    refine zn_aald dX_isHit_22 hSg.1 rfl (by omega) (by decide) q3 ?_
    refine zx_iload_n dX_isHit_23 rfl ?_
    refine zx_iconst (v := nI 4) dX_isHit_24 (by decide) ?_
    refine zn_irem dX_isHit_25 (by omega) (by omega) (by omega) ?_
    refine zc_V (n0 := n) (ce := 0) (kQ_matches G (d - 1) (by omega) hQ q4 (slot := j % 4) (by omega) q2 hq.2 hev) (meQ_matches _) lkX_178 hQ.1.1 rfl rfl hD (Nat.le_of_ble_eq_true rfl) rfl rfl (Nat.le_of_ble_eq_true rfl) (Nat.le_of_ble_eq_true rfl) (Nat.le_of_ble_eq_true rfl) dX_isHit_26 ?_
    refine zb_if_eq (tgt := 36) dX_isHit_29 rfl (fun h29 => ?_) (fun h29 => ?_)
    · refine zx_iconst (v := nI 0) dX_isHit_36 (by decide) ?_
      exact zx_zret hE rfl (by first | decide | exact bI_nar _) dX_isHit_37 rfl (Nat.le_of_ble_eq_true rfl) ⟨by unfold hitB; first | (rw [h5]; rfl) | (rw [h5, hqv, h29]; rfl), rfl, rfl⟩
    · refine zx_iconst (v := nI 1) dX_isHit_32 (by decide) ?_
      refine zx_goto (tgt := 37) dX_isHit_33 rfl ?_
      exact zx_zret hE rfl (by first | decide | exact bI_nar _) dX_isHit_37 rfl (Nat.le_of_ble_eq_true rfl) ⟨by unfold hitB; first | (rw [h5]; rfl) | (rw [h5, hqv, h29]; rfl), rfl, rfl⟩

