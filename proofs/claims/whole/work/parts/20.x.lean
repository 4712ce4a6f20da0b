/-- the class's state: counters (made, published, segments begun, searches begun, where the writer is, its tokens), posts, segments, searches (open, bound, query's cell, steps, words) -/
abbrev CT : Type := Nat × Nat × Nat × Nat × Nat × Nat
abbrev PF : Type := Nat → Int32 × Int32 × List Nat × Bool
abbrev SF : Type := Nat → List (List Nat × Int32) × Nat × Bool
abbrev HF : Type := Nat → Bool × Nat × Nat × List qStep × List (List Nat)
def isQ (x q : Nat) : Prop := q = x + 8 ∨ q = x + 707 ∨ q = x + 737 ∨ q = x + 767
def XObj (sh : zSh) (row : zRw) (x : Nat) (c : CT) : Prop := sh x = some (0, 6, 12) ∧ row x 0 = .ref (x + 1) ∧ row x 1 = .ref (x + 37) ∧ row x 2 = .ref (x + 110) ∧ row x 3 = .ref (x + 705) ∧ row x 4 = .ref (x + 5) ∧ row x 5 = .int (nI c.1) ∧ row x 6 = .int (nI c.2.1) ∧ row x 7 = .int (nI c.2.2.1) ∧ row x 8 = .int (nI c.2.2.2.1) ∧ row x 9 = .ref (x + 3) ∧ row x 10 = .int (nI c.2.2.2.2.1) ∧ row x 11 = .int (nI c.2.2.2.2.2)
def XPs (sh : zSh) (row : zRw) (x : Nat) (pf : PF) : Prop := sh (x + 37) = some (2, 4, 24) ∧ ∀ i, i < 24 → row (x + 37) i = .ref (x + 38 + 3 * i) ∧ PostA sh row (x + 38 + 3 * i) (pf i).1 (pf i).2.1 (pf i).2.2.1 (pf i).2.2.2
def XSg (sh : zSh) (row : zRw) (x : Nat) (sf : SF) : Prop := sh (x + 110) = some (2, 5, 6) ∧ ∀ g, g < 6 → row (x + 110) g = .ref (x + 111 + 99 * g) ∧ SegA sh row (x + 111 + 99 * g) (sf g).1 (sf g).2.1 (sf g).2.2
def XSe (sh : zSh) (row : zRw) (x : Nat) (hf : HF) : Prop := sh (x + 705) = some (2, 6, 3) ∧ ∀ j, j < 3 → row (x + 705) j = .ref (x + 706 + 30 * j) ∧ sh (x + 706 + 30 * j) = some (0, 3, 3) ∧ row (x + 706 + 30 * j) 0 = .ref (hf j).2.2.1 ∧ row (x + 706 + 30 * j) 1 = .int (nI (hf j).2.1) ∧ row (x + 706 + 30 * j) 2 = .int (bI (hf j).1) ∧ isQ x (hf j).2.2.1 ∧ QryA sh row (hf j).2.2.1 (hf j).2.2.2.1 (hf j).2.2.2.2
def XRd (sh : zSh) (row : zRw) (x qr : Nat) : Prop := RdI sh row (x + 5) qr ∧ isQ x qr
def XDj (hf : HF) (qr : Nat) : Prop := (∀ j, j < 3 → (hf j).2.2.1 ≠ qr) ∧ ∀ i j, i < 3 → j < 3 → i ≠ j → (hf i).2.2.1 ≠ (hf j).2.2.1
def XA (sh : zSh) (row : zRw) (x : Nat) (D : List Nat) (pf : PF) (sf : SF) (hf : HF) (c : CT) (qr : Nat) : Prop := XObj sh row x c ∧ Txt sh row (x + 1) D ∧ (∃ tk, Txt sh row (x + 3) tk) ∧ XPs sh row x pf ∧ XSg sh row x sf ∧ XSe sh row x hf ∧ XRd sh row x qr ∧ XDj hf qr
/-- what is kept -/
theorem XObj.keep {sh : zSh} {row row' : zRw} {x : Nat} {c : CT} (h : XObj sh row x c) (e : row' x = row x) : XObj sh row' x c := by
  unfold XObj at h ⊢; rw [e]; exact h
theorem XPs.keep {sh : zSh} {row row' : zRw} {x lo hi : Nat} {pf : PF} (h : XPs sh row x pf) (hf : frI lo hi row row') (hn : x + 109 < lo ∨ hi < x + 37) : XPs sh row' x pf := by
  refine ⟨h.1, fun i hi2 => ?_⟩
  obtain ⟨a, b⟩ := h.2 i hi2
  exact ⟨by rw [hf (x + 37) (by omega)]; exact a, b.keep hf (by omega)⟩
theorem XSg.keep {sh : zSh} {row row' : zRw} {x lo hi : Nat} {sf : SF} (h : XSg sh row x sf) (hf : frI lo hi row row') (hn : x + 704 < lo ∨ hi < x + 110) : XSg sh row' x sf := by
  refine ⟨h.1, fun i hi2 => ?_⟩
  obtain ⟨a, b⟩ := h.2 i hi2
  exact ⟨by rw [hf (x + 110) (by omega)]; exact a, b.keep hf (by omega)⟩
theorem isQ.rng {x q : Nat} (h : isQ x q) : (x + 8 ≤ q ∧ q ≤ x + 8) ∨ (x + 707 ≤ q ∧ q + 28 ≤ x + 795) := by
  rcases h with h | h | h | h <;> omega
theorem XSe.keep {sh : zSh} {row row' : zRw} {x lo hi : Nat} {hf : HF} (h : XSe sh row x hf) (hr : frI lo hi row row') (hn : hi < x + 8 ∨ (x + 36 < lo ∧ hi < x + 705)) : XSe sh row' x hf := by
  refine ⟨h.1, fun j hj => ?_⟩
  obtain ⟨a, b, e, f, g, q, k⟩ := h.2 j hj
  have e1 : row' (x + 706 + 30 * j) = row (x + 706 + 30 * j) := hr _ (by omega)
  have hq := q.rng
  exact ⟨by rw [hr (x + 705) (by omega)]; exact a, b, by rw [e1]; exact e, by rw [e1]; exact f, by rw [e1]; exact g, q, k.keep hr (by omega)⟩
theorem RdI.keep {sh : zSh} {row row' : zRw} {r q lo hi : Nat} (h : RdI sh row r q) (hr : frI lo hi row row') (h1 : r + 2 < lo ∨ hi < r) (h2 : q + 28 < lo ∨ hi < q) : RdI sh row' r q := by
  obtain ⟨⟨a, ys, ks, wds, p1, p2, p3⟩, p4, p5, p6, p7⟩ := h
  have e : row' r = row r := hr _ (by omega)
  exact ⟨⟨a, ys, ks, wds, by rw [e]; exact p1, p2.keepI hr (by omega), p3.keep hr h2⟩, p4, by rw [e]; exact p5, by rw [e]; exact p6, p7⟩
theorem XRd.keep {sh : zSh} {row row' : zRw} {x qr lo hi : Nat} (h : XRd sh row x qr) (hr : frI lo hi row row') (hn : hi < x + 5 ∨ (x + 36 < lo ∧ hi < x + 706)) : XRd sh row' x qr := by
  have hq := h.2.rng
  exact ⟨h.1.keep hr (by omega) (by omega), h.2⟩
/-- a change of one part -/
theorem XA.draft {sh : zSh} {row row' : zRw} {x : Nat} {D D' : List Nat} {pf : PF} {sf : SF} {hf : HF} {c : CT} {qr : Nat} (h : XA sh row x D pf sf hf c qr) (hr : fr2 (x + 1) row row') (hT : Txt sh row' (x + 1) D') : XA sh row' x D' pf sf hf c qr := by
  obtain ⟨hO, hD0, ⟨tk, htk⟩, hPs, hSg, hSe, hRd, hDj⟩ := h
  have hI := fr2.I hr
  exact ⟨hO.keep (hr x (by omega) (by omega)), hT, ⟨tk, htk.keepI hI (by omega)⟩, hPs.keep hI (by omega), hSg.keep hI (by omega), hSe.keep hI (by omega), hRd.keep hI (by omega), hDj⟩
theorem XA.ctr {sh : zSh} {row row' : zRw} {x : Nat} {D : List Nat} {pf : PF} {sf : SF} {hf : HF} {c c' : CT} {qr : Nat} (h : XA sh row x D pf sf hf c qr) (hr : frI x x row row') (hO : XObj sh row' x c') : XA sh row' x D pf sf hf c' qr := by
  obtain ⟨_, hD0, ⟨tk, htk⟩, hPs, hSg, hSe, hRd, hDj⟩ := h
  exact ⟨hO, hD0.keepI hr (by omega), ⟨tk, htk.keepI hr (by omega)⟩, hPs.keep hr (by omega), hSg.keep hr (by omega), hSe.keep hr (by omega), hRd.keep hr (by omega), hDj⟩
theorem XA.tok {sh : zSh} {row row' : zRw} {x : Nat} {D tk' : List Nat} {pf : PF} {sf : SF} {hf : HF} {c : CT} {qr : Nat} (h : XA sh row x D pf sf hf c qr) (hr : fr2 (x + 3) row row') (hT : Txt sh row' (x + 3) tk') : XA sh row' x D pf sf hf c qr := by
  obtain ⟨hO, hD0, _, hPs, hSg, hSe, hRd, hDj⟩ := h
  have hI := fr2.I hr
  exact ⟨hO.keep (hr x (by omega) (by omega)), hD0.keepI hI (by omega), ⟨_, hT⟩, hPs.keep hI (by omega), hSg.keep hI (by omega), hSe.keep hI (by omega), hRd.keep hI (by omega), hDj⟩
theorem XA.postU {sh : zSh} {row row' : zRw} {x i : Nat} {D : List Nat} {pf : PF} {sf : SF} {hf : HF} {c : CT} {qr : Nat} {v : Int32 × Int32 × List Nat × Bool} (h : XA sh row x D pf sf hf c qr) (hi : i < 24) (hr : frI (x + 38 + 3 * i) (x + 40 + 3 * i) row row') (hP : PostA sh row' (x + 38 + 3 * i) v.1 v.2.1 v.2.2.1 v.2.2.2) : XA sh row' x D (va_up pf i v) sf hf c qr := by
  obtain ⟨hO, hD0, ⟨tk, htk⟩, hPs, hSg, hSe, hRd, hDj⟩ := h
  refine ⟨hO.keep (hr x (by omega)), hD0.keepI hr (by omega), ⟨tk, htk.keepI hr (by omega)⟩, ⟨hPs.1, fun j hj => ?_⟩, hSg.keep hr (by omega), hSe.keep hr (by omega), hRd.keep hr (by omega), hDj⟩
  obtain ⟨a, b⟩ := hPs.2 j hj
  refine ⟨by rw [hr (x + 37) (by omega)]; exact a, ?_⟩
  by_cases hji : j = i
  · subst hji
    rw [show va_up pf j v j = v by unfold va_up; rw [if_pos rfl]]
    exact hP
  · rw [show va_up pf i v j = pf j by unfold va_up; rw [if_neg hji]]
    exact b.keep hr (by omega)
theorem XA.segU {sh : zSh} {row row' : zRw} {x g : Nat} {D : List Nat} {pf : PF} {sf : SF} {hf : HF} {c : CT} {qr : Nat} {v : List (List Nat × Int32) × Nat × Bool} (h : XA sh row x D pf sf hf c qr) (hg : g < 6) (hr : frI (x + 111 + 99 * g) (x + 111 + 99 * g + 98) row row') (hS : SegA sh row' (x + 111 + 99 * g) v.1 v.2.1 v.2.2) : XA sh row' x D pf (va_up sf g v) hf c qr := by
  obtain ⟨hO, hD0, ⟨tk, htk⟩, hPs, hSg, hSe, hRd, hDj⟩ := h
  refine ⟨hO.keep (hr x (by omega)), hD0.keepI hr (by omega), ⟨tk, htk.keepI hr (by omega)⟩, hPs.keep hr (by omega), ⟨hSg.1, fun j hj => ?_⟩, hSe.keep hr (by omega), hRd.keep hr (by omega), hDj⟩
  obtain ⟨a, b⟩ := hSg.2 j hj
  refine ⟨by rw [hr (x + 110) (by omega)]; exact a, ?_⟩
  by_cases hji : j = g
  · subst hji
    rw [show va_up sf j v j = v by unfold va_up; rw [if_pos rfl]]
    exact hS
  · rw [show va_up sf g v j = sf j by unfold va_up; rw [if_neg hji]]
    exact b.keep hr (by omega)
/-- what is asked of the state -/
def liveB (sb g : Nat) : Bool := decide (g < sb ∧ sb - g ≤ 3)
def fullB (pub g : Nat) : Bool := decide (4 * (g + 1) ≤ pub)
def standB (pf : PF) (c : CT) (j : Nat) : Bool := decide (j < c.2.1) && (liveB c.2.2.1 (j / 4) && !(pf j).2.2.2)
def opB (hf : HF) (j : Nat) : Bool := decide (j < 3) && (hf j).1
theorem nI_m1 {v : Int32} (h : ¬ v < 0) : ∃ j : Nat, j < 2147483648 ∧ v = nI j := nI_of h

set_option maxHeartbeats 4000000 in
set_option maxRecDepth 100000 in
theorem kX_isLive (G : zG) (d : Nat) (hd : 0 ≤ d) {n : Nat} {sh : zSh} {row : zRw} {x : Nat} {D : List Nat} {pf : PF} {sf : SF} {hf : HF} {c : CT} {qr : Nat} (hX : XA sh row x D pf sf hf c qr) {g : Nat} (hg : g < 2147483648) (hsb : c.2.2.1 ≤ 6) : zM G (fX_isLive d) [.ref x, .int (nI g)] n sh row (zP sh row (.int (bI (liveB c.2.2.1 g)))) := by
  refine zM.of (by show plainName "PostIndex" = true; decide +kernel) (Nat.le_of_ble_eq_true rfl) (by intro v hv; simp at hv; rcases hv with rfl | rfl <;> rfl) ?_
  intro K hE
  show zX G K (fX_isLive d) n 0 0 sh row 0 [.ref x, .int (nI g)] []
  obtain ⟨hO, hD0, htk, hPs, hSg, hSe, hRd, hDj⟩ := id hX
  obtain ⟨ho, h_0, h_1, h_2, h_3, h_4, h_5, h_6, h_7, h_8, h_9, h_10, h_11⟩ := id hO
  refine zx_iload_n dX_isLive_0 rfl ?_
  refine zn_if_lt (tgt := 26) dX_isLive_1 rfl (by omega) ?_
  refine zx_iload_n dX_isLive_4 rfl ?_
  refine zx_aload_n dX_isLive_5 rfl ?_
  refine zx_get dX_isLive_6 flX_129 (by assumption) (by assumption) ?_
  refine zn_icmp_ge (tgt := 26) dX_isLive_9 rfl (by omega) (by omega) (fun h9 => ?_) (fun h9 => ?_)
  · refine zx_iconst (v := nI 0) dX_isLive_26 (by decide) ?_
    exact zx_zret hE rfl (by first | decide | exact bI_nar _) dX_isLive_27 rfl (Nat.le_of_ble_eq_true rfl) ⟨by unfold liveB; first | (rw [decide_eq_true (by omega)]; rfl) | (rw [decide_eq_false (by omega)]; rfl), rfl, rfl⟩
  · refine zx_aload_n dX_isLive_12 rfl ?_
    refine zx_get dX_isLive_13 flX_129 (by assumption) (by assumption) ?_
    refine zx_iload_n dX_isLive_16 rfl ?_
    refine zn_isub dX_isLive_17 (by omega) ?_
    refine zx_iconst (v := nI 3) dX_isLive_18 (by decide) ?_
    refine zn_icmp_gt (tgt := 26) dX_isLive_19 rfl (by omega) (by omega) (fun h19 => ?_) (fun h19 => ?_)
    · refine zx_iconst (v := nI 0) dX_isLive_26 (by decide) ?_
      exact zx_zret hE rfl (by first | decide | exact bI_nar _) dX_isLive_27 rfl (Nat.le_of_ble_eq_true rfl) ⟨by unfold liveB; first | (rw [decide_eq_true (by omega)]; rfl) | (rw [decide_eq_false (by omega)]; rfl), rfl, rfl⟩
    · refine zx_iconst (v := nI 1) dX_isLive_22 (by decide) ?_
      refine zx_goto (tgt := 27) dX_isLive_23 rfl ?_
      exact zx_zret hE rfl (by first | decide | exact bI_nar _) dX_isLive_27 rfl (Nat.le_of_ble_eq_true rfl) ⟨by unfold liveB; first | (rw [decide_eq_true (by omega)]; rfl) | (rw [decide_eq_false (by omega)]; rfl), rfl, rfl⟩

set_option maxHeartbeats 4000000 in
set_option maxRecDepth 100000 in
theorem kX_isFull (G : zG) (d : Nat) (hd : 0 ≤ d) {n : Nat} {sh : zSh} {row : zRw} {x : Nat} {D : List Nat} {pf : PF} {sf : SF} {hf : HF} {c : CT} {qr : Nat} (hX : XA sh row x D pf sf hf c qr) {g : Nat} (hg : g < 1000) (hpb : c.2.1 ≤ 24) : zM G (fX_isFull d) [.ref x, .int (nI g)] n sh row (zP sh row (.int (bI (fullB c.2.1 g)))) := by
  refine zM.of (by show plainName "PostIndex" = true; decide +kernel) (Nat.le_of_ble_eq_true rfl) (by intro v hv; simp at hv; rcases hv with rfl | rfl <;> rfl) ?_
  intro K hE
  show zX G K (fX_isFull d) n 0 0 sh row 0 [.ref x, .int (nI g)] []
  obtain ⟨hO, hD0, htk, hPs, hSg, hSe, hRd, hDj⟩ := id hX
  obtain ⟨ho, h_0, h_1, h_2, h_3, h_4, h_5, h_6, h_7, h_8, h_9, h_10, h_11⟩ := id hO
  refine zx_aload_n dX_isFull_0 rfl ?_
  refine zx_get dX_isFull_1 flX_72 (by assumption) (by assumption) ?_
  refine zx_iconst (v := nI 4) dX_isFull_4 (by decide) ?_
  refine zx_iload_n dX_isFull_5 rfl ?_
  refine zx_iconst (v := nI 1) dX_isFull_6 (by decide) ?_
  refine zn_iadd dX_isFull_7 ?_
  refine zn_imul dX_isFull_8 ?_
  refine zn_icmp_lt (tgt := 16) dX_isFull_9 rfl (by omega) (by omega) (fun h9 => ?_) (fun h9 => ?_)
  · refine zx_iconst (v := nI 0) dX_isFull_16 (by decide) ?_
    exact zx_zret hE rfl (by first | decide | exact bI_nar _) dX_isFull_17 rfl (Nat.le_of_ble_eq_true rfl) ⟨by unfold fullB; first | (rw [decide_eq_true (by omega)]; rfl) | (rw [decide_eq_false (by omega)]; rfl), rfl, rfl⟩
  · refine zx_iconst (v := nI 1) dX_isFull_12 (by decide) ?_
    refine zx_goto (tgt := 17) dX_isFull_13 rfl ?_
    exact zx_zret hE rfl (by first | decide | exact bI_nar _) dX_isFull_17 rfl (Nat.le_of_ble_eq_true rfl) ⟨by unfold fullB; first | (rw [decide_eq_true (by omega)]; rfl) | (rw [decide_eq_false (by omega)]; rfl), rfl, rfl⟩

set_option maxHeartbeats 4000000 in
set_option maxRecDepth 100000 in
theorem kX_isLiveN (G : zG) (d : Nat) (hd : 0 ≤ d) {n : Nat} {sh : zSh} {row : zRw} {x : Nat} {D : List Nat} {pf : PF} {sf : SF} {hf : HF} {c : CT} {qr : Nat} (hX : XA sh row x D pf sf hf c qr) {v : Int32} (hv : v < 0) : zM G (fX_isLive d) [.ref x, .int v] n sh row (zP sh row (.int (bI false))) := by
  refine zM.of (by show plainName "PostIndex" = true; decide +kernel) (Nat.le_of_ble_eq_true rfl) (by intro v hv; simp at hv; rcases hv with rfl | rfl <;> rfl) ?_
  intro K hE
  show zX G K (fX_isLive d) n 0 0 sh row 0 [.ref x, .int v] []
  obtain ⟨hO, hD0, htk, hPs, hSg, hSe, hRd, hDj⟩ := id hX
  obtain ⟨ho, h_0, h_1, h_2, h_3, h_4, h_5, h_6, h_7, h_8, h_9, h_10, h_11⟩ := id hO
  refine zx_iload_n dX_isLive_0 rfl ?_
  refine zx_if_lt (tgt := 26) dX_isLive_1 rfl (fun h1 => ?_) (fun h1 => ?_)
  · refine zx_iconst (v := nI 0) dX_isLive_26 (by decide) ?_
    exact zx_zret hE rfl (by first | decide | exact bI_nar _) dX_isLive_27 rfl (Nat.le_of_ble_eq_true rfl) ⟨rfl, rfl, rfl⟩
  · exact absurd hv h1

set_option maxHeartbeats 4000000 in
set_option maxRecDepth 100000 in
theorem kX_standsN (G : zG) (d : Nat) (hd : 1 ≤ d) {n : Nat} {sh : zSh} {row : zRw} {x : Nat} {D : List Nat} {pf : PF} {sf : SF} {hf : HF} {c : CT} {qr : Nat} (hX : XA sh row x D pf sf hf c qr) {v : Int32} (hv : v < 0) : zM G (fX_stands d) [.ref x, .int v] n sh row (zP sh row (.int (bI false))) := by
  refine zM.of (by show plainName "PostIndex" = true; decide +kernel) (Nat.le_of_ble_eq_true rfl) (by intro v hv; simp at hv; rcases hv with rfl | rfl <;> rfl) ?_
  intro K hE
  show zX G K (fX_stands d) n 0 0 sh row 0 [.ref x, .int v] []
  have hD : d - 1 + 1 ≤ d := by omega
  obtain ⟨hO, hD0, htk, hPs, hSg, hSe, hRd, hDj⟩ := id hX
  obtain ⟨ho, h_0, h_1, h_2, h_3, h_4, h_5, h_6, h_7, h_8, h_9, h_10, h_11⟩ := id hO
  refine zx_iload_n dX_stands_0 rfl ?_
  refine zx_if_lt (tgt := 38) dX_stands_1 rfl (fun h1 => ?_) (fun h1 => ?_)
  · refine zx_iconst (v := nI 0) dX_stands_38 (by decide) ?_
    exact zx_zret hE rfl (by first | decide | exact bI_nar _) dX_stands_39 rfl (Nat.le_of_ble_eq_true rfl) ⟨rfl, rfl, rfl⟩
  · exact absurd hv h1

set_option maxHeartbeats 4000000 in
set_option maxRecDepth 100000 in
theorem kX_isOpenN (G : zG) (d : Nat) (hd : 0 ≤ d) {n : Nat} {sh : zSh} {row : zRw} {x : Nat} {D : List Nat} {pf : PF} {sf : SF} {hf : HF} {c : CT} {qr : Nat} (hX : XA sh row x D pf sf hf c qr) {v : Int32} (hv : v < 0) : zM G (fX_isOpen d) [.ref x, .int v] n sh row (zP sh row (.int (bI false))) := by
  refine zM.of (by show plainName "PostIndex" = true; decide +kernel) (Nat.le_of_ble_eq_true rfl) (by intro v hv; simp at hv; rcases hv with rfl | rfl <;> rfl) ?_
  intro K hE
  show zX G K (fX_isOpen d) n 0 0 sh row 0 [.ref x, .int v] []
  obtain ⟨hO, hD0, htk, hPs, hSg, hSe, hRd, hDj⟩ := id hX
  obtain ⟨ho, h_0, h_1, h_2, h_3, h_4, h_5, h_6, h_7, h_8, h_9, h_10, h_11⟩ := id hO
  refine zx_iload_n dX_isOpen_0 rfl ?_
  refine zx_if_lt (tgt := 25) dX_isOpen_1 rfl (fun h1 => ?_) (fun h1 => ?_)
  · refine zx_iconst (v := nI 0) dX_isOpen_25 (by decide) ?_
    exact zx_zret hE rfl (by first | decide | exact bI_nar _) dX_isOpen_26 rfl (Nat.le_of_ble_eq_true rfl) ⟨rfl, rfl, rfl⟩
  · exact absurd hv h1

set_option maxHeartbeats 4000000 in
set_option maxRecDepth 100000 in
theorem kX_stands (G : zG) (d : Nat) (hd : 1 ≤ d) {n : Nat} {sh : zSh} {row : zRw} {x : Nat} {D : List Nat} {pf : PF} {sf : SF} {hf : HF} {c : CT} {qr : Nat} (hX : XA sh row x D pf sf hf c qr) {j : Nat} (hj : j < 2147483648) (hsb : c.2.2.1 ≤ 6) (hpb : c.2.1 ≤ 24) : zM G (fX_stands d) [.ref x, .int (nI j)] n sh row (zP sh row (.int (bI (standB pf c j)))) := by
  refine zM.of (by show plainName "PostIndex" = true; decide +kernel) (Nat.le_of_ble_eq_true rfl) (by intro v hv; simp at hv; rcases hv with rfl | rfl <;> rfl) ?_
  intro K hE
  show zX G K (fX_stands d) n 0 0 sh row 0 [.ref x, .int (nI j)] []
  have hD : d - 1 + 1 ≤ d := by omega
  obtain ⟨hO, hD0, htk, hPs, hSg, hSe, hRd, hDj⟩ := id hX
  obtain ⟨ho, h_0, h_1, h_2, h_3, h_4, h_5, h_6, h_7, h_8, h_9, h_10, h_11⟩ := id hO
  refine zx_iload_n dX_stands_0 rfl ?_
  refine zn_if_lt (tgt := 38) dX_stands_1 rfl (by omega) ?_
  refine zx_iload_n dX_stands_4 rfl ?_
  refine zx_aload_n dX_stands_5 rfl ?_
  refine zx_get dX_stands_6 flX_72 (by assumption) (by assumption) ?_
  refine zn_icmp_ge (tgt := 38) dX_stands_9 rfl (by omega) (by omega) (fun h9 => ?_) (fun h9 => ?_)
  · refine zx_iconst (v := nI 0) dX_stands_38 (by decide) ?_
    exact zx_zret hE rfl (by first | decide | exact bI_nar _) dX_stands_39 rfl (Nat.le_of_ble_eq_true rfl) ⟨by unfold standB; first | (rw [decide_eq_false (by omega)]; rfl) | (rw [decide_eq_true (by omega), h19]; rfl) | (rw [decide_eq_true (by omega), h19, h31]; rfl), rfl, rfl⟩
  · refine zx_aload_n dX_stands_12 rfl ?_
    refine zx_iload_n dX_stands_13 rfl ?_
    refine zx_iconst (v := nI 4) dX_stands_14 (by decide) ?_
    refine zn_idiv dX_stands_15 (by omega) (by omega) (by omega) ?_
    refine zc_V (kX_isLive G (d - 1) (by omega) hX (g := j / 4) (by omega) hsb) (meX_isLive _) lkX_132 ho rfl rfl hD (Nat.le_of_ble_eq_true rfl) rfl rfl (Nat.le_of_ble_eq_true rfl) (Nat.le_of_ble_eq_true rfl) (Nat.le_of_ble_eq_true rfl) dX_stands_16 ?_
    refine zb_if_eq (tgt := 38) dX_stands_19 rfl (fun h19 => ?_) (fun h19 => ?_)
    · refine zx_iconst (v := nI 0) dX_stands_38 (by decide) ?_
      exact zx_zret hE rfl (by first | decide | exact bI_nar _) dX_stands_39 rfl (Nat.le_of_ble_eq_true rfl) ⟨by unfold standB; first | (rw [decide_eq_false (by omega)]; rfl) | (rw [decide_eq_true (by omega), h19]; rfl) | (rw [decide_eq_true (by omega), h19, h31]; rfl), rfl, rfl⟩
    · refine zx_aload_n dX_stands_22 rfl ?_
      refine zx_get dX_stands_23 flX_28 (by assumption) (by assumption) ?_
      refine zx_iload_n dX_stands_26 rfl ?_
      obtain ⟨q1, q2⟩ := hPs.2 j (by omega)
      obtain ⟨u0, u1, u2, u3, u4, u5⟩ := q2
      refine zn_aald dX_stands_27 hPs.1 rfl (by omega) (by decide) q1 ?_
      refine zx_getN dX_stands_28 flX_87 (by assumption) (by assumption) ?_
      refine zb_if_ne (tgt := 38) dX_stands_31 rfl (fun h31 => ?_) (fun h31 => ?_)
      · refine zx_iconst (v := nI 0) dX_stands_38 (by decide) ?_
        exact zx_zret hE rfl (by first | decide | exact bI_nar _) dX_stands_39 rfl (Nat.le_of_ble_eq_true rfl) ⟨by unfold standB; first | (rw [decide_eq_false (by omega)]; rfl) | (rw [decide_eq_true (by omega), h19]; rfl) | (rw [decide_eq_true (by omega), h19, h31]; rfl), rfl, rfl⟩
      · refine zx_iconst (v := nI 1) dX_stands_34 (by decide) ?_
        refine zx_goto (tgt := 39) dX_stands_35 rfl ?_
        exact zx_zret hE rfl (by first | decide | exact bI_nar _) dX_stands_39 rfl (Nat.le_of_ble_eq_true rfl) ⟨by unfold standB; first | (rw [decide_eq_false (by omega)]; rfl) | (rw [decide_eq_true (by omega), h19]; rfl) | (rw [decide_eq_true (by omega), h19, h31]; rfl), rfl, rfl⟩

set_option maxHeartbeats 4000000 in
set_option maxRecDepth 100000 in
theorem kX_isOpen (G : zG) (d : Nat) (hd : 0 ≤ d) {n : Nat} {sh : zSh} {row : zRw} {x : Nat} {D : List Nat} {pf : PF} {sf : SF} {hf : HF} {c : CT} {qr : Nat} (hX : XA sh row x D pf sf hf c qr) {j : Nat} (hj : j < 2147483648) : zM G (fX_isOpen d) [.ref x, .int (nI j)] n sh row (zP sh row (.int (bI (opB hf j)))) := by
  refine zM.of (by show plainName "PostIndex" = true; decide +kernel) (Nat.le_of_ble_eq_true rfl) (by intro v hv; simp at hv; rcases hv with rfl | rfl <;> rfl) ?_
  intro K hE
  show zX G K (fX_isOpen d) n 0 0 sh row 0 [.ref x, .int (nI j)] []
  obtain ⟨hO, hD0, htk, hPs, hSg, hSe, hRd, hDj⟩ := id hX
  obtain ⟨ho, h_0, h_1, h_2, h_3, h_4, h_5, h_6, h_7, h_8, h_9, h_10, h_11⟩ := id hO
  refine zx_iload_n dX_isOpen_0 rfl ?_
  refine zn_if_lt (tgt := 25) dX_isOpen_1 rfl (by omega) ?_
  refine zx_iload_n dX_isOpen_4 rfl ?_
  refine zx_iconst (v := nI 3) dX_isOpen_5 (by decide) ?_
  refine zn_icmp_ge (tgt := 25) dX_isOpen_6 rfl (by omega) (by omega) (fun h6 => ?_) (fun h6 => ?_)
  · refine zx_iconst (v := nI 0) dX_isOpen_25 (by decide) ?_
    exact zx_zret hE rfl (by first | decide | exact bI_nar _) dX_isOpen_26 rfl (Nat.le_of_ble_eq_true rfl) ⟨by unfold opB; first | (rw [decide_eq_false (by omega)]; rfl) | (rw [decide_eq_true (by omega), h18]; rfl), rfl, rfl⟩
  · refine zx_aload_n dX_isOpen_9 rfl ?_
    refine zx_get dX_isOpen_10 flX_42 (by assumption) (by assumption) ?_
    refine zx_iload_n dX_isOpen_13 rfl ?_
    obtain ⟨q1, q2, q3, q4, q5, q6, q7⟩ := hSe.2 j (by omega)
    refine zn_aald dX_isOpen_14 hSe.1 rfl (by omega) (by decide) q1 ?_
    refine zx_getN dX_isOpen_15 flX_119 (by assumption) (by assumption) ?_
    refine zb_if_eq (tgt := 25) dX_isOpen_18 rfl (fun h18 => ?_) (fun h18 => ?_)
    · refine zx_iconst (v := nI 0) dX_isOpen_25 (by decide) ?_
      exact zx_zret hE rfl (by first | decide | exact bI_nar _) dX_isOpen_26 rfl (Nat.le_of_ble_eq_true rfl) ⟨by unfold opB; first | (rw [decide_eq_false (by omega)]; rfl) | (rw [decide_eq_true (by omega), h18]; rfl), rfl, rfl⟩
    · refine zx_iconst (v := nI 1) dX_isOpen_21 (by decide) ?_
      refine zx_goto (tgt := 26) dX_isOpen_22 rfl ?_
      exact zx_zret hE rfl (by first | decide | exact bI_nar _) dX_isOpen_26 rfl (Nat.le_of_ble_eq_true rfl) ⟨by unfold opB; first | (rw [decide_eq_false (by omega)]; rfl) | (rw [decide_eq_true (by omega), h18]; rfl), rfl, rfl⟩

set_option maxHeartbeats 4000000 in
set_option maxRecDepth 100000 in
theorem kX_length (G : zG) (d : Nat) (hd : 0 ≤ d) {n : Nat} {sh : zSh} {row : zRw} {x : Nat} {D : List Nat} {pf : PF} {sf : SF} {hf : HF} {c : CT} {qr : Nat} (hX : XA sh row x D pf sf hf c qr) : zM G (fX_length d) [.ref x] n sh row (zP sh row (.int (nI D.length))) := by
  refine zM.of (by show plainName "PostIndex" = true; decide +kernel) (Nat.le_of_ble_eq_true rfl) (by intro v hv; simp at hv; rcases hv with rfl <;> rfl) ?_
  intro K hE
  show zX G K (fX_length d) n 0 0 sh row 0 [.ref x] []
  obtain ⟨hO, hD0, htk, hPs, hSg, hSe, hRd, hDj⟩ := id hX
  obtain ⟨ho, h_0, h_1, h_2, h_3, h_4, h_5, h_6, h_7, h_8, h_9, h_10, h_11⟩ := id hO
  refine zx_aload_n dX_length_0 rfl ?_
  refine zx_get dX_length_1 flX_12 (by assumption) (by assumption) ?_
  refine zx_getN dX_length_4 flX_65 hD0.1 hD0.2.2.2.1 ?_
  exact zx_iret hE rfl dX_length_7 rfl (Nat.le_of_ble_eq_true rfl) ⟨rfl, rfl, rfl⟩

set_option maxHeartbeats 4000000 in
set_option maxRecDepth 100000 in
theorem kX_published (G : zG) (d : Nat) (hd : 0 ≤ d) {n : Nat} {sh : zSh} {row : zRw} {x : Nat} {D : List Nat} {pf : PF} {sf : SF} {hf : HF} {c : CT} {qr : Nat} (hX : XA sh row x D pf sf hf c qr) : zM G (fX_published d) [.ref x] n sh row (zP sh row (.int (nI c.2.1))) := by
  refine zM.of (by show plainName "PostIndex" = true; decide +kernel) (Nat.le_of_ble_eq_true rfl) (by intro v hv; simp at hv; rcases hv with rfl <;> rfl) ?_
  intro K hE
  show zX G K (fX_published d) n 0 0 sh row 0 [.ref x] []
  obtain ⟨hO, hD0, htk, hPs, hSg, hSe, hRd, hDj⟩ := id hX
  obtain ⟨ho, h_0, h_1, h_2, h_3, h_4, h_5, h_6, h_7, h_8, h_9, h_10, h_11⟩ := id hO
  refine zx_aload_n dX_published_0 rfl ?_
  refine zx_get dX_published_1 flX_72 (by assumption) (by assumption) ?_
  exact zx_iret hE rfl dX_published_4 rfl (Nat.le_of_ble_eq_true rfl) ⟨rfl, rfl, rfl⟩

set_option maxHeartbeats 4000000 in
set_option maxRecDepth 100000 in
theorem kX_clear (G : zG) (d : Nat) (hd : 1 ≤ d) {n : Nat} {sh : zSh} {row : zRw} {x : Nat} {D : List Nat} {pf : PF} {sf : SF} {hf : HF} {c : CT} {qr : Nat} (hX : XA sh row x D pf sf hf c qr) : zM G (fX_clear d) [.ref x] n sh row (zpV sh (fun row' => frI x (x + 795) row row' ∧ XA sh row' x [] pf sf hf c qr)) := by
  refine zM.of (by show plainName "PostIndex" = true; decide +kernel) (Nat.le_of_ble_eq_true rfl) (by intro v hv; simp at hv; rcases hv with rfl <;> rfl) ?_
  intro K hE
  show zX G K (fX_clear d) n 0 0 sh row 0 [.ref x] []
  have hD : d - 1 + 1 ≤ d := by omega
  obtain ⟨hO, hD0, htk, hPs, hSg, hSe, hRd, hDj⟩ := id hX
  obtain ⟨ho, h_0, h_1, h_2, h_3, h_4, h_5, h_6, h_7, h_8, h_9, h_10, h_11⟩ := id hO
  refine zx_aload_n dX_clear_0 rfl ?_
  refine zx_get dX_clear_1 flX_12 (by assumption) (by assumption) ?_
  refine zc_Vv (kT_makeEmpty G (d - 1) (by omega) hD0.1) (meT_makeEmpty _) lkX_62 hD0.1 rfl rfl hD (Nat.le_of_ble_eq_true rfl) rfl rfl (Nat.le_of_ble_eq_true rfl) (Nat.le_of_ble_eq_true rfl) (Nat.le_of_ble_eq_true rfl) dX_clear_4 (fun r1 hr1 => ?_)
  exact zx_vret hE rfl dX_clear_7 rfl (Nat.le_of_ble_eq_true rfl) ⟨rfl, rfl, by rw [hr1]; exact frI_up (by omega) (by omega), hX.draft (by rw [hr1]; exact fr2_up) (by rw [hr1]; exact hD0.empty)⟩

set_option maxHeartbeats 4000000 in
set_option maxRecDepth 100000 in
theorem kX_type (G : zG) (d : Nat) (hd : 1 ≤ d) {n : Nat} {sh : zSh} {row : zRw} {x : Nat} {D : List Nat} {pf : PF} {sf : SF} {hf : HF} {c : CT} {qr : Nat} (hX : XA sh row x D pf sf hf c qr) {k : Nat} (hk : k < 65536) : zM G (fX_type d) [.ref x, .int (nI k)] n sh row (zpR sh (fun v row' => v = .int (bI (decide (32 ≤ k ∧ k ≤ 126 ∧ D.length < 24))) ∧ frI x (x + 795) row row' ∧ XA sh row' x (if 32 ≤ k ∧ k ≤ 126 ∧ D.length < 24 then D ++ [k] else D) pf sf hf c qr)) := by
  refine zM.of (by show plainName "PostIndex" = true; decide +kernel) (Nat.le_of_ble_eq_true rfl) (by intro v hv; simp at hv; rcases hv with rfl | rfl <;> rfl) ?_
  intro K hE
  show zX G K (fX_type d) n 0 0 sh row 0 [.ref x, .int (nI k)] []
  have hD : d - 1 + 1 ≤ d := by omega
  obtain ⟨hO, hD0, htk, hPs, hSg, hSe, hRd, hDj⟩ := id hX
  obtain ⟨ho, h_0, h_1, h_2, h_3, h_4, h_5, h_6, h_7, h_8, h_9, h_10, h_11⟩ := id hO
  refine zx_iload_n dX_type_0 rfl ?_
  refine zx_bipush (v := nI 32) dX_type_1 (by decide) ?_
  refine zn_icmp_lt (tgt := 27) dX_type_3 rfl (by omega) (by omega) (fun h3 => ?_) (fun h3 => ?_)
  · refine zx_iconst (v := nI 0) dX_type_27 (by decide) ?_
    exact zx_zret hE rfl (by first | decide | exact bI_nar _) dX_type_28 rfl (Nat.le_of_ble_eq_true rfl) (by
      first
      | (have hl := of_decide_eq_true h20
         rw [if_pos hl] at h8
         refine ⟨_, rfl, rfl, by rw [decide_eq_true (by omega)]; rfl, (fr2.I h7).wide (by omega) (by omega), ?_⟩
         rw [if_pos (by omega)]
         exact hX.draft h7 h8)
      | (have hl := of_decide_eq_false h20
         rw [if_neg hl] at h8
         refine ⟨_, rfl, rfl, by rw [decide_eq_false (by omega)]; rfl, (fr2.I h7).wide (by omega) (by omega), ?_⟩
         rw [if_neg (by omega)]
         exact hX.draft h7 h8)
      | (refine ⟨_, rfl, rfl, by rw [decide_eq_false (by omega)]; rfl, frI.rf, ?_⟩
         rw [if_neg (by omega)]
         exact hX))
  · refine zx_iload_n dX_type_6 rfl ?_
    refine zx_bipush (v := nI 126) dX_type_7 (by decide) ?_
    refine zn_icmp_gt (tgt := 27) dX_type_9 rfl (by omega) (by omega) (fun h9 => ?_) (fun h9 => ?_)
    · refine zx_iconst (v := nI 0) dX_type_27 (by decide) ?_
      exact zx_zret hE rfl (by first | decide | exact bI_nar _) dX_type_28 rfl (Nat.le_of_ble_eq_true rfl) (by
      first
      | (have hl := of_decide_eq_true h20
         rw [if_pos hl] at h8
         refine ⟨_, rfl, rfl, by rw [decide_eq_true (by omega)]; rfl, (fr2.I h7).wide (by omega) (by omega), ?_⟩
         rw [if_pos (by omega)]
         exact hX.draft h7 h8)
      | (have hl := of_decide_eq_false h20
         rw [if_neg hl] at h8
         refine ⟨_, rfl, rfl, by rw [decide_eq_false (by omega)]; rfl, (fr2.I h7).wide (by omega) (by omega), ?_⟩
         rw [if_neg (by omega)]
         exact hX.draft h7 h8)
      | (refine ⟨_, rfl, rfl, by rw [decide_eq_false (by omega)]; rfl, frI.rf, ?_⟩
         rw [if_neg (by omega)]
         exact hX))
    · refine zx_aload_n dX_type_12 rfl ?_
      refine zx_get dX_type_13 flX_12 (by assumption) (by assumption) ?_
      refine zx_iload_n dX_type_16 rfl ?_
      refine zc_Vr (kT_append G (d - 1) (by omega) hD0 (c := k) (by omega)) (meT_append _) lkX_47 hD0.1 rfl rfl hD (Nat.le_of_ble_eq_true rfl) rfl rfl (Nat.le_of_ble_eq_true rfl) (Nat.le_of_ble_eq_true rfl) (Nat.le_of_ble_eq_true rfl) dX_type_17 (fun v r1 h6 => ?_)
      obtain ⟨rfl, h7, h8⟩ := h6
      refine zb_if_eq (tgt := 27) dX_type_20 rfl (fun h20 => ?_) (fun h20 => ?_)
      · refine zx_iconst (v := nI 0) dX_type_27 (by decide) ?_
        exact zx_zret hE rfl (by first | decide | exact bI_nar _) dX_type_28 rfl (Nat.le_of_ble_eq_true rfl) (by
      first
      | (have hl := of_decide_eq_true h20
         rw [if_pos hl] at h8
         refine ⟨_, rfl, rfl, by rw [decide_eq_true (by omega)]; rfl, (fr2.I h7).wide (by omega) (by omega), ?_⟩
         rw [if_pos (by omega)]
         exact hX.draft h7 h8)
      | (have hl := of_decide_eq_false h20
         rw [if_neg hl] at h8
         refine ⟨_, rfl, rfl, by rw [decide_eq_false (by omega)]; rfl, (fr2.I h7).wide (by omega) (by omega), ?_⟩
         rw [if_neg (by omega)]
         exact hX.draft h7 h8)
      | (refine ⟨_, rfl, rfl, by rw [decide_eq_false (by omega)]; rfl, frI.rf, ?_⟩
         rw [if_neg (by omega)]
         exact hX))
      · refine zx_iconst (v := nI 1) dX_type_23 (by decide) ?_
        refine zx_goto (tgt := 28) dX_type_24 rfl ?_
        exact zx_zret hE rfl (by first | decide | exact bI_nar _) dX_type_28 rfl (Nat.le_of_ble_eq_true rfl) (by
      first
      | (have hl := of_decide_eq_true h20
         rw [if_pos hl] at h8
         refine ⟨_, rfl, rfl, by rw [decide_eq_true (by omega)]; rfl, (fr2.I h7).wide (by omega) (by omega), ?_⟩
         rw [if_pos (by omega)]
         exact hX.draft h7 h8)
      | (have hl := of_decide_eq_false h20
         rw [if_neg hl] at h8
         refine ⟨_, rfl, rfl, by rw [decide_eq_false (by omega)]; rfl, (fr2.I h7).wide (by omega) (by omega), ?_⟩
         rw [if_neg (by omega)]
         exact hX.draft h7 h8)
      | (refine ⟨_, rfl, rfl, by rw [decide_eq_false (by omega)]; rfl, frI.rf, ?_⟩
         rw [if_neg (by omega)]
         exact hX))

