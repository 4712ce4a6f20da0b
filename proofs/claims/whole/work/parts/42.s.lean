theorem exB_congr {f g : Nat → Bool} {n : Nat} (h : ∀ i, i < n → f i = g i) : exB f n = exB g n := by
  induction n with
  | zero => rfl
  | succ n ih => rw [exB, exB, ih (fun i hi => h i (by omega)), h n (by omega)]
theorem alB_congr {f g : Nat → Bool} {n : Nat} (h : ∀ i, i < n → f i = g i) : alB f n = alB g n := by
  induction n with
  | zero => rfl
  | succ n ih => rw [alB, alB, ih (fun i hi => h i (by omega)), h n (by omega)]
/-- a text that can be typed -/
def txO (xs : List Nat) : Prop := xs.length ≤ 24 ∧ ∀ c ∈ xs, 32 ≤ c ∧ c ≤ 126
theorem at0_mem {xs : List Nat} {k : Nat} (h : k < xs.length) : at0 xs k ∈ xs := by
  unfold at0
  rw [List.getD_eq_getElem?_getD, List.getElem?_eq_getElem h]
  exact List.getElem_mem h
theorem txO.lo {xs : List Nat} (h : txO xs) : ∀ k, k < xs.length → 32 ≤ at0 xs k := fun _ hk => (h.2 _ (at0_mem hk)).1
theorem txO.hi {xs : List Nat} (h : txO xs) (k : Nat) : at0 xs k < 127 := by
  by_cases hk : k < xs.length
  · have := (h.2 _ (at0_mem hk)).2; omega
  · rw [at0_big (by omega)]; omega
theorem txO_nil : txO [] := ⟨Nat.zero_le _, fun _ h => by cases h⟩
theorem read_w {xs : List Nat} (ho : txO xs) (h : (pRead xs).1 = true) : (pRead xs).2.2.2.length ≤ 12 := by
  obtain ⟨k1, k2⟩ := pAny_sp (rowV := fun _ => false) (filV := fun _ _ => false) ho.1 ho.lo 6 0 rfl (0, [], []) ⟨Nat.zero_le _, Or.inl (Nat.le_refl 0), Nat.le_refl 0⟩
  unfold pRead at h ⊢
  rw [Bool.and_eq_true] at h
  obtain ⟨⟨c, n1, w1, o, al, hc, ok1, _, _⟩, _⟩ := k1 h.1
  have h1 := ok1.2.2.1
  have h2 := ok1.2.1.2
  have h3 := ho.1
  unfold wIn at h1
  show (pAny xs 6 (0, [], [])).2.2.2.length ≤ 12
  omega
section HT
variable {B : mB} {P : mP} {T : mT} {tx : Nat → List Nat}
theorem agr_hit (h : txS P T tx) {ix : Nat → Nat} {p : Nat} (hp : p < 24) (hix : ix p = T.1 p) {Q : List Nat} {wds : List (List Nat)} (hw : wds.length ≤ 12) : agr (rowM P T p Q) (filM P p Q) Q (envI (P.1 p) (P.2.1 p) wds (tsR (strG (wW tx) ix (p / 4) 4)) (p % 4)) wds := by
  refine ⟨fun L f hne hq hle he => ?_, fun f t e hc h1 h2 h3 => ?_⟩
  · have hL : 1 ≤ L.length := by cases L with
      | nil => exact absurd rfl hne
      | cons _ _ => simp
    unfold envI
    show (if (0 : Nat) = 1 then _ else if (0 : Nat) = 2 then _ else if (0 : Nat) = 3 then _ else rowI wds _ (p % 4) (nI f).toNatClampNeg (f + L.length)) = _
    rw [if_neg (by decide), if_neg (by decide), if_neg (by decide), nI_cl (by omega)]
    unfold rowI
    rw [Nat.add_sub_cancel_left, rowI_eq (U := fun j => wds.getD (f + j) []) (by omega) hL (by omega)]
    unfold rowM
    apply exB_congr
    intro p0 hp0
    apply alB_congr
    intro k hk
    show bt (lkp _ (wds.getD (f + k) [])) _ = _
    rw [seg_bit (by omega) (by omega), show 4 * (p / 4) + p % 4 = p by omega, hix, std_pl h hp (by omega)]
    have hg : L[k]? = some L[k] := List.getElem?_eq_getElem hk
    have e1 : L.getD k (0, 0) = L[k] := by rw [List.getD_eq_getElem?_getD, hg]; rfl
    rw [e1, qW_wrd (hq _ (List.getElem_mem hk)).2]
    congr 1
    have e2 : ((wds.drop f).take L.length)[k]? = (L.map (wrdQ Q))[k]? := by rw [he]
    rw [List.getElem?_take_of_lt hk, List.getElem?_drop, List.getElem?_map, hg] at e2
    rw [List.getD_eq_getElem?_getD, e2]
    rfl
  · unfold envI filM kdF
    by_cases c1 : at0 Q f = 61
    · rw [if_pos c1, if_pos c1]; rfl
    · rw [if_neg c1, if_neg c1]
      by_cases c2 : at0 Q f = 60
      · rw [if_pos c2, if_pos c2]; rfl
      · rw [if_neg c2, if_neg c2]; rfl
/-- a post is a hit on both sides, or on neither -/
theorem qv_eq (h : txS P T tx) {ix : Nat → Nat} {p : Nat} (hp : p < 24) (hix : ix p = T.1 p) {Q : List Nat} (ho : txO Q) (hr : (pRead Q).1 = true) {pf : PF} {sf : SF} (h1 : P.1 p = (pf p).1) (h2 : P.2.1 p = (pf p).2.1) (hs : (sf (p / 4)).1 = tsR (strG (wW tx) ix (p / 4) 4)) : qv pf sf (pRead Q).2.2.1 (pRead Q).2.2.2 p = decide (jdg P T Q p = nI 1) := by
  obtain ⟨v0, q1, q2⟩ := ((read_sp (rowV := rowM P T p Q) (filV := filM P p Q) ho.1 ho.lo).1 hr).2
  have e := q2 _ (agr_hit h hp hix (read_w ho hr))
  unfold qv jdg
  rw [hs, ← h1, ← h2, e, q1]
  cases v0 <;> decide
end HT
/-- the segments begun -/
def sbN (pb dn : Nat) : Nat := if 0 < dn then pb / 4 + 1 else (pb + 3) / 4
/-- both sides in step -/
def rel (D : List Nat) (pf : PF) (sf : SF) (hf : HF) (c : CT) (A : Nat × (Nat → Nat)) (B : mB) (P : mP) (T : mT) (S : mS) (H : mH) : Prop :=
  (dA A D ∧ txO D) ∧
  (B.1 = c.1 ∧ B.2.1 = c.2.1 ∧ B.2.2.1 = c.2.2.2.2.2 ∧ B.2.2.2 = c.2.2.2.1) ∧
  (c.2.1 ≤ c.1 ∧ c.1 ≤ 24 ∧ c.2.2.2.1 ≤ 24 ∧ c.2.2.1 = sbN c.2.1 c.2.2.2.2.2) ∧
  MOk P T ∧
  (∀ i, i < 24 → P.1 i = (pf i).1 ∧ P.2.1 i = (pf i).2.1 ∧ P.2.2.1 i = (pf i).2.2.2 ∧ txO (pf i).2.2.1) ∧
  txS P T (fun i => (pf i).2.2.1) ∧
  ((c.2.1 < c.1 → wAt (pf c.2.1).2.2.1 c.2.2.2.2.1 c.2.2.2.2.2) ∧ (¬ c.2.1 < c.1 → c.2.2.2.2.1 = 0 ∧ c.2.2.2.2.2 = 0)) ∧
  (∀ g, g < 6 → (sf g).2 = (S.1 g, S.2 g) ∧ S.1 g ≤ 48 ∧ (sf g).1 = tsR (strG (wW (fun i => (pf i).2.2.1)) (idxN B T.1) g 4)) ∧
  (∀ j, j < 3 → (hf j).1 = H.1 j ∧ ((hf j).1 = true → (hf j).2.1 = H.2.1 j ∧ (hf j).2.1 ≤ 24 ∧ ∃ Q, qyA H j Q ∧ txO Q ∧ (pRead Q).1 = true ∧ (hf j).2.2.2 = (pRead Q).2.2))
section RL
variable {D : List Nat} {pf : PF} {sf : SF} {hf : HF} {c : CT} {A : Nat × (Nat → Nat)} {B : mB} {P : mP} {T : mT} {S : mS} {H : mH}
theorem rel.dn (h : rel D pf sf hf c A B P T S H) : (B.2.1 < B.1 → B.2.2.1 ≤ T.1 B.2.1) ∧ B.2.2.1 ≤ 12 ∧ (¬ B.2.1 < B.1 → B.2.2.1 = 0) := by
  obtain ⟨_, ⟨b1, b2, b3, b4⟩, ⟨c1, c2, c3, c4⟩, hO, hP, hS, ⟨hw, hw0⟩, _, _⟩ := h
  have k1 : B.2.1 < B.1 → B.2.2.1 ≤ T.1 B.2.1 := fun g => by
    have := (hw (by omega)).2.2.1
    have e := (hS c.2.1 (by omega)).2.1
    rw [b3, b2, e]; exact this
  have k3 : ¬ B.2.1 < B.1 → B.2.2.1 = 0 := fun g => by rw [b3]; exact (hw0 (by omega)).2
  refine ⟨k1, ?_, k3⟩
  by_cases g : B.2.1 < B.1
  · have := k1 g
    have := (hO.2.2 B.2.1 (by omega)).2
    omega
  · rw [k3 g]; omega
theorem rel.sb (h : rel D pf sf hf c A B P T S H) : c.2.2.1 ≤ 6 ∧ ∀ g, begB B g = decide (g < c.2.2.1) := by
  have h3 := h.dn.2.2
  obtain ⟨_, ⟨b1, b2, b3, b4⟩, ⟨c1, c2, c3, c4⟩, _⟩ := h
  rw [c4]
  unfold sbN begB
  rw [b2, b3] at *
  refine ⟨by split <;> omega, fun g => ?_⟩
  apply decide_eq_decide.mpr
  split <;> omega
theorem rel.live (h : rel D pf sf hf c A B P T S H) (g : Nat) : livM B g = liveB c.2.2.1 g := by
  have h2 := h.sb.2
  unfold livM liveB
  rw [h2, h2]
  apply bool_eq
  simp only [Bool.and_eq_true, Bool.not_eq_true', decide_eq_true_iff, decide_eq_false_iff_not]
  omega
theorem rel.lives (h : rel D pf sf hf c A B P T S H) (g : Nat) : (decide (g ≤ 5) && livM B g) = liveB c.2.2.1 g := by
  rw [h.live]
  have h2 := h.sb.1
  unfold liveB
  apply bool_eq
  simp only [Bool.and_eq_true, decide_eq_true_iff]
  omega
theorem rel.sho (h : rel D pf sf hf c A B P T S H) (j : Nat) : shoB B P.2.2.1 j = standB pf c j := by
  have hl := h.live (j / 4)
  obtain ⟨_, ⟨b1, b2, b3, b4⟩, ⟨c1, c2, c3, c4⟩, _, hP, _⟩ := h
  unfold shoB standB
  rw [hl, b2]
  by_cases hj : j < c.2.1
  · rw [(hP j (by omega)).2.2.1]
  · rw [decide_eq_false hj, Bool.false_and, Bool.false_and]
theorem rel.form (h : rel D pf sf hf c A B P T S H) (j : Nat) : formM B S j = formN sf c j := by
  have hl := h.live j
  have hb := h.sb
  obtain ⟨_, ⟨b1, b2, b3, b4⟩, ⟨c1, c2, c3, c4⟩, _, hP, _, _, hg, _⟩ := h
  unfold formM formN
  rw [hl, hb.2, b2]
  by_cases hj : c.2.2.1 ≤ j
  · rw [if_pos hj, if_pos (Or.inr (decide_eq_false (by omega)))]
  · rw [if_neg hj, if_neg (by
      rintro (g | g)
      · omega
      · exact hj (by have := of_decide_eq_false g; omega))]
    have e := (hg j (by omega)).1
    rw [e]
theorem rel.opn (h : rel D pf sf hf c A B P T S H) (j : Nat) : (decide (j < 3) && H.1 j) = opB hf j := by
  obtain ⟨_, _, _, _, _, _, _, _, hH⟩ := h
  unfold opB
  by_cases hj : j < 3
  · rw [(hH j hj).1]
  · rw [decide_eq_false hj, Bool.false_and, Bool.false_and]
theorem rel.hit (h : rel D pf sf hf c A B P T S H) {j : Nat} (hj : j < 3) (ho : (hf j).1 = true) : ∃ Q, qyA H j Q ∧ txO Q ∧ H.2.1 j = (hf j).2.1 ∧ (hf j).2.1 ≤ 24 ∧ qOk (hf j).2.2.2.1 (hf j).2.2.2.2 ∧ ∀ p, hitM B P T Q p = hitB pf sf c (hf j).2.2.2.1 (hf j).2.2.2.2 p := by
  have hs := h.sho
  obtain ⟨_, ⟨b1, b2, b3, b4⟩, ⟨c1, c2, c3, c4⟩, _, hP, hS, _, hg, hH⟩ := h
  obtain ⟨g1, g2, Q, g3, g4, g5, g6⟩ := (hH j hj).2 ho
  refine ⟨Q, g3, g4, g1.symm, g2, ?_, fun p => ?_⟩
  · rw [g6]
    exact ((read_sp (rowV := fun _ => false) (filV := fun _ _ => false) g4.1 g4.lo).1 g5).1
  · unfold hitM hitB
    rw [hs p, g6]
    cases hst : standB pf c p with
    | false => rfl
    | true =>
      have hp : p < c.2.1 := by
        unfold standB at hst
        rw [Bool.and_eq_true] at hst
        exact of_decide_eq_true hst.1
      have hix : idxN B T.1 p = T.1 p := by unfold idxN; rw [if_pos (by omega)]
      rw [Bool.true_and, Bool.true_and]
      exact (qv_eq hS (show p < 24 by omega) hix g4 g5 (hP p (by omega)).1 (hP p (by omega)).2.1 (hg (p / 4) (by omega)).2.2).symm
end RL

theorem strG_congr {W W' : Nat → List (List Nat)} {ix ix' : Nat → Nat} {g : Nat} : ∀ d, (∀ v, v < d → ix' (4 * g + v) = ix (4 * g + v) ∧ (0 < ix (4 * g + v) → W' (4 * g + v) = W (4 * g + v))) → strG W' ix' g d = strG W ix g d := by
  intro d
  induction d with
  | zero => intro _; rfl
  | succ d ih =>
    intro h
    rw [strG, strG, ih (fun v hv => h v (by omega))]
    obtain ⟨h1, h2⟩ := h d (by omega)
    rw [h1]
    by_cases h0 : 0 < ix (4 * g + d)
    · rw [h2 h0]
    · rw [show ix (4 * g + d) = 0 by omega]; rfl
theorem strG_push {W : Nat → List (List Nat)} {ix ix' : Nat → Nat} {g v0 : Nat} (h0 : ix' (4 * g + v0) = ix (4 * g + v0) + 1) (h1 : ∀ v, v < v0 → ix' (4 * g + v) = ix (4 * g + v)) (h2 : ∀ v, v0 < v → v < 4 → ix' (4 * g + v) = 0 ∧ ix (4 * g + v) = 0) : ∀ d, v0 < d → d ≤ 4 → strG W ix' g d = ((W (4 * g + v0)).getD (ix (4 * g + v0)) [], 8 * v0 + min (ix (4 * g + v0)) 7) :: strG W ix g d := by
  intro d
  induction d with
  | zero => intro h; omega
  | succ d ih =>
    intro hd hd4
    rw [strG, strG]
    by_cases e : d = v0
    · subst e
      rw [h0, strG_congr d (fun v hv => ⟨h1 v hv, fun _ => rfl⟩)]
      rfl
    · obtain ⟨k1, k2⟩ := h2 d (by omega) (by omega)
      rw [k1, k2]
      exact ih (by omega) (by omega)
theorem strG_len {W : Nat → List (List Nat)} {ix : Nat → Nat} {g : Nat} (h : ∀ p, p < 24 → ix p ≤ 12) (hg : g < 6) : ∀ d, d ≤ 4 → (strG W ix g d).length ≤ 12 * d := by
  intro d
  induction d with
  | zero => intro _; exact Nat.le_refl _
  | succ d ih =>
    intro hd
    rw [strG, strP_len]
    have := ih (by omega)
    have := h (4 * g + d) (by omega)
    omega
theorem ts_len (r : List (List Nat × Nat)) : (tsR r).length ≤ r.length := by rw [tsR_len]; exact sumF_1 r
section RP
variable {D : List Nat} {pf : PF} {sf : SF} {hf : HF} {c : CT} {A : Nat × (Nat → Nat)} {B : mB} {P : mP} {T : mT} {S : mS} {H : mH}
theorem rel.draft (h : rel D pf sf hf c A B P T S H) {D' : List Nat} {A' : Nat × (Nat → Nat)} (h1 : dA A' D') (h2 : txO D') : rel D' pf sf hf c A' B P T S H := ⟨⟨h1, h2⟩, h.2⟩
theorem rel.clear (h : rel D pf sf hf c A B P T S H) : rel [] pf sf hf c (0, A.2) B P T S H := h.draft ⟨rfl, fun k hk => by cases hk⟩ txO_nil
theorem at0_app {xs ys : List Nat} {k : Nat} : at0 (xs ++ ys) k = if k < xs.length then at0 xs k else at0 ys (k - xs.length) := by
  unfold at0
  rw [List.getD_eq_getElem?_getD, List.getD_eq_getElem?_getD, List.getD_eq_getElem?_getD]
  by_cases h : k < xs.length
  · rw [if_pos h, List.getElem?_append_left h]
  · rw [if_neg h, List.getElem?_append_right (by omega)]
theorem rel.type (h : rel D pf sf hf c A B P T S H) {k : Nat} : rel (if 32 ≤ k ∧ k ≤ 126 ∧ D.length < 24 then D ++ [k] else D) pf sf hf c (if 32 ≤ k ∧ k ≤ 126 ∧ D.length < 24 then (A.1 + 1, va_up A.2 A.1 k) else A) B P T S H := by
  by_cases hk : 32 ≤ k ∧ k ≤ 126 ∧ D.length < 24
  · rw [if_pos hk, if_pos hk]
    obtain ⟨⟨h1, h2⟩, _⟩ := id h
    refine h.draft ⟨by show A.1 + 1 = _; rw [h1.1, List.length_append]; rfl, fun i hi => ?_⟩ ⟨by rw [List.length_append]; exact hk.2.2, fun c hc => ?_⟩
    · show va_up A.2 A.1 k i = _
      rw [at0_app]
      rw [List.length_append] at hi
      have hi : i < D.length + 1 := hi
      by_cases e : i = D.length
      · rw [h1.1, ← e, vup_eq, if_neg (Nat.lt_irrefl _), Nat.sub_self]; rfl
      · rw [vup_ne (by rw [h1.1]; exact e), if_pos (by omega)]
        exact h1.2 i (by omega)
    · rcases List.mem_append.mp hc with hc | hc
      · exact h2.2 c hc
      · rcases List.mem_singleton.mp hc with rfl
        exact ⟨hk.1, hk.2.1⟩
  · rw [if_neg hk, if_neg hk]; exact h
theorem txO.quote {xs ys : List Nat} (h : txO xs) (g : txO ys) : txO (xs ++ ys.take (min ys.length (24 - xs.length))) := by
  refine ⟨?_, fun c hc => ?_⟩
  · rw [List.length_append, List.length_take]
    have := h.1
    omega
  · rcases List.mem_append.mp hc with hc | hc
    · exact h.2 c hc
    · exact g.2 c (List.mem_of_mem_take hc)
theorem rel.erase (h : rel D pf sf hf c A B P T S H) {j : Nat} (hs : standB pf c j = true) : rel D (va_up pf j ((pf j).1, (pf j).2.1, (pf j).2.2.1, true)) sf hf c A B (P.1, P.2.1, va_up P.2.2.1 j true, P.2.2.2) T S H := by
  obtain ⟨h1, h2, h3, hO, hP, hS, hw, hg, hH⟩ := h
  have et : (fun i => (va_up pf j ((pf j).1, (pf j).2.1, (pf j).2.2.1, true) i).2.2.1) = fun i => (pf i).2.2.1 := by
    funext i
    by_cases e : i = j
    · subst e; rw [vup_eq]
    · rw [vup_ne e]
  refine ⟨h1, h2, h3, hO, fun i hi => ?_, ?_, ?_, ?_, hH⟩
  · show P.1 i = _ ∧ P.2.1 i = _ ∧ va_up P.2.2.1 j true i = _ ∧ _
    obtain ⟨a, b, d, e⟩ := hP i hi
    by_cases ei : i = j
    · subst ei; rw [vup_eq, vup_eq]; exact ⟨a, b, rfl, e⟩
    · rw [vup_ne ei, vup_ne ei]; exact ⟨a, b, d, e⟩
  · rw [et]; exact hS
  · have e2 := congrFun et c.2.1
    rw [show (va_up pf j ((pf j).1, (pf j).2.1, (pf j).2.2.1, true) c.2.1).2.2.1 = (pf c.2.1).2.2.1 from e2]
    exact hw
  · rw [et]; exact hg
theorem rel.post (h : rel D pf sf hf c A B P T S H) {a t : Int32} {P' : mP} {T' : mT} (hm : c.1 < 24) (hP' : newP P P' B.1 a t D) (hT' : newT T T' B.1 D) : rel [] (va_up pf c.1 (a, t, D, (pf c.1).2.2.2)) sf hf (c.1 + 1, c.2) (0, A.2) (B.1 + 1, B.2) P' T' S H := by
  have hdn := h.dn
  obtain ⟨⟨h1, h1'⟩, ⟨b1, b2, b3, b4⟩, ⟨c1, c2, c3, c4⟩, hO, hP, hS, ⟨hw, hw0⟩, hg, hH⟩ := h
  obtain ⟨p1, p2, p3, p4, p5, p6⟩ := hP'
  obtain ⟨t1, t2, t3, t4, t5⟩ := hT'
  rw [b1] at p1 p2 p4 p5 p6 t1 t2 t3
  have hD := h1'.1
  refine ⟨⟨⟨rfl, fun k hk => by cases hk⟩, txO_nil⟩, ⟨by show B.1 + 1 = c.1 + 1; omega, b2, b3, b4⟩, ⟨by show c.2.1 ≤ c.1 + 1; omega, by show c.1 + 1 ≤ 24; omega, c3, c4⟩, ⟨t4, fun k hk => ?_, fun i hi => ?_⟩, fun i hi => ?_, fun i hi => ?_, ⟨fun _ => ?_, fun g => ?_⟩, fun g hg6 => ?_, hH⟩
  · by_cases hk2 : k < 24 * c.1 ∨ 24 * c.1 + D.length ≤ k
    · rw [p6 k hk2]; exact hO.2.1 k hk
    · have := p5 (k - 24 * c.1) (by omega)
      rw [show 24 * c.1 + (k - 24 * c.1) = k by omega] at this
      rw [this]; exact h1'.hi _
  · by_cases e : i = c.1
    · subst e
      rw [p4, vup_eq]
      exact ⟨hD, by rw [t1.1]; exact t5⟩
    · rw [p4, vup_ne e, t2 i e]; exact hO.2.2 i hi
  · rw [p1, p2, p3]
    obtain ⟨a1, a2, a3, a4⟩ := hP i hi
    by_cases e : i = c.1
    · subst e; rw [vup_eq, vup_eq, vup_eq]; exact ⟨rfl, rfl, a3, h1'⟩
    · rw [vup_ne e, vup_ne e, vup_ne e]; exact ⟨a1, a2, a3, a4⟩
  · obtain ⟨s1, s2⟩ := hS i hi
    show txA P' i (va_up pf c.1 (a, t, D, (pf c.1).2.2.2) i).2.2.1 ∧ tkA T' i (cutL (va_up pf c.1 (a, t, D, (pf c.1).2.2.2) i).2.2.1 0)
    by_cases e : i = c.1
    · subst e
      rw [vup_eq]
      exact ⟨⟨by rw [p4, vup_eq], p5⟩, t1⟩
    · rw [vup_ne e]
      have hl := (hP i hi).2.2.2.1
      have ht := (hO.2.2 i hi).2
      refine ⟨⟨by rw [p4, vup_ne e]; exact s1.1, fun k hk => ?_⟩, ⟨by rw [t2 i e]; exact s2.1, fun k q hq => ?_⟩⟩
      · have hk : k < (pf i).2.2.1.length := hk
        rw [p6 _ (by omega)]; exact s1.2 k hk
      · have hk := (List.getElem?_eq_some_iff.mp hq).1
        have hk : k < T.1 i := by rw [s2.1]; exact hk
        obtain ⟨u1, u2⟩ := t3 (12 * i + k) (by omega)
        rw [u1, u2]; exact s2.2 k q hq
  · show wAt (va_up pf c.1 (a, t, D, (pf c.1).2.2.2) c.2.1).2.2.1 c.2.2.2.2.1 c.2.2.2.2.2
    by_cases e : c.2.1 = c.1
    · obtain ⟨z1, z2⟩ := hw0 (by omega)
      rw [z1, z2]; exact wAt_0
    · rw [vup_ne e]; exact hw (by omega)
  · have g : ¬ c.2.1 < c.1 + 1 := g
    omega
  · obtain ⟨s1, s2, s3⟩ := hg g hg6
    refine ⟨s1, s2, s3.trans ?_⟩
    congr 1
    symm
    apply strG_congr
    intro v hv
    have ei : idxN (B.1 + 1, B.2) T'.1 (4 * g + v) = idxN B T.1 (4 * g + v) := by
      unfold idxN
      show (if 4 * g + v < B.2.1 then T'.1 (4 * g + v) else if 4 * g + v = B.2.1 ∧ 4 * g + v < B.1 + 1 then B.2.2.1 else 0) = _
      by_cases e1 : 4 * g + v < B.2.1
      · rw [if_pos e1, if_pos e1, t2 _ (by omega)]
      · rw [if_neg e1, if_neg e1]
        by_cases e2 : 4 * g + v = B.2.1 ∧ 4 * g + v < B.1
        · rw [if_pos ⟨e2.1, by omega⟩, if_pos e2]
        · rw [if_neg e2]
          split
          · exact hdn.2.2 (by omega)
          · rfl
    refine ⟨ei, fun h0 => ?_⟩
    have hne : 4 * g + v ≠ c.1 := by
      intro e
      unfold idxN at h0
      rw [if_neg (by omega), if_neg (by omega)] at h0
      omega
    show twL (va_up pf c.1 (a, t, D, (pf c.1).2.2.2) (4 * g + v)).2.2.1 = twL (pf (4 * g + v)).2.2.1
    rw [vup_ne hne]
/-- one unit of the writer's work, on both sides -/
def rW1 (tk : Nat → Nat) (B : mB) : mB := if B.2.2.1 < tk B.2.1 then (B.1, B.2.1, B.2.2.1 + 1, B.2.2.2) else (B.1, B.2.1 + 1, 0, B.2.2.2)
theorem rel.unit (h : rel D pf sf hf c A B P T S H) (hlt : c.2.1 < c.1) : wOk pf (c, sf) ∧ rel D pf (wS pf c sf) hf (wC pf c) A (rW1 T.1 B) P T S H := by
  have hdn := h.dn
  obtain ⟨h1, ⟨b1, b2, b3, b4⟩, ⟨c1, c2, c3, c4⟩, hO, hP, hS, ⟨hw, hw0⟩, hg, hH⟩ := h
  have hwa := hw hlt
  obtain ⟨e1, e2⟩ := hwa.step
  have et := (hS c.2.1 (by omega)).2.1
  have et : T.1 c.2.1 = (cutL (pf c.2.1).2.2.1 0).length := et
  have ht12 := (hO.2.2 c.2.1 (by omega)).2
  obtain ⟨s1, s2, s3⟩ := hg (c.2.1 / 4) (by omega)
  have hix : ∀ p, p < 24 → idxN B T.1 p ≤ 12 := fun p hp => by
    have := idx_le (T := T) (p := p) hdn.1
    have := (hO.2.2 p hp).2
    omega
  have ixp : idxN B T.1 c.2.1 = c.2.2.2.2.2 := by
    unfold idxN
    rw [if_neg (by omega), if_pos (by omega), b3]
  have hlen : ¬ (pf c.2.1).2.2.1.length ≤ tokStart (pf c.2.1).2.2.1 c.2.2.2.2.1 → fT (sf (c.2.1 / 4)).1 (wTok pf c) < 48 := by
    intro hn
    have hk : c.2.2.2.2.2 < (cutL (pf c.2.1).2.2.1 0).length := by
      apply Nat.lt_of_not_le
      intro hh
      exact hn (e1.mpr hh)
    have f1 := fT_le (sf (c.2.1 / 4)).1 (wTok pf c)
    rw [s3] at f1 ⊢
    have f2 := ts_len (strG (wW (fun i => (pf i).2.2.1)) (idxN B T.1) (c.2.1 / 4) 4)
    have f3 := strG_push (W := wW (fun i => (pf i).2.2.1)) (ix := idxN B T.1) (ix' := fun p => if p = c.2.1 then idxN B T.1 p + 1 else if p < c.2.1 then idxN B T.1 p else 0) (g := c.2.1 / 4) (v0 := c.2.1 % 4) (by show (if 4 * (c.2.1 / 4) + c.2.1 % 4 = c.2.1 then _ else _) = _; rw [if_pos (by omega)]) (fun v hv => by show (if 4 * (c.2.1 / 4) + v = c.2.1 then _ else if 4 * (c.2.1 / 4) + v < c.2.1 then _ else _) = _; rw [if_neg (by omega), if_pos (by omega)]) (fun v hv hv4 => ⟨by show (if 4 * (c.2.1 / 4) + v = c.2.1 then _ else if 4 * (c.2.1 / 4) + v < c.2.1 then _ else _) = _; rw [if_neg (by omega), if_neg (by omega)], by unfold idxN; rw [if_neg (by omega), if_neg (by omega)]⟩) 4 (by omega) (Nat.le_refl _)
    have f4 := strG_len (W := wW (fun i => (pf i).2.2.1)) (ix := fun p => if p = c.2.1 then idxN B T.1 p + 1 else if p < c.2.1 then idxN B T.1 p else 0) (g := c.2.1 / 4) (fun p hp => by
      show (if p = c.2.1 then _ else if p < c.2.1 then _ else _) ≤ 12
      split
      · next hp2 => rw [hp2, ixp]; omega
      · split
        · exact hix p hp
        · omega) (by omega) 4 (Nat.le_refl _)
    rw [f3, List.length_cons] at f4
    omega
  refine ⟨⟨by show c.2.1 < 24; omega, hwa.1, by show c.2.2.2.2.2 < 100; have := hwa.2.2.1; omega, hlen⟩, ?_⟩
  by_cases hk : c.2.2.2.2.2 < (cutL (pf c.2.1).2.2.1 0).length
  · have hn : ¬ (pf c.2.1).2.2.1.length ≤ tokStart (pf c.2.1).2.2.1 c.2.2.2.2.1 := fun g => by have := e1.mp g; omega
    obtain ⟨w1, w2⟩ := e2 hk
    unfold wS wC rW1
    rw [if_neg hn, if_neg hn, if_pos (by rw [b3, b2, et]; exact hk)]
    refine ⟨h1, ⟨b1, b2, by show B.2.2.1 + 1 = c.2.2.2.2.2 + 1; omega, b4⟩, ⟨c1, c2, c3, ?_⟩, hO, hP, hS, ⟨fun _ => w1, fun g => absurd hlt g⟩, fun g hg6 => ?_, hH⟩
    · show c.2.1 / 4 + 1 = sbN c.2.1 (c.2.2.2.2.2 + 1)
      unfold sbN; rw [if_pos (by omega)]
    · have ei : ∀ p, ¬ p = c.2.1 → idxN (B.1, B.2.1, B.2.2.1 + 1, B.2.2.2) T.1 p = idxN B T.1 p := by
        intro p hp
        unfold idxN
        show (if p < B.2.1 then T.1 p else if p = B.2.1 ∧ p < B.1 then B.2.2.1 + 1 else 0) = _
        by_cases q1 : p < B.2.1
        · rw [if_pos q1, if_pos q1]
        · rw [if_neg q1, if_neg q1, if_neg (by omega), if_neg (by omega)]
      have e0 : idxN (B.1, B.2.1, B.2.2.1 + 1, B.2.2.2) T.1 c.2.1 = idxN B T.1 c.2.1 + 1 := by
        unfold idxN
        show (if c.2.1 < B.2.1 then T.1 c.2.1 else if c.2.1 = B.2.1 ∧ c.2.1 < B.1 then B.2.2.1 + 1 else 0) = _
        rw [if_neg (by omega), if_pos (by omega), if_neg (by omega), if_pos (by omega)]
      by_cases egg : g = c.2.1 / 4
      · subst egg
        rw [vup_eq]
        refine ⟨s1, s2, ?_⟩
        show addP (sf (c.2.1 / 4)).1 (wTok pf c) (8 * (c.2.1 % 4) + min c.2.2.2.2.2 7) = _
        have hp4 : 4 * (c.2.1 / 4) + c.2.1 % 4 = c.2.1 := by omega
        rw [strG_push (ix := idxN B T.1) (v0 := c.2.1 % 4) (by rw [hp4]; exact e0) (fun v hv => ei _ (by omega)) (fun v hv hv4 => ⟨by rw [ei _ (by omega)]; unfold idxN; rw [if_neg (by omega), if_neg (by omega)], by unfold idxN; rw [if_neg (by omega), if_neg (by omega)]⟩) 4 (by omega) (Nat.le_refl _), tsR, hp4, ixp, s3]
        congr 1
        show wrdQ (pf c.2.1).2.2.1 (tokStart (pf c.2.1).2.2.1 c.2.2.2.2.1, tokEnd (pf c.2.1).2.2.1 (tokStart (pf c.2.1).2.2.1 c.2.2.2.2.1)) = (twL (pf c.2.1).2.2.1).getD c.2.2.2.2.2 []
        unfold twL
        rw [List.getD_eq_getElem?_getD, List.getElem?_map, w2]
        rfl
      · rw [vup_ne egg]
        obtain ⟨r1, r2, r3⟩ := hg g hg6
        refine ⟨r1, r2, r3.trans ?_⟩
        congr 1
        symm
        exact strG_congr 4 (fun v hv => ⟨ei _ (by omega), fun _ => rfl⟩)
  · have hn : (pf c.2.1).2.2.1.length ≤ tokStart (pf c.2.1).2.2.1 c.2.2.2.2.1 := e1.mpr (by omega)
    have hkk := hwa.2.2.1
    unfold wS wC rW1
    rw [if_pos hn, if_pos hn, if_neg (by rw [b3, b2, et]; exact hk)]
    refine ⟨h1, ⟨b1, by show B.2.1 + 1 = c.2.1 + 1; omega, rfl, b4⟩, ⟨by show c.2.1 + 1 ≤ c.1; omega, c2, c3, ?_⟩, hO, hP, hS, ⟨fun _ => wAt_0, fun _ => ⟨rfl, rfl⟩⟩, fun g hg6 => ?_, hH⟩
    · show c.2.1 / 4 + 1 = sbN (c.2.1 + 1) 0
      unfold sbN; rw [if_neg (by omega)]; omega
    · obtain ⟨r1, r2, r3⟩ := hg g hg6
      refine ⟨r1, r2, r3.trans ?_⟩
      congr 1
      symm
      refine strG_congr 4 (fun v hv => ⟨?_, fun _ => rfl⟩)
      unfold idxN
      show (if 4 * g + v < B.2.1 + 1 then T.1 (4 * g + v) else if 4 * g + v = B.2.1 + 1 ∧ 4 * g + v < B.1 then 0 else 0) = _
      by_cases q1 : 4 * g + v < B.2.1
      · rw [if_pos (by omega), if_pos q1]
      · by_cases q2 : 4 * g + v = B.2.1
        · rw [if_pos (by omega), if_neg q1, if_pos (by omega), q2, b2, et, b3]; omega
        · rw [if_neg (by omega), if_neg q1, if_neg (show ¬ (4 * g + v = B.2.1 ∧ 4 * g + v < B.1) by omega)]
          split <;> rfl
theorem rW_1 {tk : Nat → Nat} {u : Nat} {B : mB} (h : B.2.1 < B.1) : rW tk (u + 1) B = ((rW tk u (rW1 tk B)).1 + 1, (rW tk u (rW1 tk B)).2) := by
  unfold rW1
  by_cases h2 : B.2.2.1 < tk B.2.1
  · rw [rW_t h h2, if_pos h2]
  · rw [rW_p h h2, if_neg h2]
theorem rel.write : ∀ (u : Nat) (sf : SF) (c : CT) (B : mB), rel D pf sf hf c A B P T S H → (wRun pf u (c, sf)).1 = (rW T.1 u B).1 ∧ rel D pf (wRun pf u (c, sf)).2.2 hf (wRun pf u (c, sf)).2.1 A (rW T.1 u B).2 P T S H := by
  intro u
  induction u with
  | zero => intro sf c B h; exact ⟨rfl, h⟩
  | succ u ih =>
    intro sf c B h
    obtain ⟨b1, b2, _⟩ := h.2.1
    by_cases hlt : c.2.1 < c.1
    · rw [wRun_s (s := (c, sf)) hlt, rW_1 (by omega)]
      obtain ⟨k1, k2⟩ := ih _ _ _ (h.unit hlt).2
      exact ⟨congrArg (· + 1) k1, k2⟩
    · rw [wRun_e (s := (c, sf)) (Or.inr hlt), rW_e (Or.inr (by omega))]
      exact ⟨rfl, h⟩
/-- the packer's work -/
theorem fst1_ext {p q : Nat → Bool} : ∀ (k i : Nat), (∀ j, i ≤ j → j < i + k → p j = q j) → fst1 p k i = fst1 q k i := by
  intro k
  induction k with
  | zero => intro i _; rfl
  | succ k ih =>
    intro i h
    rw [fst1, fst1, h i (Nat.le_refl _) (by omega), ih (i + 1) (fun j h1 h2 => h j (by omega) (by omega))]
theorem fst1_more {p : Nat → Bool} : ∀ (k n i : Nat), k ≤ n → (∀ j, i + k ≤ j → p j = false) → fst1 p n i = fst1 p k i := by
  intro k
  induction k with
  | zero =>
    intro n i _ h
    cases hf : fst1 p n i with
    | none => rfl
    | some j =>
      obtain ⟨g1, g2, g3⟩ := fst1_some hf
      rw [h j (by omega)] at g3
      cases g3
  | succ k ih =>
    intro n i hn h
    cases n with
    | zero => omega
    | succ n => rw [fst1, fst1, ih n (i + 1) (by omega) (fun j hj => h j (by omega))]
theorem rel.fst (h : rel D pf sf hf c A B P T S H) : fst1 (pkM B S) 6 0 = fst1 (pkF sf c) c.2.2.1 0 := by
  have hl := h.live
  have hb := h.sb.1
  obtain ⟨_, ⟨b1, b2, b3, b4⟩, _, _, _, _, _, hg, _⟩ := h
  have e : fst1 (pkM B S) 6 0 = fst1 (pkF sf c) 6 0 := fst1_ext 6 0 (fun j _ hj => by
    unfold pkM pkF
    rw [hl j, b2, (hg j (by omega)).1])
  rw [e]
  exact fst1_more _ _ _ hb (fun j hj => by
    unfold pkF liveB
    rw [decide_eq_false (by omega)]; rfl)
theorem rel.pk1 (h : rel D pf sf hf c A B P T S H) {g : Nat} (hg6 : g < 6) : rel D pf (va_up sf g (rwU (sf g))) hf c A B P T (rwM (sumM B P T g 3 4) S g) H := by
  have hdn := h.dn
  obtain ⟨h1, h2, h3, hO, hP, hS, hw, hg, hH⟩ := h
  obtain ⟨s1, s2, s3⟩ := hg g hg6
  have hix : ∀ p, p < 24 → idxN B T.1 p ≤ 12 := fun p hp => by
    have := idx_le (T := T) (p := p) hdn.1
    have := (hO.2.2 p hp).2
    omega
  have hl48 : (sf g).1.length ≤ 48 := by
    rw [s3]
    have := ts_len (strG (wW (fun i => (pf i).2.2.1)) (idxN B T.1) g 4)
    have := strG_len (W := wW (fun i => (pf i).2.2.1)) hix hg6 4 (Nat.le_refl _)
    omega
  have ht : sumM B P T g 3 4 = (sf g).1.length := by rw [s3]; exact (terms_eq hS hdn.1 hg6).symm
  refine ⟨h1, h2, h3, hO, hP, hS, hw, fun j hj => ?_, hH⟩
  obtain ⟨r1, r2, r3⟩ := hg j hj
  rw [ht]
  by_cases hlt : S.1 g < (sf g).1.length
  · have eM : rwM (sf g).1.length S g = (va_up S.1 g (S.1 g + 1), S.2) := if_pos hlt
    have eU : rwU (sf g) = ((sf g).1, S.1 g + 1, S.2 g) := by
      unfold rwU
      rw [s1]
      show ((sf g).1, (if S.1 g < (sf g).1.length then S.1 g + 1 else S.1 g), (if S.1 g < (sf g).1.length then S.2 g else true)) = _
      rw [if_pos hlt, if_pos hlt]
    rw [eM, eU]
    by_cases e : j = g
    · subst e
      rw [vup_eq]
      show (S.1 j + 1, S.2 j) = (va_up S.1 j (S.1 j + 1) j, S.2 j) ∧ va_up S.1 j (S.1 j + 1) j ≤ 48 ∧ _
      rw [vup_eq]
      exact ⟨rfl, by omega, s3⟩
    · rw [vup_ne e]
      show (sf j).2 = (va_up S.1 g (S.1 g + 1) j, S.2 j) ∧ va_up S.1 g (S.1 g + 1) j ≤ 48 ∧ _
      rw [vup_ne e]
      exact ⟨r1, r2, r3⟩
  · have eM : rwM (sf g).1.length S g = (S.1, va_up S.2 g true) := if_neg hlt
    have eU : rwU (sf g) = ((sf g).1, S.1 g, true) := by
      unfold rwU
      rw [s1]
      show ((sf g).1, (if S.1 g < (sf g).1.length then S.1 g + 1 else S.1 g), (if S.1 g < (sf g).1.length then S.2 g else true)) = _
      rw [if_neg hlt, if_neg hlt]
    rw [eM, eU]
    by_cases e : j = g
    · subst e
      rw [vup_eq]
      show (S.1 j, true) = (S.1 j, va_up S.2 j true j) ∧ S.1 j ≤ 48 ∧ _
      rw [vup_eq]
      exact ⟨rfl, s2, s3⟩
    · rw [vup_ne e]
      show (sf j).2 = (S.1 j, va_up S.2 g true j) ∧ S.1 j ≤ 48 ∧ _
      rw [vup_ne e]
      exact ⟨r1, r2, r3⟩
theorem rel.pack : ∀ (u : Nat) (sf : SF) (S : mS), rel D pf sf hf c A B P T S H → (pRun c u sf).1 = (rP B P T u S).1 ∧ rel D pf (pRun c u sf).2 hf c A B P T (rP B P T u S).2 H := by
  intro u
  induction u with
  | zero => intro sf S h; exact ⟨rfl, h⟩
  | succ u ih =>
    intro sf S h
    have hf1 := h.fst
    cases hq : fst1 (pkF sf c) c.2.2.1 0 with
    | none =>
      rw [pRun_n hq, rP_n (hf1.trans hq)]
      exact ⟨rfl, h⟩
    | some g =>
      have hg6 : g < 6 := by
        have := fst1_some hq
        have := h.sb.1
        omega
      rw [pRun_s hq, rP_s (hf1.trans hq)]
      obtain ⟨k1, k2⟩ := ih _ _ (h.pk1 hg6)
      exact ⟨congrArg (· + 1) k1, k2⟩
/-- searches -/
theorem rel.close (h : rel D pf sf hf c A B P T S H) {j : Nat} : rel D pf sf (va_up hf j (false, (hf j).2.1, (hf j).2.2)) c A B P T S (va_up H.1 j false, H.2) := by
  obtain ⟨h1, h2, h3, hO, hP, hS, hw, hg, hH⟩ := h
  refine ⟨h1, h2, h3, hO, hP, hS, hw, hg, fun i hi => ?_⟩
  show (va_up hf j _ i).1 = va_up H.1 j false i ∧ _
  by_cases e : i = j
  · subst e; rw [vup_eq, vup_eq]; exact ⟨rfl, fun g => by cases g⟩
  · rw [vup_ne e, vup_ne e]; exact hH i hi
theorem nxt_lt {p : Nat → Bool} {m k : Nat} (h : nxt p m = some k) : k < m := by
  induction m with
  | zero => cases h
  | succ m ih =>
    unfold nxt at h
    split at h
    · cases h; omega
    · have := ih h; omega
theorem nxt_ext {p q : Nat → Bool} {m : Nat} (h : ∀ i, p i = q i) : nxt p m = nxt q m := by rw [show p = q from funext h]
theorem rel.next (h : rel D pf sf hf c A B P T S H) {j m : Nat} (hm : m ≤ 24) : rel D pf sf (va_up hf j ((hf j).1, m, (hf j).2.2)) c A B P T S (H.1, va_up H.2.1 j m, H.2.2) := by
  obtain ⟨h1, h2, h3, hO, hP, hS, hw, hg, hH⟩ := h
  refine ⟨h1, h2, h3, hO, hP, hS, hw, hg, fun i hi => ?_⟩
  show (va_up hf j _ i).1 = H.1 i ∧ ((va_up hf j _ i).1 = true → (va_up hf j _ i).2.1 = va_up H.2.1 j m i ∧ _)
  obtain ⟨a, b⟩ := hH i hi
  by_cases e : i = j
  · subst e
    rw [vup_eq, vup_eq]
    refine ⟨a, fun g => ?_⟩
    obtain ⟨_, _, q⟩ := b g
    exact ⟨rfl, hm, q⟩
  · rw [vup_ne e, vup_ne e]; exact ⟨a, b⟩
theorem rel.begin (h : rel D pf sf hf c A B P T S H) {g q : Nat} {H' : mH} (hg3 : g < 3) (hr : (pRead D).1 = true) (hn : c.2.2.2.1 < 24) (e1 : H'.1 = va_up H.1 g true) (e2 : H'.2.1 = va_up H.2.1 g B.2.1) (hq : qyA H' g D) (ho : ∀ j Q, j < 3 → j ≠ g → qyA H j Q → Q.length ≤ 24 → qyA H' j Q) : rel [] pf sf (va_up hf g (true, c.2.1, q, (pRead D).2.2.1, (pRead D).2.2.2)) (c.1, c.2.1, c.2.2.1, c.2.2.2.1 + 1, c.2.2.2.2) (0, A.2) (B.1, B.2.1, B.2.2.1, B.2.2.2 + 1) P T S H' := by
  obtain ⟨⟨h1, h1'⟩, ⟨b1, b2, b3, b4⟩, ⟨c1, c2, c3, c4⟩, hO, hP, hS, hw, hg, hH⟩ := h
  refine ⟨⟨⟨rfl, fun k hk => by cases hk⟩, txO_nil⟩, ⟨b1, b2, b3, by show B.2.2.2 + 1 = c.2.2.2.1 + 1; omega⟩, ⟨c1, c2, by show c.2.2.2.1 + 1 ≤ 24; omega, c4⟩, hO, hP, hS, hw, hg, fun i hi => ?_⟩
  obtain ⟨a, b⟩ := hH i hi
  rw [e1, e2]
  by_cases e : i = g
  · subst e
    rw [vup_eq, vup_eq, vup_eq]
    exact ⟨rfl, fun _ => ⟨b2.symm, by show c.2.1 ≤ 24; omega, D, hq, h1', hr, rfl⟩⟩
  · rw [vup_ne e, vup_ne e, vup_ne e]
    refine ⟨a, fun g2 => ?_⟩
    obtain ⟨r1, r2, Q, r3, r4, r5⟩ := b g2
    exact ⟨r1, r2, Q, ho i Q hi e r3 r4.1, r4, r5⟩
theorem rel.qry (h : rel D pf sf hf c A B P T S H) {H' : mH} (e1 : H'.1 = H.1) (e2 : H'.2.1 = H.2.1) (ho : ∀ j Q, j < 3 → qyA H j Q → Q.length ≤ 24 → qyA H' j Q) : rel D pf sf hf c A B P T S H' := by
  obtain ⟨h1, h2, h3, hO, hP, hS, hw, hg, hH⟩ := h
  refine ⟨h1, h2, h3, hO, hP, hS, hw, hg, fun i hi => ?_⟩
  obtain ⟨a, b⟩ := hH i hi
  rw [e1, e2]
  refine ⟨a, fun g2 => ?_⟩
  obtain ⟨r1, r2, Q, r3, r4, r5⟩ := b g2
  exact ⟨r1, r2, Q, ho i Q hi r3 r4.1, r4, r5⟩
theorem jdg0_eq {xs : List Nat} (ho : txO xs) : (jdg0 xs < 0) ↔ (pRead xs).1 = false := by
  have k := read_sp (rowV := fun _ => false) (filV := fun _ _ => false) ho.1 ho.lo
  cases hr : (pRead xs).1 with
  | true =>
    obtain ⟨v0, q1, _⟩ := (k.1 hr).2
    unfold jdg0
    rw [q1]
    cases v0 <;> decide
  | false =>
    unfold jdg0
    rw [k.2 hr]
    decide
end RP
