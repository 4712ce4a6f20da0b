def frI (lo hi : Nat) (row row' : zRw) : Prop := ∀ b, ¬ (lo ≤ b ∧ b ≤ hi) → row' b = row b
theorem frI.rf {lo hi : Nat} {row : zRw} : frI lo hi row row := fun _ _ => rfl
theorem frI.tr {lo hi : Nat} {r1 r2 r3 : zRw} (h : frI lo hi r1 r2) (g : frI lo hi r2 r3) : frI lo hi r1 r3 := fun b hb => (g b hb).trans (h b hb)
theorem frI.wide {lo hi l2 h2 : Nat} {r1 r2 : zRw} (h : frI lo hi r1 r2) (a : l2 ≤ lo) (b : hi ≤ h2) : frI l2 h2 r1 r2 := fun c hc => h c (by omega)
theorem frI_up {lo hi a k : Nat} {v : Value} {row : zRw} (h1 : lo ≤ a) (h2 : a ≤ hi) : frI lo hi row (zup row a k v) := fun b hb => zup_ne (fun e => hb (by omega))
theorem fr2.I {t : Nat} {r1 r2 : zRw} (h : fr2 t r1 r2) : frI t (t + 1) r1 r2 := fun b hb => h b (by omega) (by omega)
theorem frI.f2 {t : Nat} {r1 r2 : zRw} (h : frI t (t + 1) r1 r2) : fr2 t r1 r2 := fun b h1 h2 => h b (by omega)
theorem Txt.keepI {sh : zSh} {row row' : zRw} {t lo hi : Nat} {xs : List Nat} (h : Txt sh row t xs) (hf : frI lo hi row row') (hn : t + 1 < lo ∨ hi < t) : Txt sh row' t xs := h.keep (hf t (by omega)) (hf (t + 1) (by omega))
/-- the first place of a term among the terms, or their number -/
def fT : List (List Nat × Int32) → List Nat → Nat
  | [], _ => 0
  | p :: ts, w => if p.1 = w then 0 else fT ts w + 1
theorem fT_le (ts : List (List Nat × Int32)) (w : List Nat) : fT ts w ≤ ts.length := by
  induction ts with
  | nil => exact Nat.le_refl _
  | cons p ts ih => unfold fT; split <;> simp only [List.length_cons] <;> omega
theorem fT_hit {ts : List (List Nat × Int32)} {w : List Nat} {i : Nat} {p : List Nat × Int32} (h : ∀ j, j < i → ∀ p, ts[j]? = some p → p.1 ≠ w) (hi : ts[i]? = some p) (hp : p.1 = w) : fT ts w = i := by
  induction ts generalizing i with
  | nil => cases hi
  | cons q ts ih =>
    unfold fT
    cases i with
    | zero => cases hi; rw [if_pos hp]
    | succ i => rw [if_neg (h 0 (by omega) q rfl), ih (fun j hj p hp => h (j + 1) (by omega) p hp) hi]
theorem fT_miss {ts : List (List Nat × Int32)} {w : List Nat} (h : ∀ j, j < ts.length → ∀ p, ts[j]? = some p → p.1 ≠ w) : fT ts w = ts.length := by
  induction ts with
  | nil => rfl
  | cons q ts ih =>
    unfold fT
    rw [if_neg (h 0 (by simp) q rfl), ih (fun j hj p hp => h (j + 1) (by simp; omega) p hp)]
    rfl
theorem fT_get {ts : List (List Nat × Int32)} {w : List Nat} (h : fT ts w < ts.length) : ∃ b, ts[fT ts w]? = some (w, b) := by
  induction ts with
  | nil => cases h
  | cons q ts ih =>
    unfold fT at h ⊢
    by_cases hq : q.1 = w
    · rw [if_pos hq]; exact ⟨q.2, by rw [← hq]; rfl⟩
    · rw [if_neg hq] at h ⊢
      exact ih (by simpa using h)
def bitI (k : Nat) : Int32 := nI 1 <<< (nI k &&& 31)
def bAt (ts : List (List Nat × Int32)) (i : Nat) : Int32 := (ts[i]?.map Prod.snd).getD 0
def addP (ts : List (List Nat × Int32)) (w : List Nat) (k : Nat) : List (List Nat × Int32) := if fT ts w < ts.length then ts.set (fT ts w) (w, bAt ts (fT ts w) ||| bitI k) else ts ++ [(w, bitI k)]
def plc (ts : List (List Nat × Int32)) (w : List Nat) (slot : Nat) : Int32 := if fT ts w < ts.length then ush (bAt ts (fT ts w)) (8 * slot) &&& nI 255 else nI 0
def SegA (sh : zSh) (row : zRw) (s : Nat) (ts : List (List Nat × Int32)) (rw : Nat) (pk : Bool) : Prop :=
  (sh s = some (0, 4, 5) ∧ sh (s + 1) = some (1, 0, 48) ∧ sh (s + 2) = some (2, 3, 48)) ∧
  (row s 0 = .ref (s + 2) ∧ row s 1 = .ref (s + 1) ∧ row s 2 = .int (nI ts.length) ∧ row s 3 = .int (nI rw) ∧ row s 4 = .int (bI pk)) ∧
  (ts.length ≤ 48 ∧ rw ≤ 48) ∧
  (∀ i, i < 48 → row (s + 2) i = .ref (s + 3 + 2 * i)) ∧
  (∀ i, i < 48 → ∃ xs, Txt sh row (s + 3 + 2 * i) xs ∧ ∀ p, ts[i]? = some p → p.1 = xs) ∧
  (∀ i, i < 48 → row (s + 1) i = .int (bAt ts i))
theorem SegA.keep {sh : zSh} {row row' : zRw} {s lo hi rw : Nat} {ts : List (List Nat × Int32)} {pk : Bool} (h : SegA sh row s ts rw pk) (hf : frI lo hi row row') (hn : s + 98 < lo ∨ hi < s) : SegA sh row' s ts rw pk := by
  obtain ⟨h1, h2, h3, h4, h5, h6⟩ := h
  have e0 : row' s = row s := hf s (by omega)
  have e1 : row' (s + 1) = row (s + 1) := hf _ (by omega)
  have e2 : row' (s + 2) = row (s + 2) := hf _ (by omega)
  refine ⟨h1, by rw [e0]; exact h2, h3, by rw [e2]; exact h4, fun i hi => ?_, by rw [e1]; exact h6⟩
  obtain ⟨xs, a, b⟩ := h5 i hi
  exact ⟨xs, a.keepI hf (by omega), b⟩
theorem bAt_set {ts : List (List Nat × Int32)} {i j : Nat} {p : List Nat × Int32} (h : i < ts.length) : bAt (ts.set i p) j = if j = i then p.2 else bAt ts j := by
  unfold bAt
  rw [List.getElem?_set]
  by_cases hj : i = j
  · subst hj; rw [if_pos rfl, if_pos h, if_pos rfl]; rfl
  · rw [if_neg hj, if_neg (fun e => hj e.symm)]
theorem SegA.set {sh : zSh} {row : zRw} {s rw k : Nat} {ts : List (List Nat × Int32)} {pk : Bool} {w : List Nat} (h : SegA sh row s ts rw pk) (hf : fT ts w < ts.length) : SegA sh (zup row (s + 1) (fT ts w) (.int (bAt ts (fT ts w) ||| bitI k))) s (addP ts w k) rw pk := by
  obtain ⟨h1, h2, h3, h4, h5, h6⟩ := h
  unfold addP
  rw [if_pos hf]
  obtain ⟨b, hb⟩ := fT_get hf
  refine ⟨h1, by rw [zup_ne (by omega), List.length_set]; exact h2, by rw [List.length_set]; exact h3, by rw [zup_ne (by omega)]; exact h4, fun i hi => ?_, fun i hi => ?_⟩
  · obtain ⟨xs, a, c⟩ := h5 i hi
    refine ⟨xs, a.keep (zup_ne (by omega)) (zup_ne (by omega)), fun p hp => ?_⟩
    rw [List.getElem?_set] at hp
    by_cases hj : fT ts w = i
    · rw [if_pos hj, if_pos hf] at hp
      cases hp
      rw [← hj] at c
      exact (c (w, b) hb : w = xs)
    · rw [if_neg hj] at hp
      exact c p hp
  · rw [bAt_set hf]
    by_cases hj : i = fT ts w
    · rw [if_pos hj, hj, zup_same]
    · rw [if_neg hj, zup_k (Or.inr hj)]
      exact h6 i hi
theorem SegA.add {sh : zSh} {row r3 : zRw} {s rw k : Nat} {ts : List (List Nat × Int32)} {pk : Bool} {w : List Nat} (h : SegA sh row s ts rw pk) (hf : fT ts w = ts.length) (hl : ts.length < 48) (hr : fr2 (s + 3 + 2 * ts.length) row r3) (hT : Txt sh r3 (s + 3 + 2 * ts.length) w) : SegA sh (zup (zup r3 s 2 (.int (nI (ts.length + 1)))) (s + 1) (fT ts w) (.int (nI 0 ||| bitI k))) s (addP ts w k) rw pk := by
  have hk := h
  obtain ⟨h1, h2, h3, h4, h5, h6⟩ := h
  unfold addP
  rw [if_neg (by omega), hf]
  have e0 : r3 s = row s := hr s (by omega) (by omega)
  have e1 : r3 (s + 1) = row (s + 1) := hr _ (by omega) (by omega)
  have e2 : r3 (s + 2) = row (s + 2) := hr _ (by omega) (by omega)
  have hlen : (ts ++ [(w, bitI k)]).length = ts.length + 1 := by simp
  refine ⟨h1, ?_, by rw [hlen]; omega, ?_, fun i hi => ?_, fun i hi => ?_⟩
  · rw [zup_ne (by omega), hlen]
    refine ⟨?_, ?_, zup_same _ _ _, ?_, ?_⟩
    · rw [zup_k (Or.inr (by decide)), e0]; exact h2.1
    · rw [zup_k (Or.inr (by decide)), e0]; exact h2.2.1
    · rw [zup_k (Or.inr (by decide)), e0]; exact h2.2.2.2.1
    · rw [zup_k (Or.inr (by decide)), e0]; exact h2.2.2.2.2
  · rw [zup_ne (by omega), zup_ne (by omega), e2]; exact h4
  · by_cases hj : i = ts.length
    · subst hj
      refine ⟨w, hT.keep (by rw [zup_ne (by omega), zup_ne (by omega)]) (by rw [zup_ne (by omega), zup_ne (by omega)]), fun p hp => ?_⟩
      rw [List.getElem?_append_right (Nat.le_refl _), Nat.sub_self] at hp
      cases hp
      rfl
    · obtain ⟨xs, a, c⟩ := h5 i hi
      refine ⟨xs, (a.keep (hr _ (by omega) (by omega)) (hr _ (by omega) (by omega))).keep (by rw [zup_ne (by omega), zup_ne (by omega)]) (by rw [zup_ne (by omega), zup_ne (by omega)]), fun p hp => ?_⟩
      by_cases hl2 : i < ts.length
      · rw [List.getElem?_append_left hl2] at hp
        exact c p hp
      · rw [List.getElem?_eq_none (by rw [hlen]; omega)] at hp
        cases hp
  · by_cases hj : i = ts.length
    · subst hj
      rw [zup_same]
      unfold bAt
      rw [List.getElem?_append_right (Nat.le_refl _), Nat.sub_self]
      congr 1
      exact b_ext (fun j _ => by rw [b_or]; show (bt (nI 0) j || bt (bitI k) j) = _; rw [show bt (nI 0) j = false from b_0 j, Bool.false_or]; rfl)
    · rw [zup_k (Or.inr hj), zup_ne (by omega), e1, h6 i hi]
      unfold bAt
      by_cases hl2 : i < ts.length
      · rw [List.getElem?_append_left hl2]
      · rw [List.getElem?_eq_none (by omega), List.getElem?_eq_none (by rw [hlen]; omega)]
/-- a sum over the terms; the pieces of a term; the cells of its slices -/
def sumT (f : Int32 → Nat) : List (List Nat × Int32) → Nat
  | [] => 0
  | p :: ts => f p.2 + sumT f ts
theorem sumT_take (f : Int32 → Nat) {ts : List (List Nat × Int32)} {i : Nat} (h : i < ts.length) : sumT f (ts.take (i + 1)) = sumT f (ts.take i) + f (bAt ts i) := by
  induction ts generalizing i with
  | nil => cases h
  | cons p ts ih =>
    cases i with
    | zero => simp [sumT, bAt]
    | succ i =>
      have := ih (i := i) (by simpa using h)
      simp only [List.take_succ_cons, sumT, this]
      have e : bAt (p :: ts) (i + 1) = bAt ts i := rfl
      rw [e]; omega
theorem sumT_bd (f : Int32 → Nat) {c : Nat} (hf : ∀ b, f b ≤ c) (ts : List (List Nat × Int32)) : sumT f ts ≤ ts.length * c := by
  induction ts with
  | nil => exact Nat.zero_le _
  | cons p ts ih =>
    have := hf p.2
    show f p.2 + sumT f ts ≤ (ts.length + 1) * c
    rw [Nat.add_mul]; omega
def cost (d : Nat) : Nat := if d < 4 then 1 else if d < 16 then 2 else 3
def pcs (f : Nat → Bool) : Nat → Nat → Nat
  | 0, _ => 0
  | m + 1, b => if f m = true then cost (b - m) + pcs f m m else pcs f m b
theorem pcs_le (f : Nat → Bool) (m b : Nat) : pcs f m b ≤ 3 * m := by
  induction m generalizing b with
  | zero => exact Nat.le_refl _
  | succ m ih =>
    unfold pcs
    have h1 := ih m
    have h2 := ih b
    have h3 : cost (b - m) ≤ 3 := by unfold cost; split; omega; split <;> omega
    split <;> omega
def slc (n : Nat) : Nat := if n ≤ 2 then 2 else 6 + 8 * ((n + 1) / 7)
def cellsOf (pk : Bool) (b : Int32) : Nat := if pk = true then pcs (bt b) 32 32 else slc (popc b)
def dI (m : Nat) : Int32 := nI m + Int32.ofInt (-1)
theorem dI_s (m : Nat) : dI (m + 1) = nI m := by unfold dI; rw [show Int32.ofInt (-1) = -1 by decide]; exact pk_m1 m
theorem nI1_bits : ∀ i, i < 32 → bt (nI 1) i = decide (i = 0) := by decide +kernel
theorem ush1 {x : Int32} {m : Nat} (hm : m < 32) : (ush x m &&& nI 1 = nI 1) ↔ bt x m = true := by
  constructor
  · intro h
    have h1 : bt (ush x m &&& nI 1) 0 = bt (nI 1) 0 := by rw [h]
    rw [b_and, nI1_bits 0 (by omega)] at h1
    have h2 : bt (ush x m) 0 = bt x (m + 0) := b_ushr m hm x 0
    rw [h2] at h1
    simpa using h1
  · intro h
    refine b_ext (fun i hi => ?_)
    rw [b_and, nI1_bits i hi]
    have h2 : bt (ush x m) i = bt x (m + i) := b_ushr m hm x i
    rw [h2]
    by_cases h0 : i = 0
    · subst h0; simp [h]
    · simp [h0]

set_option maxHeartbeats 4000000 in
set_option maxRecDepth 100000 in
theorem kS_findTerm (G : zG) (d : Nat) (hd : 1 ≤ d) {n : Nat} {sh : zSh} {row : zRw} {s rw : Nat} {ts : List (List Nat × Int32)} {pk : Bool} (hS : SegA sh row s ts rw pk) {o : Nat} {ws : List Nat} (hO : Txt sh row o ws) : zM G (fS_findTerm d) [.ref s, .ref o] n sh row (zP sh row (.int (nI (fT ts ws)))) := by
  refine zM.of (by show plainName "PostIndex$Segment" = true; decide +kernel) (Nat.le_of_ble_eq_true rfl) (by intro v hv; simp at hv; rcases hv with rfl | rfl <;> rfl) ?_
  intro K hE
  show zX G K (fS_findTerm d) n 0 0 sh row 0 [.ref s, .ref o, .retAddr 0] []
  have hD : d - 1 + 1 ≤ d := by omega
  obtain ⟨⟨hs1, hs2, hs3⟩, ⟨hp0, hp1, hp2, hp3, hp4⟩, ⟨hl1, hl2⟩, hrf, htx, hbt⟩ := id hS
  have loop : ∀ (k : Nat) (i : Nat), ts.length - i < k → i ≤ ts.length → (∀ j, j < i → ∀ p, ts[j]? = some p → p.1 ≠ ws) → zX G K (fS_findTerm d) n 0 0 sh row 2 [.ref s, .ref o, .int (nI i)] [] := by
    intro k
    induction k with
    | zero => intro i hk; exact absurd hk (Nat.not_lt_zero _)
    | succ k ih =>
      intro i hk h3 h4
      refine zx_iload_n dS_findTerm_2 rfl ?_
      refine zx_aload_n dS_findTerm_3 rfl ?_
      refine zx_get dS_findTerm_4 flS_26 (by assumption) (by assumption) ?_
      refine zn_icmp_ge (tgt := 31) dS_findTerm_7 rfl (by omega) (by omega) (fun h7 => ?_) (fun h7 => ?_)
      · refine zx_aload_n dS_findTerm_31 rfl ?_
        refine zx_get dS_findTerm_32 flS_26 (by assumption) (by assumption) ?_
        exact zx_iret hE rfl dS_findTerm_35 rfl (Nat.le_of_ble_eq_true rfl) ⟨by first | rw [fT_hit h4 hq (hq1.trans (of_decide_eq_true h20))] | rw [fT_miss (fun j hj => h4 j (by omega))], rfl, rfl⟩
      · refine zx_aload_n dS_findTerm_10 rfl ?_
        refine zx_get dS_findTerm_11 flS_17 (by assumption) (by assumption) ?_
        refine zx_iload_n dS_findTerm_14 rfl ?_
        obtain ⟨xs, hx, hx2⟩ := htx i (by omega)
        obtain ⟨q, hq⟩ : ∃ q, ts[i]? = some q := ⟨_, List.getElem?_eq_getElem (by omega)⟩
        have hq1 := hx2 q hq
        refine zn_aald dS_findTerm_15 hs3 rfl (by omega) (by decide) (hrf i (by omega)) ?_
        refine zx_aload_n dS_findTerm_16 rfl ?_
        refine zc_V (kT_isSame G (d - 1) (by omega) hx hO) (meT_isSame _) lkS_37 hx.1 rfl rfl hD (Nat.le_of_ble_eq_true rfl) rfl rfl (Nat.le_of_ble_eq_true rfl) (Nat.le_of_ble_eq_true rfl) (Nat.le_of_ble_eq_true rfl) dS_findTerm_17 ?_
        refine zb_if_eq (tgt := 25) dS_findTerm_20 rfl (fun h20 => ?_) (fun h20 => ?_)
        · refine zn_iinc (c := 1) dS_findTerm_25 (Nat.le_of_ble_eq_true rfl) rfl rfl ?_
          refine zx_goto (tgt := 2) dS_findTerm_28 rfl ?_
          refine ih (i + 1) (by omega) (by omega) (fun j hj p hp => ?_)
          by_cases hji : j = i
          · rw [hji, hq] at hp
            cases hp
            rw [hq1]
            exact of_decide_eq_false h20
          · exact h4 j (by omega) p hp
        · refine zx_iload_n dS_findTerm_23 rfl ?_
          exact zx_iret hE rfl dS_findTerm_24 rfl (Nat.le_of_ble_eq_true rfl) ⟨by first | rw [fT_hit h4 hq (hq1.trans (of_decide_eq_true h20))] | rw [fT_miss (fun j hj => h4 j (by omega))], rfl, rfl⟩
  refine zx_iconst (v := nI 0) dS_findTerm_0 (by decide) ?_
  refine zx_istore_n dS_findTerm_1 (Nat.le_of_ble_eq_true rfl) rfl rfl ?_
  exact loop _ 0 (Nat.lt_succ_self _) (Nat.zero_le _) (fun j hj => absurd hj (Nat.not_lt_zero _))

set_option maxHeartbeats 4000000 in
set_option maxRecDepth 100000 in
theorem kS_placesOf (G : zG) (d : Nat) (hd : 2 ≤ d) {n : Nat} {sh : zSh} {row : zRw} {s rw : Nat} {ts : List (List Nat × Int32)} {pk : Bool} (hS : SegA sh row s ts rw pk) {o slot : Nat} {ws : List Nat} (hO : Txt sh row o ws) (hsl : slot < 4) : zM G (fS_placesOf d) [.ref s, .ref o, .int (nI slot)] n sh row (zP sh row (.int (plc ts ws slot))) := by
  refine zM.of (by show plainName "PostIndex$Segment" = true; decide +kernel) (Nat.le_of_ble_eq_true rfl) (by intro v hv; simp at hv; rcases hv with rfl | rfl | rfl <;> rfl) ?_
  intro K hE
  show zX G K (fS_placesOf d) n 0 0 sh row 0 [.ref s, .ref o, .int (nI slot), .retAddr 0] []
  have hD : d - 1 + 1 ≤ d := by omega
  obtain ⟨⟨hs1, hs2, hs3⟩, ⟨hp0, hp1, hp2, hp3, hp4⟩, ⟨hl1, hl2⟩, hrf, htx, hbt⟩ := id hS
  refine zx_aload_n dS_placesOf_0 rfl ?_
  refine zx_aload_n dS_placesOf_1 rfl ?_
  refine zc_V (kS_findTerm G (d - 1) (by omega) hS hO) (meS_findTerm _) lkS_22 hs1 rfl rfl hD (Nat.le_of_ble_eq_true rfl) rfl rfl (Nat.le_of_ble_eq_true rfl) (Nat.le_of_ble_eq_true rfl) (Nat.le_of_ble_eq_true rfl) dS_placesOf_2 ?_
  have hfl := fT_le ts ws
  refine zx_istore_n dS_placesOf_5 (Nat.le_of_ble_eq_true rfl) rfl rfl ?_
  refine zx_iload_n dS_placesOf_6 rfl ?_
  refine zx_aload_n dS_placesOf_7 rfl ?_
  refine zx_get dS_placesOf_8 flS_26 (by assumption) (by assumption) ?_
  refine zn_icmp_ge (tgt := 32) dS_placesOf_11 rfl (by omega) (by omega) (fun h11 => ?_) (fun h11 => ?_)
  · refine zx_iconst (v := nI 0) dS_placesOf_32 (by decide) ?_
    exact zx_iret hE rfl dS_placesOf_33 rfl (Nat.le_of_ble_eq_true rfl) ⟨by unfold plc; first | (rw [if_pos (by omega)]; rfl) | rw [if_neg (by omega)], rfl, rfl⟩
  · refine zx_aload_n dS_placesOf_14 rfl ?_
    refine zx_get dS_placesOf_15 flS_9 (by assumption) (by assumption) ?_
    refine zx_iload_n dS_placesOf_18 rfl ?_
    refine zn_iald dS_placesOf_19 hs2 rfl (by omega) (by decide) (hbt _ (by omega)) ?_
    refine zx_bipush (v := nI 8) dS_placesOf_20 (by decide) ?_
    refine zx_iload_n dS_placesOf_22 rfl ?_
    refine zn_imul dS_placesOf_23 ?_
    refine zx_iushr dS_placesOf_24 rfl ?_
    refine zx_sipush (v := nI 255) dS_placesOf_25 (by decide) ?_
    refine zx_iand dS_placesOf_28 ?_
    refine zx_goto (tgt := 33) dS_placesOf_29 rfl ?_
    exact zx_iret hE rfl dS_placesOf_33 rfl (Nat.le_of_ble_eq_true rfl) ⟨by unfold plc; first | (rw [if_pos (by omega)]; rfl) | rw [if_neg (by omega)], rfl, rfl⟩

set_option maxHeartbeats 4000000 in
set_option maxRecDepth 100000 in
theorem kS_rewriteUnit (G : zG) (d : Nat) (hd : 0 ≤ d) {n : Nat} {sh : zSh} {row : zRw} {s rw : Nat} {ts : List (List Nat × Int32)} {pk : Bool} (hS : SegA sh row s ts rw pk) : zM G (fS_rewriteUnit d) [.ref s] n sh row (zpV sh (fun row' => frI s s row row' ∧ SegA sh row' s ts (if rw < ts.length then rw + 1 else rw) (if rw < ts.length then pk else true))) := by
  refine zM.of (by show plainName "PostIndex$Segment" = true; decide +kernel) (Nat.le_of_ble_eq_true rfl) (by intro v hv; simp at hv; rcases hv with rfl <;> rfl) ?_
  intro K hE
  show zX G K (fS_rewriteUnit d) n 0 0 sh row 0 [.ref s] []
  obtain ⟨⟨hs1, hs2, hs3⟩, ⟨hp0, hp1, hp2, hp3, hp4⟩, ⟨hl1, hl2⟩, hrf, htx, hbt⟩ := id hS
  refine zx_aload_n dS_rewriteUnit_0 rfl ?_
  refine zx_get dS_rewriteUnit_1 flS_41 (by assumption) (by assumption) ?_
  refine zx_aload_n dS_rewriteUnit_4 rfl ?_
  refine zx_get dS_rewriteUnit_5 flS_26 (by assumption) (by assumption) ?_
  refine zn_icmp_ge (tgt := 24) dS_rewriteUnit_8 rfl (by omega) (by omega) (fun h8 => ?_) (fun h8 => ?_)
  · refine zx_aload_n dS_rewriteUnit_24 rfl ?_
    refine zx_iconst (v := nI 1) dS_rewriteUnit_25 (by decide) ?_
    refine zx_put dS_rewriteUnit_26 flS_44 tpS_4 (by assumption) rfl rfl ?_
    exact zx_vret hE rfl dS_rewriteUnit_29 rfl (Nat.le_of_ble_eq_true rfl) (by refine ⟨rfl, rfl, frI_up (Nat.le_refl _) (Nat.le_refl _), ?_⟩; (first | rw [if_pos (by omega), if_pos (by omega)] | rw [if_neg (by omega), if_neg (by omega)]); refine ⟨⟨hs1, hs2, hs3⟩, ⟨?_, ?_, ?_, ?_, ?_⟩, ⟨hl1, by omega⟩, fun i hi => by rw [zup_ne (by omega)]; exact hrf i hi, fun i hi => ?_, fun i hi => by rw [zup_ne (by omega)]; exact hbt i hi⟩ <;> first | exact (zup_same _ _ _).trans rfl | (rw [zup_k (Or.inr (by decide))]; assumption) | (obtain ⟨xs, a, c⟩ := htx i hi; exact ⟨xs, a.keep (zup_ne (by omega)) (zup_ne (by omega)), c⟩))
  · refine zx_aload_n dS_rewriteUnit_11 rfl ?_
    refine zx_dup dS_rewriteUnit_12 rfl ?_
    refine zx_get dS_rewriteUnit_13 flS_41 (by assumption) (by assumption) ?_
    refine zx_iconst (v := nI 1) dS_rewriteUnit_16 (by decide) ?_
    refine zn_iadd dS_rewriteUnit_17 ?_
    refine zx_put dS_rewriteUnit_18 flS_41 tpS_3 (by assumption) rfl rfl ?_
    refine zx_goto (tgt := 29) dS_rewriteUnit_21 rfl ?_
    exact zx_vret hE rfl dS_rewriteUnit_29 rfl (Nat.le_of_ble_eq_true rfl) (by refine ⟨rfl, rfl, frI_up (Nat.le_refl _) (Nat.le_refl _), ?_⟩; (first | rw [if_pos (by omega), if_pos (by omega)] | rw [if_neg (by omega), if_neg (by omega)]); refine ⟨⟨hs1, hs2, hs3⟩, ⟨?_, ?_, ?_, ?_, ?_⟩, ⟨hl1, by omega⟩, fun i hi => by rw [zup_ne (by omega)]; exact hrf i hi, fun i hi => ?_, fun i hi => by rw [zup_ne (by omega)]; exact hbt i hi⟩ <;> first | exact (zup_same _ _ _).trans rfl | (rw [zup_k (Or.inr (by decide))]; assumption) | (obtain ⟨xs, a, c⟩ := htx i hi; exact ⟨xs, a.keep (zup_ne (by omega)) (zup_ne (by omega)), c⟩))

