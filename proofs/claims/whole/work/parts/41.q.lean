section TK
variable {xs : List Nat}
/-- where a token may begin: not within a word, not behind its mark -/
def tkH (xs : List Nat) (a : Nat) : Prop := isWd (at0 xs a) = true → a = 0 ∨ (isWd (at0 xs (a - 1)) = false ∧ ¬ (at0 xs (a - 1) = 35 ∨ at0 xs (a - 1) = 64))
theorem tkH_n {a : Nat} (h : isWd (at0 xs a) = false) : tkH xs a := fun g => by rw [h] at g; cases g
theorem cutL_skp : ∀ (n a : Nat), xs.length - a < n → 0 < a → isWd (at0 xs (a - 1)) = true → cutL xs a = cutL xs (scanW xs a) := by
  intro n
  induction n with
  | zero => intro a h; omega
  | succ n ih =>
    intro a h h0 hw
    by_cases hc : isWd (at0 xs a) = true
    · have hl := isWd_lt hc
      rw [cutL_f hl (by unfold fst0; rw [hw, decide_eq_false (by omega)]; simp), scanW_s hl hc]
      exact ih (a + 1) (by omega) (by omega) (by rw [Nat.add_sub_cancel]; exact hc)
    · rw [scanW_e (Or.inr (by simpa using hc))]
theorem tkS_s {a : Nat} (h : a < xs.length) (h2 : a < tokEnd xs a) : tokStart xs a = a := by rw [tokStart, if_pos h, if_pos h2]
theorem tkS_n {a : Nat} (h : a < xs.length) (h2 : ¬ a < tokEnd xs a) : tokStart xs a = tokStart xs (a + 1) := by rw [tokStart, if_pos h, if_neg h2]
theorem tkS_e {a : Nat} (h : ¬ a < xs.length) : tokStart xs a = xs.length := by rw [tokStart, if_neg h]
/-- the tokens from a place on, one by one -/
theorem cut_tok : ∀ (n a : Nat), xs.length - a < n → a ≤ xs.length → tkH xs a →
    (xs.length ≤ tokStart xs a → cutL xs a = []) ∧
    (¬ xs.length ≤ tokStart xs a → cutL xs a = (tokStart xs a, tokEnd xs (tokStart xs a)) :: cutL xs (tokEnd xs (tokStart xs a)) ∧ tkH xs (tokEnd xs (tokStart xs a)) ∧ tokStart xs a < tokEnd xs (tokStart xs a) ∧ tokEnd xs (tokStart xs a) ≤ xs.length) := by
  intro n
  induction n with
  | zero => intro a h; omega
  | succ n ih =>
    intro a h hle hH
    by_cases hl : a < xs.length
    · by_cases hw : isWd (at0 xs a) = true
      · have te := tokEnd_w hw
        have hge := @scanW_ge xs (a + 1)
        have ts := tkS_s hl (by omega)
        rw [ts]
        refine ⟨fun g => by omega, fun _ => ⟨?_, tkH_n (tokEnd_n (by omega)), by omega, tokEnd_le hle⟩⟩
        have hf : fst0 xs a = true := by
          unfold fst0
          rw [hw]
          rcases hH hw with h0 | ⟨h0, _⟩
          · rw [decide_eq_true h0]; rfl
          · rw [h0]; simp
        have ht : tkF xs a = a := by
          unfold tkF mk0
          rw [if_neg]
          intro g
          have g := of_decide_eq_true g
          rcases hH hw with h0 | ⟨_, h0⟩
          · omega
          · exact h0 g.2
        rw [cutL_t hl hf, ht, te, scanW_1 hw]
        rw [cutL_skp _ (a + 1) (Nat.lt_succ_self _) (by omega) (by rw [Nat.add_sub_cancel]; exact hw)]
      · have hwf : isWd (at0 xs a) = false := by simpa using hw
        have hf : fst0 xs a = false := by unfold fst0; rw [hwf]; rfl
        by_cases hm : (at0 xs a = 35 ∨ at0 xs a = 64) ∧ isWd (at0 xs (a + 1)) = true
        · have hge := @scanW_ge xs (a + 2)
          have e1 := scanW_1 hm.2
          have e1 : scanW xs (a + 1) = scanW xs (a + 2) := e1
          have te : tokEnd xs a = scanW xs (a + 1) := by rw [tokEnd_m hm.1, if_neg (by omega)]
          have ts := tkS_s hl (by omega)
          have hl2 := isWd_lt hm.2
          rw [ts]
          refine ⟨fun g => by omega, fun _ => ⟨?_, tkH_n (tokEnd_n (by omega)), by omega, tokEnd_le hle⟩⟩
          have hf2 : fst0 xs (a + 1) = true := by unfold fst0; rw [hm.2, Nat.add_sub_cancel, hwf]; simp
          have ht : tkF xs (a + 1) = a := by unfold tkF mk0; rw [if_pos (decide_eq_true ⟨by omega, by rw [Nat.add_sub_cancel]; exact hm.1⟩)]; omega
          rw [cutL_f hl hf, cutL_t hl2 hf2, ht, te]
          rw [cutL_skp _ (a + 1 + 1) (Nat.lt_succ_self _) (by omega) (by rw [Nat.add_sub_cancel]; exact hm.2)]
          rw [e1]
        · have te : ¬ a < tokEnd xs a := by
            by_cases hm1 : at0 xs a = 35 ∨ at0 xs a = 64
            · have : isWd (at0 xs (a + 1)) = false := by
                cases hh : isWd (at0 xs (a + 1)) with
                | false => rfl
                | true => exact absurd ⟨hm1, hh⟩ hm
              rw [tokEnd_m hm1, if_pos (scanW_e (Or.inr this))]; omega
            · rw [tokEnd_o hm1 hwf]; omega
          rw [tkS_n hl te, cutL_f hl hf]
          refine ih (a + 1) (by omega) (by omega) (fun g => Or.inr ?_)
          rw [Nat.add_sub_cancel]
          exact ⟨hwf, fun g2 => hm ⟨g2, g⟩⟩
    · rw [tkS_e hl]
      exact ⟨fun _ => cutL_e (by omega), fun g => by omega⟩
/-- how far the writer has come in a text: the place, and the tokens before it -/
def wAt (xs : List Nat) (a k : Nat) : Prop := a ≤ xs.length ∧ tkH xs a ∧ k ≤ (cutL xs 0).length ∧ (cutL xs 0).drop k = cutL xs a
theorem wAt_0 : wAt xs 0 0 := ⟨Nat.zero_le _, fun _ => Or.inl rfl, Nat.zero_le _, rfl⟩
theorem wAt.step {a k : Nat} (h : wAt xs a k) : (xs.length ≤ tokStart xs a ↔ (cutL xs 0).length ≤ k) ∧ (k < (cutL xs 0).length → wAt xs (tokEnd xs (tokStart xs a)) (k + 1) ∧ (cutL xs 0)[k]? = some (tokStart xs a, tokEnd xs (tokStart xs a))) := by
  obtain ⟨h1, h2, h3, h4⟩ := h
  obtain ⟨c1, c2⟩ := cut_tok (xs := xs) _ a (Nat.lt_succ_self _) h1 h2
  have hk : xs.length ≤ tokStart xs a ↔ (cutL xs 0).length ≤ k := by
    constructor
    · intro g
      rw [c1 g] at h4
      exact List.drop_eq_nil_iff.mp h4
    · intro g
      rw [List.drop_eq_nil_of_le g] at h4
      by_cases hh : xs.length ≤ tokStart xs a
      · exact hh
      · rw [(c2 hh).1] at h4; cases h4
  refine ⟨hk, fun hlt => ?_⟩
  obtain ⟨d1, d2, d3, d4⟩ := c2 (fun g => by have := hk.mp g; omega)
  rw [d1] at h4
  have hd := List.drop_eq_getElem_cons hlt
  rw [h4] at hd
  obtain ⟨e1, e2⟩ := List.cons.inj hd
  exact ⟨⟨d4, d2, by omega, e2.symm⟩, by rw [List.getElem?_eq_getElem hlt, ← e1]⟩
/-- a text's words -/
def twL (xs : List Nat) : List (List Nat) := (cutL xs 0).map (wrdQ xs)
theorem cutL_in : ∀ (n a : Nat), xs.length - a < n → ∀ q ∈ cutL xs a, q.2 ≤ xs.length := by
  intro n
  induction n with
  | zero => intro a h; omega
  | succ n ih =>
    intro a h q hq
    by_cases hl : a < xs.length
    · cases hf : fst0 xs a with
      | true =>
        rw [cutL_t hl hf] at hq
        rcases List.mem_cons.mp hq with rfl | hq
        · exact scanW_le (by omega)
        · exact ih (a + 1) (by omega) q hq
      | false => rw [cutL_f hl hf] at hq; exact ih (a + 1) (by omega) q hq
    · rw [cutL_e (by omega)] at hq; cases hq
/-- characters from a place on -/
theorem qW_wrd {a b : Nat} (hb : b ≤ xs.length) : qW xs a b = wrdQ xs (a, b) := by
  apply List.ext_getElem?
  intro k
  unfold wrdQ
  rw [List.getElem?_map, List.getElem?_take]
  by_cases hk : k < b - a
  · rw [qW_get hk, if_pos hk, List.getElem?_drop, List.getElem?_eq_getElem (by omega)]
    unfold at0
    rw [List.getD_eq_getElem?_getD, List.getElem?_eq_getElem (by omega)]
    rfl
  · rw [if_neg hk, List.getElem?_eq_none (by rw [qW_len]; omega)]; rfl
theorem tokW_wrd {P : mP} {T : mT} {p i : Nat} (hx : txA P p xs) (ht : tkA T p (cutL xs 0)) (hi : i < T.1 p) : tokW P T (12 * p + i) = (twL xs).getD i [] := by
  have hi2 : i < (cutL xs 0).length := by rw [← ht.1]; exact hi
  have hg := List.getElem?_eq_getElem hi2
  obtain ⟨e1, e2⟩ := ht.2 i _ hg
  have hin := cutL_in (xs := xs) _ 0 (Nat.lt_succ_self _) _ (List.getElem_mem hi2)
  have e3 : (twL xs).getD i [] = wrdQ xs (cutL xs 0)[i] := by
    unfold twL
    rw [List.getD_eq_getElem?_getD, List.getElem?_map, hg]; rfl
  rw [e3, ← show qW xs (cutL xs 0)[i].1 (cutL xs 0)[i].2 = wrdQ xs (cutL xs 0)[i] from qW_wrd hin]
  apply List.ext_getElem?
  intro k
  by_cases hk : k < (cutL xs 0)[i].2 - (cutL xs 0)[i].1
  · rw [tokW_get (by rw [e1, e2]; omega), qW_get hk, e1, show 24 * p + (cutL xs 0)[i].1 + k = 24 * p + ((cutL xs 0)[i].1 + k) by omega, hx.2 _ (by omega)]
  · rw [List.getElem?_eq_none (by rw [tokW_len, e1, e2]; omega), List.getElem?_eq_none (by rw [qW_len]; omega)]
end TK

/-- a segment's terms, made of its words, the newest first -/
def tsR : List (List Nat × Nat) → List (List Nat × Int32)
  | [] => []
  | x :: r => addP (tsR r) x.1 x.2
def lkp (ts : List (List Nat × Int32)) (w : List Nat) : Int32 := bAt ts (fT ts w)
theorem fT_map : ∀ (ts us : List (List Nat × Int32)) (w : List Nat), ts.map Prod.fst = us.map Prod.fst → fT ts w = fT us w := by
  intro ts
  induction ts with
  | nil => intro us w h; cases us with
    | nil => rfl
    | cons p us => cases h
  | cons q ts ih => intro us w h; cases us with
    | nil => cases h
    | cons p us =>
      rw [List.map_cons, List.map_cons] at h
      obtain ⟨h1, h2⟩ := List.cons.inj h
      unfold fT
      rw [h1, ih us w h2]
theorem fT_app : ∀ (ts : List (List Nat × Int32)) (w u : List Nat) (b : Int32), fT (ts ++ [(w, b)]) u = if fT ts u < ts.length then fT ts u else if w = u then ts.length else ts.length + 1 := by
  intro ts
  induction ts with
  | nil => intro w u b; show (if w = u then 0 else 0 + 1) = if (0 : Nat) < 0 then _ else _; rw [if_neg (Nat.lt_irrefl 0)]; rfl
  | cons q ts ih =>
    intro w u b
    rw [List.cons_append, fT, fT]
    by_cases h : q.1 = u
    · rw [if_pos h, if_pos h, if_pos (by simp)]
    · rw [if_neg h, if_neg h, ih w u b]
      by_cases h2 : fT ts u < ts.length
      · rw [if_pos h2, if_pos (by simp; omega)]
      · have h3 : ¬ fT ts u + 1 < (q :: ts).length := by rw [List.length_cons]; omega
        rw [if_neg h2, if_neg h3]
        by_cases e : w = u
        · rw [if_pos e, if_pos e]; rfl
        · rw [if_neg e, if_neg e]; rfl
theorem bAt_app {ts : List (List Nat × Int32)} {p : List Nat × Int32} {j : Nat} : bAt (ts ++ [p]) j = if j < ts.length then bAt ts j else if j = ts.length then p.2 else 0 := by
  unfold bAt
  by_cases h : j < ts.length
  · rw [if_pos h, List.getElem?_append_left h]
  · rw [if_neg h, List.getElem?_append_right (by omega)]
    by_cases h2 : j = ts.length
    · rw [if_pos h2, h2, Nat.sub_self]; rfl
    · rw [if_neg h2, List.getElem?_eq_none (by simp; omega)]; rfl
theorem bAt_big {ts : List (List Nat × Int32)} {j : Nat} (h : ts.length ≤ j) : bAt ts j = 0 := by unfold bAt; rw [List.getElem?_eq_none h]; rfl
theorem addP_keys {ts : List (List Nat × Int32)} {w : List Nat} {k : Nat} : (addP ts w k).map Prod.fst = if fT ts w < ts.length then ts.map Prod.fst else ts.map Prod.fst ++ [w] := by
  unfold addP
  by_cases h : fT ts w < ts.length
  · rw [if_pos h, if_pos h]
    obtain ⟨b, hb⟩ := fT_get h
    rw [List.map_set]
    apply List.ext_getElem?
    intro i
    rw [List.getElem?_set]
    split
    · next hi =>
      subst hi
      rw [List.length_map, if_pos h, List.getElem?_map, hb]; rfl
    · rfl
  · rw [if_neg h, if_neg h, List.map_append]; rfl
theorem fT_mem : ∀ (ts : List (List Nat × Int32)) (w : List Nat), fT ts w < ts.length ↔ w ∈ ts.map Prod.fst := by
  intro ts
  induction ts with
  | nil => intro w; simp [fT]
  | cons q ts ih =>
    intro w
    rw [fT, List.map_cons, List.mem_cons, ← ih w]
    by_cases h : q.1 = w
    · rw [if_pos h]; simp [h]
    · rw [if_neg h]
      constructor
      · intro g; right; simpa using g
      · rintro (g | g)
        · exact absurd g.symm h
        · simpa using g
theorem fT_inj {ts : List (List Nat × Int32)} {u w : List Nat} (h : fT ts w < ts.length) (e : fT ts u = fT ts w) : u = w := by
  obtain ⟨b, hb⟩ := fT_get h
  obtain ⟨c, hc⟩ := fT_get (w := u) (by rw [e]; exact h)
  rw [e, hb] at hc
  cases hc
  rfl
theorem lkp_add {ts : List (List Nat × Int32)} {w u : List Nat} {k : Nat} : lkp (addP ts w k) u = if u = w then lkp ts w ||| bitI k else lkp ts u := by
  by_cases h : fT ts w < ts.length
  · have hk : (addP ts w k).map Prod.fst = ts.map Prod.fst := by rw [addP_keys, if_pos h]
    unfold lkp
    rw [fT_map _ _ u hk]
    unfold addP
    rw [if_pos h, bAt_set h]
    by_cases e : u = w
    · rw [if_pos e, e, if_pos rfl]
    · rw [if_neg e, if_neg (fun g => e (fT_inj h g))]
  · have hw : fT ts w = ts.length := by have := fT_le ts w; omega
    unfold lkp addP
    rw [if_neg h, fT_app, bAt_app]
    by_cases h2 : fT ts u < ts.length
    · rw [if_pos h2, if_pos h2, if_neg (fun g => h (by rw [← g]; exact h2))]
    · rw [if_neg h2]
      by_cases e : u = w
      · rw [if_pos e.symm, if_neg (Nat.lt_irrefl _), if_pos rfl, if_pos e, bAt_big (by omega)]
        apply b_ext
        intro i _
        rw [b_or, b_0]; simp
      · have e' : ¬ w = u := fun g => e g.symm
        rw [if_neg e', if_neg (show ¬ ts.length + 1 < ts.length by omega), if_neg (show ¬ ts.length + 1 = ts.length by omega), if_neg e, bAt_big (by omega)]
theorem bt_bitI {k j : Nat} (hk : k < 32) (hj : j < 32) : bt (bitI k) j = decide (j = k) := by
  unfold bitI
  rw [b_shl k hk _ hj]
  by_cases h : k ≤ j
  · rw [nI1_bits _ (by omega), decide_eq_true h, Bool.true_and]
    by_cases e : j = k
    · rw [decide_eq_true e, decide_eq_true (by omega)]
    · rw [decide_eq_false e, decide_eq_false (by omega)]
  · rw [decide_eq_false h, decide_eq_false (by omega)]; rfl
theorem tsR_mem : ∀ (r : List (List Nat × Nat)) (w : List Nat), w ∈ (tsR r).map Prod.fst ↔ w ∈ r.map Prod.fst := by
  intro r
  induction r with
  | nil => intro w; exact Iff.rfl
  | cons x r ih =>
    intro w
    rw [tsR, addP_keys, List.map_cons, List.mem_cons]
    split
    · next h =>
      rw [ih w]
      have hx := (ih x.1).mp ((fT_mem _ _).mp h)
      constructor
      · exact Or.inr
      · rintro (g | g)
        · rw [g]; exact hx
        · exact g
    · rw [List.mem_append, ih w, List.mem_singleton]
      exact ⟨fun g => g.symm, fun g => g.symm⟩
theorem tsR_bit : ∀ (r : List (List Nat × Nat)) (w : List Nat) (k : Nat), (∀ x ∈ r, x.2 < 32) → k < 32 → bt (lkp (tsR r) w) k = decide ((w, k) ∈ r) := by
  intro r
  induction r with
  | nil => intro w k _ hk; show bt (bAt [] 0) k = _; rw [show bAt [] 0 = 0 from rfl, b_0, decide_eq_false (by simp)]
  | cons x r ih =>
    intro w k hr hk
    have hx := hr x List.mem_cons_self
    have ihh := ih w k (fun y hy => hr y (List.mem_cons_of_mem _ hy)) hk
    rw [tsR, lkp_add]
    by_cases e : w = x.1
    · rw [if_pos e, ← e, b_or, ihh, bt_bitI hx hk]
      by_cases g : (w, k) ∈ r
      · rw [decide_eq_true g, decide_eq_true (List.mem_cons_of_mem _ g)]; rfl
      · rw [decide_eq_false g, Bool.false_or]
        by_cases g2 : k = x.2
        · rw [decide_eq_true g2, decide_eq_true (by rw [e, g2]; exact List.mem_cons_self)]
        · rw [decide_eq_false g2, decide_eq_false]
          intro g3
          rcases List.mem_cons.mp g3 with g3 | g3
          · exact g2 (by rw [← g3])
          · exact g g3
    · rw [if_neg e, ihh]
      by_cases g : (w, k) ∈ r
      · rw [decide_eq_true g, decide_eq_true (List.mem_cons_of_mem _ g)]
      · rw [decide_eq_false g, decide_eq_false]
        intro g3
        rcases List.mem_cons.mp g3 with g3 | g3
        · exact e (by rw [← g3])
        · exact g g3
theorem tsR_nd : ∀ r : List (List Nat × Nat), ((tsR r).map Prod.fst).Nodup := by
  intro r
  induction r with
  | nil => exact List.nodup_nil
  | cons x r ih =>
    rw [tsR, addP_keys]
    split
    · exact ih
    · next h =>
      rw [List.nodup_append]
      refine ⟨ih, by simp, fun a ha b hb e => ?_⟩
      rw [List.mem_singleton] at hb
      rw [e, hb] at ha
      exact h ((fT_mem _ _).mpr ha)
/-- sums over the terms -/
def sumK (F : List Nat → Nat) : List (List Nat) → Nat
  | [] => 0
  | w :: ks => F w + sumK F ks
theorem sumK_app (F : List Nat → Nat) (ks : List (List Nat)) (w : List Nat) : sumK F (ks ++ [w]) = sumK F ks + F w := by
  induction ks with
  | nil => show F w + 0 = 0 + F w; omega
  | cons k ks ih => rw [List.cons_append, sumK, sumK, ih]; omega
theorem sumK_congr {F G : List Nat → Nat} {ks : List (List Nat)} (h : ∀ w ∈ ks, F w = G w) : sumK F ks = sumK G ks := by
  induction ks with
  | nil => rfl
  | cons k ks ih => rw [sumK, sumK, h k List.mem_cons_self, ih (fun w hw => h w (List.mem_cons_of_mem _ hw))]
theorem sumT_K (f : Int32 → Nat) : ∀ ts : List (List Nat × Int32), (ts.map Prod.fst).Nodup → sumT f ts = sumK (fun w => f (lkp ts w)) (ts.map Prod.fst) := by
  intro ts
  induction ts with
  | nil => intro _; rfl
  | cons q ts ih =>
    intro h
    rw [List.map_cons, List.nodup_cons] at h
    rw [sumT, List.map_cons, sumK, ih h.2]
    have e1 : lkp (q :: ts) q.1 = q.2 := by unfold lkp fT; rw [if_pos rfl]; rfl
    rw [e1]
    congr 1
    apply sumK_congr
    intro w hw
    have hne : ¬ q.1 = w := fun e => h.1 (by rw [e]; exact hw)
    have e2 : lkp (q :: ts) w = lkp ts w := by unfold lkp; rw [fT, if_neg hne]; rfl
    rw [e2]
/-- the same, over the words as they came -/
def sumF (F : List Nat → Nat) : List (List Nat × Nat) → Nat
  | [] => 0
  | x :: r => sumF F r + (if x.1 ∈ r.map Prod.fst then 0 else F x.1)
theorem sumK_F (F : List Nat → Nat) : ∀ r : List (List Nat × Nat), sumK F ((tsR r).map Prod.fst) = sumF F r := by
  intro r
  induction r with
  | nil => rfl
  | cons x r ih =>
    rw [tsR, addP_keys, sumF]
    by_cases h : fT (tsR r) x.1 < (tsR r).length
    · rw [if_pos h, if_pos ((tsR_mem r x.1).mp ((fT_mem _ _).mp h)), ih]; rfl
    · rw [if_neg h, if_neg (fun g => h ((fT_mem _ _).mpr ((tsR_mem r x.1).mpr g))), sumK_app, ih]
theorem sumT_F (f : Int32 → Nat) (r : List (List Nat × Nat)) : sumT f (tsR r) = sumF (fun w => f (lkp (tsR r) w)) r := by
  rw [sumT_K f _ (tsR_nd r), sumK_F]
theorem sumK_1 (ks : List (List Nat)) : sumK (fun _ => 1) ks = ks.length := by
  induction ks with
  | nil => rfl
  | cons k ks ih => rw [sumK, ih, List.length_cons]; omega
theorem tsR_len (r : List (List Nat × Nat)) : (tsR r).length = sumF (fun _ => 1) r := by
  rw [← sumK_F, sumK_1, List.length_map]
theorem sumF_1 (r : List (List Nat × Nat)) : sumF (fun _ => 1) r ≤ r.length := by
  induction r with
  | nil => exact Nat.le_refl _
  | cons x r ih => rw [sumF, List.length_cons]; split <;> omega
theorem sumF_congr {F G : List Nat → Nat} {r : List (List Nat × Nat)} (h : ∀ w ∈ r.map Prod.fst, F w = G w) : sumF F r = sumF G r := by
  induction r with
  | nil => rfl
  | cons x r ih =>
    rw [sumF, sumF, ih (fun w hw => h w (by rw [List.map_cons]; exact List.mem_cons_of_mem _ hw)), h x.1 (by rw [List.map_cons]; exact List.mem_cons_self)]
/-- the words of a segment, as they came, the newest first -/
def strP (ws : List (List Nat)) (v : Nat) : Nat → List (List Nat × Nat) → List (List Nat × Nat)
  | 0, r => r
  | n + 1, r => (ws.getD n [], 8 * v + min n 7) :: strP ws v n r
def strG (W : Nat → List (List Nat)) (ix : Nat → Nat) (g : Nat) : Nat → List (List Nat × Nat)
  | 0 => []
  | v + 1 => strP (W (4 * g + v)) v (ix (4 * g + v)) (strG W ix g v)
theorem strP_mem {ws : List (List Nat)} {v n : Nat} {r : List (List Nat × Nat)} {x : List Nat × Nat} : x ∈ strP ws v n r ↔ (∃ j, j < n ∧ ws.getD j [] = x.1 ∧ 8 * v + min j 7 = x.2) ∨ x ∈ r := by
  induction n with
  | zero => exact ⟨Or.inr, fun h => h.elim (fun ⟨j, h, _⟩ => by omega) id⟩
  | succ n ih =>
    rw [strP, List.mem_cons, ih]
    constructor
    · rintro (h | ⟨j, h1, h2⟩ | h)
      · exact Or.inl ⟨n, by omega, by rw [h], by rw [h]⟩
      · exact Or.inl ⟨j, by omega, h2⟩
      · exact Or.inr h
    · rintro (⟨j, h1, h2, h3⟩ | h)
      · by_cases e : j = n
        · left; subst e; exact Prod.ext h2.symm h3.symm
        · right; left; exact ⟨j, by omega, h2, h3⟩
      · exact Or.inr (Or.inr h)
theorem strG_mem {W : Nat → List (List Nat)} {ix : Nat → Nat} {g d : Nat} {x : List Nat × Nat} : x ∈ strG W ix g d ↔ ∃ v, v < d ∧ ∃ j, j < ix (4 * g + v) ∧ (W (4 * g + v)).getD j [] = x.1 ∧ 8 * v + min j 7 = x.2 := by
  induction d with
  | zero => exact ⟨fun h => (by cases h), fun ⟨v, h, _⟩ => by omega⟩
  | succ d ih =>
    rw [strG, strP_mem, ih]
    constructor
    · rintro (h | ⟨v, h1, h2⟩)
      · exact ⟨d, by omega, h⟩
      · exact ⟨v, by omega, h2⟩
    · rintro ⟨v, h1, h2⟩
      by_cases e : v = d
      · left; subst e; exact h2
      · right; exact ⟨v, by omega, h2⟩
theorem str_w {r : List (List Nat × Nat)} {w : List Nat} : w ∈ r.map Prod.fst ↔ ∃ k, (w, k) ∈ r := by
  constructor
  · intro h
    obtain ⟨x, h1, h2⟩ := List.mem_map.mp h
    exact ⟨x.2, by rw [← h2]; exact h1⟩
  · rintro ⟨k, h⟩
    exact List.mem_map.mpr ⟨_, h, rfl⟩
theorem strG_w {W : Nat → List (List Nat)} {ix : Nat → Nat} {g d : Nat} {w : List Nat} : w ∈ (strG W ix g d).map Prod.fst ↔ ∃ v, v < d ∧ ∃ j, j < ix (4 * g + v) ∧ (W (4 * g + v)).getD j [] = w := by
  rw [str_w]
  constructor
  · rintro ⟨k, h⟩
    obtain ⟨v, h1, j, h2, h3, _⟩ := strG_mem.mp h
    exact ⟨v, h1, j, h2, h3⟩
  · rintro ⟨v, h1, j, h2, h3⟩
    exact ⟨_, strG_mem.mpr ⟨v, h1, j, h2, h3, rfl⟩⟩
theorem strP_w {ws : List (List Nat)} {v n : Nat} {r : List (List Nat × Nat)} {w : List Nat} : w ∈ (strP ws v n r).map Prod.fst ↔ (∃ j, j < n ∧ ws.getD j [] = w) ∨ w ∈ r.map Prod.fst := by
  rw [str_w, str_w]
  constructor
  · rintro ⟨k, h⟩
    rcases strP_mem.mp h with ⟨j, h1, h2, _⟩ | h
    · exact Or.inl ⟨j, h1, h2⟩
    · exact Or.inr ⟨k, h⟩
  · rintro (⟨j, h1, h2⟩ | ⟨k, h⟩)
    · exact ⟨_, strP_mem.mpr (Or.inl ⟨j, h1, h2, rfl⟩)⟩
    · exact ⟨k, strP_mem.mpr (Or.inr h)⟩
theorem strP_len {ws : List (List Nat)} {v n : Nat} {r : List (List Nat × Nat)} : (strP ws v n r).length = n + r.length := by
  induction n with
  | zero => show r.length = 0 + r.length; omega
  | succ n ih => rw [strP, List.length_cons, ih]; omega
theorem strG_32 {W : Nat → List (List Nat)} {ix : Nat → Nat} {g d : Nat} (hd : d ≤ 4) : ∀ x ∈ strG W ix g d, x.2 < 32 := by
  intro x hx
  obtain ⟨v, h1, j, h2, h3, h4⟩ := strG_mem.mp hx
  omega
/-- whether a word stands at a place of a post -/
def plB (ws : List (List Nat)) (n pl : Nat) (w : List Nat) : Bool := decide (∃ j, j < n ∧ ws.getD j [] = w ∧ min j 7 = pl)
theorem seg_bit {W : Nat → List (List Nat)} {ix : Nat → Nat} {g v pl : Nat} {w : List Nat} (hv : v < 4) (hp : pl < 8) : bt (lkp (tsR (strG W ix g 4)) w) (8 * v + pl) = plB (W (4 * g + v)) (ix (4 * g + v)) pl w := by
  rw [tsR_bit _ _ _ (strG_32 (Nat.le_refl _)) (by omega)]
  unfold plB
  apply decide_eq_decide.mpr
  rw [strG_mem]
  constructor
  · rintro ⟨v', h1, j, h2, h3, h4⟩
    have : v' = v := by omega
    subst this
    exact ⟨j, h2, h3, by omega⟩
  · rintro ⟨j, h2, h3, h4⟩
    exact ⟨v, hv, j, h2, h3, by omega⟩

theorem exB_iff {f : Nat → Bool} {n : Nat} : exB f n = true ↔ ∃ i, i < n ∧ f i = true := by
  constructor
  · intro h
    apply Classical.byContradiction
    intro g
    rw [exB_f (fun i hi => by
      cases hh : f i with
      | false => rfl
      | true => exact absurd ⟨i, hi, hh⟩ g)] at h
    cases h
  · rintro ⟨i, h1, h2⟩
    exact exB_t h1 h2
theorem alB_iff {f : Nat → Bool} {n : Nat} : alB f n = true ↔ ∀ i, i < n → f i = true := by
  constructor
  · intro h i hi
    cases hh : f i with
    | true => rfl
    | false => rw [alB_f hi hh] at h; cases h
  · exact alB_t
theorem bool_eq {a b : Bool} (h : a = true ↔ b = true) : a = b := by cases a <;> cases b <;> simp at h ⊢
theorem pcs_congr {f g : Nat → Bool} : ∀ (m b : Nat), (∀ i, i < m → f i = g i) → pcs f m b = pcs g m b := by
  intro m
  induction m with
  | zero => intro b _; rfl
  | succ m ih =>
    intro b h
    rw [pcs, pcs, h m (by omega), ih m (fun i hi => h i (by omega)), ih b (fun i hi => h i (by omega))]
/-- the posts' texts and tokens on both sides -/
def txS (P : mP) (T : mT) (tx : Nat → List Nat) : Prop := ∀ i, i < 24 → txA P i (tx i) ∧ tkA T i (cutL (tx i) 0)
def wW (tx : Nat → List Nat) (p : Nat) : List (List Nat) := twL (tx p)
section MS
variable {B : mB} {P : mP} {T : mT} {tx : Nat → List Nat}
theorem idx_le {p : Nat} (hd : B.2.1 < B.1 → B.2.2.1 ≤ T.1 B.2.1) : idxN B T.1 p ≤ T.1 p := by
  unfold idxN
  split
  · exact Nat.le_refl _
  · split
    · next h => have := hd (by omega); rw [h.1]; exact this
    · exact Nat.zero_le _
theorem tok_w (h : txS P T tx) {p i : Nat} (hp : p < 24) (hi : i < T.1 p) : tokW P T (12 * p + i) = (wW tx p).getD i [] := tokW_wrd (h p hp).1 (h p hp).2 hi
theorem pst_pl (h : txS P T tx) (hd : B.2.1 < B.1 → B.2.2.1 ≤ T.1 B.2.1) {p pl t : Nat} (hp : p < 24) (hpl : pl < 8) : pstB B P T p pl t = plB (wW tx p) (idxN B T.1 p) pl (tokW P T t) := by
  have hi := idx_le (T := T) (p := p) hd
  apply bool_eq
  unfold plB pstB
  rw [decide_eq_true_iff]
  by_cases h7 : pl = 7
  · rw [if_pos h7, exB_iff]
    constructor
    · rintro ⟨d, h1, h2⟩
      have h2 := of_decide_eq_true h2
      rw [tok_w h hp (by omega)] at h2
      exact ⟨7 + d, by omega, h2, by omega⟩
    · rintro ⟨j, h1, h2, h3⟩
      refine ⟨j - 7, by omega, decide_eq_true ?_⟩
      rw [show 7 + (j - 7) = j by omega, tok_w h hp (by omega)]
      exact h2
  · rw [if_neg h7, Bool.and_eq_true, decide_eq_true_iff]
    constructor
    · rintro ⟨h1, h2⟩
      have h2 := of_decide_eq_true h2
      rw [tok_w h hp (by omega)] at h2
      exact ⟨pl, h1, h2, by omega⟩
    · rintro ⟨j, h1, h2, h3⟩
      have : j = pl := by omega
      subst this
      refine ⟨h1, decide_eq_true ?_⟩
      rw [tok_w h hp (by omega)]
      exact h2
theorem std_pl (h : txS P T tx) {p pl : Nat} {w : List Nat} (hp : p < 24) (hpl : pl < 8) : stdB P T p pl w = plB (wW tx p) (T.1 p) pl w := by
  apply bool_eq
  unfold plB stdB
  rw [decide_eq_true_iff]
  by_cases h7 : pl = 7
  · rw [if_pos h7, exB_iff]
    constructor
    · rintro ⟨d, h1, h2⟩
      have h2 := of_decide_eq_true h2
      rw [tok_w h hp (by omega)] at h2
      exact ⟨7 + d, by omega, h2, by omega⟩
    · rintro ⟨j, h1, h2, h3⟩
      refine ⟨j - 7, by omega, decide_eq_true ?_⟩
      rw [show 7 + (j - 7) = j by omega, tok_w h hp (by omega)]
      exact h2
  · rw [if_neg h7, Bool.and_eq_true, decide_eq_true_iff]
    constructor
    · rintro ⟨h1, h2⟩
      have h2 := of_decide_eq_true h2
      rw [tok_w h hp (by omega)] at h2
      exact ⟨pl, h1, h2, by omega⟩
    · rintro ⟨j, h1, h2, h3⟩
      have : j = pl := by omega
      subst this
      refine ⟨h1, decide_eq_true ?_⟩
      rw [tok_w h hp (by omega)]
      exact h2
theorem fst_in (h : txS P T tx) (hd : B.2.1 < B.1 → B.2.2.1 ≤ T.1 B.2.1) {g v i : Nat} (hg : g < 6) (hv : v < 4) (hi : i < T.1 (4 * g + v)) : (fstM B P T (4 * g + v) i = true) ↔ ¬ (wW tx (4 * g + v)).getD i [] ∈ (strP (wW tx (4 * g + v)) v i (strG (wW tx) (idxN B T.1) g v)).map Prod.fst := by
  have e4 : (4 * g + v) / 4 * 4 = 4 * g := by omega
  unfold fstM
  rw [e4, show 4 * g + v + 1 - 4 * g = v + 1 by omega, strP_w, strG_w]
  have key : (exB (fun d => exB (fun j => samB P T (12 * (4 * g + d) + j) (12 * (4 * g + v) + i)) (if 4 * g + d < 4 * g + v then idxN B T.1 (4 * g + d) else i)) (v + 1) = true) ↔ ((∃ j, j < i ∧ (wW tx (4 * g + v)).getD j [] = (wW tx (4 * g + v)).getD i []) ∨ ∃ v', v' < v ∧ ∃ j, j < idxN B T.1 (4 * g + v') ∧ (wW tx (4 * g + v')).getD j [] = (wW tx (4 * g + v)).getD i []) := by
    rw [exB_iff]
    constructor
    · rintro ⟨d, h1, h2⟩
      obtain ⟨j, h3, h4⟩ := exB_iff.mp h2
      have h4 := of_decide_eq_true h4
      rw [tok_w h (show 4 * g + v < 24 by omega) hi] at h4
      by_cases e : d = v
      · subst e
        rw [if_neg (Nat.lt_irrefl _)] at h3
        rw [tok_w h (show 4 * g + d < 24 by omega) (by omega)] at h4
        exact Or.inl ⟨j, h3, h4⟩
      · rw [if_pos (by omega)] at h3
        have := idx_le (T := T) (p := 4 * g + d) hd
        rw [tok_w h (show 4 * g + d < 24 by omega) (by omega)] at h4
        exact Or.inr ⟨d, by omega, j, h3, h4⟩
    · rintro (⟨j, h1, h2⟩ | ⟨d, h1, j, h2, h3⟩)
      · refine ⟨v, by omega, exB_iff.mpr ⟨j, by rw [if_neg (Nat.lt_irrefl _)]; exact h1, decide_eq_true ?_⟩⟩
        rw [tok_w h (show 4 * g + v < 24 by omega) hi, tok_w h (show 4 * g + v < 24 by omega) (by omega)]
        exact h2
      · have := idx_le (T := T) (p := 4 * g + d) hd
        refine ⟨d, by omega, exB_iff.mpr ⟨j, by rw [if_pos (by omega)]; exact h2, decide_eq_true ?_⟩⟩
        rw [tok_w h (show 4 * g + v < 24 by omega) hi, tok_w h (show 4 * g + d < 24 by omega) (by omega)]
        exact h3
  rw [← key]
  generalize exB _ _ = b
  cases b <;> simp
/-- a word's measures -/
def msW (W : Nat → List (List Nat)) (ix : Nat → Nat) (g w : Nat) (u : List Nat) : Nat := if w = 3 then 1 else if w = 0 then cnt (fun v => plB (W (4 * g + v / 8)) (ix (4 * g + v / 8)) (v % 8) u) 32 else if w = 1 then slc (cnt (fun v => plB (W (4 * g + v / 8)) (ix (4 * g + v / 8)) (v % 8) u) 32) else pcs (fun v => plB (W (4 * g + v / 8)) (ix (4 * g + v / 8)) (v % 8) u) 32 32
theorem mes_w (h : txS P T tx) (hd : B.2.1 < B.1 → B.2.2.1 ≤ T.1 B.2.1) {g t w : Nat} (hg : g < 6) : (if w = 3 then 1 else mesM B P T g t w) = msW (wW tx) (idxN B T.1) g w (tokW P T t) := by
  have e : ∀ v, v < 32 → pstB B P T (4 * g + v / 8) (v % 8) t = plB (wW tx (4 * g + v / 8)) (idxN B T.1 (4 * g + v / 8)) (v % 8) (tokW P T t) := fun v hv => pst_pl h hd (by omega) (by omega)
  have ec := cnt_congr (f := fun v => pstB B P T (4 * g + v / 8) (v % 8) t) (g := fun v => plB (wW tx (4 * g + v / 8)) (idxN B T.1 (4 * g + v / 8)) (v % 8) (tokW P T t)) (m := 32) e
  have ep := pcs_congr (f := fun v => pstB B P T (4 * g + v / 8) (v % 8) t) (g := fun v => plB (wW tx (4 * g + v / 8)) (idxN B T.1 (4 * g + v / 8)) (v % 8) (tokW P T t)) 32 32 e
  unfold mesM msW
  rw [ec, ep]
theorem sumP_str (h : txS P T tx) (hd : B.2.1 < B.1 → B.2.2.1 ≤ T.1 B.2.1) {g w v : Nat} (hg : g < 6) (hv : v < 4) : ∀ n, n ≤ T.1 (4 * g + v) → sumF (msW (wW tx) (idxN B T.1) g w) (strG (wW tx) (idxN B T.1) g v) + sumP B P T g w (4 * g + v) n = sumF (msW (wW tx) (idxN B T.1) g w) (strP (wW tx (4 * g + v)) v n (strG (wW tx) (idxN B T.1) g v)) := by
  intro n
  induction n with
  | zero => intro _; rfl
  | succ n ih =>
    intro hn
    rw [sumP, strP, sumF, ← ih (by omega)]
    show _ = _ + (if (wW tx (4 * g + v)).getD n [] ∈ _ then 0 else _)
    have hf := fst_in (B := B) h hd hg hv (show n < T.1 (4 * g + v) by omega)
    have hm := mes_w (B := B) h hd (t := 12 * (4 * g + v) + n) (w := w) hg
    rw [tok_w h (by omega) (show n < T.1 (4 * g + v) by omega)] at hm
    by_cases hh : fstM B P T (4 * g + v) n = true
    · rw [if_pos hh, if_neg (hf.mp hh), hm]; exact (Nat.add_assoc _ _ _).symm
    · rw [if_neg hh, if_pos (Classical.byContradiction fun g2 => hh (hf.mpr g2))]; omega
theorem sumM_str (h : txS P T tx) (hd : B.2.1 < B.1 → B.2.2.1 ≤ T.1 B.2.1) {g w : Nat} (hg : g < 6) : ∀ d, d ≤ 4 → sumM B P T g w d = sumF (msW (wW tx) (idxN B T.1) g w) (strG (wW tx) (idxN B T.1) g d) := by
  intro d
  induction d with
  | zero => intro _; rfl
  | succ d ih =>
    intro hd4
    rw [sumM, ih (by omega), strG]
    exact sumP_str h hd hg (by omega) _ (idx_le hd)
theorem seg_bit2 {W : Nat → List (List Nat)} {ix : Nat → Nat} {g v : Nat} {w : List Nat} (hv : v < 32) : bt (lkp (tsR (strG W ix g 4)) w) v = plB (W (4 * g + v / 8)) (ix (4 * g + v / 8)) (v % 8) w := by
  have := seg_bit (W := W) (ix := ix) (g := g) (v := v / 8) (pl := v % 8) (w := w) (by omega) (by omega)
  rw [show 8 * (v / 8) + v % 8 = v by omega] at this
  exact this
/-- both sides count alike -/
theorem terms_eq (h : txS P T tx) (hd : B.2.1 < B.1 → B.2.2.1 ≤ T.1 B.2.1) {g : Nat} (hg : g < 6) : (tsR (strG (wW tx) (idxN B T.1) g 4)).length = sumM B P T g 3 4 := by
  rw [tsR_len, sumM_str h hd hg 4 (Nat.le_refl _)]
  apply sumF_congr
  intro w _
  unfold msW
  rw [if_pos rfl]
theorem postings_eq (h : txS P T tx) (hd : B.2.1 < B.1 → B.2.2.1 ≤ T.1 B.2.1) {g : Nat} (hg : g < 6) : sumT popc (tsR (strG (wW tx) (idxN B T.1) g 4)) = sumM B P T g 0 4 := by
  rw [sumT_F, sumM_str h hd hg 4 (Nat.le_refl _)]
  apply sumF_congr
  intro w _
  unfold msW popc
  rw [if_neg (by decide), if_pos rfl]
  exact cnt_congr (fun v hv => seg_bit2 hv)
theorem size_eq (h : txS P T tx) (hd : B.2.1 < B.1 → B.2.2.1 ≤ T.1 B.2.1) {g : Nat} {pk : Bool} (hg : g < 6) : sumT (cellsOf pk) (tsR (strG (wW tx) (idxN B T.1) g 4)) = sumM B P T g (if pk = true then 2 else 1) 4 := by
  rw [sumT_F, sumM_str h hd hg 4 (Nat.le_refl _)]
  apply sumF_congr
  intro w _
  unfold msW cellsOf
  cases pk with
  | true =>
    rw [if_pos rfl, if_pos rfl, if_neg (by decide), if_neg (by decide), if_neg (by decide)]
    exact pcs_congr 32 32 (fun v hv => seg_bit2 hv)
  | false =>
    have e : popc (lkp (tsR (strG (wW tx) (idxN B T.1) g 4)) w) = cnt (fun v => plB (wW tx (4 * g + v / 8)) (idxN B T.1 (4 * g + v / 8)) (v % 8) w) 32 := cnt_congr (fun v hv => seg_bit2 hv)
    have e2 : (if (false : Bool) = true then 2 else 1) = 1 := rfl
    rw [e2, if_neg (by decide), if_neg (by decide), if_neg (by decide), if_pos rfl, e]
end MS
/-- a row of words -/
theorem nI255 : nI 255 = 255 := by decide
theorem b_plc {ts : List (List Nat × Int32)} {w : List Nat} {slot i : Nat} (hs : slot < 4) : bt (plc ts w slot) i = (decide (i < 8) && bt (lkp ts w) (8 * slot + i)) := by
  unfold plc lkp
  by_cases h : fT ts w < ts.length
  · rw [if_pos h, b_and, nI255, b_255]
    unfold ush
    rw [b_ushr (8 * slot) (by omega), Bool.and_comm]
  · rw [if_neg h, bAt_big (by omega), show nI 0 = 0 from nI_0, b_0, b_0, Bool.and_false]
theorem b_stI {f : Nat → Int32} {i : Nat} : ∀ n, n ≤ 31 → bt (stI f n) i = (decide (i < 8) && alB (fun j => bt (f j) (j + i)) n) := by
  intro n
  induction n with
  | zero => intro _; show bt (nI 255) i = _; rw [nI255, b_255]; exact (Bool.and_true _).symm
  | succ n ih =>
    intro hn
    show bt (stI f n &&& ush (f n) n) i = _
    rw [b_and, ih (by omega)]
    unfold ush
    rw [b_ushr n (by omega)]
    show _ = (decide (i < 8) && (alB (fun j => bt (f j) (j + i)) n && bt (f n) (n + i)))
    rw [Bool.and_assoc]
theorem b_nz {x : Int32} : (¬ x = 0) ↔ ∃ i, i < 32 ∧ bt x i = true := by
  constructor
  · intro h
    apply Classical.byContradiction
    intro g
    apply h
    apply b_ext
    intro i hi
    rw [b_0]
    cases hh : bt x i with
    | false => rfl
    | true => exact absurd ⟨i, hi, hh⟩ g
  · rintro ⟨i, _, h⟩ e
    rw [e, b_0] at h
    cases h
theorem rowI_eq {ts : List (List Nat × Int32)} {U : Nat → List Nat} {slot n : Nat} (hs : slot < 4) (h1 : 1 ≤ n) (h2 : n ≤ 31) : decide (¬ stI (fun j => plc ts (U j) slot) n = nI 0) = exB (fun p0 => alB (fun k => bt (lkp ts (U k)) (8 * slot + (p0 + k))) n) (9 - n) := by
  apply bool_eq
  rw [decide_eq_true_iff, nI_0, b_nz, exB_iff]
  constructor
  · rintro ⟨i, hi, h⟩
    rw [b_stI n h2, Bool.and_eq_true, decide_eq_true_iff, alB_iff] at h
    have hj : ∀ j, j < n → j + i < 8 ∧ bt (lkp ts (U j)) (8 * slot + (j + i)) = true := fun j hj => by
      have := h.2 j hj
      rw [b_plc hs, Bool.and_eq_true, decide_eq_true_iff] at this
      exact this
    have := (hj (n - 1) (by omega)).1
    refine ⟨i, by omega, alB_iff.mpr fun j hj2 => ?_⟩
    rw [Nat.add_comm i j]
    exact (hj j hj2).2
  · rintro ⟨i, hi, h⟩
    rw [alB_iff] at h
    refine ⟨i, by omega, ?_⟩
    rw [b_stI n h2, Bool.and_eq_true, decide_eq_true_iff, alB_iff]
    refine ⟨by omega, fun j hj => ?_⟩
    rw [b_plc hs, Bool.and_eq_true, decide_eq_true_iff]
    have := h j hj
    rw [Nat.add_comm i j] at this
    exact ⟨by omega, this⟩
