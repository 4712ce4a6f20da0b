theorem skp_len {xs : List Nat} {i : Nat} (h : ¬ skp xs i < xs.length) : at0 xs (skp xs i) = 0 := at0_big (by omega)
theorem skp_n32 {xs : List Nat} : ∀ (k i : Nat), xs.length - i < k → ¬ at0 xs (skp xs i) = 32 := by
  intro k
  induction k with
  | zero => intro i h; omega
  | succ k ih =>
    intro i h
    by_cases hc : i < xs.length ∧ at0 xs i = 32
    · rw [skp_s hc.1 hc.2]; exact ih (i + 1) (by omega)
    · have e : skp xs i = i := skp_e (by omega)
      rw [e]
      intro h3
      by_cases hl : i < xs.length
      · exact hc ⟨hl, h3⟩
      · rw [at0_big (by omega)] at h3; omega
theorem skp_skp {xs : List Nat} {i : Nat} : skp xs (skp xs i) = skp xs i := skp_e (Or.inr (skp_n32 _ i (Nat.lt_succ_self _)))
theorem rdP_skp {xs : List Nat} {a : Nat} : rdP xs (skp xs a) = rdP xs a := by unfold rdP; rw [skp_skp]
theorem isWd_0 : isWd 0 = false := by decide
theorem scanW_n {xs : List Nat} : ∀ (k i : Nat), xs.length - i < k → isWd (at0 xs (scanW xs i)) = false := by
  intro k
  induction k with
  | zero => intro i h; omega
  | succ k ih =>
    intro i h
    by_cases hc : i < xs.length ∧ isWd (at0 xs i) = true
    · rw [scanW_s hc.1 hc.2]; exact ih (i + 1) (by omega)
    · have hd : isWd (at0 xs i) = false := by
        by_cases hl : i < xs.length
        · cases hh : isWd (at0 xs i) with
          | false => rfl
          | true => exact absurd ⟨hl, hh⟩ hc
        · rw [at0_big (by omega)]; exact isWd_0
      rw [scanW_e (Or.inr hd)]; exact hd
theorem tokEnd_n {xs : List Nat} {i : Nat} (h : i < tokEnd xs i) : isWd (at0 xs (tokEnd xs i)) = false := by
  unfold tokEnd at h ⊢
  split
  · exact scanW_n _ _ (Nat.lt_succ_self _)
  · next hn => rw [if_neg hn] at h; omega
/-- a word's piece, as both sides see it -/
theorem isWd_lt {xs : List Nat} {k : Nat} (h : isWd (at0 xs k) = true) : k < xs.length := by
  by_cases hl : k < xs.length
  · exact hl
  · rw [at0_big (by omega)] at h; exact absurd h (by decide)
theorem scanW_1 {xs : List Nat} {k : Nat} (h : isWd (at0 xs k) = true) : scanW xs k = scanW xs (k + 1) := scanW_s (isWd_lt h) h
theorem at0_lt {xs : List Nat} {k c : Nat} (h : at0 xs k = c) (hc : c ≠ 0) : k < xs.length := by
  by_cases hl : k < xs.length
  · exact hl
  · rw [at0_big (by omega)] at h; omega
theorem tokEnd_m {xs : List Nat} {s : Nat} (hm : at0 xs s = 35 ∨ at0 xs s = 64) : tokEnd xs s = if scanW xs (s + 1) = s + 1 then s else scanW xs (s + 1) := by
  have hge := @scanW_ge xs (s + 1)
  have e : tokS xs s = s + 1 := by unfold tokS; exact if_pos hm
  unfold tokEnd
  rw [e]
  by_cases h : scanW xs (s + 1) = s + 1
  · rw [if_pos h, if_neg (by omega)]
  · rw [if_neg h, if_pos (by omega)]
theorem tokEnd_w {xs : List Nat} {s : Nat} (hw : isWd (at0 xs s) = true) : tokEnd xs s = scanW xs (s + 1) := by
  have hge := @scanW_ge xs (s + 1)
  have hm : ¬ (at0 xs s = 35 ∨ at0 xs s = 64) := by
    intro h; rcases h with h | h <;> rw [h] at hw <;> exact absurd hw (by decide)
  have e : tokS xs s = s := by unfold tokS; exact if_neg hm
  unfold tokEnd
  rw [e, scanW_1 hw]
  exact if_pos (by omega)
theorem tokEnd_o {xs : List Nat} {s : Nat} (hm : ¬ (at0 xs s = 35 ∨ at0 xs s = 64)) (hw : isWd (at0 xs s) = false) : tokEnd xs s = s := by
  have e : tokS xs s = s := by unfold tokS; exact if_neg hm
  unfold tokEnd
  rw [e, scanW_e (Or.inr hw)]
  exact if_neg (Nat.lt_irrefl _)
theorem rdP_w {xs : List Nat} {a : Nat} : (rdP xs a).1 = nI 1 ↔ skp xs a < tokEnd xs (skp xs a) := by
  have hge := @scanW_ge xs (skp xs a + 1)
  by_cases h0 : xs.length ≤ skp xs a
  · rw [tokEnd_o (by rw [at0_big h0]; decide) (by rw [at0_big h0]; decide)]
    unfold rdP
    rw [if_pos h0]
    constructor
    · intro h; exact absurd (show nI 0 = nI 1 from h) (by decide)
    · intro h; omega
  · by_cases hm : at0 xs (skp xs a) = 35 ∨ at0 xs (skp xs a) = 64
    · rw [tokEnd_m hm]
      unfold rdP
      rw [if_neg h0, if_pos (Or.inr hm)]
      by_cases hs : scanW xs (skp xs a + 1) = skp xs a + 1
      · rw [if_pos ⟨hm, hs⟩, if_pos hs]
        constructor
        · intro h; exact absurd (show (-1 : Int32) = nI 1 from h) (by decide)
        · intro h; omega
      · rw [if_neg (fun h => hs h.2), if_neg hs]
        exact ⟨fun _ => by omega, fun _ => rfl⟩
    · by_cases hw : isWd (at0 xs (skp xs a)) = true
      · rw [tokEnd_w hw]
        unfold rdP
        rw [if_neg h0, if_pos (Or.inl hw), if_neg (fun h => hm h.1)]
        exact ⟨fun _ => by omega, fun _ => rfl⟩
      · rw [tokEnd_o hm (by simpa using hw)]
        constructor
        · intro h
          exfalso
          revert h
          unfold rdP
          rw [if_neg h0, if_neg (fun h => h.elim hw hm)]
          by_cases h3 : at0 xs (skp xs a) = 61 ∨ at0 xs (skp xs a) = 60 ∨ at0 xs (skp xs a) = 62
          · rw [if_pos h3]
            show ((if _ then (-1 : Int32) else nI 2) = nI 1) → False
            split <;> decide
          · rw [if_neg h3]
            show ((if _ then nI (at0 xs (skp xs a)) else (-1 : Int32)) = nI 1) → False
            split
            · next h3 => rcases h3 with h3 | h3 | h3 | h3 | h3 <;> rw [h3] <;> decide
            · decide
        · intro h; omega
theorem rdP_w2 {xs : List Nat} {a : Nat} (h : (rdP xs a).1 = nI 1) : (rdP xs a).2.1 = skp xs a ∧ (rdP xs a).2.2 = tokEnd xs (skp xs a) := by
  have h2 := rdP_w.mp h
  by_cases h0 : xs.length ≤ skp xs a
  · rw [tokEnd_o (by rw [at0_big h0]; decide) (by rw [at0_big h0]; decide)] at h2
    omega
  · by_cases hm : at0 xs (skp xs a) = 35 ∨ at0 xs (skp xs a) = 64
    · rw [tokEnd_m hm] at h2 ⊢
      unfold rdP
      rw [if_neg h0, if_pos (Or.inr hm)]
      by_cases hs : scanW xs (skp xs a + 1) = skp xs a + 1
      · rw [if_pos hs] at h2; omega
      · rw [if_neg hs]; exact ⟨rfl, rfl⟩
    · by_cases hw : isWd (at0 xs (skp xs a)) = true
      · rw [tokEnd_w hw]
        unfold rdP
        rw [if_neg h0, if_pos (Or.inl hw)]
        exact ⟨rfl, rfl⟩
      · rw [tokEnd_o hm (by simpa using hw)] at h2
        omega
/-- a sign's piece -/
theorem rdP_sg {xs : List Nat} {a c : Nat} (h : at0 xs (skp xs a) = c) (hc : c = 124 ∨ c = 45 ∨ c = 34 ∨ c = 40 ∨ c = 41) : rdP xs a = (nI c, skp xs a, skp xs a + 1) := by
  have hl : skp xs a < xs.length := at0_lt h (by omega)
  unfold rdP
  rw [if_neg (by omega), h]
  rw [if_neg (by rcases hc with h | h | h | h | h <;> subst h <;> decide), if_neg (by omega), if_pos hc]
theorem rdP_end {xs : List Nat} {a : Nat} (h : at0 xs (skp xs a) = 0) (hc : ∀ k, k < xs.length → 32 ≤ at0 xs k) : (rdP xs a).1 = nI 0 := by
  unfold rdP
  rw [if_pos (by
    apply Nat.le_of_not_lt
    intro hl
    have := hc _ hl
    omega)]
theorem rdP_n0 {xs : List Nat} {a : Nat} (h : ¬ at0 xs (skp xs a) = 0) : ¬ (rdP xs a).1 = nI 0 := by
  have hl : skp xs a < xs.length := at0_lt rfl h
  unfold rdP
  rw [if_neg (by omega)]
  split
  · show ¬ ((if _ then (-1 : Int32) else nI 1) = nI 0); split <;> decide
  · split
    · show ¬ ((if _ then (-1 : Int32) else nI 2) = nI 0); split <;> decide
    · show ¬ ((if _ then nI (at0 xs (skp xs a)) else (-1 : Int32)) = nI 0)
      split
      · next h3 => rcases h3 with h3 | h3 | h3 | h3 | h3 <;> rw [h3] <;> decide
      · decide
/-- any other character: no piece -/
theorem rdP_bad {xs : List Nat} {a : Nat} (h : ¬ at0 xs (skp xs a) = 0) (hw : ¬ skp xs a < tokEnd xs (skp xs a)) (hf : ¬ (at0 xs (skp xs a) = 61 ∨ at0 xs (skp xs a) = 60 ∨ at0 xs (skp xs a) = 62)) (hs : ¬ (at0 xs (skp xs a) = 124 ∨ at0 xs (skp xs a) = 45 ∨ at0 xs (skp xs a) = 34 ∨ at0 xs (skp xs a) = 40 ∨ at0 xs (skp xs a) = 41)) : (rdP xs a).1 = -1 := by
  have hl : skp xs a < xs.length := at0_lt rfl h
  have hn : ¬ (rdP xs a).1 = nI 1 := fun g => hw (rdP_w.mp g)
  unfold rdP at hn ⊢
  rw [if_neg (by omega)] at hn ⊢
  by_cases h1 : isWd (at0 xs (skp xs a)) = true ∨ (at0 xs (skp xs a) = 35 ∨ at0 xs (skp xs a) = 64)
  · rw [if_pos h1] at hn ⊢
    show (if _ then (-1 : Int32) else nI 1) = -1
    by_cases h2 : (at0 xs (skp xs a) = 35 ∨ at0 xs (skp xs a) = 64) ∧ scanW xs (skp xs a + 1) = skp xs a + 1
    · exact if_pos h2
    · rw [if_neg h2] at hn; exact absurd rfl hn
  · rw [if_neg h1, if_neg hf, if_neg hs]
theorem jRun_skp {rowV : List (Nat × Nat) → Bool} {filV : Nat → Nat → Bool} {xs : List Nat} {f a : Nat} {st : List mL} : jRun rowV filV xs f (skp xs a) st = jRun rowV filV xs f a st := by
  cases f with
  | zero => rfl
  | succ f =>
    unfold jRun
    have : ∀ l st, jStp rowV filV xs (skp xs a) l st = jStp rowV filV xs a l st := by
      intro l st; unfold jStp; rw [rdP_skp]
    rw [rdP_skp]
    cases st with
    | nil => rfl
    | cons l st => simp only [this]

section PQ
variable {rowV : List (Nat × Nat) → Bool} {filV : Nat → Nat → Bool} {xs : List Nat}
/-- the judge goes from here to there; and it answers that this is no query -/
def jGo (rowV : List (Nat × Nat) → Bool) (filV : Nat → Nat → Bool) (xs : List Nat) (a : Nat) (st : List mL) (a' : Nat) (st' : List mL) : Prop := ∀ f, xs.length - a < f → ∃ f', xs.length - a' < f' ∧ jRun rowV filV xs f a st = jRun rowV filV xs f' a' st'
def jNo (rowV : List (Nat × Nat) → Bool) (filV : Nat → Nat → Bool) (xs : List Nat) (a : Nat) (st : List mL) : Prop := ∀ f, xs.length - a < f → jRun rowV filV xs f a st = -1
theorem jGo.rf {a : Nat} {st : List mL} : jGo rowV filV xs a st a st := fun f h => ⟨f, h, rfl⟩
theorem jGo.tr {a b c : Nat} {s1 s2 s3 : List mL} (h : jGo rowV filV xs a s1 b s2) (g : jGo rowV filV xs b s2 c s3) : jGo rowV filV xs a s1 c s3 := fun f hf => by
  obtain ⟨f1, h1, e1⟩ := h f hf
  obtain ⟨f2, h2, e2⟩ := g f1 h1
  exact ⟨f2, h2, e1.trans e2⟩
theorem jGo.no {a b : Nat} {s1 s2 : List mL} (h : jGo rowV filV xs a s1 b s2) (g : jNo rowV filV xs b s2) : jNo rowV filV xs a s1 := fun f hf => by
  obtain ⟨f1, h1, e1⟩ := h f hf
  exact e1.trans (g f1 h1)
theorem jGo_skp {a : Nat} {st : List mL} : jGo rowV filV xs a st (skp xs a) st := fun f hf => ⟨f, by have := @skp_ge xs a; omega, jRun_skp.symm⟩
theorem jGo_step {a t : Nat} {l : mL} {st st2 : List mL} (h0 : ¬ (rdP xs a).1 = nI 0) (h : jStp rowV filV xs a l st = some (t, st2)) (h1 : a < t) (h2 : t ≤ xs.length) : jGo rowV filV xs a (l :: st) t st2 := fun f hf => by
  cases f with
  | zero => omega
  | succ f => exact ⟨f, by omega, jRun_s h0 h⟩
theorem jNo_step {a : Nat} {l : mL} {st : List mL} (h0 : ¬ (rdP xs a).1 = nI 0) (h : jStp rowV filV xs a l st = none) : jNo rowV filV xs a (l :: st) := fun f hf => by
  cases f with
  | zero => omega
  | succ f => exact jRun_n h0 h
theorem jNo_end {a : Nat} {st : List mL} (h0 : (rdP xs a).1 = nI 0) (h : finV st = -1) : jNo rowV filV xs a st := fun f hf => by
  cases f with
  | zero => omega
  | succ f => rw [jRun_0 h0]; exact h
/-- the cases of a piece -/
theorem jStp_1 {a : Nat} {l : mL} {st : List mL} (h : (rdP xs a).1 = nI 1) : jStp rowV filV xs a l st = some ((rdP xs a).2.2, prt l (rowV [((rdP xs a).2.1, (rdP xs a).2.2)]) :: st) := by unfold jStp; rw [if_pos h]
theorem jStp_2 {a : Nat} {l : mL} {st : List mL} (h : (rdP xs a).1 = nI 2) : jStp rowV filV xs a l st = some ((rdP xs a).2.2, prt l (filV (rdP xs a).2.1 (rdP xs a).2.2) :: st) := by unfold jStp; rw [if_neg (by rw [h]; decide), if_pos h]
theorem jStp_34 {a : Nat} {l : mL} {st : List mL} (h : (rdP xs a).1 = nI 34) : jStp rowV filV xs a l st = if (rwL xs 25 (rdP xs a).2.2 []).1 = nI 34 ∧ ¬ (rwL xs 25 (rdP xs a).2.2 []).2.2.length = 0 then some ((rwL xs 25 (rdP xs a).2.2 []).2.1, prt l (rowV (rwL xs 25 (rdP xs a).2.2 []).2.2) :: st) else none := by unfold jStp; rw [if_neg (by rw [h]; decide), if_neg (by rw [h]; decide), if_pos h]
theorem jStp_45 {a : Nat} {l : mL} {st : List mL} (h : (rdP xs a).1 = nI 45) : jStp rowV filV xs a l st = some ((rdP xs a).2.2, (l.1, l.2.1, l.2.2.1, if l.2.2.2 = 1 then 2 else 1) :: st) := by unfold jStp; rw [if_neg (by rw [h]; decide), if_neg (by rw [h]; decide), if_neg (by rw [h]; decide), if_pos h]
theorem jStp_40 {a : Nat} {l : mL} {st : List mL} (h : (rdP xs a).1 = nI 40) : jStp rowV filV xs a l st = if st.length < 6 then some ((rdP xs a).2.2, (false, true, 0, 0) :: l :: st) else none := by unfold jStp; rw [if_neg (by rw [h]; decide), if_neg (by rw [h]; decide), if_neg (by rw [h]; decide), if_neg (by rw [h]; decide), if_pos h]
theorem jStp_41 {a : Nat} {l : mL} {st : List mL} (h : (rdP xs a).1 = nI 41) : jStp rowV filV xs a l st = cls1 l (rdP xs a).2.2 st := by unfold jStp; rw [if_neg (by rw [h]; decide), if_neg (by rw [h]; decide), if_neg (by rw [h]; decide), if_neg (by rw [h]; decide), if_neg (by rw [h]; decide), if_pos h]
theorem jStp_124 {a : Nat} {l : mL} {st : List mL} (h : (rdP xs a).1 = nI 124) : jStp rowV filV xs a l st = if whB l = true then some ((rdP xs a).2.2, (l.1 || l.2.1, true, 0, l.2.2.2) :: st) else none := by
  unfold jStp; rw [if_neg (by rw [h]; decide), if_neg (by rw [h]; decide), if_neg (by rw [h]; decide), if_neg (by rw [h]; decide), if_neg (by rw [h]; decide), if_neg (by rw [h]; decide)]
  by_cases hw : whB l = true
  · rw [if_pos ⟨h, hw⟩, if_pos hw]
  · rw [if_neg (fun g => hw g.2), if_neg hw]
theorem jStp_m1 {a : Nat} {l : mL} {st : List mL} (h : (rdP xs a).1 = -1) : jStp rowV filV xs a l st = none := by
  unfold jStp; rw [if_neg (by rw [h]; decide), if_neg (by rw [h]; decide), if_neg (by rw [h]; decide), if_neg (by rw [h]; decide), if_neg (by rw [h]; decide), if_neg (by rw [h]; decide), if_neg (by rw [h]; intro g; exact absurd g.1 (by decide))]
/-- what steps come to, above what was there -/
def sem (env : qStep → Bool) (new : List qStep) (a : Nat) (v : Bool) : Prop := ∀ st : List Bool, st.length ≤ a → evalS env new st = some (v :: st)
theorem evalS_app {env : qStep → Bool} {k1 k2 : List qStep} {st st1 : List Bool} (h : evalS env k1 st = some st1) : evalS env (k1 ++ k2) st = evalS env k2 st1 := by
  induction k1 generalizing st with
  | nil => cases h; rfl
  | cons k ks ih =>
    rw [evalS] at h
    rw [List.cons_append, evalS]
    cases hs : stp env k st with
    | none => rw [hs] at h; cases h
    | some s2 => rw [hs] at h; exact ih h
theorem sem.le {env : qStep → Bool} {new : List qStep} {a b : Nat} {v : Bool} (h : sem env new b v) (hab : a ≤ b) : sem env new a v := fun st hs => h st (by omega)
theorem sem.leaf {env : qStep → Bool} {k : qStep} {a : Nat} (hk : k.1 < 4) (ha : a ≤ 24) : sem env [k] a (env k) := fun st hs => by
  rw [evalS]
  unfold stp
  rw [if_neg (by omega), if_neg (by omega), if_neg (by omega), if_pos (by omega)]
  rfl
theorem sem.neg {env : qStep → Bool} {new : List qStep} {a : Nat} {v : Bool} {x : Int32 × Nat} (h : sem env new a v) : sem env (new ++ [(4, x)]) a (!v) := fun st hs => by
  rw [evalS_app (h st hs)]
  rfl
theorem sem.both {env : qStep → Bool} {k1 k2 : List qStep} {a b : Nat} {v w : Bool} {x : Int32 × Nat} (h : sem env k1 a v) (g : sem env k2 b w) (hab : a < b) : sem env (k1 ++ (k2 ++ [(5, x)])) a (v && w) := fun st hs => by
  rw [evalS_app (h st hs), evalS_app (g (v :: st) (by rw [List.length_cons]; omega))]
  rfl
theorem sem.any {env : qStep → Bool} {k1 k2 : List qStep} {a b : Nat} {v w : Bool} {x : Int32 × Nat} (h : sem env k1 a v) (g : sem env k2 b w) (hab : a < b) : sem env (k1 ++ (k2 ++ [(6, x)])) a (v || w) := fun st hs => by
  rw [evalS_app (h st hs), evalS_app (g (v :: st) (by rw [List.length_cons]; omega))]
  rfl
/-- how many words there can be before a place -/
def wIn (xs : List Nat) (a w : Nat) : Prop := 2 * w ≤ a ∨ (2 * w = a + 1 ∧ isWd (at0 xs a) = false)
theorem wIn.up {a b w : Nat} (h : wIn xs a w) (hab : a ≤ b) : wIn xs b w := by
  unfold wIn at *
  by_cases e : a = b
  · rw [← e]; exact h
  · left; omega
theorem wIn.wd {a w : Nat} (h : wIn xs a w) (hw : skp xs a < tokEnd xs (skp xs a)) : wIn xs (tokEnd xs (skp xs a)) (w + 1) := by
  have hn := tokEnd_n hw
  have hg := @skp_ge xs a
  by_cases e : skp xs a = a
  · rw [e] at hw hn ⊢
    rcases h with h | ⟨h, h2⟩
    · by_cases h3 : 2 * (w + 1) ≤ tokEnd xs a
      · exact Or.inl h3
      · exact Or.inr ⟨by omega, hn⟩
    · have hb : a + 2 ≤ tokEnd xs a := by
        by_cases hm : at0 xs a = 35 ∨ at0 xs a = 64
        · rw [tokEnd_m hm] at hw ⊢
          have := @scanW_ge xs (a + 1)
          split at hw
          · omega
          · next hh => rw [if_neg hh]; omega
        · rw [tokEnd_o hm h2] at hw; omega
      by_cases h3 : 2 * (w + 1) ≤ tokEnd xs a
      · exact Or.inl h3
      · exact Or.inr ⟨by omega, hn⟩
  · have h4 : 2 * w ≤ skp xs a := by rcases h with h | h <;> omega
    by_cases h3 : 2 * (w + 1) ≤ tokEnd xs (skp xs a)
    · exact Or.inl h3
    · exact Or.inr ⟨by omega, hn⟩
theorem wIn.lt {a w : Nat} (h : wIn xs a (w + 1)) (ha : a ≤ 24) : w < 12 := by unfold wIn at h; omega
/-- a state of the reader that keeps its bounds -/
def pIn (xs : List Nat) (s : PS) : Prop := s.1 ≤ xs.length ∧ wIn xs s.1 s.2.2.length ∧ s.2.1.length ≤ 2 * s.1
theorem pIn.at {s : PS} {b : Nat} (h : pIn xs s) (h1 : s.1 ≤ b) (h2 : b ≤ xs.length) : pIn xs (b, s.2) := ⟨h2, h.2.1.up h1, by show s.2.1.length ≤ 2 * b; have := h.2.2; omega⟩
def pOk (xs : List Nat) (s s' : PS) (new : List qStep) (nw : List (List Nat)) : Prop := (s'.2.1 = s.2.1 ++ new ∧ s'.2.2 = s.2.2 ++ nw) ∧ (s.1 < s'.1 ∧ s'.1 ≤ xs.length) ∧ wIn xs s'.1 s'.2.2.length ∧ new.length + 1 + 2 * s.1 ≤ 2 * s'.1 ∧ ∀ k ∈ new, leafOk s'.2.2 k
theorem pOk.in {s s' : PS} {new : List qStep} {nw : List (List Nat)} (h : pOk xs s s' new nw) (hi : pIn xs s) : pIn xs s' ∧ s'.2.1.length + 1 ≤ 2 * s'.1 := by
  obtain ⟨⟨h1, h2⟩, ⟨h3, h4⟩, h5, h6, h7⟩ := h
  have e : s'.2.1.length = s.2.1.length + new.length := by rw [h1, List.length_append]
  have := hi.2.2
  exact ⟨⟨h4, h5, by omega⟩, by omega⟩
theorem leafOk.mono {W W' : List (List Nat)} {k : qStep} (h : leafOk W k) (hl : W.length ≤ W'.length) : leafOk W' k := by
  refine ⟨h.1, fun h0 => ?_⟩
  obtain ⟨f, h1, h2, h3⟩ := h.2 h0
  exact ⟨f, h1, h2, by omega⟩
/-- what a leaf is worth, on both sides -/
def wrdQ (xs : List Nat) (q : Nat × Nat) : List Nat := ((xs.drop q.1).take (q.2 - q.1)).map fold1
def kdF (c : Nat) : Nat := if c = 61 then 1 else if c = 60 then 2 else 3
def agr (rowV : List (Nat × Nat) → Bool) (filV : Nat → Nat → Bool) (xs : List Nat) (env : qStep → Bool) (W : List (List Nat)) : Prop :=
  (∀ (L : List (Nat × Nat)) (f : Nat), ¬ L = [] → (∀ q ∈ L, q.1 < q.2 ∧ q.2 ≤ xs.length) → f + L.length ≤ W.length → (W.drop f).take L.length = L.map (wrdQ xs) → env (0, nI f, f + L.length) = rowV L) ∧
  (∀ f t e : Nat, (at0 xs f = 61 ∨ at0 xs f = 60 ∨ at0 xs f = 62) → f + 1 < t → t ≤ f + 10 → (∀ k, f < k → k < t → 48 ≤ at0 xs k ∧ at0 xs k ≤ 57) → env (kdF (at0 xs f), nI (numV xs (f + 1) (t - (f + 1))), e) = filV f t)
/-- a part is read, with this effect on the level -/
def spS (rowV : List (Nat × Nat) → Bool) (filV : Nat → Nat → Bool) (xs : List Nat) (h : Nat) (s s' : PS) (R : Bool → mL → mL → Prop) : Prop :=
  ∃ new nw v0, pOk xs s s' new nw ∧ (∀ l l' st, st.length = h → R v0 l l' → jGo rowV filV xs s.1 (l :: st) s'.1 (l' :: st)) ∧ ∀ env, ∃ v, sem env new s.1 v ∧ ∀ mo, agr rowV filV xs env (s'.2.2 ++ mo) → v = v0
def rOne (v : Bool) (l l' : mL) : Prop := l' = prt l v
def rPart (v : Bool) (l l' : mL) : Prop := l.2.2.2 = 0 ∧ l' = (l.1, l.2.1 && v, l.2.2.1 + 1, 0)
def rAll (c : Nat) (v : Bool) (l l' : mL) : Prop := l.2 = (true, 0, 0) ∧ l' = (l.1, v, c, 0)
def fol (c : Nat) : Prop := ¬ (c = 0 ∨ c = 124 ∨ c = 41)
def spOne (rowV : List (Nat × Nat) → Bool) (filV : Nat → Nat → Bool) (xs : List Nat) (h : Nat) (one : PS → PR) : Prop := ∀ s, pIn xs s → ¬ at0 xs (skp xs s.1) = 45 → ((one s).1 = true → spS rowV filV xs h s (one s).2 rOne) ∧ ((one s).1 = false → ∀ l st, st.length = h → (whB l = true → fol (at0 xs (skp xs s.1))) → jNo rowV filV xs s.1 (l :: st))
def spPart (rowV : List (Nat × Nat) → Bool) (filV : Nat → Nat → Bool) (xs : List Nat) (h : Nat) (part : PS → PR) : Prop := ∀ s, pIn xs s → ((part s).1 = true → spS rowV filV xs h s (part s).2 rPart) ∧ ((part s).1 = false → ∀ l st, st.length = h → l.2.2.2 = 0 → (whB l = true → fol (at0 xs (skp xs s.1))) → jNo rowV filV xs s.1 (l :: st))
def spAll (rowV : List (Nat × Nat) → Bool) (filV : Nat → Nat → Bool) (xs : List Nat) (h : Nat) (all : PS → PR) : Prop := ∀ s, pIn xs s → ((all s).1 = true → (∃ c, 0 < c ∧ spS rowV filV xs h s (all s).2 (rAll c)) ∧ ¬ fol (at0 xs (skp xs (all s).2.1))) ∧ ((all s).1 = false → ∀ (l : mL) st, st.length = h → l.2 = (true, 0, 0) → jNo rowV filV xs s.1 (l :: st))
def spAny (rowV : List (Nat × Nat) → Bool) (filV : Nat → Nat → Bool) (xs : List Nat) (h : Nat) (any : PS → PR) : Prop := ∀ s, pIn xs s → ((any s).1 = true → (∃ c new nw o al, 0 < c ∧ pOk xs s (any s).2 new nw ∧ (∀ st, st.length = h → jGo rowV filV xs s.1 ((false, true, 0, 0) :: st) (any s).2.1 ((o, al, c, 0) :: st)) ∧ ∀ env, ∃ v, sem env new s.1 v ∧ ∀ mo, agr rowV filV xs env ((any s).2.2.2 ++ mo) → v = (o || al)) ∧ (at0 xs (skp xs (any s).2.1) = 0 ∨ at0 xs (skp xs (any s).2.1) = 41)) ∧ ((any s).1 = false → ∀ st, st.length = h → jNo rowV filV xs s.1 ((false, true, 0, 0) :: st))
end PQ

section PQ
variable {rowV : List (Nat × Nat) → Bool} {filV : Nat → Nat → Bool} {xs : List Nat}
theorem pWord_t {s : PS} (h : skp xs s.1 < tokEnd xs (skp xs s.1)) (hl : s.2.2.length < 12) : pWord xs s = (true, (tokEnd xs (skp xs s.1), s.2.1, s.2.2 ++ [wrdQ xs (skp xs s.1, tokEnd xs (skp xs s.1))])) := by
  unfold pWord
  rw [if_pos h, if_pos hl, decide_eq_true hl]
  rfl
theorem pWord_f {s : PS} (h : ¬ skp xs s.1 < tokEnd xs (skp xs s.1)) : (pWord xs s).1 = false := by
  unfold pWord
  rw [if_neg h]
theorem pStep_t {kd : Nat} {nu : Int32} {s : PS} (h : s.2.1.length < 48) : pStep kd nu s = (true, (s.1, s.2.1 ++ [(kd, nu, s.2.2.length)], s.2.2)) := by
  unfold pStep
  rw [if_pos h, decide_eq_true h]
theorem pTake_t {c : Nat} {s : PS} (h : at0 xs (skp xs s.1) = c) : pTake xs c s = (true, (skp xs s.1 + 1, s.2)) := by unfold pTake; rw [if_pos h]
theorem pTake_f {c : Nat} {s : PS} (h : ¬ at0 xs (skp xs s.1) = c) : pTake xs c s = (false, (skp xs s.1, s.2)) := by unfold pTake; rw [if_neg h]
theorem tokEnd_lt {a : Nat} (h : a < tokEnd xs a) : a < xs.length := by
  by_cases hl : a < xs.length
  · exact hl
  · rw [tokEnd_o (by rw [at0_big (by omega)]; decide) (by rw [at0_big (by omega)]; decide)] at h; omega
theorem rdP_34 {a : Nat} (h : (rdP xs a).1 = nI 34) : at0 xs (skp xs a) = 34 := by
  by_cases h0 : at0 xs (skp xs a) = 34
  · exact h0
  · exfalso
    revert h
    unfold rdP
    by_cases h1 : xs.length ≤ skp xs a
    · rw [if_pos h1]; show nI 0 = nI 34 → False; decide
    · rw [if_neg h1]
      by_cases h2 : isWd (at0 xs (skp xs a)) = true ∨ (at0 xs (skp xs a) = 35 ∨ at0 xs (skp xs a) = 64)
      · rw [if_pos h2]
        show ((if _ then (-1 : Int32) else nI 1) = nI 34) → False
        split <;> decide
      · rw [if_neg h2]
        by_cases h3 : at0 xs (skp xs a) = 61 ∨ at0 xs (skp xs a) = 60 ∨ at0 xs (skp xs a) = 62
        · rw [if_pos h3]
          show ((if _ then (-1 : Int32) else nI 2) = nI 34) → False
          split <;> decide
        · rw [if_neg h3]
          show ((if _ then nI (at0 xs (skp xs a)) else (-1 : Int32)) = nI 34) → False
          split
          · next h4 => rcases h4 with h4 | h4 | h4 | h4 | h4 <;> first | exact absurd h4 h0 | (rw [h4]; decide)
          · decide
/-- the words of a row -/
theorem row_sim (hl : xs.length ≤ 24) : ∀ (j f a : Nat) (ks : List qStep) (wds : List (List Nat)) (L : List (Nat × Nat)), a ≤ xs.length → 24 < j + a → xs.length - a < f → wIn xs a wds.length →
    ((rowL xs j (true, (a, ks, wds))).1 = true → ∃ M a', (rowL xs j (true, (a, ks, wds))).2 = (a', ks, wds ++ M.map (wrdQ xs)) ∧ skp xs a' = a' ∧ at0 xs a' = 34 ∧ a ≤ a' ∧ rwL xs f a L = (nI 34, a' + 1, L ++ M) ∧ wIn xs a' (wds.length + M.length) ∧ ∀ q ∈ M, q.1 < q.2 ∧ q.2 ≤ xs.length) ∧
    ((rowL xs j (true, (a, ks, wds))).1 = false → ¬ (rwL xs f a L).1 = nI 34) := by
  intro j
  induction j with
  | zero => intro f a ks wds L h1 h2; omega
  | succ j ih =>
    intro f a ks wds L h1 h2 h3 h4
    cases f with
    | zero => omega
    | succ f =>
      have hg := @skp_ge xs a
      by_cases hq : at0 xs (skp xs a) = 34
      · have e : rowL xs (j + 1) (true, (a, ks, wds)) = (true, (skp xs a, ks, wds)) := by rw [rowL, if_pos rfl, if_pos hq]
        rw [e]
        refine ⟨fun _ => ⟨[], skp xs a, by simp, skp_skp, hq, hg, ?_, h4.up hg, fun q hq => by cases hq⟩, fun h => by cases h⟩
        have r := rdP_sg hq (by omega)
        rw [rwL_e (by rw [r]; show ¬ nI 34 = nI 1; decide), r, List.append_nil]
      · have e : rowL xs (j + 1) (true, (a, ks, wds)) = rowL xs j (pWord xs (skp xs a, ks, wds)) := by rw [rowL, if_pos rfl, if_neg hq]
        rw [e]
        have ss : skp xs (skp xs a) = skp xs a := skp_skp
        by_cases hw : skp xs a < tokEnd xs (skp xs a)
        · have hb := tokEnd_le (Nat.le_of_lt (tokEnd_lt hw))
          have w1 := h4.wd hw
          have hw12 := w1.lt (by omega)
          have pw : pWord xs (skp xs a, ks, wds) = (true, (tokEnd xs (skp xs a), ks, wds ++ [wrdQ xs (skp xs a, tokEnd xs (skp xs a))])) := by
            have := pWord_t (xs := xs) (s := (skp xs a, ks, wds)) (by show skp xs (skp xs a) < _; rw [ss]; exact hw) hw12
            rw [ss] at this
            exact this
          have r1 := rdP_w.mpr hw
          obtain ⟨r2, r3⟩ := rdP_w2 r1
          rw [pw, rwL_s r1, r2, r3]
          obtain ⟨i1, i2⟩ := ih f (tokEnd xs (skp xs a)) ks (wds ++ [wrdQ xs (skp xs a, tokEnd xs (skp xs a))]) (L ++ [(skp xs a, tokEnd xs (skp xs a))]) hb (by omega) (by omega) (by rw [List.length_append]; exact w1)
          refine ⟨fun h => ?_, i2⟩
          obtain ⟨M, a', g1, g2, g3, g4, g5, g6, g7⟩ := i1 h
          refine ⟨(skp xs a, tokEnd xs (skp xs a)) :: M, a', by rw [g1]; simp, g2, g3, by omega, by rw [g5]; simp, ?_, ?_⟩
          · rw [List.length_append] at g6
            rw [List.length_cons]
            rw [show wds.length + (M.length + 1) = wds.length + 1 + M.length by omega]
            exact g6
          · intro q hq
            rcases List.mem_cons.mp hq with rfl | hq
            · exact ⟨hw, hb⟩
            · exact g7 q hq
        · have pw : (pWord xs (skp xs a, ks, wds)).1 = false := pWord_f (by show ¬ skp xs (skp xs a) < _; rw [ss]; exact hw)
          rw [rowL_f pw, pw]
          refine ⟨fun h => (by cases h), fun _ => ?_⟩
          rw [rwL_e (fun g => hw (rdP_w.mp g))]
          exact fun g => hq (rdP_34 g)
/-- the digits of a filter -/
theorem isDg_lt {k : Nat} (h : isDg (at0 xs k) = true) : k < xs.length := by
  by_cases hl : k < xs.length
  · exact hl
  · rw [at0_big (by omega)] at h; exact absurd h (by decide)
theorem fil_sim {a0 : Nat} : ∀ (j i : Nat), ∃ i', i ≤ i' ∧ i' ≤ i + j ∧ (∀ k, i ≤ k → k < i' → isDg (at0 xs (a0 + k)) = true) ∧ filL xs j (a0 + i) (numV xs a0 i) = (a0 + i', numV xs a0 i') ∧ (i' < i + j → isDg (at0 xs (a0 + i')) = false) := by
  intro j
  induction j with
  | zero => intro i; exact ⟨i, Nat.le_refl _, by omega, fun k h1 h2 => by omega, rfl, fun h => by omega⟩
  | succ j ih =>
    intro i
    by_cases hd : isDg (at0 xs (a0 + i)) = true
    · obtain ⟨i', h1, h2, h3, h4, h5⟩ := ih (i + 1)
      refine ⟨i', by omega, by omega, fun k k1 k2 => ?_, ?_, fun h => h5 (by omega)⟩
      · by_cases e : k = i
        · rw [e]; exact hd
        · exact h3 k (by omega) k2
      · rw [filL, if_pos ⟨isDg_lt hd, hd⟩]
        exact h4
    · refine ⟨i, Nat.le_refl _, by omega, fun k h1 h2 => by omega, ?_, fun _ => by simpa using hd⟩
      rw [filL, if_neg (fun h => hd h.2)]
theorem scanD_is {a : Nat} : ∀ (n i : Nat), (∀ k, i ≤ k → k < i + n → isDg (at0 xs (a + k)) = true) → scanD xs (a + i) = scanD xs (a + (i + n)) := by
  intro n
  induction n with
  | zero => intro i _; rfl
  | succ n ih =>
    intro i h
    have hd := h i (Nat.le_refl _) (by omega)
    rw [scanD_s (isDg_lt hd) hd, show a + i + 1 = a + (i + 1) by omega, ih (i + 1) (fun k h1 h2 => h k (by omega) (by omega)), show i + 1 + n = i + (n + 1) by omega]
theorem rdP_fl {a : Nat} (h : at0 xs (skp xs a) = 61 ∨ at0 xs (skp xs a) = 60 ∨ at0 xs (skp xs a) = 62) : rdP xs a = ((if scanD xs (skp xs a + 1) = skp xs a + 1 ∨ skp xs a + 10 < scanD xs (skp xs a + 1) then -1 else nI 2), skp xs a, scanD xs (skp xs a + 1)) := by
  have hl : skp xs a < xs.length := at0_lt rfl (by omega)
  unfold rdP
  rw [if_neg (by omega), if_neg (by
    intro g
    rcases g with g | g
    · rcases h with h | h | h <;> rw [h] at g <;> exact absurd g (by decide)
    · omega), if_pos h]
theorem isDg_iff {c : Nat} : isDg c = true ↔ 48 ≤ c ∧ c ≤ 57 := by unfold isDg; exact decide_eq_true_iff
/-- a filter -/
theorem fil_sp {h : Nat} {s : PS} (hi : pIn xs s) (hl : xs.length ≤ 24) (hs : skp xs s.1 = s.1) (hc : at0 xs s.1 = 61 ∨ at0 xs s.1 = 60 ∨ at0 xs s.1 = 62) : ((pFilter xs (kdF (at0 xs s.1)) s).1 = true → spS rowV filV xs h s (pFilter xs (kdF (at0 xs s.1)) s).2 rOne) ∧ ((pFilter xs (kdF (at0 xs s.1)) s).1 = false → ∀ l st, st.length = h → jNo rowV filV xs s.1 (l :: st)) := by
  have hlt : s.1 < xs.length := at0_lt rfl (by omega)
  obtain ⟨i', h1, h2, h3, h4, h5⟩ := fil_sim (xs := xs) (a0 := s.1 + 1) 9 0
  have h4' : filL xs 9 (s.1 + 1) 0 = (s.1 + 1 + i', numV xs (s.1 + 1) i') := h4
  have n0 : ¬ (rdP xs s.1).1 = nI 0 := rdP_n0 (by rw [hs]; omega)
  have rf := rdP_fl (xs := xs) (a := s.1) (by rw [hs]; exact hc)
  rw [hs] at rf
  have sd := scanD_is (xs := xs) (a := s.1 + 1) i' 0 (fun k k1 k2 => h3 k k1 (by omega))
  rw [Nat.add_zero, Nat.zero_add] at sd
  unfold pFilter
  rw [h4']
  by_cases ht : s.1 + 1 < s.1 + 1 + i' ∧ isDg (at0 xs (s.1 + 1 + i')) = false
  · rw [if_pos ht]
    have hk : s.2.1.length < 48 := by have := hi.2.2; omega
    rw [pStep_t (s := (s.1 + 1 + i', s.2)) hk]
    refine ⟨fun _ => ?_, fun h => by cases h⟩
    have hdg := h3 (i' - 1) (by omega) (by omega)
    have hle := isDg_lt hdg
    have sd2 : scanD xs (s.1 + 1) = s.1 + 1 + i' := by rw [sd]; exact scanD_e (Or.inr ht.2)
    rw [sd2, if_neg (by omega)] at rf
    have hkd : kdF (at0 xs s.1) < 4 ∧ ¬ kdF (at0 xs s.1) = 0 := by unfold kdF; split <;> first | omega | (split <;> omega)
    refine ⟨[(kdF (at0 xs s.1), nI (numV xs (s.1 + 1) i'), s.2.2.length)], [], filV s.1 (s.1 + 1 + i'), ⟨⟨rfl, (List.append_nil _).symm⟩, ⟨by show s.1 < s.1 + 1 + i'; omega, by show s.1 + 1 + i' ≤ _; omega⟩, hi.2.1.up (by show s.1 ≤ s.1 + 1 + i'; omega), by show 1 + 1 + 2 * s.1 ≤ 2 * (s.1 + 1 + i'); omega, ?_⟩, ?_, fun env => ⟨_, sem.leaf hkd.1 (by omega), ?_⟩⟩
    · intro k hk
      rcases List.mem_singleton.mp hk with rfl
      exact ⟨by show kdF _ < 7; omega, fun g => absurd g hkd.2⟩
    · intro l l' st hst hR
      rw [show l' = prt l _ from hR]
      refine jGo_step n0 ?_ (by show s.1 < s.1 + 1 + i'; omega) (by show s.1 + 1 + i' ≤ _; omega)
      rw [jStp_2 (by rw [rf]), rf]
    · intro mo ha
      have e := ha.2 s.1 (s.1 + 1 + i') s.2.2.length hc (by omega) (by omega) (fun k k1 k2 => by
        have := h3 (k - (s.1 + 1)) (by omega) (by omega)
        rw [show s.1 + 1 + (k - (s.1 + 1)) = k by omega] at this
        exact isDg_iff.mp this)
      rw [show s.1 + 1 + i' - (s.1 + 1) = i' by omega] at e
      exact e
  · rw [if_neg ht]
    refine ⟨fun h => (by cases h), fun _ l st _ => jNo_step n0 (jStp_m1 ?_)⟩
    rw [rf]
    refine if_pos ?_
    by_cases hz : i' = 0
    · left
      subst hz
      exact scanD_e (Or.inr (h5 (by omega)))
    · right
      have hd : isDg (at0 xs (s.1 + 1 + i')) = true := by
        cases hh : isDg (at0 xs (s.1 + 1 + i')) with
        | true => rfl
        | false => exact absurd ⟨by omega, hh⟩ ht
      have h9 : i' = 9 := by
        by_cases h9 : i' < 9
        · have := h5 (by omega); rw [this] at hd; cases hd
        · omega
      rw [sd, scanD_s (isDg_lt hd) hd]
      have := @scanD_ge xs (s.1 + 1 + i' + 1)
      omega
end PQ

section PQ
variable {rowV : List (Nat × Nat) → Bool} {filV : Nat → Nat → Bool} {xs : List Nat}
theorem spS.sk {h : Nat} {s s' : PS} {R : Bool → mL → mL → Prop} (g : spS rowV filV xs h (skp xs s.1, s.2) s' R) : spS rowV filV xs h s s' R := by
  obtain ⟨new, nw, v0, ⟨g1, ⟨g2, g2'⟩, g3, g4, g5⟩, g7, g6⟩ := g
  have hg := @skp_ge xs s.1
  have g2 : skp xs s.1 < s'.1 := g2
  have g4 : new.length + 1 + 2 * skp xs s.1 ≤ 2 * s'.1 := g4
  refine ⟨new, nw, v0, ⟨g1, ⟨by omega, g2'⟩, g3, by omega, g5⟩, fun l l' st hst hR => jGo_skp.tr (g7 l l' st hst hR), fun env => ?_⟩
  obtain ⟨v, k1, k2⟩ := g6 env
  exact ⟨v, k1.le hg, k2⟩
/-- a row of words -/
theorem row_sp {h : Nat} {s : PS} (hi : pIn xs s) (hl : xs.length ≤ 24) (hs : skp xs s.1 = s.1) (hc : at0 xs s.1 = 34) : ((pRow xs s).1 = true → spS rowV filV xs h s (pRow xs s).2 rOne) ∧ ((pRow xs s).1 = false → ∀ l st, st.length = h → jNo rowV filV xs s.1 (l :: st)) := by
  have hc' : at0 xs (skp xs s.1) = 34 := by rw [hs]; exact hc
  have hlt : s.1 < xs.length := at0_lt hc (by omega)
  have rd := rdP_sg hc' (by omega)
  rw [hs] at rd
  have n0 : ¬ (rdP xs s.1).1 = nI 0 := by rw [rd]; show ¬ nI 34 = nI 0; decide
  have e1 : pThen (pTake xs 34 s) (pWord xs) = pWord xs (s.1 + 1, s.2) := by rw [pTake_t hc', hs, pThen_t rfl]
  have js : ∀ (l : mL) (st : List mL), jStp rowV filV xs s.1 l st = if (rwL xs 25 (s.1 + 1) []).1 = nI 34 ∧ ¬ (rwL xs 25 (s.1 + 1) []).2.2.length = 0 then some ((rwL xs 25 (s.1 + 1) []).2.1, prt l (rowV (rwL xs 25 (s.1 + 1) []).2.2) :: st) else none := by
    intro l st
    rw [jStp_34 (by rw [rd]), rd]
  unfold pRow
  rw [e1]
  have hg := @skp_ge xs (s.1 + 1)
  by_cases hw : skp xs (s.1 + 1) < tokEnd xs (skp xs (s.1 + 1))
  · have hb := tokEnd_le (Nat.le_of_lt (tokEnd_lt hw))
    have w1 := (hi.2.1.up (show s.1 ≤ s.1 + 1 by omega)).wd hw
    have hw12 := w1.lt (by omega)
    have pw := pWord_t (xs := xs) (s := (s.1 + 1, s.2)) hw hw12
    have r1 := rdP_w.mpr hw
    obtain ⟨r2, r3⟩ := rdP_w2 r1
    have rw1 : rwL xs 25 (s.1 + 1) [] = rwL xs 24 (tokEnd xs (skp xs (s.1 + 1))) [(skp xs (s.1 + 1), tokEnd xs (skp xs (s.1 + 1)))] := by
      rw [rwL_s r1, r2, r3]; rfl
    obtain ⟨i1, i2⟩ := row_sim hl 24 24 (tokEnd xs (skp xs (s.1 + 1))) s.2.1 (s.2.2 ++ [wrdQ xs (skp xs (s.1 + 1), tokEnd xs (skp xs (s.1 + 1)))]) [(skp xs (s.1 + 1), tokEnd xs (skp xs (s.1 + 1)))] hb (by omega) (by omega) (by rw [List.length_append]; exact w1)
    rw [pw]
    show ((pThen (rowL xs 24 (true, (tokEnd xs (skp xs (s.1 + 1)), s.2.1, s.2.2 ++ [wrdQ xs (skp xs (s.1 + 1), tokEnd xs (skp xs (s.1 + 1)))]))) _).1 = true → _) ∧ _
    cases hr : (rowL xs 24 (true, (tokEnd xs (skp xs (s.1 + 1)), s.2.1, s.2.2 ++ [wrdQ xs (skp xs (s.1 + 1), tokEnd xs (skp xs (s.1 + 1)))]))).1 with
    | true =>
      obtain ⟨M, a', g1, g2, g3, g4, g5, g6, g7⟩ := i1 hr
      have ha' : a' < xs.length := at0_lt g3 (by omega)
      have hk : s.2.1.length < 48 := by have := hi.2.2; omega
      have ps := pStep_t (kd := 0) (nu := nI s.2.2.length) (s := (skp xs a' + 1, s.2.1, s.2.2 ++ [wrdQ xs (skp xs (s.1 + 1), tokEnd xs (skp xs (s.1 + 1)))] ++ M.map (wrdQ xs))) hk
      rw [pThen_t hr, g1, pTake_t (by show at0 xs (skp xs a') = 34; rw [g2]; exact g3), pThen_t rfl]
      show ((pStep 0 (nI s.2.2.length) (skp xs a' + 1, s.2.1, s.2.2 ++ [wrdQ xs (skp xs (s.1 + 1), tokEnd xs (skp xs (s.1 + 1)))] ++ M.map (wrdQ xs))).1 = true → spS rowV filV xs h s (pStep 0 (nI s.2.2.length) (skp xs a' + 1, s.2.1, s.2.2 ++ [wrdQ xs (skp xs (s.1 + 1), tokEnd xs (skp xs (s.1 + 1)))] ++ M.map (wrdQ xs))).2 rOne) ∧ ((pStep 0 (nI s.2.2.length) (skp xs a' + 1, s.2.1, s.2.2 ++ [wrdQ xs (skp xs (s.1 + 1), tokEnd xs (skp xs (s.1 + 1)))] ++ M.map (wrdQ xs))).1 = false → _)
      rw [ps]
      refine ⟨fun _ => ?_, fun h => by cases h⟩
      have ee : (s.2.2 ++ [wrdQ xs (skp xs (s.1 + 1), tokEnd xs (skp xs (s.1 + 1)))] ++ M.map (wrdQ xs)) = s.2.2 ++ ((skp xs (s.1 + 1), tokEnd xs (skp xs (s.1 + 1))) :: M).map (wrdQ xs) := by simp
      have el : (s.2.2 ++ [wrdQ xs (skp xs (s.1 + 1), tokEnd xs (skp xs (s.1 + 1)))] ++ M.map (wrdQ xs)).length = s.2.2.length + ((skp xs (s.1 + 1), tokEnd xs (skp xs (s.1 + 1))) :: M).length := by rw [ee]; simp
      have g6' : wIn xs a' (s.2.2 ++ [wrdQ xs (skp xs (s.1 + 1), tokEnd xs (skp xs (s.1 + 1)))] ++ M.map (wrdQ xs)).length := by
        rw [el]
        rw [List.length_append] at g6
        have : s.2.2.length + ((skp xs (s.1 + 1), tokEnd xs (skp xs (s.1 + 1))) :: M).length = s.2.2.length + [wrdQ xs (skp xs (s.1 + 1), tokEnd xs (skp xs (s.1 + 1)))].length + M.length := by
          show s.2.2.length + (M.length + 1) = s.2.2.length + 1 + M.length; omega
        rw [this]; exact g6
      show spS rowV filV xs h s (skp xs a' + 1, s.2.1 ++ [(0, nI s.2.2.length, (s.2.2 ++ [wrdQ xs (skp xs (s.1 + 1), tokEnd xs (skp xs (s.1 + 1)))] ++ M.map (wrdQ xs)).length)], s.2.2 ++ [wrdQ xs (skp xs (s.1 + 1), tokEnd xs (skp xs (s.1 + 1)))] ++ M.map (wrdQ xs)) rOne
      rw [el, ee, g2]
      rw [ee] at g6'
      refine ⟨[(0, nI s.2.2.length, s.2.2.length + ((skp xs (s.1 + 1), tokEnd xs (skp xs (s.1 + 1))) :: M).length)], ((skp xs (s.1 + 1), tokEnd xs (skp xs (s.1 + 1))) :: M).map (wrdQ xs), rowV ((skp xs (s.1 + 1), tokEnd xs (skp xs (s.1 + 1))) :: M), ⟨⟨rfl, rfl⟩, ⟨by show s.1 < a' + 1; omega, by show a' + 1 ≤ _; omega⟩, g6'.up (Nat.le_succ a'), by show 1 + 1 + 2 * s.1 ≤ 2 * (a' + 1); omega, ?_⟩, ?_, fun env => ⟨_, sem.leaf (Nat.lt_of_sub_eq_succ rfl) (by omega), ?_⟩⟩
      · intro k hk
        rcases List.mem_singleton.mp hk with rfl
        refine ⟨Nat.lt_of_sub_eq_succ rfl, fun _ => ⟨s.2.2.length, rfl, Nat.le_add_right _ _, ?_⟩⟩
        show s.2.2.length + ((skp xs (s.1 + 1), tokEnd xs (skp xs (s.1 + 1))) :: M).length ≤ (s.2.2 ++ ((skp xs (s.1 + 1), tokEnd xs (skp xs (s.1 + 1))) :: M).map (wrdQ xs)).length
        rw [List.length_append, List.length_map]
        exact Nat.le_refl _
      · intro l l' st hst hR
        rw [show l' = prt l _ from hR]
        refine jGo_step n0 ?_ (by omega) (by omega)
        rw [js, rw1, g5, if_pos ⟨rfl, by simp⟩]
        rfl
      · intro mo ha
        have hLen : (((skp xs (s.1 + 1), tokEnd xs (skp xs (s.1 + 1))) :: M).map (wrdQ xs)).length = ((skp xs (s.1 + 1), tokEnd xs (skp xs (s.1 + 1))) :: M).length := List.length_map _
        have e := ha.1 ((skp xs (s.1 + 1), tokEnd xs (skp xs (s.1 + 1))) :: M) s.2.2.length (by simp) (fun q hq => by
          rcases List.mem_cons.mp hq with rfl | hq
          · exact ⟨hw, hb⟩
          · exact g7 q hq) (by
            show s.2.2.length + _ ≤ (s.2.2 ++ ((skp xs (s.1 + 1), tokEnd xs (skp xs (s.1 + 1))) :: M).map (wrdQ xs) ++ mo).length
            rw [List.length_append, List.length_append, hLen]; omega) (by
            show ((s.2.2 ++ ((skp xs (s.1 + 1), tokEnd xs (skp xs (s.1 + 1))) :: M).map (wrdQ xs) ++ mo).drop s.2.2.length).take _ = _
            rw [List.append_assoc, List.drop_left, ← hLen, List.take_left])
        exact e
    | false =>
      rw [pThen_f hr]
      refine ⟨fun h => (by cases h), fun _ l st _ => jNo_step n0 ?_⟩
      rw [js, rw1, if_neg (fun g => i2 hr g.1)]
  · have pw : (pWord xs (s.1 + 1, s.2)).1 = false := pWord_f hw
    rw [rowL_f pw, pThen_f pw]
    refine ⟨fun h => (by cases h), fun _ l st _ => jNo_step n0 ?_⟩
    rw [js, rwL_e (fun g => hw (rdP_w.mp g)), if_neg (fun g => g.2 rfl)]
/-- one thing that is asked for: a word, a row, a filter, or a query in brackets -/
theorem one_sp {h : Nat} {nest : PS → PR} {can : Bool} (hl : xs.length ≤ 24) (hch : ∀ k, k < xs.length → 32 ≤ at0 xs k) (hcan : can = decide (h < 6)) (hn : can = true → spAny rowV filV xs (h + 1) nest) : spOne rowV filV xs h (gOne xs nest can) := by
  intro s hi h45
  have hg := @skp_ge xs s.1
  have hle := skp_le (xs := xs) hi.1
  have ss : skp xs (skp xs s.1) = skp xs s.1 := skp_skp
  have hi1 := hi.at (b := skp xs s.1) hg hle
  unfold gOne
  by_cases c40 : at0 xs (skp xs s.1) = 40
  · rw [if_pos c40]
    have hlt : skp xs s.1 < xs.length := at0_lt c40 (by omega)
    have rd := rdP_sg c40 (by omega)
    have n0 : ¬ (rdP xs s.1).1 = nI 0 := by rw [rd]; show ¬ nI 40 = nI 0; decide
    by_cases hc : can = true
    · have h6 : h < 6 := by rw [hc] at hcan; exact of_decide_eq_true hcan.symm
      have tk : pTake xs 40 (skp xs s.1, s.2) = (true, (skp xs s.1 + 1, s.2)) := by rw [pTake_t (by show at0 xs (skp xs (skp xs s.1)) = 40; rw [ss]; exact c40)]; show (true, (skp xs (skp xs s.1) + 1, s.2)) = _; rw [ss]
      rw [if_pos hc, tk, pThen_t rfl]
      show ((pThen (nest (skp xs s.1 + 1, s.2)) (pTake xs 41)).1 = true → _) ∧ _
      have hi2 := hi.at (b := skp xs s.1 + 1) (by omega) (by omega)
      obtain ⟨k1, k2⟩ := hn hc _ hi2
      have st1 : ∀ (l : mL) (st : List mL), st.length = h → jGo rowV filV xs s.1 (l :: st) (skp xs s.1 + 1) ((false, true, 0, 0) :: l :: st) := fun l st hst => jGo_step n0 (by rw [jStp_40 (by rw [rd]), if_pos (by omega), rd]) (by omega) (by omega)
      cases hr : (nest (skp xs s.1 + 1, s.2)).1 with
      | true =>
        obtain ⟨⟨c, new, nw, o, al, c0, ⟨⟨p1, p2⟩, ⟨p3, p3'⟩, p4, p5, p6⟩, q2, sm⟩, nx⟩ := k1 hr
        generalize hs2 : (nest (skp xs s.1 + 1, s.2)).2 = s2 at *
        have hg2 := @skp_ge xs s2.1
        have p3 : skp xs s.1 + 1 < s2.1 := p3
        have p5 : new.length + 1 + 2 * (skp xs s.1 + 1) ≤ 2 * s2.1 := p5
        rw [pThen_t hr, hs2]
        by_cases h41 : at0 xs (skp xs s2.1) = 41
        · have rd2 := rdP_sg h41 (by omega)
          have hlt2 : skp xs s2.1 < xs.length := at0_lt h41 (by omega)
          rw [pTake_t h41]
          refine ⟨fun _ => ?_, fun h => by cases h⟩
          refine ⟨new, nw, o || al, ⟨⟨p1, p2⟩, ⟨by show s.1 < skp xs s2.1 + 1; omega, by show skp xs s2.1 + 1 ≤ _; omega⟩, p4.up (by show s2.1 ≤ skp xs s2.1 + 1; omega), by show _ ≤ 2 * (skp xs s2.1 + 1); omega, p6⟩, fun l l' st hst hR => ?_, fun env => ?_⟩
          · rw [show l' = prt l _ from hR]
            refine (st1 l st hst).tr ((q2 (l :: st) (by rw [List.length_cons, hst])).tr ?_)
            refine jGo_step (by rw [rd2]; show ¬ nI 41 = nI 0; decide) ?_ (by show s2.1 < skp xs s2.1 + 1; omega) (by show skp xs s2.1 + 1 ≤ _; omega)
            rw [jStp_41 (by rw [rd2]), rd2]
            show (if whB (o, al, c, 0) = true then _ else _) = _
            rw [if_pos (by unfold whB; exact decide_eq_true ⟨c0, rfl⟩)]
          · obtain ⟨v, q1, q3⟩ := sm env
            exact ⟨v, q1.le (by show s.1 ≤ skp xs s.1 + 1; omega), q3⟩
        · rw [pTake_f h41]
          refine ⟨fun h => (by cases h), fun _ l st hst _ => ?_⟩
          refine ((st1 l st hst).tr (q2 (l :: st) (by rw [List.length_cons, hst]))).no (jNo_end (rdP_end (nx.resolve_right h41) hch) rfl)
      | false =>
        rw [pThen_f hr]
        exact ⟨fun h => (by cases h), fun _ l st hst _ => (st1 l st hst).no (k2 hr (l :: st) (by rw [List.length_cons, hst]))⟩
    · rw [if_neg hc]
      refine ⟨fun h => (by cases h), fun _ l st hst _ => jNo_step n0 ?_⟩
      have h6 : ¬ h < 6 := fun g => hc (by rw [hcan]; exact decide_eq_true g)
      rw [jStp_40 (by rw [rd]), if_neg (by omega)]
  · rw [if_neg c40]
    by_cases c34 : at0 xs (skp xs s.1) = 34
    · rw [if_pos c34]
      obtain ⟨k1, k2⟩ := row_sp (rowV := rowV) (filV := filV) (h := h) hi1 hl ss c34
      exact ⟨fun hr => (k1 hr).sk, fun hr l st hst _ => jGo_skp.no (k2 hr l st hst)⟩
    · rw [if_neg c34]
      by_cases cf : at0 xs (skp xs s.1) = 61 ∨ at0 xs (skp xs s.1) = 60 ∨ at0 xs (skp xs s.1) = 62
      · have e : (if at0 xs (skp xs s.1) = 61 then pFilter xs 1 (skp xs s.1, s.2) else if at0 xs (skp xs s.1) = 60 then pFilter xs 2 (skp xs s.1, s.2) else if at0 xs (skp xs s.1) = 62 then pFilter xs 3 (skp xs s.1, s.2) else pThen (pWord xs (skp xs s.1, s.2)) (fun s2 => pStep 0 (nI (s2.2.2.length - 1)) s2)) = pFilter xs (kdF (at0 xs (skp xs s.1))) (skp xs s.1, s.2) := by
          unfold kdF
          by_cases a1 : at0 xs (skp xs s.1) = 61
          · rw [if_pos a1, if_pos a1]
          · rw [if_neg a1, if_neg a1]
            by_cases a2 : at0 xs (skp xs s.1) = 60
            · rw [if_pos a2, if_pos a2]
            · rw [if_neg a2, if_neg a2, if_pos (by omega)]
        rw [e]
        obtain ⟨k1, k2⟩ := fil_sp (rowV := rowV) (filV := filV) (h := h) hi1 hl ss cf
        exact ⟨fun hr => (k1 hr).sk, fun hr l st hst _ => jGo_skp.no (k2 hr l st hst)⟩
      · rw [if_neg (fun g => cf (Or.inl g)), if_neg (fun g => cf (Or.inr (Or.inl g))), if_neg (fun g => cf (Or.inr (Or.inr g)))]
        by_cases hw : skp xs s.1 < tokEnd xs (skp xs s.1)
        · have hb := tokEnd_le (Nat.le_of_lt (tokEnd_lt hw))
          have w1 := hi.2.1.wd hw
          have hw12 := w1.lt (by omega)
          have pw := pWord_t (xs := xs) (s := (skp xs s.1, s.2)) (by show skp xs (skp xs s.1) < _; rw [ss]; exact hw) hw12
          have pw2 : pWord xs (skp xs s.1, s.2) = (true, (tokEnd xs (skp xs s.1), s.2.1, s.2.2 ++ [wrdQ xs (skp xs s.1, tokEnd xs (skp xs s.1))])) := by
            rw [pw]; show (true, (tokEnd xs (skp xs (skp xs s.1)), s.2.1, s.2.2 ++ [wrdQ xs (skp xs (skp xs s.1), tokEnd xs (skp xs (skp xs s.1)))])) = _; rw [ss]
          have hk : s.2.1.length < 48 := by have := hi.2.2; have := tokEnd_lt hw; omega
          have r1 := rdP_w.mpr hw
          obtain ⟨r2, r3⟩ := rdP_w2 r1
          rw [pw2, pThen_t rfl]
          show ((pStep 0 (nI ((s.2.2 ++ [wrdQ xs (skp xs s.1, tokEnd xs (skp xs s.1))]).length - 1)) (tokEnd xs (skp xs s.1), s.2.1, s.2.2 ++ [wrdQ xs (skp xs s.1, tokEnd xs (skp xs s.1))])).1 = true → _) ∧ _
          have el : (s.2.2 ++ [wrdQ xs (skp xs s.1, tokEnd xs (skp xs s.1))]).length = s.2.2.length + 1 := by rw [List.length_append]; rfl
          refine ⟨fun _ => ?_, fun g => ?_⟩
          · show spS rowV filV xs h s (pStep 0 (nI ((s.2.2 ++ [wrdQ xs (skp xs s.1, tokEnd xs (skp xs s.1))]).length - 1)) (tokEnd xs (skp xs s.1), s.2.1, s.2.2 ++ [wrdQ xs (skp xs s.1, tokEnd xs (skp xs s.1))])).2 rOne
            rw [pStep_t (s := (tokEnd xs (skp xs s.1), s.2.1, s.2.2 ++ [wrdQ xs (skp xs s.1, tokEnd xs (skp xs s.1))])) hk]
            show spS rowV filV xs h s (tokEnd xs (skp xs s.1), s.2.1 ++ [(0, nI ((s.2.2 ++ [wrdQ xs (skp xs s.1, tokEnd xs (skp xs s.1))]).length - 1), (s.2.2 ++ [wrdQ xs (skp xs s.1, tokEnd xs (skp xs s.1))]).length)], s.2.2 ++ [wrdQ xs (skp xs s.1, tokEnd xs (skp xs s.1))]) rOne
            rw [el, Nat.add_sub_cancel]
            refine ⟨[(0, nI s.2.2.length, s.2.2.length + 1)], [wrdQ xs (skp xs s.1, tokEnd xs (skp xs s.1))], rowV [(skp xs s.1, tokEnd xs (skp xs s.1))], ⟨⟨rfl, rfl⟩, ⟨by show s.1 < tokEnd xs (skp xs s.1); omega, hb⟩, by show wIn xs _ (s.2.2 ++ [wrdQ xs (skp xs s.1, tokEnd xs (skp xs s.1))]).length; rw [el]; exact w1, by show 1 + 1 + 2 * s.1 ≤ 2 * tokEnd xs (skp xs s.1); omega, ?_⟩, ?_, fun env => ⟨_, sem.leaf (Nat.lt_of_sub_eq_succ rfl) (by omega), ?_⟩⟩
            · intro k hk
              rcases List.mem_singleton.mp hk with rfl
              refine ⟨Nat.lt_of_sub_eq_succ rfl, fun _ => ⟨s.2.2.length, rfl, Nat.le_succ _, ?_⟩⟩
              show _ ≤ (s.2.2 ++ [wrdQ xs (skp xs s.1, tokEnd xs (skp xs s.1))]).length
              rw [el]; exact Nat.le_refl _
            · intro l l' st hst hR
              rw [show l' = prt l _ from hR]
              refine jGo_step (by rw [r1]; decide) ?_ (by show s.1 < tokEnd xs (skp xs s.1); omega) hb
              rw [jStp_1 r1, r2, r3]
            · intro mo ha
              have e := ha.1 [(skp xs s.1, tokEnd xs (skp xs s.1))] s.2.2.length (by simp) (fun q hq => by rcases List.mem_singleton.mp hq with rfl; exact ⟨hw, hb⟩) (by
                show s.2.2.length + 1 ≤ (s.2.2 ++ [wrdQ xs (skp xs s.1, tokEnd xs (skp xs s.1))] ++ mo).length
                rw [List.length_append, el]; omega) (by
                show ((s.2.2 ++ [wrdQ xs (skp xs s.1, tokEnd xs (skp xs s.1))] ++ mo).drop s.2.2.length).take 1 = _
                rw [List.append_assoc, List.drop_left]; rfl)
              exact e
          · exfalso
            have g : (pStep 0 (nI ((s.2.2 ++ [wrdQ xs (skp xs s.1, tokEnd xs (skp xs s.1))]).length - 1)) (tokEnd xs (skp xs s.1), s.2.1, s.2.2 ++ [wrdQ xs (skp xs s.1, tokEnd xs (skp xs s.1))])).1 = false := g
            rw [pStep_t (s := (tokEnd xs (skp xs s.1), s.2.1, s.2.2 ++ [wrdQ xs (skp xs s.1, tokEnd xs (skp xs s.1))])) hk] at g
            cases g
        · have pw : (pWord xs (skp xs s.1, s.2)).1 = false := pWord_f (by show ¬ skp xs (skp xs s.1) < _; rw [ss]; exact hw)
          rw [pThen_f pw]
          refine ⟨fun h => (by cases h), fun _ l st hst hf => ?_⟩
          by_cases c0 : at0 xs (skp xs s.1) = 0
          · have hwb : ¬ whB l = true := fun g => hf g (Or.inl c0)
            refine jNo_end (rdP_end c0 hch) ?_
            cases st with
            | nil =>
              show (if l.2.2.1 = 0 ∨ ¬ l.2.2.2 = 0 then (-1 : Int32) else bI (l.1 || l.2.1)) = -1
              rw [if_pos]
              by_cases g1 : l.2.2.1 = 0
              · exact Or.inl g1
              · by_cases g2 : l.2.2.2 = 0
                · exact absurd (show whB l = true from decide_eq_true ⟨Nat.pos_of_ne_zero g1, g2⟩) hwb
                · exact Or.inr g2
            | cons l2 st => rfl
          · have n0 := rdP_n0 c0
            refine jNo_step n0 ?_
            by_cases c124 : at0 xs (skp xs s.1) = 124
            · rw [jStp_124 (by rw [rdP_sg c124 (by omega)]), if_neg (fun g => hf g (Or.inr (Or.inl c124)))]
            · by_cases c41 : at0 xs (skp xs s.1) = 41
              · rw [jStp_41 (by rw [rdP_sg c41 (by omega)])]
                cases st with
                | nil => rfl
                | cons l2 st => exact if_neg (fun g => hf g (Or.inr (Or.inr c41)))
              · exact jStp_m1 (rdP_bad c0 hw cf (by omega))
end PQ

section PQ
variable {rowV : List (Nat × Nat) → Bool} {filV : Nat → Nat → Bool} {xs : List Nat}
/-- the signs before a part -/
theorem part_l (hl : xs.length ≤ 24) : ∀ (j : Nat) (b : Bool) (s : PS), s.1 ≤ xs.length → 24 ≤ j + s.1 →
    ∃ b' a', partL xs j (b, s) = (b', (a', s.2)) ∧ s.1 ≤ a' ∧ a' ≤ xs.length ∧ ¬ at0 xs (skp xs a') = 45 ∧ (¬ b' = b → s.1 < a') ∧
      ∀ l : mL, (l.2.2.2 = 1 ↔ b = true) → ∃ m', (m' = 1 ↔ b' = true) ∧ ((skp xs a' = skp xs s.1 ∧ m' = l.2.2.2) ∨ ¬ m' = 0) ∧ ∀ st, jGo rowV filV xs s.1 (l :: st) a' ((l.1, l.2.1, l.2.2.1, m') :: st) := by
  intro j
  induction j with
  | zero =>
    intro b s h1 h2
    refine ⟨b, s.1, rfl, Nat.le_refl _, h1, ?_, fun g => absurd rfl g, fun l hm => ⟨l.2.2.2, hm, Or.inl ⟨rfl, rfl⟩, fun st => jGo.rf⟩⟩
    have := @skp_ge xs s.1
    rw [at0_big (by omega)]; decide
  | succ j ih =>
    intro b s h1 h2
    have hg := @skp_ge xs s.1
    by_cases h45 : at0 xs (skp xs s.1) = 45
    · have hlt : skp xs s.1 < xs.length := at0_lt h45 (by omega)
      have rd := rdP_sg h45 (by omega)
      have e : partL xs (j + 1) (b, s) = partL xs j (!b, (skp xs s.1 + 1, s.2)) := by
        rw [partL]
        show (if (pTake xs 45 s).1 = true then partL xs j (!b, (pTake xs 45 s).2) else _) = _
        rw [pTake_t h45, if_pos rfl]
      obtain ⟨b', a', k1, k2, k3, k4, k5, k6⟩ := ih (!b) (skp xs s.1 + 1, s.2) (by show skp xs s.1 + 1 ≤ _; omega) (by show 24 ≤ j + (skp xs s.1 + 1); omega)
      have k2 : skp xs s.1 + 1 ≤ a' := k2
      refine ⟨b', a', e.trans k1, by omega, k3, k4, fun _ => by omega, fun l hm => ?_⟩
      obtain ⟨m', q1, q2, q3⟩ := k6 (l.1, l.2.1, l.2.2.1, if l.2.2.2 = 1 then 2 else 1) (by
        show (if l.2.2.2 = 1 then 2 else 1) = 1 ↔ (!b) = true
        cases b
        · rw [if_neg (fun g => by have := hm.mp g; cases this)]; simp
        · rw [if_pos (hm.mpr rfl)]; simp)
      refine ⟨m', q1, Or.inr ?_, fun st => ?_⟩
      · rcases q2 with ⟨_, q2⟩ | q2
        · rw [q2]; show ¬ (if l.2.2.2 = 1 then 2 else 1) = 0; split <;> omega
        · exact q2
      · refine jGo.tr (jGo_step (by rw [rd]; show ¬ nI 45 = nI 0; decide) (jStp_45 (by rw [rd])) (by rw [rd]; show s.1 < skp xs s.1 + 1; omega) (by rw [rd]; show skp xs s.1 + 1 ≤ _; omega)) ?_
        rw [rd]
        exact q3 st
    · have e : partL xs (j + 1) (b, s) = (b, (skp xs s.1, s.2)) := by
        rw [partL]
        show (if (pTake xs 45 s).1 = true then _ else (b, (pTake xs 45 s).2)) = _
        rw [pTake_f h45, if_neg (by simp)]
      exact ⟨b, skp xs s.1, e, hg, skp_le h1, by rw [skp_skp]; exact h45, fun g => absurd rfl g, fun l hm => ⟨l.2.2.2, hm, Or.inl ⟨skp_skp, rfl⟩, fun st => jGo_skp⟩⟩
/-- a step added to what was read -/
theorem pOk.stp {s s' : PS} {new : List qStep} {nw : List (List Nat)} {x : Nat × Int32 × Nat} (h : pOk xs s s' new nw) (hn : new.length + 2 + 2 * s.1 ≤ 2 * s'.1) (hx : leafOk s'.2.2 x) : pOk xs s (s'.1, s'.2.1 ++ [x], s'.2.2) (new ++ [x]) nw := by
  obtain ⟨⟨h1, h2⟩, h3, h5, h6, h7⟩ := h
  refine ⟨⟨by show s'.2.1 ++ [x] = _; rw [h1, List.append_assoc], h2⟩, h3, h5, by rw [List.length_append]; show new.length + 1 + 1 + 2 * s.1 ≤ 2 * s'.1; omega, fun k hk => ?_⟩
  rcases List.mem_append.mp hk with hk | hk
  · exact h7 k hk
  · rcases List.mem_singleton.mp hk with rfl; exact hx
theorem lk4 {W : List (List Nat)} {x : Nat} {k : Nat} (hk : k = 4 ∨ k = 5 ∨ k = 6) : leafOk W (k, nI 0, x) := ⟨by show k < 7; omega, fun g => by have g : k = 0 := g; omega⟩
theorem part_sp {h : Nat} {nest : PS → PR} {can : Bool} (hl : xs.length ≤ 24) (ho : spOne rowV filV xs h (gOne xs nest can)) : spPart rowV filV xs h (gPart xs nest can) := by
  intro s hi
  obtain ⟨b', a', k1, k2, k3, k4, k5, k6⟩ := part_l (rowV := rowV) (filV := filV) hl 24 false s hi.1 (by omega)
  have hi1 := hi.at k2 k3
  obtain ⟨o1, o2⟩ := ho _ hi1 k4
  unfold gPart
  rw [k1]
  show ((pThen (gOne xs nest can (a', s.2)) (denF b')).1 = true → _) ∧ _
  cases hr : (gOne xs nest can (a', s.2)).1 with
  | true =>
    obtain ⟨new, nw, v0, p, g, sm⟩ := o1 hr
    rw [pThen_t hr]
    generalize hs2 : (gOne xs nest can (a', s.2)).2 = s2 at *
    obtain ⟨i2, i3⟩ := p.in hi1
    obtain ⟨⟨p1, p2⟩, ⟨p3, p3'⟩, p4, p5, p6⟩ := p
    have p3 : a' < s2.1 := p3
    have p5 : new.length + 1 + 2 * a' ≤ 2 * s2.1 := p5
    have gg : ∀ (l l' : mL) (st : List mL), st.length = h → l.2.2.2 = 0 → l' = (l.1, l.2.1 && (if b' = true then !v0 else v0), l.2.2.1 + 1, 0) → jGo rowV filV xs s.1 (l :: st) s2.1 (l' :: st) := by
      intro l l' st hst hl0 hl'
      obtain ⟨m', q1, q2, q3⟩ := k6 l (by rw [hl0]; simp)
      refine (q3 st).tr (g _ l' st hst ?_)
      rw [hl']
      show _ = prt _ _
      unfold prt
      show _ = (l.1, l.2.1 && (if m' = 1 then !v0 else v0), l.2.2.1 + 1, 0)
      by_cases hm : m' = 1
      · rw [if_pos hm, if_pos (q1.mp hm)]
      · rw [if_neg hm, if_neg (fun z => hm (q1.mpr z))]
    have ok1 : pOk xs s s2 new nw := ⟨⟨p1, p2⟩, ⟨by omega, p3'⟩, p4, by omega, p6⟩
    cases hb : b' with
    | true =>
      have ha : s.1 < a' := k5 (by rw [hb]; decide)
      rw [denF_t rfl, pStep_t (by omega)]
      refine ⟨fun _ => ?_, fun h => by cases h⟩
      refine ⟨new ++ [(4, nI 0, s2.2.2.length)], nw, !v0, ok1.stp (by omega) (lk4 (by omega)), fun l l' st hst hR => gg l l' st hst hR.1 (by rw [hb, if_pos rfl]; exact hR.2), fun env => ?_⟩
      obtain ⟨v, q1, q2⟩ := sm env
      exact ⟨!v, (q1.le k2).neg, fun mo ha => by rw [q2 mo ha]⟩
    | false =>
      rw [denF_f rfl]
      refine ⟨fun _ => ?_, fun h => by cases h⟩
      refine ⟨new, nw, v0, ok1, fun l l' st hst hR => gg l l' st hst hR.1 (by rw [hb, if_neg (by decide)]; exact hR.2), fun env => ?_⟩
      obtain ⟨v, q1, q2⟩ := sm env
      exact ⟨v, q1.le k2, q2⟩
  | false =>
    rw [pThen_f hr]
    refine ⟨fun h => (by cases h), fun _ l st hst hl0 hf => ?_⟩
    obtain ⟨m', q1, q2, q3⟩ := k6 l (by rw [hl0]; simp)
    refine (q3 st).no (o2 hr _ st hst (fun hw => ?_))
    unfold whB at hw
    have hw' := (of_decide_eq_true hw)
    rcases q2 with ⟨q2, q2'⟩ | q2
    · show fol (at0 xs (skp xs a'))
      rw [q2]
      refine hf (decide_eq_true ⟨hw'.1, hl0⟩)
    · exact absurd hw'.2 q2
theorem pOk.sk {s s' : PS} {new : List qStep} {nw : List (List Nat)} (h : pOk xs s s' new nw) : pOk xs s (skp xs s'.1, s'.2) new nw := by
  obtain ⟨h1, ⟨h3, h4⟩, h5, h6, h7⟩ := h
  have hg := @skp_ge xs s'.1
  exact ⟨h1, ⟨by show s.1 < skp xs s'.1; omega, skp_le h4⟩, h5.up hg, by show _ ≤ 2 * skp xs s'.1; omega, h7⟩
/-- two parts, one after the other, and a step that joins them -/
theorem pOk.two {s s1 s2 : PS} {b : Nat} {n1 n2 : List qStep} {w1 w2 : List (List Nat)} {x : Nat × Int32 × Nat} (h : pOk xs s s1 n1 w1) (hb : s1.1 ≤ b) (g : pOk xs (b, s1.2) s2 n2 w2) (hx : leafOk s2.2.2 x) : pOk xs s (s2.1, s2.2.1 ++ [x], s2.2.2) (n1 ++ (n2 ++ [x])) (w1 ++ w2) := by
  obtain ⟨⟨h1, h2⟩, ⟨h3, h3'⟩, h5, h6, h7⟩ := h
  obtain ⟨⟨g1, g2⟩, ⟨g3, g3'⟩, g5, g6, g7⟩ := g
  have g1 : s2.2.1 = s1.2.1 ++ n2 := g1
  have g2 : s2.2.2 = s1.2.2 ++ w2 := g2
  have g3 : b < s2.1 := g3
  have g6 : n2.length + 1 + 2 * b ≤ 2 * s2.1 := g6
  refine ⟨⟨by show s2.2.1 ++ [x] = _; rw [g1, h1]; simp, by show s2.2.2 = _; rw [g2, h2, List.append_assoc]⟩, ⟨by show s.1 < s2.1; omega, g3'⟩, g5, by rw [List.length_append, List.length_append]; show n1.length + (n2.length + 1) + 1 + 2 * s.1 ≤ 2 * s2.1; omega, fun k hk => ?_⟩
  rcases List.mem_append.mp hk with hk | hk
  · exact (h7 k hk).mono (by show _ ≤ s2.2.2.length; rw [g2, List.length_append]; omega)
  · rcases List.mem_append.mp hk with hk | hk
    · exact g7 k hk
    · rcases List.mem_singleton.mp hk with rfl; exact hx
theorem agr_app {env : qStep → Bool} {s1 s2 : PS} {w2 mo : List (List Nat)} (h : agr rowV filV xs env (s2.2.2 ++ mo)) (e : s2.2.2 = s1.2.2 ++ w2) : agr rowV filV xs env (s1.2.2 ++ (w2 ++ mo)) := by rw [e, List.append_assoc] at h; exact h
theorem all_l {h : Nat} {part : PS → PR} (hl : xs.length ≤ 24) (hp : spPart rowV filV xs h part) (s0 : PS) (hi : pIn xs s0) : ∀ (j c : Nat) (s : PS), 0 < c → 24 < j + s.1 → spS rowV filV xs h s0 s (rAll c) →
    ((allL xs part j (true, s)).1 = true → (∃ c', 0 < c' ∧ spS rowV filV xs h s0 (allL xs part j (true, s)).2 (rAll c')) ∧ ¬ fol (at0 xs (skp xs (allL xs part j (true, s)).2.1))) ∧
    ((allL xs part j (true, s)).1 = false → ∀ (l : mL) st, st.length = h → l.2 = (true, 0, 0) → jNo rowV filV xs s0.1 (l :: st)) := by
  intro j
  induction j with
  | zero => intro c s hc hj hS; obtain ⟨_, _, _, ⟨_, ⟨_, g⟩, _⟩, _⟩ := hS; omega
  | succ j ih =>
    intro c s hc hj hS
    obtain ⟨n1, w1, v1, ok1, go1, sm1⟩ := hS
    obtain ⟨i1, i1'⟩ := ok1.in hi
    have hg := @skp_ge xs s.1
    have hle := skp_le (xs := xs) i1.1
    have o3 := ok1.2.1.1
    by_cases hf : fol (at0 xs (skp xs s.1))
    · have pf : pFol xs s = (true, (skp xs s.1, s.2)) := by unfold pFol; rw [decide_eq_true (by unfold fol at hf; omega)]
      have e : allL xs part (j + 1) (true, s) = allL xs part j (pThen (part (skp xs s.1, s.2)) (pStep 5 (nI 0))) := by
        rw [allL, if_pos rfl]
        show (if (pFol xs s).1 = true then allL xs part j (pThen (part (pFol xs s).2) (pStep 5 (nI 0))) else _) = _
        rw [pf, if_pos rfl]
      rw [e]
      have hi2 := i1.at hg hle
      obtain ⟨k1, k2⟩ := hp _ hi2
      cases hr : (part (skp xs s.1, s.2)).1 with
      | true =>
        obtain ⟨n2, w2, v2, ok2, go2, sm2⟩ := k1 hr
        rw [pThen_t hr]
        generalize hs2 : (part (skp xs s.1, s.2)).2 = s2 at *
        obtain ⟨i2, i2'⟩ := ok2.in hi2
        rw [pStep_t (by have := i2.1; omega)]
        have o2 : skp xs s.1 < s2.1 := ok2.2.1.1
        refine ih (c + 1) (s2.1, s2.2.1 ++ [(5, nI 0, s2.2.2.length)], s2.2.2) (by omega) (by show 24 < j + s2.1; omega) ⟨_, _, v1 && v2, ok1.two hg ok2 (lk4 (by omega)), fun l l' st hst hR => ?_, fun env => ?_⟩
        · refine (go1 l (l.1, v1, c, 0) st hst ⟨hR.1, rfl⟩).tr (jGo_skp.tr (go2 _ l' st hst ⟨rfl, hR.2⟩))
        · obtain ⟨a, q1, q2⟩ := sm1 env
          obtain ⟨b, r1, r2⟩ := sm2 env
          exact ⟨a && b, q1.both r1 (by show s0.1 < skp xs s.1; omega), fun mo ha => by rw [q2 _ (agr_app (s1 := s) (s2 := s2) ha ok2.1.2), r2 mo ha]⟩
      | false =>
        rw [pThen_f hr, allL_f rfl]
        refine ⟨fun h => (by cases h), fun _ l st hst hl2 => ?_⟩
        exact (go1 l (l.1, v1, c, 0) st hst ⟨hl2, rfl⟩).no (jGo_skp.no (k2 hr _ st hst rfl (fun _ => by show fol (at0 xs (skp xs (skp xs s.1))); rw [skp_skp]; exact hf)))
    · have pf : pFol xs s = (false, (skp xs s.1, s.2)) := by unfold pFol; rw [decide_eq_false (by unfold fol at hf; omega)]
      have e : allL xs part (j + 1) (true, s) = (true, (skp xs s.1, s.2)) := by
        rw [allL, if_pos rfl]
        show (if (pFol xs s).1 = true then _ else (true, (pFol xs s).2)) = _
        rw [pf, if_neg (by simp)]
      rw [e]
      refine ⟨fun _ => ⟨⟨c, hc, n1, w1, v1, ok1.sk, fun l l' st hst hR => (go1 l l' st hst hR).tr jGo_skp, sm1⟩, ?_⟩, fun h => by cases h⟩
      show ¬ fol (at0 xs (skp xs (skp xs s.1)))
      rw [skp_skp]; exact hf
theorem all_sp {h : Nat} {nest : PS → PR} {can : Bool} (hl : xs.length ≤ 24) (hp : spPart rowV filV xs h (gPart xs nest can)) : spAll rowV filV xs h (gAll xs nest can) := by
  intro s hi
  obtain ⟨k1, k2⟩ := hp s hi
  unfold gAll
  cases hr : (gPart xs nest can s).1 with
  | true =>
    have e : gPart xs nest can s = (true, (gPart xs nest can s).2) := by rw [← hr]
    obtain ⟨n1, w1, v1, ok1, go1, sm1⟩ := k1 hr
    rw [e]
    have o := ok1.2.1.1
    exact all_l hl hp s hi 24 1 _ (by decide) (by omega) ⟨n1, w1, v1, ok1, fun l l' st hst hR => go1 l l' st hst ⟨by rw [hR.1], by rw [hR.2, hR.1]; simp⟩, sm1⟩
  | false =>
    rw [allL_f hr]
    refine ⟨fun h => (by rw [hr] at h; cases h), fun _ l st hst hl2 => k2 hr l st hst (by rw [hl2]) (fun hw => ?_)⟩
    unfold whB at hw
    rw [hl2] at hw
    exact absurd hw (by decide)
theorem any_l {h : Nat} {all : PS → PR} (hl : xs.length ≤ 24) (hp : spAll rowV filV xs h all) (s0 : PS) (hi : pIn xs s0) : ∀ (j c : Nat) (s : PS) (n1 : List qStep) (w1 : List (List Nat)) (o al : Bool), 0 < c → 24 < j + s.1 → ¬ fol (at0 xs (skp xs s.1)) → pOk xs s0 s n1 w1 → (∀ st, st.length = h → jGo rowV filV xs s0.1 ((false, true, 0, 0) :: st) s.1 ((o, al, c, 0) :: st)) → (∀ env, ∃ v, sem env n1 s0.1 v ∧ ∀ mo, agr rowV filV xs env (s.2.2 ++ mo) → v = (o || al)) →
    ((anyL xs all j (true, s)).1 = true → (∃ c new nw o al, 0 < c ∧ pOk xs s0 (anyL xs all j (true, s)).2 new nw ∧ (∀ st, st.length = h → jGo rowV filV xs s0.1 ((false, true, 0, 0) :: st) (anyL xs all j (true, s)).2.1 ((o, al, c, 0) :: st)) ∧ ∀ env, ∃ v, sem env new s0.1 v ∧ ∀ mo, agr rowV filV xs env ((anyL xs all j (true, s)).2.2.2 ++ mo) → v = (o || al)) ∧ (at0 xs (skp xs (anyL xs all j (true, s)).2.1) = 0 ∨ at0 xs (skp xs (anyL xs all j (true, s)).2.1) = 41)) ∧
    ((anyL xs all j (true, s)).1 = false → ∀ st, st.length = h → jNo rowV filV xs s0.1 ((false, true, 0, 0) :: st)) := by
  intro j
  induction j with
  | zero => intro c s n1 w1 o al hc hj hf ok1; have := ok1.2.1.2; omega
  | succ j ih =>
    intro c s n1 w1 o al hc hj hf ok1 go1 sm1
    obtain ⟨i1, i1'⟩ := ok1.in hi
    have hg := @skp_ge xs s.1
    have hle := skp_le (xs := xs) i1.1
    have o3 := ok1.2.1.1
    by_cases h124 : at0 xs (skp xs s.1) = 124
    · have hlt : skp xs s.1 < xs.length := at0_lt h124 (by omega)
      have rd := rdP_sg h124 (by omega)
      have e : anyL xs all (j + 1) (true, s) = anyL xs all j (pThen (all (skp xs s.1 + 1, s.2)) (pStep 6 (nI 0))) := by
        rw [anyL, if_pos rfl]
        show (if (pTake xs 124 s).1 = true then anyL xs all j (pThen (all (pTake xs 124 s).2) (pStep 6 (nI 0))) else _) = _
        rw [pTake_t h124, if_pos rfl]
      rw [e]
      have hi2 := i1.at (b := skp xs s.1 + 1) (by omega) (by omega)
      have st1 : ∀ st : List mL, jGo rowV filV xs s.1 ((o, al, c, 0) :: st) (skp xs s.1 + 1) ((o || al, true, 0, 0) :: st) := fun st => jGo_step (by rw [rd]; show ¬ nI 124 = nI 0; decide) (by rw [jStp_124 (by rw [rd]), if_pos (by unfold whB; exact decide_eq_true ⟨hc, rfl⟩), rd]) (by omega) (by omega)
      obtain ⟨k1, k2⟩ := hp _ hi2
      cases hr : (all (skp xs s.1 + 1, s.2)).1 with
      | true =>
        obtain ⟨⟨c2, hc2, n2, w2, v2, ok2, go2, sm2⟩, nf⟩ := k1 hr
        rw [pThen_t hr]
        generalize hs2 : (all (skp xs s.1 + 1, s.2)).2 = s2 at *
        obtain ⟨i2, i2'⟩ := ok2.in hi2
        rw [pStep_t (by have := i2.1; omega)]
        have o2 : skp xs s.1 + 1 < s2.1 := ok2.2.1.1
        refine ih c2 (s2.1, s2.2.1 ++ [(6, nI 0, s2.2.2.length)], s2.2.2) _ _ (o || al) v2 hc2 (by show 24 < j + s2.1; omega) nf (ok1.two (by omega) ok2 (lk4 (by omega))) (fun st hst => ?_) (fun env => ?_)
        · exact (go1 st hst).tr ((st1 st).tr (go2 _ _ st hst ⟨rfl, rfl⟩))
        · obtain ⟨a, q1, q2⟩ := sm1 env
          obtain ⟨b, r1, r2⟩ := sm2 env
          exact ⟨a || b, q1.any r1 (by show s0.1 < skp xs s.1 + 1; omega), fun mo ha => by rw [q2 _ (agr_app (s1 := s) (s2 := s2) ha ok2.1.2), r2 mo ha]⟩
      | false =>
        rw [pThen_f hr, anyL_f rfl]
        exact ⟨fun h => (by cases h), fun _ st hst => (go1 st hst).no ((st1 st).no (k2 hr _ st hst rfl))⟩
    · have e : anyL xs all (j + 1) (true, s) = (true, (skp xs s.1, s.2)) := by
        rw [anyL, if_pos rfl]
        show (if (pTake xs 124 s).1 = true then _ else (true, (pTake xs 124 s).2)) = _
        rw [pTake_f h124, if_neg (by simp)]
      rw [e]
      refine ⟨fun _ => ⟨⟨c, n1, w1, o, al, hc, ok1.sk, fun st hst => (go1 st hst).tr jGo_skp, sm1⟩, ?_⟩, fun h => by cases h⟩
      show at0 xs (skp xs (skp xs s.1)) = 0 ∨ at0 xs (skp xs (skp xs s.1)) = 41
      rw [skp_skp]
      unfold fol at hf
      omega
theorem any_sp {h : Nat} {nest : PS → PR} {can : Bool} (hl : xs.length ≤ 24) (hp : spAll rowV filV xs h (gAll xs nest can)) : spAny rowV filV xs h (gAny xs nest can) := by
  intro s hi
  obtain ⟨k1, k2⟩ := hp s hi
  unfold gAny
  cases hr : (gAll xs nest can s).1 with
  | true =>
    have e : gAll xs nest can s = (true, (gAll xs nest can s).2) := by rw [← hr]
    obtain ⟨⟨c, hc, n1, w1, v1, ok1, go1, sm1⟩, nf⟩ := k1 hr
    rw [e]
    have o := ok1.2.1.1
    exact any_l hl hp s hi 24 c _ n1 w1 false v1 hc (by omega) nf ok1 (fun st hst => go1 _ _ st hst ⟨rfl, rfl⟩) sm1
  | false =>
    rw [anyL_f hr]
    exact ⟨fun h => (by rw [hr] at h; cases h), fun _ st hst => k2 hr _ st hst rfl⟩
theorem pAny_sp (hl : xs.length ≤ 24) (hch : ∀ k, k < xs.length → 32 ≤ at0 xs k) : ∀ (m h : Nat), m + h = 6 → spAny rowV filV xs h (pAny xs m) := by
  intro m
  induction m with
  | zero => intro h hh; exact any_sp hl (all_sp hl (part_sp hl (one_sp hl hch (by rw [decide_eq_false (by omega)]) (fun g => by cases g))))
  | succ m ih => intro h hh; exact any_sp hl (all_sp hl (part_sp hl (one_sp hl hch (by rw [decide_eq_true (by omega)]) (fun _ => ih (h + 1) (by omega)))))
/-- what is read, and what the judge says of it -/
theorem read_sp (hl : xs.length ≤ 24) (hch : ∀ k, k < xs.length → 32 ≤ at0 xs k) : ((pRead xs).1 = true → qOk (pRead xs).2.2.1 (pRead xs).2.2.2 ∧ ∃ v0, jRun rowV filV xs 30 0 [(false, true, 0, 0)] = bI v0 ∧ ∀ env, agr rowV filV xs env (pRead xs).2.2.2 → evalS env (pRead xs).2.2.1 [] = some [v0]) ∧ ((pRead xs).1 = false → jRun rowV filV xs 30 0 [(false, true, 0, 0)] = -1) := by
  obtain ⟨k1, k2⟩ := pAny_sp (rowV := rowV) (filV := filV) hl hch 6 0 rfl (0, [], []) ⟨Nat.zero_le _, Or.inl (Nat.le_refl 0), Nat.le_refl 0⟩
  unfold pRead
  cases hr : (pAny xs 6 (0, [], [])).1 with
  | true =>
    obtain ⟨⟨c, n1, w1, o, al, hc, ok1, go1, sm1⟩, nf⟩ := k1 hr
    obtain ⟨f', q1, q2⟩ := go1 [] rfl 30 (by show xs.length - 0 < 30; omega)
    have e1 : (pAny xs 6 (0, [], [])).2.2.1 = n1 := ok1.1.1
    rw [Bool.true_and]
    refine ⟨fun h0 => ?_, fun h0 => ?_⟩
    · have h0 := of_decide_eq_true h0
      refine ⟨⟨fun env => ?_, fun k hk => ok1.2.2.2.2 k (by rw [← e1]; exact hk)⟩, o || al, ?_, fun env ha => ?_⟩
      · obtain ⟨v, s1, s2⟩ := sm1 env
        exact ⟨v, [], by show evalS env (pAny xs 6 (0, [], [])).2.2.1 [] = _; rw [e1]; exact s1 [] (Nat.le_refl 0)⟩
      · rw [q2]
        cases f' with
        | zero => omega
        | succ f' =>
          rw [jRun_0 (rdP_end h0 hch)]
          show (if c = 0 ∨ ¬ 0 = 0 then (-1 : Int32) else bI (o || al)) = _
          rw [if_neg (by omega)]
      · obtain ⟨v, s1, s2⟩ := sm1 env
        have := s2 [] (by rw [List.append_nil]; exact ha)
        show evalS env (pAny xs 6 (0, [], [])).2.2.1 [] = _
        rw [e1, ← this]
        exact s1 [] (Nat.le_refl 0)
    · have h0 := of_decide_eq_false h0
      rw [q2]
      have h41 := nf.resolve_left h0
      have rd := rdP_sg h41 (by omega)
      refine jNo_step (by rw [rd]; show ¬ nI 41 = nI 0; decide) ?_ f' q1
      rw [jStp_41 (by rw [rd])]
      rfl
  | false =>
    rw [Bool.false_and]
    exact ⟨fun h => (by cases h), fun _ => k2 hr [] rfl 30 (by show xs.length - 0 < 30; omega)⟩
end PQ
