theorem rdP_t {xs : List Nat} {a : Nat} (ha : a ≤ xs.length) (h : ¬ (rdP xs a).1 = nI 0) : a ≤ (rdP xs a).2.1 ∧ (rdP xs a).2.1 < (rdP xs a).2.2 ∧ (rdP xs a).2.2 ≤ xs.length := by
  have h1 := @skp_ge xs a
  by_cases h0 : xs.length ≤ skp xs a
  · exact absurd (show (rdP xs a).1 = nI 0 by unfold rdP; rw [if_pos h0]) h
  · have h2 := scanW_le (xs := xs) (i := skp xs a + 1) (by omega)
    have h3 := @scanW_ge xs (skp xs a + 1)
    have h4 := scanD_le (xs := xs) (i := skp xs a + 1) (by omega)
    have h5 := @scanD_ge xs (skp xs a + 1)
    unfold rdP
    rw [if_neg h0]
    split
    · exact ⟨h1, by show skp xs a < scanW xs (skp xs a + 1); omega, h2⟩
    · split
      · exact ⟨h1, by show skp xs a < scanD xs (skp xs a + 1); omega, h4⟩
      · exact ⟨h1, by show skp xs a < skp xs a + 1; omega, by show skp xs a + 1 ≤ _; omega⟩
theorem rdP_2 {xs : List Nat} {a : Nat} (h : (rdP xs a).1 = nI 2) : ∀ k, (rdP xs a).2.1 < k → k < (rdP xs a).2.2 → 48 ≤ at0 xs k ∧ at0 xs k ≤ 57 := by
  have key : ∀ (q i : Nat), xs.length - i < q → ∀ k, i ≤ k → k < scanD xs i → 48 ≤ at0 xs k ∧ at0 xs k ≤ 57 := by
    intro q
    induction q with
    | zero => intro i hi; omega
    | succ q ih =>
      intro i hi k h1 h2
      by_cases hc : i < xs.length ∧ isDg (at0 xs i) = true
      · by_cases e : k = i
        · subst e
          have := hc.2
          unfold isDg at this
          exact of_decide_eq_true this
        · rw [scanD_s hc.1 hc.2] at h2
          exact ih (i + 1) (by omega) k (by omega) h2
      · rw [scanD_e (by
          rcases Nat.lt_or_ge i xs.length with g | g
          · right
            cases hd : isDg (at0 xs i) with
            | false => rfl
            | true => exact absurd ⟨g, hd⟩ hc
          · exact Or.inl g)] at h2
        omega
  unfold rdP at h ⊢
  split
  · next h0 => rw [if_pos h0] at h; exact absurd (show nI 0 = nI 2 from h) (by decide)
  · next h0 =>
    rw [if_neg h0] at h
    split
    · next h1 =>
      rw [if_pos h1] at h
      exfalso
      revert h
      show ((if _ then (-1 : Int32) else nI 1) = nI 2) → False
      split <;> decide
    · next h1 =>
      rw [if_neg h1] at h
      split
      · intro k hk1 hk2
        exact key _ (skp xs a + 1) (Nat.lt_succ_self _) k hk1 hk2
      · next h2 =>
        rw [if_neg h2] at h
        exfalso
        revert h
        show ((if _ then nI (at0 xs (skp xs a)) else (-1 : Int32)) = nI 2) → False
        split
        · next h3 => rcases h3 with h3 | h3 | h3 | h3 | h3 <;> rw [h3] <;> decide
        · decide
def rwL (xs : List Nat) : Nat → Nat → List (Nat × Nat) → Int32 × Nat × List (Nat × Nat)
  | 0, a, L => (-1, a, L)
  | f + 1, a, L => if (rdP xs a).1 = nI 1 then rwL xs f (rdP xs a).2.2 (L ++ [((rdP xs a).2.1, (rdP xs a).2.2)]) else ((rdP xs a).1, (rdP xs a).2.2, L)
theorem rwL_s {xs : List Nat} {f a : Nat} {L : List (Nat × Nat)} (h : (rdP xs a).1 = nI 1) : rwL xs (f + 1) a L = rwL xs f (rdP xs a).2.2 (L ++ [((rdP xs a).2.1, (rdP xs a).2.2)]) := by rw [rwL, if_pos h]
theorem rwL_e {xs : List Nat} {f a : Nat} {L : List (Nat × Nat)} (h : ¬ (rdP xs a).1 = nI 1) : rwL xs (f + 1) a L = ((rdP xs a).1, (rdP xs a).2.2, L) := by rw [rwL, if_neg h]
def whB (l : mL) : Bool := decide (0 < l.2.2.1 ∧ l.2.2.2 = 0)
def cls1 (l : mL) (t : Nat) : List mL → Option (Nat × List mL)
  | [] => none
  | l2 :: st => if whB l = true then some (t, prt l2 (l.1 || l.2.1) :: st) else none
/-- one piece of a query, given what its leaves are worth -/
def jStp (rowV : List (Nat × Nat) → Bool) (filV : Nat → Nat → Bool) (xs : List Nat) (a : Nat) (l : mL) (st : List mL) : Option (Nat × List mL) :=
  if (rdP xs a).1 = nI 1 then some ((rdP xs a).2.2, prt l (rowV [((rdP xs a).2.1, (rdP xs a).2.2)]) :: st)
  else if (rdP xs a).1 = nI 2 then some ((rdP xs a).2.2, prt l (filV (rdP xs a).2.1 (rdP xs a).2.2) :: st)
  else if (rdP xs a).1 = nI 34 then (if (rwL xs 25 (rdP xs a).2.2 []).1 = nI 34 ∧ ¬ (rwL xs 25 (rdP xs a).2.2 []).2.2.length = 0 then some ((rwL xs 25 (rdP xs a).2.2 []).2.1, prt l (rowV (rwL xs 25 (rdP xs a).2.2 []).2.2) :: st) else none)
  else if (rdP xs a).1 = nI 45 then some ((rdP xs a).2.2, (l.1, l.2.1, l.2.2.1, if l.2.2.2 = 1 then 2 else 1) :: st)
  else if (rdP xs a).1 = nI 40 then (if st.length < 6 then some ((rdP xs a).2.2, (false, true, 0, 0) :: l :: st) else none)
  else if (rdP xs a).1 = nI 41 then cls1 l (rdP xs a).2.2 st
  else if (rdP xs a).1 = nI 124 ∧ whB l = true then some ((rdP xs a).2.2, (l.1 || l.2.1, true, 0, l.2.2.2) :: st)
  else none
def finV : List mL → Int32
  | [l] => if l.2.2.1 = 0 ∨ ¬ l.2.2.2 = 0 then -1 else bI (l.1 || l.2.1)
  | _ => -1
def jRun (rowV : List (Nat × Nat) → Bool) (filV : Nat → Nat → Bool) (xs : List Nat) : Nat → Nat → List mL → Int32
  | 0, _, _ => -1
  | f + 1, a, st => if (rdP xs a).1 = nI 0 then finV st else match st with
    | [] => -1
    | l :: st => match jStp rowV filV xs a l st with
      | none => -1
      | some (t, st2) => jRun rowV filV xs f t st2
/-- the stack of levels keeps its bounds -/
def lvOk (a : Nat) (st : List mL) : Prop := st.length ≤ 7 ∧ ∀ l ∈ st, l.2.2.1 ≤ a ∧ l.2.2.2 ≤ 2
theorem lvOk.up {a b : Nat} {l l2 : mL} {st : List mL} (h : lvOk a (l :: st)) (hab : a < b) (h1 : l2.2.2.1 ≤ l.2.2.1 + 1) (h2 : l2.2.2.2 ≤ 2) : lvOk b (l2 :: st) := by
  refine ⟨h.1, fun q hq => ?_⟩
  rcases List.mem_cons.mp hq with rfl | hq
  · have := (h.2 l List.mem_cons_self).1; exact ⟨by omega, h2⟩
  · have := h.2 q (List.mem_cons_of_mem _ hq); exact ⟨by omega, this.2⟩
theorem rwL_t {xs : List Nat} : ∀ (f a : Nat) (L : List (Nat × Nat)), a ≤ xs.length → (rwL xs f a L).1 = nI 34 → a < (rwL xs f a L).2.1 ∧ (rwL xs f a L).2.1 ≤ xs.length := by
  intro f
  induction f with
  | zero => intro a L _ h; exact absurd h (by show ¬ (-1 : Int32) = nI 34; decide)
  | succ f ih =>
    intro a L ha h
    by_cases h1 : (rdP xs a).1 = nI 1
    · have h2 := rdP_t ha (by rw [h1]; decide)
      rw [rwL_s h1] at h ⊢
      have := ih _ _ h2.2.2 h
      omega
    · rw [rwL_e h1] at h ⊢
      have h2 := rdP_t ha (by rw [show (rdP xs a).1 = nI 34 from h]; decide)
      exact ⟨by show a < (rdP xs a).2.2; omega, h2.2.2⟩
theorem jStp_ok {rowV : List (Nat × Nat) → Bool} {filV : Nat → Nat → Bool} {xs : List Nat} {a t : Nat} {l : mL} {st st2 : List mL} (ha : a ≤ xs.length) (hk : lvOk a (l :: st)) (h0 : ¬ (rdP xs a).1 = nI 0) (h : jStp rowV filV xs a l st = some (t, st2)) : a < t ∧ t ≤ xs.length ∧ lvOk t st2 ∧ 0 < st2.length := by
  obtain ⟨t1, t2, t3⟩ := rdP_t ha h0
  have hm := (hk.2 l List.mem_cons_self).2
  unfold jStp at h
  split at h
  · cases h; exact ⟨by omega, t3, hk.up (by omega) (Nat.le_refl _) (Nat.zero_le _), Nat.succ_pos _⟩
  · split at h
    · cases h; exact ⟨by omega, t3, hk.up (by omega) (Nat.le_refl _) (Nat.zero_le _), Nat.succ_pos _⟩
    · split at h
      · split at h
        · next hh =>
          obtain ⟨y1, y2⟩ := rwL_t _ _ _ t3 hh.1
          cases h; exact ⟨by omega, y2, hk.up (by omega) (Nat.le_refl _) (Nat.zero_le _), Nat.succ_pos _⟩
        · cases h
      · split at h
        · cases h; exact ⟨by omega, t3, hk.up (by omega) (Nat.le_succ _) (by show (if l.2.2.2 = 1 then 2 else 1) ≤ 2; split <;> omega), Nat.succ_pos _⟩
        · split at h
          · split at h
            · next hh =>
              cases h
              refine ⟨by omega, t3, ⟨by simp only [List.length_cons]; omega, fun q hq => ?_⟩, Nat.succ_pos _⟩
              rcases List.mem_cons.mp hq with rfl | hq
              · exact ⟨Nat.zero_le _, Nat.zero_le _⟩
              · have := hk.2 q hq; exact ⟨by omega, this.2⟩
            · cases h
          · split at h
            · cases st with
              | nil => cases h
              | cons l2 st =>
                change (if whB l = true then some ((rdP xs a).2.2, prt l2 (l.1 || l.2.1) :: st) else none) = some (t, st2) at h
                split at h
                · cases h
                  have hk2 : lvOk a (l2 :: st) := ⟨by have := hk.1; simp only [List.length_cons] at this ⊢; omega, fun q hq => hk.2 q (List.mem_cons_of_mem _ hq)⟩
                  exact ⟨by omega, t3, hk2.up (by omega) (Nat.le_refl _) (Nat.zero_le _), Nat.succ_pos _⟩
                · cases h
            · split at h
              · cases h; exact ⟨by omega, t3, hk.up (by omega) (Nat.zero_le _) hm, Nat.succ_pos _⟩
              · cases h
theorem scR.W {m : Nat} {L : List (Nat × Nat)} {r1 r2 : zRw} (h : scR m r1 r2) (hw : wdA r1 m L) : wdA r2 m L := ⟨by rw [h m 28 (by omega)]; exact hw.1, fun k q hq => by rw [h (m + 20) k (by omega), h (m + 21) k (by omega)]; exact hw.2 k q hq⟩
theorem scR.L {m : Nat} {st : List mL} {r1 r2 : zRw} (h : scR m r1 r2) (hv : lvA r1 m st) : lvA r2 m st := hv.keep (N := st.length) (fun b k _ _ _ => h b k (by omega)) (Nat.le_refl _)
theorem scW.L {m : Nat} {st : List mL} {r1 r2 : zRw} (h : scW m r1 r2) (hv : lvA r1 m st) : lvA r2 m st := hv.keep (N := st.length) (fun b k _ _ _ => h b k (by omega) (by omega)) (Nat.le_refl _)

set_option maxHeartbeats 4000000 in
set_option maxRecDepth 100000 in
theorem kM_step (G : zG) (d : Nat) (hd : 3 ≤ d) {n : Nat} {sh : zSh} {row : zRw} {m : Nat} {A : Nat × (Nat → Nat)} {B : Nat × Nat × Nat × Nat} {P : (Nat → Int32) × (Nat → Int32) × (Nat → Bool) × (Nat → Nat) × (Nat → Nat)} {T : (Nat → Nat) × (Nat → Nat) × (Nat → Nat)} {S : (Nat → Nat) × (Nat → Bool)} {H : (Nat → Bool) × (Nat → Nat) × (Nat → Nat) × (Nat → Nat)} (hM : MA sh row m A B P T S H) {j a : Nat} {pv : Int32} {xs : List Nat} {rowV : List (Nat × Nat) → Bool} {filV : Nat → Nat → Bool} {l : mL} {st : List mL} (hj : j < 4) (hq : qyA H j xs) (hl : xs.length ≤ 24) (hch : ∀ k, at0 xs k < 127) (hrow : ∀ (row' : zRw) (L : List (Nat × Nat)), MA sh row' m A B P T S H → wdA row' m L → (∀ q ∈ L, q.1 ≤ q.2 ∧ q.2 ≤ xs.length) → L.length ≤ 24 → zM G (fM_row (d - 1)) [.ref m, .int (nI j), .int pv] n sh row' (zP sh row' (.int (bI (rowV L))))) (hfil : ∀ (row' : zRw) (f t : Nat), MA sh row' m A B P T S H → row' m 21 = .int (nI f) → row' m 22 = .int (nI t) → f < t → t ≤ xs.length → (∀ k, f < k → k < t → 48 ≤ at0 xs k ∧ at0 xs k ≤ 57) → zM G (fM_filter (d - 1)) [.ref m, .int (nI j), .int pv] n sh row' (zP sh row' (.int (bI (filV f t))))) (ha : a ≤ xs.length) (hok : lvOk a (l :: st)) (h0 : ¬ (rdP xs a).1 = nI 0) (h20 : row m 20 = .int (rdP xs a).1) (h21 : row m 21 = .int (nI (rdP xs a).2.1)) (h22 : row m 22 = .int (nI (rdP xs a).2.2)) (h23 : row m 23 = .int (nI st.length)) (hv : lvA row m (l :: st)) : zM G (fM_step d) [.ref m, .int (nI j), .int pv] n sh row (zpR sh (fun v row' => v = .int (bI (jStp rowV filV xs a l st).isSome) ∧ scE m row row' ∧ ∀ t2 st2, jStp rowV filV xs a l st = some (t2, st2) → row' m 22 = .int (nI t2) ∧ row' m 23 = .int (nI (st2.length - 1)) ∧ lvA row' m st2)) := by
  refine zM.of (by show plainName "PostIndexModel" = true; decide +kernel) (Nat.le_of_ble_eq_true rfl) (by intro v hv; simp at hv; rcases hv with rfl | rfl | rfl <;> rfl) ?_
  intro K hE
  show zX G K (fM_step d) n 0 0 sh row 0 [.ref m, .int (nI j), .int pv, .retAddr 0, .retAddr 0] []
  have hD : d - 1 + 1 ≤ d := by omega
  obtain ⟨⟨go, g_dr, g_au, g_ti, g_er, g_ln, g_tx, g_tk, g_fr, g_to, g_rw, g_pk, g_tn, g_bd, g_ql, g_qy, g_any, g_all, g_pa, g_mi, g_wf, g_wt⟩, ⟨p_dr, p_au, p_ti, p_er, p_ln, p_tx, p_tk, p_fr, p_to, p_rw, p_pk, p_tn, p_bd, p_ql, p_qy, p_any, p_all, p_pa, p_mi, p_wf, p_wt⟩, ⟨f_dl, f_md, f_pb, f_dn, f_sn⟩, a_dr, a_au, a_ti, a_er, a_ln, a_tx, a_tk, a_fr, a_to, a_rw, a_pk, a_tn, a_bd, a_ql, a_qy⟩ := id hM
  obtain ⟨t1, t2, t3⟩ := rdP_t ha h0
  obtain ⟨ml1, ml2⟩ := hok.2 l List.mem_cons_self
  have hl7 : st.length ≤ 6 := by have := hok.1; rw [List.length_cons] at this; omega
  have m29 : ∀ w : Bool, w = whB l → zX G K (fM_step d) n 0 0 sh row 29 [.ref m, .int (nI j), .int pv, .retAddr 0, .retAddr 0] [.int (bI w)] := by
    intro w hw
    refine zx_istore_n dM_step_29 (Nat.le_of_ble_eq_true rfl) rfl rfl ?_
    refine zx_aload_n dM_step_30 rfl ?_
    refine zx_iconst (v := nI 0) dM_step_31 (by decide) ?_
    refine zx_put dM_step_32 flM_148 tpM_28 (by assumption) rfl rfl ?_
    have hs1 : scE m row (zup row m 28 (.int (nI 0))) := scE.rf.upF (by omega)
    have hM1 := hM.scr hs1
    have hw1 : wdA (zup row m 28 (.int (nI 0))) m [] := ⟨zup_same _ _ _, fun k q hq => by cases hq⟩
    have hv1 : lvA (zup row m 28 (.int (nI 0))) m (l :: st) := hv.keep (N := st.length + 1) (fun b k _ _ _ => zup_k (by omega)) (Nat.le_refl _)
    have q20 : zup row m 28 (.int (nI 0)) m 20 = .int (rdP xs a).1 := (zup_k (by omega)).trans h20
    have q21 : zup row m 28 (.int (nI 0)) m 21 = .int (nI (rdP xs a).2.1) := (zup_k (by omega)).trans h21
    have q22 : zup row m 28 (.int (nI 0)) m 22 = .int (nI (rdP xs a).2.2) := (zup_k (by omega)).trans h22
    have q23 : zup row m 28 (.int (nI 0)) m 23 = .int (nI st.length) := (zup_k (by omega)).trans h23
    have hmi1 := hv1.1.2.2.2
    obtain ⟨⟨ygo, yg_dr, yg_au, yg_ti, yg_er, yg_ln, yg_tx, yg_tk, yg_fr, yg_to, yg_rw, yg_pk, yg_tn, yg_bd, yg_ql, yg_qy, yg_any, yg_all, yg_pa, yg_mi, yg_wf, yg_wt⟩, ⟨yp_dr, yp_au, yp_ti, yp_er, yp_ln, yp_tx, yp_tk, yp_fr, yp_to, yp_rw, yp_pk, yp_tn, yp_bd, yp_ql, yp_qy, yp_any, yp_all, yp_pa, yp_mi, yp_wf, yp_wt⟩, ⟨yf_dl, yf_md, yf_pb, yf_dn, yf_sn⟩, ya_dr, ya_au, ya_ti, ya_er, ya_ln, ya_tx, ya_tk, ya_fr, ya_to, ya_rw, ya_pk, ya_tn, ya_bd, ya_ql, ya_qy⟩ := id hM1
    refine zx_aload_n dM_step_35 rfl ?_
    refine zx_get dM_step_36 flM_145 (by assumption) (by first | assumption | exact ((zup_k (by omega)).trans (by assumption)) | exact ((zup_k (by omega)).trans ((zup_k (by omega)).trans (by assumption))) | exact ((zup_k (by omega)).trans ((zup_k (by omega)).trans ((zup_k (by omega)).trans (by assumption)))) | exact ((zup_k (by omega)).trans ((zup_k (by omega)).trans ((zup_k (by omega)).trans ((zup_k (by omega)).trans (by assumption)))))) ?_
    refine zx_iconst (v := nI 1) dM_step_39 (by decide) ?_
    refine zx_icmp_ne (tgt := 60) dM_step_40 rfl (fun h40 => ?_) (fun h40 => ?_)
    · refine zx_aload_n dM_step_60 rfl ?_
      refine zx_get dM_step_61 flM_145 (by assumption) (by first | assumption | exact ((zup_k (by omega)).trans (by assumption)) | exact ((zup_k (by omega)).trans ((zup_k (by omega)).trans (by assumption))) | exact ((zup_k (by omega)).trans ((zup_k (by omega)).trans ((zup_k (by omega)).trans (by assumption)))) | exact ((zup_k (by omega)).trans ((zup_k (by omega)).trans ((zup_k (by omega)).trans ((zup_k (by omega)).trans (by assumption)))))) ?_
      refine zx_iconst (v := nI 2) dM_step_64 (by decide) ?_
      refine zx_icmp_ne (tgt := 81) dM_step_65 rfl (fun h65 => ?_) (fun h65 => ?_)
      · refine zx_aload_n dM_step_81 rfl ?_
        refine zx_get dM_step_82 flM_145 (by assumption) (by first | assumption | exact ((zup_k (by omega)).trans (by assumption)) | exact ((zup_k (by omega)).trans ((zup_k (by omega)).trans (by assumption))) | exact ((zup_k (by omega)).trans ((zup_k (by omega)).trans ((zup_k (by omega)).trans (by assumption)))) | exact ((zup_k (by omega)).trans ((zup_k (by omega)).trans ((zup_k (by omega)).trans ((zup_k (by omega)).trans (by assumption)))))) ?_
        refine zx_bipush (v := nI 34) dM_step_85 (by decide) ?_
        refine zx_icmp_ne (tgt := 146) dM_step_87 rfl (fun h87 => ?_) (fun h87 => ?_)
        · refine zx_aload_n dM_step_146 rfl ?_
          refine zx_get dM_step_147 flM_145 (by assumption) (by first | assumption | exact ((zup_k (by omega)).trans (by assumption)) | exact ((zup_k (by omega)).trans ((zup_k (by omega)).trans (by assumption))) | exact ((zup_k (by omega)).trans ((zup_k (by omega)).trans ((zup_k (by omega)).trans (by assumption)))) | exact ((zup_k (by omega)).trans ((zup_k (by omega)).trans ((zup_k (by omega)).trans ((zup_k (by omega)).trans (by assumption)))))) ?_
          refine zx_bipush (v := nI 45) dM_step_150 (by decide) ?_
          refine zx_icmp_ne (tgt := 185) dM_step_152 rfl (fun h152 => ?_) (fun h152 => ?_)
          · refine zx_aload_n dM_step_185 rfl ?_
            refine zx_get dM_step_186 flM_145 (by assumption) (by first | assumption | exact ((zup_k (by omega)).trans (by assumption)) | exact ((zup_k (by omega)).trans ((zup_k (by omega)).trans (by assumption))) | exact ((zup_k (by omega)).trans ((zup_k (by omega)).trans ((zup_k (by omega)).trans (by assumption)))) | exact ((zup_k (by omega)).trans ((zup_k (by omega)).trans ((zup_k (by omega)).trans ((zup_k (by omega)).trans (by assumption)))))) ?_
            refine zx_bipush (v := nI 40) dM_step_189 (by decide) ?_
            refine zx_icmp_ne (tgt := 218) dM_step_191 rfl (fun h191 => ?_) (fun h191 => ?_)
            · refine zx_aload_n dM_step_218 rfl ?_
              refine zx_get dM_step_219 flM_145 (by assumption) (by first | assumption | exact ((zup_k (by omega)).trans (by assumption)) | exact ((zup_k (by omega)).trans ((zup_k (by omega)).trans (by assumption))) | exact ((zup_k (by omega)).trans ((zup_k (by omega)).trans ((zup_k (by omega)).trans (by assumption)))) | exact ((zup_k (by omega)).trans ((zup_k (by omega)).trans ((zup_k (by omega)).trans ((zup_k (by omega)).trans (by assumption)))))) ?_
              refine zx_bipush (v := nI 41) dM_step_222 (by decide) ?_
              refine zx_icmp_ne (tgt := 290) dM_step_224 rfl (fun h224 => ?_) (fun h224 => ?_)
              · have m342 : (rdP xs a).1 = nI 124 → w = true → ∀ b : Bool, b = (l.1 || l.2.1) → zX G K (fM_step d) n 0 0 sh (zup row m 28 (.int (nI 0))) 342 [.ref m, .int (nI j), .int pv, .int (bI w), .retAddr 0] [.int (bI b), .int (nI st.length), .ref (m + 16)] := by
                  intro h296 h300 b hb
                  refine zn_zast (b := b) dM_step_342 g_any rfl (by omega) (by decide) ?_
                  refine zx_aload_n dM_step_343 rfl ?_
                  refine zx_get dM_step_344 flM_59 (by assumption) (by first | assumption | exact ((zup_k (by omega)).trans (by assumption)) | exact ((zup_k (by omega)).trans ((zup_k (by omega)).trans (by assumption))) | exact ((zup_k (by omega)).trans ((zup_k (by omega)).trans ((zup_k (by omega)).trans (by assumption)))) | exact ((zup_k (by omega)).trans ((zup_k (by omega)).trans ((zup_k (by omega)).trans ((zup_k (by omega)).trans (by assumption)))))) ?_
                  refine zx_aload_n dM_step_347 rfl ?_
                  refine zx_get dM_step_348 flM_155 (by assumption) (by first | assumption | exact ((zup_k (by omega)).trans (by assumption)) | exact ((zup_k (by omega)).trans ((zup_k (by omega)).trans (by assumption))) | exact ((zup_k (by omega)).trans ((zup_k (by omega)).trans ((zup_k (by omega)).trans (by assumption)))) | exact ((zup_k (by omega)).trans ((zup_k (by omega)).trans ((zup_k (by omega)).trans ((zup_k (by omega)).trans (by assumption)))))) ?_
                  refine zx_iconst (v := nI 1) dM_step_351 (by decide) ?_
                  refine zn_zast (b := true) dM_step_352 g_all rfl (by omega) (by decide) ?_
                  refine zx_aload_n dM_step_353 rfl ?_
                  refine zx_get dM_step_354 flM_62 (by assumption) (by first | assumption | exact ((zup_k (by omega)).trans (by assumption)) | exact ((zup_k (by omega)).trans ((zup_k (by omega)).trans (by assumption))) | exact ((zup_k (by omega)).trans ((zup_k (by omega)).trans ((zup_k (by omega)).trans (by assumption)))) | exact ((zup_k (by omega)).trans ((zup_k (by omega)).trans ((zup_k (by omega)).trans ((zup_k (by omega)).trans (by assumption)))))) ?_
                  refine zx_aload_n dM_step_357 rfl ?_
                  refine zx_get dM_step_358 flM_155 (by assumption) (by first | assumption | exact ((zup_k (by omega)).trans (by assumption)) | exact ((zup_k (by omega)).trans ((zup_k (by omega)).trans (by assumption))) | exact ((zup_k (by omega)).trans ((zup_k (by omega)).trans ((zup_k (by omega)).trans (by assumption)))) | exact ((zup_k (by omega)).trans ((zup_k (by omega)).trans ((zup_k (by omega)).trans ((zup_k (by omega)).trans (by assumption)))))) ?_
                  refine zx_iconst (v := nI 0) dM_step_361 (by decide) ?_
                  refine zn_iast dM_step_362 g_pa rfl (by omega) (by decide) ?_
                  refine zx_iconst (v := nI 1) dM_step_363 (by decide) ?_
                  exact zx_zret hE rfl (by first | decide | exact bI_nar _) dM_step_364 rfl (Nat.le_of_ble_eq_true rfl) (by have hJ : jStp rowV filV xs a l st = some _ := (by unfold jStp; rw [if_neg h40, if_neg h65, if_neg h87, if_neg h152, if_neg h191, if_neg h224, if_pos ⟨h296, hw.symm.trans h300⟩, ← hb]); rw [hJ]; refine ⟨_, rfl, rfl, rfl, ((hs1.upA (by omega) (by omega)).upA (by omega) (by omega)).upA (by omega) (by omega), fun t2 st2 hh => ?_⟩; cases hh; exact ⟨by rw [zup_ne (by omega), zup_ne (by omega), zup_ne (by omega)]; exact q22, by rw [zup_ne (by omega), zup_ne (by omega), zup_ne (by omega)]; exact q23, ⟨by rw [zup_ne (by omega), zup_ne (by omega), zup_same], by rw [zup_ne (by omega), zup_same], by rw [zup_same], by rw [zup_ne (by omega), zup_ne (by omega), zup_ne (by omega)]; exact hv1.1.2.2.2⟩, hv1.2.keep (N := st.length) (fun b k _ _ hk => by rw [zup_k (by omega), zup_k (by omega), zup_k (by omega)]) (Nat.le_refl _)⟩)
                refine zx_aload_n dM_step_290 rfl ?_
                refine zx_get dM_step_291 flM_145 (by assumption) (by first | assumption | exact ((zup_k (by omega)).trans (by assumption)) | exact ((zup_k (by omega)).trans ((zup_k (by omega)).trans (by assumption))) | exact ((zup_k (by omega)).trans ((zup_k (by omega)).trans ((zup_k (by omega)).trans (by assumption)))) | exact ((zup_k (by omega)).trans ((zup_k (by omega)).trans ((zup_k (by omega)).trans ((zup_k (by omega)).trans (by assumption)))))) ?_
                refine zx_bipush (v := nI 124) dM_step_294 (by decide) ?_
                refine zx_icmp_ne (tgt := 303) dM_step_296 rfl (fun h296 => ?_) (fun h296 => ?_)
                · refine zx_iconst (v := nI 0) dM_step_303 (by decide) ?_
                  exact zx_zret hE rfl (by first | decide | exact bI_nar _) dM_step_304 rfl (Nat.le_of_ble_eq_true rfl) (by have hJ : jStp rowV filV xs a l st = none := (by unfold jStp; rw [if_neg h40, if_neg h65, if_neg h87, if_neg h152, if_neg h191, if_neg h224]; first | rw [if_neg (fun hh => h296 hh.1)] | rw [if_neg (fun hh => by have h9 := hh.2; rw [← hw, h300] at h9; cases h9)]); rw [hJ]; exact ⟨_, rfl, rfl, rfl, hs1, fun t2 st2 hh => by cases hh⟩)
                · refine zx_iload_n dM_step_299 rfl ?_
                  refine zb_if_ne (tgt := 305) dM_step_300 rfl (fun h300 => ?_) (fun h300 => ?_)
                  · refine zx_aload_n dM_step_305 rfl ?_
                    refine zx_get dM_step_306 flM_56 (by assumption) (by first | assumption | exact ((zup_k (by omega)).trans (by assumption)) | exact ((zup_k (by omega)).trans ((zup_k (by omega)).trans (by assumption))) | exact ((zup_k (by omega)).trans ((zup_k (by omega)).trans ((zup_k (by omega)).trans (by assumption)))) | exact ((zup_k (by omega)).trans ((zup_k (by omega)).trans ((zup_k (by omega)).trans ((zup_k (by omega)).trans (by assumption)))))) ?_
                    refine zx_aload_n dM_step_309 rfl ?_
                    refine zx_get dM_step_310 flM_155 (by assumption) (by first | assumption | exact ((zup_k (by omega)).trans (by assumption)) | exact ((zup_k (by omega)).trans ((zup_k (by omega)).trans (by assumption))) | exact ((zup_k (by omega)).trans ((zup_k (by omega)).trans ((zup_k (by omega)).trans (by assumption)))) | exact ((zup_k (by omega)).trans ((zup_k (by omega)).trans ((zup_k (by omega)).trans ((zup_k (by omega)).trans (by assumption)))))) ?_
                    refine zx_aload_n dM_step_313 rfl ?_
                    refine zx_get dM_step_314 flM_56 (by assumption) (by first | assumption | exact ((zup_k (by omega)).trans (by assumption)) | exact ((zup_k (by omega)).trans ((zup_k (by omega)).trans (by assumption))) | exact ((zup_k (by omega)).trans ((zup_k (by omega)).trans ((zup_k (by omega)).trans (by assumption)))) | exact ((zup_k (by omega)).trans ((zup_k (by omega)).trans ((zup_k (by omega)).trans ((zup_k (by omega)).trans (by assumption)))))) ?_
                    refine zx_aload_n dM_step_317 rfl ?_
                    refine zx_get dM_step_318 flM_155 (by assumption) (by first | assumption | exact ((zup_k (by omega)).trans (by assumption)) | exact ((zup_k (by omega)).trans ((zup_k (by omega)).trans (by assumption))) | exact ((zup_k (by omega)).trans ((zup_k (by omega)).trans ((zup_k (by omega)).trans (by assumption)))) | exact ((zup_k (by omega)).trans ((zup_k (by omega)).trans ((zup_k (by omega)).trans ((zup_k (by omega)).trans (by assumption)))))) ?_
                    refine zn_zald dM_step_321 g_any rfl (by omega) (by decide) hv1.1.1 ?_
                    refine zb_if_ne (tgt := 337) dM_step_322 rfl (fun h322 => ?_) (fun h322 => ?_)
                    · refine zx_iconst (v := nI 1) dM_step_337 (by decide) ?_
                      refine zx_goto (tgt := 342) dM_step_338 rfl ?_
                      first | exact m342 h296 h300 true (by rw [h322]; rfl) | exact m342 h296 h300 true (by rw [h322, h334]; rfl) | exact m342 h296 h300 false (by rw [h322, h334]; rfl)
                    · refine zx_aload_n dM_step_325 rfl ?_
                      refine zx_get dM_step_326 flM_59 (by assumption) (by first | assumption | exact ((zup_k (by omega)).trans (by assumption)) | exact ((zup_k (by omega)).trans ((zup_k (by omega)).trans (by assumption))) | exact ((zup_k (by omega)).trans ((zup_k (by omega)).trans ((zup_k (by omega)).trans (by assumption)))) | exact ((zup_k (by omega)).trans ((zup_k (by omega)).trans ((zup_k (by omega)).trans ((zup_k (by omega)).trans (by assumption)))))) ?_
                      refine zx_aload_n dM_step_329 rfl ?_
                      refine zx_get dM_step_330 flM_155 (by assumption) (by first | assumption | exact ((zup_k (by omega)).trans (by assumption)) | exact ((zup_k (by omega)).trans ((zup_k (by omega)).trans (by assumption))) | exact ((zup_k (by omega)).trans ((zup_k (by omega)).trans ((zup_k (by omega)).trans (by assumption)))) | exact ((zup_k (by omega)).trans ((zup_k (by omega)).trans ((zup_k (by omega)).trans ((zup_k (by omega)).trans (by assumption)))))) ?_
                      refine zn_zald dM_step_333 g_all rfl (by omega) (by decide) hv1.1.2.1 ?_
                      refine zb_if_eq (tgt := 341) dM_step_334 rfl (fun h334 => ?_) (fun h334 => ?_)
                      · refine zx_iconst (v := nI 0) dM_step_341 (by decide) ?_
                        first | exact m342 h296 h300 true (by rw [h322]; rfl) | exact m342 h296 h300 true (by rw [h322, h334]; rfl) | exact m342 h296 h300 false (by rw [h322, h334]; rfl)
                      · refine zx_iconst (v := nI 1) dM_step_337 (by decide) ?_
                        refine zx_goto (tgt := 342) dM_step_338 rfl ?_
                        first | exact m342 h296 h300 true (by rw [h322]; rfl) | exact m342 h296 h300 true (by rw [h322, h334]; rfl) | exact m342 h296 h300 false (by rw [h322, h334]; rfl)
                  · refine zx_iconst (v := nI 0) dM_step_303 (by decide) ?_
                    exact zx_zret hE rfl (by first | decide | exact bI_nar _) dM_step_304 rfl (Nat.le_of_ble_eq_true rfl) (by have hJ : jStp rowV filV xs a l st = none := (by unfold jStp; rw [if_neg h40, if_neg h65, if_neg h87, if_neg h152, if_neg h191, if_neg h224]; first | rw [if_neg (fun hh => h296 hh.1)] | rw [if_neg (fun hh => by have h9 := hh.2; rw [← hw, h300] at h9; cases h9)]); rw [hJ]; exact ⟨_, rfl, rfl, rfl, hs1, fun t2 st2 hh => by cases hh⟩)
              · refine zx_aload_n dM_step_227 rfl ?_
                refine zx_get dM_step_228 flM_155 (by assumption) (by first | assumption | exact ((zup_k (by omega)).trans (by assumption)) | exact ((zup_k (by omega)).trans ((zup_k (by omega)).trans (by assumption))) | exact ((zup_k (by omega)).trans ((zup_k (by omega)).trans ((zup_k (by omega)).trans (by assumption)))) | exact ((zup_k (by omega)).trans ((zup_k (by omega)).trans ((zup_k (by omega)).trans ((zup_k (by omega)).trans (by assumption)))))) ?_
                refine zn_if_eq (tgt := 238) dM_step_231 rfl (by omega) (fun h231 => ?_) (fun h231 => ?_)
                · refine zx_iconst (v := nI 0) dM_step_238 (by decide) ?_
                  exact zx_zret hE rfl (by first | decide | exact bI_nar _) dM_step_239 rfl (Nat.le_of_ble_eq_true rfl) (by have hJ : jStp rowV filV xs a l st = none := (by unfold jStp; rw [if_neg h40, if_neg h65, if_neg h87, if_neg h152, if_neg h191, if_pos h224]; cases st with | nil => rfl | cons l2 st2 => show (if whB l = true then _ else _) = _; rw [if_neg (by first | (rw [← hw, h235]; decide) | (exact absurd h231 (by simp)))]); rw [hJ]; exact ⟨_, rfl, rfl, rfl, hs1, fun t2 st2 hh => by cases hh⟩)
                · refine zx_iload_n dM_step_234 rfl ?_
                  refine zb_if_ne (tgt := 240) dM_step_235 rfl (fun h235 => ?_) (fun h235 => ?_)
                  · obtain ⟨l2, st, rfl⟩ : ∃ l2 st', st = l2 :: st' := by
                      cases st with
                      | nil => exact absurd rfl h231
                      | cons l2 st2 => exact ⟨l2, st2, rfl⟩
                    have m269 : ∀ b : Bool, b = (l.1 || l.2.1) → zX G K (fM_step d) n 0 0 sh (zup row m 28 (.int (nI 0))) 269 [.ref m, .int (nI j), .int pv, .int (bI w), .retAddr 0] [.int (bI b)] := by
                        intro b hb
                        refine zx_istore dM_step_269 (Nat.le_of_ble_eq_true rfl) rfl rfl ?_
                        refine zx_aload_n dM_step_271 rfl ?_
                        refine zx_dup dM_step_272 rfl ?_
                        refine zx_get dM_step_273 flM_155 (by assumption) (by first | assumption | exact ((zup_k (by omega)).trans (by assumption)) | exact ((zup_k (by omega)).trans ((zup_k (by omega)).trans (by assumption))) | exact ((zup_k (by omega)).trans ((zup_k (by omega)).trans ((zup_k (by omega)).trans (by assumption)))) | exact ((zup_k (by omega)).trans ((zup_k (by omega)).trans ((zup_k (by omega)).trans ((zup_k (by omega)).trans (by assumption)))))) ?_
                        refine zx_iconst (v := nI 1) dM_step_276 (by decide) ?_
                        refine zn_isub dM_step_277 (by simp only [List.length_cons]; omega) ?_
                        rw [show (l2 :: st).length - 1 = st.length from rfl]
                        refine zx_put dM_step_278 flM_155 tpM_23 (by assumption) rfl rfl ?_
                        have hM2 := hM1.scr (scE.rf.upF (k := 23) (v := .int (nI st.length)) (r2 := zup row m 28 (.int (nI 0))) (by omega))
                        have hv2 : lvA (zup (zup row m 28 (.int (nI 0))) m 23 (.int (nI st.length))) m (l2 :: st) := hv1.2.keep (N := st.length + 1) (fun b k _ _ _ => zup_k (by omega)) (Nat.le_refl _)
                        have hml2 := hok.2 l2 (List.mem_cons_of_mem _ List.mem_cons_self)
                        have hl7 : st.length ≤ 5 := by have := hok.1; simp only [List.length_cons] at this; omega
                        refine zx_aload_n dM_step_281 rfl ?_
                        refine zx_iload dM_step_282 rfl ?_
                        refine zc_Vv (n0 := n) (ce := 0) (kM_part G (d - 1) (by omega) hM2 (st := st) (l := l2) (v := b) (by omega) hv2 (zup_same _ _ _) (by omega) (by omega)) (meM_part _) lkM_164 go rfl rfl hD (Nat.le_of_ble_eq_true rfl) rfl rfl (Nat.le_of_ble_eq_true rfl) (Nat.le_of_ble_eq_true rfl) (Nat.le_of_ble_eq_true rfl) dM_step_284 (fun r3 h10 => ?_)
                        refine zx_goto (tgt := 363) dM_step_287 rfl ?_
                        refine zx_iconst (v := nI 1) dM_step_363 (by decide) ?_
                        exact zx_zret hE rfl (by first | decide | exact bI_nar _) dM_step_364 rfl (Nat.le_of_ble_eq_true rfl) (by have hJ : jStp rowV filV xs a l (l2 :: st) = some _ := (by unfold jStp; rw [if_neg h40, if_neg h65, if_neg h87, if_neg h152, if_neg h191, if_pos h224]; show (if whB l = true then _ else _) = _; rw [if_pos (hw.symm.trans h235), ← hb]); rw [hJ]; refine ⟨_, rfl, rfl, rfl, (hs1.upF (by omega)).tr h10.1.E, fun t2 st2 hh => ?_⟩; cases hh; exact ⟨(h10.1 m 22 (by omega) (by omega)).trans ((zup_k (by omega)).trans q22), h10.2.1, h10.2.2⟩)
                    refine zx_aload_n dM_step_240 rfl ?_
                    refine zx_get dM_step_241 flM_56 (by assumption) (by first | assumption | exact ((zup_k (by omega)).trans (by assumption)) | exact ((zup_k (by omega)).trans ((zup_k (by omega)).trans (by assumption))) | exact ((zup_k (by omega)).trans ((zup_k (by omega)).trans ((zup_k (by omega)).trans (by assumption)))) | exact ((zup_k (by omega)).trans ((zup_k (by omega)).trans ((zup_k (by omega)).trans ((zup_k (by omega)).trans (by assumption)))))) ?_
                    refine zx_aload_n dM_step_244 rfl ?_
                    refine zx_get dM_step_245 flM_155 (by assumption) (by first | assumption | exact ((zup_k (by omega)).trans (by assumption)) | exact ((zup_k (by omega)).trans ((zup_k (by omega)).trans (by assumption))) | exact ((zup_k (by omega)).trans ((zup_k (by omega)).trans ((zup_k (by omega)).trans (by assumption)))) | exact ((zup_k (by omega)).trans ((zup_k (by omega)).trans ((zup_k (by omega)).trans ((zup_k (by omega)).trans (by assumption)))))) ?_
                    refine zn_zald dM_step_248 g_any rfl (by simp only [List.length_cons] at *; omega) (by decide) hv1.1.1 ?_
                    refine zb_if_ne (tgt := 264) dM_step_249 rfl (fun h249 => ?_) (fun h249 => ?_)
                    · refine zx_iconst (v := nI 1) dM_step_264 (by decide) ?_
                      refine zx_goto (tgt := 269) dM_step_265 rfl ?_
                      first | exact m269 true (by rw [h249]; rfl) | exact m269 true (by rw [h249, h261]; rfl) | exact m269 false (by rw [h249, h261]; rfl)
                    · refine zx_aload_n dM_step_252 rfl ?_
                      refine zx_get dM_step_253 flM_59 (by assumption) (by first | assumption | exact ((zup_k (by omega)).trans (by assumption)) | exact ((zup_k (by omega)).trans ((zup_k (by omega)).trans (by assumption))) | exact ((zup_k (by omega)).trans ((zup_k (by omega)).trans ((zup_k (by omega)).trans (by assumption)))) | exact ((zup_k (by omega)).trans ((zup_k (by omega)).trans ((zup_k (by omega)).trans ((zup_k (by omega)).trans (by assumption)))))) ?_
                      refine zx_aload_n dM_step_256 rfl ?_
                      refine zx_get dM_step_257 flM_155 (by assumption) (by first | assumption | exact ((zup_k (by omega)).trans (by assumption)) | exact ((zup_k (by omega)).trans ((zup_k (by omega)).trans (by assumption))) | exact ((zup_k (by omega)).trans ((zup_k (by omega)).trans ((zup_k (by omega)).trans (by assumption)))) | exact ((zup_k (by omega)).trans ((zup_k (by omega)).trans ((zup_k (by omega)).trans ((zup_k (by omega)).trans (by assumption)))))) ?_
                      refine zn_zald dM_step_260 g_all rfl (by simp only [List.length_cons] at *; omega) (by decide) hv1.1.2.1 ?_
                      refine zb_if_eq (tgt := 268) dM_step_261 rfl (fun h261 => ?_) (fun h261 => ?_)
                      · refine zx_iconst (v := nI 0) dM_step_268 (by decide) ?_
                        first | exact m269 true (by rw [h249]; rfl) | exact m269 true (by rw [h249, h261]; rfl) | exact m269 false (by rw [h249, h261]; rfl)
                      · refine zx_iconst (v := nI 1) dM_step_264 (by decide) ?_
                        refine zx_goto (tgt := 269) dM_step_265 rfl ?_
                        first | exact m269 true (by rw [h249]; rfl) | exact m269 true (by rw [h249, h261]; rfl) | exact m269 false (by rw [h249, h261]; rfl)
                  · refine zx_iconst (v := nI 0) dM_step_238 (by decide) ?_
                    exact zx_zret hE rfl (by first | decide | exact bI_nar _) dM_step_239 rfl (Nat.le_of_ble_eq_true rfl) (by have hJ : jStp rowV filV xs a l st = none := (by unfold jStp; rw [if_neg h40, if_neg h65, if_neg h87, if_neg h152, if_neg h191, if_pos h224]; cases st with | nil => rfl | cons l2 st2 => show (if whB l = true then _ else _) = _; rw [if_neg (by first | (rw [← hw, h235]; decide) | (exact absurd h231 (by simp)))]); rw [hJ]; exact ⟨_, rfl, rfl, rfl, hs1, fun t2 st2 hh => by cases hh⟩)
            · refine zx_aload_n dM_step_194 rfl ?_
              refine zx_get dM_step_195 flM_155 (by assumption) (by first | assumption | exact ((zup_k (by omega)).trans (by assumption)) | exact ((zup_k (by omega)).trans ((zup_k (by omega)).trans (by assumption))) | exact ((zup_k (by omega)).trans ((zup_k (by omega)).trans ((zup_k (by omega)).trans (by assumption)))) | exact ((zup_k (by omega)).trans ((zup_k (by omega)).trans ((zup_k (by omega)).trans ((zup_k (by omega)).trans (by assumption)))))) ?_
              refine zx_bipush (v := nI 6) dM_step_198 (by decide) ?_
              refine zn_icmp_lt (tgt := 205) dM_step_200 rfl (by omega) (by omega) (fun h200 => ?_) (fun h200 => ?_)
              · refine zx_aload_n dM_step_205 rfl ?_
                refine zx_aload_n dM_step_206 rfl ?_
                refine zx_get dM_step_207 flM_155 (by assumption) (by first | assumption | exact ((zup_k (by omega)).trans (by assumption)) | exact ((zup_k (by omega)).trans ((zup_k (by omega)).trans (by assumption))) | exact ((zup_k (by omega)).trans ((zup_k (by omega)).trans ((zup_k (by omega)).trans (by assumption)))) | exact ((zup_k (by omega)).trans ((zup_k (by omega)).trans ((zup_k (by omega)).trans ((zup_k (by omega)).trans (by assumption)))))) ?_
                refine zx_iconst (v := nI 1) dM_step_210 (by decide) ?_
                refine zn_iadd dM_step_211 ?_
                refine zc_Vv (n0 := n) (ce := 0) (kM_open G (d - 1) (by omega) hM1 (st := l :: st) (by rw [List.length_cons]; omega) hv1) (meM_open _) lkM_174 go rfl rfl hD (Nat.le_of_ble_eq_true rfl) rfl rfl (Nat.le_of_ble_eq_true rfl) (Nat.le_of_ble_eq_true rfl) (Nat.le_of_ble_eq_true rfl) dM_step_212 (fun r3 h10 => ?_)
                refine zx_goto (tgt := 363) dM_step_215 rfl ?_
                refine zx_iconst (v := nI 1) dM_step_363 (by decide) ?_
                exact zx_zret hE rfl (by first | decide | exact bI_nar _) dM_step_364 rfl (Nat.le_of_ble_eq_true rfl) (by first | exact (by have hJ : jStp rowV filV xs a l st = some _ := (by unfold jStp; rw [if_neg h40, if_neg h65, if_neg h87, if_neg h152, if_pos h191, if_pos (by omega)]); rw [hJ]; refine ⟨_, rfl, rfl, rfl, hs1.tr h10.1.E, fun t2 st2 hh => ?_⟩; cases hh; exact ⟨(h10.1 m 22 (by omega) (by omega)).trans q22, h10.2.1, h10.2.2⟩) | exact (by have hJ : jStp rowV filV xs a l st = none := (by unfold jStp; rw [if_neg h40, if_neg h65, if_neg h87, if_neg h152, if_pos h191, if_neg (by omega)]); rw [hJ]; exact ⟨_, rfl, rfl, rfl, hs1, fun t2 st2 hh => by cases hh⟩))
              · refine zx_iconst (v := nI 0) dM_step_203 (by decide) ?_
                exact zx_zret hE rfl (by first | decide | exact bI_nar _) dM_step_204 rfl (Nat.le_of_ble_eq_true rfl) (by first | exact (by have hJ : jStp rowV filV xs a l st = some _ := (by unfold jStp; rw [if_neg h40, if_neg h65, if_neg h87, if_neg h152, if_pos h191, if_pos (by omega)]); rw [hJ]; refine ⟨_, rfl, rfl, rfl, hs1.tr h10.1.E, fun t2 st2 hh => ?_⟩; cases hh; exact ⟨(h10.1 m 22 (by omega) (by omega)).trans q22, h10.2.1, h10.2.2⟩) | exact (by have hJ : jStp rowV filV xs a l st = none := (by unfold jStp; rw [if_neg h40, if_neg h65, if_neg h87, if_neg h152, if_pos h191, if_neg (by omega)]); rw [hJ]; exact ⟨_, rfl, rfl, rfl, hs1, fun t2 st2 hh => by cases hh⟩))
          · have m181 : ∀ z : Nat, z = (if l.2.2.2 = 1 then 2 else 1) → zX G K (fM_step d) n 0 0 sh (zup row m 28 (.int (nI 0))) 181 [.ref m, .int (nI j), .int pv, .int (bI w), .retAddr 0] [.int (nI z), .int (nI st.length), .ref (m + 19)] := by
              intro z hz
              refine zn_iast dM_step_181 g_mi rfl (by omega) (by decide) ?_
              refine zx_goto (tgt := 363) dM_step_182 rfl ?_
              refine zx_iconst (v := nI 1) dM_step_363 (by decide) ?_
              exact zx_zret hE rfl (by first | decide | exact bI_nar _) dM_step_364 rfl (Nat.le_of_ble_eq_true rfl) (by have hJ : jStp rowV filV xs a l st = some _ := (by unfold jStp; rw [if_neg h40, if_neg h65, if_neg h87, if_pos h152]); rw [hJ]; refine ⟨_, rfl, rfl, rfl, hs1.upA (by omega) (by omega), fun t2 st2 hh => ?_⟩; cases hh; exact ⟨by rw [zup_ne (by omega)]; exact q22, by rw [zup_ne (by omega)]; exact q23, ⟨by rw [zup_ne (by omega)]; exact hv1.1.1, by rw [zup_ne (by omega)]; exact hv1.1.2.1, by rw [zup_ne (by omega)]; exact hv1.1.2.2.1, by rw [zup_same, hz]⟩, hv1.2.keep (N := st.length) (fun b k _ _ hk => zup_k (by omega)) (Nat.le_refl _)⟩)
            refine zx_aload_n dM_step_155 rfl ?_
            refine zx_get dM_step_156 flM_65 (by assumption) (by first | assumption | exact ((zup_k (by omega)).trans (by assumption)) | exact ((zup_k (by omega)).trans ((zup_k (by omega)).trans (by assumption))) | exact ((zup_k (by omega)).trans ((zup_k (by omega)).trans ((zup_k (by omega)).trans (by assumption)))) | exact ((zup_k (by omega)).trans ((zup_k (by omega)).trans ((zup_k (by omega)).trans ((zup_k (by omega)).trans (by assumption)))))) ?_
            refine zx_aload_n dM_step_159 rfl ?_
            refine zx_get dM_step_160 flM_155 (by assumption) (by first | assumption | exact ((zup_k (by omega)).trans (by assumption)) | exact ((zup_k (by omega)).trans ((zup_k (by omega)).trans (by assumption))) | exact ((zup_k (by omega)).trans ((zup_k (by omega)).trans ((zup_k (by omega)).trans (by assumption)))) | exact ((zup_k (by omega)).trans ((zup_k (by omega)).trans ((zup_k (by omega)).trans ((zup_k (by omega)).trans (by assumption)))))) ?_
            refine zx_aload_n dM_step_163 rfl ?_
            refine zx_get dM_step_164 flM_65 (by assumption) (by first | assumption | exact ((zup_k (by omega)).trans (by assumption)) | exact ((zup_k (by omega)).trans ((zup_k (by omega)).trans (by assumption))) | exact ((zup_k (by omega)).trans ((zup_k (by omega)).trans ((zup_k (by omega)).trans (by assumption)))) | exact ((zup_k (by omega)).trans ((zup_k (by omega)).trans ((zup_k (by omega)).trans ((zup_k (by omega)).trans (by assumption)))))) ?_
            refine zx_aload_n dM_step_167 rfl ?_
            refine zx_get dM_step_168 flM_155 (by assumption) (by first | assumption | exact ((zup_k (by omega)).trans (by assumption)) | exact ((zup_k (by omega)).trans ((zup_k (by omega)).trans (by assumption))) | exact ((zup_k (by omega)).trans ((zup_k (by omega)).trans ((zup_k (by omega)).trans (by assumption)))) | exact ((zup_k (by omega)).trans ((zup_k (by omega)).trans ((zup_k (by omega)).trans ((zup_k (by omega)).trans (by assumption)))))) ?_
            refine zn_iald dM_step_171 g_mi rfl (by omega) (by decide) hmi1 ?_
            refine zx_iconst (v := nI 1) dM_step_172 (by decide) ?_
            refine zn_icmp_ne (tgt := 180) dM_step_173 rfl (by omega) (by omega) (fun h173 => ?_) (fun h173 => ?_)
            · refine zx_iconst (v := nI 1) dM_step_180 (by decide) ?_
              first | exact m181 2 (by rw [if_pos h173]) | exact m181 1 (by rw [if_neg h173])
            · refine zx_iconst (v := nI 2) dM_step_176 (by decide) ?_
              refine zx_goto (tgt := 181) dM_step_177 rfl ?_
              first | exact m181 2 (by rw [if_pos h173]) | exact m181 1 (by rw [if_neg h173])
        · have lq : ∀ (fu a1 : Nat) (L : List (Nat × Nat)) (r3 : zRw), xs.length - a1 < fu → a1 ≤ xs.length → L.length ≤ a1 → (∀ q ∈ L, q.1 ≤ q.2 ∧ q.2 ≤ xs.length) → rwL xs fu a1 L = rwL xs 25 (rdP xs a).2.2 [] → wdA r3 m L → lvA r3 m (l :: st) → (scE m row r3 ∧ r3 m 20 = .int (rdP xs a1).1 ∧ r3 m 21 = .int (nI (rdP xs a1).2.1) ∧ r3 m 22 = .int (nI (rdP xs a1).2.2) ∧ r3 m 23 = .int (nI st.length)) → zX G K (fM_step d) n 0 0 sh r3 95 [.ref m, .int (nI j), .int pv, .int (bI w), .retAddr 0] [] := by
            intro fu
            induction fu with
            | zero => intro a1 L r3 hk; exact absurd hk (Nat.not_lt_zero _)
            | succ fu ih2 =>
            intro a1 L r3 hk ha1 hLl hLr hfu hwr hvr hi
            obtain ⟨hsr, k2, k3, k4, k5⟩ := hi
            have hMr := hM.scr hsr
            refine zx_aload_n dM_step_95 rfl ?_
            refine zx_get dM_step_96 flM_145 (by assumption) k2 ?_
            refine zx_iconst (v := nI 1) dM_step_99 (by decide) ?_
            refine zx_icmp_ne (tgt := 115) dM_step_100 rfl (fun h100 => ?_) (fun h100 => ?_)
            · refine zx_aload_n dM_step_115 rfl ?_
              refine zx_get dM_step_116 flM_145 (by assumption) k2 ?_
              refine zx_bipush (v := nI 34) dM_step_119 (by decide) ?_
              refine zx_icmp_ne (tgt := 131) dM_step_121 rfl (fun h121 => ?_) (fun h121 => ?_)
              · refine zx_iconst (v := nI 0) dM_step_131 (by decide) ?_
                exact zx_zret hE rfl (by first | decide | exact bI_nar _) dM_step_132 rfl (Nat.le_of_ble_eq_true rfl) (by
              rw [rwL_e h100] at hfu
              first
              | exact (by have hJ : jStp rowV filV xs a l st = some _ := (by unfold jStp; rw [if_neg h40, if_neg h65, if_pos h87, ← hfu]; rw [if_pos ⟨h121, h128⟩]); rw [hJ]; refine ⟨_, rfl, rfl, rfl, hsr.tr h10.1.E, fun t2 st2 hh => ?_⟩; cases hh; exact ⟨(h10.1 m 22 (by omega) (by omega)).trans k4, h10.2.1, h10.2.2⟩)
              | exact (by have hJ : jStp rowV filV xs a l st = none := (by unfold jStp; rw [if_neg h40, if_neg h65, if_pos h87, ← hfu]; first | rw [if_neg (fun hh => h121 hh.1)] | rw [if_neg (fun hh => hh.2 h128)]); rw [hJ]; exact ⟨_, rfl, rfl, rfl, hsr, fun t2 st2 hh => by cases hh⟩))
              · refine zx_aload_n dM_step_124 rfl ?_
                refine zx_get dM_step_125 flM_148 (by assumption) hwr.1 ?_
                refine zn_if_ne (tgt := 133) dM_step_128 rfl (by omega) (fun h128 => ?_) (fun h128 => ?_)
                · refine zx_aload_n dM_step_133 rfl ?_
                  refine zx_aload_n dM_step_134 rfl ?_
                  refine zx_iload_n dM_step_135 rfl ?_
                  refine zx_iload_n dM_step_136 rfl ?_
                  refine zc_V (n0 := n) (ce := 0) (hrow r3 L hMr hwr hLr (by omega)) (meM_row _) lkM_161 go rfl rfl hD (Nat.le_of_ble_eq_true rfl) rfl rfl (Nat.le_of_ble_eq_true rfl) (Nat.le_of_ble_eq_true rfl) (Nat.le_of_ble_eq_true rfl) dM_step_137 ?_
                  refine zc_Vv (n0 := n) (ce := 0) (kM_part G (d - 1) (by omega) hMr (st := st) (l := l) (v := rowV L) (by omega) hvr k5 (by omega) (by omega)) (meM_part _) lkM_164 go rfl rfl hD (Nat.le_of_ble_eq_true rfl) rfl rfl (Nat.le_of_ble_eq_true rfl) (Nat.le_of_ble_eq_true rfl) (Nat.le_of_ble_eq_true rfl) dM_step_140 (fun r6 h10 => ?_)
                  refine zx_goto (tgt := 363) dM_step_143 rfl ?_
                  refine zx_iconst (v := nI 1) dM_step_363 (by decide) ?_
                  exact zx_zret hE rfl (by first | decide | exact bI_nar _) dM_step_364 rfl (Nat.le_of_ble_eq_true rfl) (by
              rw [rwL_e h100] at hfu
              first
              | exact (by have hJ : jStp rowV filV xs a l st = some _ := (by unfold jStp; rw [if_neg h40, if_neg h65, if_pos h87, ← hfu]; rw [if_pos ⟨h121, h128⟩]); rw [hJ]; refine ⟨_, rfl, rfl, rfl, hsr.tr h10.1.E, fun t2 st2 hh => ?_⟩; cases hh; exact ⟨(h10.1 m 22 (by omega) (by omega)).trans k4, h10.2.1, h10.2.2⟩)
              | exact (by have hJ : jStp rowV filV xs a l st = none := (by unfold jStp; rw [if_neg h40, if_neg h65, if_pos h87, ← hfu]; first | rw [if_neg (fun hh => h121 hh.1)] | rw [if_neg (fun hh => hh.2 h128)]); rw [hJ]; exact ⟨_, rfl, rfl, rfl, hsr, fun t2 st2 hh => by cases hh⟩))
                · refine zx_iconst (v := nI 0) dM_step_131 (by decide) ?_
                  exact zx_zret hE rfl (by first | decide | exact bI_nar _) dM_step_132 rfl (Nat.le_of_ble_eq_true rfl) (by
              rw [rwL_e h100] at hfu
              first
              | exact (by have hJ : jStp rowV filV xs a l st = some _ := (by unfold jStp; rw [if_neg h40, if_neg h65, if_pos h87, ← hfu]; rw [if_pos ⟨h121, h128⟩]); rw [hJ]; refine ⟨_, rfl, rfl, rfl, hsr.tr h10.1.E, fun t2 st2 hh => ?_⟩; cases hh; exact ⟨(h10.1 m 22 (by omega) (by omega)).trans k4, h10.2.1, h10.2.2⟩)
              | exact (by have hJ : jStp rowV filV xs a l st = none := (by unfold jStp; rw [if_neg h40, if_neg h65, if_pos h87, ← hfu]; first | rw [if_neg (fun hh => h121 hh.1)] | rw [if_neg (fun hh => hh.2 h128)]); rw [hJ]; exact ⟨_, rfl, rfl, rfl, hsr, fun t2 st2 hh => by cases hh⟩))
            · refine zx_aload_n dM_step_103 rfl ?_
              have tt := rdP_t ha1 (by rw [h100]; decide)
              refine zc_Vv (n0 := n) (ce := 0) (kM_keepWord G (d - 1) (by omega) hMr (f := (rdP xs a1).2.1) (t := (rdP xs a1).2.2) (L := L) hwr (by omega) k3 k4) (meM_keepWord _) lkM_158 go rfl rfl hD (Nat.le_of_ble_eq_true rfl) rfl rfl (Nat.le_of_ble_eq_true rfl) (Nat.le_of_ble_eq_true rfl) (Nat.le_of_ble_eq_true rfl) dM_step_104 (fun r4 h9 => ?_)
              obtain ⟨h9, hw2⟩ := h9
              have hM2 := hMr.scr h9.E
              have z22 : r4 m 22 = .int (nI (rdP xs a1).2.2) := (h9 m 22 (by omega) (by omega)).trans k4
              refine zx_aload_n dM_step_107 rfl ?_
              refine zx_iload_n dM_step_108 rfl ?_
              refine zc_Vv (n0 := n) (ce := 0) (kM_read G (d - 1) (by omega) hM2 (j := j) (a := (rdP xs a1).2.2) hj hq hl hch tt.2.2 z22) (meM_read _) lkM_171 go rfl rfl hD (Nat.le_of_ble_eq_true rfl) rfl rfl (Nat.le_of_ble_eq_true rfl) (Nat.le_of_ble_eq_true rfl) (Nat.le_of_ble_eq_true rfl) dM_step_109 (fun r5 h12 => ?_)
              obtain ⟨g1, g2, g3, g4⟩ := h12
              refine zx_goto (tgt := 95) dM_step_112 rfl ?_
              have hlen : (L ++ [((rdP xs a1).2.1, (rdP xs a1).2.2)]).length = L.length + 1 := by rw [List.length_append]; rfl
              exact ih2 (rdP xs a1).2.2 (L ++ [((rdP xs a1).2.1, (rdP xs a1).2.2)]) r5 (by omega) tt.2.2 (by rw [hlen]; omega) (fun q hq => by
                rcases List.mem_append.mp hq with hq | hq
                · exact hLr q hq
                · rcases List.mem_singleton.mp hq with rfl; exact ⟨Nat.le_of_lt tt.2.1, tt.2.2⟩) (by rw [← hfu, rwL_s h100]) (g1.W hw2) (g1.L (h9.L hvr)) ⟨(hsr.tr h9.E).tr g1.E, g2, g3, g4, (g1 m 23 (by omega)).trans ((h9 m 23 (by omega) (by omega)).trans k5)⟩
          refine zx_aload_n dM_step_90 rfl ?_
          refine zx_iload_n dM_step_91 rfl ?_
          refine zc_Vv (n0 := n) (ce := 0) (kM_read G (d - 1) (by omega) hM1 (j := j) (a := (rdP xs a).2.2) hj hq hl hch t3 q22) (meM_read _) lkM_171 go rfl rfl hD (Nat.le_of_ble_eq_true rfl) rfl rfl (Nat.le_of_ble_eq_true rfl) (Nat.le_of_ble_eq_true rfl) (Nat.le_of_ble_eq_true rfl) dM_step_92 (fun r5 h12 => ?_)
          obtain ⟨g1, g2, g3, g4⟩ := h12
          exact lq 25 (rdP xs a).2.2 [] r5 (by omega) t3 (Nat.zero_le _) (fun q hq => by cases hq) rfl (g1.W hw1) (g1.L hv1) ⟨hs1.tr g1.E, g2, g3, g4, (g1 m 23 (by omega)).trans q23⟩
      · refine zx_aload_n dM_step_68 rfl ?_
        refine zx_aload_n dM_step_69 rfl ?_
        refine zx_iload_n dM_step_70 rfl ?_
        refine zx_iload_n dM_step_71 rfl ?_
        refine zc_V (n0 := n) (ce := 0) (hfil _ _ _ hM1 q21 q22 t2 t3 (rdP_2 h65)) (meM_filter _) lkM_168 go rfl rfl hD (Nat.le_of_ble_eq_true rfl) rfl rfl (Nat.le_of_ble_eq_true rfl) (Nat.le_of_ble_eq_true rfl) (Nat.le_of_ble_eq_true rfl) dM_step_72 ?_
        refine zc_Vv (n0 := n) (ce := 0) (kM_part G (d - 1) (by omega) hM1 (st := st) (l := l) (v := filV (rdP xs a).2.1 (rdP xs a).2.2) (by omega) hv1 q23 (by omega) (by omega)) (meM_part _) lkM_164 go rfl rfl hD (Nat.le_of_ble_eq_true rfl) rfl rfl (Nat.le_of_ble_eq_true rfl) (Nat.le_of_ble_eq_true rfl) (Nat.le_of_ble_eq_true rfl) dM_step_75 (fun r3 h10 => ?_)
        refine zx_goto (tgt := 363) dM_step_78 rfl ?_
        refine zx_iconst (v := nI 1) dM_step_363 (by decide) ?_
        exact zx_zret hE rfl (by first | decide | exact bI_nar _) dM_step_364 rfl (Nat.le_of_ble_eq_true rfl) (by have hJ : jStp rowV filV xs a l st = some _ := (by unfold jStp; rw [if_neg h40, if_pos h65]); rw [hJ]; refine ⟨_, rfl, rfl, rfl, hs1.tr h10.1.E, fun t2 st2 hh => ?_⟩; cases hh; exact ⟨(h10.1 m 22 (by omega) (by omega)).trans q22, h10.2.1, h10.2.2⟩)
    · refine zx_aload_n dM_step_43 rfl ?_
      refine zc_Vv (n0 := n) (ce := 0) (kM_keepWord G (d - 1) (by omega) hM1 (f := (rdP xs a).2.1) (t := (rdP xs a).2.2) (L := []) hw1 (by decide) q21 q22) (meM_keepWord _) lkM_158 go rfl rfl hD (Nat.le_of_ble_eq_true rfl) rfl rfl (Nat.le_of_ble_eq_true rfl) (Nat.le_of_ble_eq_true rfl) (Nat.le_of_ble_eq_true rfl) dM_step_44 (fun r2 h9 => ?_)
      obtain ⟨h9, hw2⟩ := h9
      have hM2 := hM1.scr h9.E
      have hv2 := h9.L hv1
      have z22 : r2 m 22 = .int (nI (rdP xs a).2.2) := (h9 m 22 (by omega) (by omega)).trans q22
      have z23 : r2 m 23 = .int (nI st.length) := (h9 m 23 (by omega) (by omega)).trans q23
      have hs2 := hs1.tr h9.E
      refine zx_aload_n dM_step_47 rfl ?_
      refine zx_aload_n dM_step_48 rfl ?_
      refine zx_iload_n dM_step_49 rfl ?_
      refine zx_iload_n dM_step_50 rfl ?_
      refine zc_V (n0 := n) (ce := 0) (hrow r2 [((rdP xs a).2.1, (rdP xs a).2.2)] hM2 hw2 (fun q hq => by rcases List.mem_singleton.mp hq with rfl; exact ⟨Nat.le_of_lt t2, t3⟩) (by simp)) (meM_row _) lkM_161 go rfl rfl hD (Nat.le_of_ble_eq_true rfl) rfl rfl (Nat.le_of_ble_eq_true rfl) (Nat.le_of_ble_eq_true rfl) (Nat.le_of_ble_eq_true rfl) dM_step_51 ?_
      refine zc_Vv (n0 := n) (ce := 0) (kM_part G (d - 1) (by omega) hM2 (st := st) (l := l) (v := rowV [((rdP xs a).2.1, (rdP xs a).2.2)]) (by omega) hv2 z23 (by omega) (by omega)) (meM_part _) lkM_164 go rfl rfl hD (Nat.le_of_ble_eq_true rfl) rfl rfl (Nat.le_of_ble_eq_true rfl) (Nat.le_of_ble_eq_true rfl) (Nat.le_of_ble_eq_true rfl) dM_step_54 (fun r3 h10 => ?_)
      refine zx_goto (tgt := 363) dM_step_57 rfl ?_
      refine zx_iconst (v := nI 1) dM_step_363 (by decide) ?_
      exact zx_zret hE rfl (by first | decide | exact bI_nar _) dM_step_364 rfl (Nat.le_of_ble_eq_true rfl) (by have hJ : jStp rowV filV xs a l st = some _ := (by unfold jStp; rw [if_pos h40]); rw [hJ]; refine ⟨_, rfl, rfl, rfl, hs2.tr h10.1.E, fun t2 st2 hh => ?_⟩; cases hh; exact ⟨(h10.1 m 22 (by omega) (by omega)).trans z22, h10.2.1, h10.2.2⟩)
  refine zx_aload_n dM_step_0 rfl ?_
  refine zx_get dM_step_1 flM_62 (by assumption) (by first | assumption | exact ((zup_k (by omega)).trans (by assumption)) | exact ((zup_k (by omega)).trans ((zup_k (by omega)).trans (by assumption))) | exact ((zup_k (by omega)).trans ((zup_k (by omega)).trans ((zup_k (by omega)).trans (by assumption)))) | exact ((zup_k (by omega)).trans ((zup_k (by omega)).trans ((zup_k (by omega)).trans ((zup_k (by omega)).trans (by assumption)))))) ?_
  refine zx_aload_n dM_step_4 rfl ?_
  refine zx_get dM_step_5 flM_155 (by assumption) (by first | assumption | exact ((zup_k (by omega)).trans (by assumption)) | exact ((zup_k (by omega)).trans ((zup_k (by omega)).trans (by assumption))) | exact ((zup_k (by omega)).trans ((zup_k (by omega)).trans ((zup_k (by omega)).trans (by assumption)))) | exact ((zup_k (by omega)).trans ((zup_k (by omega)).trans ((zup_k (by omega)).trans ((zup_k (by omega)).trans (by assumption)))))) ?_
  refine zn_iald dM_step_8 g_pa rfl (by omega) (by decide) hv.1.2.2.1 ?_
  refine zn_if_le (tgt := 28) dM_step_9 rfl (by omega) (fun h9 => ?_) (fun h9 => ?_)
  · refine zx_iconst (v := nI 0) dM_step_28 (by decide) ?_
    first | exact m29 true (by unfold whB; rw [decide_eq_true (by omega)]) | exact m29 false (by unfold whB; rw [decide_eq_false (by omega)])
  · refine zx_aload_n dM_step_12 rfl ?_
    refine zx_get dM_step_13 flM_65 (by assumption) (by first | assumption | exact ((zup_k (by omega)).trans (by assumption)) | exact ((zup_k (by omega)).trans ((zup_k (by omega)).trans (by assumption))) | exact ((zup_k (by omega)).trans ((zup_k (by omega)).trans ((zup_k (by omega)).trans (by assumption)))) | exact ((zup_k (by omega)).trans ((zup_k (by omega)).trans ((zup_k (by omega)).trans ((zup_k (by omega)).trans (by assumption)))))) ?_
    refine zx_aload_n dM_step_16 rfl ?_
    refine zx_get dM_step_17 flM_155 (by assumption) (by first | assumption | exact ((zup_k (by omega)).trans (by assumption)) | exact ((zup_k (by omega)).trans ((zup_k (by omega)).trans (by assumption))) | exact ((zup_k (by omega)).trans ((zup_k (by omega)).trans ((zup_k (by omega)).trans (by assumption)))) | exact ((zup_k (by omega)).trans ((zup_k (by omega)).trans ((zup_k (by omega)).trans ((zup_k (by omega)).trans (by assumption)))))) ?_
    refine zn_iald dM_step_20 g_mi rfl (by omega) (by decide) hv.1.2.2.2 ?_
    refine zn_if_ne (tgt := 28) dM_step_21 rfl (by omega) (fun h21 => ?_) (fun h21 => ?_)
    · refine zx_iconst (v := nI 0) dM_step_28 (by decide) ?_
      first | exact m29 true (by unfold whB; rw [decide_eq_true (by omega)]) | exact m29 false (by unfold whB; rw [decide_eq_false (by omega)])
    · refine zx_iconst (v := nI 1) dM_step_24 (by decide) ?_
      refine zx_goto (tgt := 29) dM_step_25 rfl ?_
      first | exact m29 true (by unfold whB; rw [decide_eq_true (by omega)]) | exact m29 false (by unfold whB; rw [decide_eq_false (by omega)])

