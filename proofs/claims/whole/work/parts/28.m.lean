def arrI (row : zRw) (a N : Nat) (f : Nat → Int32) : Prop := ∀ k, k < N → row a k = .int (f k)
theorem arrI.ne {row : zRw} {a b N k : Nat} {v : Value} {f : Nat → Int32} (h : arrI row a N f) (hn : a ≠ b) : arrI (zup row b k v) a N f := fun i hi => by rw [zup_ne hn]; exact h i hi
theorem arrI.upN {row : zRw} {a N i z : Nat} {f : Nat → Nat} (h : arrI row a N (fun k => nI (f k))) : arrI (zup row a i (.int (nI z))) a N (fun k => nI (va_up f i z k)) := fun k hk => by
  show _ = Value.int (nI (va_up f i z k))
  unfold va_up
  by_cases e : k = i
  · subst e; rw [zup_same, if_pos rfl]
  · rw [zup_k (Or.inr e), if_neg e]; exact h k hk
theorem arrI.upB {row : zRw} {a N i : Nat} {z : Bool} {f : Nat → Bool} (h : arrI row a N (fun k => bI (f k))) : arrI (zup row a i (.int (bI z))) a N (fun k => bI (va_up f i z k)) := fun k hk => by
  show _ = Value.int (bI (va_up f i z k))
  unfold va_up
  by_cases e : k = i
  · subst e; rw [zup_same, if_pos rfl]
  · rw [zup_k (Or.inr e), if_neg e]; exact h k hk
theorem arrI.upI {row : zRw} {a N i : Nat} {z : Int32} {f : Nat → Int32} (h : arrI row a N f) : arrI (zup row a i (.int z)) a N (va_up f i z) := fun k hk => by
  unfold va_up
  by_cases e : k = i
  · subst e; rw [zup_same, if_pos rfl]
  · rw [zup_k (Or.inr e), if_neg e]; exact h k hk
/-- the reference's state -/
def MA (sh : zSh) (row : zRw) (m : Nat) (A : Nat × (Nat → Nat)) (B : Nat × Nat × Nat × Nat) (P : (Nat → Int32) × (Nat → Int32) × (Nat → Bool) × (Nat → Nat) × (Nat → Nat)) (T : (Nat → Nat) × (Nat → Nat) × (Nat → Nat)) (S : (Nat → Nat) × (Nat → Bool)) (H : (Nat → Bool) × (Nat → Nat) × (Nat → Nat) × (Nat → Nat)) : Prop :=
  (sh m = some (0, 7, 31) ∧ sh (m + 1) = some (1, 0, 24) ∧ sh (m + 2) = some (1, 0, 24) ∧ sh (m + 3) = some (1, 0, 24) ∧ sh (m + 4) = some (1, 2, 24) ∧ sh (m + 5) = some (1, 0, 24) ∧ sh (m + 6) = some (1, 0, 576) ∧ sh (m + 7) = some (1, 0, 24) ∧ sh (m + 8) = some (1, 0, 288) ∧ sh (m + 9) = some (1, 0, 288) ∧ sh (m + 10) = some (1, 0, 6) ∧ sh (m + 11) = some (1, 2, 6) ∧ sh (m + 12) = some (1, 2, 4) ∧ sh (m + 13) = some (1, 0, 4) ∧ sh (m + 14) = some (1, 0, 4) ∧ sh (m + 15) = some (1, 0, 96) ∧ sh (m + 16) = some (1, 2, 8) ∧ sh (m + 17) = some (1, 2, 8) ∧ sh (m + 18) = some (1, 0, 8) ∧ sh (m + 19) = some (1, 0, 8) ∧ sh (m + 20) = some (1, 0, 24) ∧ sh (m + 21) = some (1, 0, 24)) ∧ (row m 1 = .ref (m + 1) ∧ row m 5 = .ref (m + 2) ∧ row m 6 = .ref (m + 3) ∧ row m 7 = .ref (m + 4) ∧ row m 8 = .ref (m + 5) ∧ row m 9 = .ref (m + 6) ∧ row m 10 = .ref (m + 7) ∧ row m 11 = .ref (m + 8) ∧ row m 12 = .ref (m + 9) ∧ row m 13 = .ref (m + 10) ∧ row m 14 = .ref (m + 11) ∧ row m 16 = .ref (m + 12) ∧ row m 17 = .ref (m + 13) ∧ row m 18 = .ref (m + 14) ∧ row m 19 = .ref (m + 15) ∧ row m 24 = .ref (m + 16) ∧ row m 25 = .ref (m + 17) ∧ row m 26 = .ref (m + 18) ∧ row m 27 = .ref (m + 19) ∧ row m 29 = .ref (m + 20) ∧ row m 30 = .ref (m + 21)) ∧ (row m 0 = .int (nI A.1) ∧ row m 2 = .int (nI B.1) ∧ row m 3 = .int (nI B.2.1) ∧ row m 4 = .int (nI B.2.2.1) ∧ row m 15 = .int (nI B.2.2.2)) ∧ arrI row (m + 1) 24 (fun k => nI (A.2 k)) ∧ arrI row (m + 2) 24 (P.1) ∧ arrI row (m + 3) 24 (P.2.1) ∧ arrI row (m + 4) 24 (fun k => bI (P.2.2.1 k)) ∧ arrI row (m + 5) 24 (fun k => nI (P.2.2.2.1 k)) ∧ arrI row (m + 6) 576 (fun k => nI (P.2.2.2.2 k)) ∧ arrI row (m + 7) 24 (fun k => nI (T.1 k)) ∧ arrI row (m + 8) 288 (fun k => nI (T.2.1 k)) ∧ arrI row (m + 9) 288 (fun k => nI (T.2.2 k)) ∧ arrI row (m + 10) 6 (fun k => nI (S.1 k)) ∧ arrI row (m + 11) 6 (fun k => bI (S.2 k)) ∧ arrI row (m + 12) 4 (fun k => bI (H.1 k)) ∧ arrI row (m + 13) 4 (fun k => nI (H.2.1 k)) ∧ arrI row (m + 14) 4 (fun k => nI (H.2.2.1 k)) ∧ arrI row (m + 15) 96 (fun k => nI (H.2.2.2 k))
theorem MA.dl {sh : zSh} {row : zRw} {z : Nat} {m : Nat} {A : Nat × (Nat → Nat)} {B : Nat × Nat × Nat × Nat} {P : (Nat → Int32) × (Nat → Int32) × (Nat → Bool) × (Nat → Nat) × (Nat → Nat)} {T : (Nat → Nat) × (Nat → Nat) × (Nat → Nat)} {S : (Nat → Nat) × (Nat → Bool)} {H : (Nat → Bool) × (Nat → Nat) × (Nat → Nat) × (Nat → Nat)} (hM : MA sh row m A B P T S H) : MA sh (zup row m 0 (.int (nI z))) m (z, A.2) B P T S H := by
  obtain ⟨⟨go, g_dr, g_au, g_ti, g_er, g_ln, g_tx, g_tk, g_fr, g_to, g_rw, g_pk, g_tn, g_bd, g_ql, g_qy, g_any, g_all, g_pa, g_mi, g_wf, g_wt⟩, ⟨p_dr, p_au, p_ti, p_er, p_ln, p_tx, p_tk, p_fr, p_to, p_rw, p_pk, p_tn, p_bd, p_ql, p_qy, p_any, p_all, p_pa, p_mi, p_wf, p_wt⟩, ⟨f_dl, f_md, f_pb, f_dn, f_sn⟩, a_dr, a_au, a_ti, a_er, a_ln, a_tx, a_tk, a_fr, a_to, a_rw, a_pk, a_tn, a_bd, a_ql, a_qy⟩ := id hM
  refine ⟨⟨go, g_dr, g_au, g_ti, g_er, g_ln, g_tx, g_tk, g_fr, g_to, g_rw, g_pk, g_tn, g_bd, g_ql, g_qy, g_any, g_all, g_pa, g_mi, g_wf, g_wt⟩, ⟨?_, ?_, ?_, ?_, ?_, ?_, ?_, ?_, ?_, ?_, ?_, ?_, ?_, ?_, ?_, ?_, ?_, ?_, ?_, ?_, ?_⟩, ⟨?_, ?_, ?_, ?_, ?_⟩, ?_, ?_, ?_, ?_, ?_, ?_, ?_, ?_, ?_, ?_, ?_, ?_, ?_, ?_, ?_⟩ <;> first | exact zup_same _ _ _ | (rw [zup_k (Or.inr (by decide))]; assumption) | exact arrI.ne (by assumption) (by omega)
theorem MA.md {sh : zSh} {row : zRw} {z : Nat} {m : Nat} {A : Nat × (Nat → Nat)} {B : Nat × Nat × Nat × Nat} {P : (Nat → Int32) × (Nat → Int32) × (Nat → Bool) × (Nat → Nat) × (Nat → Nat)} {T : (Nat → Nat) × (Nat → Nat) × (Nat → Nat)} {S : (Nat → Nat) × (Nat → Bool)} {H : (Nat → Bool) × (Nat → Nat) × (Nat → Nat) × (Nat → Nat)} (hM : MA sh row m A B P T S H) : MA sh (zup row m 2 (.int (nI z))) m A (z, B.2) P T S H := by
  obtain ⟨⟨go, g_dr, g_au, g_ti, g_er, g_ln, g_tx, g_tk, g_fr, g_to, g_rw, g_pk, g_tn, g_bd, g_ql, g_qy, g_any, g_all, g_pa, g_mi, g_wf, g_wt⟩, ⟨p_dr, p_au, p_ti, p_er, p_ln, p_tx, p_tk, p_fr, p_to, p_rw, p_pk, p_tn, p_bd, p_ql, p_qy, p_any, p_all, p_pa, p_mi, p_wf, p_wt⟩, ⟨f_dl, f_md, f_pb, f_dn, f_sn⟩, a_dr, a_au, a_ti, a_er, a_ln, a_tx, a_tk, a_fr, a_to, a_rw, a_pk, a_tn, a_bd, a_ql, a_qy⟩ := id hM
  refine ⟨⟨go, g_dr, g_au, g_ti, g_er, g_ln, g_tx, g_tk, g_fr, g_to, g_rw, g_pk, g_tn, g_bd, g_ql, g_qy, g_any, g_all, g_pa, g_mi, g_wf, g_wt⟩, ⟨?_, ?_, ?_, ?_, ?_, ?_, ?_, ?_, ?_, ?_, ?_, ?_, ?_, ?_, ?_, ?_, ?_, ?_, ?_, ?_, ?_⟩, ⟨?_, ?_, ?_, ?_, ?_⟩, ?_, ?_, ?_, ?_, ?_, ?_, ?_, ?_, ?_, ?_, ?_, ?_, ?_, ?_, ?_⟩ <;> first | exact zup_same _ _ _ | (rw [zup_k (Or.inr (by decide))]; assumption) | exact arrI.ne (by assumption) (by omega)
theorem MA.pb {sh : zSh} {row : zRw} {z : Nat} {m : Nat} {A : Nat × (Nat → Nat)} {B : Nat × Nat × Nat × Nat} {P : (Nat → Int32) × (Nat → Int32) × (Nat → Bool) × (Nat → Nat) × (Nat → Nat)} {T : (Nat → Nat) × (Nat → Nat) × (Nat → Nat)} {S : (Nat → Nat) × (Nat → Bool)} {H : (Nat → Bool) × (Nat → Nat) × (Nat → Nat) × (Nat → Nat)} (hM : MA sh row m A B P T S H) : MA sh (zup row m 3 (.int (nI z))) m A (B.1, z, B.2.2) P T S H := by
  obtain ⟨⟨go, g_dr, g_au, g_ti, g_er, g_ln, g_tx, g_tk, g_fr, g_to, g_rw, g_pk, g_tn, g_bd, g_ql, g_qy, g_any, g_all, g_pa, g_mi, g_wf, g_wt⟩, ⟨p_dr, p_au, p_ti, p_er, p_ln, p_tx, p_tk, p_fr, p_to, p_rw, p_pk, p_tn, p_bd, p_ql, p_qy, p_any, p_all, p_pa, p_mi, p_wf, p_wt⟩, ⟨f_dl, f_md, f_pb, f_dn, f_sn⟩, a_dr, a_au, a_ti, a_er, a_ln, a_tx, a_tk, a_fr, a_to, a_rw, a_pk, a_tn, a_bd, a_ql, a_qy⟩ := id hM
  refine ⟨⟨go, g_dr, g_au, g_ti, g_er, g_ln, g_tx, g_tk, g_fr, g_to, g_rw, g_pk, g_tn, g_bd, g_ql, g_qy, g_any, g_all, g_pa, g_mi, g_wf, g_wt⟩, ⟨?_, ?_, ?_, ?_, ?_, ?_, ?_, ?_, ?_, ?_, ?_, ?_, ?_, ?_, ?_, ?_, ?_, ?_, ?_, ?_, ?_⟩, ⟨?_, ?_, ?_, ?_, ?_⟩, ?_, ?_, ?_, ?_, ?_, ?_, ?_, ?_, ?_, ?_, ?_, ?_, ?_, ?_, ?_⟩ <;> first | exact zup_same _ _ _ | (rw [zup_k (Or.inr (by decide))]; assumption) | exact arrI.ne (by assumption) (by omega)
theorem MA.dn {sh : zSh} {row : zRw} {z : Nat} {m : Nat} {A : Nat × (Nat → Nat)} {B : Nat × Nat × Nat × Nat} {P : (Nat → Int32) × (Nat → Int32) × (Nat → Bool) × (Nat → Nat) × (Nat → Nat)} {T : (Nat → Nat) × (Nat → Nat) × (Nat → Nat)} {S : (Nat → Nat) × (Nat → Bool)} {H : (Nat → Bool) × (Nat → Nat) × (Nat → Nat) × (Nat → Nat)} (hM : MA sh row m A B P T S H) : MA sh (zup row m 4 (.int (nI z))) m A (B.1, B.2.1, z, B.2.2.2) P T S H := by
  obtain ⟨⟨go, g_dr, g_au, g_ti, g_er, g_ln, g_tx, g_tk, g_fr, g_to, g_rw, g_pk, g_tn, g_bd, g_ql, g_qy, g_any, g_all, g_pa, g_mi, g_wf, g_wt⟩, ⟨p_dr, p_au, p_ti, p_er, p_ln, p_tx, p_tk, p_fr, p_to, p_rw, p_pk, p_tn, p_bd, p_ql, p_qy, p_any, p_all, p_pa, p_mi, p_wf, p_wt⟩, ⟨f_dl, f_md, f_pb, f_dn, f_sn⟩, a_dr, a_au, a_ti, a_er, a_ln, a_tx, a_tk, a_fr, a_to, a_rw, a_pk, a_tn, a_bd, a_ql, a_qy⟩ := id hM
  refine ⟨⟨go, g_dr, g_au, g_ti, g_er, g_ln, g_tx, g_tk, g_fr, g_to, g_rw, g_pk, g_tn, g_bd, g_ql, g_qy, g_any, g_all, g_pa, g_mi, g_wf, g_wt⟩, ⟨?_, ?_, ?_, ?_, ?_, ?_, ?_, ?_, ?_, ?_, ?_, ?_, ?_, ?_, ?_, ?_, ?_, ?_, ?_, ?_, ?_⟩, ⟨?_, ?_, ?_, ?_, ?_⟩, ?_, ?_, ?_, ?_, ?_, ?_, ?_, ?_, ?_, ?_, ?_, ?_, ?_, ?_, ?_⟩ <;> first | exact zup_same _ _ _ | (rw [zup_k (Or.inr (by decide))]; assumption) | exact arrI.ne (by assumption) (by omega)
theorem MA.sn {sh : zSh} {row : zRw} {z : Nat} {m : Nat} {A : Nat × (Nat → Nat)} {B : Nat × Nat × Nat × Nat} {P : (Nat → Int32) × (Nat → Int32) × (Nat → Bool) × (Nat → Nat) × (Nat → Nat)} {T : (Nat → Nat) × (Nat → Nat) × (Nat → Nat)} {S : (Nat → Nat) × (Nat → Bool)} {H : (Nat → Bool) × (Nat → Nat) × (Nat → Nat) × (Nat → Nat)} (hM : MA sh row m A B P T S H) : MA sh (zup row m 15 (.int (nI z))) m A (B.1, B.2.1, B.2.2.1, z) P T S H := by
  obtain ⟨⟨go, g_dr, g_au, g_ti, g_er, g_ln, g_tx, g_tk, g_fr, g_to, g_rw, g_pk, g_tn, g_bd, g_ql, g_qy, g_any, g_all, g_pa, g_mi, g_wf, g_wt⟩, ⟨p_dr, p_au, p_ti, p_er, p_ln, p_tx, p_tk, p_fr, p_to, p_rw, p_pk, p_tn, p_bd, p_ql, p_qy, p_any, p_all, p_pa, p_mi, p_wf, p_wt⟩, ⟨f_dl, f_md, f_pb, f_dn, f_sn⟩, a_dr, a_au, a_ti, a_er, a_ln, a_tx, a_tk, a_fr, a_to, a_rw, a_pk, a_tn, a_bd, a_ql, a_qy⟩ := id hM
  refine ⟨⟨go, g_dr, g_au, g_ti, g_er, g_ln, g_tx, g_tk, g_fr, g_to, g_rw, g_pk, g_tn, g_bd, g_ql, g_qy, g_any, g_all, g_pa, g_mi, g_wf, g_wt⟩, ⟨?_, ?_, ?_, ?_, ?_, ?_, ?_, ?_, ?_, ?_, ?_, ?_, ?_, ?_, ?_, ?_, ?_, ?_, ?_, ?_, ?_⟩, ⟨?_, ?_, ?_, ?_, ?_⟩, ?_, ?_, ?_, ?_, ?_, ?_, ?_, ?_, ?_, ?_, ?_, ?_, ?_, ?_, ?_⟩ <;> first | exact zup_same _ _ _ | (rw [zup_k (Or.inr (by decide))]; assumption) | exact arrI.ne (by assumption) (by omega)
theorem MA.dr {sh : zSh} {row : zRw} {i : Nat} {z : Nat} {m : Nat} {A : Nat × (Nat → Nat)} {B : Nat × Nat × Nat × Nat} {P : (Nat → Int32) × (Nat → Int32) × (Nat → Bool) × (Nat → Nat) × (Nat → Nat)} {T : (Nat → Nat) × (Nat → Nat) × (Nat → Nat)} {S : (Nat → Nat) × (Nat → Bool)} {H : (Nat → Bool) × (Nat → Nat) × (Nat → Nat) × (Nat → Nat)} (hM : MA sh row m A B P T S H) : MA sh (zup row (m + 1) i (.int (nI z))) m (A.1, va_up A.2 i z) B P T S H := by
  obtain ⟨⟨go, g_dr, g_au, g_ti, g_er, g_ln, g_tx, g_tk, g_fr, g_to, g_rw, g_pk, g_tn, g_bd, g_ql, g_qy, g_any, g_all, g_pa, g_mi, g_wf, g_wt⟩, ⟨p_dr, p_au, p_ti, p_er, p_ln, p_tx, p_tk, p_fr, p_to, p_rw, p_pk, p_tn, p_bd, p_ql, p_qy, p_any, p_all, p_pa, p_mi, p_wf, p_wt⟩, ⟨f_dl, f_md, f_pb, f_dn, f_sn⟩, a_dr, a_au, a_ti, a_er, a_ln, a_tx, a_tk, a_fr, a_to, a_rw, a_pk, a_tn, a_bd, a_ql, a_qy⟩ := id hM
  refine ⟨⟨go, g_dr, g_au, g_ti, g_er, g_ln, g_tx, g_tk, g_fr, g_to, g_rw, g_pk, g_tn, g_bd, g_ql, g_qy, g_any, g_all, g_pa, g_mi, g_wf, g_wt⟩, ⟨?_, ?_, ?_, ?_, ?_, ?_, ?_, ?_, ?_, ?_, ?_, ?_, ?_, ?_, ?_, ?_, ?_, ?_, ?_, ?_, ?_⟩, ⟨?_, ?_, ?_, ?_, ?_⟩, ?_, ?_, ?_, ?_, ?_, ?_, ?_, ?_, ?_, ?_, ?_, ?_, ?_, ?_, ?_⟩ <;> first | (rw [zup_ne (by omega)]; assumption) | exact arrI.ne (by assumption) (by omega) | exact arrI.upN (by assumption)
theorem MA.au {sh : zSh} {row : zRw} {i : Nat} {z : Int32} {m : Nat} {A : Nat × (Nat → Nat)} {B : Nat × Nat × Nat × Nat} {P : (Nat → Int32) × (Nat → Int32) × (Nat → Bool) × (Nat → Nat) × (Nat → Nat)} {T : (Nat → Nat) × (Nat → Nat) × (Nat → Nat)} {S : (Nat → Nat) × (Nat → Bool)} {H : (Nat → Bool) × (Nat → Nat) × (Nat → Nat) × (Nat → Nat)} (hM : MA sh row m A B P T S H) : MA sh (zup row (m + 2) i (.int (z))) m A B (va_up P.1 i z, P.2) T S H := by
  obtain ⟨⟨go, g_dr, g_au, g_ti, g_er, g_ln, g_tx, g_tk, g_fr, g_to, g_rw, g_pk, g_tn, g_bd, g_ql, g_qy, g_any, g_all, g_pa, g_mi, g_wf, g_wt⟩, ⟨p_dr, p_au, p_ti, p_er, p_ln, p_tx, p_tk, p_fr, p_to, p_rw, p_pk, p_tn, p_bd, p_ql, p_qy, p_any, p_all, p_pa, p_mi, p_wf, p_wt⟩, ⟨f_dl, f_md, f_pb, f_dn, f_sn⟩, a_dr, a_au, a_ti, a_er, a_ln, a_tx, a_tk, a_fr, a_to, a_rw, a_pk, a_tn, a_bd, a_ql, a_qy⟩ := id hM
  refine ⟨⟨go, g_dr, g_au, g_ti, g_er, g_ln, g_tx, g_tk, g_fr, g_to, g_rw, g_pk, g_tn, g_bd, g_ql, g_qy, g_any, g_all, g_pa, g_mi, g_wf, g_wt⟩, ⟨?_, ?_, ?_, ?_, ?_, ?_, ?_, ?_, ?_, ?_, ?_, ?_, ?_, ?_, ?_, ?_, ?_, ?_, ?_, ?_, ?_⟩, ⟨?_, ?_, ?_, ?_, ?_⟩, ?_, ?_, ?_, ?_, ?_, ?_, ?_, ?_, ?_, ?_, ?_, ?_, ?_, ?_, ?_⟩ <;> first | (rw [zup_ne (by omega)]; assumption) | exact arrI.ne (by assumption) (by omega) | exact arrI.upI (by assumption)
theorem MA.ti {sh : zSh} {row : zRw} {i : Nat} {z : Int32} {m : Nat} {A : Nat × (Nat → Nat)} {B : Nat × Nat × Nat × Nat} {P : (Nat → Int32) × (Nat → Int32) × (Nat → Bool) × (Nat → Nat) × (Nat → Nat)} {T : (Nat → Nat) × (Nat → Nat) × (Nat → Nat)} {S : (Nat → Nat) × (Nat → Bool)} {H : (Nat → Bool) × (Nat → Nat) × (Nat → Nat) × (Nat → Nat)} (hM : MA sh row m A B P T S H) : MA sh (zup row (m + 3) i (.int (z))) m A B (P.1, va_up P.2.1 i z, P.2.2) T S H := by
  obtain ⟨⟨go, g_dr, g_au, g_ti, g_er, g_ln, g_tx, g_tk, g_fr, g_to, g_rw, g_pk, g_tn, g_bd, g_ql, g_qy, g_any, g_all, g_pa, g_mi, g_wf, g_wt⟩, ⟨p_dr, p_au, p_ti, p_er, p_ln, p_tx, p_tk, p_fr, p_to, p_rw, p_pk, p_tn, p_bd, p_ql, p_qy, p_any, p_all, p_pa, p_mi, p_wf, p_wt⟩, ⟨f_dl, f_md, f_pb, f_dn, f_sn⟩, a_dr, a_au, a_ti, a_er, a_ln, a_tx, a_tk, a_fr, a_to, a_rw, a_pk, a_tn, a_bd, a_ql, a_qy⟩ := id hM
  refine ⟨⟨go, g_dr, g_au, g_ti, g_er, g_ln, g_tx, g_tk, g_fr, g_to, g_rw, g_pk, g_tn, g_bd, g_ql, g_qy, g_any, g_all, g_pa, g_mi, g_wf, g_wt⟩, ⟨?_, ?_, ?_, ?_, ?_, ?_, ?_, ?_, ?_, ?_, ?_, ?_, ?_, ?_, ?_, ?_, ?_, ?_, ?_, ?_, ?_⟩, ⟨?_, ?_, ?_, ?_, ?_⟩, ?_, ?_, ?_, ?_, ?_, ?_, ?_, ?_, ?_, ?_, ?_, ?_, ?_, ?_, ?_⟩ <;> first | (rw [zup_ne (by omega)]; assumption) | exact arrI.ne (by assumption) (by omega) | exact arrI.upI (by assumption)
theorem MA.er {sh : zSh} {row : zRw} {i : Nat} {z : Bool} {m : Nat} {A : Nat × (Nat → Nat)} {B : Nat × Nat × Nat × Nat} {P : (Nat → Int32) × (Nat → Int32) × (Nat → Bool) × (Nat → Nat) × (Nat → Nat)} {T : (Nat → Nat) × (Nat → Nat) × (Nat → Nat)} {S : (Nat → Nat) × (Nat → Bool)} {H : (Nat → Bool) × (Nat → Nat) × (Nat → Nat) × (Nat → Nat)} (hM : MA sh row m A B P T S H) : MA sh (zup row (m + 4) i (.int (bI z))) m A B (P.1, P.2.1, va_up P.2.2.1 i z, P.2.2.2) T S H := by
  obtain ⟨⟨go, g_dr, g_au, g_ti, g_er, g_ln, g_tx, g_tk, g_fr, g_to, g_rw, g_pk, g_tn, g_bd, g_ql, g_qy, g_any, g_all, g_pa, g_mi, g_wf, g_wt⟩, ⟨p_dr, p_au, p_ti, p_er, p_ln, p_tx, p_tk, p_fr, p_to, p_rw, p_pk, p_tn, p_bd, p_ql, p_qy, p_any, p_all, p_pa, p_mi, p_wf, p_wt⟩, ⟨f_dl, f_md, f_pb, f_dn, f_sn⟩, a_dr, a_au, a_ti, a_er, a_ln, a_tx, a_tk, a_fr, a_to, a_rw, a_pk, a_tn, a_bd, a_ql, a_qy⟩ := id hM
  refine ⟨⟨go, g_dr, g_au, g_ti, g_er, g_ln, g_tx, g_tk, g_fr, g_to, g_rw, g_pk, g_tn, g_bd, g_ql, g_qy, g_any, g_all, g_pa, g_mi, g_wf, g_wt⟩, ⟨?_, ?_, ?_, ?_, ?_, ?_, ?_, ?_, ?_, ?_, ?_, ?_, ?_, ?_, ?_, ?_, ?_, ?_, ?_, ?_, ?_⟩, ⟨?_, ?_, ?_, ?_, ?_⟩, ?_, ?_, ?_, ?_, ?_, ?_, ?_, ?_, ?_, ?_, ?_, ?_, ?_, ?_, ?_⟩ <;> first | (rw [zup_ne (by omega)]; assumption) | exact arrI.ne (by assumption) (by omega) | exact arrI.upB (by assumption)
theorem MA.ln {sh : zSh} {row : zRw} {i : Nat} {z : Nat} {m : Nat} {A : Nat × (Nat → Nat)} {B : Nat × Nat × Nat × Nat} {P : (Nat → Int32) × (Nat → Int32) × (Nat → Bool) × (Nat → Nat) × (Nat → Nat)} {T : (Nat → Nat) × (Nat → Nat) × (Nat → Nat)} {S : (Nat → Nat) × (Nat → Bool)} {H : (Nat → Bool) × (Nat → Nat) × (Nat → Nat) × (Nat → Nat)} (hM : MA sh row m A B P T S H) : MA sh (zup row (m + 5) i (.int (nI z))) m A B (P.1, P.2.1, P.2.2.1, va_up P.2.2.2.1 i z, P.2.2.2.2) T S H := by
  obtain ⟨⟨go, g_dr, g_au, g_ti, g_er, g_ln, g_tx, g_tk, g_fr, g_to, g_rw, g_pk, g_tn, g_bd, g_ql, g_qy, g_any, g_all, g_pa, g_mi, g_wf, g_wt⟩, ⟨p_dr, p_au, p_ti, p_er, p_ln, p_tx, p_tk, p_fr, p_to, p_rw, p_pk, p_tn, p_bd, p_ql, p_qy, p_any, p_all, p_pa, p_mi, p_wf, p_wt⟩, ⟨f_dl, f_md, f_pb, f_dn, f_sn⟩, a_dr, a_au, a_ti, a_er, a_ln, a_tx, a_tk, a_fr, a_to, a_rw, a_pk, a_tn, a_bd, a_ql, a_qy⟩ := id hM
  refine ⟨⟨go, g_dr, g_au, g_ti, g_er, g_ln, g_tx, g_tk, g_fr, g_to, g_rw, g_pk, g_tn, g_bd, g_ql, g_qy, g_any, g_all, g_pa, g_mi, g_wf, g_wt⟩, ⟨?_, ?_, ?_, ?_, ?_, ?_, ?_, ?_, ?_, ?_, ?_, ?_, ?_, ?_, ?_, ?_, ?_, ?_, ?_, ?_, ?_⟩, ⟨?_, ?_, ?_, ?_, ?_⟩, ?_, ?_, ?_, ?_, ?_, ?_, ?_, ?_, ?_, ?_, ?_, ?_, ?_, ?_, ?_⟩ <;> first | (rw [zup_ne (by omega)]; assumption) | exact arrI.ne (by assumption) (by omega) | exact arrI.upN (by assumption)
theorem MA.tx {sh : zSh} {row : zRw} {i : Nat} {z : Nat} {m : Nat} {A : Nat × (Nat → Nat)} {B : Nat × Nat × Nat × Nat} {P : (Nat → Int32) × (Nat → Int32) × (Nat → Bool) × (Nat → Nat) × (Nat → Nat)} {T : (Nat → Nat) × (Nat → Nat) × (Nat → Nat)} {S : (Nat → Nat) × (Nat → Bool)} {H : (Nat → Bool) × (Nat → Nat) × (Nat → Nat) × (Nat → Nat)} (hM : MA sh row m A B P T S H) : MA sh (zup row (m + 6) i (.int (nI z))) m A B (P.1, P.2.1, P.2.2.1, P.2.2.2.1, va_up P.2.2.2.2 i z) T S H := by
  obtain ⟨⟨go, g_dr, g_au, g_ti, g_er, g_ln, g_tx, g_tk, g_fr, g_to, g_rw, g_pk, g_tn, g_bd, g_ql, g_qy, g_any, g_all, g_pa, g_mi, g_wf, g_wt⟩, ⟨p_dr, p_au, p_ti, p_er, p_ln, p_tx, p_tk, p_fr, p_to, p_rw, p_pk, p_tn, p_bd, p_ql, p_qy, p_any, p_all, p_pa, p_mi, p_wf, p_wt⟩, ⟨f_dl, f_md, f_pb, f_dn, f_sn⟩, a_dr, a_au, a_ti, a_er, a_ln, a_tx, a_tk, a_fr, a_to, a_rw, a_pk, a_tn, a_bd, a_ql, a_qy⟩ := id hM
  refine ⟨⟨go, g_dr, g_au, g_ti, g_er, g_ln, g_tx, g_tk, g_fr, g_to, g_rw, g_pk, g_tn, g_bd, g_ql, g_qy, g_any, g_all, g_pa, g_mi, g_wf, g_wt⟩, ⟨?_, ?_, ?_, ?_, ?_, ?_, ?_, ?_, ?_, ?_, ?_, ?_, ?_, ?_, ?_, ?_, ?_, ?_, ?_, ?_, ?_⟩, ⟨?_, ?_, ?_, ?_, ?_⟩, ?_, ?_, ?_, ?_, ?_, ?_, ?_, ?_, ?_, ?_, ?_, ?_, ?_, ?_, ?_⟩ <;> first | (rw [zup_ne (by omega)]; assumption) | exact arrI.ne (by assumption) (by omega) | exact arrI.upN (by assumption)
theorem MA.tk {sh : zSh} {row : zRw} {i : Nat} {z : Nat} {m : Nat} {A : Nat × (Nat → Nat)} {B : Nat × Nat × Nat × Nat} {P : (Nat → Int32) × (Nat → Int32) × (Nat → Bool) × (Nat → Nat) × (Nat → Nat)} {T : (Nat → Nat) × (Nat → Nat) × (Nat → Nat)} {S : (Nat → Nat) × (Nat → Bool)} {H : (Nat → Bool) × (Nat → Nat) × (Nat → Nat) × (Nat → Nat)} (hM : MA sh row m A B P T S H) : MA sh (zup row (m + 7) i (.int (nI z))) m A B P (va_up T.1 i z, T.2) S H := by
  obtain ⟨⟨go, g_dr, g_au, g_ti, g_er, g_ln, g_tx, g_tk, g_fr, g_to, g_rw, g_pk, g_tn, g_bd, g_ql, g_qy, g_any, g_all, g_pa, g_mi, g_wf, g_wt⟩, ⟨p_dr, p_au, p_ti, p_er, p_ln, p_tx, p_tk, p_fr, p_to, p_rw, p_pk, p_tn, p_bd, p_ql, p_qy, p_any, p_all, p_pa, p_mi, p_wf, p_wt⟩, ⟨f_dl, f_md, f_pb, f_dn, f_sn⟩, a_dr, a_au, a_ti, a_er, a_ln, a_tx, a_tk, a_fr, a_to, a_rw, a_pk, a_tn, a_bd, a_ql, a_qy⟩ := id hM
  refine ⟨⟨go, g_dr, g_au, g_ti, g_er, g_ln, g_tx, g_tk, g_fr, g_to, g_rw, g_pk, g_tn, g_bd, g_ql, g_qy, g_any, g_all, g_pa, g_mi, g_wf, g_wt⟩, ⟨?_, ?_, ?_, ?_, ?_, ?_, ?_, ?_, ?_, ?_, ?_, ?_, ?_, ?_, ?_, ?_, ?_, ?_, ?_, ?_, ?_⟩, ⟨?_, ?_, ?_, ?_, ?_⟩, ?_, ?_, ?_, ?_, ?_, ?_, ?_, ?_, ?_, ?_, ?_, ?_, ?_, ?_, ?_⟩ <;> first | (rw [zup_ne (by omega)]; assumption) | exact arrI.ne (by assumption) (by omega) | exact arrI.upN (by assumption)
theorem MA.fr {sh : zSh} {row : zRw} {i : Nat} {z : Nat} {m : Nat} {A : Nat × (Nat → Nat)} {B : Nat × Nat × Nat × Nat} {P : (Nat → Int32) × (Nat → Int32) × (Nat → Bool) × (Nat → Nat) × (Nat → Nat)} {T : (Nat → Nat) × (Nat → Nat) × (Nat → Nat)} {S : (Nat → Nat) × (Nat → Bool)} {H : (Nat → Bool) × (Nat → Nat) × (Nat → Nat) × (Nat → Nat)} (hM : MA sh row m A B P T S H) : MA sh (zup row (m + 8) i (.int (nI z))) m A B P (T.1, va_up T.2.1 i z, T.2.2) S H := by
  obtain ⟨⟨go, g_dr, g_au, g_ti, g_er, g_ln, g_tx, g_tk, g_fr, g_to, g_rw, g_pk, g_tn, g_bd, g_ql, g_qy, g_any, g_all, g_pa, g_mi, g_wf, g_wt⟩, ⟨p_dr, p_au, p_ti, p_er, p_ln, p_tx, p_tk, p_fr, p_to, p_rw, p_pk, p_tn, p_bd, p_ql, p_qy, p_any, p_all, p_pa, p_mi, p_wf, p_wt⟩, ⟨f_dl, f_md, f_pb, f_dn, f_sn⟩, a_dr, a_au, a_ti, a_er, a_ln, a_tx, a_tk, a_fr, a_to, a_rw, a_pk, a_tn, a_bd, a_ql, a_qy⟩ := id hM
  refine ⟨⟨go, g_dr, g_au, g_ti, g_er, g_ln, g_tx, g_tk, g_fr, g_to, g_rw, g_pk, g_tn, g_bd, g_ql, g_qy, g_any, g_all, g_pa, g_mi, g_wf, g_wt⟩, ⟨?_, ?_, ?_, ?_, ?_, ?_, ?_, ?_, ?_, ?_, ?_, ?_, ?_, ?_, ?_, ?_, ?_, ?_, ?_, ?_, ?_⟩, ⟨?_, ?_, ?_, ?_, ?_⟩, ?_, ?_, ?_, ?_, ?_, ?_, ?_, ?_, ?_, ?_, ?_, ?_, ?_, ?_, ?_⟩ <;> first | (rw [zup_ne (by omega)]; assumption) | exact arrI.ne (by assumption) (by omega) | exact arrI.upN (by assumption)
theorem MA.to {sh : zSh} {row : zRw} {i : Nat} {z : Nat} {m : Nat} {A : Nat × (Nat → Nat)} {B : Nat × Nat × Nat × Nat} {P : (Nat → Int32) × (Nat → Int32) × (Nat → Bool) × (Nat → Nat) × (Nat → Nat)} {T : (Nat → Nat) × (Nat → Nat) × (Nat → Nat)} {S : (Nat → Nat) × (Nat → Bool)} {H : (Nat → Bool) × (Nat → Nat) × (Nat → Nat) × (Nat → Nat)} (hM : MA sh row m A B P T S H) : MA sh (zup row (m + 9) i (.int (nI z))) m A B P (T.1, T.2.1, va_up T.2.2 i z) S H := by
  obtain ⟨⟨go, g_dr, g_au, g_ti, g_er, g_ln, g_tx, g_tk, g_fr, g_to, g_rw, g_pk, g_tn, g_bd, g_ql, g_qy, g_any, g_all, g_pa, g_mi, g_wf, g_wt⟩, ⟨p_dr, p_au, p_ti, p_er, p_ln, p_tx, p_tk, p_fr, p_to, p_rw, p_pk, p_tn, p_bd, p_ql, p_qy, p_any, p_all, p_pa, p_mi, p_wf, p_wt⟩, ⟨f_dl, f_md, f_pb, f_dn, f_sn⟩, a_dr, a_au, a_ti, a_er, a_ln, a_tx, a_tk, a_fr, a_to, a_rw, a_pk, a_tn, a_bd, a_ql, a_qy⟩ := id hM
  refine ⟨⟨go, g_dr, g_au, g_ti, g_er, g_ln, g_tx, g_tk, g_fr, g_to, g_rw, g_pk, g_tn, g_bd, g_ql, g_qy, g_any, g_all, g_pa, g_mi, g_wf, g_wt⟩, ⟨?_, ?_, ?_, ?_, ?_, ?_, ?_, ?_, ?_, ?_, ?_, ?_, ?_, ?_, ?_, ?_, ?_, ?_, ?_, ?_, ?_⟩, ⟨?_, ?_, ?_, ?_, ?_⟩, ?_, ?_, ?_, ?_, ?_, ?_, ?_, ?_, ?_, ?_, ?_, ?_, ?_, ?_, ?_⟩ <;> first | (rw [zup_ne (by omega)]; assumption) | exact arrI.ne (by assumption) (by omega) | exact arrI.upN (by assumption)
theorem MA.rw {sh : zSh} {row : zRw} {i : Nat} {z : Nat} {m : Nat} {A : Nat × (Nat → Nat)} {B : Nat × Nat × Nat × Nat} {P : (Nat → Int32) × (Nat → Int32) × (Nat → Bool) × (Nat → Nat) × (Nat → Nat)} {T : (Nat → Nat) × (Nat → Nat) × (Nat → Nat)} {S : (Nat → Nat) × (Nat → Bool)} {H : (Nat → Bool) × (Nat → Nat) × (Nat → Nat) × (Nat → Nat)} (hM : MA sh row m A B P T S H) : MA sh (zup row (m + 10) i (.int (nI z))) m A B P T (va_up S.1 i z, S.2) H := by
  obtain ⟨⟨go, g_dr, g_au, g_ti, g_er, g_ln, g_tx, g_tk, g_fr, g_to, g_rw, g_pk, g_tn, g_bd, g_ql, g_qy, g_any, g_all, g_pa, g_mi, g_wf, g_wt⟩, ⟨p_dr, p_au, p_ti, p_er, p_ln, p_tx, p_tk, p_fr, p_to, p_rw, p_pk, p_tn, p_bd, p_ql, p_qy, p_any, p_all, p_pa, p_mi, p_wf, p_wt⟩, ⟨f_dl, f_md, f_pb, f_dn, f_sn⟩, a_dr, a_au, a_ti, a_er, a_ln, a_tx, a_tk, a_fr, a_to, a_rw, a_pk, a_tn, a_bd, a_ql, a_qy⟩ := id hM
  refine ⟨⟨go, g_dr, g_au, g_ti, g_er, g_ln, g_tx, g_tk, g_fr, g_to, g_rw, g_pk, g_tn, g_bd, g_ql, g_qy, g_any, g_all, g_pa, g_mi, g_wf, g_wt⟩, ⟨?_, ?_, ?_, ?_, ?_, ?_, ?_, ?_, ?_, ?_, ?_, ?_, ?_, ?_, ?_, ?_, ?_, ?_, ?_, ?_, ?_⟩, ⟨?_, ?_, ?_, ?_, ?_⟩, ?_, ?_, ?_, ?_, ?_, ?_, ?_, ?_, ?_, ?_, ?_, ?_, ?_, ?_, ?_⟩ <;> first | (rw [zup_ne (by omega)]; assumption) | exact arrI.ne (by assumption) (by omega) | exact arrI.upN (by assumption)
theorem MA.pk {sh : zSh} {row : zRw} {i : Nat} {z : Bool} {m : Nat} {A : Nat × (Nat → Nat)} {B : Nat × Nat × Nat × Nat} {P : (Nat → Int32) × (Nat → Int32) × (Nat → Bool) × (Nat → Nat) × (Nat → Nat)} {T : (Nat → Nat) × (Nat → Nat) × (Nat → Nat)} {S : (Nat → Nat) × (Nat → Bool)} {H : (Nat → Bool) × (Nat → Nat) × (Nat → Nat) × (Nat → Nat)} (hM : MA sh row m A B P T S H) : MA sh (zup row (m + 11) i (.int (bI z))) m A B P T (S.1, va_up S.2 i z) H := by
  obtain ⟨⟨go, g_dr, g_au, g_ti, g_er, g_ln, g_tx, g_tk, g_fr, g_to, g_rw, g_pk, g_tn, g_bd, g_ql, g_qy, g_any, g_all, g_pa, g_mi, g_wf, g_wt⟩, ⟨p_dr, p_au, p_ti, p_er, p_ln, p_tx, p_tk, p_fr, p_to, p_rw, p_pk, p_tn, p_bd, p_ql, p_qy, p_any, p_all, p_pa, p_mi, p_wf, p_wt⟩, ⟨f_dl, f_md, f_pb, f_dn, f_sn⟩, a_dr, a_au, a_ti, a_er, a_ln, a_tx, a_tk, a_fr, a_to, a_rw, a_pk, a_tn, a_bd, a_ql, a_qy⟩ := id hM
  refine ⟨⟨go, g_dr, g_au, g_ti, g_er, g_ln, g_tx, g_tk, g_fr, g_to, g_rw, g_pk, g_tn, g_bd, g_ql, g_qy, g_any, g_all, g_pa, g_mi, g_wf, g_wt⟩, ⟨?_, ?_, ?_, ?_, ?_, ?_, ?_, ?_, ?_, ?_, ?_, ?_, ?_, ?_, ?_, ?_, ?_, ?_, ?_, ?_, ?_⟩, ⟨?_, ?_, ?_, ?_, ?_⟩, ?_, ?_, ?_, ?_, ?_, ?_, ?_, ?_, ?_, ?_, ?_, ?_, ?_, ?_, ?_⟩ <;> first | (rw [zup_ne (by omega)]; assumption) | exact arrI.ne (by assumption) (by omega) | exact arrI.upB (by assumption)
theorem MA.tn {sh : zSh} {row : zRw} {i : Nat} {z : Bool} {m : Nat} {A : Nat × (Nat → Nat)} {B : Nat × Nat × Nat × Nat} {P : (Nat → Int32) × (Nat → Int32) × (Nat → Bool) × (Nat → Nat) × (Nat → Nat)} {T : (Nat → Nat) × (Nat → Nat) × (Nat → Nat)} {S : (Nat → Nat) × (Nat → Bool)} {H : (Nat → Bool) × (Nat → Nat) × (Nat → Nat) × (Nat → Nat)} (hM : MA sh row m A B P T S H) : MA sh (zup row (m + 12) i (.int (bI z))) m A B P T S (va_up H.1 i z, H.2) := by
  obtain ⟨⟨go, g_dr, g_au, g_ti, g_er, g_ln, g_tx, g_tk, g_fr, g_to, g_rw, g_pk, g_tn, g_bd, g_ql, g_qy, g_any, g_all, g_pa, g_mi, g_wf, g_wt⟩, ⟨p_dr, p_au, p_ti, p_er, p_ln, p_tx, p_tk, p_fr, p_to, p_rw, p_pk, p_tn, p_bd, p_ql, p_qy, p_any, p_all, p_pa, p_mi, p_wf, p_wt⟩, ⟨f_dl, f_md, f_pb, f_dn, f_sn⟩, a_dr, a_au, a_ti, a_er, a_ln, a_tx, a_tk, a_fr, a_to, a_rw, a_pk, a_tn, a_bd, a_ql, a_qy⟩ := id hM
  refine ⟨⟨go, g_dr, g_au, g_ti, g_er, g_ln, g_tx, g_tk, g_fr, g_to, g_rw, g_pk, g_tn, g_bd, g_ql, g_qy, g_any, g_all, g_pa, g_mi, g_wf, g_wt⟩, ⟨?_, ?_, ?_, ?_, ?_, ?_, ?_, ?_, ?_, ?_, ?_, ?_, ?_, ?_, ?_, ?_, ?_, ?_, ?_, ?_, ?_⟩, ⟨?_, ?_, ?_, ?_, ?_⟩, ?_, ?_, ?_, ?_, ?_, ?_, ?_, ?_, ?_, ?_, ?_, ?_, ?_, ?_, ?_⟩ <;> first | (rw [zup_ne (by omega)]; assumption) | exact arrI.ne (by assumption) (by omega) | exact arrI.upB (by assumption)
theorem MA.bd {sh : zSh} {row : zRw} {i : Nat} {z : Nat} {m : Nat} {A : Nat × (Nat → Nat)} {B : Nat × Nat × Nat × Nat} {P : (Nat → Int32) × (Nat → Int32) × (Nat → Bool) × (Nat → Nat) × (Nat → Nat)} {T : (Nat → Nat) × (Nat → Nat) × (Nat → Nat)} {S : (Nat → Nat) × (Nat → Bool)} {H : (Nat → Bool) × (Nat → Nat) × (Nat → Nat) × (Nat → Nat)} (hM : MA sh row m A B P T S H) : MA sh (zup row (m + 13) i (.int (nI z))) m A B P T S (H.1, va_up H.2.1 i z, H.2.2) := by
  obtain ⟨⟨go, g_dr, g_au, g_ti, g_er, g_ln, g_tx, g_tk, g_fr, g_to, g_rw, g_pk, g_tn, g_bd, g_ql, g_qy, g_any, g_all, g_pa, g_mi, g_wf, g_wt⟩, ⟨p_dr, p_au, p_ti, p_er, p_ln, p_tx, p_tk, p_fr, p_to, p_rw, p_pk, p_tn, p_bd, p_ql, p_qy, p_any, p_all, p_pa, p_mi, p_wf, p_wt⟩, ⟨f_dl, f_md, f_pb, f_dn, f_sn⟩, a_dr, a_au, a_ti, a_er, a_ln, a_tx, a_tk, a_fr, a_to, a_rw, a_pk, a_tn, a_bd, a_ql, a_qy⟩ := id hM
  refine ⟨⟨go, g_dr, g_au, g_ti, g_er, g_ln, g_tx, g_tk, g_fr, g_to, g_rw, g_pk, g_tn, g_bd, g_ql, g_qy, g_any, g_all, g_pa, g_mi, g_wf, g_wt⟩, ⟨?_, ?_, ?_, ?_, ?_, ?_, ?_, ?_, ?_, ?_, ?_, ?_, ?_, ?_, ?_, ?_, ?_, ?_, ?_, ?_, ?_⟩, ⟨?_, ?_, ?_, ?_, ?_⟩, ?_, ?_, ?_, ?_, ?_, ?_, ?_, ?_, ?_, ?_, ?_, ?_, ?_, ?_, ?_⟩ <;> first | (rw [zup_ne (by omega)]; assumption) | exact arrI.ne (by assumption) (by omega) | exact arrI.upN (by assumption)
theorem MA.ql {sh : zSh} {row : zRw} {i : Nat} {z : Nat} {m : Nat} {A : Nat × (Nat → Nat)} {B : Nat × Nat × Nat × Nat} {P : (Nat → Int32) × (Nat → Int32) × (Nat → Bool) × (Nat → Nat) × (Nat → Nat)} {T : (Nat → Nat) × (Nat → Nat) × (Nat → Nat)} {S : (Nat → Nat) × (Nat → Bool)} {H : (Nat → Bool) × (Nat → Nat) × (Nat → Nat) × (Nat → Nat)} (hM : MA sh row m A B P T S H) : MA sh (zup row (m + 14) i (.int (nI z))) m A B P T S (H.1, H.2.1, va_up H.2.2.1 i z, H.2.2.2) := by
  obtain ⟨⟨go, g_dr, g_au, g_ti, g_er, g_ln, g_tx, g_tk, g_fr, g_to, g_rw, g_pk, g_tn, g_bd, g_ql, g_qy, g_any, g_all, g_pa, g_mi, g_wf, g_wt⟩, ⟨p_dr, p_au, p_ti, p_er, p_ln, p_tx, p_tk, p_fr, p_to, p_rw, p_pk, p_tn, p_bd, p_ql, p_qy, p_any, p_all, p_pa, p_mi, p_wf, p_wt⟩, ⟨f_dl, f_md, f_pb, f_dn, f_sn⟩, a_dr, a_au, a_ti, a_er, a_ln, a_tx, a_tk, a_fr, a_to, a_rw, a_pk, a_tn, a_bd, a_ql, a_qy⟩ := id hM
  refine ⟨⟨go, g_dr, g_au, g_ti, g_er, g_ln, g_tx, g_tk, g_fr, g_to, g_rw, g_pk, g_tn, g_bd, g_ql, g_qy, g_any, g_all, g_pa, g_mi, g_wf, g_wt⟩, ⟨?_, ?_, ?_, ?_, ?_, ?_, ?_, ?_, ?_, ?_, ?_, ?_, ?_, ?_, ?_, ?_, ?_, ?_, ?_, ?_, ?_⟩, ⟨?_, ?_, ?_, ?_, ?_⟩, ?_, ?_, ?_, ?_, ?_, ?_, ?_, ?_, ?_, ?_, ?_, ?_, ?_, ?_, ?_⟩ <;> first | (rw [zup_ne (by omega)]; assumption) | exact arrI.ne (by assumption) (by omega) | exact arrI.upN (by assumption)
theorem MA.qy {sh : zSh} {row : zRw} {i : Nat} {z : Nat} {m : Nat} {A : Nat × (Nat → Nat)} {B : Nat × Nat × Nat × Nat} {P : (Nat → Int32) × (Nat → Int32) × (Nat → Bool) × (Nat → Nat) × (Nat → Nat)} {T : (Nat → Nat) × (Nat → Nat) × (Nat → Nat)} {S : (Nat → Nat) × (Nat → Bool)} {H : (Nat → Bool) × (Nat → Nat) × (Nat → Nat) × (Nat → Nat)} (hM : MA sh row m A B P T S H) : MA sh (zup row (m + 15) i (.int (nI z))) m A B P T S (H.1, H.2.1, H.2.2.1, va_up H.2.2.2 i z) := by
  obtain ⟨⟨go, g_dr, g_au, g_ti, g_er, g_ln, g_tx, g_tk, g_fr, g_to, g_rw, g_pk, g_tn, g_bd, g_ql, g_qy, g_any, g_all, g_pa, g_mi, g_wf, g_wt⟩, ⟨p_dr, p_au, p_ti, p_er, p_ln, p_tx, p_tk, p_fr, p_to, p_rw, p_pk, p_tn, p_bd, p_ql, p_qy, p_any, p_all, p_pa, p_mi, p_wf, p_wt⟩, ⟨f_dl, f_md, f_pb, f_dn, f_sn⟩, a_dr, a_au, a_ti, a_er, a_ln, a_tx, a_tk, a_fr, a_to, a_rw, a_pk, a_tn, a_bd, a_ql, a_qy⟩ := id hM
  refine ⟨⟨go, g_dr, g_au, g_ti, g_er, g_ln, g_tx, g_tk, g_fr, g_to, g_rw, g_pk, g_tn, g_bd, g_ql, g_qy, g_any, g_all, g_pa, g_mi, g_wf, g_wt⟩, ⟨?_, ?_, ?_, ?_, ?_, ?_, ?_, ?_, ?_, ?_, ?_, ?_, ?_, ?_, ?_, ?_, ?_, ?_, ?_, ?_, ?_⟩, ⟨?_, ?_, ?_, ?_, ?_⟩, ?_, ?_, ?_, ?_, ?_, ?_, ?_, ?_, ?_, ?_, ?_, ?_, ?_, ?_, ?_⟩ <;> first | (rw [zup_ne (by omega)]; assumption) | exact arrI.ne (by assumption) (by omega) | exact arrI.upN (by assumption)
theorem wordy_eq (c : Nat) : isWd c = (isDg c || decide (65 ≤ c ∧ c ≤ 90 ∨ 97 ≤ c ∧ c ≤ 122 ∨ c = 95)) := by
  unfold isWd isDg fold1
  by_cases h : 65 ≤ c ∧ c ≤ 90
  · rw [if_pos h, decide_eq_true (show 97 ≤ c + 32 ∧ c + 32 ≤ 122 by omega), decide_eq_true (show 65 ≤ c ∧ c ≤ 90 ∨ 97 ≤ c ∧ c ≤ 122 ∨ c = 95 from Or.inl h)]; simp
  · rw [if_neg h]
    by_cases h2 : 97 ≤ c ∧ c ≤ 122
    · rw [decide_eq_true h2, decide_eq_true (show 65 ≤ c ∧ c ≤ 90 ∨ 97 ≤ c ∧ c ≤ 122 ∨ c = 95 by omega)]; simp
    · rw [decide_eq_false h2]
      by_cases h3 : c = 95
      · rw [decide_eq_true h3, decide_eq_true (show 65 ≤ c ∧ c ≤ 90 ∨ 97 ≤ c ∧ c ≤ 122 ∨ c = 95 by omega)]; simp
      · rw [decide_eq_false h3, decide_eq_false (show ¬ (65 ≤ c ∧ c ≤ 90 ∨ 97 ≤ c ∧ c ≤ 122 ∨ c = 95) by omega)]; simp
def begB (B : Nat × Nat × Nat × Nat) (g : Nat) : Bool := decide (4 * g < B.2.1 ∨ (B.2.1 = 4 * g ∧ 0 < B.2.2.1))
def livM (B : Nat × Nat × Nat × Nat) (g : Nat) : Bool := begB B g && !begB B (g + 3)
def shoB (B : Nat × Nat × Nat × Nat) (er : Nat → Bool) (j : Nat) : Bool := decide (j < B.2.1) && (livM B (j / 4) && !er j)
def idxN (B : Nat × Nat × Nat × Nat) (tk : Nat → Nat) (j : Nat) : Nat := if j < B.2.1 then tk j else if j = B.2.1 ∧ j < B.1 then B.2.2.1 else 0

set_option maxHeartbeats 4000000 in
set_option maxRecDepth 100000 in
theorem kM_digit (G : zG) (d : Nat) (hd : 0 ≤ d) {n : Nat} {sh : zSh} {row : zRw} {c : Nat} (hc : c < 65536) : zM G (fM_digit d) [.int (nI c)] n sh row (zP sh row (.int (bI (isDg c)))) := by
  refine zM.of (by show plainName "PostIndexModel" = true; decide +kernel) (Nat.le_of_ble_eq_true rfl) (by intro v hv; simp at hv; rcases hv with rfl <;> rfl) ?_
  intro K hE
  show zX G K (fM_digit d) n 0 0 sh row 0 [.int (nI c)] []
  refine zx_iload_n dM_digit_0 rfl ?_
  refine zx_bipush (v := nI 48) dM_digit_1 (by decide) ?_
  refine zn_icmp_lt (tgt := 16) dM_digit_3 rfl (by omega) (by omega) (fun h3 => ?_) (fun h3 => ?_)
  · refine zx_iconst (v := nI 0) dM_digit_16 (by decide) ?_
    exact zx_zret hE rfl (by first | decide | exact bI_nar _) dM_digit_17 rfl (Nat.le_of_ble_eq_true rfl) ⟨by rw [show isDg c = decide (48 ≤ c ∧ c ≤ 57) from rfl]; first | (rw [decide_eq_false (by omega)]; rfl) | (rw [decide_eq_true (by omega)]; rfl), rfl, rfl⟩
  · refine zx_iload_n dM_digit_6 rfl ?_
    refine zx_bipush (v := nI 57) dM_digit_7 (by decide) ?_
    refine zn_icmp_gt (tgt := 16) dM_digit_9 rfl (by omega) (by omega) (fun h9 => ?_) (fun h9 => ?_)
    · refine zx_iconst (v := nI 0) dM_digit_16 (by decide) ?_
      exact zx_zret hE rfl (by first | decide | exact bI_nar _) dM_digit_17 rfl (Nat.le_of_ble_eq_true rfl) ⟨by rw [show isDg c = decide (48 ≤ c ∧ c ≤ 57) from rfl]; first | (rw [decide_eq_false (by omega)]; rfl) | (rw [decide_eq_true (by omega)]; rfl), rfl, rfl⟩
    · refine zx_iconst (v := nI 1) dM_digit_12 (by decide) ?_
      refine zx_goto (tgt := 17) dM_digit_13 rfl ?_
      exact zx_zret hE rfl (by first | decide | exact bI_nar _) dM_digit_17 rfl (Nat.le_of_ble_eq_true rfl) ⟨by rw [show isDg c = decide (48 ≤ c ∧ c ≤ 57) from rfl]; first | (rw [decide_eq_false (by omega)]; rfl) | (rw [decide_eq_true (by omega)]; rfl), rfl, rfl⟩

set_option maxHeartbeats 4000000 in
set_option maxRecDepth 100000 in
theorem kM_wordy (G : zG) (d : Nat) (hd : 1 ≤ d) {n : Nat} {sh : zSh} {row : zRw} {c : Nat} (hc : c < 65536) : zM G (fM_wordy d) [.int (nI c)] n sh row (zP sh row (.int (bI (isWd c)))) := by
  refine zM.of (by show plainName "PostIndexModel" = true; decide +kernel) (Nat.le_of_ble_eq_true rfl) (by intro v hv; simp at hv; rcases hv with rfl <;> rfl) ?_
  intro K hE
  show zX G K (fM_wordy d) n 0 0 sh row 0 [.int (nI c)] []
  have hD : d - 1 + 1 ≤ d := by omega
  refine zx_iload_n dM_wordy_0 rfl ?_
  refine zc_S (n0 := n) (ce := 0) (kM_digit G (d - 1) (by omega) hc) (meM_digit _) lkM_74 rfl hD (Nat.le_of_ble_eq_true rfl) rfl rfl (Nat.le_of_ble_eq_true rfl) (Nat.le_of_ble_eq_true rfl) (Nat.le_of_ble_eq_true rfl) dM_wordy_1 ?_
  refine zb_if_ne (tgt := 37) dM_wordy_4 rfl (fun h4 => ?_) (fun h4 => ?_)
  · refine zx_iconst (v := nI 1) dM_wordy_37 (by decide) ?_
    refine zx_goto (tgt := 42) dM_wordy_38 rfl ?_
    exact zx_zret hE rfl (by first | decide | exact bI_nar _) dM_wordy_42 rfl (Nat.le_of_ble_eq_true rfl) ⟨by rw [wordy_eq]; first | (rw [h4]; rfl) | (rw [h4, decide_eq_true (by omega)]; rfl) | (rw [h4, decide_eq_false (by omega)]; rfl), rfl, rfl⟩
  · refine zx_iload_n dM_wordy_7 rfl ?_
    refine zx_bipush (v := nI 65) dM_wordy_8 (by decide) ?_
    refine zn_icmp_lt (tgt := 19) dM_wordy_10 rfl (by omega) (by omega) (fun h10 => ?_) (fun h10 => ?_)
    · refine zx_iload_n dM_wordy_19 rfl ?_
      refine zx_bipush (v := nI 97) dM_wordy_20 (by decide) ?_
      refine zn_icmp_lt (tgt := 31) dM_wordy_22 rfl (by omega) (by omega) (fun h22 => ?_) (fun h22 => ?_)
      · refine zx_iload_n dM_wordy_31 rfl ?_
        refine zx_bipush (v := nI 95) dM_wordy_32 (by decide) ?_
        refine zn_icmp_ne (tgt := 41) dM_wordy_34 rfl (by omega) (by omega) (fun h34 => ?_) (fun h34 => ?_)
        · refine zx_iconst (v := nI 0) dM_wordy_41 (by decide) ?_
          exact zx_zret hE rfl (by first | decide | exact bI_nar _) dM_wordy_42 rfl (Nat.le_of_ble_eq_true rfl) ⟨by rw [wordy_eq]; first | (rw [h4]; rfl) | (rw [h4, decide_eq_true (by omega)]; rfl) | (rw [h4, decide_eq_false (by omega)]; rfl), rfl, rfl⟩
        · refine zx_iconst (v := nI 1) dM_wordy_37 (by decide) ?_
          refine zx_goto (tgt := 42) dM_wordy_38 rfl ?_
          exact zx_zret hE rfl (by first | decide | exact bI_nar _) dM_wordy_42 rfl (Nat.le_of_ble_eq_true rfl) ⟨by rw [wordy_eq]; first | (rw [h4]; rfl) | (rw [h4, decide_eq_true (by omega)]; rfl) | (rw [h4, decide_eq_false (by omega)]; rfl), rfl, rfl⟩
      · refine zx_iload_n dM_wordy_25 rfl ?_
        refine zx_bipush (v := nI 122) dM_wordy_26 (by decide) ?_
        refine zn_icmp_le (tgt := 37) dM_wordy_28 rfl (by omega) (by omega) (fun h28 => ?_) (fun h28 => ?_)
        · refine zx_iconst (v := nI 1) dM_wordy_37 (by decide) ?_
          refine zx_goto (tgt := 42) dM_wordy_38 rfl ?_
          exact zx_zret hE rfl (by first | decide | exact bI_nar _) dM_wordy_42 rfl (Nat.le_of_ble_eq_true rfl) ⟨by rw [wordy_eq]; first | (rw [h4]; rfl) | (rw [h4, decide_eq_true (by omega)]; rfl) | (rw [h4, decide_eq_false (by omega)]; rfl), rfl, rfl⟩
        · refine zx_iload_n dM_wordy_31 rfl ?_
          refine zx_bipush (v := nI 95) dM_wordy_32 (by decide) ?_
          refine zn_icmp_ne (tgt := 41) dM_wordy_34 rfl (by omega) (by omega) (fun h34 => ?_) (fun h34 => ?_)
          · refine zx_iconst (v := nI 0) dM_wordy_41 (by decide) ?_
            exact zx_zret hE rfl (by first | decide | exact bI_nar _) dM_wordy_42 rfl (Nat.le_of_ble_eq_true rfl) ⟨by rw [wordy_eq]; first | (rw [h4]; rfl) | (rw [h4, decide_eq_true (by omega)]; rfl) | (rw [h4, decide_eq_false (by omega)]; rfl), rfl, rfl⟩
          · refine zx_iconst (v := nI 1) dM_wordy_37 (by decide) ?_
            refine zx_goto (tgt := 42) dM_wordy_38 rfl ?_
            exact zx_zret hE rfl (by first | decide | exact bI_nar _) dM_wordy_42 rfl (Nat.le_of_ble_eq_true rfl) ⟨by rw [wordy_eq]; first | (rw [h4]; rfl) | (rw [h4, decide_eq_true (by omega)]; rfl) | (rw [h4, decide_eq_false (by omega)]; rfl), rfl, rfl⟩
    · refine zx_iload_n dM_wordy_13 rfl ?_
      refine zx_bipush (v := nI 90) dM_wordy_14 (by decide) ?_
      refine zn_icmp_le (tgt := 37) dM_wordy_16 rfl (by omega) (by omega) (fun h16 => ?_) (fun h16 => ?_)
      · refine zx_iconst (v := nI 1) dM_wordy_37 (by decide) ?_
        refine zx_goto (tgt := 42) dM_wordy_38 rfl ?_
        exact zx_zret hE rfl (by first | decide | exact bI_nar _) dM_wordy_42 rfl (Nat.le_of_ble_eq_true rfl) ⟨by rw [wordy_eq]; first | (rw [h4]; rfl) | (rw [h4, decide_eq_true (by omega)]; rfl) | (rw [h4, decide_eq_false (by omega)]; rfl), rfl, rfl⟩
      · refine zx_iload_n dM_wordy_19 rfl ?_
        refine zx_bipush (v := nI 97) dM_wordy_20 (by decide) ?_
        refine zn_icmp_lt (tgt := 31) dM_wordy_22 rfl (by omega) (by omega) (fun h22 => ?_) (fun h22 => ?_)
        · refine zx_iload_n dM_wordy_31 rfl ?_
          refine zx_bipush (v := nI 95) dM_wordy_32 (by decide) ?_
          refine zn_icmp_ne (tgt := 41) dM_wordy_34 rfl (by omega) (by omega) (fun h34 => ?_) (fun h34 => ?_)
          · refine zx_iconst (v := nI 0) dM_wordy_41 (by decide) ?_
            exact zx_zret hE rfl (by first | decide | exact bI_nar _) dM_wordy_42 rfl (Nat.le_of_ble_eq_true rfl) ⟨by rw [wordy_eq]; first | (rw [h4]; rfl) | (rw [h4, decide_eq_true (by omega)]; rfl) | (rw [h4, decide_eq_false (by omega)]; rfl), rfl, rfl⟩
          · refine zx_iconst (v := nI 1) dM_wordy_37 (by decide) ?_
            refine zx_goto (tgt := 42) dM_wordy_38 rfl ?_
            exact zx_zret hE rfl (by first | decide | exact bI_nar _) dM_wordy_42 rfl (Nat.le_of_ble_eq_true rfl) ⟨by rw [wordy_eq]; first | (rw [h4]; rfl) | (rw [h4, decide_eq_true (by omega)]; rfl) | (rw [h4, decide_eq_false (by omega)]; rfl), rfl, rfl⟩
        · refine zx_iload_n dM_wordy_25 rfl ?_
          refine zx_bipush (v := nI 122) dM_wordy_26 (by decide) ?_
          refine zn_icmp_le (tgt := 37) dM_wordy_28 rfl (by omega) (by omega) (fun h28 => ?_) (fun h28 => ?_)
          · refine zx_iconst (v := nI 1) dM_wordy_37 (by decide) ?_
            refine zx_goto (tgt := 42) dM_wordy_38 rfl ?_
            exact zx_zret hE rfl (by first | decide | exact bI_nar _) dM_wordy_42 rfl (Nat.le_of_ble_eq_true rfl) ⟨by rw [wordy_eq]; first | (rw [h4]; rfl) | (rw [h4, decide_eq_true (by omega)]; rfl) | (rw [h4, decide_eq_false (by omega)]; rfl), rfl, rfl⟩
          · refine zx_iload_n dM_wordy_31 rfl ?_
            refine zx_bipush (v := nI 95) dM_wordy_32 (by decide) ?_
            refine zn_icmp_ne (tgt := 41) dM_wordy_34 rfl (by omega) (by omega) (fun h34 => ?_) (fun h34 => ?_)
            · refine zx_iconst (v := nI 0) dM_wordy_41 (by decide) ?_
              exact zx_zret hE rfl (by first | decide | exact bI_nar _) dM_wordy_42 rfl (Nat.le_of_ble_eq_true rfl) ⟨by rw [wordy_eq]; first | (rw [h4]; rfl) | (rw [h4, decide_eq_true (by omega)]; rfl) | (rw [h4, decide_eq_false (by omega)]; rfl), rfl, rfl⟩
            · refine zx_iconst (v := nI 1) dM_wordy_37 (by decide) ?_
              refine zx_goto (tgt := 42) dM_wordy_38 rfl ?_
              exact zx_zret hE rfl (by first | decide | exact bI_nar _) dM_wordy_42 rfl (Nat.le_of_ble_eq_true rfl) ⟨by rw [wordy_eq]; first | (rw [h4]; rfl) | (rw [h4, decide_eq_true (by omega)]; rfl) | (rw [h4, decide_eq_false (by omega)]; rfl), rfl, rfl⟩

set_option maxHeartbeats 4000000 in
set_option maxRecDepth 100000 in
theorem kM_small (G : zG) (d : Nat) (hd : 0 ≤ d) {n : Nat} {sh : zSh} {row : zRw} {c : Nat} (hc : c < 65536) : zM G (fM_small d) [.int (nI c)] n sh row (zP sh row (.int (nI (fold1 c)))) := by
  refine zM.of (by show plainName "PostIndexModel" = true; decide +kernel) (Nat.le_of_ble_eq_true rfl) (by intro v hv; simp at hv; rcases hv with rfl <;> rfl) ?_
  intro K hE
  show zX G K (fM_small d) n 0 0 sh row 0 [.int (nI c)] []
  refine zx_iload_n dM_small_0 rfl ?_
  refine zx_bipush (v := nI 65) dM_small_1 (by decide) ?_
  refine zn_icmp_lt (tgt := 19) dM_small_3 rfl (by omega) (by omega) (fun h3 => ?_) (fun h3 => ?_)
  · refine zx_iload_n dM_small_19 rfl ?_
    exact zx_iret hE rfl dM_small_20 rfl (Nat.le_of_ble_eq_true rfl) ⟨by unfold fold1; first | rw [if_neg (by omega)] | rw [if_pos (by omega)], rfl, rfl⟩
  · refine zx_iload_n dM_small_6 rfl ?_
    refine zx_bipush (v := nI 90) dM_small_7 (by decide) ?_
    refine zn_icmp_gt (tgt := 19) dM_small_9 rfl (by omega) (by omega) (fun h9 => ?_) (fun h9 => ?_)
    · refine zx_iload_n dM_small_19 rfl ?_
      exact zx_iret hE rfl dM_small_20 rfl (Nat.le_of_ble_eq_true rfl) ⟨by unfold fold1; first | rw [if_neg (by omega)] | rw [if_pos (by omega)], rfl, rfl⟩
    · refine zx_iload_n dM_small_12 rfl ?_
      refine zx_bipush (v := nI 32) dM_small_13 (by decide) ?_
      refine zn_iadd dM_small_15 ?_
      refine zx_goto (tgt := 20) dM_small_16 rfl ?_
      exact zx_iret hE rfl dM_small_20 rfl (Nat.le_of_ble_eq_true rfl) ⟨by unfold fold1; first | rw [if_neg (by omega)] | rw [if_pos (by omega)], rfl, rfl⟩

set_option maxHeartbeats 4000000 in
set_option maxRecDepth 100000 in
theorem kM_begun (G : zG) (d : Nat) (hd : 0 ≤ d) {n : Nat} {sh : zSh} {row : zRw} {m : Nat} {A : Nat × (Nat → Nat)} {B : Nat × Nat × Nat × Nat} {P : (Nat → Int32) × (Nat → Int32) × (Nat → Bool) × (Nat → Nat) × (Nat → Nat)} {T : (Nat → Nat) × (Nat → Nat) × (Nat → Nat)} {S : (Nat → Nat) × (Nat → Bool)} {H : (Nat → Bool) × (Nat → Nat) × (Nat → Nat) × (Nat → Nat)} (hM : MA sh row m A B P T S H) {g : Nat} (hg : g < 1000) (hmd : B.1 ≤ 24) (hpb : B.2.1 ≤ 24) (hdn : B.2.2.1 ≤ 24) : zM G (fM_begun d) [.ref m, .int (nI g)] n sh row (zP sh row (.int (bI (begB B g)))) := by
  refine zM.of (by show plainName "PostIndexModel" = true; decide +kernel) (Nat.le_of_ble_eq_true rfl) (by intro v hv; simp at hv; rcases hv with rfl | rfl <;> rfl) ?_
  intro K hE
  show zX G K (fM_begun d) n 0 0 sh row 0 [.ref m, .int (nI g)] []
  obtain ⟨⟨go, g_dr, g_au, g_ti, g_er, g_ln, g_tx, g_tk, g_fr, g_to, g_rw, g_pk, g_tn, g_bd, g_ql, g_qy, g_any, g_all, g_pa, g_mi, g_wf, g_wt⟩, ⟨p_dr, p_au, p_ti, p_er, p_ln, p_tx, p_tk, p_fr, p_to, p_rw, p_pk, p_tn, p_bd, p_ql, p_qy, p_any, p_all, p_pa, p_mi, p_wf, p_wt⟩, ⟨f_dl, f_md, f_pb, f_dn, f_sn⟩, a_dr, a_au, a_ti, a_er, a_ln, a_tx, a_tk, a_fr, a_to, a_rw, a_pk, a_tn, a_bd, a_ql, a_qy⟩ := id hM
  refine zx_aload_n dM_begun_0 rfl ?_
  refine zx_get dM_begun_1 flM_82 (by assumption) (by assumption) ?_
  refine zx_iconst (v := nI 4) dM_begun_4 (by decide) ?_
  refine zx_iload_n dM_begun_5 rfl ?_
  refine zn_imul dM_begun_6 ?_
  refine zn_icmp_gt (tgt := 27) dM_begun_7 rfl (by omega) (by omega) (fun h7 => ?_) (fun h7 => ?_)
  · refine zx_iconst (v := nI 1) dM_begun_27 (by decide) ?_
    refine zx_goto (tgt := 32) dM_begun_28 rfl ?_
    exact zx_zret hE rfl (by first | decide | exact bI_nar _) dM_begun_32 rfl (Nat.le_of_ble_eq_true rfl) ⟨by unfold begB; first | (rw [decide_eq_true (by omega)]; rfl) | (rw [decide_eq_false (by omega)]; rfl), rfl, rfl⟩
  · refine zx_aload_n dM_begun_10 rfl ?_
    refine zx_get dM_begun_11 flM_82 (by assumption) (by assumption) ?_
    refine zx_iconst (v := nI 4) dM_begun_14 (by decide) ?_
    refine zx_iload_n dM_begun_15 rfl ?_
    refine zn_imul dM_begun_16 ?_
    refine zn_icmp_ne (tgt := 31) dM_begun_17 rfl (by omega) (by omega) (fun h17 => ?_) (fun h17 => ?_)
    · refine zx_iconst (v := nI 0) dM_begun_31 (by decide) ?_
      exact zx_zret hE rfl (by first | decide | exact bI_nar _) dM_begun_32 rfl (Nat.le_of_ble_eq_true rfl) ⟨by unfold begB; first | (rw [decide_eq_true (by omega)]; rfl) | (rw [decide_eq_false (by omega)]; rfl), rfl, rfl⟩
    · refine zx_aload_n dM_begun_20 rfl ?_
      refine zx_get dM_begun_21 flM_101 (by assumption) (by assumption) ?_
      refine zn_if_le (tgt := 31) dM_begun_24 rfl (by omega) (fun h24 => ?_) (fun h24 => ?_)
      · refine zx_iconst (v := nI 0) dM_begun_31 (by decide) ?_
        exact zx_zret hE rfl (by first | decide | exact bI_nar _) dM_begun_32 rfl (Nat.le_of_ble_eq_true rfl) ⟨by unfold begB; first | (rw [decide_eq_true (by omega)]; rfl) | (rw [decide_eq_false (by omega)]; rfl), rfl, rfl⟩
      · refine zx_iconst (v := nI 1) dM_begun_27 (by decide) ?_
        refine zx_goto (tgt := 32) dM_begun_28 rfl ?_
        exact zx_zret hE rfl (by first | decide | exact bI_nar _) dM_begun_32 rfl (Nat.le_of_ble_eq_true rfl) ⟨by unfold begB; first | (rw [decide_eq_true (by omega)]; rfl) | (rw [decide_eq_false (by omega)]; rfl), rfl, rfl⟩

set_option maxHeartbeats 4000000 in
set_option maxRecDepth 100000 in
theorem kM_live (G : zG) (d : Nat) (hd : 1 ≤ d) {n : Nat} {sh : zSh} {row : zRw} {m : Nat} {A : Nat × (Nat → Nat)} {B : Nat × Nat × Nat × Nat} {P : (Nat → Int32) × (Nat → Int32) × (Nat → Bool) × (Nat → Nat) × (Nat → Nat)} {T : (Nat → Nat) × (Nat → Nat) × (Nat → Nat)} {S : (Nat → Nat) × (Nat → Bool)} {H : (Nat → Bool) × (Nat → Nat) × (Nat → Nat) × (Nat → Nat)} (hM : MA sh row m A B P T S H) {g : Nat} (hg : g < 900) (hmd : B.1 ≤ 24) (hpb : B.2.1 ≤ 24) (hdn : B.2.2.1 ≤ 24) : zM G (fM_live d) [.ref m, .int (nI g)] n sh row (zP sh row (.int (bI (livM B g)))) := by
  refine zM.of (by show plainName "PostIndexModel" = true; decide +kernel) (Nat.le_of_ble_eq_true rfl) (by intro v hv; simp at hv; rcases hv with rfl | rfl <;> rfl) ?_
  intro K hE
  show zX G K (fM_live d) n 0 0 sh row 0 [.ref m, .int (nI g)] []
  have hD : d - 1 + 1 ≤ d := by omega
  obtain ⟨⟨go, g_dr, g_au, g_ti, g_er, g_ln, g_tx, g_tk, g_fr, g_to, g_rw, g_pk, g_tn, g_bd, g_ql, g_qy, g_any, g_all, g_pa, g_mi, g_wf, g_wt⟩, ⟨p_dr, p_au, p_ti, p_er, p_ln, p_tx, p_tk, p_fr, p_to, p_rw, p_pk, p_tn, p_bd, p_ql, p_qy, p_any, p_all, p_pa, p_mi, p_wf, p_wt⟩, ⟨f_dl, f_md, f_pb, f_dn, f_sn⟩, a_dr, a_au, a_ti, a_er, a_ln, a_tx, a_tk, a_fr, a_to, a_rw, a_pk, a_tn, a_bd, a_ql, a_qy⟩ := id hM
  refine zx_aload_n dM_live_0 rfl ?_
  refine zx_iload_n dM_live_1 rfl ?_
  refine zc_V (n0 := n) (ce := 0) (kM_begun G (d - 1) (by omega) hM (g := g) (by omega) hmd hpb hdn) (meM_begun _) lkM_104 go rfl rfl hD (Nat.le_of_ble_eq_true rfl) rfl rfl (Nat.le_of_ble_eq_true rfl) (Nat.le_of_ble_eq_true rfl) (Nat.le_of_ble_eq_true rfl) dM_live_2 ?_
  refine zb_if_eq (tgt := 22) dM_live_5 rfl (fun h5 => ?_) (fun h5 => ?_)
  · refine zx_iconst (v := nI 0) dM_live_22 (by decide) ?_
    exact zx_zret hE rfl (by first | decide | exact bI_nar _) dM_live_23 rfl (Nat.le_of_ble_eq_true rfl) ⟨by unfold livM; first | (rw [h5]; rfl) | (rw [h5, h15]; rfl), rfl, rfl⟩
  · refine zx_aload_n dM_live_8 rfl ?_
    refine zx_iload_n dM_live_9 rfl ?_
    refine zx_iconst (v := nI 3) dM_live_10 (by decide) ?_
    refine zn_iadd dM_live_11 ?_
    refine zc_V (n0 := n) (ce := 0) (kM_begun G (d - 1) (by omega) hM (g := g + 3) (by omega) hmd hpb hdn) (meM_begun _) lkM_104 go rfl rfl hD (Nat.le_of_ble_eq_true rfl) rfl rfl (Nat.le_of_ble_eq_true rfl) (Nat.le_of_ble_eq_true rfl) (Nat.le_of_ble_eq_true rfl) dM_live_12 ?_
    refine zb_if_ne (tgt := 22) dM_live_15 rfl (fun h15 => ?_) (fun h15 => ?_)
    · refine zx_iconst (v := nI 0) dM_live_22 (by decide) ?_
      exact zx_zret hE rfl (by first | decide | exact bI_nar _) dM_live_23 rfl (Nat.le_of_ble_eq_true rfl) ⟨by unfold livM; first | (rw [h5]; rfl) | (rw [h5, h15]; rfl), rfl, rfl⟩
    · refine zx_iconst (v := nI 1) dM_live_18 (by decide) ?_
      refine zx_goto (tgt := 23) dM_live_19 rfl ?_
      exact zx_zret hE rfl (by first | decide | exact bI_nar _) dM_live_23 rfl (Nat.le_of_ble_eq_true rfl) ⟨by unfold livM; first | (rw [h5]; rfl) | (rw [h5, h15]; rfl), rfl, rfl⟩

set_option maxHeartbeats 4000000 in
set_option maxRecDepth 100000 in
theorem kM_full (G : zG) (d : Nat) (hd : 0 ≤ d) {n : Nat} {sh : zSh} {row : zRw} {m : Nat} {A : Nat × (Nat → Nat)} {B : Nat × Nat × Nat × Nat} {P : (Nat → Int32) × (Nat → Int32) × (Nat → Bool) × (Nat → Nat) × (Nat → Nat)} {T : (Nat → Nat) × (Nat → Nat) × (Nat → Nat)} {S : (Nat → Nat) × (Nat → Bool)} {H : (Nat → Bool) × (Nat → Nat) × (Nat → Nat) × (Nat → Nat)} (hM : MA sh row m A B P T S H) {g : Nat} (hg : g < 1000) (hmd : B.1 ≤ 24) (hpb : B.2.1 ≤ 24) (hdn : B.2.2.1 ≤ 24) : zM G (fM_full d) [.ref m, .int (nI g)] n sh row (zP sh row (.int (bI (fullB B.2.1 g)))) := by
  refine zM.of (by show plainName "PostIndexModel" = true; decide +kernel) (Nat.le_of_ble_eq_true rfl) (by intro v hv; simp at hv; rcases hv with rfl | rfl <;> rfl) ?_
  intro K hE
  show zX G K (fM_full d) n 0 0 sh row 0 [.ref m, .int (nI g)] []
  obtain ⟨⟨go, g_dr, g_au, g_ti, g_er, g_ln, g_tx, g_tk, g_fr, g_to, g_rw, g_pk, g_tn, g_bd, g_ql, g_qy, g_any, g_all, g_pa, g_mi, g_wf, g_wt⟩, ⟨p_dr, p_au, p_ti, p_er, p_ln, p_tx, p_tk, p_fr, p_to, p_rw, p_pk, p_tn, p_bd, p_ql, p_qy, p_any, p_all, p_pa, p_mi, p_wf, p_wt⟩, ⟨f_dl, f_md, f_pb, f_dn, f_sn⟩, a_dr, a_au, a_ti, a_er, a_ln, a_tx, a_tk, a_fr, a_to, a_rw, a_pk, a_tn, a_bd, a_ql, a_qy⟩ := id hM
  refine zx_aload_n dM_full_0 rfl ?_
  refine zx_get dM_full_1 flM_82 (by assumption) (by assumption) ?_
  refine zx_iconst (v := nI 4) dM_full_4 (by decide) ?_
  refine zx_iload_n dM_full_5 rfl ?_
  refine zn_imul dM_full_6 ?_
  refine zx_iconst (v := nI 4) dM_full_7 (by decide) ?_
  refine zn_iadd dM_full_8 ?_
  refine zn_icmp_lt (tgt := 16) dM_full_9 rfl (by omega) (by omega) (fun h9 => ?_) (fun h9 => ?_)
  · refine zx_iconst (v := nI 0) dM_full_16 (by decide) ?_
    exact zx_zret hE rfl (by first | decide | exact bI_nar _) dM_full_17 rfl (Nat.le_of_ble_eq_true rfl) ⟨by unfold fullB; first | (rw [decide_eq_true (by omega)]; rfl) | (rw [decide_eq_false (by omega)]; rfl), rfl, rfl⟩
  · refine zx_iconst (v := nI 1) dM_full_12 (by decide) ?_
    refine zx_goto (tgt := 17) dM_full_13 rfl ?_
    exact zx_zret hE rfl (by first | decide | exact bI_nar _) dM_full_17 rfl (Nat.le_of_ble_eq_true rfl) ⟨by unfold fullB; first | (rw [decide_eq_true (by omega)]; rfl) | (rw [decide_eq_false (by omega)]; rfl), rfl, rfl⟩

set_option maxHeartbeats 4000000 in
set_option maxRecDepth 100000 in
theorem kM_shown (G : zG) (d : Nat) (hd : 2 ≤ d) {n : Nat} {sh : zSh} {row : zRw} {m : Nat} {A : Nat × (Nat → Nat)} {B : Nat × Nat × Nat × Nat} {P : (Nat → Int32) × (Nat → Int32) × (Nat → Bool) × (Nat → Nat) × (Nat → Nat)} {T : (Nat → Nat) × (Nat → Nat) × (Nat → Nat)} {S : (Nat → Nat) × (Nat → Bool)} {H : (Nat → Bool) × (Nat → Nat) × (Nat → Nat) × (Nat → Nat)} (hM : MA sh row m A B P T S H) {j : Nat} (hj : j < 2147483648) (hmd : B.1 ≤ 24) (hpb : B.2.1 ≤ 24) (hdn : B.2.2.1 ≤ 24) : zM G (fM_shown d) [.ref m, .int (nI j)] n sh row (zP sh row (.int (bI (shoB B P.2.2.1 j)))) := by
  refine zM.of (by show plainName "PostIndexModel" = true; decide +kernel) (Nat.le_of_ble_eq_true rfl) (by intro v hv; simp at hv; rcases hv with rfl | rfl <;> rfl) ?_
  intro K hE
  show zX G K (fM_shown d) n 0 0 sh row 0 [.ref m, .int (nI j)] []
  have hD : d - 1 + 1 ≤ d := by omega
  obtain ⟨⟨go, g_dr, g_au, g_ti, g_er, g_ln, g_tx, g_tk, g_fr, g_to, g_rw, g_pk, g_tn, g_bd, g_ql, g_qy, g_any, g_all, g_pa, g_mi, g_wf, g_wt⟩, ⟨p_dr, p_au, p_ti, p_er, p_ln, p_tx, p_tk, p_fr, p_to, p_rw, p_pk, p_tn, p_bd, p_ql, p_qy, p_any, p_all, p_pa, p_mi, p_wf, p_wt⟩, ⟨f_dl, f_md, f_pb, f_dn, f_sn⟩, a_dr, a_au, a_ti, a_er, a_ln, a_tx, a_tk, a_fr, a_to, a_rw, a_pk, a_tn, a_bd, a_ql, a_qy⟩ := id hM
  refine zx_iload_n dM_shown_0 rfl ?_
  refine zn_if_lt (tgt := 35) dM_shown_1 rfl (by omega) ?_
  refine zx_iload_n dM_shown_4 rfl ?_
  refine zx_aload_n dM_shown_5 rfl ?_
  refine zx_get dM_shown_6 flM_82 (by assumption) (by assumption) ?_
  refine zn_icmp_ge (tgt := 35) dM_shown_9 rfl (by omega) (by omega) (fun h9 => ?_) (fun h9 => ?_)
  · refine zx_iconst (v := nI 0) dM_shown_35 (by decide) ?_
    exact zx_zret hE rfl (by first | decide | exact bI_nar _) dM_shown_36 rfl (Nat.le_of_ble_eq_true rfl) ⟨by unfold shoB; first | (rw [decide_eq_false (by omega)]; rfl) | (rw [decide_eq_true (by omega), h19]; rfl) | (rw [decide_eq_true (by omega), h19, h28]; rfl), rfl, rfl⟩
  · refine zx_aload_n dM_shown_12 rfl ?_
    refine zx_iload_n dM_shown_13 rfl ?_
    refine zx_iconst (v := nI 4) dM_shown_14 (by decide) ?_
    refine zn_idiv dM_shown_15 (by omega) (by omega) (by omega) ?_
    refine zc_V (n0 := n) (ce := 0) (kM_live G (d - 1) (by omega) hM (g := j / 4) (by omega) hmd hpb hdn) (meM_live _) lkM_85 go rfl rfl hD (Nat.le_of_ble_eq_true rfl) rfl rfl (Nat.le_of_ble_eq_true rfl) (Nat.le_of_ble_eq_true rfl) (Nat.le_of_ble_eq_true rfl) dM_shown_16 ?_
    refine zb_if_eq (tgt := 35) dM_shown_19 rfl (fun h19 => ?_) (fun h19 => ?_)
    · refine zx_iconst (v := nI 0) dM_shown_35 (by decide) ?_
      exact zx_zret hE rfl (by first | decide | exact bI_nar _) dM_shown_36 rfl (Nat.le_of_ble_eq_true rfl) ⟨by unfold shoB; first | (rw [decide_eq_false (by omega)]; rfl) | (rw [decide_eq_true (by omega), h19]; rfl) | (rw [decide_eq_true (by omega), h19, h28]; rfl), rfl, rfl⟩
    · refine zx_aload_n dM_shown_22 rfl ?_
      refine zx_get dM_shown_23 flM_19 (by assumption) (by assumption) ?_
      refine zx_iload_n dM_shown_26 rfl ?_
      refine zn_zald dM_shown_27 g_er rfl (by omega) (by decide) (a_er j (by omega)) ?_
      refine zb_if_ne (tgt := 35) dM_shown_28 rfl (fun h28 => ?_) (fun h28 => ?_)
      · refine zx_iconst (v := nI 0) dM_shown_35 (by decide) ?_
        exact zx_zret hE rfl (by first | decide | exact bI_nar _) dM_shown_36 rfl (Nat.le_of_ble_eq_true rfl) ⟨by unfold shoB; first | (rw [decide_eq_false (by omega)]; rfl) | (rw [decide_eq_true (by omega), h19]; rfl) | (rw [decide_eq_true (by omega), h19, h28]; rfl), rfl, rfl⟩
      · refine zx_iconst (v := nI 1) dM_shown_31 (by decide) ?_
        refine zx_goto (tgt := 36) dM_shown_32 rfl ?_
        exact zx_zret hE rfl (by first | decide | exact bI_nar _) dM_shown_36 rfl (Nat.le_of_ble_eq_true rfl) ⟨by unfold shoB; first | (rw [decide_eq_false (by omega)]; rfl) | (rw [decide_eq_true (by omega), h19]; rfl) | (rw [decide_eq_true (by omega), h19, h28]; rfl), rfl, rfl⟩

set_option maxHeartbeats 4000000 in
set_option maxRecDepth 100000 in
theorem kM_indexed (G : zG) (d : Nat) (hd : 0 ≤ d) {n : Nat} {sh : zSh} {row : zRw} {m : Nat} {A : Nat × (Nat → Nat)} {B : Nat × Nat × Nat × Nat} {P : (Nat → Int32) × (Nat → Int32) × (Nat → Bool) × (Nat → Nat) × (Nat → Nat)} {T : (Nat → Nat) × (Nat → Nat) × (Nat → Nat)} {S : (Nat → Nat) × (Nat → Bool)} {H : (Nat → Bool) × (Nat → Nat) × (Nat → Nat) × (Nat → Nat)} (hM : MA sh row m A B P T S H) {j : Nat} (hj : j < 24) (hmd : B.1 ≤ 24) (hpb : B.2.1 ≤ 24) (hdn : B.2.2.1 ≤ 24) : zM G (fM_indexed d) [.ref m, .int (nI j)] n sh row (zP sh row (.int (nI (idxN B T.1 j)))) := by
  refine zM.of (by show plainName "PostIndexModel" = true; decide +kernel) (Nat.le_of_ble_eq_true rfl) (by intro v hv; simp at hv; rcases hv with rfl | rfl <;> rfl) ?_
  intro K hE
  show zX G K (fM_indexed d) n 0 0 sh row 0 [.ref m, .int (nI j)] []
  obtain ⟨⟨go, g_dr, g_au, g_ti, g_er, g_ln, g_tx, g_tk, g_fr, g_to, g_rw, g_pk, g_tn, g_bd, g_ql, g_qy, g_any, g_all, g_pa, g_mi, g_wf, g_wt⟩, ⟨p_dr, p_au, p_ti, p_er, p_ln, p_tx, p_tk, p_fr, p_to, p_rw, p_pk, p_tn, p_bd, p_ql, p_qy, p_any, p_all, p_pa, p_mi, p_wf, p_wt⟩, ⟨f_dl, f_md, f_pb, f_dn, f_sn⟩, a_dr, a_au, a_ti, a_er, a_ln, a_tx, a_tk, a_fr, a_to, a_rw, a_pk, a_tn, a_bd, a_ql, a_qy⟩ := id hM
  refine zx_iload_n dM_indexed_0 rfl ?_
  refine zx_aload_n dM_indexed_1 rfl ?_
  refine zx_get dM_indexed_2 flM_82 (by assumption) (by assumption) ?_
  refine zn_icmp_ge (tgt := 17) dM_indexed_5 rfl (by omega) (by omega) (fun h5 => ?_) (fun h5 => ?_)
  · refine zx_iload_n dM_indexed_17 rfl ?_
    refine zx_aload_n dM_indexed_18 rfl ?_
    refine zx_get dM_indexed_19 flM_82 (by assumption) (by assumption) ?_
    refine zn_icmp_ne (tgt := 40) dM_indexed_22 rfl (by omega) (by omega) (fun h22 => ?_) (fun h22 => ?_)
    · refine zx_iconst (v := nI 0) dM_indexed_40 (by decide) ?_
      exact zx_iret hE rfl dM_indexed_41 rfl (Nat.le_of_ble_eq_true rfl) ⟨by unfold idxN; first | rw [if_pos (by omega)] | rw [if_neg (by omega), if_pos (by omega)] | rw [if_neg (by omega), if_neg (by omega)], rfl, rfl⟩
    · refine zx_iload_n dM_indexed_25 rfl ?_
      refine zx_aload_n dM_indexed_26 rfl ?_
      refine zx_get dM_indexed_27 flM_91 (by assumption) (by assumption) ?_
      refine zn_icmp_ge (tgt := 40) dM_indexed_30 rfl (by omega) (by omega) (fun h30 => ?_) (fun h30 => ?_)
      · refine zx_iconst (v := nI 0) dM_indexed_40 (by decide) ?_
        exact zx_iret hE rfl dM_indexed_41 rfl (Nat.le_of_ble_eq_true rfl) ⟨by unfold idxN; first | rw [if_pos (by omega)] | rw [if_neg (by omega), if_pos (by omega)] | rw [if_neg (by omega), if_neg (by omega)], rfl, rfl⟩
      · refine zx_aload_n dM_indexed_33 rfl ?_
        refine zx_get dM_indexed_34 flM_101 (by assumption) (by assumption) ?_
        refine zx_goto (tgt := 41) dM_indexed_37 rfl ?_
        exact zx_iret hE rfl dM_indexed_41 rfl (Nat.le_of_ble_eq_true rfl) ⟨by unfold idxN; first | rw [if_pos (by omega)] | rw [if_neg (by omega), if_pos (by omega)] | rw [if_neg (by omega), if_neg (by omega)], rfl, rfl⟩
  · refine zx_aload_n dM_indexed_8 rfl ?_
    refine zx_get dM_indexed_9 flM_29 (by assumption) (by assumption) ?_
    refine zx_iload_n dM_indexed_12 rfl ?_
    refine zn_iald dM_indexed_13 g_tk rfl (by omega) (by decide) (a_tk j (by omega)) ?_
    refine zx_goto (tgt := 41) dM_indexed_14 rfl ?_
    exact zx_iret hE rfl dM_indexed_41 rfl (Nat.le_of_ble_eq_true rfl) ⟨by unfold idxN; first | rw [if_pos (by omega)] | rw [if_neg (by omega), if_pos (by omega)] | rw [if_neg (by omega), if_neg (by omega)], rfl, rfl⟩

set_option maxHeartbeats 4000000 in
set_option maxRecDepth 100000 in
theorem kM_searching (G : zG) (d : Nat) (hd : 0 ≤ d) {n : Nat} {sh : zSh} {row : zRw} {m : Nat} {A : Nat × (Nat → Nat)} {B : Nat × Nat × Nat × Nat} {P : (Nat → Int32) × (Nat → Int32) × (Nat → Bool) × (Nat → Nat) × (Nat → Nat)} {T : (Nat → Nat) × (Nat → Nat) × (Nat → Nat)} {S : (Nat → Nat) × (Nat → Bool)} {H : (Nat → Bool) × (Nat → Nat) × (Nat → Nat) × (Nat → Nat)} (hM : MA sh row m A B P T S H) {j : Nat} (hj : j < 2147483648) : zM G (fM_searching d) [.ref m, .int (nI j)] n sh row (zP sh row (.int (bI (decide (j < 3) && H.1 j)))) := by
  refine zM.of (by show plainName "PostIndexModel" = true; decide +kernel) (Nat.le_of_ble_eq_true rfl) (by intro v hv; simp at hv; rcases hv with rfl | rfl <;> rfl) ?_
  intro K hE
  show zX G K (fM_searching d) n 0 0 sh row 0 [.ref m, .int (nI j)] []
  obtain ⟨⟨go, g_dr, g_au, g_ti, g_er, g_ln, g_tx, g_tk, g_fr, g_to, g_rw, g_pk, g_tn, g_bd, g_ql, g_qy, g_any, g_all, g_pa, g_mi, g_wf, g_wt⟩, ⟨p_dr, p_au, p_ti, p_er, p_ln, p_tx, p_tk, p_fr, p_to, p_rw, p_pk, p_tn, p_bd, p_ql, p_qy, p_any, p_all, p_pa, p_mi, p_wf, p_wt⟩, ⟨f_dl, f_md, f_pb, f_dn, f_sn⟩, a_dr, a_au, a_ti, a_er, a_ln, a_tx, a_tk, a_fr, a_to, a_rw, a_pk, a_tn, a_bd, a_ql, a_qy⟩ := id hM
  refine zx_iload_n dM_searching_0 rfl ?_
  refine zn_if_lt (tgt := 22) dM_searching_1 rfl (by omega) ?_
  refine zx_iload_n dM_searching_4 rfl ?_
  refine zx_iconst (v := nI 3) dM_searching_5 (by decide) ?_
  refine zn_icmp_ge (tgt := 22) dM_searching_6 rfl (by omega) (by omega) (fun h6 => ?_) (fun h6 => ?_)
  · refine zx_iconst (v := nI 0) dM_searching_22 (by decide) ?_
    exact zx_zret hE rfl (by first | decide | exact bI_nar _) dM_searching_23 rfl (Nat.le_of_ble_eq_true rfl) ⟨by first | (rw [decide_eq_false (by omega)]; rfl) | (rw [decide_eq_true (by omega), h15]; rfl), rfl, rfl⟩
  · refine zx_aload_n dM_searching_9 rfl ?_
    refine zx_get dM_searching_10 flM_44 (by assumption) (by assumption) ?_
    refine zx_iload_n dM_searching_13 rfl ?_
    refine zn_zald dM_searching_14 g_tn rfl (by omega) (by decide) (a_tn j (by omega)) ?_
    refine zb_if_eq (tgt := 22) dM_searching_15 rfl (fun h15 => ?_) (fun h15 => ?_)
    · refine zx_iconst (v := nI 0) dM_searching_22 (by decide) ?_
      exact zx_zret hE rfl (by first | decide | exact bI_nar _) dM_searching_23 rfl (Nat.le_of_ble_eq_true rfl) ⟨by first | (rw [decide_eq_false (by omega)]; rfl) | (rw [decide_eq_true (by omega), h15]; rfl), rfl, rfl⟩
    · refine zx_iconst (v := nI 1) dM_searching_18 (by decide) ?_
      refine zx_goto (tgt := 23) dM_searching_19 rfl ?_
      exact zx_zret hE rfl (by first | decide | exact bI_nar _) dM_searching_23 rfl (Nat.le_of_ble_eq_true rfl) ⟨by first | (rw [decide_eq_false (by omega)]; rfl) | (rw [decide_eq_true (by omega), h15]; rfl), rfl, rfl⟩

set_option maxHeartbeats 4000000 in
set_option maxRecDepth 100000 in
theorem kM_lives (G : zG) (d : Nat) (hd : 2 ≤ d) {n : Nat} {sh : zSh} {row : zRw} {m : Nat} {A : Nat × (Nat → Nat)} {B : Nat × Nat × Nat × Nat} {P : (Nat → Int32) × (Nat → Int32) × (Nat → Bool) × (Nat → Nat) × (Nat → Nat)} {T : (Nat → Nat) × (Nat → Nat) × (Nat → Nat)} {S : (Nat → Nat) × (Nat → Bool)} {H : (Nat → Bool) × (Nat → Nat) × (Nat → Nat) × (Nat → Nat)} (hM : MA sh row m A B P T S H) {j : Nat} (hj : j < 2147483648) (hmd : B.1 ≤ 24) (hpb : B.2.1 ≤ 24) (hdn : B.2.2.1 ≤ 24) : zM G (fM_lives d) [.ref m, .int (nI j)] n sh row (zP sh row (.int (bI (decide (j ≤ 5) && livM B j)))) := by
  refine zM.of (by show plainName "PostIndexModel" = true; decide +kernel) (Nat.le_of_ble_eq_true rfl) (by intro v hv; simp at hv; rcases hv with rfl | rfl <;> rfl) ?_
  intro K hE
  show zX G K (fM_lives d) n 0 0 sh row 0 [.ref m, .int (nI j)] []
  have hD : d - 1 + 1 ≤ d := by omega
  obtain ⟨⟨go, g_dr, g_au, g_ti, g_er, g_ln, g_tx, g_tk, g_fr, g_to, g_rw, g_pk, g_tn, g_bd, g_ql, g_qy, g_any, g_all, g_pa, g_mi, g_wf, g_wt⟩, ⟨p_dr, p_au, p_ti, p_er, p_ln, p_tx, p_tk, p_fr, p_to, p_rw, p_pk, p_tn, p_bd, p_ql, p_qy, p_any, p_all, p_pa, p_mi, p_wf, p_wt⟩, ⟨f_dl, f_md, f_pb, f_dn, f_sn⟩, a_dr, a_au, a_ti, a_er, a_ln, a_tx, a_tk, a_fr, a_to, a_rw, a_pk, a_tn, a_bd, a_ql, a_qy⟩ := id hM
  refine zx_iload_n dM_lives_0 rfl ?_
  refine zn_if_lt (tgt := 21) dM_lives_1 rfl (by omega) ?_
  refine zx_iload_n dM_lives_4 rfl ?_
  refine zx_iconst (v := nI 5) dM_lives_5 (by decide) ?_
  refine zn_icmp_gt (tgt := 21) dM_lives_6 rfl (by omega) (by omega) (fun h6 => ?_) (fun h6 => ?_)
  · refine zx_iconst (v := nI 0) dM_lives_21 (by decide) ?_
    exact zx_zret hE rfl (by first | decide | exact bI_nar _) dM_lives_22 rfl (Nat.le_of_ble_eq_true rfl) ⟨by first | (rw [decide_eq_false (by omega)]; rfl) | (rw [decide_eq_true (by omega), h14]; rfl), rfl, rfl⟩
  · refine zx_aload_n dM_lives_9 rfl ?_
    refine zx_iload_n dM_lives_10 rfl ?_
    refine zc_V (n0 := n) (ce := 0) (kM_live G (d - 1) (by omega) hM (by omega) hmd hpb hdn) (meM_live _) lkM_85 go rfl rfl hD (Nat.le_of_ble_eq_true rfl) rfl rfl (Nat.le_of_ble_eq_true rfl) (Nat.le_of_ble_eq_true rfl) (Nat.le_of_ble_eq_true rfl) dM_lives_11 ?_
    refine zb_if_eq (tgt := 21) dM_lives_14 rfl (fun h14 => ?_) (fun h14 => ?_)
    · refine zx_iconst (v := nI 0) dM_lives_21 (by decide) ?_
      exact zx_zret hE rfl (by first | decide | exact bI_nar _) dM_lives_22 rfl (Nat.le_of_ble_eq_true rfl) ⟨by first | (rw [decide_eq_false (by omega)]; rfl) | (rw [decide_eq_true (by omega), h14]; rfl), rfl, rfl⟩
    · refine zx_iconst (v := nI 1) dM_lives_17 (by decide) ?_
      refine zx_goto (tgt := 22) dM_lives_18 rfl ?_
      exact zx_zret hE rfl (by first | decide | exact bI_nar _) dM_lives_22 rfl (Nat.le_of_ble_eq_true rfl) ⟨by first | (rw [decide_eq_false (by omega)]; rfl) | (rw [decide_eq_true (by omega), h14]; rfl), rfl, rfl⟩

set_option maxHeartbeats 4000000 in
set_option maxRecDepth 100000 in
theorem kM_shownN (G : zG) (d : Nat) (hd : 0 ≤ d) {n : Nat} {sh : zSh} {row : zRw} {m : Nat} {A : Nat × (Nat → Nat)} {B : Nat × Nat × Nat × Nat} {P : (Nat → Int32) × (Nat → Int32) × (Nat → Bool) × (Nat → Nat) × (Nat → Nat)} {T : (Nat → Nat) × (Nat → Nat) × (Nat → Nat)} {S : (Nat → Nat) × (Nat → Bool)} {H : (Nat → Bool) × (Nat → Nat) × (Nat → Nat) × (Nat → Nat)} (hM : MA sh row m A B P T S H) {v : Int32} (hv : v < 0) : zM G (fM_shown d) [.ref m, .int v] n sh row (zP sh row (.int (bI false))) := by
  refine zM.of (by show plainName "PostIndexModel" = true; decide +kernel) (Nat.le_of_ble_eq_true rfl) (by intro v hv; simp at hv; rcases hv with rfl | rfl <;> rfl) ?_
  intro K hE
  show zX G K (fM_shown d) n 0 0 sh row 0 [.ref m, .int v] []
  obtain ⟨⟨go, g_dr, g_au, g_ti, g_er, g_ln, g_tx, g_tk, g_fr, g_to, g_rw, g_pk, g_tn, g_bd, g_ql, g_qy, g_any, g_all, g_pa, g_mi, g_wf, g_wt⟩, ⟨p_dr, p_au, p_ti, p_er, p_ln, p_tx, p_tk, p_fr, p_to, p_rw, p_pk, p_tn, p_bd, p_ql, p_qy, p_any, p_all, p_pa, p_mi, p_wf, p_wt⟩, ⟨f_dl, f_md, f_pb, f_dn, f_sn⟩, a_dr, a_au, a_ti, a_er, a_ln, a_tx, a_tk, a_fr, a_to, a_rw, a_pk, a_tn, a_bd, a_ql, a_qy⟩ := id hM
  refine zx_iload_n dM_shown_0 rfl ?_
  refine zx_if_lt (tgt := 35) dM_shown_1 rfl (fun h1 => ?_) (fun h1 => ?_)
  · refine zx_iconst (v := nI 0) dM_shown_35 (by decide) ?_
    exact zx_zret hE rfl (by first | decide | exact bI_nar _) dM_shown_36 rfl (Nat.le_of_ble_eq_true rfl) ⟨rfl, rfl, rfl⟩
  · exact absurd hv h1

set_option maxHeartbeats 4000000 in
set_option maxRecDepth 100000 in
theorem kM_searchingN (G : zG) (d : Nat) (hd : 0 ≤ d) {n : Nat} {sh : zSh} {row : zRw} {m : Nat} {A : Nat × (Nat → Nat)} {B : Nat × Nat × Nat × Nat} {P : (Nat → Int32) × (Nat → Int32) × (Nat → Bool) × (Nat → Nat) × (Nat → Nat)} {T : (Nat → Nat) × (Nat → Nat) × (Nat → Nat)} {S : (Nat → Nat) × (Nat → Bool)} {H : (Nat → Bool) × (Nat → Nat) × (Nat → Nat) × (Nat → Nat)} (hM : MA sh row m A B P T S H) {v : Int32} (hv : v < 0) : zM G (fM_searching d) [.ref m, .int v] n sh row (zP sh row (.int (bI false))) := by
  refine zM.of (by show plainName "PostIndexModel" = true; decide +kernel) (Nat.le_of_ble_eq_true rfl) (by intro v hv; simp at hv; rcases hv with rfl | rfl <;> rfl) ?_
  intro K hE
  show zX G K (fM_searching d) n 0 0 sh row 0 [.ref m, .int v] []
  obtain ⟨⟨go, g_dr, g_au, g_ti, g_er, g_ln, g_tx, g_tk, g_fr, g_to, g_rw, g_pk, g_tn, g_bd, g_ql, g_qy, g_any, g_all, g_pa, g_mi, g_wf, g_wt⟩, ⟨p_dr, p_au, p_ti, p_er, p_ln, p_tx, p_tk, p_fr, p_to, p_rw, p_pk, p_tn, p_bd, p_ql, p_qy, p_any, p_all, p_pa, p_mi, p_wf, p_wt⟩, ⟨f_dl, f_md, f_pb, f_dn, f_sn⟩, a_dr, a_au, a_ti, a_er, a_ln, a_tx, a_tk, a_fr, a_to, a_rw, a_pk, a_tn, a_bd, a_ql, a_qy⟩ := id hM
  refine zx_iload_n dM_searching_0 rfl ?_
  refine zx_if_lt (tgt := 22) dM_searching_1 rfl (fun h1 => ?_) (fun h1 => ?_)
  · refine zx_iconst (v := nI 0) dM_searching_22 (by decide) ?_
    exact zx_zret hE rfl (by first | decide | exact bI_nar _) dM_searching_23 rfl (Nat.le_of_ble_eq_true rfl) ⟨rfl, rfl, rfl⟩
  · exact absurd hv h1

set_option maxHeartbeats 4000000 in
set_option maxRecDepth 100000 in
theorem kM_livesN (G : zG) (d : Nat) (hd : 0 ≤ d) {n : Nat} {sh : zSh} {row : zRw} {m : Nat} {A : Nat × (Nat → Nat)} {B : Nat × Nat × Nat × Nat} {P : (Nat → Int32) × (Nat → Int32) × (Nat → Bool) × (Nat → Nat) × (Nat → Nat)} {T : (Nat → Nat) × (Nat → Nat) × (Nat → Nat)} {S : (Nat → Nat) × (Nat → Bool)} {H : (Nat → Bool) × (Nat → Nat) × (Nat → Nat) × (Nat → Nat)} (hM : MA sh row m A B P T S H) {v : Int32} (hv : v < 0) : zM G (fM_lives d) [.ref m, .int v] n sh row (zP sh row (.int (bI false))) := by
  refine zM.of (by show plainName "PostIndexModel" = true; decide +kernel) (Nat.le_of_ble_eq_true rfl) (by intro v hv; simp at hv; rcases hv with rfl | rfl <;> rfl) ?_
  intro K hE
  show zX G K (fM_lives d) n 0 0 sh row 0 [.ref m, .int v] []
  obtain ⟨⟨go, g_dr, g_au, g_ti, g_er, g_ln, g_tx, g_tk, g_fr, g_to, g_rw, g_pk, g_tn, g_bd, g_ql, g_qy, g_any, g_all, g_pa, g_mi, g_wf, g_wt⟩, ⟨p_dr, p_au, p_ti, p_er, p_ln, p_tx, p_tk, p_fr, p_to, p_rw, p_pk, p_tn, p_bd, p_ql, p_qy, p_any, p_all, p_pa, p_mi, p_wf, p_wt⟩, ⟨f_dl, f_md, f_pb, f_dn, f_sn⟩, a_dr, a_au, a_ti, a_er, a_ln, a_tx, a_tk, a_fr, a_to, a_rw, a_pk, a_tn, a_bd, a_ql, a_qy⟩ := id hM
  refine zx_iload_n dM_lives_0 rfl ?_
  refine zx_if_lt (tgt := 21) dM_lives_1 rfl (fun h1 => ?_) (fun h1 => ?_)
  · refine zx_iconst (v := nI 0) dM_lives_21 (by decide) ?_
    exact zx_zret hE rfl (by first | decide | exact bI_nar _) dM_lives_22 rfl (Nat.le_of_ble_eq_true rfl) ⟨rfl, rfl, rfl⟩
  · exact absurd hv h1

set_option maxHeartbeats 4000000 in
set_option maxRecDepth 100000 in
theorem kM_length (G : zG) (d : Nat) (hd : 0 ≤ d) {n : Nat} {sh : zSh} {row : zRw} {m : Nat} {A : Nat × (Nat → Nat)} {B : Nat × Nat × Nat × Nat} {P : (Nat → Int32) × (Nat → Int32) × (Nat → Bool) × (Nat → Nat) × (Nat → Nat)} {T : (Nat → Nat) × (Nat → Nat) × (Nat → Nat)} {S : (Nat → Nat) × (Nat → Bool)} {H : (Nat → Bool) × (Nat → Nat) × (Nat → Nat) × (Nat → Nat)} (hM : MA sh row m A B P T S H) : zM G (fM_length d) [.ref m] n sh row (zP sh row (.int (nI A.1))) := by
  refine zM.of (by show plainName "PostIndexModel" = true; decide +kernel) (Nat.le_of_ble_eq_true rfl) (by intro v hv; simp at hv; rcases hv with rfl <;> rfl) ?_
  intro K hE
  show zX G K (fM_length d) n 0 0 sh row 0 [.ref m] []
  obtain ⟨⟨go, g_dr, g_au, g_ti, g_er, g_ln, g_tx, g_tk, g_fr, g_to, g_rw, g_pk, g_tn, g_bd, g_ql, g_qy, g_any, g_all, g_pa, g_mi, g_wf, g_wt⟩, ⟨p_dr, p_au, p_ti, p_er, p_ln, p_tx, p_tk, p_fr, p_to, p_rw, p_pk, p_tn, p_bd, p_ql, p_qy, p_any, p_all, p_pa, p_mi, p_wf, p_wt⟩, ⟨f_dl, f_md, f_pb, f_dn, f_sn⟩, a_dr, a_au, a_ti, a_er, a_ln, a_tx, a_tk, a_fr, a_to, a_rw, a_pk, a_tn, a_bd, a_ql, a_qy⟩ := id hM
  refine zx_aload_n dM_length_0 rfl ?_
  refine zx_get dM_length_1 flM_78 (by assumption) (by assumption) ?_
  exact zx_iret hE rfl dM_length_4 rfl (Nat.le_of_ble_eq_true rfl) ⟨rfl, rfl, rfl⟩

set_option maxHeartbeats 4000000 in
set_option maxRecDepth 100000 in
theorem kM_published (G : zG) (d : Nat) (hd : 0 ≤ d) {n : Nat} {sh : zSh} {row : zRw} {m : Nat} {A : Nat × (Nat → Nat)} {B : Nat × Nat × Nat × Nat} {P : (Nat → Int32) × (Nat → Int32) × (Nat → Bool) × (Nat → Nat) × (Nat → Nat)} {T : (Nat → Nat) × (Nat → Nat) × (Nat → Nat)} {S : (Nat → Nat) × (Nat → Bool)} {H : (Nat → Bool) × (Nat → Nat) × (Nat → Nat) × (Nat → Nat)} (hM : MA sh row m A B P T S H) : zM G (fM_published d) [.ref m] n sh row (zP sh row (.int (nI B.2.1))) := by
  refine zM.of (by show plainName "PostIndexModel" = true; decide +kernel) (Nat.le_of_ble_eq_true rfl) (by intro v hv; simp at hv; rcases hv with rfl <;> rfl) ?_
  intro K hE
  show zX G K (fM_published d) n 0 0 sh row 0 [.ref m] []
  obtain ⟨⟨go, g_dr, g_au, g_ti, g_er, g_ln, g_tx, g_tk, g_fr, g_to, g_rw, g_pk, g_tn, g_bd, g_ql, g_qy, g_any, g_all, g_pa, g_mi, g_wf, g_wt⟩, ⟨p_dr, p_au, p_ti, p_er, p_ln, p_tx, p_tk, p_fr, p_to, p_rw, p_pk, p_tn, p_bd, p_ql, p_qy, p_any, p_all, p_pa, p_mi, p_wf, p_wt⟩, ⟨f_dl, f_md, f_pb, f_dn, f_sn⟩, a_dr, a_au, a_ti, a_er, a_ln, a_tx, a_tk, a_fr, a_to, a_rw, a_pk, a_tn, a_bd, a_ql, a_qy⟩ := id hM
  refine zx_aload_n dM_published_0 rfl ?_
  refine zx_get dM_published_1 flM_82 (by assumption) (by assumption) ?_
  exact zx_iret hE rfl dM_published_4 rfl (Nat.le_of_ble_eq_true rfl) ⟨rfl, rfl, rfl⟩

set_option maxHeartbeats 4000000 in
set_option maxRecDepth 100000 in
theorem kM_clear (G : zG) (d : Nat) (hd : 0 ≤ d) {n : Nat} {sh : zSh} {row : zRw} {m : Nat} {A : Nat × (Nat → Nat)} {B : Nat × Nat × Nat × Nat} {P : (Nat → Int32) × (Nat → Int32) × (Nat → Bool) × (Nat → Nat) × (Nat → Nat)} {T : (Nat → Nat) × (Nat → Nat) × (Nat → Nat)} {S : (Nat → Nat) × (Nat → Bool)} {H : (Nat → Bool) × (Nat → Nat) × (Nat → Nat) × (Nat → Nat)} (hM : MA sh row m A B P T S H) : zM G (fM_clear d) [.ref m] n sh row (zpV sh (fun row' => frI m (m + 21) row row' ∧ MA sh row' m (0, A.2) B P T S H)) := by
  refine zM.of (by show plainName "PostIndexModel" = true; decide +kernel) (Nat.le_of_ble_eq_true rfl) (by intro v hv; simp at hv; rcases hv with rfl <;> rfl) ?_
  intro K hE
  show zX G K (fM_clear d) n 0 0 sh row 0 [.ref m] []
  obtain ⟨⟨go, g_dr, g_au, g_ti, g_er, g_ln, g_tx, g_tk, g_fr, g_to, g_rw, g_pk, g_tn, g_bd, g_ql, g_qy, g_any, g_all, g_pa, g_mi, g_wf, g_wt⟩, ⟨p_dr, p_au, p_ti, p_er, p_ln, p_tx, p_tk, p_fr, p_to, p_rw, p_pk, p_tn, p_bd, p_ql, p_qy, p_any, p_all, p_pa, p_mi, p_wf, p_wt⟩, ⟨f_dl, f_md, f_pb, f_dn, f_sn⟩, a_dr, a_au, a_ti, a_er, a_ln, a_tx, a_tk, a_fr, a_to, a_rw, a_pk, a_tn, a_bd, a_ql, a_qy⟩ := id hM
  refine zx_aload_n dM_clear_0 rfl ?_
  refine zx_iconst (v := nI 0) dM_clear_1 (by decide) ?_
  refine zx_put dM_clear_2 flM_78 tpM_0 (by assumption) rfl rfl ?_
  exact zx_vret hE rfl dM_clear_5 rfl (Nat.le_of_ble_eq_true rfl) ⟨rfl, rfl, frI_up (by omega) (by omega), hM.dl⟩

set_option maxHeartbeats 4000000 in
set_option maxRecDepth 100000 in
theorem kM_type (G : zG) (d : Nat) (hd : 0 ≤ d) {n : Nat} {sh : zSh} {row : zRw} {m : Nat} {A : Nat × (Nat → Nat)} {B : Nat × Nat × Nat × Nat} {P : (Nat → Int32) × (Nat → Int32) × (Nat → Bool) × (Nat → Nat) × (Nat → Nat)} {T : (Nat → Nat) × (Nat → Nat) × (Nat → Nat)} {S : (Nat → Nat) × (Nat → Bool)} {H : (Nat → Bool) × (Nat → Nat) × (Nat → Nat) × (Nat → Nat)} (hM : MA sh row m A B P T S H) {k : Nat} (hk : k < 65536) (hA : A.1 ≤ 24) : zM G (fM_type d) [.ref m, .int (nI k)] n sh row (zpR sh (fun v row' => v = .int (bI (decide (32 ≤ k ∧ k ≤ 126 ∧ A.1 < 24))) ∧ frI m (m + 21) row row' ∧ MA sh row' m (if 32 ≤ k ∧ k ≤ 126 ∧ A.1 < 24 then (A.1 + 1, va_up A.2 A.1 k) else A) B P T S H)) := by
  refine zM.of (by show plainName "PostIndexModel" = true; decide +kernel) (Nat.le_of_ble_eq_true rfl) (by intro v hv; simp at hv; rcases hv with rfl | rfl <;> rfl) ?_
  intro K hE
  show zX G K (fM_type d) n 0 0 sh row 0 [.ref m, .int (nI k)] []
  obtain ⟨⟨go, g_dr, g_au, g_ti, g_er, g_ln, g_tx, g_tk, g_fr, g_to, g_rw, g_pk, g_tn, g_bd, g_ql, g_qy, g_any, g_all, g_pa, g_mi, g_wf, g_wt⟩, ⟨p_dr, p_au, p_ti, p_er, p_ln, p_tx, p_tk, p_fr, p_to, p_rw, p_pk, p_tn, p_bd, p_ql, p_qy, p_any, p_all, p_pa, p_mi, p_wf, p_wt⟩, ⟨f_dl, f_md, f_pb, f_dn, f_sn⟩, a_dr, a_au, a_ti, a_er, a_ln, a_tx, a_tk, a_fr, a_to, a_rw, a_pk, a_tn, a_bd, a_ql, a_qy⟩ := id hM
  refine zx_iload_n dM_type_0 rfl ?_
  refine zx_bipush (v := nI 32) dM_type_1 (by decide) ?_
  refine zn_icmp_lt (tgt := 21) dM_type_3 rfl (by omega) (by omega) (fun h3 => ?_) (fun h3 => ?_)
  · refine zx_iconst (v := nI 0) dM_type_21 (by decide) ?_
    exact zx_zret hE rfl (by first | decide | exact bI_nar _) dM_type_22 rfl (Nat.le_of_ble_eq_true rfl) (by first | (refine ⟨_, rfl, rfl, by rw [decide_eq_true (by omega)]; rfl, (frI_up (by omega) (by omega)).tr (frI_up (by omega) (by omega)), ?_⟩; rw [if_pos (by omega)]; exact (hM.dr (i := A.1) (z := k)).dl (z := A.1 + 1)) | (refine ⟨_, rfl, rfl, by rw [decide_eq_false (by omega)]; rfl, frI.rf, ?_⟩; rw [if_neg (by omega)]; exact hM))
  · refine zx_iload_n dM_type_6 rfl ?_
    refine zx_bipush (v := nI 126) dM_type_7 (by decide) ?_
    refine zn_icmp_gt (tgt := 21) dM_type_9 rfl (by omega) (by omega) (fun h9 => ?_) (fun h9 => ?_)
    · refine zx_iconst (v := nI 0) dM_type_21 (by decide) ?_
      exact zx_zret hE rfl (by first | decide | exact bI_nar _) dM_type_22 rfl (Nat.le_of_ble_eq_true rfl) (by first | (refine ⟨_, rfl, rfl, by rw [decide_eq_true (by omega)]; rfl, (frI_up (by omega) (by omega)).tr (frI_up (by omega) (by omega)), ?_⟩; rw [if_pos (by omega)]; exact (hM.dr (i := A.1) (z := k)).dl (z := A.1 + 1)) | (refine ⟨_, rfl, rfl, by rw [decide_eq_false (by omega)]; rfl, frI.rf, ?_⟩; rw [if_neg (by omega)]; exact hM))
    · refine zx_aload_n dM_type_12 rfl ?_
      refine zx_get dM_type_13 flM_78 (by assumption) (by assumption) ?_
      refine zx_bipush (v := nI 24) dM_type_16 (by decide) ?_
      refine zn_icmp_lt (tgt := 23) dM_type_18 rfl (by omega) (by omega) (fun h18 => ?_) (fun h18 => ?_)
      · refine zx_aload_n dM_type_23 rfl ?_
        refine zx_get dM_type_24 flM_7 (by assumption) (by assumption) ?_
        refine zx_aload_n dM_type_27 rfl ?_
        refine zx_get dM_type_28 flM_78 (by assumption) (by assumption) ?_
        refine zx_iload_n dM_type_31 rfl ?_
        refine zn_iast dM_type_32 g_dr rfl (by omega) (by decide) ?_
        have f2 : zup row (m + 1) A.1 (.int (nI k)) m 0 = .int (nI A.1) := by rw [zup_ne (by omega)]; exact f_dl
        refine zx_aload_n dM_type_33 rfl ?_
        refine zx_dup dM_type_34 rfl ?_
        refine zx_get dM_type_35 flM_78 (by assumption) (by assumption) ?_
        refine zx_iconst (v := nI 1) dM_type_38 (by decide) ?_
        refine zn_iadd dM_type_39 ?_
        refine zx_put dM_type_40 flM_78 tpM_0 (by assumption) rfl rfl ?_
        refine zx_iconst (v := nI 1) dM_type_43 (by decide) ?_
        exact zx_zret hE rfl (by first | decide | exact bI_nar _) dM_type_44 rfl (Nat.le_of_ble_eq_true rfl) (by first | (refine ⟨_, rfl, rfl, by rw [decide_eq_true (by omega)]; rfl, (frI_up (by omega) (by omega)).tr (frI_up (by omega) (by omega)), ?_⟩; rw [if_pos (by omega)]; exact (hM.dr (i := A.1) (z := k)).dl (z := A.1 + 1)) | (refine ⟨_, rfl, rfl, by rw [decide_eq_false (by omega)]; rfl, frI.rf, ?_⟩; rw [if_neg (by omega)]; exact hM))
      · refine zx_iconst (v := nI 0) dM_type_21 (by decide) ?_
        exact zx_zret hE rfl (by first | decide | exact bI_nar _) dM_type_22 rfl (Nat.le_of_ble_eq_true rfl) (by first | (refine ⟨_, rfl, rfl, by rw [decide_eq_true (by omega)]; rfl, (frI_up (by omega) (by omega)).tr (frI_up (by omega) (by omega)), ?_⟩; rw [if_pos (by omega)]; exact (hM.dr (i := A.1) (z := k)).dl (z := A.1 + 1)) | (refine ⟨_, rfl, rfl, by rw [decide_eq_false (by omega)]; rfl, frI.rf, ?_⟩; rw [if_neg (by omega)]; exact hM))

set_option maxHeartbeats 4000000 in
set_option maxRecDepth 100000 in
theorem kM_erase (G : zG) (d : Nat) (hd : 3 ≤ d) {n : Nat} {sh : zSh} {row : zRw} {m : Nat} {A : Nat × (Nat → Nat)} {B : Nat × Nat × Nat × Nat} {P : (Nat → Int32) × (Nat → Int32) × (Nat → Bool) × (Nat → Nat) × (Nat → Nat)} {T : (Nat → Nat) × (Nat → Nat) × (Nat → Nat)} {S : (Nat → Nat) × (Nat → Bool)} {H : (Nat → Bool) × (Nat → Nat) × (Nat → Nat) × (Nat → Nat)} (hM : MA sh row m A B P T S H) {j : Nat} (hj : j < 2147483648) (hmd : B.1 ≤ 24) (hpb : B.2.1 ≤ 24) (hdn : B.2.2.1 ≤ 24) : zM G (fM_erase d) [.ref m, .int (nI j)] n sh row (zpR sh (fun v row' => v = .int (bI (shoB B P.2.2.1 j)) ∧ frI m (m + 21) row row' ∧ MA sh row' m A B (if shoB B P.2.2.1 j = true then (P.1, P.2.1, va_up P.2.2.1 j true, P.2.2.2) else P) T S H)) := by
  refine zM.of (by show plainName "PostIndexModel" = true; decide +kernel) (Nat.le_of_ble_eq_true rfl) (by intro v hv; simp at hv; rcases hv with rfl | rfl <;> rfl) ?_
  intro K hE
  show zX G K (fM_erase d) n 0 0 sh row 0 [.ref m, .int (nI j)] []
  have hD : d - 1 + 1 ≤ d := by omega
  obtain ⟨⟨go, g_dr, g_au, g_ti, g_er, g_ln, g_tx, g_tk, g_fr, g_to, g_rw, g_pk, g_tn, g_bd, g_ql, g_qy, g_any, g_all, g_pa, g_mi, g_wf, g_wt⟩, ⟨p_dr, p_au, p_ti, p_er, p_ln, p_tx, p_tk, p_fr, p_to, p_rw, p_pk, p_tn, p_bd, p_ql, p_qy, p_any, p_all, p_pa, p_mi, p_wf, p_wt⟩, ⟨f_dl, f_md, f_pb, f_dn, f_sn⟩, a_dr, a_au, a_ti, a_er, a_ln, a_tx, a_tk, a_fr, a_to, a_rw, a_pk, a_tn, a_bd, a_ql, a_qy⟩ := id hM
  refine zx_aload_n dM_erase_0 rfl ?_
  refine zx_iload_n dM_erase_1 rfl ?_
  refine zc_V (n0 := n) (ce := 0) (kM_shown G (d - 1) (by omega) hM hj hmd hpb hdn) (meM_shown _) lkM_88 go rfl rfl hD (Nat.le_of_ble_eq_true rfl) rfl rfl (Nat.le_of_ble_eq_true rfl) (Nat.le_of_ble_eq_true rfl) (Nat.le_of_ble_eq_true rfl) dM_erase_2 ?_
  refine zb_if_ne (tgt := 10) dM_erase_5 rfl (fun h5 => ?_) (fun h5 => ?_)
  · refine zx_aload_n dM_erase_10 rfl ?_
    refine zx_get dM_erase_11 flM_19 (by assumption) (by assumption) ?_
    refine zx_iload_n dM_erase_14 rfl ?_
    refine zx_iconst (v := nI 1) dM_erase_15 (by decide) ?_
    have hj24 : j < 24 := by unfold shoB at h5; simp at h5; omega
    refine zn_zast (b := true) dM_erase_16 g_er rfl (by omega) (by decide) ?_
    refine zx_iconst (v := nI 1) dM_erase_17 (by decide) ?_
    exact zx_zret hE rfl (by first | decide | exact bI_nar _) dM_erase_18 rfl (Nat.le_of_ble_eq_true rfl) (by first | (refine ⟨_, rfl, rfl, by rw [h5]; rfl, frI_up (by omega) (by omega), ?_⟩; rw [if_pos h5]; exact hM.er (i := j) (z := true)) | (refine ⟨_, rfl, rfl, by rw [h5]; rfl, frI.rf, ?_⟩; rw [if_neg (by rw [h5]; decide)]; exact hM))
  · refine zx_iconst (v := nI 0) dM_erase_8 (by decide) ?_
    exact zx_zret hE rfl (by first | decide | exact bI_nar _) dM_erase_9 rfl (Nat.le_of_ble_eq_true rfl) (by first | (refine ⟨_, rfl, rfl, by rw [h5]; rfl, frI_up (by omega) (by omega), ?_⟩; rw [if_pos h5]; exact hM.er (i := j) (z := true)) | (refine ⟨_, rfl, rfl, by rw [h5]; rfl, frI.rf, ?_⟩; rw [if_neg (by rw [h5]; decide)]; exact hM))

set_option maxHeartbeats 4000000 in
set_option maxRecDepth 100000 in
theorem kM_close (G : zG) (d : Nat) (hd : 1 ≤ d) {n : Nat} {sh : zSh} {row : zRw} {m : Nat} {A : Nat × (Nat → Nat)} {B : Nat × Nat × Nat × Nat} {P : (Nat → Int32) × (Nat → Int32) × (Nat → Bool) × (Nat → Nat) × (Nat → Nat)} {T : (Nat → Nat) × (Nat → Nat) × (Nat → Nat)} {S : (Nat → Nat) × (Nat → Bool)} {H : (Nat → Bool) × (Nat → Nat) × (Nat → Nat) × (Nat → Nat)} (hM : MA sh row m A B P T S H) {j : Nat} (hj : j < 2147483648) : zM G (fM_close d) [.ref m, .int (nI j)] n sh row (zpR sh (fun v row' => v = .int (bI (decide (j < 3) && H.1 j)) ∧ frI m (m + 21) row row' ∧ MA sh row' m A B P T S (if (decide (j < 3) && H.1 j) = true then (va_up H.1 j false, H.2) else H))) := by
  refine zM.of (by show plainName "PostIndexModel" = true; decide +kernel) (Nat.le_of_ble_eq_true rfl) (by intro v hv; simp at hv; rcases hv with rfl | rfl <;> rfl) ?_
  intro K hE
  show zX G K (fM_close d) n 0 0 sh row 0 [.ref m, .int (nI j)] []
  have hD : d - 1 + 1 ≤ d := by omega
  obtain ⟨⟨go, g_dr, g_au, g_ti, g_er, g_ln, g_tx, g_tk, g_fr, g_to, g_rw, g_pk, g_tn, g_bd, g_ql, g_qy, g_any, g_all, g_pa, g_mi, g_wf, g_wt⟩, ⟨p_dr, p_au, p_ti, p_er, p_ln, p_tx, p_tk, p_fr, p_to, p_rw, p_pk, p_tn, p_bd, p_ql, p_qy, p_any, p_all, p_pa, p_mi, p_wf, p_wt⟩, ⟨f_dl, f_md, f_pb, f_dn, f_sn⟩, a_dr, a_au, a_ti, a_er, a_ln, a_tx, a_tk, a_fr, a_to, a_rw, a_pk, a_tn, a_bd, a_ql, a_qy⟩ := id hM
  refine zx_aload_n dM_close_0 rfl ?_
  refine zx_iload_n dM_close_1 rfl ?_
  refine zc_V (n0 := n) (ce := 0) (kM_searching G (d - 1) (by omega) hM hj) (meM_searching _) lkM_189 go rfl rfl hD (Nat.le_of_ble_eq_true rfl) rfl rfl (Nat.le_of_ble_eq_true rfl) (Nat.le_of_ble_eq_true rfl) (Nat.le_of_ble_eq_true rfl) dM_close_2 ?_
  refine zb_if_ne (tgt := 10) dM_close_5 rfl (fun h5 => ?_) (fun h5 => ?_)
  · refine zx_aload_n dM_close_10 rfl ?_
    refine zx_get dM_close_11 flM_44 (by assumption) (by assumption) ?_
    refine zx_iload_n dM_close_14 rfl ?_
    refine zx_iconst (v := nI 0) dM_close_15 (by decide) ?_
    have hj3 : j < 3 := by simp at h5; omega
    refine zn_zast (b := false) dM_close_16 g_tn rfl (by omega) (by decide) ?_
    refine zx_iconst (v := nI 1) dM_close_17 (by decide) ?_
    exact zx_zret hE rfl (by first | decide | exact bI_nar _) dM_close_18 rfl (Nat.le_of_ble_eq_true rfl) (by first | (refine ⟨_, rfl, rfl, by rw [h5]; rfl, frI_up (by omega) (by omega), ?_⟩; rw [if_pos h5]; exact hM.tn (i := j) (z := false)) | (refine ⟨_, rfl, rfl, by rw [h5]; rfl, frI.rf, ?_⟩; rw [if_neg (by rw [h5]; decide)]; exact hM))
  · refine zx_iconst (v := nI 0) dM_close_8 (by decide) ?_
    exact zx_zret hE rfl (by first | decide | exact bI_nar _) dM_close_9 rfl (Nat.le_of_ble_eq_true rfl) (by first | (refine ⟨_, rfl, rfl, by rw [h5]; rfl, frI_up (by omega) (by omega), ?_⟩; rw [if_pos h5]; exact hM.tn (i := j) (z := false)) | (refine ⟨_, rfl, rfl, by rw [h5]; rfl, frI.rf, ?_⟩; rw [if_neg (by rw [h5]; decide)]; exact hM))

set_option maxHeartbeats 4000000 in
set_option maxRecDepth 100000 in
theorem kM_eraseN (G : zG) (d : Nat) (hd : 1 ≤ d) {n : Nat} {sh : zSh} {row : zRw} {m : Nat} {A : Nat × (Nat → Nat)} {B : Nat × Nat × Nat × Nat} {P : (Nat → Int32) × (Nat → Int32) × (Nat → Bool) × (Nat → Nat) × (Nat → Nat)} {T : (Nat → Nat) × (Nat → Nat) × (Nat → Nat)} {S : (Nat → Nat) × (Nat → Bool)} {H : (Nat → Bool) × (Nat → Nat) × (Nat → Nat) × (Nat → Nat)} (hM : MA sh row m A B P T S H) {v : Int32} (hv : v < 0) : zM G (fM_erase d) [.ref m, .int v] n sh row (zP sh row (.int (bI false))) := by
  refine zM.of (by show plainName "PostIndexModel" = true; decide +kernel) (Nat.le_of_ble_eq_true rfl) (by intro v hv; simp at hv; rcases hv with rfl | rfl <;> rfl) ?_
  intro K hE
  show zX G K (fM_erase d) n 0 0 sh row 0 [.ref m, .int v] []
  have hD : d - 1 + 1 ≤ d := by omega
  obtain ⟨⟨go, g_dr, g_au, g_ti, g_er, g_ln, g_tx, g_tk, g_fr, g_to, g_rw, g_pk, g_tn, g_bd, g_ql, g_qy, g_any, g_all, g_pa, g_mi, g_wf, g_wt⟩, ⟨p_dr, p_au, p_ti, p_er, p_ln, p_tx, p_tk, p_fr, p_to, p_rw, p_pk, p_tn, p_bd, p_ql, p_qy, p_any, p_all, p_pa, p_mi, p_wf, p_wt⟩, ⟨f_dl, f_md, f_pb, f_dn, f_sn⟩, a_dr, a_au, a_ti, a_er, a_ln, a_tx, a_tk, a_fr, a_to, a_rw, a_pk, a_tn, a_bd, a_ql, a_qy⟩ := id hM
  refine zx_aload_n dM_erase_0 rfl ?_
  refine zx_iload_n dM_erase_1 rfl ?_
  refine zc_V (n0 := n) (ce := 0) (kM_shownN G (d - 1) (by omega) hM hv) (meM_shown _) lkM_88 go rfl rfl hD (Nat.le_of_ble_eq_true rfl) rfl rfl (Nat.le_of_ble_eq_true rfl) (Nat.le_of_ble_eq_true rfl) (Nat.le_of_ble_eq_true rfl) dM_erase_2 ?_
  refine zb_if_ne (tgt := 10) dM_erase_5 rfl (fun h5 => ?_) (fun h5 => ?_)
  · exact absurd h5 (by decide)
  · refine zx_iconst (v := nI 0) dM_erase_8 (by decide) ?_
    exact zx_zret hE rfl (by first | decide | exact bI_nar _) dM_erase_9 rfl (Nat.le_of_ble_eq_true rfl) ⟨rfl, rfl, rfl⟩

set_option maxHeartbeats 4000000 in
set_option maxRecDepth 100000 in
theorem kM_quoteN (G : zG) (d : Nat) (hd : 1 ≤ d) {n : Nat} {sh : zSh} {row : zRw} {m : Nat} {A : Nat × (Nat → Nat)} {B : Nat × Nat × Nat × Nat} {P : (Nat → Int32) × (Nat → Int32) × (Nat → Bool) × (Nat → Nat) × (Nat → Nat)} {T : (Nat → Nat) × (Nat → Nat) × (Nat → Nat)} {S : (Nat → Nat) × (Nat → Bool)} {H : (Nat → Bool) × (Nat → Nat) × (Nat → Nat) × (Nat → Nat)} (hM : MA sh row m A B P T S H) {v : Int32} (hv : v < 0) : zM G (fM_quote d) [.ref m, .int v] n sh row (zP sh row (.int (-1))) := by
  refine zM.of (by show plainName "PostIndexModel" = true; decide +kernel) (Nat.le_of_ble_eq_true rfl) (by intro v hv; simp at hv; rcases hv with rfl | rfl <;> rfl) ?_
  intro K hE
  show zX G K (fM_quote d) n 0 0 sh row 0 [.ref m, .int v, .retAddr 0] []
  have hD : d - 1 + 1 ≤ d := by omega
  obtain ⟨⟨go, g_dr, g_au, g_ti, g_er, g_ln, g_tx, g_tk, g_fr, g_to, g_rw, g_pk, g_tn, g_bd, g_ql, g_qy, g_any, g_all, g_pa, g_mi, g_wf, g_wt⟩, ⟨p_dr, p_au, p_ti, p_er, p_ln, p_tx, p_tk, p_fr, p_to, p_rw, p_pk, p_tn, p_bd, p_ql, p_qy, p_any, p_all, p_pa, p_mi, p_wf, p_wt⟩, ⟨f_dl, f_md, f_pb, f_dn, f_sn⟩, a_dr, a_au, a_ti, a_er, a_ln, a_tx, a_tk, a_fr, a_to, a_rw, a_pk, a_tn, a_bd, a_ql, a_qy⟩ := id hM
  refine zx_aload_n dM_quote_0 rfl ?_
  refine zx_iload_n dM_quote_1 rfl ?_
  refine zc_V (n0 := n) (ce := 0) (kM_shownN G (d - 1) (by omega) hM hv) (meM_shown _) lkM_88 go rfl rfl hD (Nat.le_of_ble_eq_true rfl) rfl rfl (Nat.le_of_ble_eq_true rfl) (Nat.le_of_ble_eq_true rfl) (Nat.le_of_ble_eq_true rfl) dM_quote_2 ?_
  refine zb_if_ne (tgt := 10) dM_quote_5 rfl (fun h5 => ?_) (fun h5 => ?_)
  · exact absurd h5 (by decide)
  · refine zx_iconst (v := -1) dM_quote_8 (by decide) ?_
    exact zx_iret hE rfl dM_quote_9 rfl (Nat.le_of_ble_eq_true rfl) ⟨rfl, rfl, rfl⟩

set_option maxHeartbeats 4000000 in
set_option maxRecDepth 100000 in
theorem kM_closeN (G : zG) (d : Nat) (hd : 1 ≤ d) {n : Nat} {sh : zSh} {row : zRw} {m : Nat} {A : Nat × (Nat → Nat)} {B : Nat × Nat × Nat × Nat} {P : (Nat → Int32) × (Nat → Int32) × (Nat → Bool) × (Nat → Nat) × (Nat → Nat)} {T : (Nat → Nat) × (Nat → Nat) × (Nat → Nat)} {S : (Nat → Nat) × (Nat → Bool)} {H : (Nat → Bool) × (Nat → Nat) × (Nat → Nat) × (Nat → Nat)} (hM : MA sh row m A B P T S H) {v : Int32} (hv : v < 0) : zM G (fM_close d) [.ref m, .int v] n sh row (zP sh row (.int (bI false))) := by
  refine zM.of (by show plainName "PostIndexModel" = true; decide +kernel) (Nat.le_of_ble_eq_true rfl) (by intro v hv; simp at hv; rcases hv with rfl | rfl <;> rfl) ?_
  intro K hE
  show zX G K (fM_close d) n 0 0 sh row 0 [.ref m, .int v] []
  have hD : d - 1 + 1 ≤ d := by omega
  obtain ⟨⟨go, g_dr, g_au, g_ti, g_er, g_ln, g_tx, g_tk, g_fr, g_to, g_rw, g_pk, g_tn, g_bd, g_ql, g_qy, g_any, g_all, g_pa, g_mi, g_wf, g_wt⟩, ⟨p_dr, p_au, p_ti, p_er, p_ln, p_tx, p_tk, p_fr, p_to, p_rw, p_pk, p_tn, p_bd, p_ql, p_qy, p_any, p_all, p_pa, p_mi, p_wf, p_wt⟩, ⟨f_dl, f_md, f_pb, f_dn, f_sn⟩, a_dr, a_au, a_ti, a_er, a_ln, a_tx, a_tk, a_fr, a_to, a_rw, a_pk, a_tn, a_bd, a_ql, a_qy⟩ := id hM
  refine zx_aload_n dM_close_0 rfl ?_
  refine zx_iload_n dM_close_1 rfl ?_
  refine zc_V (n0 := n) (ce := 0) (kM_searchingN G (d - 1) (by omega) hM hv) (meM_searching _) lkM_189 go rfl rfl hD (Nat.le_of_ble_eq_true rfl) rfl rfl (Nat.le_of_ble_eq_true rfl) (Nat.le_of_ble_eq_true rfl) (Nat.le_of_ble_eq_true rfl) dM_close_2 ?_
  refine zb_if_ne (tgt := 10) dM_close_5 rfl (fun h5 => ?_) (fun h5 => ?_)
  · exact absurd h5 (by decide)
  · refine zx_iconst (v := nI 0) dM_close_8 (by decide) ?_
    exact zx_zret hE rfl (by first | decide | exact bI_nar _) dM_close_9 rfl (Nat.le_of_ble_eq_true rfl) ⟨rfl, rfl, rfl⟩

set_option maxHeartbeats 4000000 in
set_option maxRecDepth 100000 in
theorem kM_nextN (G : zG) (d : Nat) (hd : 1 ≤ d) {n : Nat} {sh : zSh} {row : zRw} {m : Nat} {A : Nat × (Nat → Nat)} {B : Nat × Nat × Nat × Nat} {P : (Nat → Int32) × (Nat → Int32) × (Nat → Bool) × (Nat → Nat) × (Nat → Nat)} {T : (Nat → Nat) × (Nat → Nat) × (Nat → Nat)} {S : (Nat → Nat) × (Nat → Bool)} {H : (Nat → Bool) × (Nat → Nat) × (Nat → Nat) × (Nat → Nat)} (hM : MA sh row m A B P T S H) {v : Int32} (hv : v < 0) : zM G (fM_next d) [.ref m, .int v] n sh row (zP sh row (.int (-1))) := by
  refine zM.of (by show plainName "PostIndexModel" = true; decide +kernel) (Nat.le_of_ble_eq_true rfl) (by intro v hv; simp at hv; rcases hv with rfl | rfl <;> rfl) ?_
  intro K hE
  show zX G K (fM_next d) n 0 0 sh row 0 [.ref m, .int v, .retAddr 0] []
  have hD : d - 1 + 1 ≤ d := by omega
  obtain ⟨⟨go, g_dr, g_au, g_ti, g_er, g_ln, g_tx, g_tk, g_fr, g_to, g_rw, g_pk, g_tn, g_bd, g_ql, g_qy, g_any, g_all, g_pa, g_mi, g_wf, g_wt⟩, ⟨p_dr, p_au, p_ti, p_er, p_ln, p_tx, p_tk, p_fr, p_to, p_rw, p_pk, p_tn, p_bd, p_ql, p_qy, p_any, p_all, p_pa, p_mi, p_wf, p_wt⟩, ⟨f_dl, f_md, f_pb, f_dn, f_sn⟩, a_dr, a_au, a_ti, a_er, a_ln, a_tx, a_tk, a_fr, a_to, a_rw, a_pk, a_tn, a_bd, a_ql, a_qy⟩ := id hM
  refine zx_aload_n dM_next_0 rfl ?_
  refine zx_iload_n dM_next_1 rfl ?_
  refine zc_V (n0 := n) (ce := 0) (kM_searchingN G (d - 1) (by omega) hM hv) (meM_searching _) lkM_189 go rfl rfl hD (Nat.le_of_ble_eq_true rfl) rfl rfl (Nat.le_of_ble_eq_true rfl) (Nat.le_of_ble_eq_true rfl) (Nat.le_of_ble_eq_true rfl) dM_next_2 ?_
  refine zb_if_ne (tgt := 10) dM_next_5 rfl (fun h5 => ?_) (fun h5 => ?_)
  · exact absurd h5 (by decide)
  · refine zx_iconst (v := -1) dM_next_8 (by decide) ?_
    exact zx_iret hE rfl dM_next_9 rfl (Nat.le_of_ble_eq_true rfl) ⟨rfl, rfl, rfl⟩

set_option maxHeartbeats 4000000 in
set_option maxRecDepth 100000 in
theorem kM_leftN (G : zG) (d : Nat) (hd : 1 ≤ d) {n : Nat} {sh : zSh} {row : zRw} {m : Nat} {A : Nat × (Nat → Nat)} {B : Nat × Nat × Nat × Nat} {P : (Nat → Int32) × (Nat → Int32) × (Nat → Bool) × (Nat → Nat) × (Nat → Nat)} {T : (Nat → Nat) × (Nat → Nat) × (Nat → Nat)} {S : (Nat → Nat) × (Nat → Bool)} {H : (Nat → Bool) × (Nat → Nat) × (Nat → Nat) × (Nat → Nat)} (hM : MA sh row m A B P T S H) {v : Int32} (hv : v < 0) : zM G (fM_left d) [.ref m, .int v] n sh row (zP sh row (.int (-1))) := by
  refine zM.of (by show plainName "PostIndexModel" = true; decide +kernel) (Nat.le_of_ble_eq_true rfl) (by intro v hv; simp at hv; rcases hv with rfl | rfl <;> rfl) ?_
  intro K hE
  show zX G K (fM_left d) n 0 0 sh row 0 [.ref m, .int v, .retAddr 0, .retAddr 0] []
  have hD : d - 1 + 1 ≤ d := by omega
  obtain ⟨⟨go, g_dr, g_au, g_ti, g_er, g_ln, g_tx, g_tk, g_fr, g_to, g_rw, g_pk, g_tn, g_bd, g_ql, g_qy, g_any, g_all, g_pa, g_mi, g_wf, g_wt⟩, ⟨p_dr, p_au, p_ti, p_er, p_ln, p_tx, p_tk, p_fr, p_to, p_rw, p_pk, p_tn, p_bd, p_ql, p_qy, p_any, p_all, p_pa, p_mi, p_wf, p_wt⟩, ⟨f_dl, f_md, f_pb, f_dn, f_sn⟩, a_dr, a_au, a_ti, a_er, a_ln, a_tx, a_tk, a_fr, a_to, a_rw, a_pk, a_tn, a_bd, a_ql, a_qy⟩ := id hM
  refine zx_aload_n dM_left_0 rfl ?_
  refine zx_iload_n dM_left_1 rfl ?_
  refine zc_V (n0 := n) (ce := 0) (kM_searchingN G (d - 1) (by omega) hM hv) (meM_searching _) lkM_189 go rfl rfl hD (Nat.le_of_ble_eq_true rfl) rfl rfl (Nat.le_of_ble_eq_true rfl) (Nat.le_of_ble_eq_true rfl) (Nat.le_of_ble_eq_true rfl) dM_left_2 ?_
  refine zb_if_ne (tgt := 10) dM_left_5 rfl (fun h5 => ?_) (fun h5 => ?_)
  · exact absurd h5 (by decide)
  · refine zx_iconst (v := -1) dM_left_8 (by decide) ?_
    exact zx_iret hE rfl dM_left_9 rfl (Nat.le_of_ble_eq_true rfl) ⟨rfl, rfl, rfl⟩

set_option maxHeartbeats 4000000 in
set_option maxRecDepth 100000 in
theorem kM_sizeN (G : zG) (d : Nat) (hd : 1 ≤ d) {n : Nat} {sh : zSh} {row : zRw} {m : Nat} {A : Nat × (Nat → Nat)} {B : Nat × Nat × Nat × Nat} {P : (Nat → Int32) × (Nat → Int32) × (Nat → Bool) × (Nat → Nat) × (Nat → Nat)} {T : (Nat → Nat) × (Nat → Nat) × (Nat → Nat)} {S : (Nat → Nat) × (Nat → Bool)} {H : (Nat → Bool) × (Nat → Nat) × (Nat → Nat) × (Nat → Nat)} (hM : MA sh row m A B P T S H) {v : Int32} (hv : v < 0) : zM G (fM_size d) [.ref m, .int v] n sh row (zP sh row (.int (-1))) := by
  refine zM.of (by show plainName "PostIndexModel" = true; decide +kernel) (Nat.le_of_ble_eq_true rfl) (by intro v hv; simp at hv; rcases hv with rfl | rfl <;> rfl) ?_
  intro K hE
  show zX G K (fM_size d) n 0 0 sh row 0 [.ref m, .int v] []
  have hD : d - 1 + 1 ≤ d := by omega
  obtain ⟨⟨go, g_dr, g_au, g_ti, g_er, g_ln, g_tx, g_tk, g_fr, g_to, g_rw, g_pk, g_tn, g_bd, g_ql, g_qy, g_any, g_all, g_pa, g_mi, g_wf, g_wt⟩, ⟨p_dr, p_au, p_ti, p_er, p_ln, p_tx, p_tk, p_fr, p_to, p_rw, p_pk, p_tn, p_bd, p_ql, p_qy, p_any, p_all, p_pa, p_mi, p_wf, p_wt⟩, ⟨f_dl, f_md, f_pb, f_dn, f_sn⟩, a_dr, a_au, a_ti, a_er, a_ln, a_tx, a_tk, a_fr, a_to, a_rw, a_pk, a_tn, a_bd, a_ql, a_qy⟩ := id hM
  refine zx_aload_n dM_size_0 rfl ?_
  refine zx_iload_n dM_size_1 rfl ?_
  refine zc_V (n0 := n) (ce := 0) (kM_livesN G (d - 1) (by omega) hM hv) (meM_lives _) lkM_192 go rfl rfl hD (Nat.le_of_ble_eq_true rfl) rfl rfl (Nat.le_of_ble_eq_true rfl) (Nat.le_of_ble_eq_true rfl) (Nat.le_of_ble_eq_true rfl) dM_size_2 ?_
  refine zb_if_ne (tgt := 12) dM_size_5 rfl (fun h5 => ?_) (fun h5 => ?_)
  · exact absurd h5 (by decide)
  · refine zx_iconst (v := -1) dM_size_8 (by decide) ?_
    refine zx_goto (tgt := 31) dM_size_9 rfl ?_
    exact zx_iret hE rfl dM_size_31 rfl (Nat.le_of_ble_eq_true rfl) ⟨rfl, rfl, rfl⟩

set_option maxHeartbeats 4000000 in
set_option maxRecDepth 100000 in
theorem kM_termsN (G : zG) (d : Nat) (hd : 1 ≤ d) {n : Nat} {sh : zSh} {row : zRw} {m : Nat} {A : Nat × (Nat → Nat)} {B : Nat × Nat × Nat × Nat} {P : (Nat → Int32) × (Nat → Int32) × (Nat → Bool) × (Nat → Nat) × (Nat → Nat)} {T : (Nat → Nat) × (Nat → Nat) × (Nat → Nat)} {S : (Nat → Nat) × (Nat → Bool)} {H : (Nat → Bool) × (Nat → Nat) × (Nat → Nat) × (Nat → Nat)} (hM : MA sh row m A B P T S H) {v : Int32} (hv : v < 0) : zM G (fM_terms d) [.ref m, .int v] n sh row (zP sh row (.int (-1))) := by
  refine zM.of (by show plainName "PostIndexModel" = true; decide +kernel) (Nat.le_of_ble_eq_true rfl) (by intro v hv; simp at hv; rcases hv with rfl | rfl <;> rfl) ?_
  intro K hE
  show zX G K (fM_terms d) n 0 0 sh row 0 [.ref m, .int v] []
  have hD : d - 1 + 1 ≤ d := by omega
  obtain ⟨⟨go, g_dr, g_au, g_ti, g_er, g_ln, g_tx, g_tk, g_fr, g_to, g_rw, g_pk, g_tn, g_bd, g_ql, g_qy, g_any, g_all, g_pa, g_mi, g_wf, g_wt⟩, ⟨p_dr, p_au, p_ti, p_er, p_ln, p_tx, p_tk, p_fr, p_to, p_rw, p_pk, p_tn, p_bd, p_ql, p_qy, p_any, p_all, p_pa, p_mi, p_wf, p_wt⟩, ⟨f_dl, f_md, f_pb, f_dn, f_sn⟩, a_dr, a_au, a_ti, a_er, a_ln, a_tx, a_tk, a_fr, a_to, a_rw, a_pk, a_tn, a_bd, a_ql, a_qy⟩ := id hM
  refine zx_aload_n dM_terms_0 rfl ?_
  refine zx_iload_n dM_terms_1 rfl ?_
  refine zc_V (n0 := n) (ce := 0) (kM_livesN G (d - 1) (by omega) hM hv) (meM_lives _) lkM_192 go rfl rfl hD (Nat.le_of_ble_eq_true rfl) rfl rfl (Nat.le_of_ble_eq_true rfl) (Nat.le_of_ble_eq_true rfl) (Nat.le_of_ble_eq_true rfl) dM_terms_2 ?_
  refine zb_if_ne (tgt := 12) dM_terms_5 rfl (fun h5 => ?_) (fun h5 => ?_)
  · exact absurd h5 (by decide)
  · refine zx_iconst (v := -1) dM_terms_8 (by decide) ?_
    refine zx_goto (tgt := 18) dM_terms_9 rfl ?_
    exact zx_iret hE rfl dM_terms_18 rfl (Nat.le_of_ble_eq_true rfl) ⟨rfl, rfl, rfl⟩

set_option maxHeartbeats 4000000 in
set_option maxRecDepth 100000 in
theorem kM_postingsN (G : zG) (d : Nat) (hd : 1 ≤ d) {n : Nat} {sh : zSh} {row : zRw} {m : Nat} {A : Nat × (Nat → Nat)} {B : Nat × Nat × Nat × Nat} {P : (Nat → Int32) × (Nat → Int32) × (Nat → Bool) × (Nat → Nat) × (Nat → Nat)} {T : (Nat → Nat) × (Nat → Nat) × (Nat → Nat)} {S : (Nat → Nat) × (Nat → Bool)} {H : (Nat → Bool) × (Nat → Nat) × (Nat → Nat) × (Nat → Nat)} (hM : MA sh row m A B P T S H) {v : Int32} (hv : v < 0) : zM G (fM_postings d) [.ref m, .int v] n sh row (zP sh row (.int (-1))) := by
  refine zM.of (by show plainName "PostIndexModel" = true; decide +kernel) (Nat.le_of_ble_eq_true rfl) (by intro v hv; simp at hv; rcases hv with rfl | rfl <;> rfl) ?_
  intro K hE
  show zX G K (fM_postings d) n 0 0 sh row 0 [.ref m, .int v] []
  have hD : d - 1 + 1 ≤ d := by omega
  obtain ⟨⟨go, g_dr, g_au, g_ti, g_er, g_ln, g_tx, g_tk, g_fr, g_to, g_rw, g_pk, g_tn, g_bd, g_ql, g_qy, g_any, g_all, g_pa, g_mi, g_wf, g_wt⟩, ⟨p_dr, p_au, p_ti, p_er, p_ln, p_tx, p_tk, p_fr, p_to, p_rw, p_pk, p_tn, p_bd, p_ql, p_qy, p_any, p_all, p_pa, p_mi, p_wf, p_wt⟩, ⟨f_dl, f_md, f_pb, f_dn, f_sn⟩, a_dr, a_au, a_ti, a_er, a_ln, a_tx, a_tk, a_fr, a_to, a_rw, a_pk, a_tn, a_bd, a_ql, a_qy⟩ := id hM
  refine zx_aload_n dM_postings_0 rfl ?_
  refine zx_iload_n dM_postings_1 rfl ?_
  refine zc_V (n0 := n) (ce := 0) (kM_livesN G (d - 1) (by omega) hM hv) (meM_lives _) lkM_192 go rfl rfl hD (Nat.le_of_ble_eq_true rfl) rfl rfl (Nat.le_of_ble_eq_true rfl) (Nat.le_of_ble_eq_true rfl) (Nat.le_of_ble_eq_true rfl) dM_postings_2 ?_
  refine zb_if_ne (tgt := 12) dM_postings_5 rfl (fun h5 => ?_) (fun h5 => ?_)
  · exact absurd h5 (by decide)
  · refine zx_iconst (v := -1) dM_postings_8 (by decide) ?_
    refine zx_goto (tgt := 18) dM_postings_9 rfl ?_
    exact zx_iret hE rfl dM_postings_18 rfl (Nat.le_of_ble_eq_true rfl) ⟨rfl, rfl, rfl⟩

