abbrev mP : Type := (Nat → Int32) × (Nat → Int32) × (Nat → Bool) × (Nat → Nat) × (Nat → Nat)
abbrev mT : Type := (Nat → Nat) × (Nat → Nat) × (Nat → Nat)
def MOk (P : mP) (T : mT) : Prop := (∀ s, s < 288 → T.2.1 s ≤ T.2.2 s ∧ T.2.2 s ≤ 576) ∧ (∀ k, k < 576 → P.2.2.2.2 k < 127) ∧ ∀ i, i < 24 → P.2.2.2.1 i ≤ 24 ∧ T.1 i ≤ 12
/-- a token's characters, small -/
def tokW (P : mP) (T : mT) (s : Nat) : List Nat := (List.range (T.2.2 s - T.2.1 s)).map (fun k => fold1 (P.2.2.2.2 (T.2.1 s + k)))
def samB (P : mP) (T : mT) (s t : Nat) : Bool := decide (tokW P T s = tokW P T t)
theorem tokW_len {P : mP} {T : mT} {s : Nat} : (tokW P T s).length = T.2.2 s - T.2.1 s := by unfold tokW; simp
theorem tokW_get {P : mP} {T : mT} {s k : Nat} (h : k < T.2.2 s - T.2.1 s) : (tokW P T s)[k]? = some (fold1 (P.2.2.2.2 (T.2.1 s + k))) := by
  unfold tokW; rw [List.getElem?_map, List.getElem?_range h]; rfl
def exB (f : Nat → Bool) : Nat → Bool
  | 0 => false
  | n + 1 => exB f n || f n
theorem exB_t {f : Nat → Bool} {n i : Nat} (h : i < n) (hi : f i = true) : exB f n = true := by
  induction n with
  | zero => omega
  | succ n ih =>
    show (exB f n || f n) = true
    by_cases e : i = n
    · rw [← e, hi]; simp
    · rw [ih (by omega)]; rfl
theorem exB_f {f : Nat → Bool} {n : Nat} (h : ∀ i, i < n → f i = false) : exB f n = false := by
  induction n with
  | zero => rfl
  | succ n ih => show (exB f n || f n) = false; rw [ih (fun i hi => h i (by omega)), h n (by omega)]; rfl
def pstB (B : Nat × Nat × Nat × Nat) (P : mP) (T : mT) (p pl t : Nat) : Bool := if pl = 7 then exB (fun d => samB P T (12 * p + (7 + d)) t) (idxN B T.1 p - 7) else (decide (pl < idxN B T.1 p) && samB P T (12 * p + pl) t)
def fstM (B : Nat × Nat × Nat × Nat) (P : mP) (T : mT) (p i : Nat) : Bool := !exB (fun d => exB (fun j => samB P T (12 * (p / 4 * 4 + d) + j) (12 * p + i)) (if p / 4 * 4 + d < p then idxN B T.1 (p / 4 * 4 + d) else i)) (p + 1 - p / 4 * 4)
def mesM (B : Nat × Nat × Nat × Nat) (P : mP) (T : mT) (g t w : Nat) : Nat := if w = 0 then cnt (fun v => pstB B P T (4 * g + v / 8) (v % 8) t) 32 else if w = 1 then slc (cnt (fun v => pstB B P T (4 * g + v / 8) (v % 8) t) 32) else pcs (fun v => pstB B P T (4 * g + v / 8) (v % 8) t) 32 32
def sumP (B : Nat × Nat × Nat × Nat) (P : mP) (T : mT) (g w p : Nat) : Nat → Nat
  | 0 => 0
  | i + 1 => sumP B P T g w p i + (if fstM B P T p i = true then (if w = 3 then 1 else mesM B P T g (12 * p + i) w) else 0)
def sumM (B : Nat × Nat × Nat × Nat) (P : mP) (T : mT) (g w : Nat) : Nat → Nat
  | 0 => 0
  | d + 1 => sumM B P T g w d + sumP B P T g w (4 * g + d) (idxN B T.1 (4 * g + d))
theorem idxN_le {B : Nat × Nat × Nat × Nat} {P : mP} {T : mT} {j : Nat} (hO : MOk P T) (hj : j < 24) (hd : B.2.2.1 ≤ 12) : idxN B T.1 j ≤ 12 := by
  unfold idxN
  have := (hO.2.2 j hj).2
  split
  · exact this
  · split <;> omega

set_option maxHeartbeats 4000000 in
set_option maxRecDepth 100000 in
theorem kM_same (G : zG) (d : Nat) (hd : 1 ≤ d) {n : Nat} {sh : zSh} {row : zRw} {m : Nat} {A : Nat × (Nat → Nat)} {B : Nat × Nat × Nat × Nat} {P : (Nat → Int32) × (Nat → Int32) × (Nat → Bool) × (Nat → Nat) × (Nat → Nat)} {T : (Nat → Nat) × (Nat → Nat) × (Nat → Nat)} {S : (Nat → Nat) × (Nat → Bool)} {H : (Nat → Bool) × (Nat → Nat) × (Nat → Nat) × (Nat → Nat)} (hM : MA sh row m A B P T S H) (hO : MOk P T) {s t : Nat} (hs : s < 288) (ht : t < 288) : zM G (fM_same d) [.ref m, .int (nI s), .int (nI t)] n sh row (zP sh row (.int (bI (samB P T s t)))) := by
  refine zM.of (by show plainName "PostIndexModel" = true; decide +kernel) (Nat.le_of_ble_eq_true rfl) (by intro v hv; simp at hv; rcases hv with rfl | rfl | rfl <;> rfl) ?_
  intro K hE
  show zX G K (fM_same d) n 0 0 sh row 0 [.ref m, .int (nI s), .int (nI t), .retAddr 0, .retAddr 0, .retAddr 0] []
  have hD : d - 1 + 1 ≤ d := by omega
  obtain ⟨⟨go, g_dr, g_au, g_ti, g_er, g_ln, g_tx, g_tk, g_fr, g_to, g_rw, g_pk, g_tn, g_bd, g_ql, g_qy, g_any, g_all, g_pa, g_mi, g_wf, g_wt⟩, ⟨p_dr, p_au, p_ti, p_er, p_ln, p_tx, p_tk, p_fr, p_to, p_rw, p_pk, p_tn, p_bd, p_ql, p_qy, p_any, p_all, p_pa, p_mi, p_wf, p_wt⟩, ⟨f_dl, f_md, f_pb, f_dn, f_sn⟩, a_dr, a_au, a_ti, a_er, a_ln, a_tx, a_tk, a_fr, a_to, a_rw, a_pk, a_tn, a_bd, a_ql, a_qy⟩ := id hM
  obtain ⟨x1, x2⟩ := hO.1 s hs
  obtain ⟨x3, x4⟩ := hO.1 t ht
  have loop : ∀ (q k : Nat) (e : Bool), (T.2.2 s - T.2.1 s) - k < q → k ≤ T.2.2 s - T.2.1 s → (e = true → T.2.2 s - T.2.1 s = T.2.2 t - T.2.1 t ∧ ∀ j, j < k → fold1 (P.2.2.2.2 (T.2.1 s + j)) = fold1 (P.2.2.2.2 (T.2.1 t + j))) → (e = false → ¬ tokW P T s = tokW P T t) → zX G K (fM_same d) n 0 0 sh row 41 [.ref m, .int (nI s), .int (nI t), .int (nI (T.2.2 s - T.2.1 s)), .int (bI e), .int (nI k)] [] := by
    intro q
    induction q with
    | zero => intro k e hk; exact absurd hk (Nat.not_lt_zero _)
    | succ q ih =>
      intro k e hk h3 h4 h5
      refine zx_iload dM_same_41 rfl ?_
      refine zx_iload_n dM_same_43 rfl ?_
      refine zn_icmp_ge (tgt := 102) dM_same_44 rfl (by omega) (by omega) (fun h44 => ?_) (fun h44 => ?_)
      · refine zx_iload dM_same_102 rfl ?_
        exact zx_zret hE rfl (by first | decide | exact bI_nar _) dM_same_104 rfl (Nat.le_of_ble_eq_true rfl) (by
          refine ⟨?_, rfl, rfl⟩
          unfold samB
          cases e with
          | false => rw [decide_eq_false (h5 rfl)]
          | true =>
            obtain ⟨u1, u2⟩ := h4 rfl
            rw [decide_eq_true]
            unfold tokW
            rw [u1]
            apply List.map_congr_left
            intro j hj
            exact u2 j (by have := List.mem_range.mp hj; first | omega | (exact absurd h49 (by decide))))
      · refine zx_iload dM_same_47 rfl ?_
        refine zb_if_eq (tgt := 102) dM_same_49 rfl (fun h49 => ?_) (fun h49 => ?_)
        · refine zx_iload dM_same_102 rfl ?_
          exact zx_zret hE rfl (by first | decide | exact bI_nar _) dM_same_104 rfl (Nat.le_of_ble_eq_true rfl) (by
          refine ⟨?_, rfl, rfl⟩
          unfold samB
          cases e with
          | false => rw [decide_eq_false (h5 rfl)]
          | true =>
            obtain ⟨u1, u2⟩ := h4 rfl
            rw [decide_eq_true]
            unfold tokW
            rw [u1]
            apply List.map_congr_left
            intro j hj
            exact u2 j (by have := List.mem_range.mp hj; first | omega | (exact absurd h49 (by decide))))
        · refine zx_aload_n dM_same_52 rfl ?_
          refine zx_get dM_same_53 flM_26 (by assumption) (by assumption) ?_
          refine zx_aload_n dM_same_56 rfl ?_
          refine zx_get dM_same_57 flM_32 (by assumption) (by assumption) ?_
          refine zx_iload_n dM_same_60 rfl ?_
          obtain ⟨u1, u2⟩ := h4 h49
          have v1 := hO.2.1 (T.2.1 s + k) (by omega)
          have v2 := hO.2.1 (T.2.1 t + k) (by omega)
          refine zn_iald dM_same_61 g_fr rfl (by omega) (by decide) (a_fr s (by omega)) ?_
          refine zx_iload dM_same_62 rfl ?_
          refine zn_iadd dM_same_64 ?_
          refine zn_iald dM_same_65 g_tx rfl (by omega) (by decide) (a_tx _ (by omega)) ?_
          refine zc_S (n0 := n) (ce := 0) (kM_small G (d - 1) (by omega) (by omega)) (meM_small _) lkM_107 rfl hD (Nat.le_of_ble_eq_true rfl) rfl rfl (Nat.le_of_ble_eq_true rfl) (Nat.le_of_ble_eq_true rfl) (Nat.le_of_ble_eq_true rfl) dM_same_66 ?_
          refine zx_aload_n dM_same_69 rfl ?_
          refine zx_get dM_same_70 flM_26 (by assumption) (by assumption) ?_
          refine zx_aload_n dM_same_73 rfl ?_
          refine zx_get dM_same_74 flM_32 (by assumption) (by assumption) ?_
          refine zx_iload_n dM_same_77 rfl ?_
          refine zn_iald dM_same_78 g_fr rfl (by omega) (by decide) (a_fr t (by omega)) ?_
          refine zx_iload dM_same_79 rfl ?_
          refine zn_iadd dM_same_81 ?_
          refine zn_iald dM_same_82 g_tx rfl (by omega) (by decide) (a_tx _ (by omega)) ?_
          refine zc_S (n0 := n) (ce := 0) (kM_small G (d - 1) (by omega) (by omega)) (meM_small _) lkM_107 rfl hD (Nat.le_of_ble_eq_true rfl) rfl rfl (Nat.le_of_ble_eq_true rfl) (Nat.le_of_ble_eq_true rfl) (Nat.le_of_ble_eq_true rfl) dM_same_83 ?_
          have w1 := fold1_127 v1
          have w2 := fold1_127 v2
          refine zn_icmp_ne (tgt := 93) dM_same_86 rfl (by omega) (by omega) (fun h86 => ?_) (fun h86 => ?_)
          · refine zx_iconst (v := nI 0) dM_same_93 (by decide) ?_
            refine zx_istore dM_same_94 (Nat.le_of_ble_eq_true rfl) rfl rfl ?_
            refine zn_iinc (c := 1) dM_same_96 (Nat.le_of_ble_eq_true rfl) rfl rfl ?_
            refine zx_goto (tgt := 41) dM_same_99 rfl ?_
            first
            | (refine ih (k + 1) true (by omega) (by omega) (fun _ => ⟨u1, fun j hj => ?_⟩) (fun h => by cases h)
               by_cases hjk : j = k
               · rw [hjk]; exact h86
               · exact u2 j (by omega))
            | (refine ih (k + 1) false (by omega) (by omega) (fun h => by cases h) (fun _ he => h86 ?_)
               have e1 := tokW_get (P := P) (T := T) (s := s) (k := k) (by omega)
               have e2 := tokW_get (P := P) (T := T) (s := t) (k := k) (by omega)
               rw [he, e2] at e1
               exact (Option.some.inj e1).symm)
          · refine zx_iconst (v := nI 1) dM_same_89 (by decide) ?_
            refine zx_goto (tgt := 94) dM_same_90 rfl ?_
            refine zx_istore dM_same_94 (Nat.le_of_ble_eq_true rfl) rfl rfl ?_
            refine zn_iinc (c := 1) dM_same_96 (Nat.le_of_ble_eq_true rfl) rfl rfl ?_
            refine zx_goto (tgt := 41) dM_same_99 rfl ?_
            first
            | (refine ih (k + 1) true (by omega) (by omega) (fun _ => ⟨u1, fun j hj => ?_⟩) (fun h => by cases h)
               by_cases hjk : j = k
               · rw [hjk]; exact h86
               · exact u2 j (by omega))
            | (refine ih (k + 1) false (by omega) (by omega) (fun h => by cases h) (fun _ he => h86 ?_)
               have e1 := tokW_get (P := P) (T := T) (s := s) (k := k) (by omega)
               have e2 := tokW_get (P := P) (T := T) (s := t) (k := k) (by omega)
               rw [he, e2] at e1
               exact (Option.some.inj e1).symm)
  refine zx_aload_n dM_same_0 rfl ?_
  refine zx_get dM_same_1 flM_35 (by assumption) (by assumption) ?_
  refine zx_iload_n dM_same_4 rfl ?_
  refine zn_iald dM_same_5 g_to rfl (by omega) (by decide) (a_to s hs) ?_
  refine zx_aload_n dM_same_6 rfl ?_
  refine zx_get dM_same_7 flM_32 (by assumption) (by assumption) ?_
  refine zx_iload_n dM_same_10 rfl ?_
  refine zn_iald dM_same_11 g_fr rfl (by omega) (by decide) (a_fr s hs) ?_
  refine zn_isub dM_same_12 (by omega) ?_
  refine zx_istore_n dM_same_13 (Nat.le_of_ble_eq_true rfl) rfl rfl ?_
  refine zx_iload_n dM_same_14 rfl ?_
  refine zx_aload_n dM_same_15 rfl ?_
  refine zx_get dM_same_16 flM_35 (by assumption) (by assumption) ?_
  refine zx_iload_n dM_same_19 rfl ?_
  refine zn_iald dM_same_20 g_to rfl (by omega) (by decide) (a_to t ht) ?_
  refine zx_aload_n dM_same_21 rfl ?_
  refine zx_get dM_same_22 flM_32 (by assumption) (by assumption) ?_
  refine zx_iload_n dM_same_25 rfl ?_
  refine zn_iald dM_same_26 g_fr rfl (by omega) (by decide) (a_fr t ht) ?_
  refine zn_isub dM_same_27 (by omega) ?_
  refine zn_icmp_ne (tgt := 35) dM_same_28 rfl (by omega) (by omega) (fun h28 => ?_) (fun h28 => ?_)
  · refine zx_iconst (v := nI 0) dM_same_35 (by decide) ?_
    refine zx_istore dM_same_36 (Nat.le_of_ble_eq_true rfl) rfl rfl ?_
    refine zx_iconst (v := nI 0) dM_same_38 (by decide) ?_
    refine zx_istore dM_same_39 (Nat.le_of_ble_eq_true rfl) rfl rfl ?_
    first | exact loop _ 0 true (Nat.lt_succ_self _) (Nat.zero_le _) (fun _ => ⟨h28, fun j hj => absurd hj (Nat.not_lt_zero _)⟩) (fun h => by cases h) | exact loop _ 0 false (Nat.lt_succ_self _) (Nat.zero_le _) (fun h => by cases h) (fun _ he => h28 (by have := congrArg List.length he; rw [tokW_len, tokW_len] at this; exact this))
  · refine zx_iconst (v := nI 1) dM_same_31 (by decide) ?_
    refine zx_goto (tgt := 36) dM_same_32 rfl ?_
    refine zx_istore dM_same_36 (Nat.le_of_ble_eq_true rfl) rfl rfl ?_
    refine zx_iconst (v := nI 0) dM_same_38 (by decide) ?_
    refine zx_istore dM_same_39 (Nat.le_of_ble_eq_true rfl) rfl rfl ?_
    first | exact loop _ 0 true (Nat.lt_succ_self _) (Nat.zero_le _) (fun _ => ⟨h28, fun j hj => absurd hj (Nat.not_lt_zero _)⟩) (fun h => by cases h) | exact loop _ 0 false (Nat.lt_succ_self _) (Nat.zero_le _) (fun h => by cases h) (fun _ he => h28 (by have := congrArg List.length he; rw [tokW_len, tokW_len] at this; exact this))

set_option maxHeartbeats 4000000 in
set_option maxRecDepth 100000 in
theorem kM_posted (G : zG) (d : Nat) (hd : 2 ≤ d) {n : Nat} {sh : zSh} {row : zRw} {m : Nat} {A : Nat × (Nat → Nat)} {B : Nat × Nat × Nat × Nat} {P : (Nat → Int32) × (Nat → Int32) × (Nat → Bool) × (Nat → Nat) × (Nat → Nat)} {T : (Nat → Nat) × (Nat → Nat) × (Nat → Nat)} {S : (Nat → Nat) × (Nat → Bool)} {H : (Nat → Bool) × (Nat → Nat) × (Nat → Nat) × (Nat → Nat)} (hM : MA sh row m A B P T S H) (hO : MOk P T) {p pl t : Nat} (hp : p < 24) (hpl : pl < 8) (ht : t < 288) (hmd : B.1 ≤ 24) (hpb : B.2.1 ≤ 24) (hdn : B.2.2.1 ≤ 12) : zM G (fM_posted d) [.ref m, .int (nI p), .int (nI pl), .int (nI t)] n sh row (zP sh row (.int (bI (pstB B P T p pl t)))) := by
  refine zM.of (by show plainName "PostIndexModel" = true; decide +kernel) (Nat.le_of_ble_eq_true rfl) (by intro v hv; simp at hv; rcases hv with rfl | rfl | rfl | rfl <;> rfl) ?_
  intro K hE
  show zX G K (fM_posted d) n 0 0 sh row 0 [.ref m, .int (nI p), .int (nI pl), .int (nI t), .retAddr 0] []
  have hD : d - 1 + 1 ≤ d := by omega
  obtain ⟨⟨go, g_dr, g_au, g_ti, g_er, g_ln, g_tx, g_tk, g_fr, g_to, g_rw, g_pk, g_tn, g_bd, g_ql, g_qy, g_any, g_all, g_pa, g_mi, g_wf, g_wt⟩, ⟨p_dr, p_au, p_ti, p_er, p_ln, p_tx, p_tk, p_fr, p_to, p_rw, p_pk, p_tn, p_bd, p_ql, p_qy, p_any, p_all, p_pa, p_mi, p_wf, p_wt⟩, ⟨f_dl, f_md, f_pb, f_dn, f_sn⟩, a_dr, a_au, a_ti, a_er, a_ln, a_tx, a_tk, a_fr, a_to, a_rw, a_pk, a_tn, a_bd, a_ql, a_qy⟩ := id hM
  have loop : ∀ (k : Nat) (j : Nat), idxN B T.1 p - j < k → pl ≤ j → (∀ i, pl ≤ i → i < j → samB P T (12 * p + i) t = false) → (j ≤ pl + 1 ∨ pl = 7) → j ≤ 12 → zX G K (fM_posted d) n 0 0 sh row 3 [.ref m, .int (nI p), .int (nI pl), .int (nI t), .int (nI j)] [] := by
    intro k
    induction k with
    | zero => intro j hk; exact absurd hk (Nat.not_lt_zero _)
    | succ k ih =>
      intro j hk h3 h4 h5 h6
      refine zx_iload dM_posted_3 rfl ?_
      refine zx_aload_n dM_posted_5 rfl ?_
      refine zx_iload_n dM_posted_6 rfl ?_
      refine zc_V (n0 := n) (ce := 0) (kM_indexed G (d - 1) (by omega) hM hp hmd hpb (by omega)) (meM_indexed _) lkM_111 go rfl rfl hD (Nat.le_of_ble_eq_true rfl) rfl rfl (Nat.le_of_ble_eq_true rfl) (Nat.le_of_ble_eq_true rfl) (Nat.le_of_ble_eq_true rfl) dM_posted_7 ?_
      have hil := idxN_le (B := B) hO hp hdn
      refine zn_icmp_ge (tgt := 48) dM_posted_10 rfl (by omega) (by omega) (fun h10 => ?_) (fun h10 => ?_)
      · refine zx_iconst (v := nI 0) dM_posted_48 (by decide) ?_
        exact zx_zret hE rfl (by first | decide | exact bI_nar _) dM_posted_49 rfl (Nat.le_of_ble_eq_true rfl) (by
        refine ⟨?_, rfl, rfl⟩
        unfold pstB
        by_cases h7 : pl = 7
        · first
          | exact absurd h7 (by omega)
          | (rw [if_pos h7, exB_t (i := j - 7) (by omega) (by rw [show 7 + (j - 7) = j by omega]; exact h37)]; rfl)
          | (rw [if_pos h7, exB_f (fun i hi => h4 (7 + i) (by omega) (by omega))]; rfl)
        · rw [if_neg h7]
          first
          | (rw [decide_eq_true (by omega), show pl = j by omega, h37]; rfl)
          | (by_cases hx : pl < idxN B T.1 p
             · rw [h4 pl (Nat.le_refl _) (by omega), Bool.and_false]; rfl
             · rw [decide_eq_false hx]; rfl))
      · refine zx_iload dM_posted_13 rfl ?_
        refine zx_iload_n dM_posted_15 rfl ?_
        refine zn_icmp_eq (tgt := 25) dM_posted_16 rfl (by omega) (by omega) (fun h16 => ?_) (fun h16 => ?_)
        · refine zx_aload_n dM_posted_25 rfl ?_
          refine zx_bipush (v := nI 12) dM_posted_26 (by decide) ?_
          refine zx_iload_n dM_posted_28 rfl ?_
          refine zn_imul dM_posted_29 ?_
          refine zx_iload dM_posted_30 rfl ?_
          refine zn_iadd dM_posted_32 ?_
          refine zx_iload_n dM_posted_33 rfl ?_
          refine zc_V (n0 := n) (ce := 0) (kM_same G (d - 1) (by omega) hM hO (by omega) ht) (meM_same _) lkM_114 go rfl rfl hD (Nat.le_of_ble_eq_true rfl) rfl rfl (Nat.le_of_ble_eq_true rfl) (Nat.le_of_ble_eq_true rfl) (Nat.le_of_ble_eq_true rfl) dM_posted_34 ?_
          refine zb_if_eq (tgt := 42) dM_posted_37 rfl (fun h37 => ?_) (fun h37 => ?_)
          · refine zn_iinc (c := 1) dM_posted_42 (Nat.le_of_ble_eq_true rfl) rfl rfl ?_
            refine zx_goto (tgt := 3) dM_posted_45 rfl ?_
            exact ih (j + 1) (by omega) (by omega) (fun i h1 h2 => by by_cases hij : i = j; rw [hij]; exact h37; exact h4 i h1 (by omega)) (by omega) (by omega)
          · refine zx_iconst (v := nI 1) dM_posted_40 (by decide) ?_
            exact zx_zret hE rfl (by first | decide | exact bI_nar _) dM_posted_41 rfl (Nat.le_of_ble_eq_true rfl) (by
        refine ⟨?_, rfl, rfl⟩
        unfold pstB
        by_cases h7 : pl = 7
        · first
          | exact absurd h7 (by omega)
          | (rw [if_pos h7, exB_t (i := j - 7) (by omega) (by rw [show 7 + (j - 7) = j by omega]; exact h37)]; rfl)
          | (rw [if_pos h7, exB_f (fun i hi => h4 (7 + i) (by omega) (by omega))]; rfl)
        · rw [if_neg h7]
          first
          | (rw [decide_eq_true (by omega), show pl = j by omega, h37]; rfl)
          | (by_cases hx : pl < idxN B T.1 p
             · rw [h4 pl (Nat.le_refl _) (by omega), Bool.and_false]; rfl
             · rw [decide_eq_false hx]; rfl))
        · refine zx_iload_n dM_posted_19 rfl ?_
          refine zx_bipush (v := nI 7) dM_posted_20 (by decide) ?_
          refine zn_icmp_ne (tgt := 48) dM_posted_22 rfl (by omega) (by omega) (fun h22 => ?_) (fun h22 => ?_)
          · refine zx_iconst (v := nI 0) dM_posted_48 (by decide) ?_
            exact zx_zret hE rfl (by first | decide | exact bI_nar _) dM_posted_49 rfl (Nat.le_of_ble_eq_true rfl) (by
        refine ⟨?_, rfl, rfl⟩
        unfold pstB
        by_cases h7 : pl = 7
        · first
          | exact absurd h7 (by omega)
          | (rw [if_pos h7, exB_t (i := j - 7) (by omega) (by rw [show 7 + (j - 7) = j by omega]; exact h37)]; rfl)
          | (rw [if_pos h7, exB_f (fun i hi => h4 (7 + i) (by omega) (by omega))]; rfl)
        · rw [if_neg h7]
          first
          | (rw [decide_eq_true (by omega), show pl = j by omega, h37]; rfl)
          | (by_cases hx : pl < idxN B T.1 p
             · rw [h4 pl (Nat.le_refl _) (by omega), Bool.and_false]; rfl
             · rw [decide_eq_false hx]; rfl))
          · refine zx_aload_n dM_posted_25 rfl ?_
            refine zx_bipush (v := nI 12) dM_posted_26 (by decide) ?_
            refine zx_iload_n dM_posted_28 rfl ?_
            refine zn_imul dM_posted_29 ?_
            refine zx_iload dM_posted_30 rfl ?_
            refine zn_iadd dM_posted_32 ?_
            refine zx_iload_n dM_posted_33 rfl ?_
            refine zc_V (n0 := n) (ce := 0) (kM_same G (d - 1) (by omega) hM hO (by omega) ht) (meM_same _) lkM_114 go rfl rfl hD (Nat.le_of_ble_eq_true rfl) rfl rfl (Nat.le_of_ble_eq_true rfl) (Nat.le_of_ble_eq_true rfl) (Nat.le_of_ble_eq_true rfl) dM_posted_34 ?_
            refine zb_if_eq (tgt := 42) dM_posted_37 rfl (fun h37 => ?_) (fun h37 => ?_)
            · refine zn_iinc (c := 1) dM_posted_42 (Nat.le_of_ble_eq_true rfl) rfl rfl ?_
              refine zx_goto (tgt := 3) dM_posted_45 rfl ?_
              exact ih (j + 1) (by omega) (by omega) (fun i h1 h2 => by by_cases hij : i = j; rw [hij]; exact h37; exact h4 i h1 (by omega)) (by omega) (by omega)
            · refine zx_iconst (v := nI 1) dM_posted_40 (by decide) ?_
              exact zx_zret hE rfl (by first | decide | exact bI_nar _) dM_posted_41 rfl (Nat.le_of_ble_eq_true rfl) (by
        refine ⟨?_, rfl, rfl⟩
        unfold pstB
        by_cases h7 : pl = 7
        · first
          | exact absurd h7 (by omega)
          | (rw [if_pos h7, exB_t (i := j - 7) (by omega) (by rw [show 7 + (j - 7) = j by omega]; exact h37)]; rfl)
          | (rw [if_pos h7, exB_f (fun i hi => h4 (7 + i) (by omega) (by omega))]; rfl)
        · rw [if_neg h7]
          first
          | (rw [decide_eq_true (by omega), show pl = j by omega, h37]; rfl)
          | (by_cases hx : pl < idxN B T.1 p
             · rw [h4 pl (Nat.le_refl _) (by omega), Bool.and_false]; rfl
             · rw [decide_eq_false hx]; rfl))
  refine zx_iload_n dM_posted_0 rfl ?_
  refine zx_istore dM_posted_1 (Nat.le_of_ble_eq_true rfl) rfl rfl ?_
  exact loop _ pl (Nat.lt_succ_self _) (Nat.le_refl _) (fun i h1 h2 => absurd h2 (by omega)) (by omega) (by omega)

