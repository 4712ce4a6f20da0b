def qW (xs : List Nat) (a b : Nat) : List Nat := (List.range (b - a)).map (fun k => fold1 (at0 xs (a + k)))
theorem qW_len {xs : List Nat} {a b : Nat} : (qW xs a b).length = b - a := by unfold qW; simp
theorem qW_get {xs : List Nat} {a b k : Nat} (h : k < b - a) : (qW xs a b)[k]? = some (fold1 (at0 xs (a + k))) := by
  unfold qW; rw [List.getElem?_map, List.getElem?_range h]; rfl
def stdB (P : mP) (T : mT) (p pl : Nat) (w : List Nat) : Bool := if pl = 7 then exB (fun d => decide (tokW P T (12 * p + (7 + d)) = w)) (T.1 p - 7) else (decide (pl < T.1 p) && decide (tokW P T (12 * p + pl) = w))
def alB (f : Nat → Bool) : Nat → Bool
  | 0 => true
  | n + 1 => alB f n && f n
theorem alB_t {f : Nat → Bool} {n : Nat} (h : ∀ i, i < n → f i = true) : alB f n = true := by
  induction n with
  | zero => rfl
  | succ n ih => show (alB f n && f n) = true; rw [ih (fun i hi => h i (by omega)), h n (by omega)]; rfl
theorem alB_f {f : Nat → Bool} {n i : Nat} (h : i < n) (hi : f i = false) : alB f n = false := by
  induction n with
  | zero => omega
  | succ n ih =>
    show (alB f n && f n) = false
    by_cases e : i = n
    · rw [← e, hi]; simp
    · rw [ih (by omega)]; rfl
def rowM (P : mP) (T : mT) (p : Nat) (xs : List Nat) (L : List (Nat × Nat)) : Bool := exB (fun p0 => alB (fun k => stdB P T p (p0 + k) (qW xs (L.getD k (0, 0)).1 (L.getD k (0, 0)).2)) L.length) (9 - L.length)

set_option maxHeartbeats 4000000 in
set_option maxRecDepth 100000 in
theorem kM_stands (G : zG) (d : Nat) (hd : 1 ≤ d) {n : Nat} {sh : zSh} {row : zRw} {m : Nat} {A : Nat × (Nat → Nat)} {B : Nat × Nat × Nat × Nat} {P : (Nat → Int32) × (Nat → Int32) × (Nat → Bool) × (Nat → Nat) × (Nat → Nat)} {T : (Nat → Nat) × (Nat → Nat) × (Nat → Nat)} {S : (Nat → Nat) × (Nat → Bool)} {H : (Nat → Bool) × (Nat → Nat) × (Nat → Nat) × (Nat → Nat)} (hM : MA sh row m A B P T S H) (hO : MOk P T) {j a b p pl : Nat} {xs : List Nat} (hj : j < 4) (hq : qyA H j xs) (hl : xs.length ≤ 24) (hch : ∀ k, at0 xs k < 127) (hab : a ≤ b) (hbl : b ≤ xs.length) (hp : p < 24) (hpl : pl < 8) : zM G (fM_stands d) [.ref m, .int (nI j), .int (nI a), .int (nI b), .int (nI p), .int (nI pl)] n sh row (zP sh row (.int (bI (stdB P T p pl (qW xs a b))))) := by
  refine zM.of (by show plainName "PostIndexModel" = true; decide +kernel) (Nat.le_of_ble_eq_true rfl) (by intro v hv; simp at hv; rcases hv with rfl | rfl | rfl | rfl | rfl | rfl <;> rfl) ?_
  intro K hE
  show zX G K (fM_stands d) n 0 0 sh row 0 [.ref m, .int (nI j), .int (nI a), .int (nI b), .int (nI p), .int (nI pl), .retAddr 0, .retAddr 0, .retAddr 0, .retAddr 0] []
  have hD : d - 1 + 1 ≤ d := by omega
  obtain ⟨⟨go, g_dr, g_au, g_ti, g_er, g_ln, g_tx, g_tk, g_fr, g_to, g_rw, g_pk, g_tn, g_bd, g_ql, g_qy, g_any, g_all, g_pa, g_mi, g_wf, g_wt⟩, ⟨p_dr, p_au, p_ti, p_er, p_ln, p_tx, p_tk, p_fr, p_to, p_rw, p_pk, p_tn, p_bd, p_ql, p_qy, p_any, p_all, p_pa, p_mi, p_wf, p_wt⟩, ⟨f_dl, f_md, f_pb, f_dn, f_sn⟩, a_dr, a_au, a_ti, a_er, a_ln, a_tx, a_tk, a_fr, a_to, a_rw, a_pk, a_tn, a_bd, a_ql, a_qy⟩ := id hM
  have loop : ∀ (kk i : Nat) (v7 v8 v9 : Value), T.1 p - i < kk → pl ≤ i → v7.category = 1 → v8.category = 1 → v9.category = 1 → (∀ q, pl ≤ q → q < i → decide (tokW P T (12 * p + q) = qW xs a b) = false) → (i ≤ pl + 1 ∨ pl = 7) → i ≤ 12 → zX G K (fM_stands d) n 0 0 sh row 4 [.ref m, .int (nI j), .int (nI a), .int (nI b), .int (nI p), .int (nI pl), .int (nI i), v7, v8, v9] [] := by
    intro kk
    induction kk with
    | zero => intro i v7 v8 v9 hk; exact absurd hk (Nat.not_lt_zero _)
    | succ kk ih =>
      intro i v7 v8 v9 hk h3 hv7 hv8 hv9 h5 h6 h6b
      have htp := (hO.2.2 p hp).2
      have m66 : ∀ e0 : Bool, (e0 = true → T.2.2 (12 * p + i) - T.2.1 (12 * p + i) = b - a) → (e0 = false → ¬ T.2.2 (12 * p + i) - T.2.1 (12 * p + i) = b - a) → i < T.1 p → (i = pl ∨ pl = 7) → zX G K (fM_stands d) n 0 0 sh row 66 [.ref m, .int (nI j), .int (nI a), .int (nI b), .int (nI p), .int (nI pl), .int (nI i), .int (nI (12 * p + i)), v8, v9] [.int (bI e0)] := by
        intro e0 he1 he2 hit hip
        obtain ⟨y1, y2⟩ := hO.1 (12 * p + i) (by omega)
        have m130 : ∀ (e : Bool) (k : Nat), decide (tokW P T (12 * p + i) = qW xs a b) = e → zX G K (fM_stands d) n 0 0 sh row 130 [.ref m, .int (nI j), .int (nI a), .int (nI b), .int (nI p), .int (nI pl), .int (nI i), .int (nI (12 * p + i)), .int (bI e), .int (nI k)] [] := by
          intro e k hz
          refine zx_iload dM_stands_130 rfl ?_
          refine zb_if_eq (tgt := 137) dM_stands_132 rfl (fun h132 => ?_) (fun h132 => ?_)
          · refine zn_iinc (c := 1) dM_stands_137 (Nat.le_of_ble_eq_true rfl) (by first | rfl | (simp only [List.set, List.all_cons, List.all_nil, hv7, hv8, hv9]; done) | (simp only [List.set, List.all_cons, List.all_nil, hv7, hv8, hv9]; rfl)) rfl ?_
            refine zx_goto (tgt := 4) dM_stands_140 rfl ?_
            exact ih (i + 1) _ _ _ (by omega) (by omega) rfl rfl rfl (fun q h1 h2 => by by_cases hij : q = i; rw [hij, hz]; exact h132; exact h5 q h1 (by omega)) (by omega) (by omega)
          · refine zx_iconst (v := nI 1) dM_stands_135 (by decide) ?_
            exact zx_zret hE rfl (by first | decide | exact bI_nar _) dM_stands_136 rfl (Nat.le_of_ble_eq_true rfl) (by
            refine ⟨?_, rfl, rfl⟩
            unfold stdB
            by_cases h7 : pl = 7
            · rw [if_pos h7, exB_t (f := fun d => decide (tokW P T (12 * p + (7 + d)) = qW xs a b)) (i := i - 7) (by omega) (by show decide (tokW P T (12 * p + (7 + (i - 7))) = qW xs a b) = true; rw [show 7 + (i - 7) = i by omega, hz]; exact h132)]; rfl
            · rw [if_neg h7, decide_eq_true (show pl < T.1 p by omega), show pl = i by omega, hz, h132]; rfl)
        have inn : ∀ (k2 k : Nat) (e : Bool), (b - a) - k < k2 → k ≤ b - a → (e = true → T.2.2 (12 * p + i) - T.2.1 (12 * p + i) = b - a ∧ ∀ q, q < k → fold1 (P.2.2.2.2 (T.2.1 (12 * p + i) + q)) = fold1 (at0 xs (a + q))) → (e = false → ¬ tokW P T (12 * p + i) = qW xs a b) → zX G K (fM_stands d) n 0 0 sh row 71 [.ref m, .int (nI j), .int (nI a), .int (nI b), .int (nI p), .int (nI pl), .int (nI i), .int (nI (12 * p + i)), .int (bI e), .int (nI k)] [] := by
          intro k2
          induction k2 with
          | zero => intro k e hk; exact absurd hk (Nat.not_lt_zero _)
          | succ k2 ih2 =>
          intro k e z1 z3 z4 z5
          refine zx_iload dM_stands_71 rfl ?_
          refine zx_iload_n dM_stands_73 rfl ?_
          refine zx_iload_n dM_stands_74 rfl ?_
          refine zn_isub dM_stands_75 (by omega) ?_
          refine zn_icmp_ge (tgt := 130) dM_stands_76 rfl (by omega) (by omega) (fun h76 => ?_) (fun h76 => ?_)
          · have hz : decide (tokW P T (12 * p + i) = qW xs a b) = e := by
              cases e with
              | false => exact decide_eq_false (z5 rfl)
              | true =>
                obtain ⟨u1, u2⟩ := z4 rfl
                refine decide_eq_true ?_
                unfold tokW qW
                rw [u1]
                apply List.map_congr_left
                intro q hqk
                exact u2 q (by have := List.mem_range.mp hqk; first | omega | (exact absurd h81 (by decide)))
            exact m130 e k hz
          · refine zx_iload dM_stands_79 rfl ?_
            refine zb_if_eq (tgt := 130) dM_stands_81 rfl (fun h81 => ?_) (fun h81 => ?_)
            · have hz : decide (tokW P T (12 * p + i) = qW xs a b) = e := by
                cases e with
                | false => exact decide_eq_false (z5 rfl)
                | true =>
                  obtain ⟨u1, u2⟩ := z4 rfl
                  refine decide_eq_true ?_
                  unfold tokW qW
                  rw [u1]
                  apply List.map_congr_left
                  intro q hqk
                  exact u2 q (by have := List.mem_range.mp hqk; first | omega | (exact absurd h81 (by decide)))
              exact m130 e k hz
            · refine zx_aload_n dM_stands_84 rfl ?_
              refine zx_get dM_stands_85 flM_26 (by assumption) (by assumption) ?_
              refine zx_aload_n dM_stands_88 rfl ?_
              refine zx_get dM_stands_89 flM_32 (by assumption) (by assumption) ?_
              refine zx_iload dM_stands_92 rfl ?_
              obtain ⟨u1, u2⟩ := z4 h81
              have v1 := hO.2.1 (T.2.1 (12 * p + i) + k) (by omega)
              have v2 := hch (a + k)
              refine zn_iald dM_stands_94 g_fr rfl (by omega) (by decide) (a_fr _ (by omega)) ?_
              refine zx_iload dM_stands_95 rfl ?_
              refine zn_iadd dM_stands_97 ?_
              refine zn_iald dM_stands_98 g_tx rfl (by omega) (by decide) (a_tx _ (by omega)) ?_
              refine zc_S (n0 := n) (ce := 0) (kM_small G (d - 1) (by omega) (c := P.2.2.2.2 (T.2.1 (12 * p + i) + k)) (by omega)) (meM_small _) lkM_107 rfl hD (Nat.le_of_ble_eq_true rfl) rfl rfl (Nat.le_of_ble_eq_true rfl) (Nat.le_of_ble_eq_true rfl) (Nat.le_of_ble_eq_true rfl) dM_stands_99 ?_
              refine zx_aload_n dM_stands_102 rfl ?_
              refine zx_iload_n dM_stands_103 rfl ?_
              refine zx_iload_n dM_stands_104 rfl ?_
              refine zx_iload dM_stands_105 rfl ?_
              refine zn_iadd dM_stands_107 ?_
              refine zc_V (n0 := n) (ce := 0) (kM_at G (d - 1) (by omega) hM (j := j) (k := a + k) hj hq hl (by omega)) (meM_at _) lkM_139 go rfl rfl hD (Nat.le_of_ble_eq_true rfl) rfl rfl (Nat.le_of_ble_eq_true rfl) (Nat.le_of_ble_eq_true rfl) (Nat.le_of_ble_eq_true rfl) dM_stands_108 ?_
              rw [if_pos (show a + k < xs.length by omega)]
              refine zc_S (n0 := n) (ce := 0) (kM_small G (d - 1) (by omega) (c := at0 xs (a + k)) (by omega)) (meM_small _) lkM_107 rfl hD (Nat.le_of_ble_eq_true rfl) rfl rfl (Nat.le_of_ble_eq_true rfl) (Nat.le_of_ble_eq_true rfl) (Nat.le_of_ble_eq_true rfl) dM_stands_111 ?_
              have w1 := fold1_127 v1
              have w2 := fold1_127 v2
              refine zn_icmp_ne (tgt := 121) dM_stands_114 rfl (by omega) (by omega) (fun h114 => ?_) (fun h114 => ?_)
              · refine zx_iconst (v := nI 0) dM_stands_121 (by decide) ?_
                refine zx_istore dM_stands_122 (Nat.le_of_ble_eq_true rfl) (by first | rfl | (simp only [List.set, List.all_cons, List.all_nil, hv7, hv8, hv9]; done) | (simp only [List.set, List.all_cons, List.all_nil, hv7, hv8, hv9]; rfl)) rfl ?_
                refine zn_iinc (c := 1) dM_stands_124 (Nat.le_of_ble_eq_true rfl) (by first | rfl | (simp only [List.set, List.all_cons, List.all_nil, hv7, hv8, hv9]; done) | (simp only [List.set, List.all_cons, List.all_nil, hv7, hv8, hv9]; rfl)) rfl ?_
                refine zx_goto (tgt := 71) dM_stands_127 rfl ?_
                first
                | (refine ih2 (k + 1) true (by omega) (by omega) (fun _ => ⟨u1, fun q hqk => ?_⟩) (fun h => by cases h)
                   by_cases hjk : q = k
                   · rw [hjk]; exact h114
                   · exact u2 q (by omega))
                | (refine ih2 (k + 1) false (by omega) (by omega) (fun h => by cases h) (fun _ he => h114 ?_)
                   have e1 := tokW_get (P := P) (T := T) (s := 12 * p + i) (k := k) (by omega)
                   have e2 := qW_get (xs := xs) (a := a) (b := b) (k := k) (by omega)
                   rw [he, e2] at e1
                   exact (Option.some.inj e1).symm)
              · refine zx_iconst (v := nI 1) dM_stands_117 (by decide) ?_
                refine zx_goto (tgt := 122) dM_stands_118 rfl ?_
                refine zx_istore dM_stands_122 (Nat.le_of_ble_eq_true rfl) (by first | rfl | (simp only [List.set, List.all_cons, List.all_nil, hv7, hv8, hv9]; done) | (simp only [List.set, List.all_cons, List.all_nil, hv7, hv8, hv9]; rfl)) rfl ?_
                refine zn_iinc (c := 1) dM_stands_124 (Nat.le_of_ble_eq_true rfl) (by first | rfl | (simp only [List.set, List.all_cons, List.all_nil, hv7, hv8, hv9]; done) | (simp only [List.set, List.all_cons, List.all_nil, hv7, hv8, hv9]; rfl)) rfl ?_
                refine zx_goto (tgt := 71) dM_stands_127 rfl ?_
                first
                | (refine ih2 (k + 1) true (by omega) (by omega) (fun _ => ⟨u1, fun q hqk => ?_⟩) (fun h => by cases h)
                   by_cases hjk : q = k
                   · rw [hjk]; exact h114
                   · exact u2 q (by omega))
                | (refine ih2 (k + 1) false (by omega) (by omega) (fun h => by cases h) (fun _ he => h114 ?_)
                   have e1 := tokW_get (P := P) (T := T) (s := 12 * p + i) (k := k) (by omega)
                   have e2 := qW_get (xs := xs) (a := a) (b := b) (k := k) (by omega)
                   rw [he, e2] at e1
                   exact (Option.some.inj e1).symm)
        refine zx_istore dM_stands_66 (Nat.le_of_ble_eq_true rfl) (by first | rfl | (simp only [List.set, List.all_cons, List.all_nil, hv7, hv8, hv9]; done) | (simp only [List.set, List.all_cons, List.all_nil, hv7, hv8, hv9]; rfl)) rfl ?_
        refine zx_iconst (v := nI 0) dM_stands_68 (by decide) ?_
        refine zx_istore dM_stands_69 (Nat.le_of_ble_eq_true rfl) (by first | rfl | (simp only [List.set, List.all_cons, List.all_nil, hv7, hv8, hv9]; done) | (simp only [List.set, List.all_cons, List.all_nil, hv7, hv8, hv9]; rfl)) rfl ?_
        exact inn _ 0 e0 (Nat.lt_succ_self _) (Nat.zero_le _) (fun h => ⟨he1 h, fun q hq => absurd hq (Nat.not_lt_zero _)⟩) (fun h he => he2 h (by have := congrArg List.length he; rw [tokW_len, qW_len] at this; exact this))
      refine zx_iload dM_stands_4 rfl ?_
      refine zx_aload_n dM_stands_6 rfl ?_
      refine zx_get dM_stands_7 flM_29 (by assumption) (by assumption) ?_
      refine zx_iload dM_stands_10 rfl ?_
      refine zn_iald dM_stands_12 g_tk rfl (by omega) (by decide) (a_tk p (by omega)) ?_
      refine zn_icmp_ge (tgt := 143) dM_stands_13 rfl (by omega) (by omega) (fun h13 => ?_) (fun h13 => ?_)
      · refine zx_iconst (v := nI 0) dM_stands_143 (by decide) ?_
        exact zx_zret hE rfl (by first | decide | exact bI_nar _) dM_stands_144 rfl (Nat.le_of_ble_eq_true rfl) (by
        refine ⟨?_, rfl, rfl⟩
        unfold stdB
        by_cases h7 : pl = 7
        · first
          | exact absurd h7 (by omega)
          | (rw [if_pos h7, exB_f (f := fun d => decide (tokW P T (12 * p + (7 + d)) = qW xs a b)) (fun q hq => h5 (7 + q) (by omega) (by omega))]; rfl)
        · rw [if_neg h7]
          by_cases hx : pl < T.1 p
          · rw [h5 pl (Nat.le_refl _) (by omega), Bool.and_false]; rfl
          · rw [decide_eq_false hx]; rfl)
      · refine zx_iload dM_stands_16 rfl ?_
        refine zx_iload dM_stands_18 rfl ?_
        refine zn_icmp_eq (tgt := 30) dM_stands_20 rfl (by omega) (by omega) (fun h20 => ?_) (fun h20 => ?_)
        · refine zx_bipush (v := nI 12) dM_stands_30 (by decide) ?_
          refine zx_iload dM_stands_32 rfl ?_
          refine zn_imul dM_stands_34 ?_
          refine zx_iload dM_stands_35 rfl ?_
          refine zn_iadd dM_stands_37 ?_
          refine zx_istore dM_stands_38 (Nat.le_of_ble_eq_true rfl) (by first | rfl | (simp only [List.set, List.all_cons, List.all_nil, hv7, hv8, hv9]; done) | (simp only [List.set, List.all_cons, List.all_nil, hv7, hv8, hv9]; rfl)) rfl ?_
          refine zx_aload_n dM_stands_40 rfl ?_
          refine zx_get dM_stands_41 flM_35 (by assumption) (by assumption) ?_
          refine zx_iload dM_stands_44 rfl ?_
          obtain ⟨y1, y2⟩ := hO.1 (12 * p + i) (by omega)
          refine zn_iald dM_stands_46 g_to rfl (by omega) (by decide) (a_to _ (by omega)) ?_
          refine zx_aload_n dM_stands_47 rfl ?_
          refine zx_get dM_stands_48 flM_32 (by assumption) (by assumption) ?_
          refine zx_iload dM_stands_51 rfl ?_
          refine zn_iald dM_stands_53 g_fr rfl (by omega) (by decide) (a_fr _ (by omega)) ?_
          refine zn_isub dM_stands_54 (by omega) ?_
          refine zx_iload_n dM_stands_55 rfl ?_
          refine zx_iload_n dM_stands_56 rfl ?_
          refine zn_isub dM_stands_57 (by omega) ?_
          refine zn_icmp_ne (tgt := 65) dM_stands_58 rfl (by omega) (by omega) (fun h58 => ?_) (fun h58 => ?_)
          · refine zx_iconst (v := nI 0) dM_stands_65 (by decide) ?_
            first | exact m66 true (fun _ => h58) (fun h => by cases h) (by omega) (by omega) | exact m66 false (fun h => by cases h) (fun _ => h58) (by omega) (by omega)
          · refine zx_iconst (v := nI 1) dM_stands_61 (by decide) ?_
            refine zx_goto (tgt := 66) dM_stands_62 rfl ?_
            first | exact m66 true (fun _ => h58) (fun h => by cases h) (by omega) (by omega) | exact m66 false (fun h => by cases h) (fun _ => h58) (by omega) (by omega)
        · refine zx_iload dM_stands_23 rfl ?_
          refine zx_bipush (v := nI 7) dM_stands_25 (by decide) ?_
          refine zn_icmp_ne (tgt := 143) dM_stands_27 rfl (by omega) (by omega) (fun h27 => ?_) (fun h27 => ?_)
          · refine zx_iconst (v := nI 0) dM_stands_143 (by decide) ?_
            exact zx_zret hE rfl (by first | decide | exact bI_nar _) dM_stands_144 rfl (Nat.le_of_ble_eq_true rfl) (by
        refine ⟨?_, rfl, rfl⟩
        unfold stdB
        by_cases h7 : pl = 7
        · first
          | exact absurd h7 (by omega)
          | (rw [if_pos h7, exB_f (f := fun d => decide (tokW P T (12 * p + (7 + d)) = qW xs a b)) (fun q hq => h5 (7 + q) (by omega) (by omega))]; rfl)
        · rw [if_neg h7]
          by_cases hx : pl < T.1 p
          · rw [h5 pl (Nat.le_refl _) (by omega), Bool.and_false]; rfl
          · rw [decide_eq_false hx]; rfl)
          · refine zx_bipush (v := nI 12) dM_stands_30 (by decide) ?_
            refine zx_iload dM_stands_32 rfl ?_
            refine zn_imul dM_stands_34 ?_
            refine zx_iload dM_stands_35 rfl ?_
            refine zn_iadd dM_stands_37 ?_
            refine zx_istore dM_stands_38 (Nat.le_of_ble_eq_true rfl) (by first | rfl | (simp only [List.set, List.all_cons, List.all_nil, hv7, hv8, hv9]; done) | (simp only [List.set, List.all_cons, List.all_nil, hv7, hv8, hv9]; rfl)) rfl ?_
            refine zx_aload_n dM_stands_40 rfl ?_
            refine zx_get dM_stands_41 flM_35 (by assumption) (by assumption) ?_
            refine zx_iload dM_stands_44 rfl ?_
            obtain ⟨y1, y2⟩ := hO.1 (12 * p + i) (by omega)
            refine zn_iald dM_stands_46 g_to rfl (by omega) (by decide) (a_to _ (by omega)) ?_
            refine zx_aload_n dM_stands_47 rfl ?_
            refine zx_get dM_stands_48 flM_32 (by assumption) (by assumption) ?_
            refine zx_iload dM_stands_51 rfl ?_
            refine zn_iald dM_stands_53 g_fr rfl (by omega) (by decide) (a_fr _ (by omega)) ?_
            refine zn_isub dM_stands_54 (by omega) ?_
            refine zx_iload_n dM_stands_55 rfl ?_
            refine zx_iload_n dM_stands_56 rfl ?_
            refine zn_isub dM_stands_57 (by omega) ?_
            refine zn_icmp_ne (tgt := 65) dM_stands_58 rfl (by omega) (by omega) (fun h58 => ?_) (fun h58 => ?_)
            · refine zx_iconst (v := nI 0) dM_stands_65 (by decide) ?_
              first | exact m66 true (fun _ => h58) (fun h => by cases h) (by omega) (by omega) | exact m66 false (fun h => by cases h) (fun _ => h58) (by omega) (by omega)
            · refine zx_iconst (v := nI 1) dM_stands_61 (by decide) ?_
              refine zx_goto (tgt := 66) dM_stands_62 rfl ?_
              first | exact m66 true (fun _ => h58) (fun h => by cases h) (by omega) (by omega) | exact m66 false (fun h => by cases h) (fun _ => h58) (by omega) (by omega)
  refine zx_iload dM_stands_0 rfl ?_
  refine zx_istore dM_stands_2 (Nat.le_of_ble_eq_true rfl) rfl rfl ?_
  exact loop _ pl _ _ _ (Nat.lt_succ_self _) (Nat.le_refl _) rfl rfl rfl (fun q h1 h2 => absurd h2 (by omega)) (by omega) (by omega)

set_option maxHeartbeats 4000000 in
set_option maxRecDepth 100000 in
theorem kM_row (G : zG) (d : Nat) (hd : 2 ≤ d) {n : Nat} {sh : zSh} {row : zRw} {m : Nat} {A : Nat × (Nat → Nat)} {B : Nat × Nat × Nat × Nat} {P : (Nat → Int32) × (Nat → Int32) × (Nat → Bool) × (Nat → Nat) × (Nat → Nat)} {T : (Nat → Nat) × (Nat → Nat) × (Nat → Nat)} {S : (Nat → Nat) × (Nat → Bool)} {H : (Nat → Bool) × (Nat → Nat) × (Nat → Nat) × (Nat → Nat)} (hM : MA sh row m A B P T S H) (hO : MOk P T) {j p : Nat} {xs : List Nat} {L : List (Nat × Nat)} (hj : j < 4) (hq : qyA H j xs) (hl : xs.length ≤ 24) (hch : ∀ k, at0 xs k < 127) (hp : p < 24) (hL : wdA row m L) (hLr : ∀ q ∈ L, q.1 ≤ q.2 ∧ q.2 ≤ xs.length) (hLl : L.length ≤ 24) : zM G (fM_row d) [.ref m, .int (nI j), .int (nI p)] n sh row (zP sh row (.int (bI (rowM P T p xs L)))) := by
  refine zM.of (by show plainName "PostIndexModel" = true; decide +kernel) (Nat.le_of_ble_eq_true rfl) (by intro v hv; simp at hv; rcases hv with rfl | rfl | rfl <;> rfl) ?_
  intro K hE
  show zX G K (fM_row d) n 0 0 sh row 0 [.ref m, .int (nI j), .int (nI p), .retAddr 0, .retAddr 0, .retAddr 0] []
  have hD : d - 1 + 1 ≤ d := by omega
  obtain ⟨⟨go, g_dr, g_au, g_ti, g_er, g_ln, g_tx, g_tk, g_fr, g_to, g_rw, g_pk, g_tn, g_bd, g_ql, g_qy, g_any, g_all, g_pa, g_mi, g_wf, g_wt⟩, ⟨p_dr, p_au, p_ti, p_er, p_ln, p_tx, p_tk, p_fr, p_to, p_rw, p_pk, p_tn, p_bd, p_ql, p_qy, p_any, p_all, p_pa, p_mi, p_wf, p_wt⟩, ⟨f_dl, f_md, f_pb, f_dn, f_sn⟩, a_dr, a_au, a_ti, a_er, a_ln, a_tx, a_tk, a_fr, a_to, a_rw, a_pk, a_tn, a_bd, a_ql, a_qy⟩ := id hM
  have h28 := hL.1
  have loop : ∀ (kk p0 : Nat) (v4 v5 : Value), 9 - p0 < kk → p0 ≤ 9 → v4.category = 1 → v5.category = 1 → (∀ q, q < p0 → alB (fun k => stdB P T p (q + k) (qW xs (L.getD k (0, 0)).1 (L.getD k (0, 0)).2)) L.length = false) → zX G K (fM_row d) n 0 0 sh row 2 [.ref m, .int (nI j), .int (nI p), .int (nI p0), v4, v5] [] := by
    intro kk
    induction kk with
    | zero => intro p0 v4 v5 hk; exact absurd hk (Nat.not_lt_zero _)
    | succ kk ih =>
      intro p0 v4 v5 hk h3 hv4 hv5 h5
      have m69 : p0 + L.length ≤ 8 → ∀ (e : Bool) (k : Nat), alB (fun k => stdB P T p (p0 + k) (qW xs (L.getD k (0, 0)).1 (L.getD k (0, 0)).2)) L.length = e → zX G K (fM_row d) n 0 0 sh row 69 [.ref m, .int (nI j), .int (nI p), .int (nI p0), .int (bI e), .int (nI k)] [] := by
          intro hpL e k hz
          refine zx_iload dM_row_69 rfl ?_
          refine zb_if_eq (tgt := 76) dM_row_71 rfl (fun h71 => ?_) (fun h71 => ?_)
          · refine zn_iinc (c := 1) dM_row_76 (Nat.le_of_ble_eq_true rfl) (by first | rfl | (simp only [List.set, List.all_cons, List.all_nil, hv4, hv5]; done) | (simp only [List.set, List.all_cons, List.all_nil, hv4, hv5]; rfl)) rfl ?_
            refine zx_goto (tgt := 2) dM_row_79 rfl ?_
            exact ih (p0 + 1) _ _ (by omega) (by omega) rfl rfl (fun q hqk => by by_cases hij : q = p0; rw [hij, hz]; exact h71; exact h5 q (by omega))
          · refine zx_iconst (v := nI 1) dM_row_74 (by decide) ?_
            exact zx_zret hE rfl (by first | decide | exact bI_nar _) dM_row_75 rfl (Nat.le_of_ble_eq_true rfl) (by refine ⟨?_, rfl, rfl⟩; unfold rowM; rw [exB_t (i := p0) (by omega) (hz.trans h71)]; rfl)
      have inn : p0 + L.length ≤ 8 → ∀ (k2 k : Nat) (e : Bool), L.length - k < k2 → k ≤ L.length → (e = true → ∀ q, q < k → stdB P T p (p0 + q) (qW xs (L.getD q (0, 0)).1 (L.getD q (0, 0)).2) = true) → (e = false → ∃ q, q < L.length ∧ stdB P T p (p0 + q) (qW xs (L.getD q (0, 0)).1 (L.getD q (0, 0)).2) = false) → zX G K (fM_row d) n 0 0 sh row 23 [.ref m, .int (nI j), .int (nI p), .int (nI p0), .int (bI e), .int (nI k)] [] := by
          intro hpL k2
          induction k2 with
          | zero => intro k e hk; exact absurd hk (Nat.not_lt_zero _)
          | succ k2 ih2 =>
          intro k e z1 z3 z4 z5
          refine zx_iload dM_row_23 rfl ?_
          refine zx_aload_n dM_row_25 rfl ?_
          refine zx_get dM_row_26 flM_148 (by assumption) (by assumption) ?_
          refine zn_icmp_ge (tgt := 69) dM_row_29 rfl (by omega) (by omega) (fun h29 => ?_) (fun h29 => ?_)
          · have hz : alB (fun k => stdB P T p (p0 + k) (qW xs (L.getD k (0, 0)).1 (L.getD k (0, 0)).2)) L.length = e := by
              cases e with
              | false =>
                obtain ⟨q, hq1, hq2⟩ := z5 rfl
                exact alB_f (f := fun k => stdB P T p (p0 + k) (qW xs (L.getD k (0, 0)).1 (L.getD k (0, 0)).2)) (i := q) (by omega) hq2
              | true => exact alB_t (fun q hq => z4 rfl q (by first | omega | (exact absurd h34 (by decide))))
            exact m69 hpL e k hz
          · refine zx_iload dM_row_32 rfl ?_
            refine zb_if_eq (tgt := 69) dM_row_34 rfl (fun h34 => ?_) (fun h34 => ?_)
            · have hz : alB (fun k => stdB P T p (p0 + k) (qW xs (L.getD k (0, 0)).1 (L.getD k (0, 0)).2)) L.length = e := by
                cases e with
                | false =>
                  obtain ⟨q, hq1, hq2⟩ := z5 rfl
                  exact alB_f (f := fun k => stdB P T p (p0 + k) (qW xs (L.getD k (0, 0)).1 (L.getD k (0, 0)).2)) (i := q) (by omega) hq2
                | true => exact alB_t (fun q hq => z4 rfl q (by first | omega | (exact absurd h34 (by decide))))
              exact m69 hpL e k hz
            · refine zx_aload_n dM_row_37 rfl ?_
              refine zx_iload_n dM_row_38 rfl ?_
              refine zx_aload_n dM_row_39 rfl ?_
              refine zx_get dM_row_40 flM_68 (by assumption) (by assumption) ?_
              refine zx_iload dM_row_43 rfl ?_
              have hLk : L[k]? = some (L.getD k (0, 0)) := by rw [List.getD_eq_getElem?_getD, List.getElem?_eq_getElem (by omega)]; rfl
              obtain ⟨y1, y2⟩ := hL.2 k _ hLk
              obtain ⟨y3, y4⟩ := hLr _ (List.mem_of_getElem? hLk)
              refine zn_iald dM_row_45 g_wf rfl (by omega) (by decide) y1 ?_
              refine zx_aload_n dM_row_46 rfl ?_
              refine zx_get dM_row_47 flM_71 (by assumption) (by assumption) ?_
              refine zx_iload dM_row_50 rfl ?_
              refine zn_iald dM_row_52 g_wt rfl (by omega) (by decide) y2 ?_
              refine zx_iload_n dM_row_53 rfl ?_
              refine zx_iload_n dM_row_54 rfl ?_
              refine zx_iload dM_row_55 rfl ?_
              refine zn_iadd dM_row_57 ?_
              refine zc_V (n0 := n) (ce := 0) (kM_stands G (d - 1) (by omega) hM hO (j := j) (a := (L.getD k (0, 0)).1) (b := (L.getD k (0, 0)).2) (p := p) (pl := p0 + k) hj hq hl hch y3 y4 hp (by omega)) (meM_stands _) lkM_151 go rfl rfl hD (Nat.le_of_ble_eq_true rfl) rfl rfl (Nat.le_of_ble_eq_true rfl) (Nat.le_of_ble_eq_true rfl) (Nat.le_of_ble_eq_true rfl) dM_row_58 ?_
              refine zx_istore dM_row_61 (Nat.le_of_ble_eq_true rfl) (by first | rfl | (simp only [List.set, List.all_cons, List.all_nil, hv4, hv5]; done) | (simp only [List.set, List.all_cons, List.all_nil, hv4, hv5]; rfl)) rfl ?_
              refine zn_iinc (c := 1) dM_row_63 (Nat.le_of_ble_eq_true rfl) (by first | rfl | (simp only [List.set, List.all_cons, List.all_nil, hv4, hv5]; done) | (simp only [List.set, List.all_cons, List.all_nil, hv4, hv5]; rfl)) rfl ?_
              refine zx_goto (tgt := 23) dM_row_66 rfl ?_
              refine ih2 (k + 1) _ (by omega) (by omega) (fun hs q hqk => ?_) (fun hs => ⟨k, by omega, hs⟩)
              by_cases hjk : q = k
              · rw [hjk]; exact hs
              · exact z4 h34 q (by omega)
      refine zx_iload_n dM_row_2 rfl ?_
      refine zx_aload_n dM_row_3 rfl ?_
      refine zx_get dM_row_4 flM_148 (by assumption) (by assumption) ?_
      refine zn_iadd dM_row_7 ?_
      refine zx_bipush (v := nI 8) dM_row_8 (by decide) ?_
      refine zn_icmp_gt (tgt := 82) dM_row_10 rfl (by omega) (by omega) (fun h10 => ?_) (fun h10 => ?_)
      · refine zx_iconst (v := nI 0) dM_row_82 (by decide) ?_
        exact zx_zret hE rfl (by first | decide | exact bI_nar _) dM_row_83 rfl (Nat.le_of_ble_eq_true rfl) (by refine ⟨?_, rfl, rfl⟩; unfold rowM; rw [exB_f (fun q hq => h5 q (by omega))]; rfl)
      · refine zx_iload_n dM_row_13 rfl ?_
        refine zn_if_lt (tgt := 82) dM_row_14 rfl (by omega) ?_
        refine zx_iconst (v := nI 1) dM_row_17 (by decide) ?_
        refine zx_istore dM_row_18 (Nat.le_of_ble_eq_true rfl) (by first | rfl | (simp only [List.set, List.all_cons, List.all_nil, hv4, hv5]; done) | (simp only [List.set, List.all_cons, List.all_nil, hv4, hv5]; rfl)) rfl ?_
        refine zx_iconst (v := nI 0) dM_row_20 (by decide) ?_
        refine zx_istore dM_row_21 (Nat.le_of_ble_eq_true rfl) (by first | rfl | (simp only [List.set, List.all_cons, List.all_nil, hv4, hv5]; done) | (simp only [List.set, List.all_cons, List.all_nil, hv4, hv5]; rfl)) rfl ?_
        exact inn (by omega) _ 0 true (Nat.lt_succ_self _) (Nat.zero_le _) (fun _ q hq => absurd hq (Nat.not_lt_zero _)) (fun h => by cases h)
  refine zx_iconst (v := nI 0) dM_row_0 (by decide) ?_
  refine zx_istore_n dM_row_1 (Nat.le_of_ble_eq_true rfl) rfl rfl ?_
  exact loop _ 0 _ _ (Nat.lt_succ_self _) (by omega) rfl rfl (fun q hq => absurd hq (Nat.not_lt_zero _))

set_option maxHeartbeats 4000000 in
set_option maxRecDepth 100000 in
theorem kM_rowN (G : zG) (d : Nat) (hd : 0 ≤ d) {n : Nat} {sh : zSh} {row : zRw} {m : Nat} {A : Nat × (Nat → Nat)} {B : Nat × Nat × Nat × Nat} {P : (Nat → Int32) × (Nat → Int32) × (Nat → Bool) × (Nat → Nat) × (Nat → Nat)} {T : (Nat → Nat) × (Nat → Nat) × (Nat → Nat)} {S : (Nat → Nat) × (Nat → Bool)} {H : (Nat → Bool) × (Nat → Nat) × (Nat → Nat) × (Nat → Nat)} (hM : MA sh row m A B P T S H) {j : Nat} {L : List (Nat × Nat)} {v : Int32} (hv : v < 0) (hL : wdA row m L) (hLl : L.length ≤ 24) : zM G (fM_row d) [.ref m, .int (nI j), .int v] n sh row (zP sh row (.int (bI false))) := by
  refine zM.of (by show plainName "PostIndexModel" = true; decide +kernel) (Nat.le_of_ble_eq_true rfl) (by intro v hv; simp at hv; rcases hv with rfl | rfl | rfl <;> rfl) ?_
  intro K hE
  show zX G K (fM_row d) n 0 0 sh row 0 [.ref m, .int (nI j), .int v, .retAddr 0, .retAddr 0, .retAddr 0] []
  obtain ⟨⟨go, g_dr, g_au, g_ti, g_er, g_ln, g_tx, g_tk, g_fr, g_to, g_rw, g_pk, g_tn, g_bd, g_ql, g_qy, g_any, g_all, g_pa, g_mi, g_wf, g_wt⟩, ⟨p_dr, p_au, p_ti, p_er, p_ln, p_tx, p_tk, p_fr, p_to, p_rw, p_pk, p_tn, p_bd, p_ql, p_qy, p_any, p_all, p_pa, p_mi, p_wf, p_wt⟩, ⟨f_dl, f_md, f_pb, f_dn, f_sn⟩, a_dr, a_au, a_ti, a_er, a_ln, a_tx, a_tk, a_fr, a_to, a_rw, a_pk, a_tn, a_bd, a_ql, a_qy⟩ := id hM
  have h28 := hL.1
  refine zx_iconst (v := nI 0) dM_row_0 (by decide) ?_
  refine zx_istore_n dM_row_1 (Nat.le_of_ble_eq_true rfl) rfl rfl ?_
  refine zx_iload_n dM_row_2 rfl ?_
  refine zx_aload_n dM_row_3 rfl ?_
  refine zx_get dM_row_4 flM_148 (by assumption) (by assumption) ?_
  refine zn_iadd dM_row_7 ?_
  refine zx_bipush (v := nI 8) dM_row_8 (by decide) ?_
  refine zn_icmp_gt (tgt := 82) dM_row_10 rfl (by omega) (by omega) (fun h10 => ?_) (fun h10 => ?_)
  · refine zx_iconst (v := nI 0) dM_row_82 (by decide) ?_
    exact zx_zret hE rfl (by first | decide | exact bI_nar _) dM_row_83 rfl (Nat.le_of_ble_eq_true rfl) ⟨rfl, rfl, rfl⟩
  · refine zx_iload_n dM_row_13 rfl ?_
    refine zx_if_lt (tgt := 82) dM_row_14 rfl (fun h14 => ?_) (fun h14 => ?_)
    · refine zx_iconst (v := nI 0) dM_row_82 (by decide) ?_
      exact zx_zret hE rfl (by first | decide | exact bI_nar _) dM_row_83 rfl (Nat.le_of_ble_eq_true rfl) ⟨rfl, rfl, rfl⟩
    · exact absurd hv h14

