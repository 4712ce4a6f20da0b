/-- the same cells, from b on, w of them -/
def same (b w : Nat) (sh sh' : zSh) (row row' : zRw) : Prop := ∀ c, b ≤ c → c < b + w → sh' c = sh c ∧ row' c = row c
theorem same.Txt {sh sh' : zSh} {row row' : zRw} {b w t : Nat} {xs : List Nat} (h : same b w sh sh' row row') (hT : Txt sh row t xs) (h1 : b ≤ t) (h2 : t + 1 < b + w) : Txt sh' row' t xs :=
  hT.ext (h t h1 (by omega)).1 (h (t + 1) (by omega) h2).1 (h t h1 (by omega)).2 (h (t + 1) (by omega) h2).2
theorem same.Post {sh sh' : zSh} {row row' : zRw} {p : Nat} {au ti : Int32} {xs : List Nat} {er : Bool} (h : same p 3 sh sh' row row') (hP : PostA sh row p au ti xs er) : PostA sh' row' p au ti xs er := by
  obtain ⟨h1, h2, h3, h4, h5, h6⟩ := hP
  have e := h p (by omega) (by omega)
  exact ⟨by rw [e.1]; exact h1, by rw [e.2]; exact h2, by rw [e.2]; exact h3, by rw [e.2]; exact h4, by rw [e.2]; exact h5, h.Txt h6 (by omega) (by omega)⟩
theorem same.Seg {sh sh' : zSh} {row row' : zRw} {s rw : Nat} {ts : List (List Nat × Int32)} {pk : Bool} (h : same s 99 sh sh' row row') (hS : SegA sh row s ts rw pk) : SegA sh' row' s ts rw pk := by
  obtain ⟨h1, h2, h3, h4, h5, h6⟩ := hS
  have e0 := h s (by omega) (by omega)
  have e1 := h (s + 1) (by omega) (by omega)
  have e2 := h (s + 2) (by omega) (by omega)
  refine ⟨by rw [e0.1, e1.1, e2.1]; exact h1, by rw [e0.2]; exact h2, h3, by rw [e2.2]; exact h4, fun i hi => ?_, by rw [e1.2]; exact h6⟩
  obtain ⟨xs, a, b⟩ := h5 i hi
  exact ⟨xs, h.Txt a (by omega) (by omega), b⟩
theorem same.Qry {sh sh' : zSh} {row row' : zRw} {b w q : Nat} {ks : List qStep} {wds : List (List Nat)} (h : same b w sh sh' row row') (hQ : QryA sh row q ks wds) (hb : b ≤ q) (hw : q + 28 < b + w) : QryA sh' row' q ks wds := by
  obtain ⟨h1, h2, h3, h4, h5, h6⟩ := hQ
  have e0 := h q (by omega) (by omega)
  have e1 := h (q + 1) (by omega) (by omega)
  have e2 := h (q + 2) (by omega) (by omega)
  have e3 := h (q + 3) (by omega) (by omega)
  have e4 := h (q + 4) (by omega) (by omega)
  refine ⟨by rw [e0.1, e1.1, e2.1, e3.1, e4.1]; exact h1, by rw [e0.2]; exact h2, h3, by rw [e4.2]; exact h4, fun i hi => ?_, by rw [e1.2, e2.2, e3.2]; exact h6⟩
  obtain ⟨xs, a, b⟩ := h5 i hi
  exact ⟨xs, h.Txt a (by omega) (by omega), b⟩
/-- a new search -/
def Sea0 (sh : zSh) (row : zRw) (s : Nat) : Prop := sh s = some (0, 3, 3) ∧ row s 0 = .ref (s + 1) ∧ row s 1 = .int (nI 0) ∧ row s 2 = .int (bI false) ∧ QryA sh row (s + 1) [] []
theorem same.Sea {sh sh' : zSh} {row row' : zRw} {s : Nat} (h : same s 30 sh sh' row row') (hS : Sea0 sh row s) : Sea0 sh' row' s := by
  obtain ⟨h1, h2, h3, h4, h5⟩ := hS
  have e := h s (by omega) (by omega)
  exact ⟨by rw [e.1]; exact h1, by rw [e.2]; exact h2, by rw [e.2]; exact h3, by rw [e.2]; exact h4, h.Qry h5 (by omega) (by omega)⟩
/-- an array that is filled with new objects -/
def TA (El : zSh → zRw → Nat → Prop) (sh : zSh) (row : zRw) (a base w i : Nat) : Prop := ∀ j, j < i → row a j = .ref (base + w * j) ∧ El sh row (base + w * j)
theorem TA.step {El : zSh → zRw → Nat → Prop} {sh sh2 : zSh} {row row2 : zRw} {a base w i : Nat} (hm : ∀ {sh sh' : zSh} {row row' : zRw} {b : Nat}, same b w sh sh' row row' → El sh row b → El sh' row' b) (h : TA El sh row a base w i) (ha : a < base) (he : ∀ c, c < base + w * i → sh2 c = sh c) (hk : ∀ c, c < base + w * i → row2 c = row c) (hE : El sh2 row2 (base + w * i)) : TA El sh2 (zup row2 a i (.ref (base + w * i))) a base w (i + 1) := by
  intro j hj
  by_cases hji : j = i
  · subst hji
    exact ⟨zup_same _ _ _, hm (fun c h1 h2 => ⟨rfl, zup_ne (by omega)⟩) hE⟩
  · obtain ⟨h1, h2⟩ := h j (by omega)
    have hlt : base + w * j + w ≤ base + w * i := by
      have : w * (j + 1) ≤ w * i := Nat.mul_le_mul_left w (by omega)
      rw [Nat.mul_add, Nat.mul_one] at this
      omega
    refine ⟨?_, hm (fun c c1 c2 => ⟨he c (by omega), ?_⟩) h2⟩
    · rw [zup_k (Or.inr hji), hk a (by omega)]; exact h1
    · rw [zup_ne (by omega)]; exact hk c (by omega)

set_option maxHeartbeats 4000000 in
set_option maxRecDepth 100000 in
theorem kP_init (G : zG) (d : Nat) (hd : 2 ≤ d) {n : Nat} {sh : zSh} {row : zRw} (hs : sh n = some (0, 0, 4)) (hr : row n = fun k => defaultValue (tyP k)) : zM G (fP_init d) [.ref n] n sh row (zpC (fun sh' row' => ext n sh sh' ∧ kpt n row row' ∧ PostA sh' row' n 0 0 [] false)) := by
  refine zM.of (by show plainName "PostIndex$Post" = true; decide +kernel) (Nat.le_of_ble_eq_true rfl) (by intro v hv; simp at hv; rcases hv with rfl <;> rfl) ?_
  intro K hE
  show zX G K (fP_init d) n 0 0 sh row 0 [.ref n] []
  have hD : d - 1 + 1 ≤ d := by omega
  refine zx_aload_n dP_init_0 rfl ?_
  refine zx_obj dP_init_1 lkP_1 (by show 1 ≤ d; omega) (Nat.le_of_ble_eq_true rfl) ?_
  refine zx_aload_n dP_init_4 rfl ?_
  refine zx_new dP_init_5 nwP_7 (Nat.le_of_ble_eq_true rfl) (Nat.le_of_ble_eq_true rfl) ?_
  refine zx_dup dP_init_8 rfl ?_
  refine zc_I (kT_init2 G (d - 1) (by omega) zps_self zpr_self) (meT_init _) rfl lkP_9 (zro (by show d - 1 + 1 ≤ d; omega) (Nat.le_of_ble_eq_true rfl) (Nat.le_of_ble_eq_true rfl) (Nat.le_of_ble_eq_true rfl) (Nat.le_of_ble_eq_true rfl)) dP_init_9 ?_
  rintro sh2 row2 ⟨e2, k2, t2⟩
  refine zx_putF hE rfl (fun C T h => by cases h; rfl) dP_init_12 flP_10 tpP_0 (by rw [e2 n (by omega), zps_ne (by omega)]; exact hs) rfl rfl ?_
  exact zx_vret hE rfl dP_init_15 rfl (Nat.le_of_ble_eq_true rfl) (by
    have e : row2 n = row n := by rw [k2 n (by omega), zpr_ne (by omega)]
    refine ⟨rfl, (ext_ps (by omega)).tr e2 (by omega), ((kpt_pr (by omega)).tr k2 (by omega)).tr (kpt_up (Nat.le_refl _)) (Nat.le_refl _), by rw [e2 n (by omega), zps_ne (by omega)]; exact hs, zup_same _ _ _, ?_, ?_, ?_, t2.keep (zup_ne (by omega)) (zup_ne (by omega))⟩
    · rw [zup_k (Or.inr (by decide)), e, hr]; rfl
    · rw [zup_k (Or.inr (by decide)), e, hr]; rfl
    · rw [zup_k (Or.inr (by decide)), e, hr]; rfl)

set_option maxHeartbeats 4000000 in
set_option maxRecDepth 100000 in
theorem kQ_init (G : zG) (d : Nat) (hd : 2 ≤ d) {n : Nat} {sh : zSh} {row : zRw} (hs : sh n = some (0, 1, 6)) (hr : row n = fun k => defaultValue (tyQ k)) : zM G (fQ_init d) [.ref n] n sh row (zpC (fun sh' row' => ext n sh sh' ∧ kpt n row row' ∧ QryA sh' row' n [] [])) := by
  refine zM.of (by show plainName "PostIndex$Query" = true; decide +kernel) (Nat.le_of_ble_eq_true rfl) (by intro v hv; simp at hv; rcases hv with rfl <;> rfl) ?_
  intro K hE
  show zX G K (fQ_init d) n 0 0 sh row 0 [.ref n, .retAddr 0] []
  have hD : d - 1 + 1 ≤ d := by omega
  refine zx_aload_n dQ_init_0 rfl ?_
  refine zx_obj dQ_init_1 lkQ_3 (by show 1 ≤ d; omega) (Nat.le_of_ble_eq_true rfl) ?_
  refine zx_aload_n dQ_init_4 rfl ?_
  refine zx_bipush (v := nI 48) dQ_init_5 (by decide) ?_
  refine zx_newa (N := 48) dQ_init_7 arI rfl rfl (by decide) (by decide) (by decide) (Nat.le_of_ble_eq_true rfl) (Nat.le_of_ble_eq_true rfl) ?_
  refine zx_putF hE rfl (fun C T h => by cases h; rfl) dQ_init_9 flQ_9 tpQ_0 (by rw [zps_ne (by omega)]; exact hs) rfl rfl ?_
  refine zx_aload_n dQ_init_12 rfl ?_
  refine zx_bipush (v := nI 48) dQ_init_13 (by decide) ?_
  refine zx_newa (N := 48) dQ_init_15 arI rfl rfl (by decide) (by decide) (by decide) (Nat.le_of_ble_eq_true rfl) (Nat.le_of_ble_eq_true rfl) ?_
  refine zx_putF hE rfl (fun C T h => by cases h; rfl) dQ_init_17 flQ_15 tpQ_1 (by rw [zps_ne (by omega)]; rw [zps_ne (by omega)]; exact hs) rfl rfl ?_
  refine zx_aload_n dQ_init_20 rfl ?_
  refine zx_bipush (v := nI 48) dQ_init_21 (by decide) ?_
  refine zx_newa (N := 48) dQ_init_23 arI rfl rfl (by decide) (by decide) (by decide) (Nat.le_of_ble_eq_true rfl) (Nat.le_of_ble_eq_true rfl) ?_
  refine zx_putF hE rfl (fun C T h => by cases h; rfl) dQ_init_25 flQ_18 tpQ_2 (by rw [zps_ne (by omega)]; rw [zps_ne (by omega)]; rw [zps_ne (by omega)]; exact hs) rfl rfl ?_
  refine zx_aload_n dQ_init_28 rfl ?_
  refine zx_bipush (v := nI 12) dQ_init_29 (by decide) ?_
  refine zx_newq (N := 12) dQ_init_31 aqQ_21 (by decide) (by decide) (by decide) (Nat.le_of_ble_eq_true rfl) (Nat.le_of_ble_eq_true rfl) ?_
  refine zx_putF hE rfl (fun C T h => by cases h; rfl) dQ_init_34 flQ_23 tpQ_4 (by rw [zps_ne (by omega)]; rw [zps_ne (by omega)]; rw [zps_ne (by omega)]; rw [zps_ne (by omega)]; exact hs) rfl rfl ?_
  refine zx_iconst (v := nI 0) dQ_init_37 (by decide) ?_
  refine zx_istore_n dQ_init_38 (Nat.le_of_ble_eq_true rfl) rfl rfl ?_
  generalize hsh4 : zps (zps (zps (zps sh (n + (0 + 1)) (1, 0, 48)) (n + (0 + 1 + 1)) (1, 0, 48)) (n + (0 + 1 + 1 + 1)) (1, 0, 48)) (n + (0 + 1 + 1 + 1 + 1)) (2, 3, 12) = sh4
  generalize hrow4 : zup (zpr (zup (zpr (zup (zpr (zup (zpr row (n + (0 + 1)) (fun _ => .int 0)) n 0 (.ref (n + (0 + 1)))) (n + (0 + 1 + 1)) (fun _ => .int 0)) n 1 (.ref (n + (0 + 1 + 1)))) (n + (0 + 1 + 1 + 1)) (fun _ => .int 0)) n 2 (.ref (n + (0 + 1 + 1 + 1)))) (n + (0 + 1 + 1 + 1 + 1)) (fun _ => .null)) n 4 (.ref (n + (0 + 1 + 1 + 1 + 1))) = row4
  have fe : ext n sh sh4 := by rw [← hsh4]; exact fun a ha => by rw [zps_ne (by omega), zps_ne (by omega), zps_ne (by omega), zps_ne (by omega)]
  have fk : ∀ b, b < n → row4 b = row b := fun b hb => by rw [← hrow4, zup_ne (by omega), zpr_ne (by omega), zup_ne (by omega), zpr_ne (by omega), zup_ne (by omega), zpr_ne (by omega), zup_ne (by omega), zpr_ne (by omega)]
  have f0 : sh4 n = some (0, 1, 6) := by rw [fe n (Nat.le_refl _)]; exact hs
  have f3 : sh4 (n + 1) = some (1, 0, 48) := by rw [← hsh4, zps_ne (by omega), zps_ne (by omega), zps_ne (by omega)]; exact zps_self
  have f4 : sh4 (n + 2) = some (1, 0, 48) := by rw [← hsh4, zps_ne (by omega), zps_ne (by omega)]; exact zps_self
  have f5 : sh4 (n + 3) = some (1, 0, 48) := by rw [← hsh4, zps_ne (by omega)]; exact zps_self
  have f2 : sh4 (n + 4) = some (2, 3, 12) := by rw [← hsh4]; exact zps_self
  have w0 : ∀ k, row4 n k = if k = 4 then .ref (n + 4) else if k = 2 then .ref (n + 3) else if k = 1 then .ref (n + 2) else if k = 0 then .ref (n + 1) else row n k := by
    intro k
    rw [← hrow4, zup_row, zpr_ne (by omega), zup_row, zpr_ne (by omega), zup_row, zpr_ne (by omega), zup_row, zpr_ne (by omega)]
  have f6 : row4 n 0 = .ref (n + 1) ∧ row4 n 1 = .ref (n + 2) ∧ row4 n 2 = .ref (n + 3) ∧ row4 n 3 = .int (nI ([] : List qStep).length) ∧ row4 n 4 = .ref (n + 4) ∧ row4 n 5 = .int (nI ([] : List (List Nat)).length) := by
    refine ⟨by rw [w0]; rfl, by rw [w0]; rfl, by rw [w0]; rfl, by rw [w0, hr]; rfl, by rw [w0]; rfl, by rw [w0, hr]; rfl⟩
  have f1 : row4 n 4 = .ref (n + 4) := f6.2.2.2.2.1
  have loop : ∀ (k i : Nat) (sh1 : zSh) (row1 : zRw), 12 - i < k → i ≤ 12 → ext (n + 4) sh4 sh1 → (∀ b, b ≤ n + 4 → b ≠ n + 4 → row1 b = row4 b) → TA (fun s r b => Txt s r b []) sh1 row1 (n + 4) (n + 5) 2 i → zX G K (fQ_init d) n (4 + 2 * i) (156 + 26 * i) sh1 row1 39 [.ref n, .int (nI i)] [] := by
    intro k
    induction k with
    | zero => intro i sh1 row1 hk; exact absurd hk (Nat.not_lt_zero _)
    | succ k ih =>
      intro i sh1 row1 hk hi he hkr hTA
      refine zx_iload_n dQ_init_39 rfl ?_
      refine zx_bipush (v := nI 12) dQ_init_40 (by decide) ?_
      refine zn_icmp_ge (tgt := 64) dQ_init_42 rfl (by omega) (by omega) (fun h42 => ?_) (fun h42 => ?_)
      · obtain rfl : i = 12 := by omega
        exact zx_vret hE rfl dQ_init_64 rfl (Nat.le_of_ble_eq_true rfl) (by
          have w0 : row1 n = row4 n := hkr n (by omega) (by omega)
          refine ⟨rfl, (ext.tr fe he (by omega)), fun b hb => by rw [hkr b (by omega) (by omega)]; exact fk b hb, ⟨by rw [he n (by omega)]; exact f0, by rw [he _ (by omega)]; exact f3, by rw [he _ (by omega)]; exact f4, by rw [he _ (by omega)]; exact f5, by rw [he _ (by omega)]; exact f2⟩, by rw [w0]; exact f6, ⟨by simp, by simp⟩, fun i hi => (hTA i hi).1, fun i hi => ⟨[], (hTA i hi).2, fun w hw => by cases hw⟩, fun i k hk => by cases hk⟩)
      · refine zx_aload_n dQ_init_45 rfl ?_
        refine zx_get (v := .ref (n + 4)) dQ_init_46 flQ_23 (by rw [he n (by omega)]; exact f0) (by rw [hkr n (by omega) (by omega)]; exact f1) ?_
        refine zx_iload_n dQ_init_49 rfl ?_
        refine zx_new dQ_init_50 nwQ_21 (by show 4 + 2 * i + 1 ≤ 28; omega) (by show 156 + 26 * i + 2 ≤ 468; omega) ?_
        refine zx_dup dQ_init_53 rfl ?_
        refine zc_I (kT_init2 G (d - 1) (by omega) zps_self zpr_self) (meT_init _) rfl lkQ_27 (zro (by show d - 1 + 1 ≤ d; omega) (Nat.le_of_ble_eq_true rfl) (by show 4 + 2 * i + 1 + 1 ≤ 28; omega) (by show 156 + 26 * i + 2 + 24 ≤ 468; omega) (Nat.le_of_ble_eq_true rfl)) dQ_init_54 ?_
        rintro sh2 row2 ⟨e2, k2, t2⟩
        refine zn_aast (r := (RT, TT, 2)) dQ_init_57 (by rw [e2 _ (by omega), zps_ne (by omega), he _ (by omega)]; exact f2) rfl (by rw [e2 _ (Nat.le_refl _)]; exact zps_self) rfl (by omega) (by decide) ?_
        refine zX_cs (ce' := 4 + 2 * (i + 1)) (sl' := 156 + 26 * (i + 1)) (by show 4 + 2 * i + 1 + 1 = _; omega) (by show 156 + 26 * i + 2 + 24 = _; omega) ?_
        refine zn_iinc (c := 1) dQ_init_58 (Nat.le_of_ble_eq_true rfl) rfl rfl ?_
        refine zx_goto (tgt := 39) dQ_init_61 rfl ?_
        refine ih (i + 1) sh2 _ (by omega) (by omega) (fun b hb => ?_) (fun b hb hb2 => ?_) ?_
        · rw [e2 b (by omega), zps_ne (by omega)]; exact he b hb
        · rw [zup_ne hb2, k2 b (by omega), zpr_ne (by omega)]; exact hkr b hb hb2
        · rw [show n + (4 + 2 * i + 1) = n + 5 + 2 * i by omega] at t2 ⊢
          exact hTA.step (fun h hT => h.Txt hT (Nat.le_refl _) (by omega)) (by omega) (fun b hb => by rw [e2 b (by omega), zps_ne (by omega)]) (fun b hb => by rw [k2 b (by omega), zpr_ne (by omega)]) t2
  exact loop _ 0 sh4 row4 (Nat.lt_succ_self _) (Nat.zero_le _) ext.rf (fun _ _ _ => rfl) (fun j hj => absurd hj (Nat.not_lt_zero _))

set_option maxHeartbeats 4000000 in
set_option maxRecDepth 100000 in
theorem kS_init (G : zG) (d : Nat) (hd : 2 ≤ d) {n : Nat} {sh : zSh} {row : zRw} (hs : sh n = some (0, 4, 5)) (hr : row n = fun k => defaultValue (tyS k)) : zM G (fS_init d) [.ref n] n sh row (zpC (fun sh' row' => ext n sh sh' ∧ kpt n row row' ∧ SegA sh' row' n [] 0 false)) := by
  refine zM.of (by show plainName "PostIndex$Segment" = true; decide +kernel) (Nat.le_of_ble_eq_true rfl) (by intro v hv; simp at hv; rcases hv with rfl <;> rfl) ?_
  intro K hE
  show zX G K (fS_init d) n 0 0 sh row 0 [.ref n, .retAddr 0] []
  have hD : d - 1 + 1 ≤ d := by omega
  refine zx_aload_n dS_init_0 rfl ?_
  refine zx_obj dS_init_1 lkS_3 (by show 1 ≤ d; omega) (Nat.le_of_ble_eq_true rfl) ?_
  refine zx_aload_n dS_init_4 rfl ?_
  refine zx_bipush (v := nI 48) dS_init_5 (by decide) ?_
  refine zx_newa (N := 48) dS_init_7 arI rfl rfl (by decide) (by decide) (by decide) (Nat.le_of_ble_eq_true rfl) (Nat.le_of_ble_eq_true rfl) ?_
  refine zx_putF hE rfl (fun C T h => by cases h; rfl) dS_init_9 flS_9 tpS_1 (by rw [zps_ne (by omega)]; exact hs) rfl rfl ?_
  refine zx_aload_n dS_init_12 rfl ?_
  refine zx_bipush (v := nI 48) dS_init_13 (by decide) ?_
  refine zx_newq (N := 48) dS_init_15 aqS_15 (by decide) (by decide) (by decide) (Nat.le_of_ble_eq_true rfl) (Nat.le_of_ble_eq_true rfl) ?_
  refine zx_putF hE rfl (fun C T h => by cases h; rfl) dS_init_18 flS_17 tpS_0 (by rw [zps_ne (by omega)]; rw [zps_ne (by omega)]; exact hs) rfl rfl ?_
  refine zx_iconst (v := nI 0) dS_init_21 (by decide) ?_
  refine zx_istore_n dS_init_22 (Nat.le_of_ble_eq_true rfl) rfl rfl ?_
  generalize hsh4 : zps (zps sh (n + (0 + 1)) (1, 0, 48)) (n + (0 + 1 + 1)) (2, 3, 48) = sh4
  generalize hrow4 : zup (zpr (zup (zpr row (n + (0 + 1)) (fun _ => .int 0)) n 1 (.ref (n + (0 + 1)))) (n + (0 + 1 + 1)) (fun _ => .null)) n 0 (.ref (n + (0 + 1 + 1))) = row4
  have fe : ext n sh sh4 := by rw [← hsh4]; exact fun a ha => by rw [zps_ne (by omega), zps_ne (by omega)]
  have fk : ∀ b, b < n → row4 b = row b := fun b hb => by rw [← hrow4, zup_ne (by omega), zpr_ne (by omega), zup_ne (by omega), zpr_ne (by omega)]
  have f0 : sh4 n = some (0, 4, 5) := by rw [fe n (Nat.le_refl _)]; exact hs
  have f3 : sh4 (n + 1) = some (1, 0, 48) := by rw [← hsh4, zps_ne (by omega)]; exact zps_self
  have f2 : sh4 (n + 2) = some (2, 3, 48) := by rw [← hsh4]; exact zps_self
  have w0 : ∀ k, row4 n k = if k = 0 then .ref (n + 2) else if k = 1 then .ref (n + 1) else row n k := by
    intro k
    rw [← hrow4, zup_row, zpr_ne (by omega), zup_row, zpr_ne (by omega)]
  have f6 : row4 n 0 = .ref (n + 2) ∧ row4 n 1 = .ref (n + 1) ∧ row4 n 2 = .int (nI ([] : List (List Nat × Int32)).length) ∧ row4 n 3 = .int (nI 0) ∧ row4 n 4 = .int (bI false) := by
    refine ⟨by rw [w0]; rfl, by rw [w0]; rfl, by rw [w0, hr]; rfl, by rw [w0, hr]; rfl, by rw [w0, hr]; rfl⟩
  have f7 : ∀ i, row4 (n + 1) i = .int (bAt ([] : List (List Nat × Int32)) i) := by
    intro i
    rw [← hrow4, zup_ne (by omega), zpr_ne (by omega), zup_ne (by omega)]
    show zpr row (n + 1) (fun _ => .int 0) (n + 1) i = _
    rw [zpr_self]; rfl
  have f1 : row4 n 0 = .ref (n + 2) := f6.1
  have loop : ∀ (k i : Nat) (sh1 : zSh) (row1 : zRw), 48 - i < k → i ≤ 48 → ext (n + 2) sh4 sh1 → (∀ b, b ≤ n + 2 → b ≠ n + 2 → row1 b = row4 b) → TA (fun s r b => Txt s r b []) sh1 row1 (n + 2) (n + 3) 2 i → zX G K (fS_init d) n (2 + 2 * i) (96 + 26 * i) sh1 row1 23 [.ref n, .int (nI i)] [] := by
    intro k
    induction k with
    | zero => intro i sh1 row1 hk; exact absurd hk (Nat.not_lt_zero _)
    | succ k ih =>
      intro i sh1 row1 hk hi he hkr hTA
      refine zx_iload_n dS_init_23 rfl ?_
      refine zx_bipush (v := nI 48) dS_init_24 (by decide) ?_
      refine zn_icmp_ge (tgt := 48) dS_init_26 rfl (by omega) (by omega) (fun h26 => ?_) (fun h26 => ?_)
      · obtain rfl : i = 48 := by omega
        exact zx_vret hE rfl dS_init_48 rfl (Nat.le_of_ble_eq_true rfl) (by
          have w0 : row1 n = row4 n := hkr n (by omega) (by omega)
          have w1 : row1 (n + 1) = row4 (n + 1) := hkr _ (by omega) (by omega)
          refine ⟨rfl, (ext.tr fe he (by omega)), fun b hb => by rw [hkr b (by omega) (by omega)]; exact fk b hb, ⟨by rw [he n (by omega)]; exact f0, by rw [he _ (by omega)]; exact f3, by rw [he _ (by omega)]; exact f2⟩, by rw [w0]; exact f6, ⟨by simp, by omega⟩, fun i hi => (hTA i hi).1, fun i hi => ⟨[], (hTA i hi).2, fun w hw => by cases hw⟩, fun i hi => by rw [w1]; exact f7 i⟩)
      · refine zx_aload_n dS_init_29 rfl ?_
        refine zx_get (v := .ref (n + 2)) dS_init_30 flS_17 (by rw [he n (by omega)]; exact f0) (by rw [hkr n (by omega) (by omega)]; exact f1) ?_
        refine zx_iload_n dS_init_33 rfl ?_
        refine zx_new dS_init_34 nwS_15 (by show 2 + 2 * i + 1 ≤ 98; omega) (by show 96 + 26 * i + 2 ≤ 1344; omega) ?_
        refine zx_dup dS_init_37 rfl ?_
        refine zc_I (kT_init2 G (d - 1) (by omega) zps_self zpr_self) (meT_init _) rfl lkS_21 (zro (by show d - 1 + 1 ≤ d; omega) (Nat.le_of_ble_eq_true rfl) (by show 2 + 2 * i + 1 + 1 ≤ 98; omega) (by show 96 + 26 * i + 2 + 24 ≤ 1344; omega) (Nat.le_of_ble_eq_true rfl)) dS_init_38 ?_
        rintro sh2 row2 ⟨e2, k2, t2⟩
        refine zn_aast (r := (RT, TT, 2)) dS_init_41 (by rw [e2 _ (by omega), zps_ne (by omega), he _ (by omega)]; exact f2) rfl (by rw [e2 _ (Nat.le_refl _)]; exact zps_self) rfl (by omega) (by decide) ?_
        refine zX_cs (ce' := 2 + 2 * (i + 1)) (sl' := 96 + 26 * (i + 1)) (by show 2 + 2 * i + 1 + 1 = _; omega) (by show 96 + 26 * i + 2 + 24 = _; omega) ?_
        refine zn_iinc (c := 1) dS_init_42 (Nat.le_of_ble_eq_true rfl) rfl rfl ?_
        refine zx_goto (tgt := 23) dS_init_45 rfl ?_
        refine ih (i + 1) sh2 _ (by omega) (by omega) (fun b hb => ?_) (fun b hb hb2 => ?_) ?_
        · rw [e2 b (by omega), zps_ne (by omega)]; exact he b hb
        · rw [zup_ne hb2, k2 b (by omega), zpr_ne (by omega)]; exact hkr b hb hb2
        · rw [show n + (2 + 2 * i + 1) = n + 3 + 2 * i by omega] at t2 ⊢
          exact hTA.step (fun h hT => h.Txt hT (Nat.le_refl _) (by omega)) (by omega) (fun b hb => by rw [e2 b (by omega), zps_ne (by omega)]) (fun b hb => by rw [k2 b (by omega), zpr_ne (by omega)]) t2
  exact loop _ 0 sh4 row4 (Nat.lt_succ_self _) (Nat.zero_le _) ext.rf (fun _ _ _ => rfl) (fun j hj => absurd hj (Nat.not_lt_zero _))

set_option maxHeartbeats 4000000 in
set_option maxRecDepth 100000 in
theorem kH_init (G : zG) (d : Nat) (hd : 3 ≤ d) {n : Nat} {sh : zSh} {row : zRw} (hs : sh n = some (0, 3, 3)) (hr : row n = fun k => defaultValue (tyH k)) : zM G (fH_init d) [.ref n] n sh row (zpC (fun sh' row' => ext n sh sh' ∧ kpt n row row' ∧ Sea0 sh' row' n)) := by
  refine zM.of (by show plainName "PostIndex$Search" = true; decide +kernel) (Nat.le_of_ble_eq_true rfl) (by intro v hv; simp at hv; rcases hv with rfl <;> rfl) ?_
  intro K hE
  show zX G K (fH_init d) n 0 0 sh row 0 [.ref n] []
  have hD : d - 1 + 1 ≤ d := by omega
  refine zx_aload_n dH_init_0 rfl ?_
  refine zx_obj dH_init_1 lkH_1 (by show 1 ≤ d; omega) (Nat.le_of_ble_eq_true rfl) ?_
  refine zx_aload_n dH_init_4 rfl ?_
  refine zx_new dH_init_5 nwH_7 (Nat.le_of_ble_eq_true rfl) (Nat.le_of_ble_eq_true rfl) ?_
  refine zx_dup dH_init_8 rfl ?_
  refine zc_I (kQ_init G (d - 1) (by omega) zps_self zpr_self) (meQ_init _) rfl lkH_9 (zro (by show d - 1 + 1 ≤ d; omega) (Nat.le_of_ble_eq_true rfl) (Nat.le_of_ble_eq_true rfl) (Nat.le_of_ble_eq_true rfl) (Nat.le_of_ble_eq_true rfl)) dH_init_9 ?_
  rintro sh2 row2 ⟨e2, k2, t2⟩
  refine zx_put dH_init_12 flH_10 tpH_0 (by rw [e2 n (by omega), zps_ne (by omega)]; exact hs) rfl rfl ?_
  exact zx_vret hE rfl dH_init_15 rfl (Nat.le_of_ble_eq_true rfl) (by
    have e : row2 n = row n := by rw [k2 n (by omega), zpr_ne (by omega)]
    refine ⟨rfl, (ext_ps (by omega)).tr e2 (by omega), ((kpt_pr (by omega)).tr k2 (by omega)).tr (kpt_up (Nat.le_refl _)) (Nat.le_refl _), by rw [e2 n (by omega), zps_ne (by omega)]; exact hs, zup_same _ _ _, ?_, ?_, t2.keep (lo := n) (hi := n) (frI_up (Nat.le_refl _) (Nat.le_refl _)) (by omega)⟩
    · rw [zup_k (Or.inr (by decide)), e, hr]; rfl
    · rw [zup_k (Or.inr (by decide)), e, hr]; rfl)

set_option maxHeartbeats 4000000 in
set_option maxRecDepth 100000 in
theorem kR_init (G : zG) (d : Nat) (hd : 3 ≤ d) {n : Nat} {sh : zSh} {row : zRw} (hs : sh n = some (0, 2, 3)) (hr : row n = fun k => defaultValue (tyR k)) : zM G (fR_init d) [.ref n] n sh row (zpC (fun sh' row' => ext n sh sh' ∧ kpt n row row' ∧ RdI sh' row' n (n + 3))) := by
  refine zM.of (by show plainName "PostIndex$QueryReader" = true; decide +kernel) (Nat.le_of_ble_eq_true rfl) (by intro v hv; simp at hv; rcases hv with rfl <;> rfl) ?_
  intro K hE
  show zX G K (fR_init d) n 0 0 sh row 0 [.ref n] []
  have hD : d - 1 + 1 ≤ d := by omega
  refine zx_aload_n dR_init_0 rfl ?_
  refine zx_obj dR_init_1 lkR_3 (by show 1 ≤ d; omega) (Nat.le_of_ble_eq_true rfl) ?_
  refine zx_aload_n dR_init_4 rfl ?_
  refine zx_new dR_init_5 nwR_9 (Nat.le_of_ble_eq_true rfl) (Nat.le_of_ble_eq_true rfl) ?_
  refine zx_dup dR_init_8 rfl ?_
  refine zc_I (kT_init2 G (d - 1) (by omega) zps_self zpr_self) (meT_init _) rfl lkR_11 (zro (by show d - 1 + 1 ≤ d; omega) (Nat.le_of_ble_eq_true rfl) (Nat.le_of_ble_eq_true rfl) (Nat.le_of_ble_eq_true rfl) (Nat.le_of_ble_eq_true rfl)) dR_init_9 ?_
  rintro sh2 row2 ⟨e2, k2, t2⟩
  refine zX_cs (ce' := 2) (sl' := 26) rfl rfl ?_
  refine zx_putF hE rfl (fun C T h => by cases h; rfl) dR_init_12 flR_12 tpR_0 (by rw [e2 n (by omega), zps_ne (by omega)]; exact hs) rfl rfl ?_
  refine zx_aload_n dR_init_15 rfl ?_
  refine zx_new dR_init_16 nwR_18 (Nat.le_of_ble_eq_true rfl) (Nat.le_of_ble_eq_true rfl) ?_
  refine zx_dup dR_init_19 rfl ?_
  refine zc_I (kQ_init G (d - 1) (by omega) zps_self zpr_self) (meQ_init _) rfl lkR_20 (zro (by show d - 1 + 1 ≤ d; omega) (Nat.le_of_ble_eq_true rfl) (Nat.le_of_ble_eq_true rfl) (Nat.le_of_ble_eq_true rfl) (Nat.le_of_ble_eq_true rfl)) dR_init_20 ?_
  rintro sh3 row3 ⟨e3, k3, t3⟩
  refine zx_put dR_init_23 flR_21 tpR_1 (by rw [e3 n (by omega), zps_ne (by omega), e2 n (by omega), zps_ne (by omega)]; exact hs) rfl rfl ?_
  exact zx_vret hE rfl dR_init_26 rfl (Nat.le_of_ble_eq_true rfl) (by
    have e : row2 n = row n := by rw [k2 n (by omega), zpr_ne (by omega)]
    have e3' : row3 n = zup row2 n 0 (.ref (n + 1)) n := by rw [k3 n (by omega), zpr_ne (by omega)]
    have w : ∀ b, b < n → row3 b = row b := fun b hb => by rw [k3 b (by omega), zpr_ne (by omega), zup_ne (by omega), k2 b (by omega), zpr_ne (by omega)]
    have q1 : sh3 (n + 1) = sh2 (n + 1) := by rw [e3 _ (by omega), zps_ne (by omega)]
    have q2 : sh3 (n + 2) = sh2 (n + 2) := by rw [e3 _ (by omega), zps_ne (by omega)]
    have q3 : row3 (n + 1) = row2 (n + 1) := by rw [k3 _ (by omega), zpr_ne (by omega), zup_ne (by omega)]
    have q4 : row3 (n + 2) = row2 (n + 2) := by rw [k3 _ (by omega), zpr_ne (by omega), zup_ne (by omega)]
    have t3' : Txt sh3 row3 (n + 1) [] := t2.ext q1 q2 q3 q4
    refine ⟨rfl, fun a ha => by rw [e3 a (by omega), zps_ne (by omega), e2 a (by omega), zps_ne (by omega)], fun b hb => by rw [zup_ne (by omega)]; exact w b hb, ⟨nI 0, [], [], [], ?_, t3'.keep (zup_ne (by omega)) (zup_ne (by omega)), t3.keep (lo := n) (hi := n) (frI_up (Nat.le_refl _) (Nat.le_refl _)) (by omega)⟩, by rw [e3 n (by omega), zps_ne (by omega), e2 n (by omega), zps_ne (by omega)]; exact hs, ?_, zup_same _ _ _, by omega⟩
    · rw [zup_k (Or.inr (by decide)), e3', zup_k (Or.inr (by decide)), e, hr]; rfl
    · rw [zup_k (Or.inr (by decide)), e3', zup_same])

