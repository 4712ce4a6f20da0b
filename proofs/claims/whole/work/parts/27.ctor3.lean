theorem same.wide {b w b2 w2 : Nat} {sh sh' : zSh} {row row' : zRw} (h : same b w sh sh' row row') (h1 : b ≤ b2) (h2 : b2 + w2 ≤ b + w) : same b2 w2 sh sh' row row' := fun c c1 c2 => h c (by omega) (by omega)
def B0 (sh : zSh) (row : zRw) (x : Nat) : Prop := Txt sh row (x + 1) [] ∧ Txt sh row (x + 3) [] ∧ RdI sh row (x + 5) (x + 8)
theorem B0.same {sh sh' : zSh} {row row' : zRw} {x : Nat} (h : B0 sh row x) (hs : same (x + 1) 36 sh sh' row row') : B0 sh' row' x := by
  obtain ⟨h1, h2, ⟨⟨a, ys, ks, wds, p1, p2, p3⟩, p4, p5, p6, p7⟩⟩ := h
  have e := hs (x + 5) (by omega) (by omega)
  exact ⟨hs.Txt h1 (by omega) (by omega), hs.Txt h2 (by omega) (by omega), ⟨⟨a, ys, ks, wds, by rw [e.2]; exact p1, hs.Txt p2 (by omega) (by omega), hs.Qry p3 (by omega) (by omega)⟩, by rw [e.1]; exact p4, by rw [e.2]; exact p5, by rw [e.2]; exact p6, p7⟩⟩
theorem XPs.same {sh sh' : zSh} {row row' : zRw} {x : Nat} {pf : PF} (h : XPs sh row x pf) (hs : same (x + 37) 73 sh sh' row row') : XPs sh' row' x pf := by
  have e := hs (x + 37) (by omega) (by omega)
  refine ⟨by rw [e.1]; exact h.1, fun i hi => ?_⟩
  obtain ⟨a, b⟩ := h.2 i hi
  exact ⟨by rw [e.2]; exact a, (hs.wide (by omega) (by omega)).Post b⟩
theorem XSg.same {sh sh' : zSh} {row row' : zRw} {x : Nat} {sf : SF} (h : XSg sh row x sf) (hs : same (x + 110) 595 sh sh' row row') : XSg sh' row' x sf := by
  have e := hs (x + 110) (by omega) (by omega)
  refine ⟨by rw [e.1]; exact h.1, fun i hi => ?_⟩
  obtain ⟨a, b⟩ := h.2 i hi
  exact ⟨by rw [e.2]; exact a, (hs.wide (by omega) (by omega)).Seg b⟩
def pf0 : PF := fun _ => (0, 0, [], false)
def sf0 : SF := fun _ => ([], 0, false)
def hf0 (x : Nat) : HF := fun j => (false, 0, x + 707 + 30 * j, [], [])
def c0 : CT := (0, 0, 0, 0, 0, 0)
/-- the object's own fields, as far as they are set -/
def Fl (row : zRw) (x : Nat) (a b e : Value) : Prop := row x 0 = .ref (x + 1) ∧ row x 1 = a ∧ row x 2 = b ∧ row x 3 = e ∧ row x 4 = .ref (x + 5) ∧ row x 5 = .int (nI 0) ∧ row x 6 = .int (nI 0) ∧ row x 7 = .int (nI 0) ∧ row x 8 = .int (nI 0) ∧ row x 9 = .ref (x + 3) ∧ row x 10 = .int (nI 0) ∧ row x 11 = .int (nI 0)
theorem Fl.at {row row' : zRw} {x : Nat} {a b e : Value} (h : Fl row x a b e) (hr : row' x = row x) : Fl row' x a b e := by unfold Fl at h ⊢; rw [hr]; exact h
theorem Fl.up1 {row : zRw} {x : Nat} {a b e v : Value} (h : Fl row x a b e) : Fl (zup row x 1 v) x v b e := by
  obtain ⟨h0, h1, h2, h3, h4, h5, h6, h7, h8, h9, h10, h11⟩ := h
  refine ⟨?_, ?_, ?_, ?_, ?_, ?_, ?_, ?_, ?_, ?_, ?_, ?_⟩ <;> first | exact zup_same _ _ _ | (rw [zup_k (Or.inr (by decide))]; assumption)
theorem Fl.up2 {row : zRw} {x : Nat} {a b e v : Value} (h : Fl row x a b e) : Fl (zup row x 2 v) x a v e := by
  obtain ⟨h0, h1, h2, h3, h4, h5, h6, h7, h8, h9, h10, h11⟩ := h
  refine ⟨?_, ?_, ?_, ?_, ?_, ?_, ?_, ?_, ?_, ?_, ?_, ?_⟩ <;> first | exact zup_same _ _ _ | (rw [zup_k (Or.inr (by decide))]; assumption)
theorem Fl.up3 {row : zRw} {x : Nat} {a b e v : Value} (h : Fl row x a b e) : Fl (zup row x 3 v) x a b v := by
  obtain ⟨h0, h1, h2, h3, h4, h5, h6, h7, h8, h9, h10, h11⟩ := h
  refine ⟨?_, ?_, ?_, ?_, ?_, ?_, ?_, ?_, ?_, ?_, ?_, ?_⟩ <;> first | exact zup_same _ _ _ | (rw [zup_k (Or.inr (by decide))]; assumption)

set_option maxHeartbeats 4000000 in
set_option maxRecDepth 100000 in
theorem kX_init (G : zG) (d : Nat) (hd : 4 ≤ d) {n : Nat} {sh : zSh} {row : zRw} (hs : sh n = some (0, 6, 12)) (hr : row n = fun k => defaultValue (tyX k)) : zM G (fX_init d) [.ref n] n sh row (zpC (fun sh' row' => ext n sh sh' ∧ kpt n row row' ∧ XA sh' row' n [] pf0 sf0 (hf0 n) c0 (n + 8))) := by
  refine zM.of (by show plainName "PostIndex" = true; decide +kernel) (Nat.le_of_ble_eq_true rfl) (by intro v hv; simp at hv; rcases hv with rfl <;> rfl) ?_
  intro K hE
  show zX G K (fX_init d) n 0 0 sh row 0 [.ref n, .retAddr 0] []
  have hD : d - 1 + 1 ≤ d := by omega
  have loop3 : ∀ (k i : Nat) (shB sh1 : zSh) (rowB row1 : zRw), 3 - i < k → i ≤ 3 → shB n = some (0, 6, 12) → ext n sh shB → kpt n row rowB → B0 shB rowB n → shB (n + 705) = some (2, 6, 3) → XPs shB rowB n pf0 → XSg shB rowB n sf0 → Fl rowB n (.ref (n + 37)) (.ref (n + 110)) (.ref (n + 705)) → rowB n 3 = .ref (n + 705) → ext (n + 705) shB sh1 → (∀ b, b ≤ n + 705 → b ≠ n + 705 → row1 b = rowB b) → TA Sea0 sh1 row1 (n + 705) (n + 706) 30 i → zX G K (fX_init d) n (705 + 30 * i) (9402 + 477 * i) sh1 row1 119 [.ref n, .int (nI i)] [] := by
    intro k
    induction k with
    | zero => intro i shB sh1 rowB row1 hk; exact absurd hk (Nat.not_lt_zero _)
    | succ k ih =>
      intro i shB sh1 rowB row1 hk hi f0 f3 f4 f5 f2 f7 f8 ff f1 he hkr hTA
      refine zx_iload_n dX_init_119 rfl ?_
      refine zx_iconst (v := nI 3) dX_init_120 (by decide) ?_
      refine zn_icmp_ge (tgt := 143) dX_init_121 rfl (by omega) (by omega) (fun h121 => ?_) (fun h121 => ?_)
      · obtain rfl : i = 3 := by omega
        exact zx_vret hE rfl dX_init_143 rfl (Nat.le_of_ble_eq_true rfl) (by
          have hsm : same (n + 1) 704 shB sh1 rowB row1 := fun c c1 c2 => ⟨he c (by omega), hkr c (by omega) (by omega)⟩
          have e0 : row1 n = rowB n := hkr n (by omega) (by omega)
          refine ⟨rfl, f3.tr he (by omega), fun b hb => by rw [hkr b (by omega) (by omega)]; exact f4 b hb, ⟨by rw [he n (by omega)]; exact f0, ff.at e0⟩, ((f5.same (hsm.wide (by omega) (by omega))).1), ⟨_, (f5.same (hsm.wide (by omega) (by omega))).2.1⟩, f7.same (hsm.wide (by omega) (by omega)), f8.same (hsm.wide (by omega) (by omega)), ⟨by rw [he _ (by omega)]; exact f2, fun j hj => ?_⟩, ⟨(f5.same (hsm.wide (by omega) (by omega))).2.2, Or.inl rfl⟩, ⟨fun j hj => by show n + 707 + 30 * j ≠ n + 8; omega, fun i j _ _ hij => by show n + 707 + 30 * i ≠ n + 707 + 30 * j; omega⟩⟩
          obtain ⟨a, b1, b2, b3, b4, b5⟩ := hTA j hj
          rw [show n + 706 + 30 * j + 1 = n + 707 + 30 * j by omega] at b2 b5
          refine ⟨a, b1, b2, b3, b4, ?_, b5⟩
          show n + 707 + 30 * j = n + 8 ∨ n + 707 + 30 * j = n + 707 ∨ n + 707 + 30 * j = n + 737 ∨ n + 707 + 30 * j = n + 767
          omega)
      · refine zx_aload_n dX_init_124 rfl ?_
        refine zx_get (v := .ref (n + 705)) dX_init_125 flX_42 (by rw [he n (by omega)]; exact f0) (by rw [hkr n (by omega) (by omega)]; exact f1) ?_
        refine zx_iload_n dX_init_128 rfl ?_
        refine zx_new dX_init_129 nwX_40 (by show 705 + 30 * i + 1 ≤ 795; omega) (by show 9402 + 477 * i + 3 ≤ 10833; omega) ?_
        refine zx_dup dX_init_132 rfl ?_
        refine zc_I (kH_init G (d - 1) (by omega) zps_self zpr_self) (meH_init _) rfl lkX_46 (zro (by show d - 1 + 1 ≤ d; omega) (Nat.le_of_ble_eq_true rfl) (by show 705 + 30 * i + 1 + 29 ≤ 795; omega) (by show 9402 + 477 * i + 3 + 474 ≤ 10833; omega) (Nat.le_of_ble_eq_true rfl)) dX_init_133 ?_
        rintro sh2 row2 ⟨e2, k2, t2⟩
        refine zn_aast (r := (RH, TH, 3)) dX_init_136 (by rw [e2 _ (by omega), zps_ne (by omega), he _ (by omega)]; exact f2) rfl (by rw [e2 _ (Nat.le_refl _)]; exact zps_self) rfl (by omega) (by decide) ?_
        refine zX_cs (ce' := 705 + 30 * (i + 1)) (sl' := 9402 + 477 * (i + 1)) (by show 705 + 30 * i + 1 + 29 = _; omega) (by show 9402 + 477 * i + 3 + 474 = _; omega) ?_
        refine zn_iinc (c := 1) dX_init_137 (Nat.le_of_ble_eq_true rfl) rfl rfl ?_
        refine zx_goto (tgt := 119) dX_init_140 rfl ?_
        refine ih (i + 1) shB sh2 rowB _ (by omega) (by omega) f0 f3 f4 f5 f2 f7 f8 ff f1 (fun b hb => ?_) (fun b hb hb2 => ?_) ?_
        · rw [e2 b (by omega), zps_ne (by omega)]; exact he b hb
        · rw [zup_ne hb2, k2 b (by omega), zpr_ne (by omega)]; exact hkr b hb hb2
        · rw [show n + (705 + 30 * i + 1) = n + 706 + 30 * i by omega] at t2 ⊢
          exact hTA.step (fun h hT => h.Sea hT) (by omega) (fun b hb => by rw [e2 b (by omega), zps_ne (by omega)]) (fun b hb => by rw [k2 b (by omega), zpr_ne (by omega)]) t2
  have loop2 : ∀ (k i : Nat) (shB sh1 : zSh) (rowB row1 : zRw), 6 - i < k → i ≤ 6 → shB n = some (0, 6, 12) → ext n sh shB → kpt n row rowB → B0 shB rowB n → shB (n + 110) = some (2, 5, 6) → XPs shB rowB n pf0 → Fl rowB n (.ref (n + 37)) (.ref (n + 110)) .null → rowB n 2 = .ref (n + 110) → ext (n + 110) shB sh1 → (∀ b, b ≤ n + 110 → b ≠ n + 110 → row1 b = rowB b) → TA (fun s r b => SegA s r b [] 0 false) sh1 row1 (n + 110) (n + 111) 99 i → zX G K (fX_init d) n (110 + 99 * i) (1305 + 1349 * i) sh1 row1 84 [.ref n, .int (nI i)] [] := by
    intro k
    induction k with
    | zero => intro i shB sh1 rowB row1 hk; exact absurd hk (Nat.not_lt_zero _)
    | succ k ih =>
      intro i shB sh1 rowB row1 hk hi f0 f3 f4 f5 f2 f7 ff f1 he hkr hTA
      refine zx_iload_n dX_init_84 rfl ?_
      refine zx_bipush (v := nI 6) dX_init_85 (by decide) ?_
      refine zn_icmp_ge (tgt := 109) dX_init_87 rfl (by omega) (by omega) (fun h87 => ?_) (fun h87 => ?_)
      · obtain rfl : i = 6 := by omega
        refine zx_aload_n dX_init_109 rfl ?_
        refine zx_iconst (v := nI 3) dX_init_110 (by decide) ?_
        refine zx_newq (N := 3) dX_init_111 aqX_40 (by decide) (by decide) (by decide) (Nat.le_of_ble_eq_true rfl) (Nat.le_of_ble_eq_true rfl) ?_
        refine zx_putF hE rfl (fun C T h => by cases h; rfl) dX_init_114 flX_42 tpX_3 (by rw [zps_ne (by omega), he n (by omega)]; exact f0) rfl rfl ?_
        refine zx_iconst (v := nI 0) dX_init_117 (by decide) ?_
        refine zx_istore_n dX_init_118 (Nat.le_of_ble_eq_true rfl) rfl rfl ?_
        have e0 : row1 n = rowB n := hkr n (by omega) (by omega)
        have hsm : same (n + 1) 109 shB sh1 rowB row1 := fun c c1 c2 => ⟨he c (by omega), hkr c (by omega) (by omega)⟩
        have hsm2 : same (n + 1) 704 sh1 (zps sh1 (n + 705) (2, 6, 3)) row1 (zup (zpr row1 (n + 705) (fun _ => .null)) n 3 (.ref (n + 705))) := fun c c1 c2 => ⟨zps_ne (by omega), by rw [zup_ne (by omega), zpr_ne (by omega)]⟩
        have hF3 : Fl (zup (zpr row1 (n + 705) (fun _ => .null)) n 3 (.ref (n + 705))) n (.ref (n + 37)) (.ref (n + 110)) (.ref (n + 705)) := ((ff.at e0).at (row' := zpr row1 (n + 705) (fun _ => .null)) (zpr_ne (by omega))).up3
        exact loop3 _ 0 (zps sh1 (n + 705) (2, 6, 3)) _ (zup (zpr row1 (n + 705) (fun _ => .null)) n 3 (.ref (n + 705))) _ (Nat.lt_succ_self _) (Nat.zero_le _) (by rw [zps_ne (by omega), he n (by omega)]; exact f0) (fun a ha => by rw [zps_ne (by omega), he a (by omega)]; exact f3 a ha) (fun b hb => by rw [zup_ne (by omega), zpr_ne (by omega), hkr b (by omega) (by omega)]; exact f4 b hb) ((f5.same (hsm.wide (by omega) (by omega))).same (hsm2.wide (by omega) (by omega))) zps_self ((f7.same (hsm.wide (by omega) (by omega))).same (hsm2.wide (by omega) (by omega))) (XSg.same (x := n) ⟨by rw [he _ (by omega)]; exact f2, fun g hg => hTA g hg⟩ (hsm2.wide (by omega) (by omega))) hF3 hF3.2.2.2.1 ext.rf (fun _ _ _ => rfl) (fun j hj => absurd hj (Nat.not_lt_zero _))
      · refine zx_aload_n dX_init_90 rfl ?_
        refine zx_get (v := .ref (n + 110)) dX_init_91 flX_35 (by rw [he n (by omega)]; exact f0) (by rw [hkr n (by omega) (by omega)]; exact f1) ?_
        refine zx_iload_n dX_init_94 rfl ?_
        refine zx_new dX_init_95 nwX_33 (by show 110 + 99 * i + 1 ≤ 795; omega) (by show 1305 + 1349 * i + 5 ≤ 10833; omega) ?_
        refine zx_dup dX_init_98 rfl ?_
        refine zc_I (kS_init G (d - 1) (by omega) zps_self zpr_self) (meS_init _) rfl lkX_39 (zro (by show d - 1 + 1 ≤ d; omega) (Nat.le_of_ble_eq_true rfl) (by show 110 + 99 * i + 1 + 98 ≤ 795; omega) (by show 1305 + 1349 * i + 5 + 1344 ≤ 10833; omega) (Nat.le_of_ble_eq_true rfl)) dX_init_99 ?_
        rintro sh2 row2 ⟨e2, k2, t2⟩
        refine zn_aast (r := (RS, TS, 5)) dX_init_102 (by rw [e2 _ (by omega), zps_ne (by omega), he _ (by omega)]; exact f2) rfl (by rw [e2 _ (Nat.le_refl _)]; exact zps_self) rfl (by omega) (by decide) ?_
        refine zX_cs (ce' := 110 + 99 * (i + 1)) (sl' := 1305 + 1349 * (i + 1)) (by show 110 + 99 * i + 1 + 98 = _; omega) (by show 1305 + 1349 * i + 5 + 1344 = _; omega) ?_
        refine zn_iinc (c := 1) dX_init_103 (Nat.le_of_ble_eq_true rfl) rfl rfl ?_
        refine zx_goto (tgt := 84) dX_init_106 rfl ?_
        refine ih (i + 1) shB sh2 rowB _ (by omega) (by omega) f0 f3 f4 f5 f2 f7 ff f1 (fun b hb => ?_) (fun b hb hb2 => ?_) ?_
        · rw [e2 b (by omega), zps_ne (by omega)]; exact he b hb
        · rw [zup_ne hb2, k2 b (by omega), zpr_ne (by omega)]; exact hkr b hb hb2
        · rw [show n + (110 + 99 * i + 1) = n + 111 + 99 * i by omega] at t2 ⊢
          exact hTA.step (fun h hT => h.Seg hT) (by omega) (fun b hb => by rw [e2 b (by omega), zps_ne (by omega)]) (fun b hb => by rw [k2 b (by omega), zpr_ne (by omega)]) t2
  have loop1 : ∀ (k i : Nat) (shB sh1 : zSh) (rowB row1 : zRw), 24 - i < k → i ≤ 24 → shB n = some (0, 6, 12) → ext n sh shB → kpt n row rowB → B0 shB rowB n → shB (n + 37) = some (2, 4, 24) → Fl rowB n (.ref (n + 37)) .null .null → rowB n 1 = .ref (n + 37) → ext (n + 37) shB sh1 → (∀ b, b ≤ n + 37 → b ≠ n + 37 → row1 b = rowB b) → TA (fun s r b => PostA s r b 0 0 [] false) sh1 row1 (n + 37) (n + 38) 3 i → zX G K (fX_init d) n (37 + 3 * i) (579 + 30 * i) sh1 row1 48 [.ref n, .int (nI i)] [] := by
    intro k
    induction k with
    | zero => intro i shB sh1 rowB row1 hk; exact absurd hk (Nat.not_lt_zero _)
    | succ k ih =>
      intro i shB sh1 rowB row1 hk hi f0 f3 f4 f5 f2 ff f1 he hkr hTA
      refine zx_iload_n dX_init_48 rfl ?_
      refine zx_bipush (v := nI 24) dX_init_49 (by decide) ?_
      refine zn_icmp_ge (tgt := 73) dX_init_51 rfl (by omega) (by omega) (fun h51 => ?_) (fun h51 => ?_)
      · obtain rfl : i = 24 := by omega
        refine zx_aload_n dX_init_73 rfl ?_
        refine zx_bipush (v := nI 6) dX_init_74 (by decide) ?_
        refine zx_newq (N := 6) dX_init_76 aqX_33 (by decide) (by decide) (by decide) (Nat.le_of_ble_eq_true rfl) (Nat.le_of_ble_eq_true rfl) ?_
        refine zx_putF hE rfl (fun C T h => by cases h; rfl) dX_init_79 flX_35 tpX_2 (by rw [zps_ne (by omega), he n (by omega)]; exact f0) rfl rfl ?_
        refine zx_iconst (v := nI 0) dX_init_82 (by decide) ?_
        refine zx_istore_n dX_init_83 (Nat.le_of_ble_eq_true rfl) rfl rfl ?_
        have e0 : row1 n = rowB n := hkr n (by omega) (by omega)
        have hsm : same (n + 1) 36 shB sh1 rowB row1 := fun c c1 c2 => ⟨he c (by omega), hkr c (by omega) (by omega)⟩
        have hsm2 : same (n + 1) 109 sh1 (zps sh1 (n + 110) (2, 5, 6)) row1 (zup (zpr row1 (n + 110) (fun _ => .null)) n 2 (.ref (n + 110))) := fun c c1 c2 => ⟨zps_ne (by omega), by rw [zup_ne (by omega), zpr_ne (by omega)]⟩
        have hF2 : Fl (zup (zpr row1 (n + 110) (fun _ => .null)) n 2 (.ref (n + 110))) n (.ref (n + 37)) (.ref (n + 110)) .null := ((ff.at e0).at (row' := zpr row1 (n + 110) (fun _ => .null)) (zpr_ne (by omega))).up2
        exact loop2 _ 0 (zps sh1 (n + 110) (2, 5, 6)) _ (zup (zpr row1 (n + 110) (fun _ => .null)) n 2 (.ref (n + 110))) _ (Nat.lt_succ_self _) (Nat.zero_le _) (by rw [zps_ne (by omega), he n (by omega)]; exact f0) (fun a ha => by rw [zps_ne (by omega), he a (by omega)]; exact f3 a ha) (fun b hb => by rw [zup_ne (by omega), zpr_ne (by omega), hkr b (by omega) (by omega)]; exact f4 b hb) ((f5.same hsm).same (hsm2.wide (by omega) (by omega))) zps_self (XPs.same (x := n) ⟨by rw [he _ (by omega)]; exact f2, fun g hg => hTA g hg⟩ (hsm2.wide (by omega) (by omega))) hF2 hF2.2.2.1 ext.rf (fun _ _ _ => rfl) (fun j hj => absurd hj (Nat.not_lt_zero _))
      · refine zx_aload_n dX_init_54 rfl ?_
        refine zx_get (v := .ref (n + 37)) dX_init_55 flX_28 (by rw [he n (by omega)]; exact f0) (by rw [hkr n (by omega) (by omega)]; exact f1) ?_
        refine zx_iload_n dX_init_58 rfl ?_
        refine zx_new dX_init_59 nwX_26 (by show 37 + 3 * i + 1 ≤ 795; omega) (by show 579 + 30 * i + 4 ≤ 10833; omega) ?_
        refine zx_dup dX_init_62 rfl ?_
        refine zc_I (kP_init G (d - 1) (by omega) zps_self zpr_self) (meP_init _) rfl lkX_32 (zro (by show d - 1 + 1 ≤ d; omega) (Nat.le_of_ble_eq_true rfl) (by show 37 + 3 * i + 1 + 2 ≤ 795; omega) (by show 579 + 30 * i + 4 + 26 ≤ 10833; omega) (Nat.le_of_ble_eq_true rfl)) dX_init_63 ?_
        rintro sh2 row2 ⟨e2, k2, t2⟩
        refine zn_aast (r := (RP, TP, 4)) dX_init_66 (by rw [e2 _ (by omega), zps_ne (by omega), he _ (by omega)]; exact f2) rfl (by rw [e2 _ (Nat.le_refl _)]; exact zps_self) rfl (by omega) (by decide) ?_
        refine zX_cs (ce' := 37 + 3 * (i + 1)) (sl' := 579 + 30 * (i + 1)) (by show 37 + 3 * i + 1 + 2 = _; omega) (by show 579 + 30 * i + 4 + 26 = _; omega) ?_
        refine zn_iinc (c := 1) dX_init_67 (Nat.le_of_ble_eq_true rfl) rfl rfl ?_
        refine zx_goto (tgt := 48) dX_init_70 rfl ?_
        refine ih (i + 1) shB sh2 rowB _ (by omega) (by omega) f0 f3 f4 f5 f2 ff f1 (fun b hb => ?_) (fun b hb hb2 => ?_) ?_
        · rw [e2 b (by omega), zps_ne (by omega)]; exact he b hb
        · rw [zup_ne hb2, k2 b (by omega), zpr_ne (by omega)]; exact hkr b hb hb2
        · rw [show n + (37 + 3 * i + 1) = n + 38 + 3 * i by omega] at t2 ⊢
          exact hTA.step (fun h hT => h.Post hT) (by omega) (fun b hb => by rw [e2 b (by omega), zps_ne (by omega)]) (fun b hb => by rw [k2 b (by omega), zpr_ne (by omega)]) t2
  refine zx_aload_n dX_init_0 rfl ?_
  refine zx_obj dX_init_1 lkX_3 (by show 1 ≤ d; omega) (Nat.le_of_ble_eq_true rfl) ?_
  refine zx_aload_n dX_init_4 rfl ?_
  refine zx_new dX_init_5 nwX_9 (Nat.le_of_ble_eq_true rfl) (Nat.le_of_ble_eq_true rfl) ?_
  refine zx_dup dX_init_8 rfl ?_
  refine zc_I (kT_init2 G (d - 1) (by omega) zps_self zpr_self) (meT_init _) rfl lkX_11 (zro (by show d - 1 + 1 ≤ d; omega) (Nat.le_of_ble_eq_true rfl) (Nat.le_of_ble_eq_true rfl) (Nat.le_of_ble_eq_true rfl) (Nat.le_of_ble_eq_true rfl)) dX_init_9 ?_
  rintro sh2 row2 ⟨e2, k2, t2⟩
  refine zX_cs (ce' := 2) (sl' := 26) rfl rfl ?_
  have s2 : sh2 n = some (0, 6, 12) := by rw [e2 n (by omega), zps_ne (by omega)]; exact hs
  refine zx_putF hE rfl (fun C T h => by cases h; rfl) dX_init_12 flX_12 tpX_0 s2 rfl rfl ?_
  refine zx_aload_n dX_init_15 rfl ?_
  refine zx_new dX_init_16 nwX_9 (Nat.le_of_ble_eq_true rfl) (Nat.le_of_ble_eq_true rfl) ?_
  refine zx_dup dX_init_19 rfl ?_
  refine zc_I (kT_init2 G (d - 1) (by omega) zps_self zpr_self) (meT_init _) rfl lkX_11 (zro (by show d - 1 + 1 ≤ d; omega) (Nat.le_of_ble_eq_true rfl) (Nat.le_of_ble_eq_true rfl) (Nat.le_of_ble_eq_true rfl) (Nat.le_of_ble_eq_true rfl)) dX_init_20 ?_
  rintro sh3 row3 ⟨e3, k3, t3⟩
  refine zX_cs (ce' := 4) (sl' := 52) rfl rfl ?_
  have s3 : sh3 n = some (0, 6, 12) := by rw [e3 n (by omega), zps_ne (by omega)]; exact s2
  refine zx_putF hE rfl (fun C T h => by cases h; rfl) dX_init_23 flX_16 tpX_9 s3 rfl rfl ?_
  refine zx_aload_n dX_init_26 rfl ?_
  refine zx_new dX_init_27 nwX_19 (Nat.le_of_ble_eq_true rfl) (Nat.le_of_ble_eq_true rfl) ?_
  refine zx_dup dX_init_30 rfl ?_
  refine zc_I (kR_init G (d - 1) (by omega) zps_self zpr_self) (meR_init _) rfl lkX_21 (zro (by show d - 1 + 1 ≤ d; omega) (Nat.le_of_ble_eq_true rfl) (Nat.le_of_ble_eq_true rfl) (Nat.le_of_ble_eq_true rfl) (Nat.le_of_ble_eq_true rfl)) dX_init_31 ?_
  rintro sh4 row4 ⟨e4, k4, t4⟩
  refine zX_cs (ce' := 36) (sl' := 555) rfl rfl ?_
  have s4 : sh4 n = some (0, 6, 12) := by rw [e4 n (by omega), zps_ne (by omega)]; exact s3
  refine zx_putF hE rfl (fun C T h => by cases h; rfl) dX_init_34 flX_22 tpX_4 s4 rfl rfl ?_
  refine zx_aload_n dX_init_37 rfl ?_
  refine zx_bipush (v := nI 24) dX_init_38 (by decide) ?_
  refine zx_newq (N := 24) dX_init_40 aqX_26 (by decide) (by decide) (by decide) (Nat.le_of_ble_eq_true rfl) (Nat.le_of_ble_eq_true rfl) ?_
  refine zx_putF hE rfl (fun C T h => by cases h; rfl) dX_init_43 flX_28 tpX_1 (by rw [zps_ne (by omega)]; exact s4) rfl rfl ?_
  refine zx_iconst (v := nI 0) dX_init_46 (by decide) ?_
  refine zx_istore_n dX_init_47 (Nat.le_of_ble_eq_true rfl) rfl rfl ?_
  have r2 : row2 n = row n := by rw [k2 n (by omega), zpr_ne (by omega)]
  have r3 : row3 n = zup row2 n 0 (.ref (n + 1)) n := by rw [k3 n (by omega), zpr_ne (by omega)]
  have r4 : row4 n = zup row3 n 9 (.ref (n + 3)) n := by rw [k4 n (by omega), zpr_ne (by omega)]
  have rb : ∀ b, b < n → row4 b = row b := fun b hb => by rw [k4 b (by omega), zpr_ne (by omega), zup_ne (by omega), k3 b (by omega), zpr_ne (by omega), zup_ne (by omega), k2 b (by omega), zpr_ne (by omega)]
  have sb : ∀ a, a ≤ n → sh4 a = sh a := fun a ha => by rw [e4 a (by omega), zps_ne (by omega), e3 a (by omega), zps_ne (by omega), e2 a (by omega), zps_ne (by omega)]
  have t2' : Txt sh4 row4 (n + 1) [] := t2.ext (by rw [e4 _ (by omega), zps_ne (by omega), e3 _ (by omega), zps_ne (by omega)]) (by rw [e4 _ (by omega), zps_ne (by omega), e3 _ (by omega), zps_ne (by omega)]) (by rw [k4 _ (by omega), zpr_ne (by omega), zup_ne (by omega), k3 _ (by omega), zpr_ne (by omega), zup_ne (by omega)]) (by rw [k4 _ (by omega), zpr_ne (by omega), zup_ne (by omega), k3 _ (by omega), zpr_ne (by omega), zup_ne (by omega)])
  have t3' : Txt sh4 row4 (n + 3) [] := t3.ext (by rw [e4 _ (by omega), zps_ne (by omega)]) (by rw [e4 _ (by omega), zps_ne (by omega)]) (by rw [k4 _ (by omega), zpr_ne (by omega), zup_ne (by omega)]) (by rw [k4 _ (by omega), zpr_ne (by omega), zup_ne (by omega)])
  have hB0 : B0 sh4 row4 n := ⟨t2', t3', t4⟩
  have hsm : same (n + 1) 36 sh4 (zps sh4 (n + 37) (2, 4, 24)) row4 (zup (zpr (zup row4 n 4 (.ref (n + 5))) (n + 37) (fun _ => .null)) n 1 (.ref (n + 37))) := fun c c1 c2 => ⟨zps_ne (by omega), by rw [zup_ne (by omega), zpr_ne (by omega), zup_ne (by omega)]⟩
  have w : ∀ k, row4 n k = if k = 9 then .ref (n + 3) else if k = 0 then .ref (n + 1) else row n k := by
    intro k
    rw [r4, zup_row, r3, zup_row, r2]
  have hF1 : Fl (zup (zpr (zup row4 n 4 (.ref (n + 5))) (n + 37) (fun _ => .null)) n 1 (.ref (n + 37))) n (.ref (n + 37)) .null .null := by
    have w2 : ∀ k, zup (zpr (zup row4 n 4 (.ref (n + 5))) (n + 37) (fun _ => .null)) n 1 (.ref (n + 37)) n k = if k = 1 then .ref (n + 37) else if k = 4 then .ref (n + 5) else if k = 9 then .ref (n + 3) else if k = 0 then .ref (n + 1) else row n k := by
      intro k
      rw [zup_row, zpr_ne (by omega), zup_row]
      show (if k = 1 then _ else if k = 4 then _ else row4 n k) = _
      rw [w]
    refine ⟨?_, ?_, ?_, ?_, ?_, ?_, ?_, ?_, ?_, ?_, ?_, ?_⟩ <;> (rw [w2]; first | rfl | (rw [hr]; rfl))
  exact loop1 _ 0 (zps sh4 (n + 37) (2, 4, 24)) _ (zup (zpr (zup row4 n 4 (.ref (n + 5))) (n + 37) (fun _ => .null)) n 1 (.ref (n + 37))) _ (Nat.lt_succ_self _) (Nat.zero_le _) (by rw [zps_ne (by omega)]; exact s4) (fun a ha => by rw [zps_ne (by omega)]; exact sb a ha) (fun b hb => by rw [zup_ne (by omega), zpr_ne (by omega), zup_ne (by omega)]; exact rb b hb) (hB0.same hsm) zps_self hF1 hF1.2.1 ext.rf (fun _ _ _ => rfl) (fun j hj => absurd hj (Nat.not_lt_zero _))

