/-- the places where a row of words could begin -/
def stI (f : Nat → Int32) : Nat → Int32
  | 0 => nI 255
  | j + 1 => stI f j &&& ush (f j) j
def rowI (wds : List (List Nat)) (ts : List (List Nat × Int32)) (slot f e : Nat) : Bool := decide (¬ stI (fun j => plc ts (wds.getD (f + j) []) slot) (e - f) = nI 0)
def envI (au ti : Int32) (wds : List (List Nat)) (ts : List (List Nat × Int32)) (slot : Nat) (k : qStep) : Bool :=
  if k.1 = 1 then decide (au = k.2.1) else if k.1 = 2 then decide (ti < k.2.1) else if k.1 = 3 then decide (k.2.1 < ti) else rowI wds ts slot k.2.1.toNatClampNeg k.2.2
/-- a step on what is worked out and not yet joined -/
def stp (env : qStep → Bool) (k : qStep) (st : List Bool) : Option (List Bool) :=
  if k.1 = 4 then (match st with | a :: r => some ((!a) :: r) | [] => none)
  else if k.1 = 5 then (match st with | a :: b :: r => some ((b && a) :: r) | _ => none)
  else if k.1 = 6 then (match st with | a :: b :: r => some ((b || a) :: r) | _ => none)
  else if st.length < 31 then some (env k :: st) else none
def evalS (env : qStep → Bool) : List qStep → List Bool → Option (List Bool)
  | [], st => some st
  | k :: ks, st => match stp env k st with
    | some st' => evalS env ks st'
    | none => none
/-- its bits are the list -/
def RepB (r : Int32) (st : List Bool) : Prop := st.length ≤ 31 ∧ ∀ i, i < st.length → st[i]? = some (bt r i)
theorem RepB.nil (r : Int32) : RepB r [] := ⟨by simp, fun i hi => by cases hi⟩
theorem RepB.top {r : Int32} {a : Bool} {st : List Bool} (h : RepB r (a :: st)) : bt r 0 = a := by
  have := h.2 0 (by simp)
  exact (Option.some.inj this).symm
theorem RepB.notB {r : Int32} {a : Bool} {st : List Bool} (h : RepB r (a :: st)) : RepB (r ^^^ nI 1) ((!a) :: st) := by
  refine ⟨h.1, fun i hi => ?_⟩
  have hl := h.1
  have hi32 : i < 32 := by simp at hi hl; omega
  rw [b_xor, nI1_bits i hi32]
  cases i with
  | zero => rw [h.top]; cases a <;> rfl
  | succ i =>
    have := h.2 (i + 1) (by simpa using hi)
    simpa using this
theorem m2_bits : ∀ i, i < 32 → bt (-2) i = decide (¬ i = 0) := by decide +kernel
theorem RepB.andB {r : Int32} {a b : Bool} {st : List Bool} (h : RepB r (a :: b :: st)) : RepB (ush r 1 &&& (r ||| -2)) ((b && a) :: st) := by
  have hl := h.1
  refine ⟨by simp at hl ⊢; omega, fun i hi => ?_⟩
  have hi32 : i < 32 := by simp at hi hl; omega
  have hu : bt (ush r 1) i = bt r (1 + i) := b_ushr 1 (by decide) r i
  rw [b_and, b_or, m2_bits i hi32, hu]
  cases i with
  | zero =>
    have h1 := h.2 1 (by simp)
    have : bt r 1 = b := (Option.some.inj h1).symm
    rw [h.top, this]; cases a <;> cases b <;> rfl
  | succ i =>
    have := h.2 (i + 2) (by simp at hi ⊢; omega)
    rw [show 1 + (i + 1) = i + 2 by omega]
    simpa using this
theorem RepB.orB {r : Int32} {a b : Bool} {st : List Bool} (h : RepB r (a :: b :: st)) : RepB (ush r 1 ||| (r &&& nI 1)) ((b || a) :: st) := by
  have hl := h.1
  refine ⟨by simp at hl ⊢; omega, fun i hi => ?_⟩
  have hi32 : i < 32 := by simp at hi hl; omega
  have hu : bt (ush r 1) i = bt r (1 + i) := b_ushr 1 (by decide) r i
  rw [b_or, b_and, nI1_bits i hi32, hu]
  cases i with
  | zero =>
    have h1 := h.2 1 (by simp)
    have : bt r 1 = b := (Option.some.inj h1).symm
    rw [h.top, this]; cases a <;> cases b <;> rfl
  | succ i =>
    have := h.2 (i + 2) (by simp at hi ⊢; omega)
    rw [show 1 + (i + 1) = i + 2 by omega]
    simpa using this
theorem RepB.push {r : Int32} {st : List Bool} (h : RepB r st) (hl : st.length < 31) (v : Bool) : RepB (r <<< (nI 1 &&& 31) ||| bI v) (v :: st) := by
  refine ⟨by simp; omega, fun i hi => ?_⟩
  have hi32 : i < 32 := by simp at hi; omega
  have hb : bt (bI v) i = (decide (i = 0) && v) := by
    cases v
    · rw [show bt (bI false) i = false from b_0 i]; simp
    · rw [show bt (bI true) i = _ from nI1_bits i hi32]; simp
  rw [b_or, b_shl 1 (by decide) r hi32, hb]
  cases i with
  | zero => simp
  | succ i =>
    have := h.2 i (by simpa using hi)
    rw [show i + 1 - 1 = i by omega]
    simpa using this
theorem and1 {r : Int32} : (r &&& nI 1 = nI 1) ↔ bt r 0 = true := by
  have h := ush1 (x := r) (m := 0) (by decide)
  have e : ush r 0 = r := b_ext (fun i _ => by have := b_ushr 0 (by decide) r i; rw [Nat.zero_add] at this; exact this)
  rw [e] at h
  exact h
theorem drop_step {α : Type} {ks : List α} {i : Nat} {k : α} (h : ks[i]? = some k) : ks.drop i = k :: ks.drop (i + 1) := by
  have hl := (List.getElem?_eq_some_iff.mp h).1
  rw [List.drop_eq_getElem_cons hl]
  congr 1
  rw [List.getElem?_eq_getElem hl] at h
  exact Option.some.inj h
/-- a leaf of kind 0 names words that are there -/
def leafOk (wds : List (List Nat)) (k : qStep) : Prop := k.1 < 7 ∧ (k.1 = 0 → ∃ f, k.2.1 = nI f ∧ f ≤ k.2.2 ∧ k.2.2 ≤ wds.length)

set_option maxHeartbeats 4000000 in
set_option maxRecDepth 100000 in
theorem kQ_standInRow (G : zG) (d : Nat) (hd : 3 ≤ d) {n : Nat} {sh : zSh} {row : zRw} {q : Nat} {ks : List qStep} {wds : List (List Nat)} (hQ : QryA sh row q ks wds) {s rw : Nat} {ts : List (List Nat × Int32)} {pk : Bool} (hS : SegA sh row s ts rw pk) {slot : Nat} (hsl : slot < 4) {f e : Nat} (hfe : f ≤ e) (he : e ≤ wds.length) : zM G (fQ_standInRow d) [.ref q, .int (nI f), .int (nI e), .ref s, .int (nI slot)] n sh row (zP sh row (.int (bI (rowI wds ts slot f e)))) := by
  refine zM.of (by show plainName "PostIndex$Query" = true; decide +kernel) (Nat.le_of_ble_eq_true rfl) (by intro v hv; simp at hv; rcases hv with rfl | rfl | rfl | rfl | rfl <;> rfl) ?_
  intro K hE
  show zX G K (fQ_standInRow d) n 0 0 sh row 0 [.ref q, .int (nI f), .int (nI e), .ref s, .int (nI slot), .retAddr 0, .retAddr 0] []
  have hD : d - 1 + 1 ≤ d := by omega
  obtain ⟨⟨hs0, hs1, hs2, hs3, hs4⟩, ⟨hp0, hp1, hp2, hp3, hp4, hp5⟩, ⟨hl1, hl2⟩, hrf, htx, hst⟩ := id hQ
  have loop : ∀ (k : Nat) (a : Int32) (i : Nat), e - i < k → f ≤ i → i ≤ e → a = stI (fun j => plc ts (wds.getD (f + j) []) slot) (i - f) → zX G K (fQ_standInRow d) n 0 0 sh row 8 [.ref q, .int (nI f), .int (nI e), .ref s, .int (nI slot), .int a, .int (nI i)] [] := by
    intro k
    induction k with
    | zero => intro a i hk; exact absurd hk (Nat.not_lt_zero _)
    | succ k ih =>
      intro a i hk h3 h4 h5
      refine zx_iload dQ_standInRow_8 rfl ?_
      refine zx_iload_n dQ_standInRow_10 rfl ?_
      refine zn_icmp_ge (tgt := 43) dQ_standInRow_11 rfl (by omega) (by omega) (fun h11 => ?_) (fun h11 => ?_)
      · refine zx_iload dQ_standInRow_43 rfl ?_
        refine zx_if_eq (tgt := 52) dQ_standInRow_45 rfl (fun h45 => ?_) (fun h45 => ?_)
        · refine zx_iconst (v := nI 0) dQ_standInRow_52 (by decide) ?_
          exact zx_zret hE rfl (by first | decide | exact bI_nar _) dQ_standInRow_53 rfl (Nat.le_of_ble_eq_true rfl) (by refine ⟨?_, rfl, rfl⟩; have hie : i = e := (by omega); subst hie; unfold rowI; rw [← h5]; first | (rw [decide_eq_false (fun h => h (show a = nI 0 from h45))]; rfl) | (rw [decide_eq_true (show ¬ a = nI 0 from h45)]; rfl))
        · refine zx_iconst (v := nI 1) dQ_standInRow_48 (by decide) ?_
          refine zx_goto (tgt := 53) dQ_standInRow_49 rfl ?_
          exact zx_zret hE rfl (by first | decide | exact bI_nar _) dQ_standInRow_53 rfl (Nat.le_of_ble_eq_true rfl) (by refine ⟨?_, rfl, rfl⟩; have hie : i = e := (by omega); subst hie; unfold rowI; rw [← h5]; first | (rw [decide_eq_false (fun h => h (show a = nI 0 from h45))]; rfl) | (rw [decide_eq_true (show ¬ a = nI 0 from h45)]; rfl))
      · refine zx_iload dQ_standInRow_14 rfl ?_
        refine zx_aload_n dQ_standInRow_16 rfl ?_
        refine zx_aload_n dQ_standInRow_17 rfl ?_
        refine zx_get dQ_standInRow_18 flQ_23 (by assumption) (by assumption) ?_
        refine zx_iload dQ_standInRow_21 rfl ?_
        obtain ⟨xs, hx, hx2⟩ := htx i (by omega)
        have hw : wds.getD i [] = xs := by
          rw [List.getD_eq_getElem?_getD]
          obtain ⟨w, hw⟩ : ∃ w, wds[i]? = some w := ⟨_, List.getElem?_eq_getElem (by omega)⟩
          rw [hw]; exact hx2 w hw
        refine zn_aald dQ_standInRow_23 hs4 rfl (by omega) (by decide) (hrf i (by omega)) ?_
        refine zx_iload dQ_standInRow_24 rfl ?_
        refine zc_V (kS_placesOf G (d - 1) (by omega) hS hx hsl) (meS_placesOf _) lkQ_59 hS.1.1 rfl rfl hD (Nat.le_of_ble_eq_true rfl) rfl rfl (Nat.le_of_ble_eq_true rfl) (Nat.le_of_ble_eq_true rfl) (Nat.le_of_ble_eq_true rfl) dQ_standInRow_26 ?_
        refine zx_iload dQ_standInRow_29 rfl ?_
        refine zx_iload_n dQ_standInRow_31 rfl ?_
        refine zn_isub dQ_standInRow_32 (by omega) ?_
        refine zx_iushr (v := ush (plc ts xs slot) (i - f)) dQ_standInRow_33 rfl ?_
        refine zx_iand dQ_standInRow_34 ?_
        refine zx_istore dQ_standInRow_35 (Nat.le_of_ble_eq_true rfl) rfl rfl ?_
        refine zn_iinc (c := 1) dQ_standInRow_37 (Nat.le_of_ble_eq_true rfl) rfl rfl ?_
        refine zx_goto (tgt := 8) dQ_standInRow_40 rfl ?_
        refine ih _ (i + 1) (by omega) (by omega) (by omega) ?_
        rw [show i + 1 - f = i - f + 1 by omega]
        show _ = stI _ (i - f) &&& ush (plc ts (wds.getD (f + (i - f)) []) slot) (i - f)
        rw [show f + (i - f) = i by omega, hw, h5]
  refine zx_sipush (v := nI 255) dQ_standInRow_0 (by decide) ?_
  refine zx_istore dQ_standInRow_3 (Nat.le_of_ble_eq_true rfl) rfl rfl ?_
  refine zx_iload_n dQ_standInRow_5 rfl ?_
  refine zx_istore dQ_standInRow_6 (Nat.le_of_ble_eq_true rfl) rfl rfl ?_
  exact loop _ _ f (Nat.lt_succ_self _) (Nat.le_refl _) hfe (by rw [Nat.sub_self]; rfl)

set_option maxHeartbeats 4000000 in
set_option maxRecDepth 100000 in
theorem kQ_isTrue (G : zG) (d : Nat) (hd : 4 ≤ d) {n : Nat} {sh : zSh} {row : zRw} {q : Nat} {ks : List qStep} {wds : List (List Nat)} (hQ : QryA sh row q ks wds) {s rw : Nat} {ts : List (List Nat × Int32)} {pk : Bool} (hS : SegA sh row s ts rw pk) {slot : Nat} (hsl : slot < 4) {p : Nat} {au ti : Int32} {xs : List Nat} {er : Bool} (hP : PostA sh row p au ti xs er) {i kd we : Nat} {nu : Int32} (hk : ks[i]? = some (kd, nu, we)) (hkd : kd < 4) (hlf : leafOk wds (kd, nu, we)) : zM G (fQ_isTrue d) [.ref q, .int (nI i), .ref p, .ref s, .int (nI slot)] n sh row (zP sh row (.int (bI (envI au ti wds ts slot (kd, nu, we))))) := by
  refine zM.of (by show plainName "PostIndex$Query" = true; decide +kernel) (Nat.le_of_ble_eq_true rfl) (by intro v hv; simp at hv; rcases hv with rfl | rfl | rfl | rfl | rfl <;> rfl) ?_
  intro K hE
  show zX G K (fQ_isTrue d) n 0 0 sh row 0 [.ref q, .int (nI i), .ref p, .ref s, .int (nI slot), .retAddr 0] []
  have hD : d - 1 + 1 ≤ d := by omega
  obtain ⟨⟨hs0, hs1, hs2, hs3, hs4⟩, ⟨hp0, hp1, hp2, hp3, hp4, hp5⟩, ⟨hl1, hl2⟩, hrf, htx, hst⟩ := id hQ
  obtain ⟨hst1, hst2, hst3⟩ := hst i _ hk
  have hst1 : row (q + 1) i = .int (nI kd) := hst1
  have hst2 : row (q + 2) i = .int nu := hst2
  have hst3 : row (q + 3) i = .int (nI we) := hst3
  have hil := (List.getElem?_eq_some_iff.mp hk).1
  refine zx_aload_n dQ_isTrue_0 rfl ?_
  refine zx_get dQ_isTrue_1 flQ_15 (by assumption) (by assumption) ?_
  refine zx_iload_n dQ_isTrue_4 rfl ?_
  refine zn_iald dQ_isTrue_5 hs2 rfl (by omega) (by decide) hst2 ?_
  refine zx_istore dQ_isTrue_6 (Nat.le_of_ble_eq_true rfl) rfl rfl ?_
  refine zx_aload_n dQ_isTrue_8 rfl ?_
  refine zx_get dQ_isTrue_9 flQ_9 (by assumption) (by assumption) ?_
  refine zx_iload_n dQ_isTrue_12 rfl ?_
  refine zn_iald dQ_isTrue_13 hs1 rfl (by omega) (by decide) hst1 ?_
  skip
  by_cases hk1 : kd = 1
  · subst hk1
    refine zx_tabI (tgt := 40) (off := 26) dQ_isTrue_14 (by decide) (by decide) (by decide) rfl ?_
    refine zx_aload_n dQ_isTrue_40 rfl ?_
    refine zx_getN dQ_isTrue_41 flQ_47 hP.1 hP.2.2.1 ?_
    refine zx_iload dQ_isTrue_44 rfl ?_
    refine zx_icmp_ne (tgt := 53) dQ_isTrue_46 rfl (fun h46 => ?_) (fun h46 => ?_)
    · refine zx_iconst (v := nI 0) dQ_isTrue_53 (by decide) ?_
      exact zx_zret hE rfl (by first | decide | exact bI_nar _) dQ_isTrue_54 rfl (Nat.le_of_ble_eq_true rfl) ⟨by unfold envI; show _ = some (Value.int (bI (if (1 : Nat) = 1 then _ else _))); exact congrArg (fun z => some (Value.int z)) (by rw [if_pos rfl]; first | (rw [decide_eq_true h46]; rfl) | (rw [decide_eq_false h46]; rfl)), rfl, rfl⟩
    · refine zx_iconst (v := nI 1) dQ_isTrue_49 (by decide) ?_
      refine zx_goto (tgt := 54) dQ_isTrue_50 rfl ?_
      exact zx_zret hE rfl (by first | decide | exact bI_nar _) dQ_isTrue_54 rfl (Nat.le_of_ble_eq_true rfl) ⟨by unfold envI; show _ = some (Value.int (bI (if (1 : Nat) = 1 then _ else _))); exact congrArg (fun z => some (Value.int z)) (by rw [if_pos rfl]; first | (rw [decide_eq_true h46]; rfl) | (rw [decide_eq_false h46]; rfl)), rfl, rfl⟩
  by_cases hk2 : kd = 2
  · subst hk2
    refine zx_tabI (tgt := 55) (off := 41) dQ_isTrue_14 (by decide) (by decide) (by decide) rfl ?_
    refine zx_aload_n dQ_isTrue_55 rfl ?_
    refine zx_getN dQ_isTrue_56 flQ_52 hP.1 hP.2.2.2.1 ?_
    refine zx_iload dQ_isTrue_59 rfl ?_
    refine zx_icmp_ge (tgt := 68) dQ_isTrue_61 rfl (fun h61 => ?_) (fun h61 => ?_)
    · refine zx_iconst (v := nI 0) dQ_isTrue_68 (by decide) ?_
      exact zx_zret hE rfl (by first | decide | exact bI_nar _) dQ_isTrue_69 rfl (Nat.le_of_ble_eq_true rfl) ⟨by unfold envI; show _ = some (Value.int (bI (if (2 : Nat) = 1 then _ else _))); exact congrArg (fun z => some (Value.int z)) (by rw [if_neg (by decide), if_pos rfl]; first | (rw [decide_eq_true (Int32.not_le.mp h61)]; rfl) | (rw [decide_eq_false (Int32.not_lt.mpr h61)]; rfl)), rfl, rfl⟩
    · refine zx_iconst (v := nI 1) dQ_isTrue_64 (by decide) ?_
      refine zx_goto (tgt := 69) dQ_isTrue_65 rfl ?_
      exact zx_zret hE rfl (by first | decide | exact bI_nar _) dQ_isTrue_69 rfl (Nat.le_of_ble_eq_true rfl) ⟨by unfold envI; show _ = some (Value.int (bI (if (2 : Nat) = 1 then _ else _))); exact congrArg (fun z => some (Value.int z)) (by rw [if_neg (by decide), if_pos rfl]; first | (rw [decide_eq_true (Int32.not_le.mp h61)]; rfl) | (rw [decide_eq_false (Int32.not_lt.mpr h61)]; rfl)), rfl, rfl⟩
  by_cases hk3 : kd = 3
  · subst hk3
    refine zx_tabI (tgt := 70) (off := 56) dQ_isTrue_14 (by decide) (by decide) (by decide) rfl ?_
    refine zx_aload_n dQ_isTrue_70 rfl ?_
    refine zx_getN dQ_isTrue_71 flQ_52 hP.1 hP.2.2.2.1 ?_
    refine zx_iload dQ_isTrue_74 rfl ?_
    refine zx_icmp_le (tgt := 83) dQ_isTrue_76 rfl (fun h76 => ?_) (fun h76 => ?_)
    · refine zx_iconst (v := nI 0) dQ_isTrue_83 (by decide) ?_
      exact zx_zret hE rfl (by first | decide | exact bI_nar _) dQ_isTrue_84 rfl (Nat.le_of_ble_eq_true rfl) ⟨by unfold envI; show _ = some (Value.int (bI (if (3 : Nat) = 1 then _ else _))); exact congrArg (fun z => some (Value.int z)) (by rw [if_neg (by decide), if_neg (show ¬ (3 : Nat) = 2 by decide), if_pos rfl]; first | (rw [decide_eq_true (Int32.not_le.mp h76)]; rfl) | (rw [decide_eq_false (Int32.not_lt.mpr h76)]; rfl)), rfl, rfl⟩
    · refine zx_iconst (v := nI 1) dQ_isTrue_79 (by decide) ?_
      refine zx_goto (tgt := 84) dQ_isTrue_80 rfl ?_
      exact zx_zret hE rfl (by first | decide | exact bI_nar _) dQ_isTrue_84 rfl (Nat.le_of_ble_eq_true rfl) ⟨by unfold envI; show _ = some (Value.int (bI (if (3 : Nat) = 1 then _ else _))); exact congrArg (fun z => some (Value.int z)) (by rw [if_neg (by decide), if_neg (show ¬ (3 : Nat) = 2 by decide), if_pos rfl]; first | (rw [decide_eq_true (Int32.not_le.mp h76)]; rfl) | (rw [decide_eq_false (Int32.not_lt.mpr h76)]; rfl)), rfl, rfl⟩
  refine zx_tabO (tgt := 85) dQ_isTrue_14 (by rw [nI_toInt (zL31 (by omega))]; omega) rfl ?_
  obtain ⟨f, hf1, hf2, hf3⟩ := hlf.2 (by show kd = 0; omega)
  have hf1 : nu = nI f := hf1
  subst hf1
  refine zx_aload_n dQ_isTrue_85 rfl ?_
  refine zx_iload dQ_isTrue_86 rfl ?_
  refine zx_aload_n dQ_isTrue_88 rfl ?_
  refine zx_get dQ_isTrue_89 flQ_18 (by assumption) (by assumption) ?_
  refine zx_iload_n dQ_isTrue_92 rfl ?_
  refine zn_iald dQ_isTrue_93 hs3 rfl (by omega) (by decide) hst3 ?_
  refine zx_aload_n dQ_isTrue_94 rfl ?_
  refine zx_iload dQ_isTrue_95 rfl ?_
  refine zc_V (kQ_standInRow G (d - 1) (by omega) hQ hS hsl hf2 hf3) (meQ_standInRow _) lkQ_55 hs0 rfl rfl hD (Nat.le_of_ble_eq_true rfl) rfl rfl (Nat.le_of_ble_eq_true rfl) (Nat.le_of_ble_eq_true rfl) (Nat.le_of_ble_eq_true rfl) dQ_isTrue_97 ?_
  exact zx_zret hE rfl (by first | decide | exact bI_nar _) dQ_isTrue_100 rfl (Nat.le_of_ble_eq_true rfl) ⟨by unfold envI; rw [if_neg hk1, if_neg hk2, if_neg hk3, nI_cl (show f < 2147483648 by have := hl2; have : f ≤ we := hf2; have : we ≤ wds.length := hf3; omega)], rfl, rfl⟩

set_option maxHeartbeats 4000000 in
set_option maxRecDepth 100000 in
theorem kQ_matches (G : zG) (d : Nat) (hd : 5 ≤ d) {n : Nat} {sh : zSh} {row : zRw} {q : Nat} {ks : List qStep} {wds : List (List Nat)} (hQ : QryA sh row q ks wds) {s rw : Nat} {ts : List (List Nat × Int32)} {pk : Bool} (hS : SegA sh row s ts rw pk) {slot : Nat} (hsl : slot < 4) {p : Nat} {au ti : Int32} {xs : List Nat} {er : Bool} (hP : PostA sh row p au ti xs er) (hlf : ∀ k ∈ ks, leafOk wds k) {b0 : Bool} {fin : List Bool} (hev : evalS (envI au ti wds ts slot) ks [] = some (b0 :: fin)) : zM G (fQ_matches d) [.ref q, .ref p, .ref s, .int (nI slot)] n sh row (zP sh row (.int (bI b0))) := by
  refine zM.of (by show plainName "PostIndex$Query" = true; decide +kernel) (Nat.le_of_ble_eq_true rfl) (by intro v hv; simp at hv; rcases hv with rfl | rfl | rfl | rfl <;> rfl) ?_
  intro K hE
  show zX G K (fQ_matches d) n 0 0 sh row 0 [.ref q, .ref p, .ref s, .int (nI slot), .retAddr 0, .retAddr 0] []
  have hD : d - 1 + 1 ≤ d := by omega
  obtain ⟨⟨hs0, hs1, hs2, hs3, hs4⟩, ⟨hp0, hp1, hp2, hp3, hp4, hp5⟩, ⟨hl1, hl2⟩, hrf, htx, hst⟩ := id hQ
  have loop : ∀ (k : Nat) (a : Int32) (i : Nat) (st : List Bool), ks.length - i < k → i ≤ ks.length → RepB a st → evalS (envI au ti wds ts slot) (ks.drop i) st = some (b0 :: fin) → zX G K (fQ_matches d) n 0 0 sh row 6 [.ref q, .ref p, .ref s, .int (nI slot), .int a, .int (nI i)] [] := by
    intro k
    induction k with
    | zero => intro a i st hk; exact absurd hk (Nat.not_lt_zero _)
    | succ k ih =>
      intro a i st hk hi hrep hev
      refine zx_iload dQ_matches_6 rfl ?_
      refine zx_aload_n dQ_matches_8 rfl ?_
      refine zx_get dQ_matches_9 flQ_28 (by assumption) (by assumption) ?_
      refine zn_icmp_ge (tgt := 116) dQ_matches_12 rfl (by omega) (by omega) (fun h12 => ?_) (fun h12 => ?_)
      · refine zx_iload dQ_matches_116 rfl ?_
        refine zx_iconst (v := nI 1) dQ_matches_118 (by decide) ?_
        refine zx_iand dQ_matches_119 ?_
        refine zx_iconst (v := nI 1) dQ_matches_120 (by decide) ?_
        refine zx_icmp_ne (tgt := 128) dQ_matches_121 rfl (fun h121 => ?_) (fun h121 => ?_)
        · refine zx_iconst (v := nI 0) dQ_matches_128 (by decide) ?_
          exact zx_zret hE rfl (by first | decide | exact bI_nar _) dQ_matches_129 rfl (Nat.le_of_ble_eq_true rfl) (by
            refine ⟨?_, rfl, rfl⟩
            rw [List.drop_eq_nil_of_le (by omega)] at hev
            cases hev
            have ht := hrep.top
            first | (have h1 := and1.mp h121; rw [ht] at h1; rw [h1]; rfl) | (have h1 : ¬ bt a 0 = true := (fun h => h121 (and1.mpr h)); rw [ht] at h1; cases b0; rfl; exact absurd rfl h1))
        · refine zx_iconst (v := nI 1) dQ_matches_124 (by decide) ?_
          refine zx_goto (tgt := 129) dQ_matches_125 rfl ?_
          exact zx_zret hE rfl (by first | decide | exact bI_nar _) dQ_matches_129 rfl (Nat.le_of_ble_eq_true rfl) (by
            refine ⟨?_, rfl, rfl⟩
            rw [List.drop_eq_nil_of_le (by omega)] at hev
            cases hev
            have ht := hrep.top
            first | (have h1 := and1.mp h121; rw [ht] at h1; rw [h1]; rfl) | (have h1 : ¬ bt a 0 = true := (fun h => h121 (and1.mpr h)); rw [ht] at h1; cases b0; rfl; exact absurd rfl h1))
      · refine zx_aload_n dQ_matches_15 rfl ?_
        refine zx_get dQ_matches_16 flQ_9 (by assumption) (by assumption) ?_
        refine zx_iload dQ_matches_19 rfl ?_
        obtain ⟨⟨kd, nu, we⟩, hk⟩ : ∃ q, ks[i]? = some q := ⟨_, List.getElem?_eq_getElem (by omega)⟩
        have hlk := hlf _ (List.mem_of_getElem? hk)
        have hkd : kd < 7 := hlk.1
        obtain ⟨hst1, hst2, hst3⟩ := hst i _ hk
        have hst1 : row (q + 1) i = .int (nI kd) := hst1
        have hst2 : row (q + 2) i = .int nu := hst2
        have hst3 : row (q + 3) i = .int (nI we) := hst3
        refine zn_iald dQ_matches_21 hs1 rfl (by omega) (by decide) hst1 ?_
        by_cases hk4 : kd = 4
        · subst hk4
          obtain ⟨st', hs', hev'⟩ : ∃ st', stp (envI au ti wds ts slot) (4, nu, we) st = some st' ∧ evalS (envI au ti wds ts slot) (ks.drop (i + 1)) st' = some (b0 :: fin) := by
            rw [drop_step hk] at hev
            unfold evalS at hev
            cases hx : stp (envI au ti wds ts slot) (4, nu, we) st with
            | none => rw [hx] at hev; cases hev
            | some st' => rw [hx] at hev; exact ⟨st', rfl, hev⟩
          have hrep' : RepB (a ^^^ nI 1) st' := by
            cases st with
            | nil => cases hs'
            | cons x r => cases hs'; exact hrep.notB
          refine zx_tabI (tgt := 48) (off := 26) dQ_matches_22 (by decide) (by decide) (by decide) rfl ?_
          refine zx_iload dQ_matches_48 rfl ?_
          refine zx_iconst (v := nI 1) dQ_matches_50 (by decide) ?_
          refine zx_ixor dQ_matches_51 ?_
          refine zx_istore dQ_matches_52 (Nat.le_of_ble_eq_true rfl) rfl rfl ?_
          refine zx_goto (tgt := 110) dQ_matches_54 rfl ?_
          refine zn_iinc (c := 1) dQ_matches_110 (Nat.le_of_ble_eq_true rfl) rfl rfl ?_
          refine zx_goto (tgt := 6) dQ_matches_113 rfl ?_
          exact ih _ (i + 1) _ (by omega) (by omega) hrep' hev'
        by_cases hk5 : kd = 5
        · subst hk5
          obtain ⟨st', hs', hev'⟩ : ∃ st', stp (envI au ti wds ts slot) (5, nu, we) st = some st' ∧ evalS (envI au ti wds ts slot) (ks.drop (i + 1)) st' = some (b0 :: fin) := by
            rw [drop_step hk] at hev
            unfold evalS at hev
            cases hx : stp (envI au ti wds ts slot) (5, nu, we) st with
            | none => rw [hx] at hev; cases hev
            | some st' => rw [hx] at hev; exact ⟨st', rfl, hev⟩
          have hrep' : RepB (ush a 1 &&& (a ||| -2)) st' := by
            cases st with
            | nil => cases hs'
            | cons x r => cases r with
              | nil => cases hs'
              | cons y r => cases hs'; exact hrep.andB
          refine zx_tabI (tgt := 57) (off := 35) dQ_matches_22 (by decide) (by decide) (by decide) rfl ?_
          refine zx_iload dQ_matches_57 rfl ?_
          refine zx_iconst (v := nI 1) dQ_matches_59 (by decide) ?_
          refine zx_iushr (v := ush a 1) dQ_matches_60 rfl ?_
          refine zx_iload dQ_matches_61 rfl ?_
          refine zx_bipush (v := -2) dQ_matches_63 (by decide) ?_
          refine zx_ior dQ_matches_65 ?_
          refine zx_iand dQ_matches_66 ?_
          refine zx_istore dQ_matches_67 (Nat.le_of_ble_eq_true rfl) rfl rfl ?_
          refine zx_goto (tgt := 110) dQ_matches_69 rfl ?_
          refine zn_iinc (c := 1) dQ_matches_110 (Nat.le_of_ble_eq_true rfl) rfl rfl ?_
          refine zx_goto (tgt := 6) dQ_matches_113 rfl ?_
          exact ih _ (i + 1) _ (by omega) (by omega) hrep' hev'
        by_cases hk6 : kd = 6
        · subst hk6
          obtain ⟨st', hs', hev'⟩ : ∃ st', stp (envI au ti wds ts slot) (6, nu, we) st = some st' ∧ evalS (envI au ti wds ts slot) (ks.drop (i + 1)) st' = some (b0 :: fin) := by
            rw [drop_step hk] at hev
            unfold evalS at hev
            cases hx : stp (envI au ti wds ts slot) (6, nu, we) st with
            | none => rw [hx] at hev; cases hev
            | some st' => rw [hx] at hev; exact ⟨st', rfl, hev⟩
          have hrep' : RepB (ush a 1 ||| (a &&& nI 1)) st' := by
            cases st with
            | nil => cases hs'
            | cons x r => cases r with
              | nil => cases hs'
              | cons y r => cases hs'; exact hrep.orB
          refine zx_tabI (tgt := 72) (off := 50) dQ_matches_22 (by decide) (by decide) (by decide) rfl ?_
          refine zx_iload dQ_matches_72 rfl ?_
          refine zx_iconst (v := nI 1) dQ_matches_74 (by decide) ?_
          refine zx_iushr (v := ush a 1) dQ_matches_75 rfl ?_
          refine zx_iload dQ_matches_76 rfl ?_
          refine zx_iconst (v := nI 1) dQ_matches_78 (by decide) ?_
          refine zx_iand dQ_matches_79 ?_
          refine zx_ior dQ_matches_80 ?_
          refine zx_istore dQ_matches_81 (Nat.le_of_ble_eq_true rfl) rfl rfl ?_
          refine zx_goto (tgt := 110) dQ_matches_83 rfl ?_
          refine zn_iinc (c := 1) dQ_matches_110 (Nat.le_of_ble_eq_true rfl) rfl rfl ?_
          refine zx_goto (tgt := 6) dQ_matches_113 rfl ?_
          exact ih _ (i + 1) _ (by omega) (by omega) hrep' hev'
        obtain ⟨st', hs', hev'⟩ : ∃ st', stp (envI au ti wds ts slot) (kd, nu, we) st = some st' ∧ evalS (envI au ti wds ts slot) (ks.drop (i + 1)) st' = some (b0 :: fin) := by
          rw [drop_step hk] at hev
          unfold evalS at hev
          cases hx : stp (envI au ti wds ts slot) (kd, nu, we) st with
          | none => rw [hx] at hev; cases hev
          | some st' => rw [hx] at hev; exact ⟨st', rfl, hev⟩
        have hsl' : st.length < 31 ∧ st' = envI au ti wds ts slot (kd, nu, we) :: st := by
          unfold stp at hs'
          rw [if_neg hk4, if_neg hk5, if_neg hk6] at hs'
          by_cases hl : st.length < 31
          · rw [if_pos hl] at hs'; exact ⟨hl, (Option.some.inj hs').symm⟩
          · rw [if_neg hl] at hs'; cases hs'
        obtain ⟨hl31, rfl⟩ := hsl'
        refine zx_tabO (tgt := 86) dQ_matches_22 (by rw [nI_toInt (zL31 (by omega))]; omega) rfl ?_
        refine zx_iload dQ_matches_86 rfl ?_
        refine zx_iconst (v := nI 1) dQ_matches_88 (by decide) ?_
        refine zx_ishl dQ_matches_89 ?_
        refine zx_aload_n dQ_matches_90 rfl ?_
        refine zx_iload dQ_matches_91 rfl ?_
        refine zx_aload_n dQ_matches_93 rfl ?_
        refine zx_aload_n dQ_matches_94 rfl ?_
        refine zx_iload_n dQ_matches_95 rfl ?_
        refine zc_V (kQ_isTrue G (d - 1) (by omega) hQ hS hsl hP hk (by omega) hlk) (meQ_isTrue _) lkQ_43 hs0 rfl rfl hD (Nat.le_of_ble_eq_true rfl) rfl rfl (Nat.le_of_ble_eq_true rfl) (Nat.le_of_ble_eq_true rfl) (Nat.le_of_ble_eq_true rfl) dQ_matches_96 ?_
        refine zb_if_eq (tgt := 106) dQ_matches_99 rfl (fun h99 => ?_) (fun h99 => ?_)
        · refine zx_iconst (v := nI 0) dQ_matches_106 (by decide) ?_
          refine zx_ior dQ_matches_107 ?_
          refine zx_istore dQ_matches_108 (Nat.le_of_ble_eq_true rfl) rfl rfl ?_
          refine zn_iinc (c := 1) dQ_matches_110 (Nat.le_of_ble_eq_true rfl) rfl rfl ?_
          refine zx_goto (tgt := 6) dQ_matches_113 rfl ?_
          refine ih _ (i + 1) _ (by omega) (by omega) ?_ hev'
          have hpu := hrep.push hl31 (envI au ti wds ts slot (kd, nu, we))
          rw [h99] at hpu ⊢
          exact hpu
        · refine zx_iconst (v := nI 1) dQ_matches_102 (by decide) ?_
          refine zx_goto (tgt := 107) dQ_matches_103 rfl ?_
          refine zx_ior dQ_matches_107 ?_
          refine zx_istore dQ_matches_108 (Nat.le_of_ble_eq_true rfl) rfl rfl ?_
          refine zn_iinc (c := 1) dQ_matches_110 (Nat.le_of_ble_eq_true rfl) rfl rfl ?_
          refine zx_goto (tgt := 6) dQ_matches_113 rfl ?_
          refine ih _ (i + 1) _ (by omega) (by omega) ?_ hev'
          have hpu := hrep.push hl31 (envI au ti wds ts slot (kd, nu, we))
          rw [h99] at hpu ⊢
          exact hpu
  refine zx_iconst (v := nI 0) dQ_matches_0 (by decide) ?_
  refine zx_istore dQ_matches_1 (Nat.le_of_ble_eq_true rfl) rfl rfl ?_
  refine zx_iconst (v := nI 0) dQ_matches_3 (by decide) ?_
  refine zx_istore dQ_matches_4 (Nat.le_of_ble_eq_true rfl) rfl rfl ?_
  exact loop _ _ 0 [] (Nat.lt_succ_self _) (Nat.zero_le _) (RepB.nil _) hev

