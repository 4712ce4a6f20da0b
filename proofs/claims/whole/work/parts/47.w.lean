/-! THE CLAIM OUT OF ONE WALK OF THE LAW'S BODY. Your part is whole_start (and what it stands on); all else here is the same for every law, but numbers. -/
def R_law : String := "PostIndexLaw"
def lw_P (b : Addr) (xs : List Int32) (args : Array Value) (s : State) : Prop := args = #[.ref b] ∧ s.IntsAt b xs ∧ xs.length ≤ 1536 ∧ (Jvm.Cond.and given_1 narrow_1).before args s = true
def lw_Q (_ : Array Value) (s : State) (o : Outcome) (t : State) : Prop := o = .returned (some (.int 1)) ∧ Framed s o t [] 600000 7302250
def lw_Z (below : List Frame) (a : Array Value) (s : State) : State → Prop := fun t => ∃ o, t.status = .running ∧ Ended t below o ∧ lw_Q a s o t
/-- the law's own end, with 1 on the stack, nothing written that was there before, its room as the claim has it -/
theorem lw_ret {p : Program} {l : Launch} {e : Env} {s : State} {m : MethodId} {below : List Frame} {meth : Method} {c : Code} {b : Nat} (hx : p.tables.exec = Jvm.exec) (hb : c.code = code) (hr : meth.sig.returnType = ret) (hlocks : meth.locks = false) {pc : Nat} {H : Heap} {ls : Array Slot} (hdg : decode code pc = .ok (.ireturn, 1)) : W p l e room_1 s m #[Value.ref b] below meth c H [] 600000 7302250 (lw_Z below #[Value.ref b] s) (F0 m pc ls [.int 1]) := by
  intro T hT X
  obtain ⟨fs, hret, hrun, hended, hW, hframe⟩ := X.leave (v := some (.int 1)) (hlocks := hlocks) (fun h => by rw [hr] at h; cases h)
  have hmeth' : T.vm.method? m = some meth := X.method'
  refine ⟨T.setFrames fs, ?_, .returned (some (.int 1)), hrun, hended, rfl, ⟨_, rfl⟩, hW, hframe⟩
  jvm_step X.here [X.here.top, hx, hb, hdg, hmeth', hr, ret, narrow_b1]
  (try refine ⟨rfl, ?_⟩); (try refine ⟨rfl, ?_⟩)
  first | (intro acts; rw [hret _ acts rfl rfl rfl]) | rw [hret _ _ rfl rfl rfl]
  exact Steps.refl _
/-- what holds at the law's entry: the machine, the code, the tables' words (any of lw_tbl by 'hts w (by decide +kernel)'), the script of L ints xs at the cell b, what the Statement gives of the start (any of its parts by flat_of_before) -/
def lw_At (p : Program) (s : State) (m : MethodId) (meth : Method) (c : Code) (b L : Nat) (xs : Nat → Int32) : Prop :=
  p.tables.exec = Jvm.exec ∧ c.code = code ∧ meth.sig.returnType = ret ∧ c.maxLocals = 4 ∧ s.vm.findClass R_law = some m.cls ∧ (∀ w ∈ lw_tbl, w.before #[Value.ref b] s = true) ∧ va_X b L xs s s.heap ∧ b < s.heap.size ∧ meth.locks = false ∧ (Jvm.Cond.and given_1 narrow_1).before #[Value.ref b] s = true
/-- the classes that the tables know -/
theorem zNew.cl {w : String} {idx ci N : Nat} {r : Nat → Value} (h : zNew w idx ci N r) : ∃ (C : String) (T : u_T), vwCl[ci]? = some (C, T, N) ∧ (∀ w ∈ u_ws C T N, w ∈ zAll) ∧ Cond.instantiable C N ∈ zAll := by
  obtain ⟨C, T, ty, h1, h2, h3, h4, h5, h6⟩ := h
  exact ⟨C, T, h1, h2, h5⟩
theorem z_cls (c : Nat) (q : vw_C) (hq : vwCl[c]? = some q) : (∀ w ∈ u_ws q.1 q.2.1 q.2.2, w ∈ zAll) ∧ Cond.instantiable q.1 q.2.2 ∈ zAll := by
  have key : ∀ N, (∃ (C : String) (T : u_T), vwCl[c]? = some (C, T, N) ∧ (∀ w ∈ u_ws C T N, w ∈ zAll) ∧ Cond.instantiable C N ∈ zAll) → (∀ w ∈ u_ws q.1 q.2.1 q.2.2, w ∈ zAll) ∧ Cond.instantiable q.1 q.2.2 ∈ zAll := by
    rintro N ⟨C, T, h1, h2, h3⟩
    rw [hq] at h1
    cases h1
    exact ⟨h2, h3⟩
  match c, hq, key with
  | 0, _, key => exact key _ nwX_26.cl
  | 1, _, key => exact key _ nwR_18.cl
  | 2, _, key => exact key _ nwX_19.cl
  | 3, _, key => exact key _ nwX_40.cl
  | 4, _, key => exact key _ nwX_33.cl
  | 5, _, key => exact key _ nwP_7.cl
  | 6, _, key => exact key _ nwL_7.cl
  | 7, _, key => exact key _ nwL_10.cl
  | c + 8, hq, _ => exact absurd hq (by rw [List.getElem?_eq_none (by show vwCl.length ≤ c + 8; have : vwCl.length = 8 := rfl; omega)]; intro h; cases h)
theorem z_tys {s : State} {args : Array Value} (hts : ∀ w ∈ lw_tbl, w.before args s = true) (t : Nat) (ty : FieldType) (ht : zTy[t]? = some ty) : ∃ cA : ClassId, ArrOfT s cA ty ∧ va_RA s cA ty := by
  have ar : ∀ C, C ∈ zAo → ∃ cA : ClassId, ArrOfT s cA (.object C) ∧ va_RA s cA (.object C) := by
    intro C hC
    obtain ⟨comp, c, k, h1, h2, h3, h4, h5⟩ := Cond.arrayOver_spec (hts _ (zAo_in C hC))
    exact ⟨c, fun n z => ⟨fun k h => (by cases h), k, h3, comp, h4⟩, ⟨k, comp, h3, h4, h1, h5⟩⟩
  match t, ht with
  | 0, ht =>
    cases ht
    obtain ⟨cA, kA, comp, h1, h2, h3⟩ := Cond.arrayClass_spec (hts _ (zA_tbl _ arI.2))
    exact ⟨cA, fun n z => ⟨fun k h => (by cases h), kA, h2, comp, h3⟩, h1⟩
  | 1, ht =>
    cases ht
    obtain ⟨cA, kA, comp, h1, h2, h3⟩ := Cond.arrayClass_spec (hts _ (zA_tbl _ arC.2))
    exact ⟨cA, fun n z => ⟨fun k h => (by cases h), kA, h2, comp, h3⟩, h1⟩
  | 2, ht =>
    cases ht
    obtain ⟨cA, kA, comp, h1, h2, h3⟩ := Cond.arrayClass_spec (hts _ (zA_tbl _ arZ.2))
    exact ⟨cA, fun n z => ⟨fun k h => (by cases h), kA, h2, comp, h3⟩, h1⟩
  | 3, ht => cases ht; exact ar _ (by decide)
  | 4, ht => cases ht; exact ar _ (by decide)
  | 5, ht => cases ht; exact ar _ (by decide)
  | 6, ht => cases ht; exact ar _ (by decide)
  | t + 7, ht => exact absurd ht (by rw [List.getElem?_eq_none (by show zTy.length ≤ t + 7; have : zTy.length = 7 := rfl; omega)]; intro h; cases h)
theorem z_known {s : State} {args : Array Value} (hts : ∀ w ∈ lw_tbl, w.before args s = true) : ∃ (D : va_G) (cA : Nat → ClassId), (∀ (c : Nat) (q : vw_C), vwCl[c]? = some q → u_Kn s q.1 q.2.1 q.2.2 (D.1 c) (D.2 c)) ∧ ∀ (t : Nat) (ty : FieldType), zTy[t]? = some ty → ArrOfT s (cA t) ty ∧ va_RA s (cA t) ty := by
  have h1 : ∀ c : Nat, ∃ x : ClassId × (Nat → Nat), ∀ q, vwCl[c]? = some q → u_Kn s q.1 q.2.1 q.2.2 x.1 x.2 := by
    intro c
    cases hc : vwCl[c]? with
    | none => exact ⟨(0, fun _ => 0), fun q h => by cases h⟩
    | some q =>
      obtain ⟨h2, h3⟩ := z_cls c q hc
      obtain ⟨cC, iS, h⟩ := u_known (C := q.1) (T := q.2.1) (N := q.2.2) hts (fun w hw => zA_tbl _ (h2 w hw)) (hts _ (zA_tbl _ h3))
      exact ⟨(cC, iS), fun q' h' => by cases h'; exact h⟩
  have h2 : ∀ t : Nat, ∃ cA : ClassId, ∀ ty, zTy[t]? = some ty → ArrOfT s cA ty ∧ va_RA s cA ty := by
    intro t
    cases ht : zTy[t]? with
    | none => exact ⟨0, fun ty h => by cases h⟩
    | some ty =>
      obtain ⟨cA, h⟩ := z_tys hts t ty ht
      exact ⟨cA, fun ty' h' => by cases h'; exact h⟩
  obtain ⟨f, hf⟩ := Classical.axiomOfChoice h1
  obtain ⟨g, hg⟩ := Classical.axiomOfChoice h2
  exact ⟨(fun c => (f c).1, fun c => (f c).2), g, hf, hg⟩
/-- the law's end -/
theorem zx_lend {G : zG} {K : zK} {F : zF} {n0 ce sl pc b : Nat} {sh : zSh} {row : zRw} {ls : List Value} (hQ : zQm K = lw_Z (zbe K) #[Value.ref b] (zs K)) (hA : zar K = #[Value.ref b]) (hRm : zRm K = room_1) (hr : (zme K).sig.returnType = ret) (hcode : zcc F = code) (hsz : zb1 G + 1 = (zs K).heap.size) (hd : decode (zcc F) pc = .ok (.ireturn, 1)) (hc : ce ≤ 600000) (hs : sl ≤ 7302250) : zX G K F n0 ce sl sh row pc ls [.int (nI 1)] := by
  intro hF H locs lsA hRr hL
  refine va_forget (fun q hq => ?_) ?_
  · have h1 : zb1 G + 1 ≤ q.base := hRr.2.2.2.2 q hq
    omega
  · refine W.widen (k := 600000) (n := 7302250) hc hs ?_
    rw [hQ, hA, hRm]
    exact lw_ret hF.1 (hF.2.1.trans hcode) hr hF.2.2.2.2.2.2.2.2.2.1 (by rw [← hcode]; exact hd)
set_option maxHeartbeats 4000000 in
set_option maxRecDepth 100000 in
theorem whole_start {p : Program} {e : Env} {s : State} {m : MethodId} {below : List Frame} {meth : Method} {c : Code} (l : Launch) {b L : Nat} {xs : Nat → Int32} (hL : L ≤ 1536) (C0 : lw_At p s m meth c b L xs) : W p l e room_1 s m #[Value.ref b] below meth c s.heap [] 0 0 (lw_Z below #[Value.ref b] s) (entryFrame m ([Value.ref b] : List Value).toArray 4) := by
  obtain ⟨hx, hcode, hret, hml, hown, hts, hX, hb, hlk, hgv⟩ := C0
  obtain ⟨D, cA, hD1, hD2⟩ := z_known hts
  have hb1 : s.heap.size - 1 + 1 = s.heap.size := by omega
  have hcc : cL_law = code := by rfl
  have hend : ∀ sh r ls, zX (l, s.heap.size - 1, b, L, xs, D, cA) (p, e, room_1, s, m, #[Value.ref b], below, meth, c, lw_Z below #[Value.ref b] s) fLw 0 818 12372 sh r 484 ls [.int (nI 1)] := fun sh r ls => zx_lend (b := b) rfl rfl rfl hret hcc hb1 dL_law_484 (by decide) (by decide)
  have key := lw_body (G := (l, s.heap.size - 1, b, L, xs, D, cA)) (K := (p, e, room_1, s, m, #[Value.ref b], below, meth, c, lw_Z below #[Value.ref b] s)) (by show L < 1000000; omega) hend
  obtain ⟨lsA, e1, hLz⟩ := z_entry (G := (l, s.heap.size - 1, b, L, xs, D, cA)) (m := m) (vs := [.ref 0]) (nL := 4) (by intro v hv; rcases List.mem_singleton.mp hv with rfl; rfl) (by decide)
  have e2 : ([Value.ref b] : List Value).toArray = (([Value.ref 0] : List Value).map (zv (l, s.heap.size - 1, b, L, xs, D, cA))).toArray := rfl
  rw [e2, e1]
  refine key ?_ s.heap [] lsA ⟨fun a h => (by cases h), fun k q hq => (by cases hq), va_S.rf⟩ hLz
  refine ⟨hx, hcode.trans hcc.symm, hml, hown, fun w hw => hts w (zA_tbl w hw), ⟨hD1, fun k q hq => ?_⟩, hX, by show b < s.heap.size - 1 + 1; omega, by show s.heap.size = s.heap.size - 1 + 1 + 0; omega, hlk, Nat.le_of_ble_eq_true rfl, Nat.le_of_ble_eq_true rfl, Nat.le_of_ble_eq_true rfl, Nat.le_of_ble_eq_true rfl, fun q hq => va_Nw.of rfl (hts _ (zNf_in q hq)), fun C hC => va_AO.of (hts _ (zAo_in C hC))⟩
  have hk : k < zTy.length := by
    have := (List.getElem?_eq_some_iff.mp hq).1
    unfold zT at this
    simpa using this
  have hg : zTy[k]? = some (zTy.getD k .int) := by rw [List.getD_eq_getElem?_getD, List.getElem?_eq_getElem hk]; rfl
  unfold zT at hq
  rw [List.getElem?_map, List.getElem?_range hk] at hq
  cases hq
  exact hD2 k _ hg
-- ===== YOUR PART ENDS =====
set_option maxHeartbeats 4000000 in
theorem lw_walk (l : Launch) (b : Addr) (xs : List Int32) : MetFree l x (headSpec (Jvm.Cond.code x code maxLocals ret :: tables_1) room_1) (lw_P b xs) (fun _ _ _ _ _ => True) lw_Q := by
  refine MetFree.of_bodyS (code := code) (maxLocals := maxLocals) (ret := ret) (by decide) ?_ ?_
  · intro args s m h hn
    obtain ⟨meth, c, h1, h2, h3, h4, h5, h6, -, -⟩ := Cond.code_spec hn (atoms_spec (ws := Jvm.Cond.code x code maxLocals ret :: tables_1) h _ List.mem_cons_self)
    exact ⟨meth, c, h1, h2, h3, h4, h5, h6⟩
  · intro p e s m args below meth c s₁ B hml0 hP _
    obtain ⟨rfl, hx, hbd, hgv⟩ := hP
    obtain ⟨scr, harrAt, hlist, hof, hsmall⟩ := hx
    obtain ⟨hcb, hkn, -, -⟩ := State.arrayAt?_spec harrAt
    have hown : s.vm.findClass R_law = some m.cls := findClass_of_methodNamed B.named
    have hts0 : ∀ c ∈ (Jvm.Cond.code x code maxLocals ret :: tables_1), c.before #[Value.ref b] s = true := atoms_spec (ws := Jvm.Cond.code x code maxLocals ret :: tables_1) B.pre
    have hts : ∀ w ∈ lw_tbl, w.before #[Value.ref b] s = true := k2_hts_sels lw_privs (fun w hw => hts0 w (List.mem_cons_of_mem _ hw)) lw_privs_ok
    have hml : c.maxLocals = 4 := B.maxLocals_eq (hts0 _ List.mem_cons_self)
    have X₀ : Stand p l e room_1 s m #[Value.ref b] below meth c s₁ [] 0 0 := Stand.of_body B
    have hh0 : s₁.heap = s.heap := by rw [B.state]; rfl
    have hsz : scr.slots.size = xs.length := by rw [← Array.length_toList, hlist, List.length_map]
    have hval : ∀ j : Nat, j < xs.length → scr.slots[j]? = some (.int (xs.getD j 0)) := fun j hj => by
      rw [← Array.getElem?_toList, hlist]
      simp [hj]
    have hbl : b < s.heap.size := (Array.getElem?_eq_some_iff.mp hcb).1
    have hX : va_X b xs.length (fun j => xs.getD j 0) s s.heap := ⟨scr, hcb, hof, hkn, hsz, hval⟩
    have K : W p l e room_1 s m #[Value.ref b] below meth c s₁.heap [] 0 0 (lw_Z below #[Value.ref b] s) (entryFrame m ([Value.ref b] : List Value).toArray 4) := by
      rw [hh0]
      exact whole_start l hbd ⟨B.exec, B.bytes, B.returns, hml, hown, hts, hX, hbl, B.notSynchronized, hgv⟩
    obtain ⟨t, a1, o, b1, b2, b3⟩ := K s₁ rfl X₀
    exact ⟨t, o, a1, b1, b2, b3⟩
theorem lw_pre_spec {args : Array Value} {s : State} (h : (Jvm.Cond.and given_1 narrow_1).before args s = true) (hr : rest_1_c.before args s = true) : ∃ (b : Addr) (xs : List Int32), lw_P b xs args s := by
  have hs := flat_of_before _ h
  have hq := flat_of_before _ hr
  have hc : (Cond.count 1).before args s = true := hs _ (by decide +kernel)
  have harr : (Cond.arrayOf (.arg 0) .int).before args s = true := hs _ (by decide +kernel)
  have hle : (Cond.le (.length (.arg 0)) (.int 1536)).before args s = true := hs _ (by decide +kernel)
  have hlen : (Cond.isInt (.length (.arg 0))).before args s = true := hq _ (by decide +kernel)
  have hall : (Cond.all (.arg 0) (.isInt (.elem (.arg 0) (.index 0)))).before args s = true := hq _ (by decide +kernel)
  obtain ⟨b, xs, hb, hx⟩ := State.ints_of_pre rfl harr hlen hall
  have hsm : xs.length < 2 ^ 31 := hx.choose_spec.2.2.2
  have hev : (Term.length (.arg 0)).eval args s none [] s = some (.int xs.length.toInt32) := hx.length_eval hb
  have hv := Cond.le_ints hev (show (Term.int 1536).eval args s none [] s = some (.int 1536) from rfl)
  have hd : xs.length.toInt32 ≤ 1536 := by
    simpa [Cond.before, Cond.holds, hv] using hle
  have hN : xs.length ≤ 1536 := (Int32.ofNat_le_ofNat hsm (by decide)).mp (show Int32.ofNat xs.length ≤ Int32.ofNat 1536 from hd)
  exact ⟨b, xs, Cond.one_arg hc (show args[0]? = some (.ref b) from hb), hx, hN, h⟩
theorem lw_comes (l : Launch) : Comes l x (Jvm.Cond.code x code maxLocals ret :: tables_1) room_1 (fun tb e args s => Calls_1 tb e args s ∧ rest_1 tb e args s ∧ Pre_1 tb e args s)
    (fun _ _ args s o t => lw_Q args s o t) := by
  intro p e ha hc hk s m args below hf hfit hheap happ hpre
  obtain ⟨b, xs, hP⟩ := lw_pre_spec hpre.2.2 hpre.2.1
  obtain ⟨k, o, h1, h2, h3, hQ⟩ := lw_walk l b xs p e ha hc hk s m args below hf ((Spec.applies_iff_loose hf).mp happ).1 hP trivial
  exact ⟨k, o, h1, h2, h3, hQ⟩
theorem lw_frame {s t : State} {o : Outcome} {args : Array Value} (h : Framed s o t [] 600000 7302250) :
    Framed s o t (fieldLocs frame_1_writes args s ++ arrayLocs frame_1_arrays args s ++ staticLocs frame_1_statics s) 600000 7302250 := h
theorem lw_limb (L : Cond) (hL : ∀ (args : Array Value) (s t : State), L.after args s (.returned (some (.int 1))) t = true) :
    ArmFor flags0 classFile x code maxLocals ret World_1 tables_1 room_1 Calls_1 rest_1 Pre_1
      (fun tb e a s o t => postC L tb e a s o t ∧ Framed s o t (fieldLocs frame_1_writes a s ++ arrayLocs frame_1_arrays a s ++ staticLocs frame_1_statics s) 600000 7302250) := by
  intro l _ _ _ p e ha hc hk s m args below hf hfit hheap happ hpre
  obtain ⟨k, o, h1, h2, h3, rfl, hF⟩ := lw_comes l p e ha hc hk s m args below hf hfit hheap happ hpre
  exact ⟨k, _, h1, h2, h3, hL args s _, lw_frame hF⟩
theorem i_vc : Claimed_1_1 ∧ Claimed_1_2 := ⟨lw_limb limb_1_1 (fun args s t => by simp [limb_1_1, Cond.after, Cond.holds, Cond.value]), lw_limb limb_1_2 (fun args s t => Cond.after_iff.mpr (by
  first | (rw [show limb_1_2 = Cond.eq .result (.int 1) from rfl, Cond.eq_ints (x := 1) (y := 1) rfl rfl]; simp; done) | (simp [limb_1_2, Cond.value, Term.eval]; done)))⟩
