section ZDefs
/-- fixed things of a launch: the launch, b1 (the cell below the first that is ours), the script's cell, its length, its ints, the classes' numbers and slots, the array classes -/
abbrev zG : Type := Launch × Nat × Nat × Nat × (Nat → Int32) × va_G × (Nat → ClassId)
/-- the machine at a method: program, environment, room, start, method, arguments, frames below, the method, its code, the end -/
abbrev zK : Type := Program × Env × Room × State × MethodId × Array Value × List Frame × Method × Code × (State → Prop)
/-- a method's texts: bytes, locals, name, type of its answer, depth, cells, slots -/
abbrev zF : Type := ByteArray × Nat × MethodName × Option FieldType × Nat × Nat × Nat
abbrev zSh : Type := Nat → Option (Nat × Nat × Nat)
abbrev zRw : Type := Nat → Nat → Value
abbrev zgl (G : zG) : Launch := G.1
abbrev zb1 (G : zG) : Nat := G.2.1
abbrev zbS (G : zG) : Nat := G.2.2.1
abbrev zgL (G : zG) : Nat := G.2.2.2.1
abbrev zxs (G : zG) : Nat → Int32 := G.2.2.2.2.1
abbrev zgD (G : zG) : va_G := G.2.2.2.2.2.1
abbrev zcA (G : zG) : Nat → ClassId := G.2.2.2.2.2.2
abbrev zp (K : zK) : Program := K.1
abbrev ze (K : zK) : Env := K.2.1
abbrev zRm (K : zK) : Room := K.2.2.1
abbrev zs (K : zK) : State := K.2.2.2.1
abbrev zm (K : zK) : MethodId := K.2.2.2.2.1
abbrev zar (K : zK) : Array Value := K.2.2.2.2.2.1
abbrev zbe (K : zK) : List Frame := K.2.2.2.2.2.2.1
abbrev zme (K : zK) : Method := K.2.2.2.2.2.2.2.1
abbrev zc (K : zK) : Code := K.2.2.2.2.2.2.2.2.1
abbrev zQm (K : zK) : State → Prop := K.2.2.2.2.2.2.2.2.2
abbrev zcc (F : zF) : ByteArray := F.1
abbrev znL (F : zF) : Nat := F.2.1
abbrev zy (F : zF) : MethodName := F.2.2.1
abbrev zrt (F : zF) : Option FieldType := F.2.2.2.1
abbrev zow (F : zF) : String := (zy F).cls
abbrev zTs (F : zF) : List Cond := Cond.code (zy F) (zcc F) (znL F) (zrt F) :: zAll
abbrev zd (F : zF) : Nat := F.2.2.2.2.1
abbrev zmc (F : zF) : Nat := F.2.2.2.2.2.1
abbrev zms (F : zF) : Nat := F.2.2.2.2.2.2
def zad (G : zG) (i : Nat) : Nat := if i = 0 then zbS G else zb1 G + i
def zv (G : zG) (v : Value) : Value := match v with
  | .ref i => .ref (zad G i)
  | w => w
def zi (v : Value) : Int32 := match v with
  | .int x => x
  | _ => 0
def zq (G : zG) (v : Value) : Option Nat := match v with
  | .ref i => some (zad G i)
  | _ => none
/-- a cell: tag 0 an object (class, fields), tag 1 an array of ints, chars .., else an array of references -/
def zE (G : zG) (s : Nat × Nat × Nat) (r : Nat → Value) : va_E := match s.1 with
  | 0 => .inr (s.2.1, (List.range s.2.2).map (fun k => zv G (r k)))
  | 1 => .inl (zcA G s.2.1, s.2.2, .inl (fun k => zi (r k)))
  | _ => .inl (zcA G s.2.1, s.2.2, .inr (.inr (.inr (.inr (fun k => zq G (r k))))))
def zW (G : zG) (n : Nat) (sh : zSh) (row : zRw) : va_W := (List.range n).map (fun i => (zb1 G + 1 + i, zE G ((sh (i + 1)).getD (0, 0, 0)) (row (i + 1))))
def zup (row : zRw) (a k : Nat) (v : Value) : zRw := fun b j => if b = a ∧ j = k then v else row b j
def zT (G : zG) : List (ClassId × FieldType) := (List.range zTy.length).map (fun t => (zcA G t, zTy.getD t .int))
/-- the words of private members of nest mates: they are carried beside the methods' words -/
def zNs (U : State) : Prop := (∀ q ∈ zNf, va_Nw (.fieldLinkNest q.1 q.2.1 q.2.2.1 q.2.2.2.1 q.2.2.2.2.1 q.2.2.2.2.2) U) ∧ ∀ C ∈ zAo, va_AO C U
theorem zNs.warm {s U : State} (hW : s.WarmedH U.vm) (h : zNs s) : zNs U := ⟨fun q hq => va_Nw.warmF hW (h.1 q hq), fun C hC => va_AO.moved hW.alike (h.2 C hC)⟩
theorem zNs.same {s U : State} (e : s.vm = U.vm) (h : zNs s) : zNs U := ⟨fun q hq => va_Nw.same rfl e (h.1 q hq), fun C hC => va_AO.moved (by rw [e]; exact Vm.Alike.refl _) (h.2 C hC)⟩
abbrev zA (G : zG) : Nat → Prop := fun q => zb1 G + 1 ≤ q
def zIn (n : Nat) (sh : zSh) : Prop := ∀ a, (sh a).isSome = true → 1 ≤ a ∧ a ≤ n
/-- the heap is the picture -/
def zR (G : zG) (n : Nat) (sh : zSh) (row : zRw) (H0 H : Heap) (locs : List Loc) : Prop := zIn n sh ∧ va_P (zgD G) vwCl (zW G n sh row) H ∧ va_S (zA G) H0 H locs
/-- the locals: '.retAddr' stands for one that is not known -/
def zL (G : zG) (lsA : Array Slot) (nL : Nat) (ls : List Value) : Prop := lsA.size = nL ∧ lv_wf lsA ∧ ls.length = nL ∧ ∀ (i : Nat) (v : Value), ls[i]? = some v → (∀ r, v ≠ .retAddr r) → lsA[i]? = some (.val (zv G v))
/-- what is known at a method's body -/
def zOk (G : zG) (K : zK) (F : zF) (n0 : Nat) : Prop := (zp K).tables.exec = Jvm.exec ∧ (zc K).code = zcc F ∧ (zc K).maxLocals = znL F ∧ (zs K).vm.findClass (zow F) = some (zm K).cls ∧ (∀ w ∈ zAll, w.before (zar K) (zs K) = true) ∧ va_K (zgD G) vwCl (zT G) (zs K) ∧ va_X (zbS G) (zgL G) (zxs G) (zs K) (zs K).heap ∧ zbS G < zb1 G + 1 ∧ (zs K).heap.size = zb1 G + 1 + n0 ∧ (zme K).locks = false ∧ zd F ≤ (zRm K).frames ∧ 40 * zd F ≤ (zRm K).locals ∧ zmc F ≤ (zRm K).cells ∧ zms F ≤ (zRm K).slots ∧ zNs (zs K)
/-- the judgement: from here the machine comes to its end -/
def zX (G : zG) (K : zK) (F : zF) (n0 ce sl : Nat) (sh : zSh) (row : zRw) (pc : Nat) (ls st : List Value) : Prop :=
  zOk G K F n0 → ∀ (H : Heap) (locs : List Loc) (lsA : Array Slot), zR G (n0 + ce) sh row (zs K).heap H locs → zL G lsA (znL F) ls →
    W (zp K) (zgl G) (ze K) (zRm K) (zs K) (zm K) (zar K) (zbe K) (zme K) (zc K) H locs ce sl (zQm K) (F0 (zm K) pc lsA (st.map (zv G)))
/-- a method's world, its end, its contract -/
def zI (G : zG) (n : Nat) (sh : zSh) (row : zRw) (U : State) : Prop := U.heap.size = zb1 G + 1 + n ∧ zIn n sh ∧ va_P (zgD G) vwCl (zW G n sh row) U.heap ∧ va_K (zgD G) vwCl (zT G) U ∧ va_X (zbS G) (zgL G) (zxs G) U U.heap ∧ zbS G < zb1 G + 1 ∧ zNs U
def zQ (G : zG) (n : Nat) (Q : Option Value → zSh → zRw → Prop) : Array Value → State → Outcome → State → Prop := fun _ st o t => (∃ (r : Option Value) (sh : zSh) (row : zRw), o = .returned (r.map (zv G)) ∧ Q r sh row ∧ zIn n sh ∧ va_P (zgD G) vwCl (zW G n sh row) t.heap) ∧ va_F (zA G) st t
abbrev zrm (F : zF) : Room := { frames := zd F, cells := zmc F, slots := zms F, locals := 40 * zd F }
def zM (G : zG) (F : zF) (av : List Value) (n : Nat) (sh : zSh) (row : zRw) (Q : Option Value → zSh → zRw → Prop) : Prop := Met (zgl G) (zy F) (zTs F) (zrm F) (va_Pc (av.map (zv G)) (zI G n sh row)) (zQ G (n + zmc F) Q) (zmc F) (zms F) (zA G)
/-- the end of a method that makes nothing -/
abbrev zN (sh : zSh) (q : Option Value → zRw → Prop) : Option Value → zSh → zRw → Prop := fun r sh' row' => sh' = sh ∧ q r row'
def zEnd (G : zG) (K : zK) (F : zF) (n0 : Nat) (Q : Option Value → zSh → zRw → Prop) : Prop := zQm K = MQ (zbe K) (zQ G (n0 + zmc F) Q) (zar K) (zs K) (zmc F) (zms F) (zA G) ∧ (zme K).sig.returnType = zrt F ∧ (zme K).name = (zy F).name
end ZDefs
section ZBase
variable {G : zG} {n : Nat} {sh : zSh} {row : zRw}
theorem zad_pos {a : Nat} (h : 1 ≤ a) : zad G a = zb1 G + a := by
  unfold zad; rw [if_neg (by omega)]
theorem zW_get {a : Nat} {s : Nat × Nat × Nat} (hI : zIn n sh) (hs : sh a = some s) : (zW G n sh row)[a - 1]? = some (zad G a, zE G s (row a)) := by
  obtain ⟨h1, h2⟩ := hI a (by rw [hs]; rfl)
  unfold zW
  rw [List.getElem?_map, List.getElem?_range (by omega)]
  simp only [Option.map_some]
  rw [show a - 1 + 1 = a by omega, hs, zad_pos h1, show zb1 G + 1 + (a - 1) = zb1 G + a by omega]
  rfl
theorem zW_D : va_D (zA G) (zW G n sh row) := by
  have key : ∀ (k : Nat) (q : Nat × va_E), (zW G n sh row)[k]? = some q → q.1 = zb1 G + 1 + k := by
    intro k q hq
    unfold zW at hq
    rw [List.getElem?_map] at hq
    by_cases hk : k < n
    · rw [List.getElem?_range hk] at hq
      cases hq
      rfl
    · rw [List.getElem?_eq_none (by simpa using Nat.le_of_not_lt hk)] at hq
      cases hq
  refine ⟨fun i j p q hi hj he => ?_, fun k q hk => ?_⟩
  · have h1 := key i p hi
    have h2 := key j q hj
    omega
  · have h1 := key k q hk
    show zb1 G + 1 ≤ q.1
    omega
theorem zW_set {a : Nat} {s : Nat × Nat × Nat} {r : Nat → Value} {row' : zRw} (hI : zIn n sh) (hs : sh a = some s) (hr : row' a = r) (ho : ∀ b, b ≠ a → row' b = row b) : (zW G n sh row).set (a - 1) (zad G a, zE G s r) = zW G n sh row' := by
  obtain ⟨h1, h2⟩ := hI a (by rw [hs]; rfl)
  unfold zW
  apply List.ext_getElem?
  intro k
  rw [List.getElem?_set]
  by_cases hk : a - 1 = k
  · subst hk
    rw [if_pos rfl, if_pos (by simpa using (by omega : a - 1 < n)), List.getElem?_map, List.getElem?_range (by omega)]
    simp only [Option.map_some]
    rw [show a - 1 + 1 = a by omega, hs, zad_pos h1, show zb1 G + 1 + (a - 1) = zb1 G + a by omega, hr]
    rfl
  · rw [if_neg hk, List.getElem?_map, List.getElem?_map]
    by_cases hn : k < n
    · rw [List.getElem?_range hn]
      simp only [Option.map_some]
      rw [ho (k + 1) (by omega)]
    · rw [List.getElem?_eq_none (by simpa using Nat.le_of_not_lt hn)]
      rfl
theorem zup_row (a k : Nat) (v : Value) : (zup row a k v) a = fun j => if j = k then v else row a j := by
  funext j
  unfold zup
  by_cases h : j = k
  · rw [if_pos ⟨rfl, h⟩, if_pos h]
  · rw [if_neg (fun q => h q.2), if_neg h]
theorem zup_ne {a k b : Nat} {v : Value} (h : b ≠ a) : (zup row a k v) b = row b := by
  funext j
  unfold zup
  rw [if_neg (fun q => h q.1)]
theorem zup_same (a k : Nat) (v : Value) : zup row a k v a k = v := by
  unfold zup; rw [if_pos ⟨rfl, rfl⟩]
theorem zup_k {a k b j : Nat} {v : Value} (h : b ≠ a ∨ j ≠ k) : zup row a k v b j = row b j := by
  unfold zup
  rw [if_neg]
  rintro ⟨rfl, rfl⟩
  rcases h with h | h <;> exact h rfl
theorem zT_get {t : Nat} {ty : FieldType} (h : zTy[t]? = some ty) : (zT G)[t]? = some (zcA G t, ty) := by
  have hl : t < zTy.length := (List.getElem?_eq_some_iff.mp h).1
  unfold zT
  rw [List.getElem?_map, List.getElem?_range hl]
  simp only [Option.map_some]
  rw [List.getD_eq_getElem?_getD, h]
  rfl
theorem zfs_get {N k : Nat} {r : Nat → Value} (hk : k < N) : ((List.range N).map (fun k => zv G (r k)))[k]? = some (zv G (r k)) := by
  rw [List.getElem?_map, List.getElem?_range hk]
  rfl
theorem zfs_set {N k : Nat} {r : Nat → Value} {v : Value} (hk : k < N) : ((List.range N).map (fun k => zv G (r k))).set k (zv G v) = (List.range N).map (fun j => zv G (if j = k then v else r j)) := by
  apply List.ext_getElem?
  intro j
  rw [List.getElem?_set]
  by_cases h : k = j
  · subst h
    rw [if_pos rfl, if_pos (by simpa using hk), List.getElem?_map, List.getElem?_range hk]
    simp
  · rw [if_neg h, List.getElem?_map, List.getElem?_map]
    by_cases hn : j < N
    · rw [List.getElem?_range hn]
      simp only [Option.map_some]
      rw [if_neg (fun q => h q.symm)]
    · rw [List.getElem?_eq_none (by simpa using Nat.le_of_not_lt hn)]
      rfl
theorem zS_A {K : zK} {F : zF} {n0 : Nat} (hF : zOk G K F n0) : ∀ q, (zs K).heap.size ≤ q → zA G q := fun q h => by
  have h1 := hF.2.2.2.2.2.2.2.2.1
  show zb1 G + 1 ≤ q
  omega
theorem zL_at {lsA : Array Slot} {nL : Nat} {ls : List Value} (h : zL G lsA nL ls) {i : Nat} {v : Value} (hi : ls[i]? = some v) (hv : ∀ r, v ≠ .retAddr r) : lsA[i]? = some (.val (zv G v)) := h.2.2.2 i v hi hv
theorem zL_lv {lsA : Array Slot} {nL : Nat} {ls : List Value} (h : zL G lsA nL ls) : lv_has lsA nL [] := ⟨h.1, h.2.1, fun q hq => by cases hq⟩
theorem zv_cat (v : Value) : (zv G v).category = v.category := by cases v <;> rfl
/-- storing into a local -/
theorem zL_store {lsA : Array Slot} {nL i : Nat} {ls : List Value} {v : Value} (h : zL G lsA nL ls) (hi : i < nL) (hc : v.category = 1) (hls : ∀ w ∈ ls, w.category = 1) : ∃ l', storeLocals lsA i (zv G v) = some l' ∧ zL G l' nL (ls.set i v) := by
  let lv : List (Nat × Value) := (List.range nL).filterMap (fun j => match (ls[j]? : Option Value) with
    | some (Value.retAddr _) => none
    | some w => some (j, zv G w)
    | none => none)
  have hlv : lv_has lsA nL lv := by
    refine ⟨h.1, h.2.1, fun q hq => ?_⟩
    obtain ⟨j, -, hj⟩ := List.mem_filterMap.mp hq
    cases hw : ls[j]? with
    | none => rw [hw] at hj; cases hj
    | some w =>
      rw [hw] at hj
      cases w <;> first | (cases hj; done) | (cases hj; exact h.2.2.2 j _ hw (fun r => by intro q; cases q))
  obtain ⟨l', e1, h1, h2, h3⟩ := lv_store1 (v := zv G v) hlv hi (by rw [zv_cat]; exact hc)
  refine ⟨l', e1, h1, h2, by rw [List.length_set]; exact h.2.2.1, fun j w hj hw => ?_⟩
  by_cases hji : i = j
  · subst hji
    rw [List.getElem?_set_self (by rw [h.2.2.1]; exact hi)] at hj
    cases hj
    exact h3 _ List.mem_cons_self
  · rw [List.getElem?_set_ne hji] at hj
    have hjn : j < nL := by
      have := (List.getElem?_eq_some_iff.mp hj).1
      rw [h.2.2.1] at this
      exact this
    refine h3 (j, zv G w) (List.mem_cons_of_mem _ (List.mem_filter.mpr ⟨List.mem_filterMap.mpr ⟨j, List.mem_range.mpr hjn, ?_⟩, ?_⟩))
    · rw [hj]
      cases w <;> first | rfl | (exfalso; exact hw _ rfl)
    · have hc1 : w.category = 1 := hls w (List.mem_of_getElem? hj)
      simp only [Bool.and_eq_true, Bool.not_eq_true', beq_eq_false_iff_ne, ne_eq, Bool.and_eq_false_iff]
      refine ⟨fun q => hji q.symm, Or.inr ?_⟩
      rw [zv_cat, hc1]
      decide
end ZBase
section ZRows
variable {G : zG} {K : zK} {F : zF} {n0 ce sl : Nat} {sh : zSh} {row : zRw} {pc : Nat} {ls st : List Value}
theorem zx_iconst {i : Int} {v : Int32} (hd : decode (zcc F) pc = .ok (.iconst i, 1)) (hv : Int32.ofInt i = v) (k : zX G K F n0 ce sl sh row (pc + 1) ls (.int v :: st)) : zX G K F n0 ce sl sh row pc ls (st) :=
  fun hF H locs lsA hR hL => lv_iconst hF.1 hF.2.1 hd hv (k hF H locs lsA hR hL)
theorem zx_bipush {i : Int} {v : Int32} (hd : decode (zcc F) pc = .ok (.bipush i, 2)) (hv : (Int8.ofInt i).toInt32 = v) (k : zX G K F n0 ce sl sh row (pc + 2) ls (.int v :: st)) : zX G K F n0 ce sl sh row pc ls (st) :=
  fun hF H locs lsA hR hL => lv_bipush hF.1 hF.2.1 hd hv (k hF H locs lsA hR hL)
theorem zx_sipush {i : Int} {v : Int32} (hd : decode (zcc F) pc = .ok (.sipush i, 3)) (hv : (Int16.ofInt i).toInt32 = v) (k : zX G K F n0 ce sl sh row (pc + 3) ls (.int v :: st)) : zX G K F n0 ce sl sh row pc ls (st) :=
  fun hF H locs lsA hR hL => lv_sipush hF.1 hF.2.1 hd hv (k hF H locs lsA hR hL)
theorem zx_iadd {x y : Int32} (hd : decode (zcc F) pc = .ok (.iadd, 1)) (k : zX G K F n0 ce sl sh row (pc + 1) ls (.int (x + y) :: st)) : zX G K F n0 ce sl sh row pc ls (.int y :: .int x :: st) :=
  fun hF H locs lsA hR hL => lv_iadd hF.1 hF.2.1 hd (k hF H locs lsA hR hL)
theorem zx_isub {x y : Int32} (hd : decode (zcc F) pc = .ok (.isub, 1)) (k : zX G K F n0 ce sl sh row (pc + 1) ls (.int (x - y) :: st)) : zX G K F n0 ce sl sh row pc ls (.int y :: .int x :: st) :=
  fun hF H locs lsA hR hL => lv_isub hF.1 hF.2.1 hd (k hF H locs lsA hR hL)
theorem zx_imul {x y : Int32} (hd : decode (zcc F) pc = .ok (.imul, 1)) (k : zX G K F n0 ce sl sh row (pc + 1) ls (.int (x * y) :: st)) : zX G K F n0 ce sl sh row pc ls (.int y :: .int x :: st) :=
  fun hF H locs lsA hR hL => lv_imul hF.1 hF.2.1 hd (k hF H locs lsA hR hL)
theorem zx_iand {x y : Int32} (hd : decode (zcc F) pc = .ok (.iand, 1)) (k : zX G K F n0 ce sl sh row (pc + 1) ls (.int (x &&& y) :: st)) : zX G K F n0 ce sl sh row pc ls (.int y :: .int x :: st) :=
  fun hF H locs lsA hR hL => lv_iand hF.1 hF.2.1 hd (k hF H locs lsA hR hL)
theorem zx_ior {x y : Int32} (hd : decode (zcc F) pc = .ok (.ior, 1)) (k : zX G K F n0 ce sl sh row (pc + 1) ls (.int (x ||| y) :: st)) : zX G K F n0 ce sl sh row pc ls (.int y :: .int x :: st) :=
  fun hF H locs lsA hR hL => lv_ior hF.1 hF.2.1 hd (k hF H locs lsA hR hL)
theorem zx_ixor {x y : Int32} (hd : decode (zcc F) pc = .ok (.ixor, 1)) (k : zX G K F n0 ce sl sh row (pc + 1) ls (.int (x ^^^ y) :: st)) : zX G K F n0 ce sl sh row pc ls (.int y :: .int x :: st) :=
  fun hF H locs lsA hR hL => lv_ixor hF.1 hF.2.1 hd (k hF H locs lsA hR hL)
theorem zx_ishl {x y : Int32} (hd : decode (zcc F) pc = .ok (.ishl, 1)) (k : zX G K F n0 ce sl sh row (pc + 1) ls (.int (x <<< (y &&& 31)) :: st)) : zX G K F n0 ce sl sh row pc ls (.int y :: .int x :: st) :=
  fun hF H locs lsA hR hL => lv_ishl hF.1 hF.2.1 hd (k hF H locs lsA hR hL)
theorem zx_ishr {x y : Int32} (hd : decode (zcc F) pc = .ok (.ishr, 1)) (k : zX G K F n0 ce sl sh row (pc + 1) ls (.int (x >>> (y &&& 31)) :: st)) : zX G K F n0 ce sl sh row pc ls (.int y :: .int x :: st) :=
  fun hF H locs lsA hR hL => lv_ishr hF.1 hF.2.1 hd (k hF H locs lsA hR hL)
theorem zx_idiv {x y : Int32} (hd : decode (zcc F) pc = .ok (.idiv, 1)) (hne : ¬ y = 0) (k : zX G K F n0 ce sl sh row (pc + 1) ls (.int (x / y) :: st)) : zX G K F n0 ce sl sh row pc ls (.int y :: .int x :: st) :=
  fun hF H locs lsA hR hL => lv_idiv hF.1 hF.2.1 hd hne (k hF H locs lsA hR hL)
theorem zx_irem {x y : Int32} (hd : decode (zcc F) pc = .ok (.irem, 1)) (hne : ¬ y = 0) (k : zX G K F n0 ce sl sh row (pc + 1) ls (.int (x - x / y * y) :: st)) : zX G K F n0 ce sl sh row pc ls (.int y :: .int x :: st) :=
  fun hF H locs lsA hR hL => lv_irem hF.1 hF.2.1 hd hne (k hF H locs lsA hR hL)
theorem zx_iushr {x y v : Int32} (hd : decode (zcc F) pc = .ok (.iushr, 1)) (hv : (x.toUInt32 >>> (y.toUInt32 &&& Int32.toUInt32 31)).toInt32 = v) (k : zX G K F n0 ce sl sh row (pc + 1) ls (.int v :: st)) : zX G K F n0 ce sl sh row pc ls (.int y :: .int x :: st) :=
  fun hF H locs lsA hR hL => lv_iushr hF.1 hF.2.1 hd hv (k hF H locs lsA hR hL)
theorem zx_ineg {x : Int32} (hd : decode (zcc F) pc = .ok (.ineg, 1)) (k : zX G K F n0 ce sl sh row (pc + 1) ls (.int (-x) :: st)) : zX G K F n0 ce sl sh row pc ls (.int x :: st) :=
  fun hF H locs lsA hR hL => lv_ineg hF.1 hF.2.1 hd (k hF H locs lsA hR hL)
theorem zx_i2c {x v : Int32} (hd : decode (zcc F) pc = .ok (.i2c, 1)) (hv : (x.toUInt32 % 65536).toInt32 = v) (k : zX G K F n0 ce sl sh row (pc + 1) ls (.int v :: st)) : zX G K F n0 ce sl sh row pc ls (.int x :: st) :=
  fun hF H locs lsA hR hL => lv_i2c hF.1 hF.2.1 hd hv (k hF H locs lsA hR hL)
theorem zx_null (hd : decode (zcc F) pc = .ok (.aconst_null, 1)) (k : zX G K F n0 ce sl sh row (pc + 1) ls (.null :: st)) : zX G K F n0 ce sl sh row pc ls (st) :=
  fun hF H locs lsA hR hL => lv_null hF.1 hF.2.1 hd (k hF H locs lsA hR hL)
theorem zx_dup {v : Value} (hd : decode (zcc F) pc = .ok (.dup, 1)) (hv : v.category = 1) (k : zX G K F n0 ce sl sh row (pc + 1) ls (v :: v :: st)) : zX G K F n0 ce sl sh row pc ls (v :: st) :=
  fun hF H locs lsA hR hL => lv_dup hF.1 hF.2.1 hd (by rw [zv_cat]; exact hv) (k hF H locs lsA hR hL)
theorem zx_pop {v : Value} (hd : decode (zcc F) pc = .ok (.pop, 1)) (hv : v.category = 1) (k : zX G K F n0 ce sl sh row (pc + 1) ls st) : zX G K F n0 ce sl sh row pc ls (v :: st) :=
  fun hF H locs lsA hR hL => lv_pop hF.1 hF.2.1 hd (by rw [zv_cat]; exact hv) (k hF H locs lsA hR hL)
theorem zx_dup_x1 {v w : Value} (hd : decode (zcc F) pc = .ok (.dup_x1, 1)) (hv : v.category = 1) (hw : w.category = 1) (k : zX G K F n0 ce sl sh row (pc + 1) ls (v :: w :: v :: st)) : zX G K F n0 ce sl sh row pc ls (v :: w :: st) :=
  fun hF H locs lsA hR hL => lv_dup_x1 hF.1 hF.2.1 hd (by rw [zv_cat]; exact hv) (by rw [zv_cat]; exact hw) (k hF H locs lsA hR hL)
theorem zx_dup_x2 {v w u : Value} (hd : decode (zcc F) pc = .ok (.dup_x2, 1)) (hv : v.category = 1) (hw : w.category = 1) (hu : u.category = 1) (k : zX G K F n0 ce sl sh row (pc + 1) ls (v :: w :: u :: v :: st)) : zX G K F n0 ce sl sh row pc ls (v :: w :: u :: st) :=
  fun hF H locs lsA hR hL => lv_dup_x2 hF.1 hF.2.1 hd (by rw [zv_cat]; exact hv) (by rw [zv_cat]; exact hw) (by rw [zv_cat]; exact hu) (k hF H locs lsA hR hL)
theorem zx_dup2 {v w : Value} (hd : decode (zcc F) pc = .ok (.dup2, 1)) (hv : v.category = 1) (hw : w.category = 1) (k : zX G K F n0 ce sl sh row (pc + 1) ls (v :: w :: v :: w :: st)) : zX G K F n0 ce sl sh row pc ls (v :: w :: st) :=
  fun hF H locs lsA hR hL => lv_dup2_11 hF.1 hF.2.1 hd (by rw [zv_cat]; exact hv) (by rw [zv_cat]; exact hw) (k hF H locs lsA hR hL)
theorem zx_iload_n {j : Fin 4} {x : Int32} (hd : decode (zcc F) pc = .ok (.iload_n j, 1)) (hl : ls[(j : Nat)]? = some (.int x)) (k : zX G K F n0 ce sl sh row (pc + 1) ls (.int x :: st)) : zX G K F n0 ce sl sh row pc ls st :=
  fun hF H locs lsA hR hL => lv_iload_n hF.1 hF.2.1 hd rfl (zL_at hL hl (fun r q => by cases q)) (k hF H locs lsA hR hL)
theorem zx_iload {i : Nat} {x : Int32} (hd : decode (zcc F) pc = .ok (.iload i, 2)) (hl : ls[i]? = some (.int x)) (k : zX G K F n0 ce sl sh row (pc + 2) ls (.int x :: st)) : zX G K F n0 ce sl sh row pc ls st :=
  fun hF H locs lsA hR hL => lv_iload hF.1 hF.2.1 hd (zL_at hL hl (fun r q => by cases q)) (k hF H locs lsA hR hL)
theorem zx_aload_n {j : Fin 4} {x : Nat} (hd : decode (zcc F) pc = .ok (.aload_n j, 1)) (hl : ls[(j : Nat)]? = some (.ref x)) (k : zX G K F n0 ce sl sh row (pc + 1) ls (.ref x :: st)) : zX G K F n0 ce sl sh row pc ls st :=
  fun hF H locs lsA hR hL => lv_aload_n hF.1 hF.2.1 hd rfl (zL_at hL hl (fun r q => by cases q)) (k hF H locs lsA hR hL)
theorem zx_aload {i : Nat} {x : Nat} (hd : decode (zcc F) pc = .ok (.aload i, 2)) (hl : ls[i]? = some (.ref x)) (k : zX G K F n0 ce sl sh row (pc + 2) ls (.ref x :: st)) : zX G K F n0 ce sl sh row pc ls st :=
  fun hF H locs lsA hR hL => lv_aload hF.1 hF.2.1 hd (zL_at hL hl (fun r q => by cases q)) (k hF H locs lsA hR hL)
theorem zx_istore_n {j : Fin 4} {x : Int32} {ls' : List Value} (hd : decode (zcc F) pc = .ok (.istore_n j, 1)) (hn : (j : Nat) < znL F) (ho : (List.all ls (fun w => w.category == 1)) = true) (hl : ls.set (j : Nat) (.int x) = ls') (k : zX G K F n0 ce sl sh row (pc + 1) ls' st) : zX G K F n0 ce sl sh row pc ls (.int x :: st) := by
  intro hF H locs lsA hR hL
  subst hl
  obtain ⟨l', e', h'⟩ := zL_store (v := .int x) hL hn rfl (fun w hw => by simpa using List.all_eq_true.mp ho w hw)
  intro T hT X
  obtain ⟨t, a, b⟩ := k hF H locs l' hR h' T hT X
  refine ⟨t, ?_, b⟩
  have hx := hF.1
  have hb := hF.2.1
  simp only [zv] at e'
  jvm_step X.here [X.here.top, ↓top_set X.here.top, hx, hb, hd, e', zv, Value.isRef]
  exact a
theorem zx_istore {i : Nat} {x : Int32} {ls' : List Value} (hd : decode (zcc F) pc = .ok (.istore i, 2)) (hn : i < znL F) (ho : (List.all ls (fun w => w.category == 1)) = true) (hl : ls.set i (.int x) = ls') (k : zX G K F n0 ce sl sh row (pc + 2) ls' st) : zX G K F n0 ce sl sh row pc ls (.int x :: st) := by
  intro hF H locs lsA hR hL
  subst hl
  obtain ⟨l', e', h'⟩ := zL_store (v := .int x) hL hn rfl (fun w hw => by simpa using List.all_eq_true.mp ho w hw)
  intro T hT X
  obtain ⟨t, a, b⟩ := k hF H locs l' hR h' T hT X
  refine ⟨t, ?_, b⟩
  have hx := hF.1
  have hb := hF.2.1
  simp only [zv] at e'
  jvm_step X.here [X.here.top, ↓top_set X.here.top, hx, hb, hd, e', zv, Value.isRef]
  exact a
theorem zx_astore_n {j : Fin 4} {x : Nat} {ls' : List Value} (hd : decode (zcc F) pc = .ok (.astore_n j, 1)) (hn : (j : Nat) < znL F) (ho : (List.all ls (fun w => w.category == 1)) = true) (hl : ls.set (j : Nat) (.ref x) = ls') (k : zX G K F n0 ce sl sh row (pc + 1) ls' st) : zX G K F n0 ce sl sh row pc ls (.ref x :: st) := by
  intro hF H locs lsA hR hL
  subst hl
  obtain ⟨l', e', h'⟩ := zL_store (v := .ref x) hL hn rfl (fun w hw => by simpa using List.all_eq_true.mp ho w hw)
  intro T hT X
  obtain ⟨t, a, b⟩ := k hF H locs l' hR h' T hT X
  refine ⟨t, ?_, b⟩
  have hx := hF.1
  have hb := hF.2.1
  simp only [zv] at e'
  jvm_step X.here [X.here.top, ↓top_set X.here.top, hx, hb, hd, e', zv, Value.isRef]
  exact a
theorem zx_astore {i : Nat} {x : Nat} {ls' : List Value} (hd : decode (zcc F) pc = .ok (.astore i, 2)) (hn : i < znL F) (ho : (List.all ls (fun w => w.category == 1)) = true) (hl : ls.set i (.ref x) = ls') (k : zX G K F n0 ce sl sh row (pc + 2) ls' st) : zX G K F n0 ce sl sh row pc ls (.ref x :: st) := by
  intro hF H locs lsA hR hL
  subst hl
  obtain ⟨l', e', h'⟩ := zL_store (v := .ref x) hL hn rfl (fun w hw => by simpa using List.all_eq_true.mp ho w hw)
  intro T hT X
  obtain ⟨t, a, b⟩ := k hF H locs l' hR h' T hT X
  refine ⟨t, ?_, b⟩
  have hx := hF.1
  have hb := hF.2.1
  simp only [zv] at e'
  jvm_step X.here [X.here.top, ↓top_set X.here.top, hx, hb, hd, e', zv, Value.isRef]
  exact a
theorem zx_iinc {i : Nat} {j : Int} {x v : Int32} {ls' : List Value} (hd : decode (zcc F) pc = .ok (.iinc i j, 3)) (hn : i < znL F) (ho : (List.all ls (fun w => w.category == 1)) = true) (hx : ls[i]? = some (.int x)) (hv : x + Int32.ofInt j = v) (hl : ls.set i (.int v) = ls') (k : zX G K F n0 ce sl sh row (pc + 3) ls' st) : zX G K F n0 ce sl sh row pc ls st := by
  intro hF H locs lsA hR hL
  subst hl
  subst hv
  have hg := zL_at hL hx (fun r q => by cases q)
  obtain ⟨l', e', h'⟩ := zL_store (v := .int (x + Int32.ofInt j)) hL hn rfl (fun w hw => by simpa using List.all_eq_true.mp ho w hw)
  intro T hT X
  obtain ⟨t, a, b⟩ := k hF H locs l' hR h' T hT X
  refine ⟨t, ?_, b⟩
  have hx := hF.1
  have hb := hF.2.1
  simp only [zv] at hg e'
  jvm_step X.here [X.here.top, ↓top_set X.here.top, hx, hb, hd, hg, e']
  exact a
theorem zx_if_eq {x : Int32} {off : Int} {tgt : Nat} (hd : decode (zcc F) pc = .ok (.ifCond .eq off, 3)) (ht : (pc : Int) + off = (tgt : Int)) (kt : x = 0 → zX G K F n0 ce sl sh row tgt ls st) (kf : ¬ x = 0 → zX G K F n0 ce sl sh row (pc + 3) ls st) : zX G K F n0 ce sl sh row pc ls (.int x :: st) :=
  fun hF H locs lsA hR hL => lv_if_eq hF.1 hF.2.1 hd ht (fun h => kt h hF H locs lsA hR hL) (fun h => kf h hF H locs lsA hR hL)
theorem zx_if_ne {x : Int32} {off : Int} {tgt : Nat} (hd : decode (zcc F) pc = .ok (.ifCond .ne off, 3)) (ht : (pc : Int) + off = (tgt : Int)) (kt : ¬ x = 0 → zX G K F n0 ce sl sh row tgt ls st) (kf : x = 0 → zX G K F n0 ce sl sh row (pc + 3) ls st) : zX G K F n0 ce sl sh row pc ls (.int x :: st) :=
  fun hF H locs lsA hR hL => lv_if_ne hF.1 hF.2.1 hd ht (fun h => kt h hF H locs lsA hR hL) (fun h => kf h hF H locs lsA hR hL)
theorem zx_if_lt {x : Int32} {off : Int} {tgt : Nat} (hd : decode (zcc F) pc = .ok (.ifCond .lt off, 3)) (ht : (pc : Int) + off = (tgt : Int)) (kt : x < 0 → zX G K F n0 ce sl sh row tgt ls st) (kf : ¬ x < 0 → zX G K F n0 ce sl sh row (pc + 3) ls st) : zX G K F n0 ce sl sh row pc ls (.int x :: st) :=
  fun hF H locs lsA hR hL => lv_if_lt hF.1 hF.2.1 hd ht (fun h => kt h hF H locs lsA hR hL) (fun h => kf h hF H locs lsA hR hL)
theorem zx_if_ge {x : Int32} {off : Int} {tgt : Nat} (hd : decode (zcc F) pc = .ok (.ifCond .ge off, 3)) (ht : (pc : Int) + off = (tgt : Int)) (kt : 0 ≤ x → zX G K F n0 ce sl sh row tgt ls st) (kf : ¬ 0 ≤ x → zX G K F n0 ce sl sh row (pc + 3) ls st) : zX G K F n0 ce sl sh row pc ls (.int x :: st) :=
  fun hF H locs lsA hR hL => lv_if_ge hF.1 hF.2.1 hd ht (fun h => kt h hF H locs lsA hR hL) (fun h => kf h hF H locs lsA hR hL)
theorem zx_if_gt {x : Int32} {off : Int} {tgt : Nat} (hd : decode (zcc F) pc = .ok (.ifCond .gt off, 3)) (ht : (pc : Int) + off = (tgt : Int)) (kt : 0 < x → zX G K F n0 ce sl sh row tgt ls st) (kf : ¬ 0 < x → zX G K F n0 ce sl sh row (pc + 3) ls st) : zX G K F n0 ce sl sh row pc ls (.int x :: st) :=
  fun hF H locs lsA hR hL => lv_if_gt hF.1 hF.2.1 hd ht (fun h => kt h hF H locs lsA hR hL) (fun h => kf h hF H locs lsA hR hL)
theorem zx_if_le {x : Int32} {off : Int} {tgt : Nat} (hd : decode (zcc F) pc = .ok (.ifCond .le off, 3)) (ht : (pc : Int) + off = (tgt : Int)) (kt : x ≤ 0 → zX G K F n0 ce sl sh row tgt ls st) (kf : ¬ x ≤ 0 → zX G K F n0 ce sl sh row (pc + 3) ls st) : zX G K F n0 ce sl sh row pc ls (.int x :: st) :=
  fun hF H locs lsA hR hL => lv_if_le hF.1 hF.2.1 hd ht (fun h => kt h hF H locs lsA hR hL) (fun h => kf h hF H locs lsA hR hL)
theorem zx_icmp_eq {x y : Int32} {off : Int} {tgt : Nat} (hd : decode (zcc F) pc = .ok (.if_icmp .eq off, 3)) (ht : (pc : Int) + off = (tgt : Int)) (kt : x = y → zX G K F n0 ce sl sh row tgt ls st) (kf : ¬ x = y → zX G K F n0 ce sl sh row (pc + 3) ls st) : zX G K F n0 ce sl sh row pc ls (.int y :: .int x :: st) :=
  fun hF H locs lsA hR hL => lv_icmp_eq hF.1 hF.2.1 hd ht (fun h => kt h hF H locs lsA hR hL) (fun h => kf h hF H locs lsA hR hL)
theorem zx_icmp_ne {x y : Int32} {off : Int} {tgt : Nat} (hd : decode (zcc F) pc = .ok (.if_icmp .ne off, 3)) (ht : (pc : Int) + off = (tgt : Int)) (kt : ¬ x = y → zX G K F n0 ce sl sh row tgt ls st) (kf : x = y → zX G K F n0 ce sl sh row (pc + 3) ls st) : zX G K F n0 ce sl sh row pc ls (.int y :: .int x :: st) :=
  fun hF H locs lsA hR hL => lv_icmp_ne hF.1 hF.2.1 hd ht (fun h => kt h hF H locs lsA hR hL) (fun h => kf h hF H locs lsA hR hL)
theorem zx_icmp_lt {x y : Int32} {off : Int} {tgt : Nat} (hd : decode (zcc F) pc = .ok (.if_icmp .lt off, 3)) (ht : (pc : Int) + off = (tgt : Int)) (kt : x < y → zX G K F n0 ce sl sh row tgt ls st) (kf : ¬ x < y → zX G K F n0 ce sl sh row (pc + 3) ls st) : zX G K F n0 ce sl sh row pc ls (.int y :: .int x :: st) :=
  fun hF H locs lsA hR hL => lv_icmp_lt hF.1 hF.2.1 hd ht (fun h => kt h hF H locs lsA hR hL) (fun h => kf h hF H locs lsA hR hL)
theorem zx_icmp_ge {x y : Int32} {off : Int} {tgt : Nat} (hd : decode (zcc F) pc = .ok (.if_icmp .ge off, 3)) (ht : (pc : Int) + off = (tgt : Int)) (kt : y ≤ x → zX G K F n0 ce sl sh row tgt ls st) (kf : ¬ y ≤ x → zX G K F n0 ce sl sh row (pc + 3) ls st) : zX G K F n0 ce sl sh row pc ls (.int y :: .int x :: st) :=
  fun hF H locs lsA hR hL => lv_icmp_ge hF.1 hF.2.1 hd ht (fun h => kt h hF H locs lsA hR hL) (fun h => kf h hF H locs lsA hR hL)
theorem zx_icmp_gt {x y : Int32} {off : Int} {tgt : Nat} (hd : decode (zcc F) pc = .ok (.if_icmp .gt off, 3)) (ht : (pc : Int) + off = (tgt : Int)) (kt : y < x → zX G K F n0 ce sl sh row tgt ls st) (kf : ¬ y < x → zX G K F n0 ce sl sh row (pc + 3) ls st) : zX G K F n0 ce sl sh row pc ls (.int y :: .int x :: st) :=
  fun hF H locs lsA hR hL => lv_icmp_gt hF.1 hF.2.1 hd ht (fun h => kt h hF H locs lsA hR hL) (fun h => kf h hF H locs lsA hR hL)
theorem zx_icmp_le {x y : Int32} {off : Int} {tgt : Nat} (hd : decode (zcc F) pc = .ok (.if_icmp .le off, 3)) (ht : (pc : Int) + off = (tgt : Int)) (kt : x ≤ y → zX G K F n0 ce sl sh row tgt ls st) (kf : ¬ x ≤ y → zX G K F n0 ce sl sh row (pc + 3) ls st) : zX G K F n0 ce sl sh row pc ls (.int y :: .int x :: st) :=
  fun hF H locs lsA hR hL => lv_icmp_le hF.1 hF.2.1 hd ht (fun h => kt h hF H locs lsA hR hL) (fun h => kf h hF H locs lsA hR hL)
theorem zx_goto {off : Int} {tgt : Nat} (hd : decode (zcc F) pc = .ok (.goto off, 3)) (ht : (pc : Int) + off = (tgt : Int)) (k : zX G K F n0 ce sl sh row tgt ls st) : zX G K F n0 ce sl sh row pc ls st :=
  fun hF H locs lsA hR hL => lv_goto hF.1 hF.2.1 hd ht (k hF H locs lsA hR hL)
/-- a field, as an instruction of a method names it -/
def zFld (own : String) (idx ci k N : Nat) : Prop := ∃ (C : String) (T : u_T), vwCl[ci]? = some (C, T, N) ∧ k < N ∧ (∀ w ∈ u_ws C T N, w ∈ zAll) ∧ Cond.fieldLink own idx (T k).1 (T k).2.1 (T k).2.2.1 ∈ zAll
def zFldN (own : String) (idx ci k N : Nat) : Prop := ∃ (C : String) (T : u_T) (host : String), vwCl[ci]? = some (C, T, N) ∧ k < N ∧ (∀ w ∈ u_ws C T N, w ∈ zAll) ∧ (own, idx, (T k).1, (T k).2.1, (T k).2.2.1, host) ∈ zNf
/-- how its class's fields are typed and named -/
def zTyp (ci k N : Nat) (ty : FieldType) (fin : Bool) : Prop := ∃ (C : String) (T : u_T) (ty0 : Nat → FieldType), vwCl[ci]? = some (C, T, N) ∧ (∀ k, k < N → parseFieldDescriptor (T k).2.2.1 = some (ty0 k)) ∧ (∀ a, a < N → ∀ b, b < N → a ≠ b → (T a).2.1 ≠ (T b).2.1) ∧ ty0 k = ty ∧ (T k).2.2.2 = fin
theorem zx_get {idx ci k N a : Nat} {v : Value} (hd : decode (zcc F) pc = .ok (.getfield idx, 3)) (hf : zFld (zow F) idx ci k N) (hs : sh a = some (0, ci, N)) (hv : row a k = v) (kk : zX G K F n0 ce sl sh row (pc + 3) ls (v :: st)) : zX G K F n0 ce sl sh row pc ls (.ref a :: st) := by
  intro hF H locs lsA hR hL
  obtain ⟨C, T, hc, hk, hin, hl⟩ := hf
  subst hv
  exact va_get (D := zgD G) (cl := vwCl) (tys := zT G) (ws := zW G (n0 + ce) sh row) (fs := (List.range N).map (fun k => zv G (row a k))) hF.1 hF.2.1 hF.2.2.2.2.1 hin hF.2.2.2.1 hF.2.2.2.2.2.1 hR.2.1 (a - 1) (zW_get hR.1 hs) hc k hk (hF.2.2.2.2.1 _ hl) (fun _ h => h) (zfs_get hk) hd (kk hF H locs lsA hR hL)
theorem zx_getN {idx ci k N a : Nat} {v : Value} (hd : decode (zcc F) pc = .ok (.getfield idx, 3)) (hf : zFldN (zow F) idx ci k N) (hs : sh a = some (0, ci, N)) (hv : row a k = v) (kk : zX G K F n0 ce sl sh row (pc + 3) ls (v :: st)) : zX G K F n0 ce sl sh row pc ls (.ref a :: st) := by
  intro hF H locs lsA hR hL
  obtain ⟨C, T, host, hc, hk, hin, hl⟩ := hf
  subst hv
  exact va_getN (D := zgD G) (cl := vwCl) (tys := zT G) (ws := zW G (n0 + ce) sh row) (fs := (List.range N).map (fun k => zv G (row a k))) hF.1 hF.2.1 hF.2.2.2.2.1 hin hF.2.2.2.1 hF.2.2.2.2.2.1 hR.2.1 (a - 1) (zW_get hR.1 hs) hc k hk (va_Nw.use rfl (hF.2.2.2.2.2.2.2.2.2.2.2.2.2.2.1 _ hl)) (fun _ h => h) (zfs_get hk) hd (kk hF H locs lsA hR hL)
theorem zR_up {n a k ci N : Nat} {v : Value} {H0 H H1 : Heap} {locs0 locs : List Loc} (hR : zR G n sh row H0 H locs0) (hs : sh a = some (0, ci, N)) (hk : k < N) (hP : va_P (zgD G) vwCl ((zW G n sh row).set (a - 1) (zad G a, .inr (ci, ((List.range N).map (fun k => zv G (row a k))).set k (zv G v)))) H1) (hS : va_S (zA G) H0 H1 locs) : zR G n sh (zup row a k v) H0 H1 locs := by
  refine ⟨hR.1, ?_, hS⟩
  rw [zfs_set hk] at hP
  rw [← zW_set (G := G) (row := row) hR.1 hs (zup_row a k v) (fun b hb => zup_ne hb)]
  exact hP
theorem zx_put {idx ci k N a : Nat} {v : Value} {ty : FieldType} (hd : decode (zcc F) pc = .ok (.putfield idx, 3)) (hf : zFld (zow F) idx ci k N) (ht : zTyp ci k N ty false) (hs : sh a = some (0, ci, N)) (hn : narrow ty (zv G v) = zv G v) (hfit : fits ty (zv G v) = true) (kk : zX G K F n0 ce sl sh (zup row a k v) (pc + 3) ls st) : zX G K F n0 ce sl sh row pc ls (v :: .ref a :: st) := by
  intro hF H locs lsA hR hL
  obtain ⟨C, T, hc, hk, hin, hl⟩ := hf
  obtain ⟨C', T', ty0, hc', h4, h5, h6, h7⟩ := ht
  have e := Option.some.inj (hc.symm.trans hc')
  simp only [Prod.mk.injEq, and_true] at e
  obtain ⟨rfl, rfl⟩ := e
  subst h6
  exact va_put (D := zgD G) (cl := vwCl) (tys := zT G) (A := zA G) (ws := zW G (n0 + ce) sh row) (fs := (List.range N).map (fun k => zv G (row a k))) hF.1 hF.2.1 hF.2.2.2.2.1 hin ty0 h4 h5 hF.2.2.2.1 hF.2.2.2.2.2.1 hR.2.1 zW_D hR.2.2 (a - 1) (zW_get hR.1 hs) hc k hk (hF.2.2.2.2.1 _ hl) (fun _ h => h) h7 (h4 k hk) hn hfit (by simpa using hk) hd (fun H1 locs1 hP1 _ hS1 => kk hF H1 locs1 lsA (zR_up hR hs hk hP1 hS1) hL)
theorem zx_putN {idx ci k N a : Nat} {v : Value} {ty : FieldType} (hd : decode (zcc F) pc = .ok (.putfield idx, 3)) (hf : zFldN (zow F) idx ci k N) (ht : zTyp ci k N ty false) (hs : sh a = some (0, ci, N)) (hn : narrow ty (zv G v) = zv G v) (hfit : fits ty (zv G v) = true) (kk : zX G K F n0 ce sl sh (zup row a k v) (pc + 3) ls st) : zX G K F n0 ce sl sh row pc ls (v :: .ref a :: st) := by
  intro hF H locs lsA hR hL
  obtain ⟨C, T, host, hc, hk, hin, hl⟩ := hf
  obtain ⟨C', T', ty0, hc', h4, h5, h6, h7⟩ := ht
  have e := Option.some.inj (hc.symm.trans hc')
  simp only [Prod.mk.injEq, and_true] at e
  obtain ⟨rfl, rfl⟩ := e
  subst h6
  exact va_putN (D := zgD G) (cl := vwCl) (tys := zT G) (A := zA G) (ws := zW G (n0 + ce) sh row) (fs := (List.range N).map (fun k => zv G (row a k))) hF.1 hF.2.1 hF.2.2.2.2.1 hin ty0 h4 h5 hF.2.2.2.1 hF.2.2.2.2.2.1 hR.2.1 zW_D hR.2.2 (a - 1) (zW_get hR.1 hs) hc k hk (va_Nw.use rfl (hF.2.2.2.2.2.2.2.2.2.2.2.2.2.2.1 _ hl)) (fun _ h => h) h7 (h4 k hk) hn hfit (by simpa using hk) hd (fun H1 locs1 hP1 _ hS1 => kk hF H1 locs1 lsA (zR_up hR hs hk hP1 hS1) hL)
theorem zx_putF {nE : Nat} {Q : Option Value → zSh → zRw → Prop} {idx ci k N a : Nat} {v : Value} {ty : FieldType} (hE : zEnd G K F nE Q) (hy : (zy F).name = "<init>") (hdc : ∀ (C : String) (T : u_T), vwCl[ci]? = some (C, T, N) → (T k).1 = zow F) (hd : decode (zcc F) pc = .ok (.putfield idx, 3)) (hf : zFld (zow F) idx ci k N) (ht : zTyp ci k N ty true) (hs : sh a = some (0, ci, N)) (hn : narrow ty (zv G v) = zv G v) (hfit : fits ty (zv G v) = true) (kk : zX G K F n0 ce sl sh (zup row a k v) (pc + 3) ls st) : zX G K F n0 ce sl sh row pc ls (v :: .ref a :: st) := by
  intro hF H locs lsA hR hL
  obtain ⟨C, T, hc, hk, hin, hl⟩ := hf
  obtain ⟨C', T', ty0, hc', h4, h5, h6, h7⟩ := ht
  have e := Option.some.inj (hc.symm.trans hc')
  simp only [Prod.mk.injEq, and_true] at e
  obtain ⟨rfl, rfl⟩ := e
  subst h6
  exact va_putF (D := zgD G) (cl := vwCl) (tys := zT G) (A := zA G) (ws := zW G (n0 + ce) sh row) (fs := (List.range N).map (fun k => zv G (row a k))) hF.1 hF.2.1 hF.2.2.2.2.1 hin ty0 h4 h5 hF.2.2.2.1 hF.2.2.2.2.2.1 hR.2.1 zW_D hR.2.2 (a - 1) (zW_get hR.1 hs) hc k hk (hF.2.2.2.2.1 _ hl) (fun _ h => h) h7 (by rw [← hy]; exact hE.2.2) (hdc _ _ hc) (h4 k hk) hn hfit (by simpa using hk) hd (fun H1 locs1 hP1 _ hS1 => kk hF H1 locs1 lsA (zR_up hR hs hk hP1 hS1) hL)
theorem zx_iald {a t N : Nat} {i x : Int32} (hd : decode (zcc F) pc = .ok (.iaload, 1)) (hs : sh a = some (1, t, N)) (ht : zTy[t]? = some .int) (hi : vp_in i N) (hv : row a i.toNatClampNeg = .int x) (kk : zX G K F n0 ce sl sh row (pc + 1) ls (.int x :: st)) : zX G K F n0 ce sl sh row pc ls (.int i :: .ref a :: st) := by
  intro hF H locs lsA hR hL
  have k1 := kk hF H locs lsA hR hL
  have e : zi (row a i.toNatClampNeg) = x := by rw [hv]; rfl
  refine va_iald (D := zgD G) (cl := vwCl) (tys := zT G) (ws := zW G (n0 + ce) sh row) (f := fun k => zi (row a k)) hF.1 hF.2.1 hF.2.2.2.2.2.1 hR.2.1 (a - 1) t (zW_get hR.1 hs) (zT_get ht) hi hd ?_
  show W _ _ _ _ _ _ _ _ _ _ _ _ _ _ _ (F0 _ _ _ (.int (zi (row a i.toNatClampNeg)) :: _))
  rw [e]
  exact k1
theorem zx_cald {a t N : Nat} {i x : Int32} (hd : decode (zcc F) pc = .ok (.caload, 1)) (hs : sh a = some (1, t, N)) (ht : zTy[t]? = some .char) (hi : vp_in i N) (hv : row a i.toNatClampNeg = .int x) (kk : zX G K F n0 ce sl sh row (pc + 1) ls (.int x :: st)) : zX G K F n0 ce sl sh row pc ls (.int i :: .ref a :: st) := by
  intro hF H locs lsA hR hL
  have k1 := kk hF H locs lsA hR hL
  have e : zi (row a i.toNatClampNeg) = x := by rw [hv]; rfl
  refine va_cald (D := zgD G) (cl := vwCl) (tys := zT G) (ws := zW G (n0 + ce) sh row) (f := fun k => zi (row a k)) hF.1 hF.2.1 hF.2.2.2.2.2.1 hR.2.1 (a - 1) t (zW_get hR.1 hs) (zT_get ht) hi hd ?_
  show W _ _ _ _ _ _ _ _ _ _ _ _ _ _ _ (F0 _ _ _ (.int (zi (row a i.toNatClampNeg)) :: _))
  rw [e]
  exact k1
theorem zx_zald {a t N : Nat} {i x : Int32} (hd : decode (zcc F) pc = .ok (.baload, 1)) (hs : sh a = some (1, t, N)) (ht : zTy[t]? = some .boolean) (hi : vp_in i N) (hv : row a i.toNatClampNeg = .int x) (kk : zX G K F n0 ce sl sh row (pc + 1) ls (.int x :: st)) : zX G K F n0 ce sl sh row pc ls (.int i :: .ref a :: st) := by
  intro hF H locs lsA hR hL
  have k1 := kk hF H locs lsA hR hL
  have e : zi (row a i.toNatClampNeg) = x := by rw [hv]; rfl
  refine va_zald (D := zgD G) (cl := vwCl) (tys := zT G) (ws := zW G (n0 + ce) sh row) (f := fun k => zi (row a k)) hF.1 hF.2.1 hF.2.2.2.2.2.1 hR.2.1 (a - 1) t (zW_get hR.1 hs) (zT_get ht) hi hd ?_
  show W _ _ _ _ _ _ _ _ _ _ _ _ _ _ _ (F0 _ _ _ (.int (zi (row a i.toNatClampNeg)) :: _))
  rw [e]
  exact k1
theorem zx_iast {a t N : Nat} {i x : Int32} (hd : decode (zcc F) pc = .ok (.iastore, 1)) (hs : sh a = some (1, t, N)) (ht : zTy[t]? = some .int) (hi : vp_in i N) (kk : zX G K F n0 ce sl sh (zup row a i.toNatClampNeg (.int x)) (pc + 1) ls st) : zX G K F n0 ce sl sh row pc ls (.int x :: .int i :: .ref a :: st) := by
  intro hF H locs lsA hR hL
  refine va_iast (D := zgD G) (cl := vwCl) (tys := zT G) (A := zA G) (ws := zW G (n0 + ce) sh row) (f := fun k => zi (row a k)) hF.1 hF.2.1 hF.2.2.2.2.2.1 hR.2.1 zW_D hR.2.2 (a - 1) t (zW_get hR.1 hs) (zT_get ht) hi hd (fun H1 locs1 hP1 _ hS1 => kk hF H1 locs1 lsA ⟨hR.1, ?_, hS1⟩ hL)
  skip
  rw [← zW_set (G := G) (row := row) hR.1 hs (zup_row a i.toNatClampNeg (.int x)) (fun b hb => zup_ne hb)]
  have e : upd (fun k => zi (row a k)) i.toNatClampNeg x = fun k => zi (if k = i.toNatClampNeg then .int x else row a k) := by
    funext k
    unfold upd
    by_cases h : k = i.toNatClampNeg
    · rw [if_pos h, if_pos h]; rfl
    · rw [if_neg h, if_neg h]
  rw [e] at hP1
  exact hP1
theorem zx_cast {a t N : Nat} {i x : Int32} (hd : decode (zcc F) pc = .ok (.castore, 1)) (hs : sh a = some (1, t, N)) (ht : zTy[t]? = some .char) (hi : vp_in i N) (hx : vp_nar .char x = x) (kk : zX G K F n0 ce sl sh (zup row a i.toNatClampNeg (.int x)) (pc + 1) ls st) : zX G K F n0 ce sl sh row pc ls (.int x :: .int i :: .ref a :: st) := by
  intro hF H locs lsA hR hL
  refine va_cast (D := zgD G) (cl := vwCl) (tys := zT G) (A := zA G) (ws := zW G (n0 + ce) sh row) (f := fun k => zi (row a k)) hF.1 hF.2.1 hF.2.2.2.2.2.1 hR.2.1 zW_D hR.2.2 (a - 1) t (zW_get hR.1 hs) (zT_get ht) hi hd (fun H1 locs1 hP1 _ hS1 => kk hF H1 locs1 lsA ⟨hR.1, ?_, hS1⟩ hL)
  rw [hx] at hP1
  rw [← zW_set (G := G) (row := row) hR.1 hs (zup_row a i.toNatClampNeg (.int x)) (fun b hb => zup_ne hb)]
  have e : upd (fun k => zi (row a k)) i.toNatClampNeg x = fun k => zi (if k = i.toNatClampNeg then .int x else row a k) := by
    funext k
    unfold upd
    by_cases h : k = i.toNatClampNeg
    · rw [if_pos h, if_pos h]; rfl
    · rw [if_neg h, if_neg h]
  rw [e] at hP1
  exact hP1
theorem zx_zast {a t N : Nat} {i x : Int32} (hd : decode (zcc F) pc = .ok (.bastore, 1)) (hs : sh a = some (1, t, N)) (ht : zTy[t]? = some .boolean) (hi : vp_in i N) (hx : vp_nar .boolean x = x) (kk : zX G K F n0 ce sl sh (zup row a i.toNatClampNeg (.int x)) (pc + 1) ls st) : zX G K F n0 ce sl sh row pc ls (.int x :: .int i :: .ref a :: st) := by
  intro hF H locs lsA hR hL
  refine va_zast (D := zgD G) (cl := vwCl) (tys := zT G) (A := zA G) (ws := zW G (n0 + ce) sh row) (f := fun k => zi (row a k)) hF.1 hF.2.1 hF.2.2.2.2.2.1 hR.2.1 zW_D hR.2.2 (a - 1) t (zW_get hR.1 hs) (zT_get ht) hi hd (fun H1 locs1 hP1 _ hS1 => kk hF H1 locs1 lsA ⟨hR.1, ?_, hS1⟩ hL)
  rw [hx] at hP1
  rw [← zW_set (G := G) (row := row) hR.1 hs (zup_row a i.toNatClampNeg (.int x)) (fun b hb => zup_ne hb)]
  have e : upd (fun k => zi (row a k)) i.toNatClampNeg x = fun k => zi (if k = i.toNatClampNeg then .int x else row a k) := by
    funext k
    unfold upd
    by_cases h : k = i.toNatClampNeg
    · rw [if_pos h, if_pos h]; rfl
    · rw [if_neg h, if_neg h]
  rw [e] at hP1
  exact hP1
theorem zx_aald {a t N b : Nat} {C : String} {i : Int32} (hd : decode (zcc F) pc = .ok (.aaload, 1)) (hs : sh a = some (2, t, N)) (ht : zTy[t]? = some (.object C)) (hi : vp_in i N) (hv : row a i.toNatClampNeg = .ref b) (kk : zX G K F n0 ce sl sh row (pc + 1) ls (.ref b :: st)) : zX G K F n0 ce sl sh row pc ls (.int i :: .ref a :: st) := by
  intro hF H locs lsA hR hL
  have k1 := kk hF H locs lsA hR hL
  have e : va_rf (zq G (row a i.toNatClampNeg)) = zv G (.ref b) := by rw [hv]; rfl
  refine va_aldq (D := zgD G) (cl := vwCl) (tys := zT G) (ws := zW G (n0 + ce) sh row) (f := fun k => zq G (row a k)) hF.1 hF.2.1 hF.2.2.2.2.2.1 hR.2.1 (a - 1) t (zW_get hR.1 hs) (zT_get ht) hi hd ?_
  show W _ _ _ _ _ _ _ _ _ _ _ _ _ _ _ (F0 _ _ _ (va_rf (zq G (row a i.toNatClampNeg)) :: _))
  rw [e]
  exact k1
theorem zx_aast {a t N b ci M : Nat} {r : vw_C} {i : Int32} (hd : decode (zcc F) pc = .ok (.aastore, 1)) (hs : sh a = some (2, t, N)) (ht : zTy[t]? = some (.object r.1)) (hb : sh b = some (0, ci, M)) (hc : vwCl[ci]? = some r) (hi : vp_in i N) (kk : zX G K F n0 ce sl sh (zup row a i.toNatClampNeg (.ref b)) (pc + 1) ls st) : zX G K F n0 ce sl sh row pc ls (.ref b :: .int i :: .ref a :: st) := by
  intro hF H locs lsA hR hL
  refine va_astq (D := zgD G) (cl := vwCl) (tys := zT G) (A := zA G) (ws := zW G (n0 + ce) sh row) (f := fun k => zq G (row a k)) hF.1 hF.2.1 hF.2.2.2.2.2.1 hR.2.1 zW_D hR.2.2 (a - 1) t (b - 1) ci (zW_get hR.1 hs) (zT_get ht) (zW_get hR.1 hb) hc hi hd (fun H1 locs1 hP1 _ hS1 => kk hF H1 locs1 lsA ⟨hR.1, ?_, hS1⟩ hL)
  rw [← zW_set (G := G) (row := row) hR.1 hs (zup_row a i.toNatClampNeg (.ref b)) (fun b hb => zup_ne hb)]
  have e : va_up (fun k => zq G (row a k)) i.toNatClampNeg (some (zad G b)) = fun k => zq G (if k = i.toNatClampNeg then .ref b else row a k) := by
    funext k
    unfold va_up
    by_cases h : k = i.toNatClampNeg
    · rw [if_pos h, if_pos h]; rfl
    · rw [if_neg h, if_neg h]
  rw [e] at hP1
  exact hP1
theorem zx_alen1 {a t N : Nat} {ty : FieldType} {v : Int32} (hd : decode (zcc F) pc = .ok (.arraylength, 1)) (hs : sh a = some (1, t, N)) (ht : zTy[t]? = some ty) (hv : Int32.ofNat N = v) (kk : zX G K F n0 ce sl sh row (pc + 1) ls (.int v :: st)) : zX G K F n0 ce sl sh row pc ls (.ref a :: st) :=
  fun hF H locs lsA hR hL => va_alen (D := zgD G) (cl := vwCl) (tys := zT G) (ws := zW G (n0 + ce) sh row) (x := (N, .inl (fun k => zi (row a k)))) hF.1 hF.2.1 hF.2.2.2.2.2.1 hR.2.1 (a - 1) t (zW_get hR.1 hs) (zT_get ht) hv hd (kk hF H locs lsA hR hL)
theorem zx_alen2 {a t N : Nat} {ty : FieldType} {v : Int32} (hd : decode (zcc F) pc = .ok (.arraylength, 1)) (hs : sh a = some (2, t, N)) (ht : zTy[t]? = some ty) (hv : Int32.ofNat N = v) (kk : zX G K F n0 ce sl sh row (pc + 1) ls (.int v :: st)) : zX G K F n0 ce sl sh row pc ls (.ref a :: st) :=
  fun hF H locs lsA hR hL => va_alen (D := zgD G) (cl := vwCl) (tys := zT G) (ws := zW G (n0 + ce) sh row) (x := (N, .inr (.inr (.inr (.inr (fun k => zq G (row a k))))))) hF.1 hF.2.1 hF.2.2.2.2.2.1 hR.2.1 (a - 1) t (zW_get hR.1 hs) (zT_get ht) hv hd (kk hF H locs lsA hR hL)
/-- the script -/
theorem zx_sld {i : Int32} (hd : decode (zcc F) pc = .ok (.iaload, 1)) (hi : vp_in i (zgL G)) (kk : zX G K F n0 ce sl sh row (pc + 1) ls (.int (zxs G i.toNatClampNeg) :: st)) : zX G K F n0 ce sl sh row pc ls (.int i :: .ref 0 :: st) :=
  fun hF H locs lsA hR hL => va_sld (b := zbS G) (A := zA G) hF.1 hF.2.1 hF.2.2.2.2.2.2.1 (by have h1 := hF.2.2.2.2.2.2.2.1; have h2 := hF.2.2.2.2.2.2.2.2.1; omega) (by have h1 := hF.2.2.2.2.2.2.2.1; show ¬ zb1 G + 1 ≤ zbS G; omega) hR.2.2 hi hd (kk hF H locs lsA hR hL)
theorem zx_slen (hd : decode (zcc F) pc = .ok (.arraylength, 1)) (kk : zX G K F n0 ce sl sh row (pc + 1) ls (.int (Int32.ofNat (zgL G)) :: st)) : zX G K F n0 ce sl sh row pc ls (.ref 0 :: st) :=
  fun hF H locs lsA hR hL => va_slen (b := zbS G) (A := zA G) hF.1 hF.2.1 hF.2.2.2.2.2.2.1 (by have h1 := hF.2.2.2.2.2.2.2.1; have h2 := hF.2.2.2.2.2.2.2.2.1; omega) (by have h1 := hF.2.2.2.2.2.2.2.1; show ¬ zb1 G + 1 ≤ zbS G; omega) hR.2.2 hd (kk hF H locs lsA hR hL)
/-- new cells -/
def zps (sh : zSh) (a : Nat) (x : Nat × Nat × Nat) : zSh := fun b => if b = a then some x else sh b
def zpr (row : zRw) (a : Nat) (r : Nat → Value) : zRw := fun b => if b = a then r else row b
theorem zps_self {sh : zSh} {a : Nat} {x : Nat × Nat × Nat} : zps sh a x a = some x := by unfold zps; rw [if_pos rfl]
theorem zps_ne {sh : zSh} {a b : Nat} {x : Nat × Nat × Nat} (h : b ≠ a) : zps sh a x b = sh b := by unfold zps; rw [if_neg h]
theorem zpr_self {row : zRw} {a : Nat} {r : Nat → Value} : zpr row a r a = r := by unfold zpr; rw [if_pos rfl]
theorem zpr_ne {row : zRw} {a b : Nat} {r : Nat → Value} (h : b ≠ a) : zpr row a r b = row b := by unfold zpr; rw [if_neg h]
theorem zR_push {n : Nat} {x : Nat × Nat × Nat} {r : Nat → Value} {H0 H H1 : Heap} {locs : List Loc} (hR : zR G n sh row H0 H locs) (hz : H.size = zb1 G + 1 + n) (hz1 : H1.size = H.size + 1) (ho : ∀ q, q < H.size → H1[q]? = H[q]?) (hat : va_at (zgD G) vwCl (zb1 G + 1 + n, zE G x r) H1) : zR G (n + 1) (zps sh (n + 1) x) (zpr row (n + 1) r) H0 H1 locs := by
  obtain ⟨h1, h2, h3⟩ := hR
  refine ⟨fun a ha => ?_, ?_, ⟨Nat.le_trans h3.1 (by omega), fun q g1 g2 => (ho q (Nat.lt_of_lt_of_le g1 h3.1)).trans (h3.2.1 q g1 g2), h3.2.2⟩⟩
  · unfold zps at ha
    by_cases hb : a = n + 1
    · omega
    · rw [if_neg hb] at ha
      have := h1 a ha
      omega
  · have e : zW G (n + 1) (zps sh (n + 1) x) (zpr row (n + 1) r) = zW G n sh row ++ [(zb1 G + 1 + n, zE G x r)] := by
      unfold zW
      rw [List.range_succ, List.map_append]
      congr 1
      · apply List.map_congr_left
        intro i hi
        have hi' := List.mem_range.mp hi
        rw [zps_ne (by omega), zpr_ne (by omega)]
      · simp only [List.map_cons, List.map_nil]
        rw [zps_self, zpr_self]
        rfl
    rw [e]
    refine (h2.kept (fun k q hq => ho q.1 ((h2 k q hq).lt))).app (fun k q hq => ?_)
    have hk : k < 1 := (List.getElem?_eq_some_iff.mp hq).1
    rw [show k = 0 by omega] at hq
    cases hq
    exact hat
theorem zsz {H : Heap} {locs : List Loc} {T : State} {p : Program} {l : Launch} {e : Env} {R : Room} {s : State} {m : MethodId} {args : Array Value} {below : List Frame} {meth : Method} {c : Code} (hs : s.heap.size = zb1 G + 1 + n0) (hR : zR G (n0 + ce) sh row s.heap H locs) (hT : T.heap = H) (X : Stand p l e R s m args below meth c T locs ce sl) : H.size = zb1 G + 1 + (n0 + ce) := by
  have h1 : T.heap.size ≤ s.heap.size + ce := X.same.2.2.1
  rw [hT] at h1
  have h2 := hR.2.2.1
  by_cases h0 : n0 + ce = 0
  · omega
  · have hg : (zW G (n0 + ce) sh row)[n0 + ce - 1]? = some (zb1 G + 1 + (n0 + ce - 1), zE G ((sh (n0 + ce - 1 + 1)).getD (0, 0, 0)) (row (n0 + ce - 1 + 1))) := by
      unfold zW
      rw [List.getElem?_map, List.getElem?_range (by omega)]
      rfl
    have h3 := (hR.2.1 _ _ hg).lt
    simp only at h3
    omega
theorem zv_def (ty : FieldType) : zv G (defaultValue ty) = defaultValue ty := by cases ty <;> rfl
def zNew (own : String) (idx ci N : Nat) (r : Nat → Value) : Prop := ∃ (C : String) (T : u_T) (ty0 : Nat → FieldType), vwCl[ci]? = some (C, T, N) ∧ (∀ w ∈ u_ws C T N, w ∈ zAll) ∧ (∀ k, k < N → parseFieldDescriptor (T k).2.2.1 = some (ty0 k)) ∧ Cond.classLink own idx C ∈ zAll ∧ Cond.instantiable C N ∈ zAll ∧ Cond.initialized C ∈ zAll ∧ ∀ k, k < N → defaultValue (ty0 k) = r k
theorem zx_new {idx ci N : Nat} {r : Nat → Value} (hd : decode (zcc F) pc = .ok (.new idx, 3)) (hf : zNew (zow F) idx ci N r) (hce : ce + 1 ≤ zmc F) (hsl : sl + N ≤ zms F) (kk : zX G K F n0 (ce + 1) (sl + N) (zps sh (n0 + (ce + 1)) (0, ci, N)) (zpr row (n0 + (ce + 1)) r) (pc + 3) ls (.ref (n0 + (ce + 1)) :: st)) : zX G K F n0 ce sl sh row pc ls st := by
  intro hF H locs lsA hR hL T hT X
  have hz := zsz hF.2.2.2.2.2.2.2.2.1 hR hT X
  obtain ⟨C, T0, ty0, hc, hin, hty, h4, h5, h6, h7⟩ := hf
  have hts := hF.2.2.2.2.1
  have hKn := hF.2.2.2.2.2.1.1 ci _ hc
  have hro := hF.2.2.2.2.2.2.2.2.2.2
  suffices hW : W (zp K) (zgl G) (ze K) (zRm K) (zs K) (zm K) (zar K) (zbe K) (zme K) (zc K) H locs ce sl (zQm K) (F0 (zm K) pc lsA (st.map (zv G))) from hW T hT X
  refine W.newcK (g := F0 (zm K) pc lsA (st.map (zv G))) hF.1 hF.2.1 hF.2.2.2.1 (hts _ h4) (hts _ h5) (hts _ h6) rfl hd (Nat.le_trans hce hro.2.2.1) (Nat.le_trans hsl hro.2.2.2.1) hKn.2.1 hz (fun H1 kC hkC e1 z1 o1 => ?_)
  have hat : va_at (zgD G) vwCl (zb1 G + 1 + (n0 + ce), zE G (0, ci, N) r) H1 := by
    refine ⟨_, hc, (u_born ty0 hts hin hKn hkC e1 hty).to (fun k hk => ?_)⟩
    show defaultValue (ty0 k) = vp_V ((List.range N).map (fun k => zv G (r k))) k
    unfold vp_V
    rw [List.getD_eq_getElem?_getD, zfs_get hk, ← h7 k hk, zv_def]
    rfl
  have hR1 := zR_push hR hz (by omega) (fun q hq => o1 q (by omega)) hat
  rw [Nat.add_assoc n0 ce 1] at hR1
  have k1 := kk hF H1 locs lsA hR1 hL
  have e : zv G (.ref (n0 + (ce + 1))) = .ref (zb1 G + 1 + (n0 + ce)) := by
    show Value.ref (zad G (n0 + (ce + 1))) = _
    rw [zad_pos (by omega)]
    exact congrArg Value.ref (show zb1 G + (n0 + (ce + 1)) = zb1 G + 1 + (n0 + ce) from (by omega))
  rw [List.map_cons, e] at k1
  exact k1
def zArr (t : Nat) (ty : FieldType) : Prop := zTy[t]? = some ty ∧ Cond.arrayClass ty ∈ zAll
theorem zx_newa {t N : Nat} {atype : ArrayType} {ty : FieldType} {v : Int32} (hd : decode (zcc F) pc = .ok (.newarray atype, 2)) (hf : zArr t ty) (hty : newarray.typeOf atype = ty) (h0 : defaultValue ty = .int 0) (hn : ¬ v < 0) (hN : v.toNatClampNeg = N) (hb : N * componentBytes ty ≤ 536870912) (hce : ce + 1 ≤ zmc F) (hsl : sl + N ≤ zms F) (kk : zX G K F n0 (ce + 1) (sl + N) (zps sh (n0 + (ce + 1)) (1, t, N)) (zpr row (n0 + (ce + 1)) (fun _ => .int 0)) (pc + 2) ls (.ref (n0 + (ce + 1)) :: st)) : zX G K F n0 ce sl sh row pc ls (.int v :: st) := by
  intro hF H locs lsA hR hL T hT X
  subst hty
  have hz := zsz hF.2.2.2.2.2.2.2.2.1 hR hT X
  have hts := hF.2.2.2.2.1
  have hro := hF.2.2.2.2.2.2.2.2.2.2
  suffices hW : W (zp K) (zgl G) (ze K) (zRm K) (zs K) (zm K) (zar K) (zbe K) (zme K) (zc K) H locs ce sl (zQm K) (F0 (zm K) pc lsA (.int v :: st.map (zv G))) from hW T hT X
  refine va_newaK (g := F0 (zm K) pc lsA (.int v :: st.map (zv G))) hF.1 hF.2.1 (hts _ hf.2) rfl hd rfl hn hN hb (Nat.le_trans hce hro.2.2.1) (Nat.le_trans hsl hro.2.2.2.1) hz (fun H1 cA e1 z1 o1 hAr hNm => ?_)
  have hcA : cA = zcA G t := by
    have h2 := (hF.2.2.2.2.2.1.2 t _ (zT_get hf.1)).2
    have h3 : (zs K).vm.findClass ("[" ++ (newarray.typeOf atype).toString) = some (zcA G t) := by
      cases atype <;> exact h2
    exact Option.some.inj (hNm.symm.trans h3)
  subst hcA
  have hat : va_at (zgD G) vwCl (zb1 G + 1 + (n0 + ce), zE G (1, t, N) (fun _ => .int 0)) H1 := by
    show H1[zb1 G + 1 + (n0 + ce)]? = some (vp_cell _ _)
    rw [e1, h0]
    rfl
  have hR1 := zR_push hR hz (by omega) (fun q hq => o1 q (by omega)) hat
  rw [Nat.add_assoc n0 ce 1] at hR1
  have k1 := kk hF H1 locs lsA hR1 hL
  have e : zv G (.ref (n0 + (ce + 1))) = .ref (zb1 G + 1 + (n0 + ce)) := by
    show Value.ref (zad G (n0 + (ce + 1))) = _
    rw [zad_pos (by omega)]
    exact congrArg Value.ref (show zb1 G + (n0 + (ce + 1)) = zb1 G + 1 + (n0 + ce) from (by omega))
  rw [List.map_cons, e] at k1
  exact k1
def zArq (own : String) (idx t : Nat) (C : String) : Prop := zTy[t]? = some (.object C) ∧ Cond.classLink own idx C ∈ zAll ∧ C ∈ zAo
theorem zx_newq {idx t N : Nat} {C : String} {v : Int32} (hd : decode (zcc F) pc = .ok (.anewarray idx, 3)) (hf : zArq (zow F) idx t C) (hn : ¬ v < 0) (hN : v.toNatClampNeg = N) (hb : N * 4 ≤ 536870912) (hce : ce + 1 ≤ zmc F) (hsl : sl + N ≤ zms F) (kk : zX G K F n0 (ce + 1) (sl + N) (zps sh (n0 + (ce + 1)) (2, t, N)) (zpr row (n0 + (ce + 1)) (fun _ => .null)) (pc + 3) ls (.ref (n0 + (ce + 1)) :: st)) : zX G K F n0 ce sl sh row pc ls (.int v :: st) := by
  intro hF H locs lsA hR hL T hT X
  subst hN
  have hz := zsz hF.2.2.2.2.2.2.2.2.1 hR hT X
  have hts := hF.2.2.2.2.1
  have hro := hF.2.2.2.2.2.2.2.2.2.2
  suffices hW : W (zp K) (zgl G) (ze K) (zRm K) (zs K) (zm K) (zar K) (zbe K) (zme K) (zc K) H locs ce sl (zQm K) (F0 (zm K) pc lsA (.int v :: st.map (zv G))) from hW T hT X
  refine W.anew (g := F0 (zm K) pc lsA (.int v :: st.map (zv G))) hF.1 hF.2.1 hF.2.2.2.1 (hts _ hf.2.1) (va_AO.use (hF.2.2.2.2.2.2.2.2.2.2.2.2.2.2.2 _ hf.2.2)) rfl hd rfl hn hb (Nat.le_trans hce hro.2.2.1) (Nat.le_trans hsl hro.2.2.2.1) (fun cA kA comp f1 f2 f3 f4 => ?_)
  have hcA : cA = zcA G t := by
    obtain ⟨kA', comp', -, -, -, h4⟩ := (hF.2.2.2.2.2.1.2 t _ (zT_get hf.1)).2
    exact Option.some.inj (f1.symm.trans h4)
  subst hcA
  generalize hH1 : H.push ({ cls := zcA G t, slots := Array.replicate v.toNatClampNeg .null, vm := .none } : Cell) = H1
  have z1 : H1.size = H.size + 1 := by rw [← hH1, Array.size_push]
  have e1 : H1[H.size]? = some (arrV (zcA G t) v.toNatClampNeg (fun _ => .null)) := by rw [← hH1, Array.getElem?_push_size, ← arrV_new]
  have o1 : ∀ q : Nat, q < H.size → H1[q]? = H[q]? := fun q hq => by rw [← hH1, Array.getElem?_push, if_neg (Nat.ne_of_lt hq)]
  have hat : va_at (zgD G) vwCl (zb1 G + 1 + (n0 + ce), zE G (2, t, v.toNatClampNeg) (fun _ => .null)) H1 := by
    show H1[zb1 G + 1 + (n0 + ce)]? = some (vp_cell _ _)
    rw [← hz, e1]
    rfl
  have hR1 := zR_push hR hz z1 o1 hat
  rw [Nat.add_assoc n0 ce 1] at hR1
  have k1 := kk hF H1 locs lsA hR1 hL
  have e : zv G (.ref (n0 + (ce + 1))) = .ref H.size := by
    show Value.ref (zad G (n0 + (ce + 1))) = _
    rw [zad_pos (by omega), hz]
    exact congrArg Value.ref (show zb1 G + (n0 + (ce + 1)) = zb1 G + 1 + (n0 + ce) from (by omega))
  rw [List.map_cons, e] at k1
  exact k1
/-- returns -/
theorem zx_end {Q : Option Value → zSh → zRw → Prop} {r : Option Value} {H : Heap} {locs : List Loc} (hF : zOk G K F n0) (hE : zEnd G K F n0 Q) (hc : ce = zmc F) (hq : Q r sh row) (hR : zR G (n0 + ce) sh row (zs K).heap H locs) : ∀ t : State, t.heap = H → (zs K).WarmedH t.vm → zQ G (n0 + zmc F) Q (zar K) (zs K) (.returned (r.map (zv G))) t := by
  intro t ht _
  subst hc
  exact ⟨⟨r, sh, row, rfl, hq, hR.1, by rw [ht]; exact hR.2.1⟩, hR.2.2.F ht⟩
theorem zx_iret {Q : Option Value → zSh → zRw → Prop} {x : Int32} (hE : zEnd G K F n0 Q) (hrt0 : zrt F = some .int) (hd : decode (zcc F) pc = .ok (.ireturn, 1)) (hc : ce = zmc F) (hs : sl ≤ zms F) (hq : Q (some (.int x)) sh row) : zX G K F n0 ce sl sh row pc ls [.int x] := by
  intro hF H locs lsA hR hL
  have h1 := zx_end hF hE hc hq hR
  refine W.widen (k := zmc F) (n := zms F) (by omega) hs ?_
  rw [hE.1]
  exact W.iret hF.1 hF.2.1 (hE.2.1.trans hrt0) h1 (fun q hq => hR.2.2.2.2 q hq) hd hF.2.2.2.2.2.2.2.2.2.1
theorem zx_zret {ty : FieldType} {Q : Option Value → zSh → zRw → Prop} {x : Int32} (hE : zEnd G K F n0 Q) (hrt0 : zrt F = some ty) (hn : narrow ty (.int x) = .int x) (hd : decode (zcc F) pc = .ok (.ireturn, 1)) (hc : ce = zmc F) (hs : sl ≤ zms F) (hq : Q (some (.int x)) sh row) : zX G K F n0 ce sl sh row pc ls [.int x] := by
  intro hF H locs lsA hR hL
  have h1 := zx_end hF hE hc hq hR
  refine W.widen (k := zmc F) (n := zms F) (by omega) hs ?_
  rw [hE.1]
  exact W.zret hF.1 hF.2.1 (hE.2.1.trans hrt0) hn h1 (fun q hq => hR.2.2.2.2 q hq) hd hF.2.2.2.2.2.2.2.2.2.1
theorem zx_vret {Q : Option Value → zSh → zRw → Prop} (hE : zEnd G K F n0 Q) (hrt0 : zrt F = none) (hd : decode (zcc F) pc = .ok (.return_, 1)) (hc : ce = zmc F) (hs : sl ≤ zms F) (hq : Q none sh row) : zX G K F n0 ce sl sh row pc ls [] := by
  intro hF H locs lsA hR hL
  have h1 := zx_end hF hE hc hq hR
  refine W.widen (k := zmc F) (n := zms F) (by omega) hs ?_
  rw [hE.1]
  exact W.vret hF.1 hF.2.1 (hE.2.1.trans hrt0) h1 (fun q hq => hR.2.2.2.2 q hq) hd hF.2.2.2.2.2.2.2.2.2.1
theorem zx_aret {rt : FieldType} {Q : Option Value → zSh → zRw → Prop} {a : Nat} (hE : zEnd G K F n0 Q) (hrt0 : zrt F = some rt) (hrt : (∃ n, rt = .object n) ∨ ∃ t, rt = .array t) (hd : decode (zcc F) pc = .ok (.areturn, 1)) (hc : ce = zmc F) (hs : sl ≤ zms F) (hq : Q (some (.ref a)) sh row) : zX G K F n0 ce sl sh row pc ls [.ref a] := by
  intro hF H locs lsA hR hL
  have h1 := zx_end hF hE hc hq hR
  refine W.widen (k := zmc F) (n := zms F) (by omega) hs ?_
  rw [hE.1]
  exact W.aret hF.1 hF.2.1 (hE.2.1.trans hrt0) hrt (Or.inr ⟨_, rfl⟩) h1 (fun q hq => hR.2.2.2.2 q hq) hd hF.2.2.2.2.2.2.2.2.2.1
/-- a contract out of the body's walk -/
theorem z_args {vs : List Value} : ∀ (k : Nat), (∀ v ∈ vs, v.category = 1) → ∀ (i : Nat) (v : Value), vs[i]? = some v → (k + i, v) ∈ lv_args k vs := by
  induction vs with
  | nil => intro k _ i v h; cases h
  | cons w ws ih =>
    intro k hc i v h
    have hw : ¬ w.category = 2 := by rw [hc w List.mem_cons_self]; decide
    unfold lv_args
    cases i with
    | zero => cases h; exact List.mem_cons_self
    | succ i =>
      rw [if_neg hw]
      have := ih (k + 1) (fun v hv => hc v (List.mem_cons_of_mem _ hv)) i v h
      rw [show k + (i + 1) = k + 1 + i by omega]
      exact List.mem_cons_of_mem _ this
theorem z_sl {vs : List Value} (hc : ∀ v ∈ vs, v.category = 1) : (lg_sl vs).length = vs.length := by
  induction vs with
  | nil => rfl
  | cons w ws ih =>
    have hw : ¬ w.category = 2 := by rw [hc w List.mem_cons_self]; decide
    have := ih (fun v hv => hc v (List.mem_cons_of_mem _ hv))
    simp only [lg_sl, List.flatMap_cons, hw, if_false, List.length_append, List.length_cons, List.length_nil] at this ⊢
    omega
theorem z_entry {G : zG} {m : MethodId} {vs : List Value} {nL : Nat} (hc : ∀ v ∈ vs, v.category = 1) (hn : vs.length ≤ nL) : ∃ lsA, entryFrame m (vs.map (zv G)).toArray nL = F0 m 0 lsA [] ∧ zL G lsA nL (vs ++ List.replicate (nL - vs.length) (.retAddr 0)) := by
  have hc' : ∀ v ∈ vs.map (zv G), v.category = 1 := by
    intro v hv
    obtain ⟨w, hw, rfl⟩ := List.mem_map.mp hv
    rw [zv_cat]
    exact hc w hw
  have hl := lv_entry (vs.map (zv G)) (n := nL) (by rw [z_sl hc', List.length_map]; exact hn)
  refine ⟨_, lg_entry_eq _ _ _, hl.1, hl.2.1, by simp; omega, fun i v hi hv => ?_⟩
  have hi' : vs[i]? = some v := by
    by_cases h : i < vs.length
    · rw [List.getElem?_append_left h] at hi
      exact hi
    · rw [List.getElem?_append_right (by omega)] at hi
      exact absurd (List.eq_of_mem_replicate (List.mem_of_getElem? hi)) (hv 0)
  have := z_args (vs := vs.map (zv G)) 0 hc' i (zv G v) (by rw [List.getElem?_map, hi']; rfl)
  have h3 := hl.2.2 _ this
  simpa using h3
theorem zM.of {av : List Value} {n : Nat} {Q : Option Value → zSh → zRw → Prop} (hy : plainName (zow F) = true) (ha : av.length ≤ znL F) (hcat : ∀ v ∈ av, v.category = 1)
    (body : ∀ K : zK, zEnd G K F n Q → zX G K F n 0 0 sh row 0 (av ++ List.replicate (znL F - av.length) (.retAddr 0)) []) : zM G F av n sh row Q := by
  refine Met.ofW (cc := zcc F) (maxL := znL F) (ret := zrt F) hy rfl ?_
  intro p e s m args below meth c s₁ B hml hv
  obtain ⟨rfl, hsz, hI, hP, hK, hX, hb, hN⟩ := hv
  obtain ⟨lsA, e1, hL⟩ := z_entry (G := G) (m := m) hcat ha
  rw [e1]
  have hown : s.vm.findClass (zow F) = some m.cls := findClass_of_methodNamed B.named
  have hnm : meth.name = (zy F).name := (name_of_methodNamed B.named B.method).1
  have hts := atoms_spec (ws := zTs F) B.pre
  exact body (p, e, (headSpec (zTs F) (zrm F)).room, s, m, (av.map (zv G)).toArray, below, meth, c, MQ below (zQ G (n + zmc F) Q) (av.map (zv G)).toArray s (zmc F) (zms F) (zA G)) ⟨rfl, B.returns, hnm⟩
    ⟨B.exec, B.bytes, hml, hown, fun w hw => hts w (List.mem_cons_of_mem _ hw), hK, hX, hb, hsz, B.notSynchronized, Nat.le_refl _, Nat.le_refl _, Nat.le_refl _, Nat.le_refl _, hN⟩ s.heap [] lsA ⟨hI, hP, va_S.rf⟩ hL

/-- calls -/
theorem z_blind {av : List Value} {n : Nat} : FrameBlind (va_Pc (av.map (zv G)) (zI G n sh row)) := fun a U g mk h => by
  obtain ⟨q0, q1, q2, q3, q4, q5, q6, q7⟩ := h
  exact ⟨q0, q1, q2, q3, va_K.moved (u := U) (U := U.calling g mk a) (Vm.Alike.refl U.vm) q4, va_X.moved (u := U) (U := U.calling g mk a) (Vm.Alike.refl U.vm) q5, q6, zNs.same (s := U) (U := U.calling g mk a) rfl q7⟩
theorem z_pre {av : List Value} {H : Heap} {locs : List Loc} (hF : zOk G K F n0) (hR : zR G (n0 + ce) sh row (zs K).heap H locs) (hz : H.size = zb1 G + 1 + (n0 + ce)) : ∀ U : State, U.heap = H → (zs K).WarmedH U.vm → va_Pc (av.map (zv G)) (zI G (n0 + ce) sh row) (av.map (zv G)).toArray U := by
  intro U hU hW
  refine ⟨rfl, by rw [hU]; exact hz, hR.1, by rw [hU]; exact hR.2.1, va_K.moved hW.alike hF.2.2.2.2.2.1, ?_, hF.2.2.2.2.2.2.2.1, zNs.warm hW hF.2.2.2.2.2.2.2.2.2.2.2.2.2.2⟩
  refine va_X.moved hW.alike (va_X.kept hF.2.2.2.2.2.2.1 ?_)
  rw [hU]
  have h1 := hF.2.2.2.2.2.2.2.1
  have h2 := hF.2.2.2.2.2.2.2.2.1
  exact hR.2.2.2.1 _ (by omega) (by show ¬ zb1 G + 1 ≤ zbS G; omega)
theorem z_cont {H : Heap} {locs : List Loc} {lsA : Array Slot} {st0 : List Value} {mc ms n' : Nat} {a : Array Value} {Q : Option Value → zSh → zRw → Prop} (hF : zOk G K F n0) (hR : zR G (n0 + ce) sh row (zs K).heap H locs) (hL : zL G lsA (znL F) ls) (hn : n' = n0 + (ce + mc))
    (hr : va_Run (zp K) (zgl G) (ze K) (zRm K) (zs K) (zm K) (zar K) (zbe K) (zme K) (zc K) H locs ce sl mc ms (F0 (zm K) pc lsA st0) (st.map (zv G)) (zQ G n' Q a) (zA G))
    (kk : ∀ r sh' row', Q r sh' row' → zX G K F n0 (ce + mc) (sl + ms) sh' row' (pc + 3) ls (r.toList ++ st)) : W (zp K) (zgl G) (ze K) (zRm K) (zs K) (zm K) (zar K) (zbe K) (zme K) (zc K) H locs ce sl (zQm K) (F0 (zm K) pc lsA st0) := by
  intro T hT X
  subst hn
  obtain ⟨v, st₀, t, T', L, h0, X', hL', e1, e2, ⟨⟨r, sh', row', hv, hq, hI', hP'⟩, hz, hk⟩, go⟩ := hr T hT X
  cases hv
  rw [h0] at hz hk
  have hS := hR.2.2
  have hS' : va_S (zA G) (zs K).heap T'.heap (locs ++ L) := ⟨Nat.le_trans hS.1 (by rw [e1]; exact hz), fun q h1 h2 => by rw [e1, hk q (Nat.lt_of_lt_of_le h1 hS.1) h2]; exact hS.2.1 q h1 h2, fun q hq => by
    rcases List.mem_append.mp hq with h | h
    · exact hS.2.2 q h
    · exact hL' q h⟩
  have k1 := kk r sh' row' hq hF T'.heap (locs ++ L) lsA ⟨hI', by rw [e1]; exact hP', hS'⟩ hL
  have e : (r.toList ++ st).map (zv G) = (r.map (zv G)).toList ++ st.map (zv G) := by cases r <;> simp
  rw [e] at k1
  obtain ⟨t2, a1, b1⟩ := k1 T' rfl X'
  exact ⟨t2, go t2 a1, b1⟩
/-- what a call needs of a method -/
def zMe (F : zF) (nA : Nat) : Prop := Cond.code (zy F) (zcc F) (znL F) (zrt F) ∈ zAll ∧ Cond.initialized (zow F) ∈ zAll ∧ (zow F ≠ "java/lang/invoke/MethodHandle" ∧ zow F ≠ "java/lang/invoke/VarHandle" ∧ (parseMethodDescriptor (zy F).desc).map (fun d => d.parameters.length) = some nA)
def zLv (own : String) (idx : Nat) (y : MethodName) : Prop := Cond.methodLink own idx y ∈ zAll ∧ Cond.instanceMethod y ∈ zAll ∧ Cond.selects y.cls y y ∈ zAll
def zLs (own : String) (idx : Nat) (y : MethodName) : Prop := Cond.methodLink own idx y ∈ zAll ∧ Cond.static y ∈ zAll
def zLi (own : String) (idx : Nat) (y : MethodName) : Prop := Cond.methodLink own idx y ∈ zAll ∧ Cond.instanceMethod y ∈ zAll ∧ y.name = "<init>"
theorem zMe.good {F' : zF} {nA : Nat} (h : zMe F' nA) : GoodIn zAll (zTs F') := fun w hw => by
  rcases List.mem_cons.mp hw with rfl | hw
  · exact ⟨h.1, zA_good _ h.1⟩
  · exact ⟨hw, zA_good w hw⟩
def zRo (F F' : zF) (ce sl : Nat) (st : List Value) : Prop := zd F' + 1 ≤ zd F ∧ znL F' ≤ 21 ∧ ce + zmc F' ≤ zmc F ∧ sl + zms F' ≤ zms F ∧ (st.map fun v => v.category).sum ≤ 8
theorem zRo.room {F' : zF} (h : zRo F F' ce sl st) (hF : zOk G K F n0) : (zrm F').frames + 1 ≤ (zRm K).frames ∧ 8 + (znL F' + 11) + (zrm F').locals ≤ (zRm K).locals := by
  obtain ⟨h1, h2, -⟩ := h
  have h3 := hF.2.2.2.2.2.2.2.2.2.2.1
  have h4 := hF.2.2.2.2.2.2.2.2.2.2.2.1
  refine ⟨by show zd F' + 1 ≤ _; omega, by show 8 + (znL F' + 11) + 40 * zd F' ≤ _; omega⟩
theorem zRo.cells {F' : zF} (h : zRo F F' ce sl st) (hF : zOk G K F n0) : ce + zmc F' ≤ (zRm K).cells ∧ sl + zms F' ≤ (zRm K).slots := by
  obtain ⟨-, -, h3, h4, -⟩ := h
  have h5 := hF.2.2.2.2.2.2.2.2.2.2.2.2
  exact ⟨Nat.le_trans h3 h5.1, Nat.le_trans h4 h5.2.1⟩
theorem zRo.stk {F' : zF} (h : zRo F F' ce sl st) : ((st.map (zv G)).map fun v => v.category).sum ≤ 8 := by
  have h1 := h.2.2.2.2
  rw [List.map_map]
  have e : (fun v => v.category) ∘ zv G = fun v : Value => v.category := by funext v; exact zv_cat v
  rw [e]
  exact h1
theorem z_reva {As : List Value} {w : Value} : (As.reverse ++ w :: st).map (zv G) = (As.map (zv G)).reverse ++ zv G w :: st.map (zv G) := by
  rw [List.map_append, List.map_reverse, List.map_cons]
theorem z_revs {As : List Value} : (As.reverse ++ st).map (zv G) = (As.map (zv G)).reverse ++ st.map (zv G) := by
  rw [List.map_append, List.map_reverse]
section ZCalls
variable {F' : zF} {idx nA b ci N : Nat} {As : List Value} {Q : Option Value → zSh → zRw → Prop}
theorem zx_callV {T0 : u_T} (hM : zM G F' (.ref b :: As) (n0 + ce) sh row Q) (hC : zMe F' nA) (hl : zLv (zow F) idx (zy F')) (hb : sh b = some (0, ci, N)) (hcl : vwCl[ci]? = some (zow F', T0, N)) (hn : As.length = nA) (hro : zRo F F' ce sl st) (hd : decode (zcc F) pc = .ok (.invokevirtual idx, 3))
    (kk : ∀ r sh' row', Q r sh' row' → zX G K F n0 (ce + zmc F') (sl + zms F') sh' row' (pc + 3) ls (r.toList ++ st)) : zX G K F n0 ce sl sh row pc ls (As.reverse ++ .ref b :: st) := by
  intro hF H locs lsA hR hL T hT X
  have hz := zsz hF.2.2.2.2.2.2.2.2.1 hR hT X
  have hts := hF.2.2.2.2.1
  rw [z_reva]
  refine z_cont (n' := n0 + ce + zmc F') (a := ((.ref b :: As).map (zv G)).toArray) hF hR hL (by omega) (va_runV (rest := st.map (zv G)) (b := zad G b) (As := As.map (zv G)) (C := zow F') ⟨hF.1, hF.2.1, hF.2.2.1, hF.2.2.2.1, hts⟩ hM ⟨callB_of nA hts hC.good rfl rfl rfl (hts _ hC.2.1) (hts _ hl.1) hC.2.2 (hro.room hF), hts _ hl.2.1, hts _ hl.2.2⟩ ⟨z_blind, ?_, z_pre (av := .ref b :: As) hF hR hz⟩ rfl (by simpa using hn) hL.1 rfl (lv_room hro.stk) hd (hro.cells hF)) kk T hT X
  exact va_recv (q := (zow F', T0, N)) hF.2.2.2.2.2.1 hR.2.1 hcl (zW_get hR.1 hb)
theorem zx_callS (hM : zM G F' As (n0 + ce) sh row Q) (hC : zMe F' nA) (hl : zLs (zow F) idx (zy F')) (hn : As.length = nA) (hro : zRo F F' ce sl st) (hd : decode (zcc F) pc = .ok (.invokestatic idx, 3))
    (kk : ∀ r sh' row', Q r sh' row' → zX G K F n0 (ce + zmc F') (sl + zms F') sh' row' (pc + 3) ls (r.toList ++ st)) : zX G K F n0 ce sl sh row pc ls (As.reverse ++ st) := by
  intro hF H locs lsA hR hL T hT X
  have hz := zsz hF.2.2.2.2.2.2.2.2.1 hR hT X
  have hts := hF.2.2.2.2.1
  rw [z_revs]
  exact z_cont (n' := n0 + ce + zmc F') (a := (As.map (zv G)).toArray) hF hR hL (by omega) (va_runS (rest := st.map (zv G)) (As := As.map (zv G)) ⟨hF.1, hF.2.1, hF.2.2.1, hF.2.2.2.1, hts⟩ hM ⟨callB_of nA hts hC.good rfl rfl rfl (hts _ hC.2.1) (hts _ hl.1) hC.2.2 (hro.room hF), hts _ hl.2⟩ ⟨z_blind, z_pre (av := As) hF hR hz⟩ rfl (by simpa using hn) hL.1 rfl (lv_room hro.stk) hd (hro.cells hF)) kk T hT X
theorem zx_callI (hM : zM G F' (.ref b :: As) (n0 + ce) sh row Q) (hC : zMe F' nA) (hr : zrt F' = none) (hl : zLi (zow F) idx (zy F')) (hn : As.length = nA) (hro : zRo F F' ce sl st) (hd : decode (zcc F) pc = .ok (.invokespecial idx, 3))
    (kk : ∀ r sh' row', Q r sh' row' → zX G K F n0 (ce + zmc F') (sl + zms F') sh' row' (pc + 3) ls (r.toList ++ st)) : zX G K F n0 ce sl sh row pc ls (As.reverse ++ .ref b :: st) := by
  intro hF H locs lsA hR hL T hT X
  have hz := zsz hF.2.2.2.2.2.2.2.2.1 hR hT X
  have hts := hF.2.2.2.2.1
  rw [z_reva]
  exact z_cont (n' := n0 + ce + zmc F') (a := ((.ref b :: As).map (zv G)).toArray) hF hR hL (by omega) (va_runI (rest := st.map (zv G)) (b := zad G b) (As := As.map (zv G)) ⟨hF.1, hF.2.1, hF.2.2.1, hF.2.2.2.1, hts⟩ hM ⟨callB_of nA hts hC.good (by show Cond.code (zy F') (zcc F') (znL F') (zrt F') :: zAll = _; rw [hr]) rfl rfl (hts _ hC.2.1) (hts _ hl.1) hC.2.2 (hro.room hF), hl.2.2, hts _ hl.2.1⟩ ⟨z_blind, z_pre (av := .ref b :: As) hF hR hz⟩ rfl (by simpa using hn) hL.1 rfl (lv_room hro.stk) hd (hro.cells hF)) kk T hT X
end ZCalls
/-- Object(), Math.min -/
theorem zx_obj {a idx : Nat} (hd : decode (zcc F) pc = .ok (.invokespecial idx, 3)) (hl : Cond.methodLink (zow F) idx Lib.objectInit ∈ zAll ∧ Cond.instanceMethod Lib.objectInit ∈ zAll ∧ Cond.code Lib.objectInit ⟨#[0xb1]⟩ 1 none ∈ zAll) (hz : 1 ≤ zd F) (hs : (st.map fun v => v.category).sum ≤ 8) (kk : zX G K F n0 ce sl sh row (pc + 3) ls st) : zX G K F n0 ce sl sh row pc ls (.ref a :: st) := by
  intro hF H locs lsA hR hL
  have hts := hF.2.2.2.2.1
  have h3 := hF.2.2.2.2.2.2.2.2.2.2.1
  have h4 := hF.2.2.2.2.2.2.2.2.2.2.2.1
  have h5 : ((st.map (zv G)).map fun v => v.category).sum ≤ 8 := by
    rw [List.map_map]
    have e : (fun v => v.category) ∘ zv G = fun v : Value => v.category := by funext v; exact zv_cat v
    rw [e]
    exact hs
  exact W.objInit hF.1 hF.2.1 hF.2.2.2.1 (hts _ hl.1) (hts _ hl.2.1) (hts _ hl.2.2) rfl (by show lsA.size = _; rw [hF.2.2.1]; exact hL.1) rfl hd (by omega) (by show 2 * 0 + _ + 12 ≤ _; omega) (kk hF H locs lsA hR hL)
theorem zx_min {x z : Int32} {idx : Nat} (hd : decode (zcc F) pc = .ok (.invokestatic idx, 3)) (hl : Cond.methodLink (zow F) idx Lib.Math.min.name ∈ zAll ∧ Cond.static Lib.Math.min.name ∈ zAll ∧ Cond.initialized "java/lang/Math" ∈ zAll ∧ Cond.code Lib.Math.min.name Lib.Math.min.code 2 (some .int) ∈ zAll) (hz : 1 ≤ zd F) (hs : (st.map fun v => v.category).sum ≤ 8) (hce : ce ≤ zmc F) (hsl : sl ≤ zms F) (kk : zX G K F n0 ce sl sh row (pc + 3) ls (.int (if z < x then z else x) :: st)) : zX G K F n0 ce sl sh row pc ls (.int z :: .int x :: st) := by
  intro hF H locs lsA hR hL
  have hts := hF.2.2.2.2.1
  have h3 := hF.2.2.2.2.2.2.2.2.2.2.1
  have h4 := hF.2.2.2.2.2.2.2.2.2.2.2.1
  have h6 := hF.2.2.2.2.2.2.2.2.2.2.2.2
  have h5 : ((st.map (zv G)).map fun v => v.category).sum ≤ 8 := by
    rw [List.map_map]
    have e : (fun v => v.category) ∘ zv G = fun v : Value => v.category := by funext v; exact zv_cat v
    rw [e]
    exact hs
  exact va_mmin hF.1 hF.2.1 (by rw [hF.2.2.1]; exact hL.1.symm) hF.2.2.2.1 (hts _ hl.1) (hts _ hl.2.1) (hts _ hl.2.2.1) (hts _ hl.2.2.2) (by omega) (by omega) (Nat.le_trans hce h6.1) (Nat.le_trans hsl h6.2.1) hd (kk hF H locs lsA hR hL)
theorem zx_look {dflt : Int} {ps : Array (Int × Int)} {len : Nat} {x : Int32} {off : Int} {tgt : Nat} (hd : decode (zcc F) pc = .ok (.lookupswitch dflt ps, len)) (hp : (ps.toList.zip (ps.toList.drop 1)).all (fun (a, next) => a.1 < next.1) = true) (ho : Op.lookupswitch.offset ps.toList dflt x.toInt = off) (ht : (pc : Int) + off = (tgt : Int)) (kk : zX G K F n0 ce sl sh row tgt ls st) : zX G K F n0 ce sl sh row pc ls (.int x :: st) :=
  fun hF H locs lsA hR hL => lv_lookup hF.1 hF.2.1 hd hp ho ht (kk hF H locs lsA hR hL)
theorem zx_tabO {dflt lo hi : Int} {offs : Array Int} {len : Nat} {x : Int32} {tgt : Nat} (hd : decode (zcc F) pc = .ok (.tableswitch dflt lo hi offs, len)) (h : x.toInt < lo ∨ hi < x.toInt) (ht : (pc : Int) + dflt = (tgt : Int)) (kk : zX G K F n0 ce sl sh row tgt ls st) : zX G K F n0 ce sl sh row pc ls (.int x :: st) :=
  fun hF H locs lsA hR hL => lv_tableOut hF.1 hF.2.1 hd h ht (kk hF H locs lsA hR hL)
theorem zx_tabI {dflt lo hi : Int} {offs : Array Int} {len : Nat} {x : Int32} {off : Int} {tgt : Nat} (hd : decode (zcc F) pc = .ok (.tableswitch dflt lo hi offs, len)) (h1 : ¬ x.toInt < lo) (h2 : ¬ hi < x.toInt) (ho : offs[(x.toInt - lo).toNat]? = some off) (ht : (pc : Int) + off = (tgt : Int)) (kk : zX G K F n0 ce sl sh row tgt ls st) : zX G K F n0 ce sl sh row pc ls (.int x :: st) :=
  fun hF H locs lsA hR hL => lv_tableIn hF.1 hF.2.1 hd h1 h2 ho ht (kk hF H locs lsA hR hL)
/-- System.arraycopy of chars or ints -/
theorem zx_copy {a a' t N N' idx : Nat} {ty : FieldType} {sp dp w : Int32} (hd : decode (zcc F) pc = .ok (.invokestatic idx, 3)) (hl : Cond.methodLink (zow F) idx arraycopyName ∈ zAll ∧ Cond.native arraycopyName ∈ zAll ∧ Cond.static arraycopyName ∈ zAll ∧ Cond.initialized "java/lang/System" ∈ zAll) (hs : sh a = some (1, t, N)) (hs' : sh a' = some (1, t, N')) (ht : zTy[t]? = some ty) (hp : refKind ty = false) (h1 : ¬ sp < 0) (h2 : ¬ dp < 0) (h3 : ¬ w < 0) (h4 : sp.toNatClampNeg + w.toNatClampNeg ≤ N) (h5 : dp.toNatClampNeg + w.toNatClampNeg ≤ N') (hfit : ∀ i, i < w.toNatClampNeg → fits ty (.int (zi (row a (sp.toNatClampNeg + i)))) = true) (hz : 2 ≤ zd F) (hst : (st.map fun v => v.category).sum ≤ 8)
    (kk : zX G K F n0 ce sl sh (zpr row a' (fun k => .int (va_cpy (fun k => zi (row a k)) (fun k => zi (row a' k)) sp.toNatClampNeg dp.toNatClampNeg w.toNatClampNeg k))) (pc + 3) ls st) : zX G K F n0 ce sl sh row pc ls (.int w :: .int dp :: .ref a' :: .int sp :: .ref a :: st) := by
  intro hF H locs lsA hR hL
  have hts := hF.2.2.2.2.1
  have g3 := hF.2.2.2.2.2.2.2.2.2.2.1
  have g4 := hF.2.2.2.2.2.2.2.2.2.2.2.1
  have g5 : ((st.map (zv G)).map fun v => v.category).sum ≤ 8 := by
    rw [List.map_map]
    have e : (fun v => v.category) ∘ zv G = fun v : Value => v.category := by funext v; exact zv_cat v
    rw [e]
    exact hst
  have g6 : nativeFrameWords "java/lang/System" "arraycopy" 5 + 11 ≤ 60 := by decide +kernel
  refine va_copyi (D := zgD G) (cl := vwCl) (tys := zT G) (A := zA G) (ws := zW G (n0 + ce) sh row) (f := fun k => zi (row a k)) (g := fun k => zi (row a' k)) (c0 := zcA G t) (c1 := zcA G t) (n0 := N) (n1 := N') (ty := ty) hF.1 hF.2.1 (by rw [hF.2.2.1]; exact hL.1.symm) hF.2.2.2.1 (hts _ hl.1) (hts _ hl.2.1) (hts _ hl.2.2.1) (hts _ hl.2.2.2) hF.2.2.2.2.2.1 hR.2.1 zW_D hR.2.2 (a - 1) (a' - 1) t t (zW_get hR.1 hs) (zW_get hR.1 hs') (zT_get ht) (zT_get ht) hp h1 h2 h3 h4 h5 hfit (by omega) (by omega) hd (fun H1 locs1 hP1 _ hS1 => kk hF H1 locs1 lsA ⟨hR.1, ?_, hS1⟩ hL)
  rw [← zW_set (G := G) (row := row) hR.1 hs' (zpr_self) (fun b hb => zpr_ne hb)]
  exact hP1

end ZRows
