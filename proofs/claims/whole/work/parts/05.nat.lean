section ZNat
variable {G : zG} {K : zK} {F : zF} {n0 ce sl : Nat} {sh : zSh} {row : zRw} {pc : Nat} {ls st : List Value}
/-- a truth value as the machine has it -/
def bI (b : Bool) : Int32 := if b = true then nI 1 else nI 0
theorem bI_t : bI true = nI 1 := rfl
theorem bI_f : bI false = nI 0 := rfl
theorem bI_nar (b : Bool) : narrow .boolean (.int (bI b)) = .int (bI b) := by cases b <;> decide
theorem bI_fit (b : Bool) : fits .boolean (.int (bI b)) = true := by cases b <;> decide
theorem zL31 {a : Nat} (h : a < 2147483648) : a < 2 ^ 31 := h
theorem cI_nar {c : Nat} (h : c < 65536) : narrow .char (.int (nI c)) = .int (nI c) := (pk_charN h).1
theorem cI_vp {c : Nat} (h : c < 65536) : vp_nar .char (nI c) = nI c := by
  have := cI_nar h
  unfold vp_nar
  rw [this]
theorem nI_cl {c : Nat} (h : c < 2147483648) : (nI c).toNatClampNeg = c := nI_clamp (zL31 h)
/-- the end of a method that changes nothing and answers v -/
abbrev zP (sh : zSh) (row : zRw) (v : Value) : Option Value → zSh → zRw → Prop := fun r sh' row' => r = some v ∧ sh' = sh ∧ row' = row

theorem zn_icmp_eq {a b : Nat} {off : Int} {tgt : Nat} (hd : decode (zcc F) pc = .ok (.if_icmp .eq off, 3)) (ht : (pc : Int) + off = (tgt : Int)) (ha : a < 2147483648) (hb : b < 2147483648) (kt : a = b → zX G K F n0 ce sl sh row tgt ls st) (kf : ¬ a = b → zX G K F n0 ce sl sh row (pc + 3) ls st) : zX G K F n0 ce sl sh row pc ls (.int (nI b) :: .int (nI a) :: st) :=
  zx_icmp_eq hd ht (fun h => kt ((nI_eq (zL31 ha) (zL31 hb)).mp h)) (fun h => kf (fun g => h ((nI_eq (zL31 ha) (zL31 hb)).mpr g)))
theorem zn_icmp_lt {a b : Nat} {off : Int} {tgt : Nat} (hd : decode (zcc F) pc = .ok (.if_icmp .lt off, 3)) (ht : (pc : Int) + off = (tgt : Int)) (ha : a < 2147483648) (hb : b < 2147483648) (kt : a < b → zX G K F n0 ce sl sh row tgt ls st) (kf : ¬ a < b → zX G K F n0 ce sl sh row (pc + 3) ls st) : zX G K F n0 ce sl sh row pc ls (.int (nI b) :: .int (nI a) :: st) :=
  zx_icmp_lt hd ht (fun h => kt ((nI_ltI (zL31 ha) (zL31 hb)).mp h)) (fun h => kf (fun g => h ((nI_ltI (zL31 ha) (zL31 hb)).mpr g)))
theorem zn_icmp_le {a b : Nat} {off : Int} {tgt : Nat} (hd : decode (zcc F) pc = .ok (.if_icmp .le off, 3)) (ht : (pc : Int) + off = (tgt : Int)) (ha : a < 2147483648) (hb : b < 2147483648) (kt : a ≤ b → zX G K F n0 ce sl sh row tgt ls st) (kf : ¬ a ≤ b → zX G K F n0 ce sl sh row (pc + 3) ls st) : zX G K F n0 ce sl sh row pc ls (.int (nI b) :: .int (nI a) :: st) :=
  zx_icmp_le hd ht (fun h => kt ((nI_leI (zL31 ha) (zL31 hb)).mp h)) (fun h => kf (fun g => h ((nI_leI (zL31 ha) (zL31 hb)).mpr g)))
theorem zn_icmp_ne {a b : Nat} {off : Int} {tgt : Nat} (hd : decode (zcc F) pc = .ok (.if_icmp .ne off, 3)) (ht : (pc : Int) + off = (tgt : Int)) (ha : a < 2147483648) (hb : b < 2147483648) (kt : ¬ a = b → zX G K F n0 ce sl sh row tgt ls st) (kf : a = b → zX G K F n0 ce sl sh row (pc + 3) ls st) : zX G K F n0 ce sl sh row pc ls (.int (nI b) :: .int (nI a) :: st) :=
  zx_icmp_ne hd ht (fun h => kt (fun g => h (congrArg nI g))) (fun h => kf ((nI_eq (zL31 ha) (zL31 hb)).mp h))
theorem zn_icmp_ge {a b : Nat} {off : Int} {tgt : Nat} (hd : decode (zcc F) pc = .ok (.if_icmp .ge off, 3)) (ht : (pc : Int) + off = (tgt : Int)) (ha : a < 2147483648) (hb : b < 2147483648) (kt : b ≤ a → zX G K F n0 ce sl sh row tgt ls st) (kf : ¬ b ≤ a → zX G K F n0 ce sl sh row (pc + 3) ls st) : zX G K F n0 ce sl sh row pc ls (.int (nI b) :: .int (nI a) :: st) :=
  zx_icmp_ge hd ht (fun h => kt ((nI_leI (zL31 hb) (zL31 ha)).mp h)) (fun h => kf (fun g => h ((nI_leI (zL31 hb) (zL31 ha)).mpr g)))
theorem zn_icmp_gt {a b : Nat} {off : Int} {tgt : Nat} (hd : decode (zcc F) pc = .ok (.if_icmp .gt off, 3)) (ht : (pc : Int) + off = (tgt : Int)) (ha : a < 2147483648) (hb : b < 2147483648) (kt : b < a → zX G K F n0 ce sl sh row tgt ls st) (kf : ¬ b < a → zX G K F n0 ce sl sh row (pc + 3) ls st) : zX G K F n0 ce sl sh row pc ls (.int (nI b) :: .int (nI a) :: st) :=
  zx_icmp_gt hd ht (fun h => kt ((nI_ltI (zL31 hb) (zL31 ha)).mp h)) (fun h => kf (fun g => h ((nI_ltI (zL31 hb) (zL31 ha)).mpr g)))
theorem zn_if_eq {a : Nat} {off : Int} {tgt : Nat} (hd : decode (zcc F) pc = .ok (.ifCond .eq off, 3)) (ht : (pc : Int) + off = (tgt : Int)) (ha : a < 2147483648) (kt : a = 0 → zX G K F n0 ce sl sh row tgt ls st) (kf : ¬ a = 0 → zX G K F n0 ce sl sh row (pc + 3) ls st) : zX G K F n0 ce sl sh row pc ls (.int (nI a) :: st) :=
  zx_if_eq hd ht (fun h => kt ((nI_eq (zL31 ha) (by decide)).mp h)) (fun h => kf (fun g => h (congrArg nI g)))
theorem zn_if_ne {a : Nat} {off : Int} {tgt : Nat} (hd : decode (zcc F) pc = .ok (.ifCond .ne off, 3)) (ht : (pc : Int) + off = (tgt : Int)) (ha : a < 2147483648) (kt : ¬ a = 0 → zX G K F n0 ce sl sh row tgt ls st) (kf : a = 0 → zX G K F n0 ce sl sh row (pc + 3) ls st) : zX G K F n0 ce sl sh row pc ls (.int (nI a) :: st) :=
  zx_if_ne hd ht (fun h => kt (fun g => h (congrArg nI g))) (fun h => kf ((nI_eq (zL31 ha) (by decide)).mp h))
theorem zn_if_lt {a : Nat} {off : Int} {tgt : Nat} (hd : decode (zcc F) pc = .ok (.ifCond .lt off, 3)) (ht : (pc : Int) + off = (tgt : Int)) (ha : a < 2147483648) (kf : zX G K F n0 ce sl sh row (pc + 3) ls st) : zX G K F n0 ce sl sh row pc ls (.int (nI a) :: st) :=
  zx_if_lt hd ht (fun h => absurd h (nI_pos (zL31 ha))) (fun _ => kf)
theorem zn_if_ge {a : Nat} {off : Int} {tgt : Nat} (hd : decode (zcc F) pc = .ok (.ifCond .ge off, 3)) (ht : (pc : Int) + off = (tgt : Int)) (ha : a < 2147483648) (kt : zX G K F n0 ce sl sh row tgt ls st) : zX G K F n0 ce sl sh row pc ls (.int (nI a) :: st) :=
  zx_if_ge hd ht (fun _ => kt) (fun h => absurd (nI_pos' (zL31 ha)) h)
theorem zn_if_gt {a : Nat} {off : Int} {tgt : Nat} (hd : decode (zcc F) pc = .ok (.ifCond .gt off, 3)) (ht : (pc : Int) + off = (tgt : Int)) (ha : a < 2147483648) (kt : 0 < a → zX G K F n0 ce sl sh row tgt ls st) (kf : ¬ 0 < a → zX G K F n0 ce sl sh row (pc + 3) ls st) : zX G K F n0 ce sl sh row pc ls (.int (nI a) :: st) :=
  zx_if_gt hd ht (fun h => kt ((nI_ltI (by decide) (zL31 ha)).mp h)) (fun h => kf (fun g => h ((nI_ltI (by decide) (zL31 ha)).mpr g)))
theorem zn_if_le {a : Nat} {off : Int} {tgt : Nat} (hd : decode (zcc F) pc = .ok (.ifCond .le off, 3)) (ht : (pc : Int) + off = (tgt : Int)) (ha : a < 2147483648) (kt : a = 0 → zX G K F n0 ce sl sh row tgt ls st) (kf : 0 < a → zX G K F n0 ce sl sh row (pc + 3) ls st) : zX G K F n0 ce sl sh row pc ls (.int (nI a) :: st) :=
  zx_if_le hd ht (fun h => kt (by have := (nI_leI (a := a) (b := 0) (zL31 ha) (by decide)).mp h; omega)) (fun h => kf (Nat.pos_of_ne_zero (fun g => h ((nI_leI (a := a) (b := 0) (zL31 ha) (by decide)).mpr (by omega)))))
theorem zb_if_eq {b : Bool} {off : Int} {tgt : Nat} (hd : decode (zcc F) pc = .ok (.ifCond .eq off, 3)) (ht : (pc : Int) + off = (tgt : Int)) (kt : b = false → zX G K F n0 ce sl sh row tgt ls st) (kf : b = true → zX G K F n0 ce sl sh row (pc + 3) ls st) : zX G K F n0 ce sl sh row pc ls (.int (bI b) :: st) := by
  cases b
  · exact zx_if_eq hd ht (fun _ => kt rfl) (fun h => absurd (by decide) h)
  · exact zx_if_eq hd ht (fun h => absurd h (by decide)) (fun _ => kf rfl)
theorem zb_if_ne {b : Bool} {off : Int} {tgt : Nat} (hd : decode (zcc F) pc = .ok (.ifCond .ne off, 3)) (ht : (pc : Int) + off = (tgt : Int)) (kt : b = true → zX G K F n0 ce sl sh row tgt ls st) (kf : b = false → zX G K F n0 ce sl sh row (pc + 3) ls st) : zX G K F n0 ce sl sh row pc ls (.int (bI b) :: st) := by
  cases b
  · exact zx_if_ne hd ht (fun h => absurd (by decide) h) (fun _ => kf rfl)
  · exact zx_if_ne hd ht (fun _ => kt rfl) (fun h => absurd h (by decide))
theorem zn_iadd {a b : Nat} (hd : decode (zcc F) pc = .ok (.iadd, 1)) (k : zX G K F n0 ce sl sh row (pc + 1) ls (.int (nI (a + b)) :: st)) : zX G K F n0 ce sl sh row pc ls (.int (nI b) :: .int (nI a) :: st) := by
  refine zx_iadd hd ?_
  rw [nI_add]
  exact k
theorem zn_isub {a b : Nat} (hd : decode (zcc F) pc = .ok (.isub, 1)) (h : b ≤ a) (k : zX G K F n0 ce sl sh row (pc + 1) ls (.int (nI (a - b)) :: st)) : zX G K F n0 ce sl sh row pc ls (.int (nI b) :: .int (nI a) :: st) := by
  refine zx_isub hd ?_
  rw [pk_sub h]
  exact k
theorem zn_imul {a b : Nat} (hd : decode (zcc F) pc = .ok (.imul, 1)) (k : zX G K F n0 ce sl sh row (pc + 1) ls (.int (nI (a * b)) :: st)) : zX G K F n0 ce sl sh row pc ls (.int (nI b) :: .int (nI a) :: st) := by
  refine zx_imul hd ?_
  rw [pk_mul]
  exact k
theorem zn_idiv {a b : Nat} (hd : decode (zcc F) pc = .ok (.idiv, 1)) (ha : a < 2147483648) (h0 : 0 < b) (hb : b < 2147483648) (k : zX G K F n0 ce sl sh row (pc + 1) ls (.int (nI (a / b)) :: st)) : zX G K F n0 ce sl sh row pc ls (.int (nI b) :: .int (nI a) :: st) := by
  refine zx_idiv hd (nI_ne0 h0 (zL31 hb)) ?_
  rw [pk_div (zL31 ha) h0 (zL31 hb)]
  exact k
theorem zn_irem {a b : Nat} (hd : decode (zcc F) pc = .ok (.irem, 1)) (ha : a < 2147483648) (h0 : 0 < b) (hb : b < 2147483648) (k : zX G K F n0 ce sl sh row (pc + 1) ls (.int (nI (a % b)) :: st)) : zX G K F n0 ce sl sh row pc ls (.int (nI b) :: .int (nI a) :: st) := by
  refine zx_irem hd (nI_ne0 h0 (zL31 hb)) ?_
  rw [pk_rem (zL31 ha) h0 (zL31 hb)]
  exact k
theorem zn_i2c {a : Nat} (hd : decode (zcc F) pc = .ok (.i2c, 1)) (ha : a < 65536) (k : zX G K F n0 ce sl sh row (pc + 1) ls (.int (nI a) :: st)) : zX G K F n0 ce sl sh row pc ls (.int (nI a) :: st) := by
  refine zx_i2c (v := nI a) hd ?_ k
  rw [pk_char, pk_tn (by omega), Nat.mod_eq_of_lt ha]
theorem zn_iinc {i c a : Nat} (hd : decode (zcc F) pc = .ok (.iinc i (c : Int), 3)) (hn : i < znL F) (ho : (List.all ls (fun w => w.category == 1)) = true) (hx : ls[i]? = some (.int (nI a))) (k : zX G K F n0 ce sl sh row (pc + 3) (ls.set i (.int (nI (a + c)))) st) : zX G K F n0 ce sl sh row pc ls st :=
  zx_iinc hd hn ho hx (by rw [← nI_add]; rfl) rfl k
theorem zn_idec {i a : Nat} (hd : decode (zcc F) pc = .ok (.iinc i (-1), 3)) (hn : i < znL F) (ho : (List.all ls (fun w => w.category == 1)) = true) (hx : ls[i]? = some (.int (nI (a + 1)))) (k : zX G K F n0 ce sl sh row (pc + 3) (ls.set i (.int (nI a))) st) : zX G K F n0 ce sl sh row pc ls st :=
  zx_iinc (v := nI a) hd hn ho hx (pk_m1 a) rfl k
/-- arrays, by a natural place -/
theorem zn_iald {a t N i : Nat} {x : Int32} (hd : decode (zcc F) pc = .ok (.iaload, 1)) (hs : sh a = some (1, t, N)) (ht : zTy[t]? = some .int) (hi : i < N) (hN : N < 2147483648) (hv : row a i = .int x) (kk : zX G K F n0 ce sl sh row (pc + 1) ls (.int x :: st)) : zX G K F n0 ce sl sh row pc ls (.int (nI i) :: .ref a :: st) :=
  zx_iald hd hs ht (vp_in_nI hi (zL31 hN)) (by rw [nI_cl (by omega)]; exact hv) kk
theorem zn_cald {a t N i : Nat} {x : Int32} (hd : decode (zcc F) pc = .ok (.caload, 1)) (hs : sh a = some (1, t, N)) (ht : zTy[t]? = some .char) (hi : i < N) (hN : N < 2147483648) (hv : row a i = .int x) (kk : zX G K F n0 ce sl sh row (pc + 1) ls (.int x :: st)) : zX G K F n0 ce sl sh row pc ls (.int (nI i) :: .ref a :: st) :=
  zx_cald hd hs ht (vp_in_nI hi (zL31 hN)) (by rw [nI_cl (by omega)]; exact hv) kk
theorem zn_zald {a t N i : Nat} {x : Int32} (hd : decode (zcc F) pc = .ok (.baload, 1)) (hs : sh a = some (1, t, N)) (ht : zTy[t]? = some .boolean) (hi : i < N) (hN : N < 2147483648) (hv : row a i = .int x) (kk : zX G K F n0 ce sl sh row (pc + 1) ls (.int x :: st)) : zX G K F n0 ce sl sh row pc ls (.int (nI i) :: .ref a :: st) :=
  zx_zald hd hs ht (vp_in_nI hi (zL31 hN)) (by rw [nI_cl (by omega)]; exact hv) kk
theorem zn_aald {a t N b i : Nat} {C : String} (hd : decode (zcc F) pc = .ok (.aaload, 1)) (hs : sh a = some (2, t, N)) (ht : zTy[t]? = some (.object C)) (hi : i < N) (hN : N < 2147483648) (hv : row a i = .ref b) (kk : zX G K F n0 ce sl sh row (pc + 1) ls (.ref b :: st)) : zX G K F n0 ce sl sh row pc ls (.int (nI i) :: .ref a :: st) :=
  zx_aald hd hs ht (vp_in_nI hi (zL31 hN)) (by rw [nI_cl (by omega)]; exact hv) kk
theorem zn_iast {a t N i : Nat} {x : Int32} (hd : decode (zcc F) pc = .ok (.iastore, 1)) (hs : sh a = some (1, t, N)) (ht : zTy[t]? = some .int) (hi : i < N) (hN : N < 2147483648) (kk : zX G K F n0 ce sl sh (zup row a i (.int x)) (pc + 1) ls st) : zX G K F n0 ce sl sh row pc ls (.int x :: .int (nI i) :: .ref a :: st) :=
  zx_iast hd hs ht (vp_in_nI hi (zL31 hN)) (by rw [nI_cl (by omega)]; exact kk)
theorem zn_cast {a t N i c : Nat} (hd : decode (zcc F) pc = .ok (.castore, 1)) (hs : sh a = some (1, t, N)) (ht : zTy[t]? = some .char) (hi : i < N) (hN : N < 2147483648) (hc : c < 65536) (kk : zX G K F n0 ce sl sh (zup row a i (.int (nI c))) (pc + 1) ls st) : zX G K F n0 ce sl sh row pc ls (.int (nI c) :: .int (nI i) :: .ref a :: st) :=
  zx_cast hd hs ht (vp_in_nI hi (zL31 hN)) (cI_vp hc) (by rw [nI_cl (by omega)]; exact kk)
theorem zn_zast {a t N i : Nat} {b : Bool} (hd : decode (zcc F) pc = .ok (.bastore, 1)) (hs : sh a = some (1, t, N)) (ht : zTy[t]? = some .boolean) (hi : i < N) (hN : N < 2147483648) (kk : zX G K F n0 ce sl sh (zup row a i (.int (bI b))) (pc + 1) ls st) : zX G K F n0 ce sl sh row pc ls (.int (bI b) :: .int (nI i) :: .ref a :: st) :=
  zx_zast hd hs ht (vp_in_nI hi (zL31 hN)) (by cases b <;> decide) (by rw [nI_cl (by omega)]; exact kk)
theorem zn_aast {a t N b ci M i : Nat} {r : vw_C} (hd : decode (zcc F) pc = .ok (.aastore, 1)) (hs : sh a = some (2, t, N)) (ht : zTy[t]? = some (.object r.1)) (hb : sh b = some (0, ci, M)) (hc : vwCl[ci]? = some r) (hi : i < N) (hN : N < 2147483648) (kk : zX G K F n0 ce sl sh (zup row a i (.ref b)) (pc + 1) ls st) : zX G K F n0 ce sl sh row pc ls (.ref b :: .int (nI i) :: .ref a :: st) :=
  zx_aast hd hs ht hb hc (vp_in_nI hi (zL31 hN)) (by rw [nI_cl (by omega)]; exact kk)
theorem zx_ldcw {idx : Nat} {v : Int32} (hd : decode (zcc F) pc = .ok (.ldc_w idx, 3)) (hc : Cond.constant (zow F) idx v ∈ zAll) (k : zX G K F n0 ce sl sh row (pc + 3) ls (.int v :: st)) : zX G K F n0 ce sl sh row pc ls st :=
  fun hF H locs lsA hR hL => lv_ldcw hF.1 hF.2.1 hF.2.2.2.1 (hF.2.2.2.2.1 _ hc) hd (k hF H locs lsA hR hL)
/-- the room of a call -/
theorem zro {F' : zF} (h1 : zd F' + 1 ≤ zd F) (h2 : znL F' ≤ 21) (h3 : ce + zmc F' ≤ zmc F) (h4 : sl + zms F' ≤ zms F) (h5 : (st.map fun v => v.category).sum ≤ 8) : zRo F F' ce sl st := ⟨h1, h2, h3, h4, h5⟩
end ZNat
