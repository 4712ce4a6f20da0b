section ZCall2
variable {G : zG} {K : zK} {F : zF} {n0 ce sl : Nat} {sh : zSh} {row : zRw} {pc : Nat} {ls st : List Value}
/-- ends of methods: nothing answered, or a value -/
abbrev zpV (sh : zSh) (q : zRw → Prop) : Option Value → zSh → zRw → Prop := fun r sh' row' => r = none ∧ sh' = sh ∧ q row'
abbrev zpR (sh : zSh) (q : Value → zRw → Prop) : Option Value → zSh → zRw → Prop := fun r sh' row' => ∃ v, r = some v ∧ sh' = sh ∧ q v row'
variable {F' : zF} {idx nA b ci N : Nat} {As : List Value} {T0 : u_T}
theorem zc_S {v : Value} (hM : zM G F' As (n0 + ce) sh row (zP sh row v)) (hC : zMe F' nA) (hl : zLs (zow F) idx (zy F')) (hn : As.length = nA) (hdp : zd F' + 1 ≤ zd F) (hnl : znL F' ≤ 21) (h0 : zmc F' = 0) (h1 : zms F' = 0) (hce : ce ≤ zmc F) (hsl : sl ≤ zms F) (hst : (st.map fun v => v.category).sum ≤ 8) (hd : decode (zcc F) pc = .ok (.invokestatic idx, 3)) (kk : zX G K F n0 ce sl sh row (pc + 3) ls (v :: st)) : zX G K F n0 ce sl sh row pc ls (As.reverse ++ st) := by
  refine zx_callS hM hC hl hn (zro hdp hnl (by rw [h0]; exact hce) (by rw [h1]; exact hsl) hst) hd ?_
  rintro _ _ _ ⟨rfl, rfl, rfl⟩
  rw [h0, h1]
  exact kk
theorem zc_Sv {q : zRw → Prop} (hM : zM G F' As (n0 + ce) sh row (zpV sh q)) (hC : zMe F' nA) (hl : zLs (zow F) idx (zy F')) (hn : As.length = nA) (hdp : zd F' + 1 ≤ zd F) (hnl : znL F' ≤ 21) (h0 : zmc F' = 0) (h1 : zms F' = 0) (hce : ce ≤ zmc F) (hsl : sl ≤ zms F) (hst : (st.map fun v => v.category).sum ≤ 8) (hd : decode (zcc F) pc = .ok (.invokestatic idx, 3)) (kk : ∀ row', q row' → zX G K F n0 ce sl sh row' (pc + 3) ls st) : zX G K F n0 ce sl sh row pc ls (As.reverse ++ st) := by
  refine zx_callS hM hC hl hn (zro hdp hnl (by rw [h0]; exact hce) (by rw [h1]; exact hsl) hst) hd ?_
  rintro _ _ row' ⟨rfl, rfl, hq⟩
  rw [h0, h1]
  exact kk row' hq
theorem zc_Sr {q : Value → zRw → Prop} (hM : zM G F' As (n0 + ce) sh row (zpR sh q)) (hC : zMe F' nA) (hl : zLs (zow F) idx (zy F')) (hn : As.length = nA) (hdp : zd F' + 1 ≤ zd F) (hnl : znL F' ≤ 21) (h0 : zmc F' = 0) (h1 : zms F' = 0) (hce : ce ≤ zmc F) (hsl : sl ≤ zms F) (hst : (st.map fun v => v.category).sum ≤ 8) (hd : decode (zcc F) pc = .ok (.invokestatic idx, 3)) (kk : ∀ v row', q v row' → zX G K F n0 ce sl sh row' (pc + 3) ls (v :: st)) : zX G K F n0 ce sl sh row pc ls (As.reverse ++ st) := by
  refine zx_callS hM hC hl hn (zro hdp hnl (by rw [h0]; exact hce) (by rw [h1]; exact hsl) hst) hd ?_
  rintro _ _ row' ⟨v, rfl, rfl, hq⟩
  rw [h0, h1]
  exact kk v row' hq
theorem zc_V {v : Value} (hM : zM G F' (.ref b :: As) (n0 + ce) sh row (zP sh row v)) (hC : zMe F' nA) (hl : zLv (zow F) idx (zy F')) (hb : sh b = some (0, ci, N)) (hcl : vwCl[ci]? = some (zow F', T0, N)) (hn : As.length = nA) (hdp : zd F' + 1 ≤ zd F) (hnl : znL F' ≤ 21) (h0 : zmc F' = 0) (h1 : zms F' = 0) (hce : ce ≤ zmc F) (hsl : sl ≤ zms F) (hst : (st.map fun v => v.category).sum ≤ 8) (hd : decode (zcc F) pc = .ok (.invokevirtual idx, 3)) (kk : zX G K F n0 ce sl sh row (pc + 3) ls (v :: st)) : zX G K F n0 ce sl sh row pc ls (As.reverse ++ .ref b :: st) := by
  refine zx_callV hM hC hl hb hcl hn (zro hdp hnl (by rw [h0]; exact hce) (by rw [h1]; exact hsl) hst) hd ?_
  rintro _ _ _ ⟨rfl, rfl, rfl⟩
  rw [h0, h1]
  exact kk
theorem zc_Vv {q : zRw → Prop} (hM : zM G F' (.ref b :: As) (n0 + ce) sh row (zpV sh q)) (hC : zMe F' nA) (hl : zLv (zow F) idx (zy F')) (hb : sh b = some (0, ci, N)) (hcl : vwCl[ci]? = some (zow F', T0, N)) (hn : As.length = nA) (hdp : zd F' + 1 ≤ zd F) (hnl : znL F' ≤ 21) (h0 : zmc F' = 0) (h1 : zms F' = 0) (hce : ce ≤ zmc F) (hsl : sl ≤ zms F) (hst : (st.map fun v => v.category).sum ≤ 8) (hd : decode (zcc F) pc = .ok (.invokevirtual idx, 3)) (kk : ∀ row', q row' → zX G K F n0 ce sl sh row' (pc + 3) ls st) : zX G K F n0 ce sl sh row pc ls (As.reverse ++ .ref b :: st) := by
  refine zx_callV hM hC hl hb hcl hn (zro hdp hnl (by rw [h0]; exact hce) (by rw [h1]; exact hsl) hst) hd ?_
  rintro _ _ row' ⟨rfl, rfl, hq⟩
  rw [h0, h1]
  exact kk row' hq
theorem zc_Vr {q : Value → zRw → Prop} (hM : zM G F' (.ref b :: As) (n0 + ce) sh row (zpR sh q)) (hC : zMe F' nA) (hl : zLv (zow F) idx (zy F')) (hb : sh b = some (0, ci, N)) (hcl : vwCl[ci]? = some (zow F', T0, N)) (hn : As.length = nA) (hdp : zd F' + 1 ≤ zd F) (hnl : znL F' ≤ 21) (h0 : zmc F' = 0) (h1 : zms F' = 0) (hce : ce ≤ zmc F) (hsl : sl ≤ zms F) (hst : (st.map fun v => v.category).sum ≤ 8) (hd : decode (zcc F) pc = .ok (.invokevirtual idx, 3)) (kk : ∀ v row', q v row' → zX G K F n0 ce sl sh row' (pc + 3) ls (v :: st)) : zX G K F n0 ce sl sh row pc ls (As.reverse ++ .ref b :: st) := by
  refine zx_callV hM hC hl hb hcl hn (zro hdp hnl (by rw [h0]; exact hce) (by rw [h1]; exact hsl) hst) hd ?_
  rintro _ _ row' ⟨v, rfl, rfl, hq⟩
  rw [h0, h1]
  exact kk v row' hq
end ZCall2
