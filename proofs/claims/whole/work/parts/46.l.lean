/-- the law's method, with the cells that it makes -/
def fLw : zF := (cL_law, 4, yL_law, some .boolean, 40, 818, 12372)
section LAW
variable {G : zG} {K : zK} {sh : zSh} {row : zRw} {i : Nat}
theorem zc_Q {F F' : zF} {n0 ce sl pc idx nA b ci N : Nat} {ls st As : List Value} {T0 : u_T} {Q : Option Value → zSh → zRw → Prop} (hM : zM G F' (.ref b :: As) (n0 + ce) sh row Q) (hC : zMe F' nA) (hl : zLv (zow F) idx (zy F')) (hb : sh b = some (0, ci, N)) (hcl : vwCl[ci]? = some (zow F', T0, N)) (hn : As.length = nA) (hdp : zd F' + 1 ≤ zd F) (hnl : znL F' ≤ 21) (h0 : zmc F' = 0) (h1 : zms F' = 0) (hce : ce ≤ zmc F) (hsl : sl ≤ zms F) (hst : (st.map fun v => v.category).sum ≤ 8) (hd : decode (zcc F) pc = .ok (.invokevirtual idx, 3)) (kk : ∀ r sh' row', Q r sh' row' → zX G K F n0 ce sl sh' row' (pc + 3) ls (r.toList ++ st)) : zX G K F n0 ce sl sh row pc ls (As.reverse ++ .ref b :: st) := by
  refine zx_callV hM hC hl hb hcl hn (zro hdp hnl (by rw [h0]; exact hce) (by rw [h1]; exact hsl) hst) hd ?_
  intro r sh' row' hq
  rw [h0, h1]
  exact kk r sh' row' hq
theorem JI.x (h : JI sh row) : sh 1 = some (0, 6, 12) := by obtain ⟨D, pf, sf, hf, c, qr, A, B, P, T, S, H, hX, hM, hR⟩ := h; exact hX.1.1
theorem JI.m (h : JI sh row) : sh 797 = some (0, 7, 31) := by obtain ⟨D, pf, sf, hf, c, qr, A, B, P, T, S, H, hX, hM, hR⟩ := h; exact hM.1.1
theorem and31 (x : Int32) : ∃ k : Nat, k < 32 ∧ (x &&& nI 31) = nI k := by
  have h1 : bN x &&& 31 ≤ 31 := Nat.and_le_right
  refine ⟨bN x &&& 31, by omega, bN_inj ?_⟩
  rw [bN_and, bN_nI (by omega), bN_nI (by omega)]
theorem lw_le {L i : Nat} (hL : L < 1000000) (hi : i < 2000000) (h : ¬ Int32.ofNat L - nI 3 < nI i) : i + 3 ≤ L := by
  have h2 : ¬ (Int32.ofNat L - nI 3).toInt < (nI i).toInt := fun g => h (Int32.lt_iff_toInt_lt.mpr g)
  rw [show Int32.ofNat L = nI L from rfl, pk_sub_toInt (by omega) (by omega), nI_toInt (by omega)] at h2
  omega

set_option maxHeartbeats 4000000 in
set_option maxRecDepth 100000 in
theorem lw_c0 (hJ : JI sh row) (hi : i + 3 ≤ zgL G) (hL : zgL G < 1000000) (kk : ∀ r2, JI sh r2 → zX G K fLw 0 818 12372 sh r2 477 [.ref 0, .ref 1, .ref 797, .int (nI i)] []) : zX G K fLw 0 818 12372 sh row 116 [.ref 0, .ref 1, .ref 797, .int (nI i)] [] := by
  refine zx_aload_n dL_law_116 rfl ?_
  refine zx_aload_n dL_law_117 rfl ?_
  refine zx_iload_n dL_law_118 rfl ?_
  refine zx_iconst (v := nI 1) dL_law_119 (by decide) ?_
  refine zn_iadd dL_law_120 ?_
  refine zx_sld dL_law_121 (vp_in_nI (by omega) (zL31 (by omega))) ?_
  refine zx_i2c dL_law_122 (pk_char _) ?_
  obtain ⟨Qx, hx, hk⟩ := o_type (G := G) (d := 39) (n := 0 + 818) (k := (zxs G (nI (i + 1)).toNatClampNeg).toBitVec.toNat % 65536) hJ (by decide) (Nat.mod_lt _ (by decide))
  refine zc_Q hx (meX_type _) lkL_13 hJ.x rfl rfl (Nat.le_refl _) (Nat.le_of_ble_eq_true rfl) rfl rfl (Nat.le_of_ble_eq_true rfl) (Nat.le_of_ble_eq_true rfl) (Nat.le_of_ble_eq_true rfl) dL_law_123 (fun r sh1 r1 hq => ?_)
  obtain ⟨e, w, Qm, e2, hm, hk2⟩ := hk _ _ _ hq
  rw [e, e2]
  show zX G K fLw 0 818 12372 sh r1 126 [.ref 0, .ref 1, .ref 797, .int (nI i)] [.int w]
  refine zx_aload_n dL_law_126 rfl ?_
  refine zx_aload_n dL_law_127 rfl ?_
  refine zx_iload_n dL_law_128 rfl ?_
  refine zx_iconst (v := nI 1) dL_law_129 (by decide) ?_
  refine zn_iadd dL_law_130 ?_
  refine zx_sld dL_law_131 (vp_in_nI (by omega) (zL31 (by omega))) ?_
  refine zx_i2c dL_law_132 (pk_char _) ?_
  refine zc_Q hm (meM_type _) lkL_17 hJ.m rfl rfl (Nat.le_refl _) (Nat.le_of_ble_eq_true rfl) rfl rfl (Nat.le_of_ble_eq_true rfl) (Nat.le_of_ble_eq_true rfl) (Nat.le_of_ble_eq_true rfl) dL_law_133 (fun r sh2 r2 hq2 => ?_)
  obtain ⟨e3, e4, hJ2⟩ := hk2 _ _ _ hq2
  rw [e3, e4]
  show zX G K fLw 0 818 12372 sh r2 136 [.ref 0, .ref 1, .ref 797, .int (nI i)] [.int w, .int w]
  refine zx_icmp_eq (tgt := 477) dL_law_136 rfl (fun _ => ?_) (fun h => absurd rfl h)
  exact kk r2 hJ2
set_option maxHeartbeats 4000000 in
set_option maxRecDepth 100000 in
theorem lw_c1 (hJ : JI sh row) (hi : i + 3 ≤ zgL G) (hL : zgL G < 1000000) (kk : ∀ r2, JI sh r2 → zX G K fLw 0 818 12372 sh r2 477 [.ref 0, .ref 1, .ref 797, .int (nI i)] []) : zX G K fLw 0 818 12372 sh row 141 [.ref 0, .ref 1, .ref 797, .int (nI i)] [] := by
  refine zx_aload_n dL_law_141 rfl ?_
  refine zx_aload_n dL_law_142 rfl ?_
  refine zx_iload_n dL_law_143 rfl ?_
  refine zx_iconst (v := nI 1) dL_law_144 (by decide) ?_
  refine zn_iadd dL_law_145 ?_
  refine zx_sld dL_law_146 (vp_in_nI (by omega) (zL31 (by omega))) ?_
  obtain ⟨Qx, hx, hk⟩ := o_quoteV (G := G) (d := 39) (n := 0 + 818) (v := zxs G (nI (i + 1)).toNatClampNeg) hJ (by decide)
  refine zc_Q hx (meX_quote _) lkL_18 hJ.x rfl rfl (Nat.le_refl _) (Nat.le_of_ble_eq_true rfl) rfl rfl (Nat.le_of_ble_eq_true rfl) (Nat.le_of_ble_eq_true rfl) (Nat.le_of_ble_eq_true rfl) dL_law_147 (fun r sh1 r1 hq => ?_)
  obtain ⟨e, w, Qm, e2, hm, hk2⟩ := hk _ _ _ hq
  rw [e, e2]
  show zX G K fLw 0 818 12372 sh r1 150 [.ref 0, .ref 1, .ref 797, .int (nI i)] [.int w]
  refine zx_aload_n dL_law_150 rfl ?_
  refine zx_aload_n dL_law_151 rfl ?_
  refine zx_iload_n dL_law_152 rfl ?_
  refine zx_iconst (v := nI 1) dL_law_153 (by decide) ?_
  refine zn_iadd dL_law_154 ?_
  refine zx_sld dL_law_155 (vp_in_nI (by omega) (zL31 (by omega))) ?_
  refine zc_Q hm (meM_quote _) lkL_22 hJ.m rfl rfl (Nat.le_refl _) (Nat.le_of_ble_eq_true rfl) rfl rfl (Nat.le_of_ble_eq_true rfl) (Nat.le_of_ble_eq_true rfl) (Nat.le_of_ble_eq_true rfl) dL_law_156 (fun r sh2 r2 hq2 => ?_)
  obtain ⟨e3, e4, hJ2⟩ := hk2 _ _ _ hq2
  rw [e3, e4]
  show zX G K fLw 0 818 12372 sh r2 159 [.ref 0, .ref 1, .ref 797, .int (nI i)] [.int w, .int w]
  refine zx_icmp_eq (tgt := 477) dL_law_159 rfl (fun _ => ?_) (fun h => absurd rfl h)
  exact kk r2 hJ2
set_option maxHeartbeats 4000000 in
set_option maxRecDepth 100000 in
theorem lw_c2 (hJ : JI sh row) (hi : i + 3 ≤ zgL G) (hL : zgL G < 1000000) (kk : ∀ r2, JI sh r2 → zX G K fLw 0 818 12372 sh r2 477 [.ref 0, .ref 1, .ref 797, .int (nI i)] []) : zX G K fLw 0 818 12372 sh row 164 [.ref 0, .ref 1, .ref 797, .int (nI i)] [] := by
  refine zx_aload_n dL_law_164 rfl ?_
  obtain ⟨Qx, hx, hk⟩ := o_clear (G := G) (d := 39) (n := 0 + 818) hJ (by decide)
  refine zc_Q hx (meX_clear _) lkL_23 hJ.x rfl rfl (Nat.le_refl _) (Nat.le_of_ble_eq_true rfl) rfl rfl (Nat.le_of_ble_eq_true rfl) (Nat.le_of_ble_eq_true rfl) (Nat.le_of_ble_eq_true rfl) dL_law_165 (fun r sh1 r1 hq => ?_)
  obtain ⟨e, e2, Qm, hm, hk2⟩ := hk _ _ _ hq
  rw [e, e2]
  show zX G K fLw 0 818 12372 sh r1 168 [.ref 0, .ref 1, .ref 797, .int (nI i)] []
  refine zx_aload_n dL_law_168 rfl ?_
  refine zc_Q hm (meM_clear _) lkL_26 hJ.m rfl rfl (Nat.le_refl _) (Nat.le_of_ble_eq_true rfl) rfl rfl (Nat.le_of_ble_eq_true rfl) (Nat.le_of_ble_eq_true rfl) (Nat.le_of_ble_eq_true rfl) dL_law_169 (fun r sh2 r2 hq2 => ?_)
  obtain ⟨e3, e4, hJ2⟩ := hk2 _ _ _ hq2
  rw [e3, e4]
  show zX G K fLw 0 818 12372 sh r2 172 [.ref 0, .ref 1, .ref 797, .int (nI i)] []
  refine zx_goto (tgt := 477) dL_law_172 rfl ?_
  exact kk r2 hJ2
set_option maxHeartbeats 4000000 in
set_option maxRecDepth 100000 in
theorem lw_c3 (hJ : JI sh row) (hi : i + 3 ≤ zgL G) (hL : zgL G < 1000000) (kk : ∀ r2, JI sh r2 → zX G K fLw 0 818 12372 sh r2 477 [.ref 0, .ref 1, .ref 797, .int (nI i)] []) : zX G K fLw 0 818 12372 sh row 175 [.ref 0, .ref 1, .ref 797, .int (nI i)] [] := by
  refine zx_aload_n dL_law_175 rfl ?_
  obtain ⟨Qx, hx, hk⟩ := o_length (G := G) (d := 39) (n := 0 + 818)  hJ (by decide)
  refine zc_Q hx (meX_length _) lkL_27 hJ.x rfl rfl (Nat.le_refl _) (Nat.le_of_ble_eq_true rfl) rfl rfl (Nat.le_of_ble_eq_true rfl) (Nat.le_of_ble_eq_true rfl) (Nat.le_of_ble_eq_true rfl) dL_law_176 (fun r sh1 r1 hq => ?_)
  obtain ⟨e, w, Qm, e2, hm, hk2⟩ := hk _ _ _ hq
  rw [e, e2]
  show zX G K fLw 0 818 12372 sh r1 179 [.ref 0, .ref 1, .ref 797, .int (nI i)] [.int w]
  refine zx_aload_n dL_law_179 rfl ?_
  refine zc_Q hm (meM_length _) lkL_31 hJ.m rfl rfl (Nat.le_refl _) (Nat.le_of_ble_eq_true rfl) rfl rfl (Nat.le_of_ble_eq_true rfl) (Nat.le_of_ble_eq_true rfl) (Nat.le_of_ble_eq_true rfl) dL_law_180 (fun r sh2 r2 hq2 => ?_)
  obtain ⟨e3, e4, hJ2⟩ := hk2 _ _ _ hq2
  rw [e3, e4]
  show zX G K fLw 0 818 12372 sh r2 183 [.ref 0, .ref 1, .ref 797, .int (nI i)] [.int w, .int w]
  refine zx_icmp_eq (tgt := 477) dL_law_183 rfl (fun _ => ?_) (fun h => absurd rfl h)
  exact kk r2 hJ2
set_option maxHeartbeats 4000000 in
set_option maxRecDepth 100000 in
theorem lw_c4 (hJ : JI sh row) (hi : i + 3 ≤ zgL G) (hL : zgL G < 1000000) (kk : ∀ r2, JI sh r2 → zX G K fLw 0 818 12372 sh r2 477 [.ref 0, .ref 1, .ref 797, .int (nI i)] []) : zX G K fLw 0 818 12372 sh row 188 [.ref 0, .ref 1, .ref 797, .int (nI i)] [] := by
  refine zx_aload_n dL_law_188 rfl ?_
  refine zx_aload_n dL_law_189 rfl ?_
  refine zx_iload_n dL_law_190 rfl ?_
  refine zx_iconst (v := nI 1) dL_law_191 (by decide) ?_
  refine zn_iadd dL_law_192 ?_
  refine zx_sld dL_law_193 (vp_in_nI (by omega) (zL31 (by omega))) ?_
  refine zx_aload_n dL_law_194 rfl ?_
  refine zx_iload_n dL_law_195 rfl ?_
  refine zx_iconst (v := nI 2) dL_law_196 (by decide) ?_
  refine zn_iadd dL_law_197 ?_
  refine zx_sld dL_law_198 (vp_in_nI (by omega) (zL31 (by omega))) ?_
  obtain ⟨Qx, hx, hk⟩ := o_post (G := G) (d := 39) (n := 0 + 818) (a := zxs G (nI (i + 1)).toNatClampNeg) (t := zxs G (nI (i + 2)).toNatClampNeg) hJ (by decide)
  refine zc_Q hx (meX_post _) lkL_32 hJ.x rfl rfl (Nat.le_refl _) (Nat.le_of_ble_eq_true rfl) rfl rfl (Nat.le_of_ble_eq_true rfl) (Nat.le_of_ble_eq_true rfl) (Nat.le_of_ble_eq_true rfl) dL_law_199 (fun r sh1 r1 hq => ?_)
  obtain ⟨e, w, Qm, e2, hm, hk2⟩ := hk _ _ _ hq
  rw [e, e2]
  show zX G K fLw 0 818 12372 sh r1 202 [.ref 0, .ref 1, .ref 797, .int (nI i)] [.int w]
  refine zx_aload_n dL_law_202 rfl ?_
  refine zx_aload_n dL_law_203 rfl ?_
  refine zx_iload_n dL_law_204 rfl ?_
  refine zx_iconst (v := nI 1) dL_law_205 (by decide) ?_
  refine zn_iadd dL_law_206 ?_
  refine zx_sld dL_law_207 (vp_in_nI (by omega) (zL31 (by omega))) ?_
  refine zx_aload_n dL_law_208 rfl ?_
  refine zx_iload_n dL_law_209 rfl ?_
  refine zx_iconst (v := nI 2) dL_law_210 (by decide) ?_
  refine zn_iadd dL_law_211 ?_
  refine zx_sld dL_law_212 (vp_in_nI (by omega) (zL31 (by omega))) ?_
  refine zc_Q hm (meM_post _) lkL_36 hJ.m rfl rfl (Nat.le_refl _) (Nat.le_of_ble_eq_true rfl) rfl rfl (Nat.le_of_ble_eq_true rfl) (Nat.le_of_ble_eq_true rfl) (Nat.le_of_ble_eq_true rfl) dL_law_213 (fun r sh2 r2 hq2 => ?_)
  obtain ⟨e3, e4, hJ2⟩ := hk2 _ _ _ hq2
  rw [e3, e4]
  show zX G K fLw 0 818 12372 sh r2 216 [.ref 0, .ref 1, .ref 797, .int (nI i)] [.int w, .int w]
  refine zx_icmp_eq (tgt := 477) dL_law_216 rfl (fun _ => ?_) (fun h => absurd rfl h)
  exact kk r2 hJ2
set_option maxHeartbeats 4000000 in
set_option maxRecDepth 100000 in
theorem lw_c5 (hJ : JI sh row) (hi : i + 3 ≤ zgL G) (hL : zgL G < 1000000) (kk : ∀ r2, JI sh r2 → zX G K fLw 0 818 12372 sh r2 477 [.ref 0, .ref 1, .ref 797, .int (nI i)] []) : zX G K fLw 0 818 12372 sh row 221 [.ref 0, .ref 1, .ref 797, .int (nI i)] [] := by
  refine zx_aload_n dL_law_221 rfl ?_
  refine zx_aload_n dL_law_222 rfl ?_
  refine zx_iload_n dL_law_223 rfl ?_
  refine zx_iconst (v := nI 1) dL_law_224 (by decide) ?_
  refine zn_iadd dL_law_225 ?_
  refine zx_sld dL_law_226 (vp_in_nI (by omega) (zL31 (by omega))) ?_
  obtain ⟨Qx, hx, hk⟩ := o_write (G := G) (d := 39) (n := 0 + 818) (v := zxs G (nI (i + 1)).toNatClampNeg) hJ (by decide)
  refine zc_Q hx (meX_write _) lkL_37 hJ.x rfl rfl (Nat.le_refl _) (Nat.le_of_ble_eq_true rfl) rfl rfl (Nat.le_of_ble_eq_true rfl) (Nat.le_of_ble_eq_true rfl) (Nat.le_of_ble_eq_true rfl) dL_law_227 (fun r sh1 r1 hq => ?_)
  obtain ⟨e, w, Qm, e2, hm, hk2⟩ := hk _ _ _ hq
  rw [e, e2]
  show zX G K fLw 0 818 12372 sh r1 230 [.ref 0, .ref 1, .ref 797, .int (nI i)] [.int w]
  refine zx_aload_n dL_law_230 rfl ?_
  refine zx_aload_n dL_law_231 rfl ?_
  refine zx_iload_n dL_law_232 rfl ?_
  refine zx_iconst (v := nI 1) dL_law_233 (by decide) ?_
  refine zn_iadd dL_law_234 ?_
  refine zx_sld dL_law_235 (vp_in_nI (by omega) (zL31 (by omega))) ?_
  refine zc_Q hm (meM_write _) lkL_40 hJ.m rfl rfl (Nat.le_refl _) (Nat.le_of_ble_eq_true rfl) rfl rfl (Nat.le_of_ble_eq_true rfl) (Nat.le_of_ble_eq_true rfl) (Nat.le_of_ble_eq_true rfl) dL_law_236 (fun r sh2 r2 hq2 => ?_)
  obtain ⟨e3, e4, hJ2⟩ := hk2 _ _ _ hq2
  rw [e3, e4]
  show zX G K fLw 0 818 12372 sh r2 239 [.ref 0, .ref 1, .ref 797, .int (nI i)] [.int w, .int w]
  refine zx_icmp_eq (tgt := 477) dL_law_239 rfl (fun _ => ?_) (fun h => absurd rfl h)
  exact kk r2 hJ2
set_option maxHeartbeats 4000000 in
set_option maxRecDepth 100000 in
theorem lw_c6 (hJ : JI sh row) (hi : i + 3 ≤ zgL G) (hL : zgL G < 1000000) (kk : ∀ r2, JI sh r2 → zX G K fLw 0 818 12372 sh r2 477 [.ref 0, .ref 1, .ref 797, .int (nI i)] []) : zX G K fLw 0 818 12372 sh row 244 [.ref 0, .ref 1, .ref 797, .int (nI i)] [] := by
  refine zx_aload_n dL_law_244 rfl ?_
  obtain ⟨Qx, hx, hk⟩ := o_published (G := G) (d := 39) (n := 0 + 818)  hJ (by decide)
  refine zc_Q hx (meX_published _) lkL_41 hJ.x rfl rfl (Nat.le_refl _) (Nat.le_of_ble_eq_true rfl) rfl rfl (Nat.le_of_ble_eq_true rfl) (Nat.le_of_ble_eq_true rfl) (Nat.le_of_ble_eq_true rfl) dL_law_245 (fun r sh1 r1 hq => ?_)
  obtain ⟨e, w, Qm, e2, hm, hk2⟩ := hk _ _ _ hq
  rw [e, e2]
  show zX G K fLw 0 818 12372 sh r1 248 [.ref 0, .ref 1, .ref 797, .int (nI i)] [.int w]
  refine zx_aload_n dL_law_248 rfl ?_
  refine zc_Q hm (meM_published _) lkL_44 hJ.m rfl rfl (Nat.le_refl _) (Nat.le_of_ble_eq_true rfl) rfl rfl (Nat.le_of_ble_eq_true rfl) (Nat.le_of_ble_eq_true rfl) (Nat.le_of_ble_eq_true rfl) dL_law_249 (fun r sh2 r2 hq2 => ?_)
  obtain ⟨e3, e4, hJ2⟩ := hk2 _ _ _ hq2
  rw [e3, e4]
  show zX G K fLw 0 818 12372 sh r2 252 [.ref 0, .ref 1, .ref 797, .int (nI i)] [.int w, .int w]
  refine zx_icmp_eq (tgt := 477) dL_law_252 rfl (fun _ => ?_) (fun h => absurd rfl h)
  exact kk r2 hJ2
set_option maxHeartbeats 4000000 in
set_option maxRecDepth 100000 in
theorem lw_c7 (hJ : JI sh row) (hi : i + 3 ≤ zgL G) (hL : zgL G < 1000000) (kk : ∀ r2, JI sh r2 → zX G K fLw 0 818 12372 sh r2 477 [.ref 0, .ref 1, .ref 797, .int (nI i)] []) : zX G K fLw 0 818 12372 sh row 257 [.ref 0, .ref 1, .ref 797, .int (nI i)] [] := by
  refine zx_aload_n dL_law_257 rfl ?_
  refine zx_aload_n dL_law_258 rfl ?_
  refine zx_iload_n dL_law_259 rfl ?_
  refine zx_iconst (v := nI 1) dL_law_260 (by decide) ?_
  refine zn_iadd dL_law_261 ?_
  refine zx_sld dL_law_262 (vp_in_nI (by omega) (zL31 (by omega))) ?_
  obtain ⟨Qx, hx, hk⟩ := o_eraseV (G := G) (d := 39) (n := 0 + 818) (v := zxs G (nI (i + 1)).toNatClampNeg) hJ (by decide)
  refine zc_Q hx (meX_erase _) lkL_45 hJ.x rfl rfl (Nat.le_refl _) (Nat.le_of_ble_eq_true rfl) rfl rfl (Nat.le_of_ble_eq_true rfl) (Nat.le_of_ble_eq_true rfl) (Nat.le_of_ble_eq_true rfl) dL_law_263 (fun r sh1 r1 hq => ?_)
  obtain ⟨e, w, Qm, e2, hm, hk2⟩ := hk _ _ _ hq
  rw [e, e2]
  show zX G K fLw 0 818 12372 sh r1 266 [.ref 0, .ref 1, .ref 797, .int (nI i)] [.int w]
  refine zx_aload_n dL_law_266 rfl ?_
  refine zx_aload_n dL_law_267 rfl ?_
  refine zx_iload_n dL_law_268 rfl ?_
  refine zx_iconst (v := nI 1) dL_law_269 (by decide) ?_
  refine zn_iadd dL_law_270 ?_
  refine zx_sld dL_law_271 (vp_in_nI (by omega) (zL31 (by omega))) ?_
  refine zc_Q hm (meM_erase _) lkL_49 hJ.m rfl rfl (Nat.le_refl _) (Nat.le_of_ble_eq_true rfl) rfl rfl (Nat.le_of_ble_eq_true rfl) (Nat.le_of_ble_eq_true rfl) (Nat.le_of_ble_eq_true rfl) dL_law_272 (fun r sh2 r2 hq2 => ?_)
  obtain ⟨e3, e4, hJ2⟩ := hk2 _ _ _ hq2
  rw [e3, e4]
  show zX G K fLw 0 818 12372 sh r2 275 [.ref 0, .ref 1, .ref 797, .int (nI i)] [.int w, .int w]
  refine zx_icmp_eq (tgt := 477) dL_law_275 rfl (fun _ => ?_) (fun h => absurd rfl h)
  exact kk r2 hJ2
set_option maxHeartbeats 4000000 in
set_option maxRecDepth 100000 in
theorem lw_c8 (hJ : JI sh row) (hi : i + 3 ≤ zgL G) (hL : zgL G < 1000000) (kk : ∀ r2, JI sh r2 → zX G K fLw 0 818 12372 sh r2 477 [.ref 0, .ref 1, .ref 797, .int (nI i)] []) : zX G K fLw 0 818 12372 sh row 280 [.ref 0, .ref 1, .ref 797, .int (nI i)] [] := by
  refine zx_aload_n dL_law_280 rfl ?_
  refine zx_aload_n dL_law_281 rfl ?_
  refine zx_iload_n dL_law_282 rfl ?_
  refine zx_iconst (v := nI 1) dL_law_283 (by decide) ?_
  refine zn_iadd dL_law_284 ?_
  refine zx_sld dL_law_285 (vp_in_nI (by omega) (zL31 (by omega))) ?_
  obtain ⟨Qx, hx, hk⟩ := o_pack (G := G) (d := 39) (n := 0 + 818) (v := zxs G (nI (i + 1)).toNatClampNeg) hJ (by decide)
  refine zc_Q hx (meX_pack _) lkL_50 hJ.x rfl rfl (Nat.le_refl _) (Nat.le_of_ble_eq_true rfl) rfl rfl (Nat.le_of_ble_eq_true rfl) (Nat.le_of_ble_eq_true rfl) (Nat.le_of_ble_eq_true rfl) dL_law_286 (fun r sh1 r1 hq => ?_)
  obtain ⟨e, w, Qm, e2, hm, hk2⟩ := hk _ _ _ hq
  rw [e, e2]
  show zX G K fLw 0 818 12372 sh r1 289 [.ref 0, .ref 1, .ref 797, .int (nI i)] [.int w]
  refine zx_aload_n dL_law_289 rfl ?_
  refine zx_aload_n dL_law_290 rfl ?_
  refine zx_iload_n dL_law_291 rfl ?_
  refine zx_iconst (v := nI 1) dL_law_292 (by decide) ?_
  refine zn_iadd dL_law_293 ?_
  refine zx_sld dL_law_294 (vp_in_nI (by omega) (zL31 (by omega))) ?_
  refine zc_Q hm (meM_pack _) lkL_53 hJ.m rfl rfl (Nat.le_refl _) (Nat.le_of_ble_eq_true rfl) rfl rfl (Nat.le_of_ble_eq_true rfl) (Nat.le_of_ble_eq_true rfl) (Nat.le_of_ble_eq_true rfl) dL_law_295 (fun r sh2 r2 hq2 => ?_)
  obtain ⟨e3, e4, hJ2⟩ := hk2 _ _ _ hq2
  rw [e3, e4]
  show zX G K fLw 0 818 12372 sh r2 298 [.ref 0, .ref 1, .ref 797, .int (nI i)] [.int w, .int w]
  refine zx_icmp_eq (tgt := 477) dL_law_298 rfl (fun _ => ?_) (fun h => absurd rfl h)
  exact kk r2 hJ2
set_option maxHeartbeats 4000000 in
set_option maxRecDepth 100000 in
theorem lw_c9 (hJ : JI sh row) (hi : i + 3 ≤ zgL G) (hL : zgL G < 1000000) (kk : ∀ r2, JI sh r2 → zX G K fLw 0 818 12372 sh r2 477 [.ref 0, .ref 1, .ref 797, .int (nI i)] []) : zX G K fLw 0 818 12372 sh row 303 [.ref 0, .ref 1, .ref 797, .int (nI i)] [] := by
  refine zx_aload_n dL_law_303 rfl ?_
  obtain ⟨Qx, hx, hk⟩ := o_search (G := G) (d := 39) (n := 0 + 818)  hJ (by decide)
  refine zc_Q hx (meX_search _) lkL_54 hJ.x rfl rfl (Nat.le_refl _) (Nat.le_of_ble_eq_true rfl) rfl rfl (Nat.le_of_ble_eq_true rfl) (Nat.le_of_ble_eq_true rfl) (Nat.le_of_ble_eq_true rfl) dL_law_304 (fun r sh1 r1 hq => ?_)
  obtain ⟨e, w, Qm, e2, hm, hk2⟩ := hk _ _ _ hq
  rw [e, e2]
  show zX G K fLw 0 818 12372 sh r1 307 [.ref 0, .ref 1, .ref 797, .int (nI i)] [.int w]
  refine zx_aload_n dL_law_307 rfl ?_
  refine zc_Q hm (meM_search _) lkL_57 hJ.m rfl rfl (Nat.le_refl _) (Nat.le_of_ble_eq_true rfl) rfl rfl (Nat.le_of_ble_eq_true rfl) (Nat.le_of_ble_eq_true rfl) (Nat.le_of_ble_eq_true rfl) dL_law_308 (fun r sh2 r2 hq2 => ?_)
  obtain ⟨e3, e4, hJ2⟩ := hk2 _ _ _ hq2
  rw [e3, e4]
  show zX G K fLw 0 818 12372 sh r2 311 [.ref 0, .ref 1, .ref 797, .int (nI i)] [.int w, .int w]
  refine zx_icmp_eq (tgt := 477) dL_law_311 rfl (fun _ => ?_) (fun h => absurd rfl h)
  exact kk r2 hJ2
set_option maxHeartbeats 4000000 in
set_option maxRecDepth 100000 in
theorem lw_c10 (hJ : JI sh row) (hi : i + 3 ≤ zgL G) (hL : zgL G < 1000000) (kk : ∀ r2, JI sh r2 → zX G K fLw 0 818 12372 sh r2 477 [.ref 0, .ref 1, .ref 797, .int (nI i)] []) : zX G K fLw 0 818 12372 sh row 316 [.ref 0, .ref 1, .ref 797, .int (nI i)] [] := by
  refine zx_aload_n dL_law_316 rfl ?_
  refine zx_aload_n dL_law_317 rfl ?_
  refine zx_iload_n dL_law_318 rfl ?_
  refine zx_iconst (v := nI 1) dL_law_319 (by decide) ?_
  refine zn_iadd dL_law_320 ?_
  refine zx_sld dL_law_321 (vp_in_nI (by omega) (zL31 (by omega))) ?_
  obtain ⟨Qx, hx, hk⟩ := o_nextV (G := G) (d := 39) (n := 0 + 818) (v := zxs G (nI (i + 1)).toNatClampNeg) hJ (by decide)
  refine zc_Q hx (meX_next _) lkL_58 hJ.x rfl rfl (Nat.le_refl _) (Nat.le_of_ble_eq_true rfl) rfl rfl (Nat.le_of_ble_eq_true rfl) (Nat.le_of_ble_eq_true rfl) (Nat.le_of_ble_eq_true rfl) dL_law_322 (fun r sh1 r1 hq => ?_)
  obtain ⟨e, w, Qm, e2, hm, hk2⟩ := hk _ _ _ hq
  rw [e, e2]
  show zX G K fLw 0 818 12372 sh r1 325 [.ref 0, .ref 1, .ref 797, .int (nI i)] [.int w]
  refine zx_aload_n dL_law_325 rfl ?_
  refine zx_aload_n dL_law_326 rfl ?_
  refine zx_iload_n dL_law_327 rfl ?_
  refine zx_iconst (v := nI 1) dL_law_328 (by decide) ?_
  refine zn_iadd dL_law_329 ?_
  refine zx_sld dL_law_330 (vp_in_nI (by omega) (zL31 (by omega))) ?_
  refine zc_Q hm (meM_next _) lkL_61 hJ.m rfl rfl (Nat.le_refl _) (Nat.le_of_ble_eq_true rfl) rfl rfl (Nat.le_of_ble_eq_true rfl) (Nat.le_of_ble_eq_true rfl) (Nat.le_of_ble_eq_true rfl) dL_law_331 (fun r sh2 r2 hq2 => ?_)
  obtain ⟨e3, e4, hJ2⟩ := hk2 _ _ _ hq2
  rw [e3, e4]
  show zX G K fLw 0 818 12372 sh r2 334 [.ref 0, .ref 1, .ref 797, .int (nI i)] [.int w, .int w]
  refine zx_icmp_eq (tgt := 477) dL_law_334 rfl (fun _ => ?_) (fun h => absurd rfl h)
  exact kk r2 hJ2
set_option maxHeartbeats 4000000 in
set_option maxRecDepth 100000 in
theorem lw_c11 (hJ : JI sh row) (hi : i + 3 ≤ zgL G) (hL : zgL G < 1000000) (kk : ∀ r2, JI sh r2 → zX G K fLw 0 818 12372 sh r2 477 [.ref 0, .ref 1, .ref 797, .int (nI i)] []) : zX G K fLw 0 818 12372 sh row 339 [.ref 0, .ref 1, .ref 797, .int (nI i)] [] := by
  refine zx_aload_n dL_law_339 rfl ?_
  refine zx_aload_n dL_law_340 rfl ?_
  refine zx_iload_n dL_law_341 rfl ?_
  refine zx_iconst (v := nI 1) dL_law_342 (by decide) ?_
  refine zn_iadd dL_law_343 ?_
  refine zx_sld dL_law_344 (vp_in_nI (by omega) (zL31 (by omega))) ?_
  obtain ⟨Qx, hx, hk⟩ := o_leftV (G := G) (d := 39) (n := 0 + 818) (v := zxs G (nI (i + 1)).toNatClampNeg) hJ (by decide)
  refine zc_Q hx (meX_left _) lkL_62 hJ.x rfl rfl (Nat.le_refl _) (Nat.le_of_ble_eq_true rfl) rfl rfl (Nat.le_of_ble_eq_true rfl) (Nat.le_of_ble_eq_true rfl) (Nat.le_of_ble_eq_true rfl) dL_law_345 (fun r sh1 r1 hq => ?_)
  obtain ⟨e, w, Qm, e2, hm, hk2⟩ := hk _ _ _ hq
  rw [e, e2]
  show zX G K fLw 0 818 12372 sh r1 348 [.ref 0, .ref 1, .ref 797, .int (nI i)] [.int w]
  refine zx_aload_n dL_law_348 rfl ?_
  refine zx_aload_n dL_law_349 rfl ?_
  refine zx_iload_n dL_law_350 rfl ?_
  refine zx_iconst (v := nI 1) dL_law_351 (by decide) ?_
  refine zn_iadd dL_law_352 ?_
  refine zx_sld dL_law_353 (vp_in_nI (by omega) (zL31 (by omega))) ?_
  refine zc_Q hm (meM_left _) lkL_65 hJ.m rfl rfl (Nat.le_refl _) (Nat.le_of_ble_eq_true rfl) rfl rfl (Nat.le_of_ble_eq_true rfl) (Nat.le_of_ble_eq_true rfl) (Nat.le_of_ble_eq_true rfl) dL_law_354 (fun r sh2 r2 hq2 => ?_)
  obtain ⟨e3, e4, hJ2⟩ := hk2 _ _ _ hq2
  rw [e3, e4]
  show zX G K fLw 0 818 12372 sh r2 357 [.ref 0, .ref 1, .ref 797, .int (nI i)] [.int w, .int w]
  refine zx_icmp_eq (tgt := 477) dL_law_357 rfl (fun _ => ?_) (fun h => absurd rfl h)
  exact kk r2 hJ2
set_option maxHeartbeats 4000000 in
set_option maxRecDepth 100000 in
theorem lw_c12 (hJ : JI sh row) (hi : i + 3 ≤ zgL G) (hL : zgL G < 1000000) (kk : ∀ r2, JI sh r2 → zX G K fLw 0 818 12372 sh r2 477 [.ref 0, .ref 1, .ref 797, .int (nI i)] []) : zX G K fLw 0 818 12372 sh row 362 [.ref 0, .ref 1, .ref 797, .int (nI i)] [] := by
  refine zx_aload_n dL_law_362 rfl ?_
  refine zx_aload_n dL_law_363 rfl ?_
  refine zx_iload_n dL_law_364 rfl ?_
  refine zx_iconst (v := nI 1) dL_law_365 (by decide) ?_
  refine zn_iadd dL_law_366 ?_
  refine zx_sld dL_law_367 (vp_in_nI (by omega) (zL31 (by omega))) ?_
  obtain ⟨Qx, hx, hk⟩ := o_closeV (G := G) (d := 39) (n := 0 + 818) (v := zxs G (nI (i + 1)).toNatClampNeg) hJ (by decide)
  refine zc_Q hx (meX_close _) lkL_66 hJ.x rfl rfl (Nat.le_refl _) (Nat.le_of_ble_eq_true rfl) rfl rfl (Nat.le_of_ble_eq_true rfl) (Nat.le_of_ble_eq_true rfl) (Nat.le_of_ble_eq_true rfl) dL_law_368 (fun r sh1 r1 hq => ?_)
  obtain ⟨e, w, Qm, e2, hm, hk2⟩ := hk _ _ _ hq
  rw [e, e2]
  show zX G K fLw 0 818 12372 sh r1 371 [.ref 0, .ref 1, .ref 797, .int (nI i)] [.int w]
  refine zx_aload_n dL_law_371 rfl ?_
  refine zx_aload_n dL_law_372 rfl ?_
  refine zx_iload_n dL_law_373 rfl ?_
  refine zx_iconst (v := nI 1) dL_law_374 (by decide) ?_
  refine zn_iadd dL_law_375 ?_
  refine zx_sld dL_law_376 (vp_in_nI (by omega) (zL31 (by omega))) ?_
  refine zc_Q hm (meM_close _) lkL_69 hJ.m rfl rfl (Nat.le_refl _) (Nat.le_of_ble_eq_true rfl) rfl rfl (Nat.le_of_ble_eq_true rfl) (Nat.le_of_ble_eq_true rfl) (Nat.le_of_ble_eq_true rfl) dL_law_377 (fun r sh2 r2 hq2 => ?_)
  obtain ⟨e3, e4, hJ2⟩ := hk2 _ _ _ hq2
  rw [e3, e4]
  show zX G K fLw 0 818 12372 sh r2 380 [.ref 0, .ref 1, .ref 797, .int (nI i)] [.int w, .int w]
  refine zx_icmp_eq (tgt := 477) dL_law_380 rfl (fun _ => ?_) (fun h => absurd rfl h)
  exact kk r2 hJ2
set_option maxHeartbeats 4000000 in
set_option maxRecDepth 100000 in
theorem lw_c13 (hJ : JI sh row) (hi : i + 3 ≤ zgL G) (hL : zgL G < 1000000) (kk : ∀ r2, JI sh r2 → zX G K fLw 0 818 12372 sh r2 477 [.ref 0, .ref 1, .ref 797, .int (nI i)] []) : zX G K fLw 0 818 12372 sh row 385 [.ref 0, .ref 1, .ref 797, .int (nI i)] [] := by
  refine zx_aload_n dL_law_385 rfl ?_
  refine zx_aload_n dL_law_386 rfl ?_
  refine zx_iload_n dL_law_387 rfl ?_
  refine zx_iconst (v := nI 1) dL_law_388 (by decide) ?_
  refine zn_iadd dL_law_389 ?_
  refine zx_sld dL_law_390 (vp_in_nI (by omega) (zL31 (by omega))) ?_
  obtain ⟨Qx, hx, hk⟩ := o_formV (G := G) (d := 39) (n := 0 + 818) (v := zxs G (nI (i + 1)).toNatClampNeg) hJ (by decide)
  refine zc_Q hx (meX_form _) lkL_70 hJ.x rfl rfl (Nat.le_refl _) (Nat.le_of_ble_eq_true rfl) rfl rfl (Nat.le_of_ble_eq_true rfl) (Nat.le_of_ble_eq_true rfl) (Nat.le_of_ble_eq_true rfl) dL_law_391 (fun r sh1 r1 hq => ?_)
  obtain ⟨e, w, Qm, e2, hm, hk2⟩ := hk _ _ _ hq
  rw [e, e2]
  show zX G K fLw 0 818 12372 sh r1 394 [.ref 0, .ref 1, .ref 797, .int (nI i)] [.int w]
  refine zx_aload_n dL_law_394 rfl ?_
  refine zx_aload_n dL_law_395 rfl ?_
  refine zx_iload_n dL_law_396 rfl ?_
  refine zx_iconst (v := nI 1) dL_law_397 (by decide) ?_
  refine zn_iadd dL_law_398 ?_
  refine zx_sld dL_law_399 (vp_in_nI (by omega) (zL31 (by omega))) ?_
  refine zc_Q hm (meM_form _) lkL_73 hJ.m rfl rfl (Nat.le_refl _) (Nat.le_of_ble_eq_true rfl) rfl rfl (Nat.le_of_ble_eq_true rfl) (Nat.le_of_ble_eq_true rfl) (Nat.le_of_ble_eq_true rfl) dL_law_400 (fun r sh2 r2 hq2 => ?_)
  obtain ⟨e3, e4, hJ2⟩ := hk2 _ _ _ hq2
  rw [e3, e4]
  show zX G K fLw 0 818 12372 sh r2 403 [.ref 0, .ref 1, .ref 797, .int (nI i)] [.int w, .int w]
  refine zx_icmp_eq (tgt := 477) dL_law_403 rfl (fun _ => ?_) (fun h => absurd rfl h)
  exact kk r2 hJ2
set_option maxHeartbeats 4000000 in
set_option maxRecDepth 100000 in
theorem lw_c14 (hJ : JI sh row) (hi : i + 3 ≤ zgL G) (hL : zgL G < 1000000) (kk : ∀ r2, JI sh r2 → zX G K fLw 0 818 12372 sh r2 477 [.ref 0, .ref 1, .ref 797, .int (nI i)] []) : zX G K fLw 0 818 12372 sh row 408 [.ref 0, .ref 1, .ref 797, .int (nI i)] [] := by
  refine zx_aload_n dL_law_408 rfl ?_
  refine zx_aload_n dL_law_409 rfl ?_
  refine zx_iload_n dL_law_410 rfl ?_
  refine zx_iconst (v := nI 1) dL_law_411 (by decide) ?_
  refine zn_iadd dL_law_412 ?_
  refine zx_sld dL_law_413 (vp_in_nI (by omega) (zL31 (by omega))) ?_
  obtain ⟨Qx, hx, hk⟩ := o_sizeV (G := G) (d := 39) (n := 0 + 818) (v := zxs G (nI (i + 1)).toNatClampNeg) hJ (by decide)
  refine zc_Q hx (meX_size _) lkL_74 hJ.x rfl rfl (Nat.le_refl _) (Nat.le_of_ble_eq_true rfl) rfl rfl (Nat.le_of_ble_eq_true rfl) (Nat.le_of_ble_eq_true rfl) (Nat.le_of_ble_eq_true rfl) dL_law_414 (fun r sh1 r1 hq => ?_)
  obtain ⟨e, w, Qm, e2, hm, hk2⟩ := hk _ _ _ hq
  rw [e, e2]
  show zX G K fLw 0 818 12372 sh r1 417 [.ref 0, .ref 1, .ref 797, .int (nI i)] [.int w]
  refine zx_aload_n dL_law_417 rfl ?_
  refine zx_aload_n dL_law_418 rfl ?_
  refine zx_iload_n dL_law_419 rfl ?_
  refine zx_iconst (v := nI 1) dL_law_420 (by decide) ?_
  refine zn_iadd dL_law_421 ?_
  refine zx_sld dL_law_422 (vp_in_nI (by omega) (zL31 (by omega))) ?_
  refine zc_Q hm (meM_size _) lkL_77 hJ.m rfl rfl (Nat.le_refl _) (Nat.le_of_ble_eq_true rfl) rfl rfl (Nat.le_of_ble_eq_true rfl) (Nat.le_of_ble_eq_true rfl) (Nat.le_of_ble_eq_true rfl) dL_law_423 (fun r sh2 r2 hq2 => ?_)
  obtain ⟨e3, e4, hJ2⟩ := hk2 _ _ _ hq2
  rw [e3, e4]
  show zX G K fLw 0 818 12372 sh r2 426 [.ref 0, .ref 1, .ref 797, .int (nI i)] [.int w, .int w]
  refine zx_icmp_eq (tgt := 477) dL_law_426 rfl (fun _ => ?_) (fun h => absurd rfl h)
  exact kk r2 hJ2
set_option maxHeartbeats 4000000 in
set_option maxRecDepth 100000 in
theorem lw_c15 (hJ : JI sh row) (hi : i + 3 ≤ zgL G) (hL : zgL G < 1000000) (kk : ∀ r2, JI sh r2 → zX G K fLw 0 818 12372 sh r2 477 [.ref 0, .ref 1, .ref 797, .int (nI i)] []) : zX G K fLw 0 818 12372 sh row 431 [.ref 0, .ref 1, .ref 797, .int (nI i)] [] := by
  refine zx_aload_n dL_law_431 rfl ?_
  refine zx_aload_n dL_law_432 rfl ?_
  refine zx_iload_n dL_law_433 rfl ?_
  refine zx_iconst (v := nI 1) dL_law_434 (by decide) ?_
  refine zn_iadd dL_law_435 ?_
  refine zx_sld dL_law_436 (vp_in_nI (by omega) (zL31 (by omega))) ?_
  obtain ⟨Qx, hx, hk⟩ := o_termsV (G := G) (d := 39) (n := 0 + 818) (v := zxs G (nI (i + 1)).toNatClampNeg) hJ (by decide)
  refine zc_Q hx (meX_terms _) lkL_78 hJ.x rfl rfl (Nat.le_refl _) (Nat.le_of_ble_eq_true rfl) rfl rfl (Nat.le_of_ble_eq_true rfl) (Nat.le_of_ble_eq_true rfl) (Nat.le_of_ble_eq_true rfl) dL_law_437 (fun r sh1 r1 hq => ?_)
  obtain ⟨e, w, Qm, e2, hm, hk2⟩ := hk _ _ _ hq
  rw [e, e2]
  show zX G K fLw 0 818 12372 sh r1 440 [.ref 0, .ref 1, .ref 797, .int (nI i)] [.int w]
  refine zx_aload_n dL_law_440 rfl ?_
  refine zx_aload_n dL_law_441 rfl ?_
  refine zx_iload_n dL_law_442 rfl ?_
  refine zx_iconst (v := nI 1) dL_law_443 (by decide) ?_
  refine zn_iadd dL_law_444 ?_
  refine zx_sld dL_law_445 (vp_in_nI (by omega) (zL31 (by omega))) ?_
  refine zc_Q hm (meM_terms _) lkL_81 hJ.m rfl rfl (Nat.le_refl _) (Nat.le_of_ble_eq_true rfl) rfl rfl (Nat.le_of_ble_eq_true rfl) (Nat.le_of_ble_eq_true rfl) (Nat.le_of_ble_eq_true rfl) dL_law_446 (fun r sh2 r2 hq2 => ?_)
  obtain ⟨e3, e4, hJ2⟩ := hk2 _ _ _ hq2
  rw [e3, e4]
  show zX G K fLw 0 818 12372 sh r2 449 [.ref 0, .ref 1, .ref 797, .int (nI i)] [.int w, .int w]
  refine zx_icmp_eq (tgt := 477) dL_law_449 rfl (fun _ => ?_) (fun h => absurd rfl h)
  exact kk r2 hJ2
set_option maxHeartbeats 4000000 in
set_option maxRecDepth 100000 in
theorem lw_c16 (hJ : JI sh row) (hi : i + 3 ≤ zgL G) (hL : zgL G < 1000000) (kk : ∀ r2, JI sh r2 → zX G K fLw 0 818 12372 sh r2 477 [.ref 0, .ref 1, .ref 797, .int (nI i)] []) : zX G K fLw 0 818 12372 sh row 454 [.ref 0, .ref 1, .ref 797, .int (nI i)] [] := by
  refine zx_aload_n dL_law_454 rfl ?_
  refine zx_aload_n dL_law_455 rfl ?_
  refine zx_iload_n dL_law_456 rfl ?_
  refine zx_iconst (v := nI 1) dL_law_457 (by decide) ?_
  refine zn_iadd dL_law_458 ?_
  refine zx_sld dL_law_459 (vp_in_nI (by omega) (zL31 (by omega))) ?_
  obtain ⟨Qx, hx, hk⟩ := o_postingsV (G := G) (d := 39) (n := 0 + 818) (v := zxs G (nI (i + 1)).toNatClampNeg) hJ (by decide)
  refine zc_Q hx (meX_postings _) lkL_82 hJ.x rfl rfl (Nat.le_refl _) (Nat.le_of_ble_eq_true rfl) rfl rfl (Nat.le_of_ble_eq_true rfl) (Nat.le_of_ble_eq_true rfl) (Nat.le_of_ble_eq_true rfl) dL_law_460 (fun r sh1 r1 hq => ?_)
  obtain ⟨e, w, Qm, e2, hm, hk2⟩ := hk _ _ _ hq
  rw [e, e2]
  show zX G K fLw 0 818 12372 sh r1 463 [.ref 0, .ref 1, .ref 797, .int (nI i)] [.int w]
  refine zx_aload_n dL_law_463 rfl ?_
  refine zx_aload_n dL_law_464 rfl ?_
  refine zx_iload_n dL_law_465 rfl ?_
  refine zx_iconst (v := nI 1) dL_law_466 (by decide) ?_
  refine zn_iadd dL_law_467 ?_
  refine zx_sld dL_law_468 (vp_in_nI (by omega) (zL31 (by omega))) ?_
  refine zc_Q hm (meM_postings _) lkL_85 hJ.m rfl rfl (Nat.le_refl _) (Nat.le_of_ble_eq_true rfl) rfl rfl (Nat.le_of_ble_eq_true rfl) (Nat.le_of_ble_eq_true rfl) (Nat.le_of_ble_eq_true rfl) dL_law_469 (fun r sh2 r2 hq2 => ?_)
  obtain ⟨e3, e4, hJ2⟩ := hk2 _ _ _ hq2
  rw [e3, e4]
  show zX G K fLw 0 818 12372 sh r2 472 [.ref 0, .ref 1, .ref 797, .int (nI i)] [.int w, .int w]
  refine zx_icmp_eq (tgt := 477) dL_law_472 rfl (fun _ => ?_) (fun h => absurd rfl h)
  exact kk r2 hJ2
set_option maxHeartbeats 4000000 in
set_option maxRecDepth 100000 in
/-- the loop over the script -/
theorem lw_loop (hL : zgL G < 1000000) (hend : ∀ r ls, zX G K fLw 0 818 12372 sh r 484 ls [.int (nI 1)]) : ∀ (k i : Nat) (row : zRw), zgL G + 3 - i < k → i ≤ zgL G + 2 → JI sh row → zX G K fLw 0 818 12372 sh row 18 [.ref 0, .ref 1, .ref 797, .int (nI i)] [] := by
  intro k
  induction k with
  | zero => intro i row hk; exact absurd hk (Nat.not_lt_zero _)
  | succ k ih =>
    intro i row hk hi0 hJ
    refine zx_iload_n dL_law_18 rfl ?_
    refine zx_aload_n dL_law_19 rfl ?_
    refine zx_slen dL_law_20 ?_
    refine zx_iconst (v := nI 3) dL_law_21 (by decide) ?_
    refine zx_isub dL_law_22 ?_
    refine zx_icmp_gt (tgt := 483) dL_law_23 rfl (fun h => ?_) (fun h => ?_)
    · refine zx_iconst (v := nI 1) dL_law_483 (by decide) ?_
      exact hend _ _
    · have hi := lw_le hL (by omega) h
      have kk : ∀ r2, JI sh r2 → zX G K fLw 0 818 12372 sh r2 477 [.ref 0, .ref 1, .ref 797, .int (nI i)] [] := by
        intro r2 hJ2
        refine zn_iinc (c := 3) dL_law_477 (Nat.le_of_ble_eq_true rfl) rfl rfl ?_
        refine zx_goto (tgt := 18) dL_law_480 rfl ?_
        exact ih (i + 3) r2 (by omega) (by omega) hJ2
      refine zx_aload_n dL_law_26 rfl ?_
      refine zx_iload_n dL_law_27 rfl ?_
      refine zx_sld dL_law_28 (vp_in_nI (by omega) (zL31 (by omega))) ?_
      refine zx_bipush (v := nI 31) dL_law_29 (by decide) ?_
      refine zx_iand dL_law_31 ?_
      obtain ⟨q, hq, e⟩ := and31 (zxs G (nI i).toNatClampNeg)
      rw [e]
      by_cases h16 : q ≤ 16
      · rcases (show q = 0 ∨ q = 1 ∨ q = 2 ∨ q = 3 ∨ q = 4 ∨ q = 5 ∨ q = 6 ∨ q = 7 ∨ q = 8 ∨ q = 9 ∨ q = 10 ∨ q = 11 ∨ q = 12 ∨ q = 13 ∨ q = 14 ∨ q = 15 ∨ q = 16 by omega) with rfl | rfl | rfl | rfl | rfl | rfl | rfl | rfl | rfl | rfl | rfl | rfl | rfl | rfl | rfl | rfl | rfl
        · exact zx_tabI (off := 84) (tgt := 116) dL_law_32 (by decide) (by decide) (by decide) rfl (lw_c0 hJ hi hL kk)
        · exact zx_tabI (off := 109) (tgt := 141) dL_law_32 (by decide) (by decide) (by decide) rfl (lw_c1 hJ hi hL kk)
        · exact zx_tabI (off := 132) (tgt := 164) dL_law_32 (by decide) (by decide) (by decide) rfl (lw_c2 hJ hi hL kk)
        · exact zx_tabI (off := 143) (tgt := 175) dL_law_32 (by decide) (by decide) (by decide) rfl (lw_c3 hJ hi hL kk)
        · exact zx_tabI (off := 156) (tgt := 188) dL_law_32 (by decide) (by decide) (by decide) rfl (lw_c4 hJ hi hL kk)
        · exact zx_tabI (off := 189) (tgt := 221) dL_law_32 (by decide) (by decide) (by decide) rfl (lw_c5 hJ hi hL kk)
        · exact zx_tabI (off := 212) (tgt := 244) dL_law_32 (by decide) (by decide) (by decide) rfl (lw_c6 hJ hi hL kk)
        · exact zx_tabI (off := 225) (tgt := 257) dL_law_32 (by decide) (by decide) (by decide) rfl (lw_c7 hJ hi hL kk)
        · exact zx_tabI (off := 248) (tgt := 280) dL_law_32 (by decide) (by decide) (by decide) rfl (lw_c8 hJ hi hL kk)
        · exact zx_tabI (off := 271) (tgt := 303) dL_law_32 (by decide) (by decide) (by decide) rfl (lw_c9 hJ hi hL kk)
        · exact zx_tabI (off := 284) (tgt := 316) dL_law_32 (by decide) (by decide) (by decide) rfl (lw_c10 hJ hi hL kk)
        · exact zx_tabI (off := 307) (tgt := 339) dL_law_32 (by decide) (by decide) (by decide) rfl (lw_c11 hJ hi hL kk)
        · exact zx_tabI (off := 330) (tgt := 362) dL_law_32 (by decide) (by decide) (by decide) rfl (lw_c12 hJ hi hL kk)
        · exact zx_tabI (off := 353) (tgt := 385) dL_law_32 (by decide) (by decide) (by decide) rfl (lw_c13 hJ hi hL kk)
        · exact zx_tabI (off := 376) (tgt := 408) dL_law_32 (by decide) (by decide) (by decide) rfl (lw_c14 hJ hi hL kk)
        · exact zx_tabI (off := 399) (tgt := 431) dL_law_32 (by decide) (by decide) (by decide) rfl (lw_c15 hJ hi hL kk)
        · exact zx_tabI (off := 422) (tgt := 454) dL_law_32 (by decide) (by decide) (by decide) rfl (lw_c16 hJ hi hL kk)
      · refine zx_tabO (tgt := 477) dL_law_32 (Or.inr ?_) rfl (kk row hJ)
        rw [nI_toInt (by omega)]
        omega

theorem strG_0 {W : Nat → List (List Nat)} {ix : Nat → Nat} {g : Nat} (h : ∀ p, ix p = 0) : ∀ d, strG W ix g d = [] := by
  intro d
  induction d with
  | zero => rfl
  | succ d ih => rw [strG, h, ih]; rfl
theorem rel0 (x : Nat) : rel [] pf0 sf0 (hf0 x) c0 (0, fun _ => 0) (0, 0, 0, 0) mP0 mT0 mS0 mH0 := by
  refine ⟨⟨⟨rfl, fun k hk => absurd hk (Nat.not_lt_zero _)⟩, txO_nil⟩, ⟨rfl, rfl, rfl, rfl⟩, ⟨Nat.le_refl _, Nat.zero_le _, Nat.zero_le _, rfl⟩, ⟨fun s _ => ⟨Nat.le_refl _, Nat.zero_le _⟩, fun k _ => by show 0 < 127; omega, fun i _ => ⟨Nat.zero_le _, Nat.zero_le _⟩⟩, fun i _ => ⟨rfl, rfl, rfl, txO_nil⟩, fun i _ => ⟨⟨rfl, fun k hk => absurd hk (Nat.not_lt_zero _)⟩, ⟨rfl, fun k q hq => by cases hq⟩⟩, ⟨fun h => absurd h (Nat.lt_irrefl _), fun _ => ⟨rfl, rfl⟩⟩, fun g _ => ⟨rfl, Nat.zero_le _, ?_⟩, fun j _ => ⟨rfl, fun h => by cases h⟩⟩
  rw [strG_0 (fun p => by unfold idxN; rw [if_neg (Nat.not_lt_zero _)]; split <;> rfl)]
  rfl
set_option maxHeartbeats 4000000 in
set_option maxRecDepth 100000 in
/-- the law's body -/
theorem lw_body (hL : zgL G < 1000000) (hend : ∀ sh r ls, zX G K fLw 0 818 12372 sh r 484 ls [.int (nI 1)]) : zX G K fLw 0 0 0 (fun _ => none) (fun _ _ => .null) 0 [.ref 0, .retAddr 0, .retAddr 0, .retAddr 0] [] := by
  refine zx_new dL_law_0 nwL_7 (Nat.le_of_ble_eq_true rfl) (Nat.le_of_ble_eq_true rfl) ?_
  refine zx_dup dL_law_3 rfl ?_
  refine zc_I (kX_init G 39 (by decide) zps_self zpr_self) (meX_init _) rfl lkL_9 (zro (Nat.le_refl _) (Nat.le_of_ble_eq_true rfl) (Nat.le_of_ble_eq_true rfl) (Nat.le_of_ble_eq_true rfl) (Nat.le_of_ble_eq_true rfl)) dL_law_4 ?_
  rintro sh2 row2 ⟨e2, k2, t2⟩
  refine zX_cs (ce' := 796) (sl' := 10845) rfl rfl ?_
  refine zx_astore_n dL_law_7 (Nat.le_of_ble_eq_true rfl) rfl rfl ?_
  refine zx_new dL_law_8 nwL_10 (Nat.le_of_ble_eq_true rfl) (Nat.le_of_ble_eq_true rfl) ?_
  refine zx_dup dL_law_11 rfl ?_
  refine zc_I (kM_init G 39 (by decide) zps_self zpr_self) (meM_init _) rfl lkL_12 (zro (Nat.le_refl _) (Nat.le_of_ble_eq_true rfl) (Nat.le_of_ble_eq_true rfl) (Nat.le_of_ble_eq_true rfl) (Nat.le_of_ble_eq_true rfl)) dL_law_12 ?_
  rintro sh3 row3 ⟨e3, k3, t3⟩
  refine zX_cs (ce' := 818) (sl' := 12372) rfl rfl ?_
  refine zx_astore_n dL_law_15 (Nat.le_of_ble_eq_true rfl) rfl rfl ?_
  refine zx_iconst (v := nI 0) dL_law_16 (by decide) ?_
  refine zx_istore_n dL_law_17 (Nat.le_of_ble_eq_true rfl) rfl rfl ?_
  have t2' : XA sh2 row2 1 [] pf0 sf0 (hf0 1) c0 9 := t2
  have t3' : MA sh3 row3 797 (0, fun _ => 0) (0, 0, 0, 0) mP0 mT0 mS0 mH0 := t3
  have hX : XA sh3 row3 1 [] pf0 sf0 (hf0 1) c0 9 := t2'.same (fun b h1 h2 => ⟨by rw [e3 b (by omega), zps_ne (by omega)], by rw [k3 b (by omega), zpr_ne (by omega)]⟩)
  exact lw_loop hL (fun r ls => hend sh3 r ls) _ 0 row3 (Nat.lt_succ_self _) (Nat.zero_le _) ⟨_, _, _, _, _, _, _, _, _, _, _, _, hX, t3', rel0 1⟩
end LAW

