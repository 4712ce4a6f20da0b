section ZCtor
variable {G : zG} {K : zK} {F : zF} {n0 ce sl : Nat} {sh : zSh} {row : zRw} {pc : Nat} {ls st : List Value}
theorem zX_cs {ce' sl' : Nat} (h1 : ce = ce') (h2 : sl = sl') (k : zX G K F n0 ce' sl' sh row pc ls st) : zX G K F n0 ce sl sh row pc ls st := by subst h1; subst h2; exact k
/-- the end of a constructor -/
abbrev zpC (q : zSh → zRw → Prop) : Option Value → zSh → zRw → Prop := fun r sh' row' => r = none ∧ q sh' row'
theorem zc_I {F' : zF} {idx b : Nat} {q : zSh → zRw → Prop} (hM : zM G F' [.ref b] (n0 + ce) sh row (zpC q)) (hC : zMe F' 0) (hr : zrt F' = none) (hl : zLi (zow F) idx (zy F')) (hro : zRo F F' ce sl st) (hd : decode (zcc F) pc = .ok (.invokespecial idx, 3)) (kk : ∀ sh' row', q sh' row' → zX G K F n0 (ce + zmc F') (sl + zms F') sh' row' (pc + 3) ls st) : zX G K F n0 ce sl sh row pc ls (.ref b :: st) := by
  refine zx_callI (As := []) hM hC hr hl rfl hro hd ?_
  rintro _ sh' row' ⟨rfl, hq⟩
  exact kk sh' row' hq
end ZCtor
/-- the old cells' shapes stand; the old cells but the last keep what they hold -/
def ext (n : Nat) (sh sh' : zSh) : Prop := ∀ a, a ≤ n → sh' a = sh a
def kpt (n : Nat) (row row' : zRw) : Prop := ∀ b, b < n → row' b = row b
theorem ext.rf {n : Nat} {sh : zSh} : ext n sh sh := fun _ _ => rfl
theorem kpt.rf {n : Nat} {row : zRw} : kpt n row row := fun _ _ => rfl
theorem ext.tr {n m : Nat} {s1 s2 s3 : zSh} (h : ext n s1 s2) (g : ext m s2 s3) (hm : n ≤ m) : ext n s1 s3 := fun a ha => (g a (by omega)).trans (h a ha)
theorem kpt.tr {n m : Nat} {s1 s2 s3 : zRw} (h : kpt n s1 s2) (g : kpt m s2 s3) (hm : n ≤ m) : kpt n s1 s3 := fun a ha => (g a (by omega)).trans (h a ha)
theorem ext_ps {n a : Nat} {sh : zSh} {x : Nat × Nat × Nat} (h : n < a) : ext n sh (zps sh a x) := fun b hb => zps_ne (by omega)
theorem kpt_pr {n a : Nat} {row : zRw} {r : Nat → Value} (h : n ≤ a) : kpt n row (zpr row a r) := fun b hb => zpr_ne (by omega)
theorem kpt_up {n a k : Nat} {row : zRw} {v : Value} (h : n ≤ a) : kpt n row (zup row a k v) := fun b hb => zup_ne (by omega)
theorem Txt.ext {sh sh' : zSh} {row row' : zRw} {t : Nat} {xs : List Nat} (h : Txt sh row t xs) (h1 : sh' t = sh t) (h2 : sh' (t + 1) = sh (t + 1)) (h3 : row' t = row t) (h4 : row' (t + 1) = row (t + 1)) : Txt sh' row' t xs := by
  unfold Txt at h ⊢; rw [h1, h2, h3, h4]; exact h

set_option maxHeartbeats 4000000 in
set_option maxRecDepth 100000 in
theorem kT_init2 (G : zG) (d : Nat) (hd : 1 ≤ d) {n : Nat} {sh : zSh} {row : zRw} (hs : sh n = some (0, 5, 2)) (hr : row n = fun k => defaultValue (tyT k)) : zM G (fT_init d) [.ref n] n sh row (zpC (fun sh' row' => ext n sh sh' ∧ kpt n row row' ∧ Txt sh' row' n [])) := by
  refine zM.of (by show plainName "PostIndex$Text" = true; decide +kernel) (Nat.le_of_ble_eq_true rfl) (by intro v hv; simp at hv; rcases hv with rfl <;> rfl) ?_
  intro K hE
  show zX G K (fT_init d) n 0 0 sh row 0 [.ref n] []
  have hD : d - 1 + 1 ≤ d := by omega
  refine zx_aload_n dT_init_0 rfl ?_
  refine zx_obj dT_init_1 lkT_3 (by show 1 ≤ d; omega) (Nat.le_of_ble_eq_true rfl) ?_
  refine zx_aload_n dT_init_4 rfl ?_
  refine zx_bipush (v := nI 24) dT_init_5 (by decide) ?_
  refine zx_newa (N := 24) dT_init_7 arC rfl rfl (by decide) (by decide) (by decide) (Nat.le_of_ble_eq_true rfl) (Nat.le_of_ble_eq_true rfl) ?_
  refine zx_putF hE rfl (fun C T h => by cases h; rfl) dT_init_9 flT_9 tpT_0 (by rw [zps_ne (by omega)]; exact hs) rfl rfl ?_
  exact zx_vret hE rfl dT_init_12 rfl (Nat.le_of_ble_eq_true rfl) ⟨rfl, ext_ps (by omega), (kpt_pr (by omega)).tr (kpt_up (Nat.le_refl _)) (Nat.le_refl _), by rw [zps_ne (by omega)]; exact hs, zps_self, zup_same _ _ _, by rw [zup_k (Or.inr (by decide)), zpr_ne (by omega), hr]; rfl, by simp, fun i _ => ⟨0, by decide, by rw [zup_ne (by omega)]; show zpr row (n + (0 + 1)) (fun _ => .int 0) (n + (0 + 1)) i = _; rw [zpr_self]; rfl, fun h => by simp at h⟩⟩

