def bt (x : Int32) (i : Nat) : Bool := x.toBitVec.getLsbD i
theorem b_ext {x y : Int32} (h : ∀ i, i < 32 → bt x i = bt y i) : x = y := Int32.toBitVec_inj.mp (BitVec.eq_of_getLsbD_eq (fun i hi => h i hi))
theorem b_or (x y : Int32) (i : Nat) : bt (x ||| y) i = (bt x i || bt y i) := by unfold bt; rw [Int32.toBitVec_or, BitVec.getLsbD_or]
theorem b_and (x y : Int32) (i : Nat) : bt (x &&& y) i = (bt x i && bt y i) := by unfold bt; rw [Int32.toBitVec_and, BitVec.getLsbD_and]
theorem b_xor (x y : Int32) (i : Nat) : bt (x ^^^ y) i = (bt x i ^^ bt y i) := by unfold bt; rw [Int32.toBitVec_xor, BitVec.getLsbD_xor]
theorem b_big {x : Int32} {i : Nat} (h : 32 ≤ i) : bt x i = false := BitVec.getLsbD_of_ge _ _ h
theorem b_255 (i : Nat) : bt 255 i = decide (i < 8) := by
  rcases Nat.lt_or_ge i 32 with h | h
  · exact (by decide +kernel : ∀ i, i < 32 → bt 255 i = decide (i < 8)) i h
  · rw [b_big h, decide_eq_false (by omega)]
theorem b_65535 (i : Nat) : bt 65535 i = decide (i < 16) := by
  rcases Nat.lt_or_ge i 32 with h | h
  · exact (by decide +kernel : ∀ i, i < 32 → bt 65535 i = decide (i < 16)) i h
  · rw [b_big h, decide_eq_false (by omega)]
theorem b_m1 : ∀ i, i < 32 → bt (-1) i = true := by decide +kernel
theorem b_0 (i : Nat) : bt 0 i = false := BitVec.getLsbD_zero
theorem s_l : ∀ n, n < 32 → ((nI n &&& 31).toBitVec.smod 32).toNat = n := by decide +kernel
theorem s_u : ∀ n, n < 32 → (((nI n).toUInt32 &&& Int32.toUInt32 31).toBitVec % 32).toNat = n := by decide +kernel
theorem b_shl (n : Nat) (hn : n < 32) (x : Int32) {i : Nat} (hi : i < 32) : bt (x <<< (nI n &&& 31)) i = (decide (n ≤ i) && bt x (i - n)) := by
  unfold bt
  rw [Int32.toBitVec_shiftLeft]
  show (x.toBitVec <<< ((nI n &&& 31).toBitVec.smod 32).toNat).getLsbD i = _
  rw [s_l n hn, BitVec.getLsbD_shiftLeft]
  rcases Nat.lt_or_ge i n with h | h
  · simp [h, Nat.not_le.mpr h]
  · simp [hi, h, Nat.not_lt.mpr h]
theorem b_ushr (n : Nat) (hn : n < 32) (x : Int32) (i : Nat) : bt ((x.toUInt32 >>> ((nI n).toUInt32 &&& Int32.toUInt32 31)).toInt32) i = bt x (n + i) := by
  show (x.toUInt32 >>> ((nI n).toUInt32 &&& Int32.toUInt32 31)).toBitVec.getLsbD i = x.toUInt32.toBitVec.getLsbD (n + i)
  rw [UInt32.toBitVec_shiftRight]
  show (x.toUInt32.toBitVec >>> (((nI n).toUInt32 &&& Int32.toUInt32 31).toBitVec % 32).toNat).getLsbD i = _
  rw [s_u n hn, BitVec.getLsbD_ushiftRight]
theorem b_sshr (n : Nat) (hn : n < 32) (x : Int32) {i : Nat} (hi : i < 32) : bt (x >>> (nI n &&& 31)) i = if n + i < 32 then bt x (n + i) else bt x 31 := by
  unfold bt
  rw [Int32.toBitVec_shiftRight]
  show (x.toBitVec.sshiftRight ((nI n &&& 31).toBitVec.smod 32).toNat).getLsbD i = _
  rw [s_l n hn, BitVec.getLsbD_sshiftRight, BitVec.msb_eq_getLsbD_last]
  simp [hi]
theorem b_shl8 (x : Int32) {i : Nat} (hi : i < 32) : bt (x <<< ((8 : Int32) &&& 31)) i = (decide (8 ≤ i) && bt x (i - 8)) := b_shl 8 (by omega) x hi
theorem b_shl16 (x : Int32) {i : Nat} (hi : i < 32) : bt (x <<< ((16 : Int32) &&& 31)) i = (decide (16 ≤ i) && bt x (i - 16)) := b_shl 16 (by omega) x hi
theorem b_shl24 (x : Int32) {i : Nat} (hi : i < 32) : bt (x <<< ((24 : Int32) &&& 31)) i = (decide (24 ≤ i) && bt x (i - 24)) := b_shl 24 (by omega) x hi
theorem b_sshr8 (x : Int32) {i : Nat} (hi : i < 32) : bt (x >>> ((8 : Int32) &&& 31)) i = if 8 + i < 32 then bt x (8 + i) else bt x 31 := b_sshr 8 (by omega) x hi
/-- how many of the numbers below m have it -/
def cnt (f : Nat → Bool) : Nat → Nat
  | 0 => 0
  | m + 1 => cnt f m + (if f m = true then 1 else 0)
theorem cnt_congr {f g : Nat → Bool} {m : Nat} (h : ∀ i, i < m → f i = g i) : cnt f m = cnt g m := by
  induction m with
  | zero => rfl
  | succ m ih => unfold cnt; rw [ih (fun i hi => h i (by omega)), h m (by omega)]
theorem cnt_add (f : Nat → Bool) (a b : Nat) : cnt f (a + b) = cnt f a + cnt (fun i => f (a + i)) b := by
  induction b with
  | zero => rfl
  | succ b ih =>
    show cnt f (a + b) + (if f (a + b) = true then 1 else 0) = cnt f a + (cnt (fun i => f (a + i)) b + (if f (a + b) = true then 1 else 0))
    rw [ih]; omega
theorem cnt_le (f : Nat → Bool) (m : Nat) : cnt f m ≤ m := by
  induction m with
  | zero => exact Nat.le_refl _
  | succ m ih => unfold cnt; split <;> omega
def popc (x : Int32) : Nat := cnt (bt x) 32
theorem land_d {w a d M m : Nat} (hd : d < 2 ^ w) (hm : m < 2 ^ w) : (2 ^ w * a + d) &&& (2 ^ w * M + m) = 2 ^ w * (a &&& M) + (d &&& m) := by
  apply Nat.eq_of_testBit_eq
  intro i
  have hdm : d &&& m < 2 ^ w := Nat.and_lt_two_pow d hm
  rw [Nat.testBit_and, Nat.testBit_two_pow_mul_add _ hd, Nat.testBit_two_pow_mul_add _ hm, Nat.testBit_two_pow_mul_add _ hdm]
  by_cases h : i < w
  · rw [if_pos h, if_pos h, if_pos h, Nat.testBit_and]
  · rw [if_neg h, if_neg h, if_neg h, Nat.testBit_and]
def bf1 (b : Nat) : Nat := b - (b / 2 &&& 85)
def bf2 (b : Nat) : Nat := (b &&& 51) + (b / 4 &&& 51)
def bf3 (b : Nat) : Nat := (b + b / 16) &&& 15
theorem bf_a : ∀ b, b < 256 → ∀ c, c < 2 → (b / 2 + 128 * c) &&& 85 = b / 2 &&& 85 ∧ (b / 2 &&& 85) ≤ b := by decide +kernel
theorem bf_b : ∀ b, b < 256 → ∀ c, c < 4 → (b / 4 + 64 * c) &&& 51 = b / 4 &&& 51 := by decide +kernel
theorem bf_c : ∀ b, b < 256 → bf2 (bf1 b) % 16 ≤ 4 ∧ bf2 (bf1 b) / 16 ≤ 4 ∧ bf1 b < 256 ∧ bf3 (bf2 (bf1 b)) = cnt (fun i => b.testBit i) 8 := by decide +kernel
theorem bf_d : ∀ b, b < 5 → ∀ e, e < 5 → ∀ c, c < 5 → (e * 16 + b + (e * 16 + b) / 16 + 16 * c) &&& 15 = bf3 (e * 16 + b) := by decide +kernel
theorem land8 {a d M m : Nat} (hd : d < 256) (hm : m < 256) : (256 * a + d) &&& (256 * M + m) = 256 * (a &&& M) + (d &&& m) := land_d (w := 8) hd hm
theorem and_le2 (a b : Nat) : a &&& b ≤ a := Nat.and_le_left
theorem bs1 {b a M : Nat} (hb : b < 256) : (256 * a + b) - ((256 * a + b) / 2 &&& (256 * M + 85)) = 256 * (a - (a / 2 &&& M)) + bf1 b := by
  have e : (256 * a + b) / 2 = 256 * (a / 2) + (b / 2 + 128 * (a % 2)) := by omega
  rw [e, land8 (by omega) (by decide), (bf_a b hb (a % 2) (by omega)).1]
  have h1 := (bf_a b hb 0 (by omega)).2
  have h2 := and_le2 (a / 2) M
  unfold bf1
  omega
theorem bs2 {b a M : Nat} (hb : b < 256) : ((256 * a + b) &&& (256 * M + 51)) + ((256 * a + b) / 4 &&& (256 * M + 51)) = 256 * ((a &&& M) + (a / 4 &&& M)) + bf2 b := by
  have e : (256 * a + b) / 4 = 256 * (a / 4) + (b / 4 + 64 * (a % 4)) := by omega
  rw [e, land8 hb (by decide), land8 (by omega) (by decide), bf_b b hb (a % 4) (by omega)]
  unfold bf2
  omega
theorem bs3 {b a M : Nat} (hb : b < 256) (h1 : bf2 (bf1 b) % 16 ≤ 4) (h2 : bf2 (bf1 b) / 16 ≤ 4) (ha : a % 16 ≤ 4) : ((256 * a + bf2 (bf1 b)) + (256 * a + bf2 (bf1 b)) / 16) &&& (256 * M + 15) = 256 * ((a + a / 16) &&& M) + bf3 (bf2 (bf1 b)) := by
  generalize hz : bf2 (bf1 b) = z at h1 h2 ⊢
  have e : 256 * a + z + (256 * a + z) / 16 = 256 * (a + a / 16) + (z + z / 16 + 16 * (a % 16)) := by omega
  have hlt : z + z / 16 + 16 * (a % 16) < 256 := by omega
  rw [e, land8 hlt (by decide)]
  have := bf_d (z % 16) (by omega) (z / 16) (by omega) (a % 16) (by omega)
  rw [show z / 16 * 16 + z % 16 = z by omega] at this
  rw [this]
/-- the whole, over the naturals -/
def bcN (x : Nat) : Nat :=
  let y := x - (x / 2 &&& 1431655765)
  let z := (y &&& 858993459) + (y / 4 &&& 858993459)
  let u := (z + z / 16) &&& 252645135
  let v := u + u / 256
  let w := v + v / 65536
  w &&& 63
theorem bcN_ok (x : Nat) (hx : x < 4294967296) : bcN x = cnt (fun i => x.testBit i) 32 := by
  obtain ⟨b0, b1, b2, b3, h0, h1, h2, h3, rfl⟩ : ∃ b0 b1 b2 b3 : Nat, b0 < 256 ∧ b1 < 256 ∧ b2 < 256 ∧ b3 < 256 ∧ x = 256 * (256 * (256 * (256 * 0 + b3) + b2) + b1) + b0 :=
    ⟨x % 256, x / 256 % 256, x / 65536 % 256, x / 16777216, by omega, by omega, by omega, by omega, by omega⟩
  have c0 := bf_c b0 h0
  have c1 := bf_c b1 h1
  have c2 := bf_c b2 h2
  have c3 := bf_c b3 h3
  have ey : (256 * (256 * (256 * (256 * 0 + b3) + b2) + b1) + b0) - ((256 * (256 * (256 * (256 * 0 + b3) + b2) + b1) + b0) / 2 &&& 1431655765) = 256 * (256 * (256 * (256 * 0 + bf1 b3) + bf1 b2) + bf1 b1) + bf1 b0 := by
    rw [show (1431655765 : Nat) = 256 * (256 * (256 * (256 * 0 + 85) + 85) + 85) + 85 from rfl, bs1 h0, bs1 h1, bs1 h2, bs1 h3]
    rfl
  have ez : ∀ q, q = 256 * (256 * (256 * (256 * 0 + bf1 b3) + bf1 b2) + bf1 b1) + bf1 b0 → (q &&& 858993459) + (q / 4 &&& 858993459) = 256 * (256 * (256 * (256 * 0 + bf2 (bf1 b3)) + bf2 (bf1 b2)) + bf2 (bf1 b1)) + bf2 (bf1 b0) := by
    intro q hq
    subst hq
    rw [show (858993459 : Nat) = 256 * (256 * (256 * (256 * 0 + 51) + 51) + 51) + 51 from rfl, bs2 c0.2.2.1, bs2 c1.2.2.1, bs2 c2.2.2.1, bs2 c3.2.2.1]
    rfl
  have eu : ∀ q, q = 256 * (256 * (256 * (256 * 0 + bf2 (bf1 b3)) + bf2 (bf1 b2)) + bf2 (bf1 b1)) + bf2 (bf1 b0) → (q + q / 16) &&& 252645135 = 256 * (256 * (256 * (256 * 0 + bf3 (bf2 (bf1 b3))) + bf3 (bf2 (bf1 b2))) + bf3 (bf2 (bf1 b1))) + bf3 (bf2 (bf1 b0)) := by
    intro q hq
    subst hq
    rw [show (252645135 : Nat) = 256 * (256 * (256 * (256 * 0 + 15) + 15) + 15) + 15 from rfl, bs3 h0 c0.1 c0.2.1 (by omega), bs3 h1 c1.1 c1.2.1 (by omega), bs3 h2 c2.1 c2.2.1 (by omega), bs3 h3 c3.1 c3.2.1 (by omega)]
    rfl
  unfold bcN
  simp only
  rw [eu _ (ez _ ey), c0.2.2.2, c1.2.2.2, c2.2.2.2, c3.2.2.2]
  have t0 := cnt_le (fun i => b0.testBit i) 8
  have t1 := cnt_le (fun i => b1.testBit i) 8
  have t2 := cnt_le (fun i => b2.testBit i) 8
  have t3 := cnt_le (fun i => b3.testBit i) 8
  have hs : cnt (fun i => (256 * (256 * (256 * (256 * 0 + b3) + b2) + b1) + b0).testBit i) 32 = cnt (fun i => b0.testBit i) 8 + cnt (fun i => b1.testBit i) 8 + cnt (fun i => b2.testBit i) 8 + cnt (fun i => b3.testBit i) 8 := by
    have key : ∀ (a b i : Nat), b < 256 → (256 * a + b).testBit i = if i < 8 then b.testBit i else a.testBit (i - 8) := fun a b i hb => Nat.testBit_two_pow_mul_add (i := 8) a hb i
    rw [show (32 : Nat) = 8 + (8 + (8 + 8)) from rfl, cnt_add, cnt_add, cnt_add]
    generalize hX : 256 * (256 * (256 * (256 * 0 + b3) + b2) + b1) + b0 = X
    have g0 : cnt (fun i => X.testBit i) 8 = cnt (fun i => b0.testBit i) 8 := cnt_congr (fun i hi => by show X.testBit i = b0.testBit i; rw [← hX, key _ _ _ h0, if_pos hi])
    have g1 : cnt (fun i => X.testBit (8 + i)) 8 = cnt (fun i => b1.testBit i) 8 := cnt_congr (fun i hi => by show X.testBit (8 + i) = b1.testBit i; rw [← hX, key _ _ _ h0, if_neg (by omega), key _ _ _ h1, if_pos (by omega), show 8 + i - 8 = i by omega])
    have g2 : cnt (fun i => X.testBit (8 + (8 + i))) 8 = cnt (fun i => b2.testBit i) 8 := cnt_congr (fun i hi => by show X.testBit (8 + (8 + i)) = b2.testBit i; rw [← hX, key _ _ _ h0, if_neg (by omega), key _ _ _ h1, if_neg (by omega), key _ _ _ h2, if_pos (by omega), show 8 + (8 + i) - 8 - 8 = i by omega])
    have g3 : cnt (fun i => X.testBit (8 + (8 + (8 + i)))) 8 = cnt (fun i => b3.testBit i) 8 := cnt_congr (fun i hi => by show X.testBit (8 + (8 + (8 + i))) = b3.testBit i; rw [← hX, key _ _ _ h0, if_neg (by omega), key _ _ _ h1, if_neg (by omega), key _ _ _ h2, if_neg (by omega), key _ _ _ h3, if_pos (by omega), show 8 + (8 + (8 + i)) - 8 - 8 - 8 = i by omega])
    rw [g0, g1, g2, g3]
    omega
  rw [hs]
  generalize cnt (fun i => b0.testBit i) 8 = p0 at *
  generalize cnt (fun i => b1.testBit i) 8 = p1 at *
  generalize cnt (fun i => b2.testBit i) 8 = p2 at *
  generalize cnt (fun i => b3.testBit i) 8 = p3 at *
  rw [show (63 : Nat) = 2 ^ 6 - 1 from rfl, Nat.and_two_pow_sub_one_eq_mod]
  clear ey ez eu hs c0 c1 c2 c3 hx h0 h1 h2 h3
  have e1 : (256 * (256 * (256 * (256 * 0 + p3) + p2) + p1) + p0) / 256 = 65536 * p3 + 256 * p2 + p1 := by omega
  rw [e1]
  have e2 : (256 * (256 * (256 * (256 * 0 + p3) + p2) + p1) + p0 + (65536 * p3 + 256 * p2 + p1)) / 65536 = 256 * p3 + (p3 + p2) := by omega
  rw [e2]
  omega

