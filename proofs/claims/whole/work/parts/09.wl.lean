/-! digits under addition, subtraction, negation, products -/
theorem d_hi (A1 A2 : Int) {B K : Int} (hB : 0 < B) : (A1 + B * A2) / (B * K) = (A1 / B + A2) / K := by
  rw [← Int.ediv_ediv_of_nonneg (Int.le_of_lt hB), Int.add_mul_ediv_left _ _ (by omega)]
theorem d_lo (A1 A2 : Int) {B : Int} (hB : 0 < B) : (A1 + B * A2) / B = A1 / B + A2 := Int.add_mul_ediv_left _ _ (by omega)
theorem d_rng (a : Int) {B : Int} (hB : 0 < B) : 0 ≤ a % B ∧ a % B < B := ⟨Int.emod_nonneg a (by omega), Int.emod_lt_of_pos a hB⟩
theorem d_le {a c B : Int} (hB : 0 < B) (h : a < c * B) : a / B < c := Int.ediv_lt_of_lt_mul hB h
theorem d_ge {a c B : Int} (hB : 0 < B) (h : c * B ≤ a) : c ≤ a / B := (Int.le_ediv_iff_mul_le hB).mpr h
theorem d_c2 (a b : Int) {B : Int} (hB : 0 < B) : 0 ≤ (a % B + b % B) / B ∧ (a % B + b % B) / B < 2 := by
  have h1 := d_rng a hB
  have h2 := d_rng b hB
  exact ⟨d_ge hB (by omega), d_le hB (by omega)⟩
theorem add_dig {x y : Int} {i : Nat} {gi yi r s : Int64} (hg : gi = dg x i) (hy : yi = dg y i) (hr : r.toInt = (x % dP i + y % dP i) / dP i) (hs : s = gi + yi + r) : s.toInt = x / dP i % 4294967296 + y / dP i % 4294967296 + (x % dP i + y % dP i) / dP i := by
  have h1 := d_c2 x y (dP_pos i)
  have h2 := dg_T x i
  have h3 := dg_T y i
  have e1 : (gi + yi).toInt = gi.toInt + yi.toInt := by rw [l_add] <;> rw [hg, hy] <;> omega
  rw [hs, l_add] <;> rw [e1, hg, hy] <;> omega
theorem add_d {x y : Int} {i : Nat} {gi yi r s : Int64} (hg : gi = dg x i) (hy : yi = dg y i) (hr : r.toInt = (x % dP i + y % dP i) / dP i) (hs : s = gi + yi + r) : s &&& 4294967295 = dg (x + y) i := by
  refine dg_eq ?_
  rw [l_lo, add_dig hg hy hr hs, d_add x y (dP_pos i)]
  omega
theorem add_c {x y : Int} {i : Nat} {gi yi r s r' : Int64} (hg : gi = dg x i) (hy : yi = dg y i) (hr : r.toInt = (x % dP i + y % dP i) / dP i) (hs : s = gi + yi + r) (h' : (s.toUInt64 >>> ((32 : Int32).toInt64.toUInt64 &&& Int64.toUInt64 63)).toInt64 = r') : r'.toInt = (x % dP (i + 1) + y % dP (i + 1)) / dP (i + 1) := by
  have h1 := d_c2 x y (dP_pos i)
  have h2 := add_dig hg hy hr hs
  rw [l_us32 h', dP_s, d_carry x y (dP_pos i) (by decide), ← h2]
  omega
theorem d_sub (a b : Int) {B : Int} (hB : 0 < B) : (a - b) / B = a / B - b / B + (a % B - b % B) / B := by
  have h1 := Int.mul_ediv_add_emod a B
  have h2 := Int.mul_ediv_add_emod b B
  have h3 : a - b = (a % B - b % B) + B * (a / B - b / B) := by rw [Int.mul_sub]; omega
  have h4 := d_lo (a % B - b % B) (a / B - b / B) hB
  rw [← h3] at h4
  omega
theorem d_cs (a b : Int) {B : Int} (hB : 0 < B) : -1 ≤ (a % B - b % B) / B ∧ (a % B - b % B) / B < 1 := by
  have h1 := d_rng a hB
  have h2 := d_rng b hB
  exact ⟨d_ge hB (by omega), d_le hB (by omega)⟩
theorem sub_dig {x y : Int} {i : Nat} {gi yi r s : Int64} (hg : gi = dg x i) (hy : yi = dg y i) (hr : r.toInt = (x % dP i - y % dP i) / dP i) (hs : s = gi - yi + r) : s.toInt = x / dP i % 4294967296 - y / dP i % 4294967296 + (x % dP i - y % dP i) / dP i := by
  have h1 := d_cs x y (dP_pos i)
  have h2 := dg_T x i
  have h3 := dg_T y i
  have e1 : (gi - yi).toInt = gi.toInt - yi.toInt := by rw [l_sub] <;> rw [hg, hy] <;> omega
  rw [hs, l_add] <;> rw [e1, hg, hy] <;> omega
theorem sub_d {x y : Int} {i : Nat} {gi yi r s : Int64} (hg : gi = dg x i) (hy : yi = dg y i) (hr : r.toInt = (x % dP i - y % dP i) / dP i) (hs : s = gi - yi + r) : s &&& 4294967295 = dg (x - y) i := by
  refine dg_eq ?_
  rw [l_lo, sub_dig hg hy hr hs, d_sub x y (dP_pos i)]
  omega
theorem sub_c {x y : Int} {i : Nat} {gi yi r s r' : Int64} (hg : gi = dg x i) (hy : yi = dg y i) (hr : r.toInt = (x % dP i - y % dP i) / dP i) (hs : s = gi - yi + r) (h' : s >>> ((32 : Int32).toInt64 &&& 63) = r') : r'.toInt = (x % dP (i + 1) - y % dP (i + 1)) / dP (i + 1) := by
  have h2 := sub_dig hg hy hr hs
  rw [l_ss32 h', h2, dP_s, d_mod x (dP_pos i) (by decide), d_mod y (dP_pos i) (by decide)]
  have h3 : x % dP i + dP i * (x / dP i % 4294967296) - (y % dP i + dP i * (y / dP i % 4294967296)) = (x % dP i - y % dP i) + dP i * (x / dP i % 4294967296 - y / dP i % 4294967296) := by rw [Int.mul_sub]; omega
  rw [h3, d_hi _ _ (dP_pos i)]
  congr 1
  omega
theorem n_xor {n : Nat} (h : n < 4294967296) : n ^^^ 4294967295 = 4294967295 - n := by
  apply Nat.eq_of_testBit_eq
  intro i
  have e : 4294967295 - n = 2 ^ 32 - (n + 1) := by omega
  rw [Nat.testBit_xor, e, Nat.testBit_two_pow_sub_succ h, show (4294967295 : Nat) = 2 ^ 32 - 1 from rfl, Nat.testBit_two_pow_sub_one]
  by_cases hi : i < 32
  · simp [hi]
  · have : n.testBit i = false := Nat.testBit_lt_two_pow (Nat.lt_of_lt_of_le h (Nat.pow_le_pow_right (show 0 < 2 by decide) (by omega : 32 ≤ i)))
    simp [hi, this]
theorem l_xor {x : Int64} (h : 0 ≤ x.toInt ∧ x.toInt < 4294967296) : (x ^^^ 4294967295).toInt = 4294967295 - x.toInt := by
  have h1 : uN (x ^^^ 4294967295) = uN x ^^^ 4294967295 := UInt64.toNat_xor _ _
  have h2 := uN_mod x
  have h3 : uN x < 4294967296 := by omega
  rw [n_xor h3] at h1
  rw [uN_of h1 (by omega)]
  omega
theorem d_neg (a : Int) {B : Int} (hB : 0 < B) : (-a) / B = -(a / B) - 1 + (B - a % B) / B := by
  have h1 := Int.mul_ediv_add_emod a B
  have h3 : -a = (B - a % B) + B * (-(a / B) - 1) := by rw [Int.mul_sub, Int.mul_neg]; omega
  have h4 := d_lo (B - a % B) (-(a / B) - 1) hB
  rw [← h3] at h4
  omega
theorem d_cn (a : Int) {B : Int} (hB : 0 < B) : 0 ≤ (B - a % B) / B ∧ (B - a % B) / B < 2 := by
  have h1 := d_rng a hB
  exact ⟨d_ge hB (by omega), d_le hB (by omega)⟩
theorem neg_dig {x : Int} {i : Nat} {gi r s : Int64} (hg : gi = dg x i) (hr : r.toInt = (dP i - x % dP i) / dP i) (hs : s = (gi ^^^ 4294967295) + r) : s.toInt = 4294967295 - x / dP i % 4294967296 + (dP i - x % dP i) / dP i := by
  have h1 := d_cn x (dP_pos i)
  have h2 := dg_T x i
  have e1 : (gi ^^^ 4294967295).toInt = 4294967295 - gi.toInt := l_xor (by rw [hg]; exact dg_rng x i)
  rw [hs, l_add] <;> rw [e1, hg] <;> omega
theorem neg_d {x : Int} {i : Nat} {gi r s : Int64} (hg : gi = dg x i) (hr : r.toInt = (dP i - x % dP i) / dP i) (hs : s = (gi ^^^ 4294967295) + r) : s &&& 4294967295 = dg (-x) i := by
  refine dg_eq ?_
  rw [l_lo, neg_dig hg hr hs, d_neg x (dP_pos i)]
  omega
theorem neg_c {x : Int} {i : Nat} {gi r s r' : Int64} (hg : gi = dg x i) (hr : r.toInt = (dP i - x % dP i) / dP i) (hs : s = (gi ^^^ 4294967295) + r) (h' : (s.toUInt64 >>> ((32 : Int32).toInt64.toUInt64 &&& Int64.toUInt64 63)).toInt64 = r') : r'.toInt = (dP (i + 1) - x % dP (i + 1)) / dP (i + 1) := by
  have h1 := d_cn x (dP_pos i)
  have h2 := neg_dig hg hr hs
  rw [l_us32 h', dP_s, d_mod x (dP_pos i) (by decide)]
  have h3 : dP i * 4294967296 - (x % dP i + dP i * (x / dP i % 4294967296)) = (dP i - x % dP i) + dP i * (4294967295 - x / dP i % 4294967296) := by rw [Int.mul_sub]; omega
  rw [h3, d_hi _ _ (dP_pos i)]
  omega
/-! the product of two longs -/
theorem hp_high {a b : Int} {x1 x0 y1 y0 : Int} (ha : a = x1 * 4294967296 + x0) (hb : b = y1 * 4294967296 + y0) {t u : Int} (ht : t = x1 * y0 + x0 * y0 / 4294967296) (hu : u = x0 * y1 + t % 4294967296) : x1 * y1 + t / 4294967296 + u / 4294967296 = a * b / 18446744073709551616 := by
  have e : a * b = x1 * y1 * 18446744073709551616 + (x1 * y0 + x0 * y1) * 4294967296 + x0 * y0 := by
    rw [ha, hb, Int.add_mul, Int.mul_add, Int.mul_add]
    have e1 : x1 * 4294967296 * (y1 * 4294967296) = x1 * y1 * 18446744073709551616 := by
      rw [Int.mul_assoc, Int.mul_comm 4294967296, Int.mul_assoc y1, ← Int.mul_assoc]; rfl
    have e2 : x1 * 4294967296 * y0 = x1 * y0 * 4294967296 := by rw [Int.mul_assoc, Int.mul_comm 4294967296, ← Int.mul_assoc]
    have e3 : x0 * (y1 * 4294967296) = x0 * y1 * 4294967296 := by rw [← Int.mul_assoc]
    rw [e1, e2, e3, Int.add_mul]
    omega
  generalize x1 * y1 = p at *
  generalize x0 * y0 = q at *
  generalize x1 * y0 = v at *
  generalize x0 * y1 = w at *
  omega
theorem mb {x y : Int} {s t : Nat} (hx : x.natAbs ≤ s) (hy : y.natAbs ≤ t) : -((s : Int) * t) ≤ x * y ∧ x * y ≤ s * t := by
  have h1 := Int.mul_le_mul_of_natAbs_le hx hy
  have h2 := Int.mul_le_mul_of_natAbs_le (x := -x) (s := s) (by omega) hy
  rw [Int.neg_mul] at h2
  omega
theorem hp_main {a b x1 x0 y1 y0 z5 t u z8 z9 : Int64} (h1 : a >>> ((32 : Int32).toInt64 &&& 63) = x1) (h0 : x0 = a &&& 4294967295) (g1 : b >>> ((32 : Int32).toInt64 &&& 63) = y1) (g0 : y0 = b &&& 4294967295)
    (h5 : ((x0 * y0).toUInt64 >>> ((32 : Int32).toInt64.toUInt64 &&& Int64.toUInt64 63)).toInt64 = z5) (ht : t = x1 * y0 + z5) (hu : u = x0 * y1 + (t &&& 4294967295)) (h8 : t >>> ((32 : Int32).toInt64 &&& 63) = z8) (h9 : u >>> ((32 : Int32).toInt64 &&& 63) = z9) : (x1 * y1 + z8 + z9).toInt = a.toInt * b.toInt / 18446744073709551616 := by
  have ra := l_rng a
  have rb := l_rng b
  have e1 := l_ss32 h1
  have f1 := l_ss32 g1
  have e0 : x0.toInt = a.toInt % 4294967296 := by rw [h0, l_lo]
  have f0 : y0.toInt = b.toInt % 4294967296 := by rw [g0, l_lo]
  have m1 := @mb x1.toInt y0.toInt 2147483648 4294967295 (by omega) (by omega)
  have m2 := @mb x0.toInt y1.toInt 4294967295 2147483648 (by omega) (by omega)
  have m3 := @mb x1.toInt y1.toInt 2147483648 2147483648 (by omega) (by omega)
  have m4 := @mb x0.toInt y0.toInt 4294967295 4294967295 (by omega) (by omega)
  have m5 : 0 ≤ x0.toInt * y0.toInt := Int.mul_nonneg (by omega) (by omega)
  have m6 : x1.toInt * y0.toInt ≤ 2147483647 * y0.toInt := Int.mul_le_mul_of_nonneg_right (by omega) (by omega)
  have m7 : x0.toInt * y1.toInt ≤ x0.toInt * 2147483647 := Int.mul_le_mul_of_nonneg_left (by omega) (by omega)
  have e5 : z5.toInt = x0.toInt * y0.toInt / 4294967296 := by
    rw [l_us32 h5, Int64.toInt_mul]
    have : (x0.toInt * y0.toInt).bmod (2 ^ 64) % 18446744073709551616 = x0.toInt * y0.toInt := by
      rw [Int.bmod_def]; split <;> omega
    rw [this]
  have et : t.toInt = x1.toInt * y0.toInt + x0.toInt * y0.toInt / 4294967296 := by
    have : (x1 * y0).toInt = x1.toInt * y0.toInt := l_mul (by omega) (by omega)
    rw [ht, l_add] <;> rw [this, e5] <;> omega
  have eu : u.toInt = x0.toInt * y1.toInt + t.toInt % 4294967296 := by
    have : (x0 * y1).toInt = x0.toInt * y1.toInt := l_mul (by omega) (by omega)
    rw [hu, l_add] <;> rw [this, l_lo] <;> omega
  have e8 := l_ss32 h8
  have e9 := l_ss32 h9
  have em : (x1 * y1).toInt = x1.toInt * y1.toInt := l_mul (by omega) (by omega)
  have es : (x1 * y1 + z8).toInt = x1.toInt * y1.toInt + z8.toInt := by rw [l_add] <;> rw [em] <;> omega
  rw [l_add] <;> rw [es]
  · rw [e8, e9]
    exact hp_high (by omega) (by omega) et eu
  · omega
  · omega
theorem uN_s32l (x : Int64) : uN (x <<< ((32 : Int32).toInt64 &&& 63)) = (uN x * 4294967296) % 18446744073709551616 := by
  have h : (((32 : Int32).toInt64 &&& 63).toBitVec.smod 64).toNat = 32 := by decide
  show (x.toBitVec <<< (((32 : Int32).toInt64 &&& 63).toBitVec.smod 64).toNat).toNat = _
  rw [h, BitVec.toNat_shiftLeft, Nat.shiftLeft_eq]
  rfl
theorem uN_orJ {x y : Int64} {a b : Nat} (hx : uN x = a) (ha : a < 4294967296) (hy : uN y = 4294967296 * b) : uN (x ||| y) = 4294967296 * b + a := by
  have h1 : uN (x ||| y) = uN x ||| uN y := UInt64.toNat_or _ _
  rw [h1, hx, hy, Nat.or_comm]
  exact (Nat.two_pow_add_eq_or_of_lt (i := 32) ha b).symm
theorem ap_low {q : Int} {low high low' z1 z2 : Int64} (hl : low.toInt % 18446744073709551616 = q % 18446744073709551616) (hh : high.toInt = q / 18446744073709551616) (h1 : (low.toUInt64 >>> ((32 : Int32).toInt64.toUInt64 &&& Int64.toUInt64 63)).toInt64 = z1) (h2 : high <<< ((32 : Int32).toInt64 &&& 63) = z2) (h3 : low' = z1 ||| z2) : low'.toInt % 18446744073709551616 = q / 4294967296 % 18446744073709551616 := by
  have e1 : uN z1 = uN low / 4294967296 := by rw [← h1, uN_s32]
  have e2 : uN z2 = 4294967296 * (uN high % 4294967296) := by rw [← h2, uN_s32l]; omega
  have hlt := uN_lt low
  have e3 := uN_orJ e1 (by omega) e2
  have f1 := uN_mod low
  have f2 := uN_mod high
  have f3 := uN_mod low'
  rw [← f3, h3, e3]
  omega
theorem ap_high {q : Int} {high high' : Int64} (hh : high.toInt = q / 18446744073709551616) (h1 : high >>> ((32 : Int32).toInt64 &&& 63) = high') : high'.toInt = q / 4294967296 / 18446744073709551616 := by
  rw [l_ss32 h1, hh]; omega
theorem ap_dig {q : Int} {i : Nat} {low : Int64} (hl : low.toInt % 18446744073709551616 = q / dP i % 18446744073709551616) : low &&& 4294967295 = dg q i := by
  refine dg_eq ?_
  rw [l_lo]; omega
theorem dP_div (q : Int) (i : Nat) : q / dP i / 4294967296 = q / dP (i + 1) := by rw [dP_s, Int.ediv_ediv_of_nonneg (Int.le_of_lt (dP_pos i))]
theorem dP_div2 (q : Int) (i j : Nat) : q / dP i / dP j = q / dP (i + j) := by rw [dP_add, Int.ediv_ediv_of_nonneg (Int.le_of_lt (dP_pos i))]
/-! a row of the product of two numbers -/
theorem mul_hi (t c y : Int) {B : Int} (hB : 0 < B) : (t + c * y) / B = t / B + c * (y / B) + (t % B + c * (y % B)) / B := by
  have h1 := Int.mul_ediv_add_emod t B
  have h2 := Int.mul_ediv_add_emod y B
  have h3 : t + c * y = (t % B + c * (y % B)) + B * (t / B + c * (y / B)) := by grind
  have h4 := d_lo (t % B + c * (y % B)) (t / B + c * (y / B)) hB
  rw [← h3] at h4
  omega
theorem mul_cr (t c y : Int) {B : Int} (hB : 0 < B) (hc : 0 ≤ c ∧ c < 4294967296) : 0 ≤ (t % B + c * (y % B)) / B ∧ (t % B + c * (y % B)) / B < 4294967296 := by
  have h1 := d_rng t hB
  have h2 := d_rng y hB
  have h3 : c * (y % B) ≤ 4294967295 * (y % B) := Int.mul_le_mul_of_nonneg_right (by omega) h2.1
  have h4 : 0 ≤ c * (y % B) := Int.mul_nonneg hc.1 h2.1
  exact ⟨d_ge hB (by omega), d_le hB (by omega)⟩
theorem mul_nx (t c y : Int) {B : Int} (hB : 0 < B) : (t % (B * 4294967296) + c * (y % (B * 4294967296))) / (B * 4294967296) = (c * (y / B % 4294967296) + t / B % 4294967296 + (t % B + c * (y % B)) / B) / 4294967296 := by
  rw [d_mod t hB (by decide), d_mod y hB (by decide)]
  have h3 : t % B + B * (t / B % 4294967296) + c * (y % B + B * (y / B % 4294967296)) = (t % B + c * (y % B)) + B * (t / B % 4294967296 + c * (y / B % 4294967296)) := by grind
  rw [h3, d_hi _ _ hB]
  congr 1
  omega
theorem mul_val {t c y : Int} {j : Nat} {lm yj gk r s : Int64} (hc : 0 ≤ c ∧ c < 4294967296) (hl : lm.toInt = c) (hy : yj = dg y j) (hg : gk.toInt = t / dP j % 4294967296) (hr : r.toInt = (t % dP j + c * (y % dP j)) / dP j) (hs : s = lm * yj + gk + r) : s.toInt % 18446744073709551616 = c * (y / dP j % 4294967296) + t / dP j % 4294967296 + (t % dP j + c * (y % dP j)) / dP j := by
  have h1 := mul_cr t c y (dP_pos j) hc
  have h2 := dg_T y j
  rw [← hy] at h2
  have m1 := @mb c (y / dP j % 4294967296) 4294967295 4294967295 (by omega) (by omega)
  have m2 : 0 ≤ c * (y / dP j % 4294967296) := Int.mul_nonneg hc.1 (by omega)
  have e : (lm * yj).toInt = (c * (y / dP j % 4294967296)).bmod (2 ^ 64) := by rw [Int64.toInt_mul, hl, h2]
  rw [hs, Int64.toInt_add, Int64.toInt_add, e, hg, hr]
  generalize c * (y / dP j % 4294967296) = P at *
  simp only [Int.bmod_def]
  repeat' split
  all_goals omega
theorem mul_d {t c y : Int} {j : Nat} {lm yj gk r s : Int64} (hc : 0 ≤ c ∧ c < 4294967296) (hl : lm.toInt = c) (hy : yj = dg y j) (hg : gk.toInt = t / dP j % 4294967296) (hr : r.toInt = (t % dP j + c * (y % dP j)) / dP j) (hs : s = lm * yj + gk + r) : (s &&& 4294967295).toInt = (t + c * y) / dP j % 4294967296 := by
  have h1 := mul_val hc hl hy hg hr hs
  rw [l_lo, mul_hi t c y (dP_pos j)]
  have h2 : c * (y / dP j) % 4294967296 = c * (y / dP j % 4294967296) % 4294967296 := by rw [Int.mul_emod, Int.mul_emod c (y / dP j % 4294967296), Int.emod_emod_of_dvd _ (Int.dvd_refl _)]
  omega
theorem mul_c {t c y : Int} {j : Nat} {lm yj gk r s r' : Int64} (hc : 0 ≤ c ∧ c < 4294967296) (hl : lm.toInt = c) (hy : yj = dg y j) (hg : gk.toInt = t / dP j % 4294967296) (hr : r.toInt = (t % dP j + c * (y % dP j)) / dP j) (hs : s = lm * yj + gk + r) (h' : (s.toUInt64 >>> ((32 : Int32).toInt64.toUInt64 &&& Int64.toUInt64 63)).toInt64 = r') : r'.toInt = (t % dP (j + 1) + c * (y % dP (j + 1))) / dP (j + 1) := by
  have h1 := mul_val hc hl hy hg hr hs
  rw [l_us32 h', h1, dP_s, mul_nx t c y (dP_pos j)]
/-! rows that are filled from the bottom -/
theorem f_step {i : Nat} {g d o : Nat → Int64} {x : Int64} (h1 : ∀ j, j < i → g j = d j) (hx : x = d i) : ∀ j, j < i + 1 → vp_updL g i x j = d j := s_step h1 hx
theorem f_rest {i : Nat} {g o : Nat → Int64} {x : Int64} (h2 : ∀ j, i ≤ j → g j = o j) : ∀ j, i + 1 ≤ j → vp_updL g i x j = o j := fun j hj => by rw [pk_uLn (by omega), h2 j (by omega)]
theorem x_s {x y : Int32} {i : Nat} (h : x.toInt = i) (hi : i < 2147483647) (hy : y = x + 1) : y.toInt = ((i + 1 : Nat) : Int) := by
  have e : (1 : Int32).toInt = 1 := rfl
  rw [hy, i_add] <;> rw [h, e] <;> omega
theorem x_p {x y : Int32} {i : Nat} (h : x.toInt = (i : Int) + 1 - 1) (hi : i < 2147483647) (hy : y = x + (-1)) : y.toInt = (i : Int) - 1 := by
  have e : (-1 : Int32).toInt = -1 := rfl
  rw [hy, i_add] <;> rw [h, e] <;> omega
/-- the number so far of a product: v + c * 2^(32 i) * y, digit by digit -/
theorem m_v1 {x y : Int} (i : Nat) : x % dP (i + 1) * y = x % dP i * y + dP i * (x / dP i % 4294967296 * y) := by
  rw [dP_s, d_mod x (dP_pos i) (by decide)]; grind
theorem m_hi (v z : Int) (i j : Nat) : (v + dP i * z) / dP (i + j) = (v / dP i + z) / dP j := by
  rw [dP_add, d_hi _ _ (dP_pos i)]
theorem m_lo (v z : Int) {i k : Nat} (h : k < i) : dg (v + dP i * z) k = dg v k := by
  refine (dg_eq ?_).symm
  rw [dg_T]
  obtain ⟨m, rfl⟩ : ∃ m, i = k + (m + 1) := ⟨i - k - 1, by omega⟩
  have e : v + dP (k + (m + 1)) * z = v + dP k * (4294967296 * (dP m * z)) := by rw [dP_add, dP_s]; grind
  rw [e, d_lo _ _ (dP_pos k)]
  omega
theorem m_g {v : Int} {i j : Nat} {gk : Int64} (h : gk = dg v (i + j)) : gk.toInt = v / dP i / dP j % 4294967296 := by rw [h, dg_T, dP_div2]
theorem m_d {v z : Int} {i j : Nat} {s : Int64} (h : s.toInt = (v / dP i + z) / dP j % 4294967296) : s = dg (v + dP i * z) (i + j) := dg_eq (by rw [h, m_hi])
