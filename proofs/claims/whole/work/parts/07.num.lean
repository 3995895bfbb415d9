def uN (x : Int64) : Nat := x.toUInt64.toNat
theorem uN_lt (x : Int64) : uN x < 18446744073709551616 := x.toUInt64.toNat_lt
theorem uN_inj {x y : Int64} (h : uN x = uN y) : x = y := congrArg UInt64.toInt64 (UInt64.toNat_inj.mp h)
theorem uN_add (x y : Int64) : uN (x + y) = (uN x + uN y) % 18446744073709551616 := by
  show (x.toUInt64 + y.toUInt64).toNat = _
  exact UInt64.toNat_add _ _
theorem uN_mul (x y : Int64) : uN (x * y) = (uN x * uN y) % 18446744073709551616 := by
  show (x.toUInt64 * y.toUInt64).toNat = _
  exact UInt64.toNat_mul _ _
theorem uN_shl (x : Int64) : uN (x <<< ((1 : Int32).toInt64 &&& 63)) = (2 * uN x) % 18446744073709551616 := by
  have h : (((1 : Int32).toInt64 &&& 63).toBitVec.smod 64).toNat = 1 := by decide
  show (x.toBitVec <<< (((1 : Int32).toInt64 &&& 63).toBitVec.smod 64).toNat).toNat = _
  rw [h, BitVec.toNat_shiftLeft, Nat.shiftLeft_eq, Nat.mul_comm]
  rfl
theorem uN_shr (x : Int64) (s : UInt64) : uN (x.toUInt64 >>> s).toInt64 = uN x / 2 ^ (s.toNat % 64) := by
  show (x.toUInt64 >>> s).toNat = _
  rw [UInt64.toNat_shiftRight, Nat.shiftRight_eq_div_pow]
  rfl
theorem uN_s32 (x : Int64) : uN (x.toUInt64 >>> ((32 : Int32).toInt64.toUInt64 &&& Int64.toUInt64 63)).toInt64 = uN x / 4294967296 := by
  have h : ((32 : Int32).toInt64.toUInt64 &&& Int64.toUInt64 63).toNat % 64 = 32 := by decide
  rw [uN_shr, h]
theorem uN_s63 (x : Int64) : uN (x.toUInt64 >>> ((63 : Int32).toInt64.toUInt64 &&& Int64.toUInt64 63)).toInt64 = uN x / 9223372036854775808 := by
  have h : ((63 : Int32).toInt64.toUInt64 &&& Int64.toUInt64 63).toNat % 64 = 63 := by decide
  rw [uN_shr, h]
theorem uN_lo (x : Int64) : uN (x &&& 4294967295) = uN x % 4294967296 := by
  show (x.toUInt64 &&& Int64.toUInt64 4294967295).toNat = _
  rw [UInt64.toNat_and]
  exact Nat.and_two_pow_sub_one_eq_mod _ 32
theorem uN_bit (x : Int64) : (x &&& 1) = 0 ↔ uN x % 2 = 0 := by
  have h : uN (x &&& 1) = uN x % 2 := by
    show (x.toUInt64 &&& Int64.toUInt64 1).toNat = _
    rw [UInt64.toNat_and]
    exact Nat.and_two_pow_sub_one_eq_mod _ 1
  rw [← h]
  exact ⟨fun z => by rw [z]; rfl, fun z => uN_inj (z.trans rfl)⟩
theorem uN_or {x y : Int64} (hy : uN y < 2) : uN ((x <<< ((1 : Int32).toInt64 &&& 63)) ||| y) = (2 * uN x) % 18446744073709551616 + uN y := by
  have h1 : uN ((x <<< ((1 : Int32).toInt64 &&& 63)) ||| y) = uN (x <<< ((1 : Int32).toInt64 &&& 63)) ||| uN y := UInt64.toNat_or _ _
  have h2 : (2 * uN x) % 18446744073709551616 = 2 ^ 1 * (uN x % 9223372036854775808) := by omega
  rw [h1, uN_shl, h2]
  exact (Nat.two_pow_add_eq_or_of_lt (i := 1) hy _).symm
theorem nat_xor {a : Nat} (h : a < 18446744073709551616) : a ^^^ 2 ^ 63 = (a + 9223372036854775808) % 18446744073709551616 := by
  have h1 : (a ^^^ 2 ^ 63) % 2 ^ 63 = a % 2 ^ 63 := by rw [Nat.xor_mod_two_pow, Nat.mod_self, Nat.xor_zero]
  have h2 : (a ^^^ 2 ^ 63) / 2 ^ 63 = (a / 2 ^ 63) ^^^ 1 := by rw [Nat.xor_div_two_pow, Nat.div_self (Nat.two_pow_pos 63)]
  have h3 : a / 2 ^ 63 = 0 ∨ a / 2 ^ 63 = 1 := by omega
  generalize a ^^^ 2 ^ 63 = t at h1 h2
  rcases h3 with h3 | h3
  · rw [h3] at h2
    have h2 : t / 2 ^ 63 = 1 := h2
    omega
  · rw [h3] at h2
    have h2 : t / 2 ^ 63 = 0 := h2
    omega
theorem uN_xor (x : Int64) : uN (x ^^^ (-9223372036854775808)) = (uN x + 9223372036854775808) % 18446744073709551616 := by
  rw [← nat_xor (uN_lt x)]
  exact UInt64.toNat_xor _ _
theorem uN_int (x : Int64) : x.toInt = if 2 * uN x < 18446744073709551616 then (uN x : Int) else (uN x : Int) - 18446744073709551616 := BitVec.toInt_eq_toNat_cond _
theorem uN_le (x y : Int64) : (x ^^^ (-9223372036854775808)) ≤ (y ^^^ (-9223372036854775808)) ↔ uN x ≤ uN y := by
  have hx := uN_lt x
  have hy := uN_lt y
  rw [Int64.le_iff_toInt_le, uN_int, uN_int, uN_xor, uN_xor]
  omega
theorem uN_sk (x : Int64) {k : Nat} (hk : k < 64) : uN (x.toUInt64 >>> ((nI k).toInt64.toUInt64 &&& Int64.toUInt64 63)).toInt64 = uN x / 2 ^ k := by
  have h : ((nI k).toInt64.toUInt64 &&& Int64.toUInt64 63).toNat % 64 = k := by
    rw [nI_l (by omega), UInt64.toNat_and]
    have e : (lN k).toUInt64.toNat = k % 2 ^ 64 := rfl
    have e2 : (Int64.toUInt64 63).toNat = 2 ^ 6 - 1 := by decide
    rw [e, e2, Nat.and_two_pow_sub_one_eq_mod]
    omega
  rw [uN_shr, h]
/-! Int64 by its number -/
theorem n_bm {z : Int} (h1 : -9223372036854775808 ≤ z) (h2 : z < 9223372036854775808) : z.bmod (2 ^ 64) = z := by
  rw [Int.bmod_def]; split <;> omega
theorem n_bm32 {z : Int} (h1 : -2147483648 ≤ z) (h2 : z < 2147483648) : z.bmod (2 ^ 32) = z := by
  rw [Int.bmod_def]; split <;> omega
theorem l_rng (x : Int64) : -9223372036854775808 ≤ x.toInt ∧ x.toInt < 9223372036854775808 := ⟨x.le_toInt, x.toInt_lt⟩
theorem i_rng (x : Int32) : -2147483648 ≤ x.toInt ∧ x.toInt < 2147483648 := ⟨x.le_toInt, x.toInt_lt⟩
theorem l_add {x y : Int64} (h1 : -9223372036854775808 ≤ x.toInt + y.toInt) (h2 : x.toInt + y.toInt < 9223372036854775808) : (x + y).toInt = x.toInt + y.toInt := by rw [Int64.toInt_add]; exact n_bm h1 h2
theorem l_sub {x y : Int64} (h1 : -9223372036854775808 ≤ x.toInt - y.toInt) (h2 : x.toInt - y.toInt < 9223372036854775808) : (x - y).toInt = x.toInt - y.toInt := by rw [Int64.toInt_sub]; exact n_bm h1 h2
theorem l_mul {x y : Int64} (h1 : -9223372036854775808 ≤ x.toInt * y.toInt) (h2 : x.toInt * y.toInt < 9223372036854775808) : (x * y).toInt = x.toInt * y.toInt := by rw [Int64.toInt_mul]; exact n_bm h1 h2
theorem l_neg {x : Int64} (h1 : -9223372036854775808 < x.toInt) : (-x).toInt = -x.toInt := by
  have := l_rng x
  rw [Int64.toInt_neg]; exact n_bm (by omega) (by omega)
theorem i_add {x y : Int32} (h1 : -2147483648 ≤ x.toInt + y.toInt) (h2 : x.toInt + y.toInt < 2147483648) : (x + y).toInt = x.toInt + y.toInt := by rw [Int32.toInt_add]; exact n_bm32 h1 h2
theorem i_sub {x y : Int32} (h1 : -2147483648 ≤ x.toInt - y.toInt) (h2 : x.toInt - y.toInt < 2147483648) : (x - y).toInt = x.toInt - y.toInt := by rw [Int32.toInt_sub]; exact n_bm32 h1 h2
theorem i_mul {x y : Int32} (h1 : -2147483648 ≤ x.toInt * y.toInt) (h2 : x.toInt * y.toInt < 2147483648) : (x * y).toInt = x.toInt * y.toInt := by rw [Int32.toInt_mul]; exact n_bm32 h1 h2
theorem uN_mod (x : Int64) : (uN x : Int) = x.toInt % 18446744073709551616 := by
  have := uN_lt x
  rw [uN_int]; split <;> omega
theorem uN_of {x : Int64} {k : Nat} (h : uN x = k) (hk : k < 9223372036854775808) : x.toInt = k := by
  rw [uN_int, h, if_pos (by omega)]
theorem l_lo (x : Int64) : (x &&& 4294967295).toInt = x.toInt % 4294967296 := by
  have h1 := uN_mod x
  rw [uN_of (uN_lo x) (by omega)]
  omega
theorem l_us32 {x v : Int64} (h : (x.toUInt64 >>> ((32 : Int32).toInt64.toUInt64 &&& Int64.toUInt64 63)).toInt64 = v) : v.toInt = x.toInt % 18446744073709551616 / 4294967296 := by
  have h1 := uN_mod x
  have h2 := uN_lt x
  rw [← h, uN_of (uN_s32 x) (by omega)]
  omega
theorem l_ss {x v : Int64} {y : Int32} (k : Nat) (hy : ((y.toInt64 &&& 63).toBitVec.smod 64).toNat = k) (h : x >>> (y.toInt64 &&& 63) = v) : v.toInt = x.toInt / 2 ^ k := by
  rw [← h]
  show (BitVec.sshiftRight x.toBitVec ((y.toInt64 &&& 63).toBitVec.smod 64).toNat).toInt = _
  rw [hy, BitVec.toInt_sshiftRight, Int.shiftRight_eq_div_pow]
  norm_cast
theorem l_ss32 {x v : Int64} (h : x >>> ((32 : Int32).toInt64 &&& 63) = v) : v.toInt = x.toInt / 4294967296 := l_ss 32 (by decide) h
theorem l_eq {x y : Int64} (h : x.toInt = y.toInt) : x = y := Int64.toInt_inj.mp h
theorem i_eq {x y : Int32} (h : x.toInt = y.toInt) : x = y := Int32.toInt_inj.mp h
theorem nI_T {k : Nat} (h : k < 2147483648) : (nI k).toInt = k := nI_toInt h
/-! digits in base 2^32 of an integer: those of its 2-complement -/
def dP (i : Nat) : Int := 4294967296 ^ i
theorem dP_0 : dP 0 = 1 := rfl
theorem dP_s (i : Nat) : dP (i + 1) = dP i * 4294967296 := Int.pow_succ _ _
theorem dP_pos (i : Nat) : 0 < dP i := Int.pow_pos (by decide)
theorem dP_add (i j : Nat) : dP (i + j) = dP i * dP j := Int.pow_add _ _ _
def dg (z : Int) (i : Nat) : Int64 := Int64.ofInt (z / dP i % 4294967296)
theorem dg_T (z : Int) (i : Nat) : (dg z i).toInt = z / dP i % 4294967296 := Int64.toInt_ofInt_of_le (by omega) (by omega)
theorem dg_rng (z : Int) (i : Nat) : 0 ≤ (dg z i).toInt ∧ (dg z i).toInt < 4294967296 := by rw [dg_T]; omega
theorem dg_eq {x : Int64} {z : Int} {i : Nat} (h : x.toInt = z / dP i % 4294967296) : x = dg z i := l_eq (h.trans (dg_T z i).symm)
theorem d_split (a : Int) {B : Int} (hB : 0 < B) : a = B * (a / B) + a % B := (Int.mul_ediv_add_emod a B).symm
theorem d_mod (a : Int) {B K : Int} (hB : 0 < B) (hK : 0 < K) : a % (B * K) = a % B + B * (a / B % K) := by
  have h1 := Int.mul_ediv_add_emod a (B * K)
  have h2 := Int.mul_ediv_add_emod a B
  have h3 := Int.mul_ediv_add_emod (a / B) K
  rw [Int.ediv_ediv_of_nonneg (Int.le_of_lt hB)] at h3
  have h4 : B * (a / B) = B * K * (a / (B * K)) + B * (a / B % K) := by
    rw [Int.mul_assoc, ← Int.mul_add, h3]
  omega
theorem d_add (a b : Int) {B : Int} (hB : 0 < B) : (a + b) / B = a / B + b / B + (a % B + b % B) / B := by
  have h1 := Int.mul_ediv_add_emod a B
  have h2 := Int.mul_ediv_add_emod b B
  have h3 : a + b = (a % B + b % B) + B * (a / B + b / B) := by rw [Int.mul_add]; omega
  rw [h3, Int.add_mul_ediv_left _ _ (by omega)]
  have e1 : (a % B + b % B + B * (a / B + b / B)) = a + b := h3.symm
  omega
/-- the carry into the next place -/
theorem d_carry (a b : Int) {B K : Int} (hB : 0 < B) (hK : 0 < K) : (a % (B * K) + b % (B * K)) / (B * K) = (a / B % K + b / B % K + (a % B + b % B) / B) / K := by
  rw [d_mod a hB hK, d_mod b hB hK, ← Int.ediv_ediv_of_nonneg (Int.le_of_lt hB)]
  have h3 : a % B + B * (a / B % K) + (b % B + B * (b / B % K)) = (a % B + b % B) + B * (a / B % K + b / B % K) := by rw [Int.mul_add]; omega
  rw [h3, Int.add_mul_ediv_left _ _ (by omega)]
  congr 1
  omega
