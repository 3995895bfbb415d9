def sg (z : Int) : Int32 := if z < 0 then -1 else if z = 0 then 0 else 1
theorem sg_neg {z : Int} (h : z < 0) : sg z = -1 := by unfold sg; rw [if_pos h]
theorem sg_zero {z : Int} (h : z = 0) : sg z = 0 := by unfold sg; rw [if_neg (by omega), if_pos h]
theorem sg_pos {z : Int} (h : 0 < z) : sg z = 1 := by unfold sg; rw [if_neg (by omega), if_neg (by omega)]
theorem sg_T (z : Int) : (z < 0 ∧ (sg z).toInt = -1) ∨ (z = 0 ∧ (sg z).toInt = 0) ∨ (0 < z ∧ (sg z).toInt = 1) := by
  rcases Int.lt_trichotomy z 0 with h | h | h
  · exact Or.inl ⟨h, by rw [sg_neg h]; rfl⟩
  · exact Or.inr (Or.inl ⟨h, by rw [sg_zero h]; rfl⟩)
  · exact Or.inr (Or.inr ⟨h, by rw [sg_pos h]; rfl⟩)
theorem x_dec {t y : Int32} {z : Int} (h : t.toInt = z) (hz : -2147483647 ≤ z) (hy : y = t + (-1)) : y.toInt = z - 1 := by
  have e : (-1 : Int32).toInt = -1 := rfl
  have := i_rng t
  rw [hy, i_add] <;> rw [h, e] <;> omega
theorem x_add {t u : Int32} {i j : Nat} (ht : t.toInt = i) (hu : u.toInt = j) (h : i + j < 2147483648) : (t + u).toInt = ((i + j : Nat) : Int) := by
  rw [i_add] <;> rw [ht, hu] <;> omega
/-! products -/
theorem m_c {x : Int} {i : Nat} {lm : Int64} (h : lm = dg x i) : lm.toInt = x / dP i % 4294967296 := by rw [h, dg_T]
theorem m_cr (x : Int) (i : Nat) : 0 ≤ x / dP i % 4294967296 ∧ x / dP i % 4294967296 < 4294967296 := by omega
theorem m_dig {x y : Int} {i j : Nat} {lm yj gk r s : Int64} (hl : lm = dg x i) (hy : yj = dg y j) (hg : gk = dg (x % dP i * y) (i + j)) (hr : r.toInt = (x % dP i * y / dP i % dP j + x / dP i % 4294967296 * (y % dP j)) / dP j) (hs : s = lm * yj + gk + r) : s &&& 4294967295 = dg (x % dP (i + 1) * y) (i + j) := by
  rw [m_v1]
  exact m_d (mul_d (m_cr x i) (m_c hl) hy (m_g hg) hr hs)
theorem m_car {x y : Int} {i j : Nat} {lm yj gk r s r' : Int64} (hl : lm = dg x i) (hy : yj = dg y j) (hg : gk = dg (x % dP i * y) (i + j)) (hr : r.toInt = (x % dP i * y / dP i % dP j + x / dP i % 4294967296 * (y % dP j)) / dP j) (hs : s = lm * yj + gk + r) (h' : (s.toUInt64 >>> ((32 : Int32).toInt64.toUInt64 &&& Int64.toUInt64 63)).toInt64 = r') : r'.toInt = (x % dP i * y / dP i % dP (j + 1) + x / dP i % 4294967296 * (y % dP (j + 1))) / dP (j + 1) := mul_c (m_cr x i) (m_c hl) hy (m_g hg) hr hs h'
theorem m_end {x y : Int} {i j : Nat} {g : Nat → Int64} (h1 : ∀ k, k < i + j → g k = dg (x % dP (i + 1) * y) k) (h2 : ∀ k, i + j ≤ k → k < 8 → g k = dg (x % dP i * y) k) (h : x / dP i % 4294967296 = 0 ∨ 8 ≤ i + j) : ∀ k, k < 8 → g k = dg (x % dP (i + 1) * y) k := by
  intro k hk
  by_cases hlt : k < i + j
  · exact h1 k hlt
  · rcases h with h | h
    · rw [h2 k (by omega) hk, m_v1, h, Int.zero_mul, Int.mul_zero, Int.add_zero]
    · omega
theorem m_beg {x y : Int} {i : Nat} {g : Nat → Int64} (h : ∀ k, k < 8 → g k = dg (x % dP i * y) k) (hi : i < 8) : ∀ k, k < i + 0 → g k = dg (x % dP (i + 1) * y) k := by
  intro k hk
  rw [h k (by omega), m_v1, m_lo _ _ (by omega)]
theorem m_r0 {x y : Int} {i : Nat} : (0 : Int64).toInt = (x % dP i * y / dP i % dP 0 + x / dP i % 4294967296 * (y % dP 0)) / dP 0 := by
  rw [dP_0, lT0, Int.emod_one, Int.emod_one, Int.mul_zero]; rfl
theorem m_st2 {i j : Nat} {g o : Nat → Int64} {x : Int64} (h2 : ∀ k, i + j ≤ k → k < 8 → g k = o k) : ∀ k, i + (j + 1) ≤ k → k < 8 → vp_updL g (i + j) x k = o k := fun k hk h8 => by rw [pk_uLn (by omega), h2 k (by omega) h8]
theorem m_st1 {i j : Nat} {g d : Nat → Int64} {x : Int64} (h1 : ∀ k, k < i + j → g k = d k) (hx : x = d (i + j)) : ∀ k, k < i + (j + 1) → vp_updL g (i + j) x k = d k := s_step h1 hx
theorem m_fin {x y : Int} (h : 0 ≤ 0) : ∀ k, k < 8 → dg (x % dP 8 * y) k = dg (x * y) k := by
  intro k hk
  have e : x * y = x % dP 8 * y + dP 8 * (x / dP 8 * y) := by
    have := Int.mul_ediv_add_emod x (dP 8)
    grind
  rw [e, m_lo _ _ hk]
/-! comparing -/
theorem ag_eq {x y : Int} {k : Nat} {a b : Int64} (he : x / dP (k + 1) = y / dP (k + 1)) (ha : a = dg x k) (hb : b = dg y k) (h : a.toInt = b.toInt) : x / dP k = y / dP k := by
  rw [ha, hb, dg_T, dg_T] at h
  rw [← dP_div, ← dP_div] at he
  omega
theorem ag_lt {x y : Int} {k : Nat} {a b : Int64} (he : x / dP (k + 1) = y / dP (k + 1)) (ha : a = dg x k) (hb : b = dg y k) (h : a.toInt < b.toInt) : x < y := by
  rw [ha, hb, dg_T, dg_T] at h
  rw [← dP_div, ← dP_div] at he
  have h3 : x / dP k < y / dP k := by omega
  have h4 := Int.mul_ediv_add_emod x (dP k)
  have h5 := Int.mul_ediv_add_emod y (dP k)
  have h6 := d_rng x (dP_pos k)
  have h7 := d_rng y (dP_pos k)
  have h8 : dP k * (x / dP k + 1) ≤ dP k * (y / dP k) := Int.mul_le_mul_of_nonneg_left h3 (Int.le_of_lt (dP_pos k))
  rw [Int.mul_add, Int.mul_one] at h8
  omega
theorem dP_8 : dP 8 = 115792089237316195423570985008687907853269984665640564039457584007913129639936 := rfl
theorem dP_7 : dP 7 = 26959946667150639794667015087019630673637144422540572481103610249216 := rfl
theorem l_us {x v : Int64} {y : Int32} (k : Nat) (hy : (y.toInt64.toUInt64 &&& Int64.toUInt64 63).toNat % 64 = k) (h : (x.toUInt64 >>> (y.toInt64.toUInt64 &&& Int64.toUInt64 63)).toInt64 = v) (hx : 0 ≤ x.toInt) : v.toInt = x.toInt / 2 ^ k := by
  have h1 := uN_mod x
  have h2 := l_rng x
  have h3 : uN v = uN x / 2 ^ k := by rw [← h, uN_shr, hy]
  have h4 : (uN x : Int) = x.toInt := by omega
  have h5 : uN x / 2 ^ k ≤ uN x := Nat.div_le_self _ _
  rw [uN_of h3 (by omega)]
  rw [← h4]; norm_cast
theorem sn_top {z : Int} {v : Int64} (h1 : -57896044618658097711785492504343953926634992332820282019728792003956564819968 ≤ z) (h2 : z < 57896044618658097711785492504343953926634992332820282019728792003956564819968) (h : ((dg z 7).toUInt64 >>> ((31 : Int32).toInt64.toUInt64 &&& Int64.toUInt64 63)).toInt64 = v) : v.toInt = 0 ↔ 0 ≤ z := by
  have e := l_us 31 (by decide) h (dg_rng z 7).1
  rw [e, dg_T, dP_7]
  omega
theorem sn_next {z : Int} {i : Nat} {v : Int64} (h : z % dP i = 0) (hv : v = dg z i) (h0 : v.toInt = 0) : z % dP (i + 1) = 0 := by
  rw [hv, dg_T] at h0
  rw [dP_s, d_mod z (dP_pos i) (by decide), h, h0, Int.mul_zero]; rfl
theorem sn_nz {z : Int} {i : Nat} {v : Int64} (hv : v = dg z i) (h0 : ¬ v.toInt = 0) : z ≠ 0 := by
  intro e
  rw [hv, dg_T, e, Int.zero_ediv] at h0
  exact h0 rfl
/-! halving -/
theorem hv_or {a b : Nat} {x y : Int64} (hx : uN x = a) (ha : a < 2147483648) (hy : uN y = 2147483648 * b) : uN (x ||| y) = 2147483648 * b + a := by
  have h1 : uN (x ||| y) = uN x ||| uN y := UInt64.toNat_or _ _
  rw [h1, hx, hy, Nat.or_comm]
  exact (Nat.two_pow_add_eq_or_of_lt (i := 31) ha b).symm
theorem uN_s31l (x : Int64) : uN (x <<< ((31 : Int32).toInt64 &&& 63)) = (uN x * 2147483648) % 18446744073709551616 := by
  have h : (((31 : Int32).toInt64 &&& 63).toBitVec.smod 64).toNat = 31 := by decide
  show (x.toBitVec <<< (((31 : Int32).toInt64 &&& 63).toBitVec.smod 64).toNat).toNat = _
  rw [h, BitVec.toNat_shiftLeft, Nat.shiftLeft_eq]
  rfl
theorem l_and1 (x : Int64) : (x &&& 1).toInt = x.toInt % 2 := by
  have h : uN (x &&& 1) = uN x % 2 := by
    show (x.toUInt64 &&& Int64.toUInt64 1).toNat = _
    rw [UInt64.toNat_and]
    exact Nat.and_two_pow_sub_one_eq_mod _ 1
  have h1 := uN_mod x
  rw [uN_of h (by omega)]
  omega
theorem hv_dig {z : Int} {k : Nat} {lm r z1 z2 : Int64} (hl : lm = dg z k) (hr : r.toInt = z / dP (k + 1) % 2) (h1 : (lm.toUInt64 >>> ((1 : Int32).toInt64.toUInt64 &&& Int64.toUInt64 63)).toInt64 = z1) (h2 : r <<< ((31 : Int32).toInt64 &&& 63) = z2) : z1 ||| z2 = dg (z / 2) k := by
  have e0 := dg_T z k
  rw [← hl] at e0
  have e1 : uN z1 = uN lm / 2 := by
    rw [← h1, uN_shr]
    have : ((1 : Int32).toInt64.toUInt64 &&& Int64.toUInt64 63).toNat % 64 = 1 := by decide
    rw [this]
  have hm := uN_mod lm
  have hn := uN_mod r
  have e2 : uN z2 = 2147483648 * uN r := by rw [← h2, uN_s31l]; omega
  have e3 := hv_or e1 (by omega) e2
  refine dg_eq ?_
  rw [uN_of e3 (by omega)]
  have e4 : z / 2 / dP k = z / dP k / 2 := by
    rw [Int.ediv_ediv_of_nonneg (by decide), Int.ediv_ediv_of_nonneg (Int.le_of_lt (dP_pos k)), Int.mul_comm]
  rw [e4]
  rw [← dP_div] at hr
  omega
theorem hv_fall {z : Int} {k : Nat} {lm r' : Int64} (hl : lm = dg z k) (h : r' = lm &&& 1) : r'.toInt = z / dP k % 2 := by
  rw [h, l_and1, hl, dg_T]; omega
/-- rows that are filled from the top -/
theorem t_step {k : Nat} {g d : Nat → Int64} {x : Int64} (h1 : ∀ j, k + 1 ≤ j → j < 8 → g j = d j) (hx : x = d k) : ∀ j, k ≤ j → j < 8 → vp_updL g k x j = d j := by
  intro j hj h8
  by_cases e : j = k
  · rw [e, pk_uLs, hx]
  · rw [pk_uLn e, h1 j (by omega) h8]
theorem t_rest {k : Nat} {g o : Nat → Int64} {x : Int64} (h2 : ∀ j, j < k + 1 → g j = o j) : ∀ j, j < k → vp_updL g k x j = o j := fun j hj => by rw [pk_uLn (by omega), h2 j (by omega)]
