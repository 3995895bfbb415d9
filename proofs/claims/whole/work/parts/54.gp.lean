/-! bits, division, common divisors: the class's Whole and Gap -/
theorem i_us {x v : Int32} (k : Nat) {y : Int32} (hy : ((y.toUInt32 &&& Int32.toUInt32 31).toNat % 32) = k) (hx : 0 ≤ x.toInt) (h : (x.toUInt32 >>> (y.toUInt32 &&& Int32.toUInt32 31)).toInt32 = v) : v.toInt = x.toInt / 2 ^ k := by
  have hr := i_rng x
  have e1 : (x.toUInt32.toNat : Int) = x.toInt := by
    have : x.toInt = if 2 * x.toUInt32.toNat < 2 ^ 32 then (x.toUInt32.toNat : Int) else (x.toUInt32.toNat : Int) - (2 ^ 32 : Nat) := BitVec.toInt_eq_toNat_cond _
    have h2 : x.toUInt32.toNat < 4294967296 := x.toUInt32.toNat_lt
    have h3 : (2 : Nat) ^ 32 = 4294967296 := rfl
    rw [h3] at this
    split at this <;> omega
  have e2 : (x.toUInt32 >>> (y.toUInt32 &&& Int32.toUInt32 31)).toNat = x.toUInt32.toNat / 2 ^ k := by
    rw [UInt32.toNat_shiftRight, hy, Nat.shiftRight_eq_div_pow]
  have e3 : v.toUInt32.toNat = x.toUInt32.toNat / 2 ^ k := by rw [← h]; exact e2
  have h5 : x.toUInt32.toNat / 2 ^ k ≤ x.toUInt32.toNat := Nat.div_le_self _ _
  have h6 : v.toInt = if 2 * v.toUInt32.toNat < 2 ^ 32 then (v.toUInt32.toNat : Int) else (v.toUInt32.toNat : Int) - (2 ^ 32 : Nat) := BitVec.toInt_eq_toNat_cond _
  have h7 : (2 : Nat) ^ 32 = 4294967296 := rfl
  rw [h7] at h6
  rw [if_pos (by omega)] at h6
  rw [h6, e3, Int.natCast_ediv, e1, Int.natCast_pow]
  rfl
theorem l_i32 {v : Int64} (h : 0 ≤ v.toInt ∧ v.toInt < 4294967296) : v.toInt32.toInt = if v.toInt < 2147483648 then v.toInt else v.toInt - 4294967296 := by
  rw [Int64.toInt_toInt32, Int.bmod_def]
  have h7 : (2 : Nat) ^ 32 = 4294967296 := rfl
  rw [h7]
  split <;> split <;> omega
theorem l_u32 {v a : Int64} (h : 0 ≤ v.toInt ∧ v.toInt < 4294967296) (ha : (v.toUInt64 >>> ((32 : Int32).toInt64.toUInt64 &&& Int64.toUInt64 63)).toInt64 = a) : a = 0 := by
  have h1 := uN_s32 v
  rw [ha] at h1
  have h2 := uN_mod v
  have h3 : uN a = 0 := by omega
  exact uN_inj h3
/-- b is the number of z's bits -/
def btR (z : Int) (b : Nat) : Prop := z < 2 ^ b ∧ (b = 0 ∨ (2 : Int) ^ (b - 1) ≤ z)
theorem bt_0 {z : Int} (h : z = 0) : btR z 0 := ⟨by rw [h]; decide, Or.inl rfl⟩
theorem bt_k {z d : Int} {k b : Nat} (hd : d = z / dP k) (h1 : (2 : Int) ^ b ≤ d) (h2 : d < 2 ^ (b + 1)) : btR z (32 * k + b + 1) := by
  have e : ∀ n : Nat, (2 : Int) ^ (32 * k + n) = dP k * 2 ^ n := fun n => by
    unfold dP
    rw [Int.pow_add, Int.pow_mul, show (2 : Int) ^ 32 = 4294967296 from rfl]
  have hp := dP_pos k
  refine ⟨?_, Or.inr ?_⟩
  · rw [Nat.add_assoc, e]
    have : z < dP k * (z / dP k + 1) := by
      have := Int.lt_ediv_add_one_mul_self z hp
      rw [Int.mul_comm]; exact this
    have h3 : dP k * (z / dP k + 1) ≤ dP k * 2 ^ (b + 1) := Int.mul_le_mul_of_nonneg_left (by omega) (Int.le_of_lt hp)
    omega
  · show (2 : Int) ^ (32 * k + b) ≤ z
    rw [e]
    have h3 : dP k * 2 ^ b ≤ dP k * (z / dP k) := Int.mul_le_mul_of_nonneg_left (by omega) (Int.le_of_lt hp)
    have h4 := Int.mul_ediv_self_le (x := z) (k := dP k) (by omega)
    omega
/-- how many zeros lead -/
def nlR (v : Int) (z : Int) : Prop := ∃ b : Nat, z = 31 - b ∧ b ≤ 31 ∧ (2 : Int) ^ b ≤ v ∧ v < 2 ^ (b + 1)
theorem nl_n {v : Int64} {x z : Int32} (h : 0 < v.toInt ∧ v.toInt < 4294967296) (hx : x = v.toInt32) (hn : x.toInt < 0 → z.toInt = 0) (hp : 0 < x.toInt → nlR x.toInt z.toInt) : nlR v.toInt z.toInt := by
  have e := l_i32 (v := v) ⟨by omega, h.2⟩
  rw [← hx] at e
  split at e
  · rw [← e]; exact hp (by omega)
  · refine ⟨31, by rw [hn (by omega)]; rfl, by decide, ?_, ?_⟩
    · show (2147483648 : Int) ≤ _; omega
    · show _ < (4294967296 : Int); omega
theorem bt_top {z : Int} {k : Nat} (h0 : 0 ≤ z) (h : z / dP (k + 1) = 0) : (dg z k).toInt = z / dP k ∧ 0 ≤ z / dP k ∧ z / dP k < 4294967296 := by
  rw [← dP_div] at h
  have h1 : 0 ≤ z / dP k := Int.ediv_nonneg h0 (Int.le_of_lt (dP_pos k))
  rw [dg_T]
  omega
theorem bt_nx {z : Int} {k : Nat} (h0 : 0 ≤ z) (h : z / dP (k + 1) = 0) (hz : (dg z k).toInt = 0) : z / dP k = 0 := (bt_top h0 h).1.symm.trans hz
theorem bt_v {t w z : Int32} {k b : Nat} (hk : k < 8) (ht : t.toInt = k) (hb : b ≤ 31) (hw : w.toInt = 32 + (31 - (b : Int))) (hz : z = 32 * t + 64 - w) : z = nI (32 * k + b + 1) := by
  have e1 : (32 * t).toInt = 32 * (k : Int) := by rw [i_mul] <;> rw [iT32, ht] <;> omega
  have e2 : (32 * t + 64).toInt = 32 * (k : Int) + 64 := by rw [i_add] <;> rw [e1, iT64] <;> omega
  have e3 : z.toInt = ((32 * k + b + 1 : Nat) : Int) := by
    rw [hz, i_sub] <;> rw [e2, hw] <;> omega
  exact i_nI e3 (by omega)
/-! dividing -/
theorem dv_lt {a b : Int} {na nb : Nat} (ha : btR a na) (hb : btR b nb) (hb0 : 0 < b) (h : na < nb) : a < b := by
  rcases hb.2 with e | e
  · omega
  · have h1 : (2 : Nat) ^ na ≤ 2 ^ (nb - 1) := Nat.pow_le_pow_right (by decide) (by omega)
    have e1 : ((2 ^ na : Nat) : Int) = (2 : Int) ^ na := Int.natCast_pow 2 na
    have e2 : ((2 ^ (nb - 1) : Nat) : Int) = (2 : Int) ^ (nb - 1) := Int.natCast_pow 2 (nb - 1)
    have := ha.1
    omega
theorem dv_0 {a b : Int} {na nb sh : Nat} (ha : btR a na) (hb : btR b nb) (hb0 : 0 < b) (h : na = nb + sh) : a < b * 2 ^ (sh + 1) := by
  have h1 := ha.1
  rcases hb.2 with e | e
  · exfalso
    have := hb.1
    rw [e] at this
    have : b < 1 := this
    omega
  · have hn : ¬ nb = 0 := fun q => by
      have := hb.1
      rw [q] at this
      have : b < 1 := this
      omega
    have e1 : (2 : Int) ^ na = 2 ^ (nb - 1) * 2 ^ (sh + 1) := by rw [← Int.pow_add]; congr 1; omega
    have h2 : (2 : Int) ^ (nb - 1) * 2 ^ (sh + 1) ≤ b * 2 ^ (sh + 1) := Int.mul_le_mul_of_nonneg_right e (Int.le_of_lt (rd_p _))
    omega
theorem dv_b {b T : Int} {na nb sh k : Nat} (hb : btR b nb) (hb0 : 0 < b) (h : na = nb + sh) (hk : k ≤ sh) (hT : T = b * 2 ^ k) (hn : na ≤ 256) : 0 ≤ T ∧ T < 115792089237316195423570985008687907853269984665640564039457584007913129639936 := by
  have h1 := rd_p k
  have h2 := Int.mul_nonneg (Int.le_of_lt hb0) (Int.le_of_lt h1)
  have h3 : b * 2 ^ k < 2 ^ nb * 2 ^ k := Int.mul_lt_mul_of_pos_right hb.1 h1
  have h4 : (2 : Int) ^ nb * 2 ^ k = 2 ^ (nb + k) := (Int.pow_add _ _ _).symm
  have h5 : (2 : Nat) ^ (nb + k) ≤ 2 ^ 256 := Nat.pow_le_pow_right (by decide) (by omega)
  have e1 : ((2 ^ (nb + k) : Nat) : Int) = (2 : Int) ^ (nb + k) := Int.natCast_pow 2 (nb + k)
  have e2 : (2 : Nat) ^ 256 = 115792089237316195423570985008687907853269984665640564039457584007913129639936 := by decide
  rw [hT]; omega
theorem dv_m {q : Int} {k : Nat} (h : q % 2 ^ (k + 1) = 0) : (q + 2 ^ k) % 2 ^ k = 0 := by
  obtain ⟨c, hc⟩ := Int.dvd_of_emod_eq_zero h
  rw [hc, rd_2]
  apply Int.emod_eq_zero_of_dvd
  exact ⟨2 * c + 1, by rw [Int.mul_add, Int.mul_one, Int.mul_comm 2 (2 ^ k), Int.mul_assoc]⟩
theorem dv_m2 {q : Int} {k : Nat} (h : q % 2 ^ (k + 1) = 0) : q % 2 ^ k = 0 := by
  obtain ⟨c, hc⟩ := Int.dvd_of_emod_eq_zero h
  rw [hc, rd_2]
  apply Int.emod_eq_zero_of_dvd
  exact ⟨2 * c, by rw [Int.mul_comm 2 (2 ^ k), Int.mul_assoc]⟩
section DV
variable {a b r q T : Int} {k : Nat}
theorem dv_u (he : a = q * b + r) (hT : T = b * 2 ^ k) : a = (q + 2 ^ k) * b + (r - T) := by rw [he, hT, Int.add_mul, Int.mul_comm b]; omega
theorem dv_ur (hr : 0 ≤ r ∧ r < b * 2 ^ (k + 1)) (hT : T = b * 2 ^ k) (hc : ¬ r - T < 0) : 0 ≤ r - T ∧ r - T < b * 2 ^ k := by
  have e : b * 2 ^ (k + 1) = 2 * (b * 2 ^ k) := by rw [rd_2, ← Int.mul_assoc, Int.mul_comm b 2, Int.mul_assoc]
  rw [e] at hr; omega
theorem dv_lr (hr : 0 ≤ r ∧ r < b * 2 ^ (k + 1)) (hT : T = b * 2 ^ k) (hc : r - T < 0) : 0 ≤ r ∧ r < b * 2 ^ k := by omega
theorem dv_end (hb : 0 < b) (he : a = q * b + r) (hr : 0 ≤ r ∧ r < b * 2 ^ 0) : q = a / b ∧ r = a % b := by
  rw [Int.pow_zero, Int.mul_one] at hr
  have h := (Int.ediv_emod_unique (a := a) (b := b) (r := r) (q := q) hb).mpr ⟨by rw [he, Int.mul_comm]; omega, hr.1, hr.2⟩
  exact ⟨h.1.symm, h.2.symm⟩
theorem dv_sm (hb : 0 < b) (h0 : 0 ≤ a) (h : a < b) : a / b = 0 ∧ a % b = a := ⟨Int.ediv_eq_zero_of_lt h0 h, Int.emod_eq_of_lt h0 h⟩
end DV
/-! common divisors -/
theorem cd_gc {a b : Int} (ha : 0 ≤ a) (hb : 0 ≤ b) : gc b (a % b) = gc a b := by
  have h := gc_step a b
  rw [Int.natAbs_of_nonneg ha, Int.natAbs_of_nonneg hb] at h
  exact h
theorem cd_half {a b : Int} (hb : 0 < b) (hab : b < a) : 2 * (a % b) < a := by
  have h1 := Int.emod_lt_of_pos a hb
  have h2 := Int.emod_nonneg a (show b ≠ 0 by omega)
  have h3 := Int.mul_ediv_add_emod a b
  have h4 : 1 ≤ a / b := (Int.le_ediv_iff_mul_le hb).mpr (by omega)
  have h5 : b * 1 ≤ b * (a / b) := Int.mul_le_mul_of_nonneg_left h4 (Int.le_of_lt hb)
  omega
theorem cd_st {a b : Int} {j M : Nat} (ha : 0 ≤ a) (hb : 0 < b) (hM : a * b < 2 ^ M) (h : (j = 0 ∧ M ≤ 250) ∨ (b < a ∧ j + M ≤ 251)) : ∃ M' : Nat, b * (a % b) < 2 ^ M' ∧ (a % b < b ∧ j + 1 + M' ≤ 251) := by
  have h1 := Int.emod_lt_of_pos a hb
  have h2 := Int.emod_nonneg a (show b ≠ 0 by omega)
  rcases h with h | h
  · refine ⟨M, ?_, h1, by omega⟩
    have h3 : a % b ≤ a := by
      have q1 := Int.mul_ediv_add_emod a b
      have q2 := Int.mul_nonneg (Int.le_of_lt hb) (Int.ediv_nonneg ha (Int.le_of_lt hb))
      omega
    have h4 := Int.mul_le_mul_of_nonneg_left h3 (Int.le_of_lt hb)
    rw [Int.mul_comm a b] at hM
    omega
  · have h3 := cd_half hb h.1
    have h4 := Int.mul_lt_mul_of_pos_left h3 hb
    have hM0 : ¬ M = 0 := fun q => by
      rw [q] at hM
      have h5 : a * b < 1 := hM
      have h6 : 1 * 1 ≤ a * b := Int.mul_le_mul (by omega) (by omega) (by decide) (by omega)
      omega
    obtain ⟨N, rfl⟩ : ∃ N, M = N + 1 := ⟨M - 1, by omega⟩
    refine ⟨N, ?_, h1, by omega⟩
    rw [rd_2, Int.mul_comm a b] at hM
    have h7 : b * (2 * (a % b)) = 2 * (b * (a % b)) := by rw [← Int.mul_assoc, Int.mul_comm b 2, Int.mul_assoc]
    omega
theorem cd_j {a b : Int} {j M : Nat} (h : (j = 0 ∧ M ≤ 250) ∨ (b < a ∧ j + M ≤ 251)) : j ≤ 251 := by omega
theorem iT65536 : (65536 : Int32).toInt = 65536 := by decide
theorem iT256 : (256 : Int32).toInt = 256 := by decide
theorem bt_pos {b : Int} {n : Nat} (h : btR b n) (hb : 0 < b) : 0 < n := by
  rcases Nat.eq_zero_or_pos n with q | q
  · have := h.1
    rw [q] at this
    have : b < 1 := this
    omega
  · exact q
