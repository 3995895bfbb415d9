/-! root, limbs -/
theorem rt_go {M h b1 b0 : Int} (h0 : 0 ≤ h) (h1 : h * h ≤ M) (h2 : M < (h + 1) * (h + 1)) (hb1 : b1 = 0 ∨ b1 = 1) (hb0 : b0 = 0 ∨ b0 = 1) (hg : 4 * h + 1 ≤ 2 * (2 * (M - h * h) + b1) + b0) : (2 * h + 1) * (2 * h + 1) ≤ 4 * M + 2 * b1 + b0 ∧ 4 * M + 2 * b1 + b0 < (2 * h + 1 + 1) * (2 * h + 1 + 1) ∧ 2 * (2 * (M - h * h) + b1) + b0 - (4 * h + 1) = 4 * M + 2 * b1 + b0 - (2 * h + 1) * (2 * h + 1) := by
  have e1 : (h + 1) * (h + 1) = h * h + 2 * h + 1 := by grind
  have e2 : (2 * h + 1) * (2 * h + 1) = 4 * (h * h) + 4 * h + 1 := by grind
  have e3 : (2 * h + 1 + 1) * (2 * h + 1 + 1) = 4 * (h * h) + 8 * h + 4 := by grind
  rw [e1] at h2
  rw [e2, e3]
  omega
theorem rt_no {M h b1 b0 : Int} (h0 : 0 ≤ h) (h1 : h * h ≤ M) (h2 : M < (h + 1) * (h + 1)) (hb1 : b1 = 0 ∨ b1 = 1) (hb0 : b0 = 0 ∨ b0 = 1) (hg : 2 * (2 * (M - h * h) + b1) + b0 < 4 * h + 1) : (2 * h) * (2 * h) ≤ 4 * M + 2 * b1 + b0 ∧ 4 * M + 2 * b1 + b0 < (2 * h + 1) * (2 * h + 1) ∧ 2 * (2 * (M - h * h) + b1) + b0 = 4 * M + 2 * b1 + b0 - (2 * h) * (2 * h) := by
  have e1 : (h + 1) * (h + 1) = h * h + 2 * h + 1 := by grind
  have e2 : (2 * h + 1) * (2 * h + 1) = 4 * (h * h) + 4 * h + 1 := by grind
  have e3 : (2 * h) * (2 * h) = 4 * (h * h) := by grind
  rw [e1] at h2
  rw [e2, e3]
  omega
theorem rt_bits {N : Int} {j : Nat} : N / 2 ^ (2 * j) = 4 * (N / 2 ^ (2 * (j + 1))) + 2 * (N / 2 ^ (2 * j + 1) % 2) + N / 2 ^ (2 * j) % 2 := by
  have h1 := @dv_bit N (2 * j)
  have h2 := @dv_bit N (2 * j + 1)
  rw [show 2 * j + 1 + 1 = 2 * (j + 1) by omega] at h2
  omega
theorem lm_or {a b : Int32} {z : Int64} (ha : 0 ≤ a.toInt ∧ a.toInt < 65536) (hb : 0 ≤ b.toInt ∧ b.toInt < 65536) (hz : b.toInt64 <<< ((16 : Int32).toInt64 &&& 63) = z) : (a.toInt64 ||| z).toInt = a.toInt + 65536 * b.toInt := by
  have h1 := uN_mod a.toInt64
  have h2 := uN_mod b.toInt64
  rw [i_toL] at h1 h2
  have e16 : uN z = 65536 * uN b.toInt64 := by
    have h : (((16 : Int32).toInt64 &&& 63).toBitVec.smod 64).toNat = 16 := by decide
    rw [← hz]
    show (b.toInt64.toBitVec <<< (((16 : Int32).toInt64 &&& 63).toBitVec.smod 64).toNat).toNat = _
    rw [h, BitVec.toNat_shiftLeft, Nat.shiftLeft_eq]
    show (uN b.toInt64 * 65536) % 18446744073709551616 = _
    omega
  have ho : uN (a.toInt64 ||| z) = uN a.toInt64 ||| uN z := UInt64.toNat_or _ _
  have e2 : uN (a.toInt64 ||| z) = 65536 * uN b.toInt64 + uN a.toInt64 := by
    rw [ho, e16, Nat.or_comm]
    exact (Nat.two_pow_add_eq_or_of_lt (i := 16) (show uN a.toInt64 < 65536 by omega) _).symm
  rw [uN_of e2 (by omega)]
  omega
theorem lm_dig (N : Int) (k : Nat) : N / eP (2 * k) % 65536 + 65536 * (N / eP (2 * k + 1) % 65536) = N / dP k % 4294967296 := by
  have e : dP k = eP (2 * k) := by
    unfold dP eP
    rw [Int.pow_mul]; rfl
  rw [e, ← eP_div]
  omega
theorem lm_ix {r x : Int32} {d k : Nat} (hr : r.toInt = d) (hx : x.toInt = k) (hd : d < 16) (hk : k < 10) : (20 * r + 2 * x).toInt = ((20 * d + 2 * k : Nat) : Int) := by
  have e : (2 * x).toInt = ((2 * k : Nat) : Int) := by rw [i_mul] <;> rw [hx, iT2] <;> omega
  have e2 : (20 * r).toInt = 20 * d := by rw [i_mul] <;> rw [hr, iT20] <;> omega
  rw [i_add] <;> rw [e, e2] <;> omega
theorem lm_ix1 {r x : Int32} {d k : Nat} (hr : r.toInt = d) (hx : x.toInt = k) (hd : d < 16) (hk : k < 10) : (20 * r + 2 * x + 1).toInt = ((20 * d + (2 * k + 1) : Nat) : Int) := by
  have e := lm_ix hr hx hd hk
  rw [i_add] <;> rw [e, iT1] <;> omega
/-- the sign of U + f times the root of R -/
def rs (U f R : Int) : Int32 := if sg U = 0 ∨ f = 0 ∨ sg R = 0 ∨ sg U = sg f then (if sg U = 0 then (if sg R = 0 then 0 else sg f) else sg U) else (if U * U - f * f * R = 0 then 0 else if 0 < U * U - f * f * R then sg U else sg f)
theorem sq_ge {h : Int} (h0 : 0 ≤ h) : h ≤ h * h := by
  by_cases e : h = 0
  · rw [e]; decide
  · have : h * 1 ≤ h * h := Int.mul_le_mul_of_nonneg_left (by omega) h0
    omega
theorem okS_rt {zs : List Int} {sf s2 : Nat → Int32} {d : Nat} {h v x : Int} (hl : zs.length = 16) (hd : d < 16) (hS : okS zs sf) (h1 : ok1 (s2 d) h) (h2 : ok1 (s2 12) v) (h3 : ok1 (s2 14) x) (hso : ∀ r, r ≠ 12 → r ≠ d → r ≠ 14 → s2 r = sf r) (hd1 : d ≠ 12) (hd2 : d ≠ 14) : okS (((zs.set d h).set 12 v).set 14 x) s2 :=
  okS_cong (okS_set (by simp [hl]) (by decide) (okS_set (by simp [hl]) (by decide) (okS_set hl hd hS h1) h2) h3) (fun r => by
    by_cases e1 : r = 14
    · rw [e1, pk_us]
    · rw [pk_un e1]
      by_cases e2 : r = 12
      · rw [e2, pk_us]
      · rw [pk_un e2]
        by_cases e3 : r = d
        · rw [e3, pk_us]
        · rw [pk_un e3, hso r e2 e3 e1])
theorem vl_or {N : Int} {a b z : Int64} (ha : a.toInt = ((N.natAbs : Nat) : Int) / dP 0 % 4294967296) (hb : b.toInt = ((N.natAbs : Nat) : Int) / dP 1 % 4294967296) (hz : b <<< ((32 : Int32).toInt64 &&& 63) = z) (hN : N.natAbs < 9223372036854775808) : (a ||| z).toInt = (N.natAbs : Int) := by
  have d1 : dP 1 = 4294967296 := rfl
  rw [dP_0, Int.ediv_one] at ha
  rw [d1] at hb
  have h1 := uN_mod a
  have h2 := uN_mod b
  have e2 : uN z = 4294967296 * uN b := by rw [← hz, uN_s32l]; omega
  have e3 := uN_orJ (x := a) (y := z) rfl (by omega) e2
  rw [uN_of e3 (by omega)]
  omega
