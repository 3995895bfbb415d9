theorem sgn_l {v a b : Int64} (ha : v >>> ((63 : Int32).toInt64 &&& 63) = a) (hb : ((-v).toUInt64 >>> ((63 : Int32).toInt64.toUInt64 &&& Int64.toUInt64 63)).toInt64 = b) : (a ||| b).toInt32 = sg v.toInt := by
  have h1 := l_ss 63 (by decide) ha
  have hr := l_rng v
  have h2 : uN b = uN (-v) / 9223372036854775808 := by rw [← hb, uN_s63]
  have h3 := uN_mod (-v)
  rw [Int64.toInt_neg, Int.bmod_def] at h3
  have e63 : (2 : Int) ^ 63 = 9223372036854775808 := rfl
  rw [e63] at h1
  have hb0 : v.toInt = 0 → b = 0 := fun h => uN_inj (by rw [h2]; split at h3 <;> (show _ = 0; omega))
  have hb1 : 0 < v.toInt → b = 1 := fun h => uN_inj (by rw [h2]; split at h3 <;> (show _ = 1; omega))
  have hb2 : b = 0 ∨ b = 1 := by
    have : uN b = 0 ∨ uN b = 1 := by rw [h2]; split at h3 <;> omega
    rcases this with h | h
    · exact Or.inl (uN_inj h)
    · exact Or.inr (uN_inj h)
  rcases Int.lt_trichotomy v.toInt 0 with h | h | h
  · have : a = -1 := l_eq (by rw [h1]; show _ = -1; omega)
    rw [this, sg_neg h]
    rcases hb2 with e | e <;> rw [e] <;> decide
  · have : a = 0 := l_eq (by rw [h1, h]; rfl)
    rw [this, hb0 h, sg_zero h]; decide
  · have : a = 0 := l_eq (by rw [h1]; show _ = 0; omega)
    rw [this, hb1 h, sg_pos h]; decide
/-- the sign of a plain number and a root with its side and square, as the class has it -/
def cs (P : Int) (side : Int32) (Q : Int) : Int32 := if side = 0 ∨ sg P = side then sg P else if sg P = 0 then side else sg P * sg (P * P - Q)
theorem cs_sq {P : Int} (h : -340282366920938463463374607431768211455 ≤ P ∧ P ≤ 340282366920938463463374607431768211455) : 0 ≤ P * P ∧ P * P < 115792089237316195423570985008687907853269984665640564039457584007913129639936 := by
  have h1 := @mb P P 340282366920938463463374607431768211455 340282366920938463463374607431768211455 (by omega) (by omega)
  have h2 : 0 ≤ P * P := by
    rcases Int.le_total 0 P with h | h
    · exact Int.mul_nonneg h h
    · have := Int.mul_nonneg (show 0 ≤ -P by omega) (show 0 ≤ -P by omega)
      rw [Int.neg_mul_neg] at this; exact this
  omega
