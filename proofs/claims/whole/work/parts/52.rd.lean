/-! rounding numbers with roots, as the class does it -/
theorem rd_2 (k : Nat) : (2 : Int) ^ (k + 1) = 2 * 2 ^ k := by rw [Int.pow_succ, Int.mul_comm]
theorem rd_p (k : Nat) : (0 : Int) < 2 ^ k := Int.pow_pos (by decide)
theorem rd_T {B T : Int} {k : Nat} (h : T = B * 2 ^ (k + 1) / 2) : T = B * 2 ^ k := by
  rw [h, rd_2, ← Int.mul_assoc, Int.mul_comm B 2, Int.mul_assoc, Int.mul_ediv_cancel_left _ (by decide)]
theorem rd_0 (b : Int) (k : Nat) : b * 2 ^ k = b * 2 ^ (k + 1) / 2 := by
  rw [rd_2, ← Int.mul_assoc, Int.mul_comm b 2, Int.mul_assoc, Int.mul_ediv_cancel_left _ (by decide)]
theorem rd_le {k : Nat} (h : k ≤ 42) : (2 : Int) ^ k ≤ 4398046511104 := by
  have h2 : (2 : Nat) ^ k ≤ 2 ^ 42 := Nat.pow_le_pow_right (by decide) h
  have e : ((2 ^ k : Nat) : Int) = (2 : Int) ^ k := Int.natCast_pow 2 k
  have e3 : (2 : Nat) ^ 42 = 4398046511104 := rfl
  omega
theorem rd_B {B T : Int} {k : Nat} (h0 : 0 ≤ B) (hB : B ≤ 38685626227668133590597632) (hk : k ≤ 42) (hT : T = B * 2 ^ k) : 0 ≤ T ∧ T ≤ 170141183460469231731687303715884105728 := by
  have h1 := rd_le hk
  have h2 := rd_p k
  have h3 : B * 2 ^ k ≤ 38685626227668133590597632 * 4398046511104 := Int.mul_le_mul hB h1 (Int.le_of_lt h2) (by decide)
  have h4 := Int.mul_nonneg h0 (Int.le_of_lt h2)
  rw [hT]; omega
theorem rd_m {B x : Int} (h0 : 0 ≤ B) (hB : B ≤ 38685626227668133590597632) (h1 : -4398046511104 ≤ x) (h2 : x ≤ 4398046511104) : -170141183460469231731687303715884105728 ≤ x * B ∧ x * B ≤ 170141183460469231731687303715884105728 := by
  have := @mb x B 4398046511104 38685626227668133590597632 (by omega) (by omega)
  omega
theorem rd_sh {t : Int32} {k : Nat} {x : Int64} (ht : t.toInt = k) (hk : k ≤ 42) (e : (1 : Int64) <<< (t.toInt64 &&& 63) = x) : x.toInt = 2 ^ k := by
  have e2 : t = nI k := i_nI ht (by omega)
  subst e2
  have h := uN_shlk 1 (k := k) (by omega)
  rw [e] at h
  have h1 : uN 1 = 1 := rfl
  have h2 : (2 : Nat) ^ k ≤ 2 ^ 42 := Nat.pow_le_pow_right (by decide) hk
  have h3 : (2 : Nat) ^ 42 = 4398046511104 := rfl
  rw [h1, Nat.one_mul, Nat.mod_eq_of_lt (by omega)] at h
  have h4 := uN_of h (by omega)
  rw [h4]; exact Int.natCast_pow 2 k
/-- F is the whole part of P and a root, over B -/
def rdR (P : Int) (s : Int32) (Q B F : Int) : Prop := 0 ≤ (cs (P - F * B) s Q).toInt ∧ (cs (P - F * B - B) s Q).toInt < 0
section RD
variable {PP BB P1 T QQ : Int} {k : Nat} {r : Int64} {s : Int32}
theorem rd_bP (h0 : 0 ≤ BB) (hB : BB ≤ 38685626227668133590597632) (hPP : -170141183460469231731687303715884105727 ≤ PP ∧ PP ≤ 170141183460469231731687303715884105727) (hP : P1 = PP - r.toInt * BB) (hT : T = BB * 2 ^ k) (hr : -4398046511104 ≤ r.toInt ∧ r.toInt + 2 ^ (k + 1) ≤ 4398046511104) : -340282366920938463463374607431768211455 ≤ P1 - T ∧ P1 - T ≤ 340282366920938463463374607431768211455 := by
  have e : P1 - T = PP - (r.toInt + 2 ^ k) * BB := by rw [hP, hT, Int.add_mul, Int.mul_comm BB]; omega
  have h1 := rd_p k
  have h2 := rd_2 k
  have h3 := rd_m (x := r.toInt + 2 ^ k) h0 hB (by omega) (by omega)
  rw [e]; omega
theorem rd_b0 (h0 : 0 ≤ BB) (hB : BB ≤ 38685626227668133590597632) (hPP : -170141183460469231731687303715884105727 ≤ PP ∧ PP ≤ 170141183460469231731687303715884105727) (hP : P1 = PP - r.toInt * BB) (hr : -4398046511104 ≤ r.toInt ∧ r.toInt + 2 ^ k ≤ 4398046511104) : -340282366920938463463374607431768211455 ≤ P1 ∧ P1 ≤ 340282366920938463463374607431768211455 := by
  have h1 := rd_p k
  have h3 := rd_m (x := r.toInt) h0 hB (by omega) (by omega)
  rw [hP]; omega
theorem rd_x {x y : Int64} (hk : k ≤ 42) (hr : -4398046511104 ≤ r.toInt ∧ r.toInt + 2 ^ (k + 1) ≤ 4398046511104) (hx : x.toInt = 2 ^ k) (hy : y = r + x) : y.toInt = r.toInt + 2 ^ k := by
  have h1 := rd_p k
  have h2 := rd_2 k
  rw [hy, l_add] <;> rw [hx] <;> omega
theorem rd_uP {y : Int} (hP : P1 = PP - r.toInt * BB) (hT : T = BB * 2 ^ k) (hy : y = r.toInt + 2 ^ k) : P1 - T = PP - y * BB := by rw [hP, hT, hy, Int.add_mul, Int.mul_comm BB]; omega
theorem rd_uh (hT : T = BB * 2 ^ k) (hh : (cs (P1 - BB * 2 ^ (k + 1)) s QQ).toInt < 0) : (cs (P1 - T - BB * 2 ^ k) s QQ).toInt < 0 := by
  have e : P1 - T - BB * 2 ^ k = P1 - BB * 2 ^ (k + 1) := by rw [hT, rd_2, ← Int.mul_assoc, Int.mul_comm BB 2, Int.mul_assoc]; omega
  rw [e]; exact hh
theorem rd_ur {y : Int} (hr : -4398046511104 ≤ r.toInt ∧ r.toInt + 2 ^ (k + 1) ≤ 4398046511104) (hy : y = r.toInt + 2 ^ k) : -4398046511104 ≤ y ∧ y + 2 ^ k ≤ 4398046511104 := by
  have h1 := rd_p k
  have h2 := rd_2 k
  omega
theorem rd_lr (hr : -4398046511104 ≤ r.toInt ∧ r.toInt + 2 ^ (k + 1) ≤ 4398046511104) : -4398046511104 ≤ r.toInt ∧ r.toInt + 2 ^ k ≤ 4398046511104 := by
  have h1 := rd_p k
  have h2 := rd_2 k
  omega
theorem rd_lh (hT : T = BB * 2 ^ k) (hh : (cs (P1 - T) s QQ).toInt < 0) : (cs (P1 - T + T - BB * 2 ^ k) s QQ).toInt < 0 := by
  rw [Int.sub_add_cancel, ← hT]; exact hh
theorem rd_end (hP : P1 = PP - r.toInt * BB) (hl : 0 ≤ (cs P1 s QQ).toInt) (hh : (cs (P1 - BB * 2 ^ 0) s QQ).toInt < 0) : rdR PP s QQ BB r.toInt := by
  rw [Int.pow_zero, Int.mul_one] at hh
  exact ⟨by rw [← hP]; exact hl, by rw [← hP]; exact hh⟩
end RD
