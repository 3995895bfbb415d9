/-! whole roots and floors, as the class finds them -/
theorem wr_sq {h : Int} (h0 : 0 ≤ h) (hh : h ≤ 3037000499) : h * h ≤ 9223372030926249001 := by
  have := sq_mono h0 hh
  omega
theorem wr_2 (k : Nat) : (2 : Int) ^ (k + 1) = 2 ^ k + 2 ^ k := by rw [rd_2]; omega
theorem wr_le {k : Nat} (h : k ≤ 31) : (2 : Int) ^ k ≤ 2147483648 := by
  have h2 : (2 : Nat) ^ k ≤ 2 ^ 31 := Nat.pow_le_pow_right (by decide) h
  have e : ((2 ^ k : Nat) : Int) = (2 : Int) ^ k := Int.natCast_pow 2 k
  have e3 : (2 : Nat) ^ 31 = 2147483648 := rfl
  omega
section WR
variable {v f x y m : Int64} {k : Nat}
theorem wr_n (hf : 0 ≤ f.toInt ∧ f.toInt ≤ 3037000499) (hk : k ≤ 31) (hx : x.toInt = 2 ^ k) (hy : y = f + x) : y.toInt = f.toInt + 2 ^ k := by
  have := wr_le hk
  have := rd_p k
  rw [hy, l_add] <;> rw [hx] <;> omega
theorem wr_m (hy : 0 ≤ y.toInt ∧ y.toInt ≤ 3037000499) (hm : m = y * y) : m.toInt = y.toInt * y.toInt := by
  have := wr_sq hy.1 hy.2
  have := sq_nn y.toInt
  rw [hm, l_mul] <;> omega
theorem wr_e {F : Int} (h0 : 0 ≤ F) (h1 : F * F ≤ v.toInt) (h2 : v.toInt < (F + 2 ^ 0) * (F + 2 ^ 0)) : rtR v.toInt F := ⟨h0, h1, by rw [Int.pow_zero] at h2; exact h2⟩
theorem wr_0 (hv : 0 ≤ v.toInt) : v.toInt < ((0 : Int) + 2 ^ 32) * (0 + 2 ^ 32) := by
  have := l_rng v
  have e : (2 : Int) ^ 32 = 4294967296 := by decide
  rw [e]; omega
/-- too large: the square of what is above the largest root -/
theorem wr_big {F : Int} (h : 3037000499 < F) : v.toInt < F * F := by
  have := l_rng v
  have := sq_mono (p := 3037000500) (q := F) (by decide) (by omega)
  omega
end WR
