/-! join: sums and differences with signs -/
def jn (ls : Int32) (x y : Int) : Int := if ls = 0 then x + y else x - y
theorem jn_0 {x y : Int} : jn 0 x y = x + y := rfl
theorem jn_1 {x y : Int} : jn 1 x y = x - y := rfl
theorem jn_ok {sb o ls : Int32} {zb : Int} (hb : ok1 sb zb) (hls : ls = 0 ∨ ls = 1) (ho : (o = 1 ∧ ¬ sb = ls) ∨ (o = 0 ∧ sb = ls)) : ok1 o (jn ls 0 zb) := by
  rcases hb with ⟨rfl, h2⟩ | ⟨rfl, h2⟩ <;> rcases hls with rfl | rfl <;> rcases ho with ⟨rfl, h3⟩ | ⟨rfl, h3⟩
  all_goals first
    | exact absurd rfl h3
    | exact absurd h3 (by decide)
    | (left; exact ⟨rfl, by simp only [jn_0, jn_1]; omega⟩)
    | (right; exact ⟨rfl, by simp only [jn_0, jn_1]; omega⟩)
theorem jn_add (ls : Int32) (x y : Int) : jn ls x y = x + jn ls 0 y := by unfold jn; split <;> omega
theorem jn_abs (ls : Int32) (y : Int) : (jn ls 0 y).natAbs = y.natAbs := by unfold jn; split <;> omega
theorem jn_A {sa o : Int32} {x y : Int} (ha : ok1 sa x) (ho : ok1 o y) (he : sa = o) : ((x + y).natAbs : Int) = x.natAbs + y.natAbs ∧ ok1 sa (x + y) := by
  subst he
  rcases ha with ⟨rfl, h2⟩ | ⟨rfl, h2⟩ <;> rcases ho with ⟨h3, h4⟩ | ⟨h3, h4⟩
  · exact ⟨by omega, Or.inl ⟨rfl, by omega⟩⟩
  · exact absurd h3 (by decide)
  · exact absurd h3 (by decide)
  · exact ⟨by omega, Or.inr ⟨rfl, by omega⟩⟩
theorem jn_B {sa o : Int32} {x y : Int} (ha : ok1 sa x) (ho : ok1 o y) (he : ¬ sa = o) (h : y.natAbs ≤ x.natAbs) : ((x + y).natAbs : Int) = x.natAbs - y.natAbs ∧ ok1 sa (x + y) := by
  rcases ha with ⟨rfl, h2⟩ | ⟨rfl, h2⟩ <;> rcases ho with ⟨rfl, h4⟩ | ⟨rfl, h4⟩
  · exact absurd rfl he
  · exact ⟨by omega, Or.inl ⟨rfl, by omega⟩⟩
  · exact ⟨by omega, Or.inr ⟨rfl, by omega⟩⟩
  · exact absurd rfl he
theorem jn_C {sa o : Int32} {x y : Int} (ha : ok1 sa x) (ho : ok1 o y) (he : ¬ sa = o) (h : x.natAbs ≤ y.natAbs) : ((x + y).natAbs : Int) = y.natAbs - x.natAbs ∧ ok1 o (x + y) := by
  rcases ha with ⟨rfl, h2⟩ | ⟨rfl, h2⟩ <;> rcases ho with ⟨rfl, h4⟩ | ⟨rfl, h4⟩
  · exact absurd rfl he
  · exact ⟨by omega, Or.inr ⟨rfl, by omega⟩⟩
  · exact ⟨by omega, Or.inl ⟨rfl, by omega⟩⟩
  · exact absurd rfl he
theorem eg_0 (j : Nat) : (0 : Int32) = eg 0 j := eg_eq (by rw [Int.zero_ediv]; rfl)
/-- the sign of a product -/
theorem ml_ok {sa sb b : Int32} {x y : Int} (ha : ok1 sa x) (hb : ok1 sb y) (h : (b = 1 ∧ ¬ sa = sb) ∨ (b = 0 ∧ sa = sb)) : ok1 b (x * y) := by
  rcases ha with ⟨rfl, h2⟩ | ⟨rfl, h2⟩ <;> rcases hb with ⟨rfl, h4⟩ | ⟨rfl, h4⟩ <;> rcases h with ⟨rfl, h5⟩ | ⟨rfl, h5⟩
  · exact absurd rfl h5
  · exact Or.inl ⟨rfl, Int.mul_nonneg h2 h4⟩
  · exact Or.inr ⟨rfl, by have := Int.mul_nonneg h2 (show 0 ≤ -y by omega); rw [Int.mul_neg] at this; omega⟩
  · exact absurd h5 (by decide)
  · exact Or.inr ⟨rfl, by have := Int.mul_nonneg (show 0 ≤ -x by omega) h4; rw [Int.neg_mul] at this; omega⟩
  · exact absurd h5 (by decide)
  · exact absurd rfl h5
  · exact Or.inl ⟨rfl, by have := Int.mul_nonneg (show 0 ≤ -x by omega) (show 0 ≤ -y by omega); rw [Int.neg_mul, Int.mul_neg] at this; omega⟩
