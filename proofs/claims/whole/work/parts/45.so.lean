/-! signs of numbers with roots; the reference's signOf -/
/-- the sign of U and f times the root of R -/
def rn (U f R : Int) : Int32 := cs U (sg f * sg R) (f * f * R)
theorem cs_0 {P Q : Int} {s : Int32} (h : s = 0) : cs P s Q = sg P := by unfold cs; rw [if_pos (Or.inl h)]
theorem cs_e {P Q : Int} {s : Int32} (h : sg P = s) : cs P s Q = sg P := by unfold cs; rw [if_pos (Or.inr h)]
theorem cs_z {P Q : Int} {s : Int32} (h0 : ¬ s = 0) (h : sg P = 0) : cs P s Q = s := by
  unfold cs
  rw [if_neg (fun q => q.elim h0 (fun q => h0 (q.symm.trans h))), if_pos h]
theorem cs_m {P Q : Int} {s : Int32} (h0 : ¬ s = 0) (h1 : ¬ sg P = s) (h : ¬ sg P = 0) : cs P s Q = sg P * sg (P * P - Q) := by
  unfold cs
  rw [if_neg (fun q => q.elim h0 h1), if_neg h]
theorem so_0 {U f R : Int} (h : f = 0 ∨ R = 0) : rn U f R = sg U := cs_0 (by
  rcases h with h | h
  · rw [sg_zero h]; exact Int32.zero_mul
  · rw [sg_zero h]; exact Int32.mul_zero)
section SO
variable {U f R : Int} {y : Int32}
theorem so_y (hy : sg f * sg R = y) (hy1 : y = 1 ∨ y = -1) (h0 : sg U = 0) : rn U f R = y := by
  unfold rn
  rw [hy, cs_z (by rcases hy1 with h | h <;> rw [h] <;> decide) h0]
theorem so_e (hy : sg f * sg R = y) (h0 : sg U = y) : rn U f R = sg U := by
  unfold rn
  rw [hy, cs_e h0]
theorem so_m {G H T K : Int} (hy : sg f * sg R = y) (hy1 : y = 1 ∨ y = -1) (h0 : ¬ sg U = 0) (h1 : ¬ sg U = y) (hR : 0 ≤ R) (eG : G = U * U) (eT : T = f) (eK : K = T * T) (eH : H = K * R) : rn U f R = sg U * sg ((G.natAbs : Int) - (H.natAbs : Int)) := by
  have hG : 0 ≤ G := by rw [eG]; exact sq_nn U
  have hH : 0 ≤ H := by rw [eH, eK]; exact Int.mul_nonneg (sq_nn T) hR
  have e : (G.natAbs : Int) - (H.natAbs : Int) = U * U - f * f * R := by rw [← eG, ← eT, ← eK, ← eH]; omega
  unfold rn
  rw [hy, cs_m (by rcases hy1 with h | h <;> rw [h] <;> decide) h1 h0, e]
theorem so_op {x : Int} (hy1 : y = 1 ∨ y = -1) (h0 : ¬ sg x = 0) (h1 : ¬ sg x = y) : sg x * -1 = y := by
  rcases Int.lt_trichotomy x 0 with h | h | h
  · rw [sg_neg h] at h1 ⊢
    rcases hy1 with e | e
    · rw [e]; decide
    · exact absurd e.symm h1
  · exact absurd (sg_zero h) h0
  · rw [sg_pos h] at h1 ⊢
    rcases hy1 with e | e
    · exact absurd e.symm h1
    · rw [e]; decide
end SO
theorem sg_1 {z : Int} (h : 0 < z) (y : Int32) : y * sg z = y := by rw [sg_pos h]; exact Int32.mul_one y
theorem sg_0m {z : Int} (h : z = 0) (y : Int32) : y * sg z = 0 := by rw [sg_zero h]; exact Int32.mul_zero
theorem sg_m1 {z : Int} (h : z < 0) (y : Int32) : y * sg z = y * -1 := by rw [sg_neg h]
/-- floors: a over b, and what is left -/
def ovR (a b q r : Int) : Prop := a = q * b + r ∧ (0 < b → 0 ≤ r ∧ r < b) ∧ (b < 0 → b < r ∧ r ≤ 0)
def ovV (q r b : Int) (how : Int) : Int := if how = 0 then q else if how = 1 then (if r = 0 then q else q + 1) else if r = 0 then q else if 0 < b then (if b - r ≤ r then q + 1 else q) else (if r ≤ b - r then q + 1 else q)
theorem ovR_u {a b q r q2 r2 : Int} (hb : ¬ b = 0) (h : ovR a b q r) (h2 : ovR a b q2 r2) : q = q2 ∧ r = r2 := by
  have e : (q - q2) * b = r2 - r := by
    have := h.1.symm.trans h2.1
    rw [Int.sub_mul]; omega
  have hq : q = q2 := by
    rcases Int.lt_trichotomy b 0 with hb0 | hb0 | hb0
    · have h3 := h.2.2 hb0
      have h4 := h2.2.2 hb0
      rcases Int.lt_trichotomy q q2 with c | c | c
      · have : (q - q2) * b ≥ -b := by
          have := Int.mul_le_mul_of_nonpos_right (show q - q2 ≤ -1 by omega) (Int.le_of_lt hb0)
          omega
        omega
      · exact c
      · have : (q - q2) * b ≤ b := by
          have := Int.mul_le_mul_of_nonpos_right (show 1 ≤ q - q2 by omega) (Int.le_of_lt hb0)
          omega
        omega
    · exact absurd hb0 hb
    · have h3 := h.2.1 hb0
      have h4 := h2.2.1 hb0
      rcases Int.lt_trichotomy q q2 with c | c | c
      · have : (q - q2) * b ≤ -b := by
          have := Int.mul_le_mul_of_nonneg_right (show q - q2 ≤ -1 by omega) (Int.le_of_lt hb0)
          omega
        omega
      · exact c
      · have : (q - q2) * b ≥ b := by
          have := Int.mul_le_mul_of_nonneg_right (show 1 ≤ q - q2 by omega) (Int.le_of_lt hb0)
          omega
        omega
  subst hq
  rw [Int.sub_self, Int.zero_mul] at e
  exact ⟨rfl, by omega⟩
/-- roots of whole numbers -/
def rtR (v h : Int) : Prop := 0 ≤ h ∧ h * h ≤ v ∧ v < (h + 1) * (h + 1)
def rtV (v h how : Int) : Int := if how = 0 then h else if how = 1 then (if h * h = v then h else h + 1) else if v - h * h > h then h + 1 else h
theorem rtR_u {v h k : Int} (h1 : rtR v h) (h2 : rtR v k) : h = k := by
  have sq : ∀ a b : Int, 0 ≤ a → a + 1 ≤ b → (a + 1) * (a + 1) ≤ b * b := fun a b ha hb => Int.mul_le_mul hb hb (by omega) (by omega)
  rcases Int.lt_trichotomy h k with c | c | c
  · have := sq h k h1.1 (by omega)
    have := h1.2.2; have := h2.2.1; omega
  · exact c
  · have := sq k h h2.1 (by omega)
    have := h2.2.2; have := h1.2.1; omega
/-- the open way of corners, and one side of it -/
def acr (cx cy : Nat → Int64) (i j : Nat) : Int := (cx i).toInt * (cy j).toInt - (cx j).toInt * (cy i).toInt
def aro (cx cy : Nat → Int64) : Nat → Int
  | 0 => 0
  | k + 1 => aro cx cy k + acr cx cy k (k + 1)
theorem acr_b {cx cy : Nat → Int64} {i j : Nat} (h1 : inC (cx i).toInt ∧ inC (cy i).toInt) (h2 : inC (cx j).toInt ∧ inC (cy j).toInt) : (acr cx cy i j).natAbs ≤ 2417851639229258349412352 := bd_sub (bd_mul (bd_C h1.1) (bd_C h2.2)) (bd_mul (bd_C h2.1) (bd_C h1.2))
theorem ar_neg {A k : Int} (hk : 0 ≤ k ∧ k < 4) (hA : A < 0) (hb : -A < 340282366920938463463374607431768211456) : (((340282366920938463463374607431768211456 + A).natAbs : Nat) : Int) / dP k.toNat % 4294967296 = A / dP k.toNat % 4294967296 := by
  have hp : 0 ≤ 340282366920938463463374607431768211456 + A := by omega
  rw [Int.natAbs_of_nonneg hp]
  have h4 : k = 0 ∨ k = 1 ∨ k = 2 ∨ k = 3 := by omega
  have d0 : dP 0 = 1 := rfl
  have d1 : dP 1 = 4294967296 := rfl
  have d2 : dP 2 = 18446744073709551616 := rfl
  have d3 : dP 3 = 79228162514264337593543950336 := rfl
  rcases h4 with h | h | h | h <;> rw [h]
  · show _ / dP 0 % _ = _ / dP 0 % _
    rw [d0]; omega
  · show _ / dP 1 % _ = _ / dP 1 % _
    rw [d1]; omega
  · show _ / dP 2 % _ = _ / dP 2 % _
    rw [d2]; omega
  · show _ / dP 3 % _ = _ / dP 3 % _
    rw [d3]; omega
