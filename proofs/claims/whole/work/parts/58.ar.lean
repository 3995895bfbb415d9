/-! arcs as the class holds them -/
abbrev arH (cx cy r : Int64) (f t : Int32) : Prop := (inC cx.toInt ∧ inC cy.toInt) ∧ (1 ≤ r.toInt ∧ r.toInt ≤ 4611686018427387904) ∧ (0 ≤ f.toInt ∧ f.toInt < 8) ∧ (0 ≤ t.toInt ∧ t.toInt < 8)
abbrev r3 (x : Int32) : Prop := x = 0 ∨ x = 1 ∨ x = -1
/-- signs of x, y, x - y and x + y that can be -/
abbrev rcC (x y d s : Int32) : Prop := (r3 x ∧ r3 y ∧ r3 d ∧ r3 s) ∧ ¬ (x = 0 ∧ y = 0) ∧ (y = 0 → d = x ∧ s = x) ∧ (x = 0 → s = y ∧ d = -y) ∧ (x = 1 → y = 1 → s = 1) ∧ (x = 1 → y = -1 → d = 1) ∧ (x = -1 → y = 1 → d = -1) ∧ (x = -1 → y = -1 → s = -1)
theorem sg_3 (z : Int) : r3 (sg z) := by
  rcases Int.lt_trichotomy z 0 with h | h | h
  · exact Or.inr (Or.inr (sg_neg h))
  · exact Or.inl (sg_zero h)
  · exact Or.inr (Or.inl (sg_pos h))
theorem sg_p1 {z : Int} (h : sg z = 1) : 0 < z := by have := sg_T z; rw [h] at this; rw [iT1] at this; omega
theorem sg_n1 {z : Int} (h : sg z = -1) : z < 0 := by have := sg_T z; rw [h] at this; rw [iTm1] at this; omega
theorem rc_sg {u v : Int} (h : ¬ (u = 0 ∧ v = 0)) : rcC (sg u) (sg v) (sg (u - v)) (sg (u + v)) := by
  refine ⟨⟨sg_3 _, sg_3 _, sg_3 _, sg_3 _⟩, fun q => h ⟨sg_e0.mp q.1, sg_e0.mp q.2⟩, fun q => ?_, fun q => ?_, fun a b => sg_pos (by have := sg_p1 a; have := sg_p1 b; omega), fun a b => sg_pos (by have := sg_p1 a; have := sg_n1 b; omega), fun a b => sg_neg (by have := sg_n1 a; have := sg_p1 b; omega), fun a b => sg_neg (by have := sg_n1 a; have := sg_n1 b; omega)⟩
  · have := sg_e0.mp q
    rw [this, Int.sub_zero, Int.add_zero]; exact ⟨rfl, rfl⟩
  · have := sg_e0.mp q
    rw [this, Int.zero_sub, Int.zero_add, sg_ng]; exact ⟨rfl, rfl⟩
section RCS
variable {x y d s z : Int32}
theorem rc_1 (h : rcC x y d s) (hy : y < 0) (e : z = 12 - (-1) * (d + x + s)) : z = posn x y d s := by
  subst e
  obtain ⟨⟨hx, hy2, hd, hs⟩, h1⟩ := id h
  rcases hx with rfl | rfl | rfl <;> rcases hy2 with rfl | rfl | rfl <;> rcases hd with rfl | rfl | rfl <;> rcases hs with rfl | rfl | rfl <;> first | exact absurd hy (by decide) | exact absurd h (by decide) | decide
theorem rc_2 (h : rcC x y d s) (hy : y = 0) (hx0 : x < 0) (e : z = 11 - (-1) * (d + x + s)) : z = posn x y d s := by
  subst e
  obtain ⟨⟨hx, hy2, hd, hs⟩, h1⟩ := id h
  subst hy
  rcases hx with rfl | rfl | rfl <;> rcases hd with rfl | rfl | rfl <;> rcases hs with rfl | rfl | rfl <;> first | exact absurd hx0 (by decide) | exact absurd h (by decide) | decide
theorem rc_3 (h : rcC x y d s) (hy : y = 0) (hx0 : 0 ≤ x) (e : z = 3 - 1 * (d + x + s)) : z = posn x y d s := by
  subst e
  obtain ⟨⟨hx, hy2, hd, hs⟩, h1⟩ := id h
  subst hy
  rcases hx with rfl | rfl | rfl <;> rcases hd with rfl | rfl | rfl <;> rcases hs with rfl | rfl | rfl <;> first | exact absurd hx0 (by decide) | exact absurd h (by decide) | decide
theorem rc_4 (h : rcC x y d s) (hy : ¬ y < 0) (hy0 : ¬ y = 0) (e : z = 4 - 1 * (d + x + s)) : z = posn x y d s := by
  subst e
  obtain ⟨⟨hx, hy2, hd, hs⟩, h1⟩ := id h
  rcases hx with rfl | rfl | rfl <;> rcases hy2 with rfl | rfl | rfl <;> rcases hd with rfl | rfl | rfl <;> rcases hs with rfl | rfl | rfl <;> first | exact absurd (by decide) hy | exact absurd rfl hy0 | exact absurd h (by decide) | decide
theorem r3_T (h : r3 x) : -1 ≤ x.toInt ∧ x.toInt ≤ 1 := by rcases h with h | h | h <;> rw [h] <;> decide
theorem rc_r (h : rcC x y d s) : 0 ≤ (posn x y d s).toInt ∧ (posn x y d s).toInt < 16 := posn_r (r3_T h.1.2.2.1) (r3_T h.1.2.2.2)
theorem i_a15 (x : Int32) : (x &&& 15).toInt = x.toInt % 16 := by
  have e1 : (x &&& 15).toUInt32.toNat = x.toUInt32.toNat % 16 := by
    have : (x &&& 15).toUInt32.toNat = x.toUInt32.toNat &&& 15 := UInt32.toNat_and _ _
    rw [this]
    exact Nat.and_two_pow_sub_one_eq_mod _ 4
  have h1 : x.toInt = if 2 * x.toUInt32.toNat < 2 ^ 32 then (x.toUInt32.toNat : Int) else (x.toUInt32.toNat : Int) - (2 ^ 32 : Nat) := BitVec.toInt_eq_toNat_cond _
  have h2 : (x &&& 15).toInt = if 2 * (x &&& 15).toUInt32.toNat < 2 ^ 32 then ((x &&& 15).toUInt32.toNat : Int) else ((x &&& 15).toUInt32.toNat : Int) - (2 ^ 32 : Nat) := BitVec.toInt_eq_toNat_cond _
  have h7 : (2 : Nat) ^ 32 = 4294967296 := rfl
  rw [h7] at h1 h2
  rw [e1] at h2
  rw [if_pos (by omega)] at h2
  rw [h2]
  split at h1 <;> omega
theorem rc_e {p f t : Int32} (hp : 0 ≤ p.toInt ∧ p.toInt < 16) (hf : 0 ≤ f.toInt ∧ f.toInt < 8) (ht : 0 ≤ t.toInt ∧ t.toInt < 8) : ((p - 2 * f) &&& 15).toInt = (p.toInt - 2 * f.toInt) % 16 ∧ ((2 * t - 2 * f) &&& 15).toInt = (2 * t.toInt - 2 * f.toInt) % 16 := by
  have e2f : (2 * f).toInt = 2 * f.toInt := by rw [i_mul] <;> rw [iT2] <;> omega
  have e2t : (2 * t).toInt = 2 * t.toInt := by rw [i_mul] <;> rw [iT2] <;> omega
  have e1 : (p - 2 * f).toInt = p.toInt - 2 * f.toInt := by rw [i_sub] <;> rw [e2f] <;> omega
  have e3 : (2 * t - 2 * f).toInt = 2 * t.toInt - 2 * f.toInt := by rw [i_sub] <;> rw [e2f, e2t] <;> omega
  rw [i_a15, i_a15, e1, e3]
  exact ⟨rfl, rfl⟩
end RCS
theorem ar_S {x y cx cy : Int} (h1 : inC x) (h2 : inC y) (h3 : inC cx) (h4 : inC cy) {r : Int} (hr : 1 ≤ r ∧ r ≤ 4611686018427387904) : bd 84 ((x - cx) * (x - cx) + (y - cy) * (y - cy) + r * -1) := bd_add (bd_add (bd_mul (bd_sC h1 h3) (bd_sC h1 h3)) (bd_mul (bd_sC h2 h4) (bd_sC h2 h4))) (bd_mono (bd_mul (bd_of 62 (B := 4611686018427387904) (by decide) (by omega) hr.2) (show bd 1 (-1) from (by decide : Int.natAbs (-1) ≤ 2 ^ 1))) (by decide))
