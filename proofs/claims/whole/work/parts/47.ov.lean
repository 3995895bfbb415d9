/-! over: Java's division of longs -/
theorem ov_d {a b q r : Int64} (hb0 : ¬ b.toInt = 0) (hb1 : ¬ b.toInt = -1) (hq : q = a / b) (hr : r = a - a / b * b) : a.toInt = q.toInt * b.toInt + r.toInt ∧ r.toInt.natAbs < b.toInt.natAbs ∧ (¬ r.toInt = 0 → -4611686018427387904 ≤ q.toInt ∧ q.toInt ≤ 4611686018427387904) := by
  have ha := l_rng a
  have hb := l_rng b
  have e1 : (a.toInt.tdiv b.toInt).natAbs = a.toInt.natAbs / b.toInt.natAbs := Int.natAbs_tdiv _ _
  have e2 : (a.toInt.tmod b.toInt).natAbs = a.toInt.natAbs % b.toInt.natAbs := Int.natAbs_tmod _ _
  have e3 := Int.mul_tdiv_add_tmod a.toInt b.toInt
  have hlt : a.toInt.natAbs % b.toInt.natAbs < b.toInt.natAbs := Nat.mod_lt _ (by omega)
  have hb2 : b.toInt = 1 ∨ 2 ≤ b.toInt.natAbs := by omega
  have hrg : (b.toInt = 1 ∧ a.toInt.tdiv b.toInt = a.toInt) ∨ (2 ≤ b.toInt.natAbs ∧ (a.toInt.tdiv b.toInt).natAbs ≤ 4611686018427387904) := by
    rcases hb2 with h | h
    · exact Or.inl ⟨h, by rw [h, Int.tdiv_one]⟩
    · refine Or.inr ⟨h, ?_⟩
      rw [e1]
      have := Nat.div_le_div_left (a := a.toInt.natAbs) h (by decide)
      omega
  have hqT : q.toInt = a.toInt.tdiv b.toInt := by
    rw [hq, Int64.toInt_div]
    exact n_bm (by omega) (by omega)
  have hrT : r.toInt = a.toInt.tmod b.toInt := by
    rw [hr, Int64.toInt_sub, Int64.toInt_mul, Int.sub_bmod_bmod, ← hq, hqT, Int.mul_comm, show a.toInt - b.toInt * a.toInt.tdiv b.toInt = a.toInt.tmod b.toInt by omega]
    exact n_bm (by omega) (by omega)
  refine ⟨by rw [hqT, hrT, Int.mul_comm]; omega, by rw [hrT, e2]; exact hlt, fun hn => ?_⟩
  rw [hqT]
  rcases hrg with h | h
  · rw [hrT] at hn
    rw [h.1, Int.tmod_one] at hn
    exact absurd rfl hn
  · omega
theorem ov_m {a b q r : Int64} (hb : b.toInt = -1) (hq : q = a / b) (hr : r = a - a / b * b) : q = -a ∧ r.toInt = 0 := by
  have e : a / b = -a := l_eq (by
    rw [Int64.toInt_div, hb, Int64.toInt_neg]
    rw [Int.tdiv_neg, Int.tdiv_one])
  refine ⟨hq.trans e, ?_⟩
  rw [hr, e, Int64.toInt_sub, Int64.toInt_mul, Int64.toInt_neg, hb, Int.bmod_mul_bmod, Int.sub_bmod_bmod, Int.neg_mul_neg, Int.mul_one, Int.sub_self]
  rfl
theorem ov_0 {a b q : Int} {r : Int} (h : a = q * b + r) (hr : r = 0) : ovR a b q r := ⟨h, fun _ => by omega, fun _ => by omega⟩
theorem ov_s {a b q : Int} {r : Int} (h : a = q * b + r) (h2 : r.natAbs < b.natAbs) (h3 : (r < 0 ∧ b < 0) ∨ (0 < r ∧ 0 < b)) : ovR a b q r := ⟨h, fun _ => by omega, fun _ => by omega⟩
theorem ov_a {a b q r q2 r2 : Int} (h : a = q * b + r) (h2 : r.natAbs < b.natAbs) (h3 : (r < 0 ∧ 0 < b) ∨ (0 < r ∧ b < 0)) (eq : q2 = q - 1) (er : r2 = r + b) : ovR a b q2 r2 := ⟨by rw [eq, er, Int.sub_mul, Int.one_mul]; omega, fun _ => by omega, fun _ => by omega⟩
/-! corners -/
def coI (C : Nat) (cx cy : Nat → Int64) : Prop := C < 200 ∧ ∀ k, k < C → inC (cx k).toInt ∧ inC (cy k).toInt
/-- twice the area, with its sign -/
def ar2 (cx cy : Nat → Int64) (C : Nat) : Int := if C < 3 then 0 else aro cx cy (C - 1) + acr cx cy (C - 1) 0
theorem isT_eq {p f t : Int32} (hp : 0 ≤ p.toInt ∧ p.toInt < 16) (hf : 0 ≤ f.toInt ∧ f.toInt < 8) (ht : 0 ≤ t.toInt ∧ t.toInt < 8) {x y : Int32} (hx : x = p - 2 * f + 16 - (p - 2 * f + 16) / 16 * 16) (hy : y = 2 * t - 2 * f + 16 - (2 * t - 2 * f + 16) / 16 * 16) : x.toInt = (p.toInt - 2 * f.toInt) % 16 ∧ y.toInt = (2 * t.toInt - 2 * f.toInt) % 16 := by
  have e2f : (2 * f).toInt = 2 * f.toInt := by rw [i_mul] <;> rw [iT2] <;> omega
  have e2t : (2 * t).toInt = 2 * t.toInt := by rw [i_mul] <;> rw [iT2] <;> omega
  have e1 : (p - 2 * f).toInt = p.toInt - 2 * f.toInt := by rw [i_sub] <;> rw [e2f] <;> omega
  have e3 : (2 * t - 2 * f).toInt = 2 * t.toInt - 2 * f.toInt := by rw [i_sub] <;> rw [e2f, e2t] <;> omega
  have e4 : (p - 2 * f + 16).toInt = ((p.toInt - 2 * f.toInt + 16).toNat : Int) := by rw [i_add] <;> rw [e1, iT16] <;> omega
  have e5 : (2 * t - 2 * f + 16).toInt = ((2 * t.toInt - 2 * f.toInt + 16).toNat : Int) := by rw [i_add] <;> rw [e3, iT16] <;> omega
  have r1 := i_rm (d := 16) e4 (by omega) (by decide) (by decide) (y := x) hx
  have r2 := i_rm (d := 16) e5 (by omega) (by decide) (by decide) (y := y) hy
  rw [r1, r2]
  omega
/-- whether an arc from f to t has the position p -/
abbrev trn (f t p : Int) : Prop := f = t ∨ (p - 2 * f) % 16 ≤ (2 * t - 2 * f) % 16
theorem posn_r {x y ls mo : Int32} (h : -1 ≤ ls.toInt ∧ ls.toInt ≤ 1) (h2 : -1 ≤ mo.toInt ∧ mo.toInt ≤ 1) : 0 ≤ (posn x y ls mo).toInt ∧ (posn x y ls mo).toInt < 16 := by
  unfold posn
  have e1 : (10 + ls).toInt = 10 + ls.toInt := by rw [i_add] <;> rw [iT10] <;> omega
  have e2 : (6 - mo).toInt = 6 - mo.toInt := by rw [i_sub] <;> rw [iT6] <;> omega
  have e3 : (14 + mo).toInt = 14 + mo.toInt := by rw [i_add] <;> rw [iT14] <;> omega
  have e4 : (2 - ls).toInt = 2 - ls.toInt := by rw [i_sub] <;> rw [iT2] <;> omega
  split
  · split <;> decide
  · split
    · split <;> decide
    · split
      · split
        · rw [e1]; omega
        · rw [e2]; omega
      · split
        · rw [e3]; omega
        · rw [e4]; omega
theorem sg_r (z : Int) : -1 ≤ (sg z).toInt ∧ (sg z).toInt ≤ 1 := by have := sg_T z; omega
theorem cs_r (P : Int) (s : Int32) (Q : Int) (h : -1 ≤ s.toInt ∧ s.toInt ≤ 1) : -1 ≤ (cs P s Q).toInt ∧ (cs P s Q).toInt ≤ 1 := by
  unfold cs
  split
  · exact sg_r P
  · split
    · exact h
    · rw [sg_mul]; exact sg_r _
theorem rn_r (U f R : Int) : -1 ≤ (rn U f R).toInt ∧ (rn U f R).toInt ≤ 1 := cs_r _ _ _ (by rw [sg_mul]; exact sg_r _)
/-- a place on an arc, told by its squared way from the centre and its position -/
abbrev onA (cx cy r f t x y : Int) : Prop := (x - cx) * (x - cx) + (y - cy) * (y - cy) = r ∧ trn f t (posn (sg (x - cx)) (sg (y - cy)) (sg ((x - cx) - (y - cy))) (sg ((x - cx) + (y - cy)))).toInt
