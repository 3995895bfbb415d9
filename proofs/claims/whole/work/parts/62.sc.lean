/-! crossings, as the class finds them -/
abbrev saA (ax ay bx by1 cx cy : Int) : Int := (bx - ax) * (ax - cx) + (by1 - ay) * (ay - cy)
def saZ (ax ay bx by1 cx cy : Int) : Int := (bx - ax) * (ay - cy) - (by1 - ay) * (ax - cx)
/-- whether a place of a segment's line and a circle is kept -/
abbrev scP (a B R z dx dy f t k : Int) : Prop := (¬ rn (-a) k R < 0 ∧ ¬ 0 < rn (-a - B) k R) ∧ trn f t (posn (rn (z * -dy) (k * dx) R) (rn (z * dx) (k * dy) R) (rn (z * -dy - z * dx) (k * dx - k * dy) R) (rn (z * -dy + z * dx) (k * dx + k * dy) R)).toInt
/-- .. of two circles -/
abbrev acP (e1 e2 R ex ey f1 t1 f2 t2 k : Int) : Prop := trn f1 t1 (posn (rn (e1 * ex) (-k * ey) R) (rn (e1 * ey) (k * ex) R) (rn (e1 * ex - e1 * ey) (-k * ey - k * ex) R) (rn (e1 * ex + e1 * ey) (-k * ey + k * ex) R)).toInt ∧ trn f2 t2 (posn (rn (e2 * ex) (-k * ey) R) (rn (e2 * ey) (k * ex) R) (rn (e2 * ex - e2 * ey) (-k * ey - k * ex) R) (rn (e2 * ex + e2 * ey) (-k * ey + k * ex) R)).toInt
theorem sc_L {ax ay bx by1 cx cy r : Int} : r * 2 ^ 0 * saL ax ay bx by1 - saZ ax ay bx by1 cx cy * saZ ax ay bx by1 cx cy = saR ax ay bx by1 cx cy r := by
  unfold saR saD saL saZ
  rw [Int.pow_zero, Int.mul_one]
  grind
theorem sc_U {ax ay bx by1 cx cy : Int} : saU ax ay bx by1 cx cy - cx * saL ax ay bx by1 = saZ ax ay bx by1 cx cy * -(by1 - ay) := by
  unfold saU saD saL saZ
  grind
theorem sc_V {ax ay bx by1 cx cy : Int} : saV ax ay bx by1 cx cy - cy * saL ax ay bx by1 = saZ ax ay bx by1 cx cy * (bx - ax) := by
  unfold saV saD saL saZ
  grind
theorem sc_S {ax ay bx by1 cx cy r : Int} : saR ax ay bx by1 cx cy r + saZ ax ay bx by1 cx cy * saZ ax ay bx by1 cx cy = r * saL ax ay bx by1 := by
  rw [← sc_L, Int.pow_zero, Int.mul_one]; omega
theorem sc_Lp {ax ay bx by1 : Int} (h : ¬ (ax = bx ∧ ay = by1)) : 0 < saL ax ay bx by1 := by
  unfold saL
  have h1 := sq_nn (bx - ax)
  have h2 := sq_nn (by1 - ay)
  by_cases c : bx - ax = 0
  · have h3 : ¬ by1 - ay = 0 := fun q => h ⟨by omega, by omega⟩
    rcases Int.lt_or_gt_of_ne h3 with q | q
    · have := Int.mul_pos_of_neg_of_neg q q; omega
    · have := Int.mul_pos q q; omega
  · rcases Int.lt_or_gt_of_ne c with q | q
    · have := Int.mul_pos_of_neg_of_neg q q; omega
    · have := Int.mul_pos q q; omega
/-- no place of it is the centre -/
theorem sc_nz {ax ay bx by1 cx cy r k : Int} (h : ¬ (ax = bx ∧ ay = by1)) (hr : 1 ≤ r) (hR : 0 ≤ saR ax ay bx by1 cx cy r) (hk : k * k = 1) : ¬ (rn (saZ ax ay bx by1 cx cy * -(by1 - ay)) (k * (bx - ax)) (saR ax ay bx by1 cx cy r) = 0 ∧ rn (saZ ax ay bx by1 cx cy * (bx - ax)) (k * (by1 - ay)) (saR ax ay bx by1 cx cy r) = 0) := by
  have hL := sc_Lp h
  have hS : 0 < saR ax ay bx by1 cx cy r + saZ ax ay bx by1 cx cy * saZ ax ay bx by1 cx cy := by
    rw [sc_S]; exact Int.mul_pos (by omega) hL
  rw [Int.mul_comm (saZ ax ay bx by1 cx cy), Int.mul_comm (saZ ax ay bx by1 cx cy)]
  refine rn_nz hR ?_ ?_ ?_ hS (fun q => h ⟨by omega, by omega⟩)
  · have : k * (bx - ax) * (k * (bx - ax)) = k * k * ((bx - ax) * (bx - ax)) := by grind
    rw [this, hk, Int.one_mul]
  · have : k * (by1 - ay) * (k * (by1 - ay)) = k * k * ((by1 - ay) * (by1 - ay)) := by grind
    rw [this, hk, Int.one_mul, Int.neg_mul_neg]
  · have : k * (bx - ax) * (k * (by1 - ay)) = k * k * ((bx - ax) * (by1 - ay)) := by grind
    rw [this, hk, Int.one_mul, Int.neg_mul, Int.neg_neg, Int.mul_comm]
theorem cs_i {p1 p2 q1 q2 : Prop} [Decidable p1] [Decidable p2] [Decidable q1] [Decidable q2] {k1 k2 : Int32} (h1 : p1 ↔ q1) (h2 : p2 ↔ q2) : cps p1 p2 k1 k2 = cps q1 q2 k1 k2 := by
  unfold cps
  have e1 : (if p1 then [k1] else []) = if q1 then [k1] else [] := by by_cases h : p1 <;> simp [h, ← h1]
  have e2 : (if p2 then [k2] else []) = if q2 then [k2] else [] := by by_cases h : p2 <;> simp [h, ← h2]
  rw [e1, e2]
theorem rn_l0 {x : Int32} (h : r3 x) : ¬ 0 < -x ↔ ¬ x < 0 := by rcases h with rfl | rfl | rfl <;> decide
theorem sc_P {ax ay bx by1 cx cy r f t k : Int} : saP ax ay bx by1 cx cy r f t k ↔ scP (saA ax ay bx by1 cx cy) (saL ax ay bx by1) (saR ax ay bx by1 cx cy r) (saZ ax ay bx by1 cx cy) (bx - ax) (by1 - ay) f t k := by
  have eD : saD ax ay bx by1 cx cy = -saA ax ay bx by1 cx cy := rfl
  have e1 : -saA ax ay bx by1 cx cy - saL ax ay bx by1 = -(saL ax ay bx by1 - saD ax ay bx by1 cx cy) := by rw [eD]; omega
  have e2 : rn (-saA ax ay bx by1 cx cy - saL ax ay bx by1) k (saR ax ay bx by1 cx cy r) = -rn (saL ax ay bx by1 - saD ax ay bx by1 cx cy) (-k) (saR ax ay bx by1 cx cy r) := by rw [e1, ← rn_ng, Int.neg_neg]
  unfold saP scP ofA
  rw [sc_U, sc_V, e2, rn_l0 (rn_3 _ _ _), eD]
  exact ⟨fun h => ⟨⟨h.1, h.2.1⟩, h.2.2⟩, fun h => ⟨h.1.1, h.1.2, h.2⟩⟩
/-! two arcs -/
theorem ac_R {ax ay bx by1 r s : Int} : r * 2 ^ 1 * aaL ax ay bx by1 - aaE ax ay bx by1 r s * aaE ax ay bx by1 r s = aaR ax ay bx by1 r s := by
  unfold aaR aaL
  rw [show (2 : Int) ^ 1 = 2 from rfl]
  grind
theorem ac_U {ax ay bx by1 r s : Int} : aaU ax ay bx by1 r s - ax * aaL ax ay bx by1 = aaE ax ay bx by1 r s * (bx - ax) := by unfold aaU; grind
theorem ac_V {ax ay bx by1 r s : Int} : aaV ax ay bx by1 r s - ay * aaL ax ay bx by1 = aaE ax ay bx by1 r s * (by1 - ay) := by unfold aaV; grind
theorem ac_U2 {ax ay bx by1 r s : Int} : aaU ax ay bx by1 r s - bx * aaL ax ay bx by1 = (aaE ax ay bx by1 r s - aaL ax ay bx by1) * (bx - ax) := by unfold aaU aaL; grind
theorem ac_V2 {ax ay bx by1 r s : Int} : aaV ax ay bx by1 r s - by1 * aaL ax ay bx by1 = (aaE ax ay bx by1 r s - aaL ax ay bx by1) * (by1 - ay) := by unfold aaV aaL; grind
theorem ac_S {ax ay bx by1 r s : Int} : aaR ax ay bx by1 r s + aaE ax ay bx by1 r s * aaE ax ay bx by1 r s = r * 4 * aaF ax ay bx by1 := by unfold aaR; omega
theorem ac_S2 {ax ay bx by1 r s : Int} : aaR ax ay bx by1 r s + (aaE ax ay bx by1 r s - aaL ax ay bx by1) * (aaE ax ay bx by1 r s - aaL ax ay bx by1) = s * 4 * aaF ax ay bx by1 := by unfold aaR aaL aaE; grind
theorem ac_P {ax ay bx by1 r s f1 t1 f2 t2 k : Int} : aaP ax ay bx by1 r s f1 t1 f2 t2 k ↔ acP (aaE ax ay bx by1 r s) (aaE ax ay bx by1 r s - aaL ax ay bx by1) (aaR ax ay bx by1 r s) (bx - ax) (by1 - ay) f1 t1 f2 t2 k := by
  have e : k * -(by1 - ay) = -k * (by1 - ay) := by grind
  unfold aaP acP ofA
  rw [ac_U, ac_V, ac_U2, ac_V2, e]
theorem ac_nz {ex ey e r R F k : Int} (h : ¬ (ex = 0 ∧ ey = 0)) (hS : R + e * e = r * 4 * F) (hr : 1 ≤ r) (hF : 0 < F) (hR : 0 ≤ R) (hk : k * k = 1) : ¬ (rn (e * ex) (-k * ey) R = 0 ∧ rn (e * ey) (k * ex) R = 0) := by
  rw [Int.mul_comm e, Int.mul_comm e]
  refine rn_nz hR ?_ ?_ ?_ (by rw [hS]; exact Int.mul_pos (by omega) hF) h
  · have : -k * ey * (-k * ey) = k * k * (ey * ey) := by grind
    rw [this, hk, Int.one_mul]
  · have : k * ex * (k * ex) = k * k * (ex * ex) := by grind
    rw [this, hk, Int.one_mul]
  · have : -k * ey * (k * ex) = -(k * k * (ex * ey)) := by grind
    rw [this, hk, Int.one_mul]
