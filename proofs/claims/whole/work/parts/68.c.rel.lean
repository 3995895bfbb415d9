/-! what the class holds of two segments' crossing -/
/-- a crossing's places are near its base -/
abbrev xB (v : XV) (bx by1 : Int) : Prop := (inC bx ∧ inC by1) ∧ (-(2199023255552 * v.2.2.2.2.1) ≤ v.2.1 - bx * v.2.2.2.2.1 ∧ v.2.1 - bx * v.2.2.2.2.1 ≤ 2199023255552 * v.2.2.2.2.1) ∧ (-(2199023255552 * v.2.2.2.2.1) ≤ v.2.2.1 - by1 * v.2.2.2.2.1 ∧ v.2.2.1 - by1 * v.2.2.2.2.1 ≤ 2199023255552 * v.2.2.2.2.1)
theorem ab_b {A L d : Int} (h : 0 ≤ A ∧ A ≤ L) (hd : -2199023255552 ≤ d ∧ d ≤ 2199023255552) : -(2199023255552 * L) ≤ A * d ∧ A * d ≤ 2199023255552 * L := by
  have h1 : A * d ≤ A * 2199023255552 := Int.mul_le_mul_of_nonneg_left hd.2 h.1
  have h2 : A * -2199023255552 ≤ A * d := Int.mul_le_mul_of_nonneg_left hd.1 h.1
  omega
def ocR (o : Option XV) (w : Nat → Nat → Int64) (sd : Nat → Int32) (ct md : Int32) (bx by1 B : Int) : Prop := (o = none ∧ md = 0 ∧ ct = 0) ∨ ∃ v : XV, o = some v ∧ md = 1 ∧ ct = nI v.1.length ∧ (¬ v.1 = [] → B = v.2.2.2.2.1 ∧ crU v bx by1 w sd ∧ xB v bx by1)
theorem oc_n {w : Nat → Nat → Int64} {sd : Nat → Int32} {bx by1 B : Int} : ocR none w sd 0 0 bx by1 B := Or.inl ⟨rfl, rfl, rfl⟩
theorem oc_0 {w : Nat → Nat → Int64} {sd : Nat → Int32} {bx by1 B : Int} {t : Int × Int × Int × Int × Int × Int} : ocR (some ([], t)) w sd 0 1 bx by1 B := Or.inr ⟨_, rfl, rfl, rfl, fun h => absurd rfl h⟩
theorem pt_0 {w : Nat → Nat → Int64} {sd : Nat → Int32} {i j : Nat} {A dx dy P V R k : Int} (hP : P = A * dx) (hV : V = A * dy) (h1 : w i = dg (A * dx)) (h2 : w (i + 1) = dg (0 * 0 * R)) (h3 : sd j = sg 0 * sg R) (h4 : w (i + 3) = dg (A * dy)) (h5 : w (i + 4) = dg (0 * 0 * R)) (h6 : sd (j + 1) = sg 0 * sg R) : ptU w sd i j P V 0 0 0 k := by
  have e : (0 : Int) * 0 * R = 0 * 0 * 0 := by rw [Int.zero_mul, Int.zero_mul, Int.zero_mul]
  have e2 : sg 0 * sg R = sg (k * 0) * sg 0 := by rw [Int.mul_zero, sg_zero rfl, Int32.zero_mul, Int32.zero_mul]
  rw [e] at h2 h5
  rw [e2] at h3 h6
  exact ⟨⟨by rw [hP]; exact h1, h2, h3⟩, by rw [hV]; exact h4, h5, h6⟩
theorem oc_1 {w : Nat → Nat → Int64} {sd : Nat → Int32} {U V L A dx dy R bx by1 : Int} (hP : U - bx * L = A * dx) (hV : V - by1 * L = A * dy) (hb : (inC bx ∧ inC by1) ∧ (-(2199023255552 * L) ≤ A * dx ∧ A * dx ≤ 2199023255552 * L) ∧ (-(2199023255552 * L) ≤ A * dy ∧ A * dy ≤ 2199023255552 * L)) (h1 : w 7 = dg (A * dx)) (h2 : w 8 = dg (0 * 0 * R)) (h3 : sd 1 = sg 0 * sg R) (h4 : w 10 = dg (A * dy)) (h5 : w 11 = dg (0 * 0 * R)) (h6 : sd 2 = sg 0 * sg R) : ocR (some ([0], U, V, 0, L, 0, 0)) w sd 1 1 bx by1 L := Or.inr ⟨_, rfl, rfl, rfl, fun _ => ⟨rfl, crU_1 rfl iT0 (pt_0 hP hV h1 h2 h3 h4 h5 h6), hb.1, by dsimp only; rw [hP]; exact hb.2.1, by dsimp only; rw [hV]; exact hb.2.2⟩⟩
section XSS
variable {ax ay bx by1 cx cy dx dy : Int}
theorem xss_1 (h : ssL ax ay bx by1 cx cy dx dy = 0) (ht : ¬ tn ax ay bx by1 cx cy = 0) : xss ax ay bx by1 cx cy dx dy (some ([], 0, 0, 0, 0, 0, 0)) := by unfold xss; rw [if_pos h, if_pos ht]
theorem xss_2 {o : Option XV} (h : ssL ax ay bx by1 cx cy dx dy = 0) (ht : tn ax ay bx by1 cx cy = 0) (hx : xal (hiP ax ay bx by1 cx cy dx dy) (hiX ax bx cx dx) (hiX ay by1 cy dy) o) : xss ax ay bx by1 cx cy dx dy o := by unfold xss; rw [if_pos h, if_neg (fun q => q ht)]; exact hx
theorem xss_3 (h : ¬ ssL ax ay bx by1 cx cy dx dy = 0) (hm : ¬ mt ax ay bx by1 cx cy dx dy) : xss ax ay bx by1 cx cy dx dy (some ([], 0, 0, 0, 0, 0, 0)) := by unfold xss; rw [if_neg h, if_pos hm]
theorem xss_4 (h : ssL ax ay bx by1 cx cy dx dy < 0) (hm : mt ax ay bx by1 cx cy dx dy) : xss ax ay bx by1 cx cy dx dy (some ([0], ax * -ssL ax ay bx by1 cx cy dx dy + (bx - ax) * -ssB ax ay cx cy dx dy, ay * -ssL ax ay bx by1 cx cy dx dy + (by1 - ay) * -ssB ax ay cx cy dx dy, 0, -ssL ax ay bx by1 cx cy dx dy, 0, 0)) := by unfold xss; rw [if_neg (by omega), if_neg (fun q => q hm), if_pos h]
theorem xss_5 (h : 0 < ssL ax ay bx by1 cx cy dx dy) (hm : mt ax ay bx by1 cx cy dx dy) : xss ax ay bx by1 cx cy dx dy (some ([0], ax * ssL ax ay bx by1 cx cy dx dy + (bx - ax) * ssB ax ay cx cy dx dy, ay * ssL ax ay bx by1 cx cy dx dy + (by1 - ay) * ssB ax ay cx cy dx dy, 0, ssL ax ay bx by1 cx cy dx dy, 0, 0)) := by unfold xss; rw [if_neg (by omega), if_neg (fun q => q hm), if_neg (by omega)]
theorem ss_bL (h1 : inC ax) (h2 : inC ay) (h3 : inC bx) (h4 : inC by1) (h5 : inC cx) (h6 : inC cy) (h7 : inC dx) (h8 : inC dy) : bd 83 (ssL ax ay bx by1 cx cy dx dy) := bd_sub (bd_mul (bd_sC h3 h1) (bd_sC h8 h6)) (bd_mul (bd_sC h7 h5) (bd_sC h4 h2))
theorem ss_bB (h1 : inC ax) (h2 : inC ay) (h5 : inC cx) (h6 : inC cy) (h7 : inC dx) (h8 : inC dy) : bd 83 (ssB ax ay cx cy dx dy) := bd_sub (bd_mul (bd_sC h5 h1) (bd_sC h8 h6)) (bd_mul (bd_sC h7 h5) (bd_sC h6 h2))
theorem ss_eL {p q r s : Int} (h1 : p = bx - ax) (h2 : q = by1 - ay) (h3 : r = dx - cx) (h4 : s = dy - cy) : p * s - q * r = ssL ax ay bx by1 cx cy dx dy := by rw [h1, h2, h3, h4]; unfold ssL; rw [Int.mul_comm (by1 - ay)]
theorem ss_eB {u v r s : Int} (h1 : u = cx - ax) (h2 : v = cy - ay) (h3 : r = dx - cx) (h4 : s = dy - cy) : u * s - v * r = ssB ax ay cx cy dx dy := by rw [h1, h2, h3, h4]; unfold ssB; rw [Int.mul_comm (cy - ay)]
theorem ss_eT {u v p q : Int} (h1 : u = cx - ax) (h2 : v = cy - ay) (h3 : p = bx - ax) (h4 : q = by1 - ay) : u * q - v * p = -tn ax ay bx by1 cx cy := by rw [h1, h2, h3, h4]; unfold tn; rw [Int.mul_comm (cy - ay)]; omega
theorem ss_P {x p L A : Int} : x * L + p * A - x * L = A * p := by rw [Int.mul_comm A]; omega
end XSS
theorem lk_T {v x y d : Int64} {ax bx : Int} (hd : d.toInt = bx - ax) (e : v = if d.toInt = 0 then y else x) : v.toInt = lk ax bx x.toInt y.toInt := by
  rw [e, hd]; unfold lk
  split <;> rfl
