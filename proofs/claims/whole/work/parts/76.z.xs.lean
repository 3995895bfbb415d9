/-! a crossing's state, and that two segments give one answer -/
abbrev XS : Type := (Nat → Nat → Int64) × (Nat → Int32) × (Nat → Int64) × Int32 × Int64 × Int64 × Int × Int
abbrev xP (v : XV) (u : XS) : Prop := u.2.2.2.1 = nI v.1.length ∧ (¬ v.1 = [] → u.2.2.2.2.2.2.1 = v.2.2.2.2.1 ∧ crU v u.2.2.2.2.1.toInt u.2.2.2.2.2.1.toInt u.1 u.2.1 ∧ xB v u.2.2.2.2.1.toInt u.2.2.2.2.2.1.toInt) ∧ (-57896044618658097711785492504343953926634992332820282019728792003956564819968 ≤ u.2.2.2.2.2.2.2 ∧ u.2.2.2.2.2.2.2 < 57896044618658097711785492504343953926634992332820282019728792003956564819968)
abbrev xQ (u : XS) : Prop := u.2.2.2.1 = 0 ∧ (-57896044618658097711785492504343953926634992332820282019728792003956564819968 ≤ u.2.2.2.2.2.2.2 ∧ u.2.2.2.2.2.2.2 < 57896044618658097711785492504343953926634992332820282019728792003956564819968)
theorem xal_u {H : Nat → Prop} {X Y : Nat → Int} {o o' : Option XV} (h : xal H X Y o) (h' : xal H X Y o') : o = o' := by
  rcases h with ⟨rfl, i, j, hi, hj, Hi, Hj, hn⟩ | ⟨rfl, h0⟩ | ⟨j, hj, Hj, rfl, hall⟩ <;> rcases h' with ⟨rfl, i', j', hi', hj', Hi', Hj', hn'⟩ | ⟨rfl, h0'⟩ | ⟨j', hj', Hj', rfl, hall'⟩
  · rfl
  · exact absurd Hi (h0' i hi)
  · exact absurd ⟨(hall' i hi Hi).1.trans (hall' j hj Hj).1.symm, (hall' i hi Hi).2.trans (hall' j hj Hj).2.symm⟩ hn
  · exact absurd Hi' (h0 i' hi')
  · rfl
  · exact absurd Hj' (h0 j' hj')
  · exact absurd ⟨(hall i' hi' Hi').1.trans (hall j' hj' Hj').1.symm, (hall i' hi' Hi').2.trans (hall j' hj' Hj').2.symm⟩ hn'
  · exact absurd Hj (h0' j hj)
  · have := hall j' hj' Hj'
    rw [this.1, this.2]
theorem xss_u {ax ay bx by1 cx cy dx dy : Int} {o o' : Option XV} (h : xss ax ay bx by1 cx cy dx dy o) (h' : xss ax ay bx by1 cx cy dx dy o') : o = o' := by
  unfold xss at h h'
  by_cases c : ssL ax ay bx by1 cx cy dx dy = 0
  · rw [if_pos c] at h h'
    by_cases c2 : ¬ tn ax ay bx by1 cx cy = 0
    · rw [if_pos c2] at h h'; rw [h, h']
    · rw [if_neg c2] at h h'; exact xal_u h h'
  · rw [if_neg c] at h h'
    by_cases c2 : ¬ mt ax ay bx by1 cx cy dx dy
    · rw [if_pos c2] at h h'; rw [h, h']
    · rw [if_neg c2] at h h'
      by_cases c3 : ssL ax ay bx by1 cx cy dx dy < 0
      · rw [if_pos c3] at h h'; rw [h, h']
      · rw [if_neg c3] at h h'; rw [h, h']

theorem sq_bd {P L : Int} (hL : 0 ≤ L) (h : P * P ≤ 4611686018427387904 * (L * L)) : -(2199023255552 * L) ≤ P ∧ P ≤ 2199023255552 * L := by
  have e : 2147483648 * L * (2147483648 * L) = 4611686018427387904 * (L * L) := by grind
  have h1 := sq_le2 (p := P) (q := 2147483648 * L) (by omega) (by rw [e]; exact h)
  have h2 := sq_le2 (p := -P) (q := 2147483648 * L) (by omega) (by rw [Int.neg_mul_neg, e]; exact h)
  omega
theorem pr_bd {z d r L : Int} (hz : z * z ≤ r * L) (hd : d * d ≤ L) (hL : 0 ≤ L) (hr : 0 ≤ r ∧ r ≤ 4611686018427387904) : z * d * (z * d) ≤ 4611686018427387904 * (L * L) := by
  have e : z * d * (z * d) = z * z * (d * d) := by grind
  have h1 := Int.mul_le_mul hz hd (sq_nn d) (Int.mul_nonneg hr.1 hL)
  have h2 : r * (L * L) ≤ 4611686018427387904 * (L * L) := Int.mul_le_mul_of_nonneg_right hr.2 (Int.mul_nonneg hL hL)
  rw [e]
  rw [Int.mul_assoc r L L] at h1
  exact Int.le_trans h1 h2
theorem sa_R0 {ax ay bx by1 cx cy r f t : Int} (h : ¬ (xsa ax ay bx by1 cx cy r f t).1 = []) : 0 ≤ saR ax ay bx by1 cx cy r := by
  rcases Int.lt_or_le (saR ax ay bx by1 cx cy r) 0 with c | c
  · exact absurd (sa_n c) h
  · exact c
theorem sa_L2 {ax ay bx by1 : Int} : (bx - ax) * (bx - ax) ≤ saL ax ay bx by1 ∧ (by1 - ay) * (by1 - ay) ≤ saL ax ay bx by1 ∧ 0 ≤ saL ax ay bx by1 := by
  have h1 := sq_nn (bx - ax)
  have h2 := sq_nn (by1 - ay)
  unfold saL; omega
theorem sa_xB {ax ay bx by1 cx cy r f t : Int} (hc : inC cx ∧ inC cy) (hr : 1 ≤ r ∧ r ≤ 4611686018427387904) (h : ¬ (xsa ax ay bx by1 cx cy r f t).1 = []) : xB (xsa ax ay bx by1 cx cy r f t) cx cy := by
  have hR := sa_R0 h
  have hS := @sc_S ax ay bx by1 cx cy r
  have hL := @sa_L2 ax ay bx by1
  have hz : saZ ax ay bx by1 cx cy * saZ ax ay bx by1 cx cy ≤ r * saL ax ay bx by1 := by omega
  refine ⟨hc, ?_, ?_⟩
  · show -(2199023255552 * saL ax ay bx by1) ≤ saU ax ay bx by1 cx cy - cx * saL ax ay bx by1 ∧ saU ax ay bx by1 cx cy - cx * saL ax ay bx by1 ≤ 2199023255552 * saL ax ay bx by1
    rw [sc_U]
    exact sq_bd hL.2.2 (pr_bd (d := -(by1 - ay)) hz (by rw [Int.neg_mul_neg]; exact hL.2.1) hL.2.2 ⟨by omega, hr.2⟩)
  · show -(2199023255552 * saL ax ay bx by1) ≤ saV ax ay bx by1 cx cy - cy * saL ax ay bx by1 ∧ saV ax ay bx by1 cx cy - cy * saL ax ay bx by1 ≤ 2199023255552 * saL ax ay bx by1
    rw [sc_V]
    exact sq_bd hL.2.2 (pr_bd hz hL.1 hL.2.2 ⟨by omega, hr.2⟩)
theorem aa_R0 {ax ay bx by1 r s f1 t1 f2 t2 : Int} (h : ¬ aaS ax ay bx by1 r s f1 t1 f2 t2 = []) : 0 ≤ aaR ax ay bx by1 r s := by
  rcases Int.lt_or_le (aaR ax ay bx by1 r s) 0 with c | c
  · exact absurd (aa_n c) h
  · exact c
theorem aa_pr {e d r F L : Int} (hL : L = F + F) (he : e * e ≤ r * 4 * F) (hd : d * d ≤ F) (hF : 0 ≤ F) (hr : 0 ≤ r ∧ r ≤ 4611686018427387904) : e * d * (e * d) ≤ 4611686018427387904 * (L * L) := by
  have e1 : e * d * (e * d) = e * e * (d * d) := by grind
  have h1 := Int.mul_le_mul he hd (sq_nn d) (Int.mul_nonneg (by omega) hF)
  have e2 : r * 4 * F * F = r * (L * L) := by rw [hL]; grind
  have h2 : r * (L * L) ≤ 4611686018427387904 * (L * L) := Int.mul_le_mul_of_nonneg_right hr.2 (sq_nn L)
  rw [e1]
  rw [e2] at h1
  exact Int.le_trans h1 h2
theorem aa_F2 {ax ay bx by1 : Int} : (bx - ax) * (bx - ax) ≤ aaF ax ay bx by1 ∧ (by1 - ay) * (by1 - ay) ≤ aaF ax ay bx by1 ∧ 0 ≤ aaF ax ay bx by1 := by
  have h1 := sq_nn (bx - ax)
  have h2 := sq_nn (by1 - ay)
  unfold aaF; omega
theorem aa_xB {ax ay bx by1 r s f1 t1 f2 t2 : Int} (hc : inC ax ∧ inC ay) (hr : 1 ≤ r ∧ r ≤ 4611686018427387904) (h : ¬ aaS ax ay bx by1 r s f1 t1 f2 t2 = []) : xB (aaS ax ay bx by1 r s f1 t1 f2 t2, aaU ax ay bx by1 r s, aaV ax ay bx by1 r s, aaR ax ay bx by1 r s, aaL ax ay bx by1, -(by1 - ay), bx - ax) ax ay := by
  have hR := aa_R0 h
  have hS := @ac_S ax ay bx by1 r s
  have hF := @aa_F2 ax ay bx by1
  have he : aaE ax ay bx by1 r s * aaE ax ay bx by1 r s ≤ r * 4 * aaF ax ay bx by1 := by omega
  have hL : 0 ≤ aaL ax ay bx by1 := by unfold aaL; omega
  refine ⟨hc, ?_, ?_⟩
  · show -(2199023255552 * aaL ax ay bx by1) ≤ aaU ax ay bx by1 r s - ax * aaL ax ay bx by1 ∧ aaU ax ay bx by1 r s - ax * aaL ax ay bx by1 ≤ 2199023255552 * aaL ax ay bx by1
    rw [ac_U]
    exact sq_bd hL (aa_pr rfl he hF.1 hF.2.2 ⟨by omega, hr.2⟩)
  · show -(2199023255552 * aaL ax ay bx by1) ≤ aaV ax ay bx by1 r s - ay * aaL ax ay bx by1 ∧ aaV ax ay bx by1 r s - ay * aaL ax ay bx by1 ≤ 2199023255552 * aaL ax ay bx by1
    rw [ac_V]
    exact sq_bd hL (aa_pr rfl he hF.2.1 hF.2.2 ⟨by omega, hr.2⟩)
