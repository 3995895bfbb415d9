/-! a place and a segment: how far apart, squared, as a fraction -/
def pd (ax ay bx by1 x y : Int) : Int × Int :=
  if 0 < (bx - ax) * (x - ax) + (by1 - ay) * (y - ay) ∧ (bx - ax) * (x - ax) + (by1 - ay) * (y - ay) < (bx - ax) * (bx - ax) + (by1 - ay) * (by1 - ay) then
    (((bx - ax) * (y - ay) - (by1 - ay) * (x - ax)) * ((bx - ax) * (y - ay) - (by1 - ay) * (x - ax)), (bx - ax) * (bx - ax) + (by1 - ay) * (by1 - ay))
  else if (bx - ax) * (x - ax) + (by1 - ay) * (y - ay) ≤ 0 then ((x - ax) * (x - ax) + (y - ay) * (y - ay), 1)
  else ((x - bx) * (x - bx) + (y - by1) * (y - by1), 1)
theorem sq_nn (x : Int) : 0 ≤ x * x := by
  rcases Int.le_total 0 x with h | h
  · exact Int.mul_nonneg h h
  · have := Int.mul_nonneg (show 0 ≤ -x by omega) (show 0 ≤ -x by omega)
    rw [Int.neg_mul_neg] at this; exact this
theorem pd_nn (ax ay bx by1 x y : Int) : 0 ≤ (pd ax ay bx by1 x y).1 ∧ 0 < (pd ax ay bx by1 x y).2 := by
  unfold pd
  split
  · exact ⟨sq_nn _, by omega⟩
  · split
    · exact ⟨Int.add_nonneg (sq_nn _) (sq_nn _), (by decide : (0 : Int) < 1)⟩
    · exact ⟨Int.add_nonneg (sq_nn _) (sq_nn _), (by decide : (0 : Int) < 1)⟩
theorem pd_bd {ax ay bx by1 x y : Int} (h1 : inC ax) (h2 : inC ay) (h3 : inC bx) (h4 : inC by1) (h5 : inC x) (h6 : inC y) : bd 166 (pd ax ay bx by1 x y).1 ∧ bd 83 (pd ax ay bx by1 x y).2 := by
  have d1 := bd_sub (bd_C h3) (bd_C h1)
  have d2 := bd_sub (bd_C h4) (bd_C h2)
  have d3 := bd_sub (bd_C h5) (bd_C h1)
  have d4 := bd_sub (bd_C h6) (bd_C h2)
  have d5 := bd_sub (bd_C h5) (bd_C h3)
  have d6 := bd_sub (bd_C h6) (bd_C h4)
  have c := bd_sub (bd_mul d1 d4) (bd_mul d2 d3)
  unfold pd
  split
  · exact ⟨bd_mul c c, bd_add (bd_mul d1 d1) (bd_mul d2 d2)⟩
  · split
    · exact ⟨bd_mono (bd_add (bd_mul d3 d3) (bd_mul d4 d4)) (by decide), (by decide : Int.natAbs 1 ≤ 2 ^ 83)⟩
    · exact ⟨bd_mono (bd_add (bd_mul d5 d5) (bd_mul d6 d6)) (by decide), (by decide : Int.natAbs 1 ≤ 2 ^ 83)⟩
/-- the less of two fractions: the first but where the second is less -/
def mn (e c : Int × Int) : Int × Int := if c.1 * e.2 < e.1 * c.2 then c else e
theorem mn_nn {e c : Int × Int} (h : 0 ≤ e.1 ∧ 0 < e.2) (h2 : 0 ≤ c.1 ∧ 0 < c.2) : 0 ≤ (mn e c).1 ∧ 0 < (mn e c).2 := by unfold mn; split; exact h2; exact h
theorem mn_bd {e c : Int × Int} {j k : Nat} (h : bd j e.1 ∧ bd k e.2) (h2 : bd j c.1 ∧ bd k c.2) : bd j (mn e c).1 ∧ bd k (mn e c).2 := by unfold mn; split; exact h2; exact h
theorem mn_abs {c f e d : Int} (hc : 0 ≤ c) (hf : 0 < f) (he : 0 ≤ e) (hd : 0 < d) {g h : Int} (hg : g = c * f) (hh : h = e * d) : ((g.natAbs : Int) - (h.natAbs : Int) < 0 ↔ c * f < e * d) := by
  have h1 : 0 ≤ c * f := Int.mul_nonneg hc (Int.le_of_lt hf)
  have h2 : 0 ≤ e * d := Int.mul_nonneg he (Int.le_of_lt hd)
  omega
/-- what two numbers have in common -/
def gc (a b : Int) : Int := (Nat.gcd a.natAbs b.natAbs : Int)
theorem gc_pos {a b : Int} (hb : 0 < b) : 0 < gc a b := by
  unfold gc
  have : 0 < Nat.gcd a.natAbs b.natAbs := Nat.gcd_pos_of_pos_right _ (by omega)
  omega
theorem gc_step (a b : Int) : gc b ((a.natAbs : Int) % (b.natAbs : Int)) = gc a b := by
  unfold gc
  rw [← Int.natCast_emod, Int.natAbs_natCast, Nat.gcd_comm, ← Nat.gcd_rec, Nat.gcd_comm]
theorem gc_end {a : Int} (h : 0 ≤ a) : gc a 0 = a := by
  unfold gc
  rw [Int.natAbs_zero, Nat.gcd_zero_right]
  omega
theorem bd_lt319 {k : Nat} {z : Int} (h : bd k z) (hk : k < 319) : (z.natAbs : Int) < 1067993517960455041197510853084776057301352261178326384973520803911109862890320275011481043468288 := by
  have h2 := bd_mono h (show k ≤ 318 by omega)
  have h3 : (2 : Nat) ^ 318 < 1067993517960455041197510853084776057301352261178326384973520803911109862890320275011481043468288 := by decide
  have h4 := Nat.lt_of_le_of_lt h2 h3
  omega
theorem n_divide_6_4_5 (l : Launch) (G : jG) (q : Nat → Nat) (t n co cr po : Int32) (tx ty : Int64) (z0 z1 z2 z3 z4 z5 z6 z7 z8 z9 z10 z11 z12 z13 z14 z15 : Int) (sf : Nat → Int32) (hS : okS [z0, z1, z2, z3, z4, z5, z6, z7, z8, z9, z10, z11, z12, z13, z14, z15] sf) (hB : 0 < (z5.natAbs : Int)) {j k : Nat} (hb : bd j z5) (ha : bd k z4) (hj : j < 319) (hk : k < 319) (z w : Int) (hz : z = z4 / (z5.natAbs : Int)) (hw : w = (z4.natAbs : Int) % (z5.natAbs : Int)) : Ct l yX11_divide wsX11_divide rm_X11_divide G [.ref (q 0), .int 6, .int 4, .int 5] (mW G q t n co cr po tx ty [z0, z1, z2, z3, z4, z5, z6, z7, z8, z9, z10, z11, z12, z13, z14, z15] sf) (S := Int × Int × (Nat → Int32)) (fun r u => r = none ∧ okS [z0, z1, z2, z3, z4, z5, z, z7, z8, z9, z10, z11, w, z13, u.1, u.2.1] u.2.2) (fun u => mW G q t n co cr po tx ty [z0, z1, z2, z3, z4, z5, z, z7, z8, z9, z10, z11, w, z13, u.1, u.2.1] u.2.2) (fun _ => []) := by
  subst hz hw
  exact c_X11_divide_6_4_5 l G q t n co cr po tx ty z0 z1 z2 z3 z4 z5 z6 z7 z8 z9 z10 z11 z12 z13 z14 z15 sf hS hB (bd_lt319 hb hj) (bd_lt319 ha hk)
theorem n_divide_6_8_4 (l : Launch) (G : jG) (q : Nat → Nat) (t n co cr po : Int32) (tx ty : Int64) (z0 z1 z2 z3 z4 z5 z6 z7 z8 z9 z10 z11 z12 z13 z14 z15 : Int) (sf : Nat → Int32) (hS : okS [z0, z1, z2, z3, z4, z5, z6, z7, z8, z9, z10, z11, z12, z13, z14, z15] sf) (hB : 0 < (z4.natAbs : Int)) {j k : Nat} (hb : bd j z4) (ha : bd k z8) (hj : j < 319) (hk : k < 319) (z w : Int) (hz : z = z8 / (z4.natAbs : Int)) (hw : w = (z8.natAbs : Int) % (z4.natAbs : Int)) : Ct l yX11_divide wsX11_divide rm_X11_divide G [.ref (q 0), .int 6, .int 8, .int 4] (mW G q t n co cr po tx ty [z0, z1, z2, z3, z4, z5, z6, z7, z8, z9, z10, z11, z12, z13, z14, z15] sf) (S := Int × Int × (Nat → Int32)) (fun r u => r = none ∧ okS [z0, z1, z2, z3, z4, z5, z, z7, z8, z9, z10, z11, w, z13, u.1, u.2.1] u.2.2) (fun u => mW G q t n co cr po tx ty [z0, z1, z2, z3, z4, z5, z, z7, z8, z9, z10, z11, w, z13, u.1, u.2.1] u.2.2) (fun _ => []) := by
  subst hz hw
  exact c_X11_divide_6_8_4 l G q t n co cr po tx ty z0 z1 z2 z3 z4 z5 z6 z7 z8 z9 z10 z11 z12 z13 z14 z15 sf hS hB (bd_lt319 hb hj) (bd_lt319 ha hk)
theorem n_divide_7_9_4 (l : Launch) (G : jG) (q : Nat → Nat) (t n co cr po : Int32) (tx ty : Int64) (z0 z1 z2 z3 z4 z5 z6 z7 z8 z9 z10 z11 z12 z13 z14 z15 : Int) (sf : Nat → Int32) (hS : okS [z0, z1, z2, z3, z4, z5, z6, z7, z8, z9, z10, z11, z12, z13, z14, z15] sf) (hB : 0 < (z4.natAbs : Int)) {j k : Nat} (hb : bd j z4) (ha : bd k z9) (hj : j < 319) (hk : k < 319) (z w : Int) (hz : z = z9 / (z4.natAbs : Int)) (hw : w = (z9.natAbs : Int) % (z4.natAbs : Int)) : Ct l yX11_divide wsX11_divide rm_X11_divide G [.ref (q 0), .int 7, .int 9, .int 4] (mW G q t n co cr po tx ty [z0, z1, z2, z3, z4, z5, z6, z7, z8, z9, z10, z11, z12, z13, z14, z15] sf) (S := Int × Int × (Nat → Int32)) (fun r u => r = none ∧ okS [z0, z1, z2, z3, z4, z5, z6, z, z8, z9, z10, z11, w, z13, u.1, u.2.1] u.2.2) (fun u => mW G q t n co cr po tx ty [z0, z1, z2, z3, z4, z5, z6, z, z8, z9, z10, z11, w, z13, u.1, u.2.1] u.2.2) (fun _ => []) := by
  subst hz hw
  exact c_X11_divide_7_9_4 l G q t n co cr po tx ty z0 z1 z2 z3 z4 z5 z6 z7 z8 z9 z10 z11 z12 z13 z14 z15 sf hS hB (bd_lt319 hb hj) (bd_lt319 ha hk)
theorem n_divide_6_4_9 (l : Launch) (G : jG) (q : Nat → Nat) (t n co cr po : Int32) (tx ty : Int64) (z0 z1 z2 z3 z4 z5 z6 z7 z8 z9 z10 z11 z12 z13 z14 z15 : Int) (sf : Nat → Int32) (hS : okS [z0, z1, z2, z3, z4, z5, z6, z7, z8, z9, z10, z11, z12, z13, z14, z15] sf) (hB : 0 < (z9.natAbs : Int)) {j k : Nat} (hb : bd j z9) (ha : bd k z4) (hj : j < 319) (hk : k < 319) (z w : Int) (hz : z = z4 / (z9.natAbs : Int)) (hw : w = (z4.natAbs : Int) % (z9.natAbs : Int)) : Ct l yX11_divide wsX11_divide rm_X11_divide G [.ref (q 0), .int 6, .int 4, .int 9] (mW G q t n co cr po tx ty [z0, z1, z2, z3, z4, z5, z6, z7, z8, z9, z10, z11, z12, z13, z14, z15] sf) (S := Int × Int × (Nat → Int32)) (fun r u => r = none ∧ okS [z0, z1, z2, z3, z4, z5, z, z7, z8, z9, z10, z11, w, z13, u.1, u.2.1] u.2.2) (fun u => mW G q t n co cr po tx ty [z0, z1, z2, z3, z4, z5, z, z7, z8, z9, z10, z11, w, z13, u.1, u.2.1] u.2.2) (fun _ => []) := by
  subst hz hw
  exact c_X11_divide_6_4_9 l G q t n co cr po tx ty z0 z1 z2 z3 z4 z5 z6 z7 z8 z9 z10 z11 z12 z13 z14 z15 sf hS hB (bd_lt319 hb hj) (bd_lt319 ha hk)
section PDL
variable {ax ay bx by1 x y dx dy px py A B X C : Int}
theorem pd_A (h1 : dx = bx - ax) (h2 : dy = by1 - ay) (h3 : px = x - ax) (h4 : py = y - ay) (eA : A = dx * px + py * dy) : A = (bx - ax) * (x - ax) + (by1 - ay) * (y - ay) := by rw [eA, h1, h2, h3, h4, Int.mul_comm (y - ay)]
theorem pd_1 (h1 : dx = bx - ax) (h2 : dy = by1 - ay) (h3 : px = x - ax) (h4 : py = y - ay) (eA : A = dx * px + py * dy) (eB : B = dx * dx + dy * dy) (c1 : ¬ A ≤ 0) (c2 : ¬ 0 ≤ (A.natAbs : Int) - (B.natAbs : Int)) (eX : X = dx * py - px * dy) (eC : C = X * X) : C = (pd ax ay bx by1 x y).1 ∧ B = (pd ax ay bx by1 x y).2 := by
  have hA := pd_A h1 h2 h3 h4 eA
  have hB : 0 ≤ B := by rw [eB]; exact Int.add_nonneg (sq_nn _) (sq_nn _)
  have hB2 : B = (bx - ax) * (bx - ax) + (by1 - ay) * (by1 - ay) := by rw [eB, h1, h2]
  have hX : X = (bx - ax) * (y - ay) - (by1 - ay) * (x - ax) := by rw [eX, h1, h2, h3, h4, Int.mul_comm (x - ax)]
  unfold pd
  rw [← hA, ← hB2, if_pos ⟨by omega, by omega⟩, ← hX]
  exact ⟨eC, rfl⟩
theorem pd_2 (h1 : dx = bx - ax) (h2 : dy = by1 - ay) (h3 : px = x - ax) (h4 : py = y - ay) (eA : A = dx * px + py * dy) (c1 : A ≤ 0) (eC : C = px * px + py * py) : C = (pd ax ay bx by1 x y).1 ∧ (1 : Int) = (pd ax ay bx by1 x y).2 := by
  have hA := pd_A h1 h2 h3 h4 eA
  unfold pd
  rw [← hA, if_neg (by omega), if_pos c1, ← h3, ← h4]
  exact ⟨eC, rfl⟩
theorem pd_3 {qx qy : Int} (h1 : dx = bx - ax) (h2 : dy = by1 - ay) (h3 : px = x - ax) (h4 : py = y - ay) (eA : A = dx * px + py * dy) (eB : B = dx * dx + dy * dy) (c1 : ¬ A ≤ 0) (c2 : 0 ≤ (A.natAbs : Int) - (B.natAbs : Int)) (h5 : qx = x - bx) (h6 : qy = y - by1) (eC : C = qx * qx + qy * qy) : C = (pd ax ay bx by1 x y).1 ∧ (1 : Int) = (pd ax ay bx by1 x y).2 := by
  have hA := pd_A h1 h2 h3 h4 eA
  have hB : 0 ≤ B := by rw [eB]; exact Int.add_nonneg (sq_nn _) (sq_nn _)
  have hB2 : B = (bx - ax) * (bx - ax) + (by1 - ay) * (by1 - ay) := by rw [eB, h1, h2]
  unfold pd
  rw [← hA, ← hB2, if_neg (by omega), if_neg c1, ← h5, ← h6]
  exact ⟨eC, rfl⟩
end PDL
theorem mn_1 {c d e f g h : Int} {p : Int × Int} (ec : c = p.1) (ed : d = p.2) (hp : 0 ≤ p.1 ∧ 0 < p.2) (he : 0 ≤ e) (hf : 0 < f) (eg : g = c * f) (eh : h = e * d) (c1 : (g.natAbs : Int) - (h.natAbs : Int) < 0) : c = (mn (e, f) p).1 ∧ d = (mn (e, f) p).2 := by
  have := (mn_abs (c := c) (f := f) (e := e) (d := d) (by omega) hf he (by omega) eg eh).mp c1
  unfold mn
  rw [if_pos (by rw [← ec, ← ed]; exact this)]
  exact ⟨ec, ed⟩
theorem mn_2 {c d e f g h : Int} {p : Int × Int} (ec : c = p.1) (ed : d = p.2) (hp : 0 ≤ p.1 ∧ 0 < p.2) (he : 0 ≤ e) (hf : 0 < f) (eg : g = c * f) (eh : h = e * d) (c1 : ¬ (g.natAbs : Int) - (h.natAbs : Int) < 0) : e = (mn (e, f) p).1 ∧ f = (mn (e, f) p).2 := by
  have := fun q => c1 ((mn_abs (c := c) (f := f) (e := e) (d := d) (by omega) hf he (by omega) eg eh).mpr q)
  unfold mn
  rw [if_neg (by rw [← ec, ← ed]; exact this)]
  exact ⟨rfl, rfl⟩
theorem i_ofN {x : Int32} (h : 0 ≤ x.toInt) : x = nI x.toInt.toNat := i_nI (by omega) (by have := i_rng x; omega)
abbrev segB (f1 f2 f3 f4 : Nat → Int64) (k : Nat) : Prop := (inC (f1 k).toInt ∧ inC (f2 k).toInt) ∧ inC (f3 k).toInt ∧ inC (f4 k).toInt
/-- the shapes that the reference holds -/
def shI (n : Int32) (fa : Nat → Int32) (f1 f2 f3 f4 : Nat → Int64) (fr to1 : Nat → Int32) : Prop := (0 ≤ n.toInt ∧ n.toInt ≤ 200) ∧ ∀ k : Nat, (k : Int) < n.toInt → (fa k = 0 ∧ segB f1 f2 f3 f4 k ∧ ¬ ((f1 k).toInt = (f3 k).toInt ∧ (f2 k).toInt = (f4 k).toInt)) ∨ (fa k = 1 ∧ (inC (f1 k).toInt ∧ inC (f2 k).toInt) ∧ (1 ≤ (f3 k).toInt ∧ (f3 k).toInt ≤ 4611686018427387904) ∧ (0 ≤ (fr k).toInt ∧ (fr k).toInt < 8) ∧ (0 ≤ (to1 k).toInt ∧ (to1 k).toInt < 8))
theorem shI_seg {n : Int32} {fa : Nat → Int32} {f1 f2 f3 f4 : Nat → Int64} {fr to1 : Nat → Int32} (h : shI n fa f1 f2 f3 f4 fr to1) {k : Nat} (hk : (k : Int) < n.toInt) (h0 : fa k = 0) : segB f1 f2 f3 f4 k ∧ ¬ ((f1 k).toInt = (f3 k).toInt ∧ (f2 k).toInt = (f4 k).toInt) := by
  rcases h.2 k hk with q | q
  · exact q.2
  · exact absurd (h0.symm.trans q.1) (by decide)
theorem shI_arc {n : Int32} {fa : Nat → Int32} {f1 f2 f3 f4 : Nat → Int64} {fr to1 : Nat → Int32} (h : shI n fa f1 f2 f3 f4 fr to1) {k : Nat} (hk : (k : Int) < n.toInt) (h0 : ¬ fa k = 0) : fa k = 1 ∧ (inC (f1 k).toInt ∧ inC (f2 k).toInt) ∧ (1 ≤ (f3 k).toInt ∧ (f3 k).toInt ≤ 4611686018427387904) ∧ (0 ≤ (fr k).toInt ∧ (fr k).toInt < 8) ∧ (0 ≤ (to1 k).toInt ∧ (to1 k).toInt < 8) := by
  rcases h.2 k hk with q | q
  · exact absurd q.1 h0
  · exact q
/-- the squared distance of two segments, before it is reduced, and one limb of the answer -/
def dsm (f1 f2 f3 f4 : Nat → Int64) (a b : Nat) : Int × Int := mn (mn (mn (pd (f1 a).toInt (f2 a).toInt (f3 a).toInt (f4 a).toInt (f1 b).toInt (f2 b).toInt) (pd (f1 a).toInt (f2 a).toInt (f3 a).toInt (f4 a).toInt (f3 b).toInt (f4 b).toInt)) (pd (f1 b).toInt (f2 b).toInt (f3 b).toInt (f4 b).toInt (f1 a).toInt (f2 a).toInt)) (pd (f1 b).toInt (f2 b).toInt (f3 b).toInt (f4 b).toInt (f3 a).toInt (f4 a).toInt)
def dsv (f1 f2 f3 f4 : Nat → Int64) (a b : Nat) (part limb : Int) : Int := if mt (f1 a).toInt (f2 a).toInt (f3 a).toInt (f4 a).toInt (f1 b).toInt (f2 b).toInt (f3 b).toInt (f4 b).toInt then (if part = 1 ∧ limb = 0 then 1 else 0) else (if part = 0 then (dsm f1 f2 f3 f4 a b).1 else (dsm f1 f2 f3 f4 a b).2) / gc (dsm f1 f2 f3 f4 a b).1 (dsm f1 f2 f3 f4 a b).2 / dP limb.toNat % 4294967296
theorem bd_of_le {k : Nat} {x y : Int} (h0 : 0 ≤ x) (h : x ≤ y) (hy : bd k y) : bd k x := by
  unfold bd at *
  omega
theorem nI_s {N : Nat} (h : N < 2147483647) : nI N + 1 = nI (N + 1) := by
  have e1 := nI_T (k := N) (by omega)
  have e2 := nI_T (k := N + 1) (by omega)
  exact i_eq (by rw [i_add] <;> rw [e1, iT1] <;> omega)
theorem nI_p {N : Nat} (h : N < 2147483647) : nI (N + 1) - 1 = nI N := by
  have e1 := nI_T (k := N) (by omega)
  have e2 := nI_T (k := N + 1) (by omega)
  exact i_eq (by rw [i_sub] <;> rw [e2, iT1] <;> omega)
