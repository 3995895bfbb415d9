/-! rounding: the class's bits are the reference's floors -/
def adj (w : Int32) (N E : Int) : Int := if w = 0 then 0 else if w < 0 then (if E * E = N then -E else -E - 1) else E
theorem fl_adj {A N E M : Int} {w : Int32} : flA A w N E M = (A + adj w N E) / M := rfl
theorem rt_le {Q E X : Int} (h : rtR Q E) (hX : 0 ≤ X) : X * X ≤ Q ↔ X ≤ E := by
  constructor
  · intro q
    rcases Int.lt_or_le E X with c | c
    · have := sq_mono (p := E + 1) (q := X) (by have := h.1; omega) (by omega)
      have := h.2.2; omega
    · exact c
  · intro q
    have := sq_mono hX q
    have := h.2.1; omega
theorem rt_ge {Q E X : Int} (h : rtR Q E) (hX : 0 ≤ X) : Q ≤ X * X ↔ (if E * E = Q then E else E + 1) ≤ X := by
  split
  · rename_i e
    constructor
    · intro q
      rw [← e] at q
      exact sq_le2 hX q
    · intro q
      have := sq_mono h.1 q
      omega
  · rename_i e
    constructor
    · intro q
      rcases Int.lt_or_le E X with c | c
      · omega
      · exfalso
        have := sq_mono hX c
        have := h.2.1
        apply e
        omega
    · intro q
      have := sq_mono (p := E + 1) (q := X) (by have := h.1; omega) q
      have := h.2.2; omega
theorem cs_fl {X Q E : Int} {s : Int32} (hs : r3 s) (hsQ : s = 0 ↔ Q = 0) (hQ : 0 ≤ Q) (hE : rtR Q E) : 0 ≤ (cs X s Q).toInt ↔ 0 ≤ X + adj s Q E := by
  have hE0 := hE.1
  have t1 := sg_T X
  have t2 := sg_T (X * X - Q)
  rcases hs with rfl | rfl | rfl
  · rw [cs_0 rfl]; unfold adj; rw [if_pos rfl]; omega
  · have hQ0 : ¬ Q = 0 := fun q => absurd (hsQ.mpr q) (by decide)
    unfold adj
    rw [if_neg (by decide), if_neg (by decide)]
    rcases Int.lt_trichotomy X 0 with c | c | c
    · rw [cs_m (by decide) (by rw [sg_neg c]; decide) (by rw [sg_neg c]; decide), sg_neg c, ← sg_neg (show (-1 : Int) < 0 by decide), sg_mul]
      have t3 := sg_T (-1 * (X * X - Q))
      have := rt_le hE (X := -X) (by omega)
      rw [Int.neg_mul_neg] at this
      omega
    · rw [cs_z (by decide) (sg_zero c), iT1]; omega
    · rw [cs_e (sg_pos c)]; omega
  · have hQ0 : ¬ Q = 0 := fun q => absurd (hsQ.mpr q) (by decide)
    have hadj : adj (-1) Q E = -(if E * E = Q then E else E + 1) := by
      unfold adj
      rw [if_neg (by decide), if_pos (by decide)]
      split <;> omega
    rw [hadj]
    have hp : 0 < (if E * E = Q then E else E + 1) := by
      split
      · rename_i e
        have : ¬ E = 0 := fun q => hQ0 (by rw [← e, q]; rfl)
        omega
      · omega
    rcases Int.lt_trichotomy X 0 with c | c | c
    · rw [cs_e (sg_neg c)]; omega
    · rw [cs_z (by decide) (sg_zero c), iTm1]; omega
    · rw [cs_m (by decide) (by rw [sg_pos c]; decide) (by rw [sg_pos c]; decide), sg_pos c, Int32.one_mul]
      have := rt_ge hE (X := X) (by omega)
      omega
theorem fl_u {A M n a : Int} (hM : 0 < M) (h1 : 0 ≤ A - n * M + a) (h2 : A - n * M - M + a < 0) : (A + a) / M = n := ((dv_end (a := A + a) (b := M) (q := n) (r := A + a - n * M) hM (by omega) ⟨by omega, by rw [Int.pow_zero, Int.mul_one]; omega⟩).1).symm
/-- the class's side and the reference's sign -/
theorem adj_w {k f R E : Int} (hR : 0 ≤ R) (hE : rtR (f * f * R) E) : adj (sg (k * f) * sg R) (f * f * R) E = adj (sg (k * f)) (f * f * R) E := by
  by_cases h : R = 0
  · have hN : f * f * R = 0 := by rw [h, Int.mul_zero]
    have hE0 : E = 0 := by
      have h1 := (rt_le hE (X := E) hE.1).mpr (Int.le_refl E)
      rw [hN] at h1
      exact Int.le_antisymm (by
        rcases Int.lt_or_le 0 E with c | c
        · have := Int.mul_pos c c; omega
        · exact c) hE.1
    unfold adj
    rw [hN, hE0]
    simp
  · rw [sg_pos (show 0 < R by omega), Int32.mul_one]
theorem sd_Q {k f R : Int} (hk : ¬ k = 0 ∨ f = 0) (hR : 0 ≤ R) : sg (k * f) * sg R = 0 ↔ f * f * R = 0 := by
  rw [sg_mul, sg_e0]
  constructor
  · intro h
    rcases Int.mul_eq_zero.mp h with q | q
    · rcases Int.mul_eq_zero.mp q with c | c
      · rcases hk with d | d
        · exact absurd c d
        · rw [d]; simp
      · rw [c]; simp
    · rw [q]; simp
  · intro h
    rcases Int.mul_eq_zero.mp h with q | q
    · rcases Int.mul_eq_zero.mp q with c | c <;> (rw [c]; simp)
    · rw [q]; simp
section AT
variable {U bx L k f R E F : Int}
theorem at_0 (hL : 0 < L) (hR : 0 ≤ R) (hk : ¬ k = 0 ∨ f = 0) (hE : rtR (f * f * R) E) (h : rdR (U - bx * L) (sg (k * f) * sg R) (f * f * R) L F) : flA U (sg (k * f)) (f * f * R) E L = bx + F := by
  have hQ := Int.mul_nonneg (sq_nn f) hR
  have h3 : r3 (sg (k * f) * sg R) := by rw [sg_mul]; exact sg_3 _
  have h1 := (cs_fl h3 (sd_Q hk hR) hQ hE).mp h.1
  have h2 : ¬ 0 ≤ U - bx * L - F * L - L + adj (sg (k * f) * sg R) (f * f * R) E := fun q => by
    have := (cs_fl h3 (sd_Q hk hR) hQ hE).mpr q
    have := h.2; omega
  rw [fl_adj, ← adj_w hR hE]
  refine fl_u hL ?_ ?_
  · rw [Int.add_mul]; omega
  · rw [Int.add_mul]; omega
theorem cs_ng (X Q : Int) {s : Int32} (hs : r3 s) : cs (-X) (-s) Q = -cs X s Q := by
  unfold cs
  rw [sg_ng, Int.neg_mul_neg]
  exact cs_n3 (sg_3 X) hs (sg_3 _)
theorem adj_0 {N E : Int} : adj 0 N E = 0 := if_pos rfl
theorem adj_p {N E : Int} : adj 1 N E = E := by unfold adj; rw [if_neg (by decide), if_neg (by decide)]
theorem adj_m {N E : Int} : adj (-1) N E = if E * E = N then -E else -E - 1 := by unfold adj; rw [if_neg (by decide), if_pos (by decide)]
theorem adj_s {s : Int32} {N E : Int} (hs : r3 s) : adj s N E + adj (-s) N E ≤ 0 := by
  rcases hs with rfl | rfl | rfl
  · rw [show (-0 : Int32) = 0 from by decide, adj_0]; omega
  · rw [adj_p, adj_m]; split <;> omega
  · rw [show (- -1 : Int32) = 1 from by decide, adj_p, adj_m]; split <;> omega
theorem at_1 {r : Int} (hL : 0 < L) (hR : 0 ≤ R) (hk : ¬ k = 0 ∨ f = 0) (hE : rtR (f * f * R) E) (h : rdR (U - bx * L) (sg (k * f) * sg R) (f * f * R) L F) (hr : (cs (U - bx * L - F * L) (sg (k * f) * sg R) (f * f * R) = 0 ∧ r = F) ∨ (¬ cs (U - bx * L - F * L) (sg (k * f) * sg R) (f * f * R) = 0 ∧ r = F + 1)) : -flA (-U) (sg (-k * f)) (f * f * R) E L = bx + r := by
  have hQ := Int.mul_nonneg (sq_nn f) hR
  have h3 : r3 (sg (k * f) * sg R) := by rw [sg_mul]; exact sg_3 _
  have hsQ := sd_Q hk hR
  have es : sg (-k * f) * sg R = -(sg (k * f) * sg R) := by rw [Int.neg_mul, sg_ng]; rcases sg_3 (k * f) with q | q | q <;> rcases sg_3 R with q2 | q2 | q2 <;> rw [q, q2] <;> decide
  have hk2 : ¬ -k = 0 ∨ f = 0 := by omega
  have h3n : r3 (sg (-k * f) * sg R) := by rw [sg_mul]; exact sg_3 _
  have cn : ∀ X : Int, (cs (-X) (sg (-k * f) * sg R) (f * f * R)).toInt = -(cs X (sg (k * f) * sg R) (f * f * R)).toInt := fun X => by
    rw [es, cs_ng X _ h3, i_n3]
    have := cs_r X (sg (k * f) * sg R) (f * f * R) (r3_T h3)
    have : (cs X (sg (k * f) * sg R) (f * f * R)).toInt = 0 ∨ (cs X (sg (k * f) * sg R) (f * f * R)).toInt = 1 ∨ (cs X (sg (k * f) * sg R) (f * f * R)).toInt = -1 := by omega
    rcases this with q | q | q
    · exact Or.inl (i_eq (q.trans iT0.symm))
    · exact Or.inr (Or.inl (i_eq (q.trans iT1.symm)))
    · exact Or.inr (Or.inr (i_eq (q.trans iTm1.symm)))
  have c1 := fun X => cs_fl (X := X) h3n (sd_Q hk2 hR) hQ hE
  have c2 := fun X => cs_fl (X := X) h3 hsQ hQ hE
  have ha := adj_s (N := f * f * R) (E := E) h3
  rw [← es] at ha
  have main : (-U + adj (sg (-k * f)) (f * f * R) E) / L = -(bx + r) := by
    rw [← adj_w (k := -k) hR hE]
    rcases hr with ⟨q, rfl⟩ | ⟨q, rfl⟩
    · have q0 : (cs (U - bx * L - r * L) (sg (k * f) * sg R) (f * f * R)).toInt = 0 := by rw [q]; rfl
      have z1 := (c2 (U - bx * L - r * L)).mp (by omega)
      have z2 := (c1 (-(U - bx * L - r * L))).mp (by rw [cn]; omega)
      refine fl_u hL ?_ ?_
      · rw [Int.neg_mul, Int.add_mul]; omega
      · rw [Int.neg_mul, Int.add_mul]; omega
    · have p1 := h.1
      have p0 : 0 < (cs (U - bx * L - F * L) (sg (k * f) * sg R) (f * f * R)).toInt := by
        have : ¬ (cs (U - bx * L - F * L) (sg (k * f) * sg R) (f * f * R)).toInt = 0 := fun c => q (i_eq (c.trans iT0.symm))
        omega
      have z1 : ¬ 0 ≤ -(U - bx * L - F * L) + adj (sg (-k * f) * sg R) (f * f * R) E := fun c => by
        have := (c1 (-(U - bx * L - F * L))).mpr c
        rw [cn] at this; omega
      have z2 := (c1 (-(U - bx * L - F * L - L))).mp (by rw [cn]; have := h.2; omega)
      refine fl_u hL ?_ ?_
      · rw [Int.neg_mul, Int.add_mul, Int.add_mul, Int.one_mul]; omega
      · rw [Int.neg_mul, Int.add_mul, Int.add_mul, Int.one_mul]; omega
  rw [fl_adj, main]; omega
theorem at_2 (hL : 0 < L) (hR : 0 ≤ R) (hk : ¬ k = 0 ∨ f = 0) (hE : rtR (2 * f * (2 * f) * R) E) (h : rdR ((U - bx * L) * 2 ^ 1 + L) (sg (k * f) * sg R) (f * f * R * 2 ^ 2) (L * 2 ^ 1) F) : flA (2 * U + L) (sg (k * f)) (2 * f * (2 * f) * R) E (2 * L) = bx + F := by
  have e1 : (U - bx * L) * 2 ^ 1 + L = 2 * U + L - bx * (2 * L) := by rw [show (2 : Int) ^ 1 = 2 from rfl]; grind
  have e2 : f * f * R * 2 ^ 2 = 2 * f * (2 * f) * R := by rw [show (2 : Int) ^ 2 = 4 from rfl]; grind
  have e3 : L * 2 ^ 1 = 2 * L := by rw [show (2 : Int) ^ 1 = 2 from rfl]; omega
  have e4 : sg (k * f) = sg (k * (2 * f)) := by
    have q : k * (2 * f) = 2 * (k * f) := by grind
    rw [q, ← sg_mul 2, sg_pos (show (0 : Int) < 2 by decide), Int32.one_mul]
  rw [e1, e2, e3, e4] at h
  rw [e4]
  exact at_0 (U := 2 * U + L) (L := 2 * L) (f := 2 * f) (by omega) hR (by omega) hE h
end AT
/-! where rounding may begin -/
section PRE
variable {P Q B X : Int} {s : Int32}
theorem cs_up (hs : r3 s) (hX : 0 < X) (hQ : Q ≤ X * X) : 0 ≤ (cs X s Q).toInt := by
  unfold cs
  rw [sg_pos hX]
  split
  · decide
  · rw [if_neg (by decide), Int32.one_mul]
    have := sg_T (X * X - Q); omega
theorem cs_dn (hs : r3 s) (hX : X < 0) (hQ : Q < X * X) : (cs X s Q).toInt < 0 := by
  unfold cs
  rw [sg_neg hX]
  split
  · decide
  · rw [if_neg (by decide), sg_pos (show 0 < X * X - Q by omega)]; decide
theorem pre_q {c : Int} (hB : 0 < B) (h : c * B ≤ X ∨ X ≤ -(c * B)) (hc : 0 ≤ c) : c * c * (B * B) ≤ X * X := by
  have e : c * c * (B * B) = c * B * (c * B) := by grind
  rw [e]
  have h0 := Int.mul_nonneg hc (Int.le_of_lt hB)
  rcases h with h | h
  · exact sq_mono h0 h
  · have := sq_mono h0 (show c * B ≤ -X by omega)
    rw [Int.neg_mul_neg] at this; exact this
theorem pre_0 (hs : r3 s) (hB : 0 < B) (hP : -(2199023255552 * B) ≤ P ∧ P ≤ 2199023255552 * B) (hQ : Q ≤ 4611686018427387904 * (B * B)) : 0 ≤ (cs (P + B * 2 ^ 42) s Q).toInt ∧ (cs (P + B * 2 ^ 42 - B * 8796093022208) s Q).toInt < 0 := by
  have e : (2 : Int) ^ 42 = 4398046511104 := by decide
  rw [e]
  have hBB := Int.mul_pos hB hB
  constructor
  · refine cs_up hs (by omega) ?_
    have := pre_q (X := P + B * 4398046511104) (c := 2199023255552) hB (Or.inl (by omega)) (by decide)
    omega
  · refine cs_dn hs (by omega) ?_
    have := pre_q (X := P + B * 4398046511104 - B * 8796093022208) (c := 2199023255552) hB (Or.inr (by omega)) (by decide)
    omega
theorem pre_2 (hs : r3 s) (hB : 0 < B) (hP : -(2199023255552 * B) ≤ P ∧ P ≤ 2199023255552 * B) (hQ : Q ≤ 4611686018427387904 * (B * B)) : 0 ≤ (cs (P * 2 ^ 1 + B + B * 2 ^ 1 * 2 ^ 42) s (Q * 2 ^ 2)).toInt ∧ (cs (P * 2 ^ 1 + B + B * 2 ^ 1 * 2 ^ 42 - B * 2 ^ 1 * 8796093022208) s (Q * 2 ^ 2)).toInt < 0 := by
  have e : (2 : Int) ^ 42 = 4398046511104 := by decide
  have e1 : (2 : Int) ^ 1 = 2 := rfl
  have e2 : (2 : Int) ^ 2 = 4 := rfl
  rw [e, e1, e2]
  have hBB := Int.mul_pos hB hB
  constructor
  · refine cs_up hs (by omega) ?_
    have := pre_q (X := P * 2 + B + B * 2 * 4398046511104) (c := 4398046511104) hB (Or.inl (by omega)) (by decide)
    omega
  · refine cs_dn hs (by omega) ?_
    have := pre_q (X := P * 2 + B + B * 2 * 4398046511104 - B * 2 * 8796093022208) (c := 4398046511103) hB (Or.inr (by omega)) (by decide)
    omega
end PRE
