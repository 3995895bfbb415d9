section XL2
variable {ax ay bx by1 cx cy dx dy : Int}
/-- the coordinate that numbers the places of a's and b's line -/
abbrev lk (ax bx x y : Int) : Int := if bx - ax = 0 then y else x
theorem xl_inj {px py qx qy : Int} (ht : tn ax ay bx by1 px py = 0) (ht2 : tn ax ay bx by1 qx qy = 0) (hab : ¬ (ax = bx ∧ ay = by1)) (hk : lk ax bx px py = lk ax bx qx qy) : px = qx ∧ py = qy := by
  have h1 := xl_on ht hab
  have h2 := xl_on ht2 hab
  unfold lk at hk
  by_cases c : bx - ax = 0
  · rw [if_pos c, if_pos c] at hk
    exact ⟨by rw [(h1.1 c).2, (h2.1 c).2], hk⟩
  · rw [if_neg c, if_neg c] at hk
    refine ⟨hk, ?_⟩
    have e : (bx - ax) * (py - ay) = (bx - ax) * (qy - ay) := by
      unfold tn at ht ht2
      rw [hk] at ht
      omega
    have := Int.eq_of_mul_eq_mul_left c e
    omega
theorem xl_on2 {px py : Int} (ht : tn ax ay bx by1 px py = 0) (hab : ¬ (ax = bx ∧ ay = by1)) : onS ax ay bx by1 px py ↔ bw (lk ax bx px py) (lk ax bx ax ay) (lk ax bx bx by1) := by
  have h := xl_on ht hab
  unfold lk
  by_cases c : bx - ax = 0
  · rw [if_pos c, if_pos c, if_pos c]; exact (h.1 c).1
  · rw [if_neg c, if_neg c, if_neg c]; exact h.2 c
theorem xl_col (hL : ssL ax ay bx by1 cx cy dx dy = 0) (hT : tn ax ay bx by1 cx cy = 0) (hab : ¬ (ax = bx ∧ ay = by1)) (hcd : ¬ (cx = dx ∧ cy = dy)) : tn ax ay bx by1 dx dy = 0 ∧ tn cx cy dx dy ax ay = 0 ∧ tn cx cy dx dy bx by1 = 0 ∧ (bx - ax = 0 ↔ dx - cx = 0) := by
  have e1 := @mt_d ax ay bx by1 cx cy dx dy
  have e2 := @mt_a ax ay cx cy dx dy
  have e3 := @mt_b ax ay bx by1 cx cy dx dy
  have x1 := @mt_x ax ay bx by1 cx cy dx dy
  have y1 := @mt_y ax ay bx by1 cx cy dx dy
  have hB : ssB ax ay cx cy dx dy = 0 := by
    rw [hL, hT, Int.zero_mul, Int.zero_mul, Int.add_zero] at x1 y1
    by_cases c : bx - ax = 0
    · rcases Int.mul_eq_zero.mp y1.symm with h | h
      · exact h
      · exact absurd ⟨by omega, by omega⟩ hab
    · rcases Int.mul_eq_zero.mp x1.symm with h | h
      · exact h
      · exact absurd h c
  refine ⟨by omega, by omega, by omega, ?_⟩
  have e : (bx - ax) * (dy - cy) = (dx - cx) * (by1 - ay) := by unfold ssL at hL; omega
  constructor
  · intro c
    rw [c, Int.zero_mul] at e
    rcases Int.mul_eq_zero.mp e.symm with h | h
    · exact h
    · exact absurd ⟨by omega, by omega⟩ hab
  · intro c
    rw [c, Int.zero_mul] at e
    rcases Int.mul_eq_zero.mp e with h | h
    · exact h
    · exact absurd ⟨by omega, by omega⟩ hcd
/-- which ends hit, by their numbers -/
theorem xl_hit (hL : ssL ax ay bx by1 cx cy dx dy = 0) (hT : tn ax ay bx by1 cx cy = 0) (hab : ¬ (ax = bx ∧ ay = by1)) (hcd : ¬ (cx = dx ∧ cy = dy)) :
    (onS ax ay bx by1 cx cy ↔ bw (lk ax bx cx cy) (lk ax bx ax ay) (lk ax bx bx by1)) ∧ (onS ax ay bx by1 dx dy ↔ bw (lk ax bx dx dy) (lk ax bx ax ay) (lk ax bx bx by1)) ∧ (onS cx cy dx dy ax ay ↔ bw (lk ax bx ax ay) (lk ax bx cx cy) (lk ax bx dx dy)) ∧ (onS cx cy dx dy bx by1 ↔ bw (lk ax bx bx by1) (lk ax bx cx cy) (lk ax bx dx dy)) ∧ ¬ lk ax bx ax ay = lk ax bx bx by1 ∧ ¬ lk ax bx cx cy = lk ax bx dx dy := by
  obtain ⟨h1, h2, h3, h4⟩ := xl_col hL hT hab hcd
  have hlk : ∀ x y : Int, lk cx dx x y = lk ax bx x y := fun x y => by
    unfold lk
    by_cases c : bx - ax = 0
    · rw [if_pos c, if_pos (h4.mp c)]
    · rw [if_neg c, if_neg (fun q => c (h4.mpr q))]
  have ta : tn ax ay bx by1 ax ay = 0 := by unfold tn; grind
  have tb : tn ax ay bx by1 bx by1 = 0 := by unfold tn; grind
  refine ⟨xl_on2 hT hab, xl_on2 h1 hab, ?_, ?_, fun q => hab (xl_inj ta tb hab q), fun q => hcd (xl_inj hT h1 hab q)⟩
  · have := xl_on2 h2 hcd
    rw [hlk, hlk, hlk] at this; exact this
  · have := xl_on2 h3 hcd
    rw [hlk, hlk, hlk] at this; exact this
theorem xl_no (hL : ssL ax ay bx by1 cx cy dx dy = 0) (hT : tn ax ay bx by1 cx cy = 0) (hab : ¬ (ax = bx ∧ ay = by1)) (hcd : ¬ (cx = dx ∧ cy = dy)) {lo hi : Int} (elo : lo = max (min (lk ax bx ax ay) (lk ax bx bx by1)) (min (lk ax bx cx cy) (lk ax bx dx dy))) (ehi : hi = min (max (lk ax bx ax ay) (lk ax bx bx by1)) (max (lk ax bx cx cy) (lk ax bx dx dy))) (h : hi < lo) : xal (hiP ax ay bx by1 cx cy dx dy) (hiX ax bx cx dx) (hiX ay by1 cy dy) (some ([], 0, 0, 0, 0, 0, 0)) := by
  obtain ⟨h0, h1, h2, h3, hn1, hn2⟩ := xl_hit hL hT hab hcd
  generalize lk ax bx ax ay = A at *
  generalize lk ax bx bx by1 = B at *
  generalize lk ax bx cx cy = C at *
  generalize lk ax bx dx dy = D at *
  refine Or.inr (Or.inl ⟨rfl, fun i hi4 => ?_⟩)
  match i, hi4 with
  | 0, _ => intro q; have := h0.mp q; omega
  | 1, _ => intro q; have := h1.mp q; omega
  | 2, _ => intro q; have := h2.mp q; omega
  | 3, _ => intro q; have := h3.mp q; omega
theorem xl_hits (hL : ssL ax ay bx by1 cx cy dx dy = 0) (hT : tn ax ay bx by1 cx cy = 0) (hab : ¬ (ax = bx ∧ ay = by1)) (hcd : ¬ (cx = dx ∧ cy = dy)) {lo hi : Int} (elo : lo = max (min (lk ax bx ax ay) (lk ax bx bx by1)) (min (lk ax bx cx cy) (lk ax bx dx dy))) (ehi : hi = min (max (lk ax bx ax ay) (lk ax bx bx by1)) (max (lk ax bx cx cy) (lk ax bx dx dy))) (h : lo ≤ hi) :
    (∃ i, i < 4 ∧ hiP ax ay bx by1 cx cy dx dy i ∧ lk ax bx (hiX ax bx cx dx i) (hiX ay by1 cy dy i) = lo) ∧ (∃ i, i < 4 ∧ hiP ax ay bx by1 cx cy dx dy i ∧ lk ax bx (hiX ax bx cx dx i) (hiX ay by1 cy dy i) = hi) ∧ (∀ i, i < 4 → hiP ax ay bx by1 cx cy dx dy i → lo ≤ lk ax bx (hiX ax bx cx dx i) (hiX ay by1 cy dy i) ∧ lk ax bx (hiX ax bx cx dx i) (hiX ay by1 cy dy i) ≤ hi) ∧ (lo = hi → lo = lk ax bx ax ay ∨ lo = lk ax bx bx by1) := by
  obtain ⟨h0, h1, h2, h3, hn1, hn2⟩ := xl_hit hL hT hab hcd
  generalize eA : lk ax bx ax ay = A at *
  generalize eB : lk ax bx bx by1 = B at *
  generalize eC : lk ax bx cx cy = C at *
  generalize eD : lk ax bx dx dy = D at *
  refine ⟨?_, ?_, fun i hi4 => ?_, by omega⟩
  · have : (lo = A ∧ bw A C D) ∨ (lo = B ∧ bw B C D) ∨ (lo = C ∧ bw C A B) ∨ (lo = D ∧ bw D A B) := by omega
    rcases this with q | q | q | q
    · exact ⟨2, by decide, h2.mpr q.2, eA.trans q.1.symm⟩
    · exact ⟨3, by decide, h3.mpr q.2, eB.trans q.1.symm⟩
    · exact ⟨0, by decide, h0.mpr q.2, eC.trans q.1.symm⟩
    · exact ⟨1, by decide, h1.mpr q.2, eD.trans q.1.symm⟩
  · have : (hi = A ∧ bw A C D) ∨ (hi = B ∧ bw B C D) ∨ (hi = C ∧ bw C A B) ∨ (hi = D ∧ bw D A B) := by omega
    rcases this with q | q | q | q
    · exact ⟨2, by decide, h2.mpr q.2, eA.trans q.1.symm⟩
    · exact ⟨3, by decide, h3.mpr q.2, eB.trans q.1.symm⟩
    · exact ⟨0, by decide, h0.mpr q.2, eC.trans q.1.symm⟩
    · exact ⟨1, by decide, h1.mpr q.2, eD.trans q.1.symm⟩
  · match i, hi4 with
    | 0, _ => intro q; have := h0.mp q; show lo ≤ lk ax bx cx cy ∧ lk ax bx cx cy ≤ hi; omega
    | 1, _ => intro q; have := h1.mp q; show lo ≤ lk ax bx dx dy ∧ lk ax bx dx dy ≤ hi; omega
    | 2, _ => intro q; have := h2.mp q; show lo ≤ lk ax bx ax ay ∧ lk ax bx ax ay ≤ hi; omega
    | 3, _ => intro q; have := h3.mp q; show lo ≤ lk ax bx bx by1 ∧ lk ax bx bx by1 ≤ hi; omega
theorem xl_tn (hL : ssL ax ay bx by1 cx cy dx dy = 0) (hT : tn ax ay bx by1 cx cy = 0) (hab : ¬ (ax = bx ∧ ay = by1)) (hcd : ¬ (cx = dx ∧ cy = dy)) : ∀ i, i < 4 → tn ax ay bx by1 (hiX ax bx cx dx i) (hiX ay by1 cy dy i) = 0 := fun i hi => by
  obtain ⟨h1, -⟩ := xl_col hL hT hab hcd
  match i, hi with
  | 0, _ => exact hT
  | 1, _ => exact h1
  | 2, _ => show tn ax ay bx by1 ax ay = 0; unfold tn; grind
  | 3, _ => show tn ax ay bx by1 bx by1 = 0; unfold tn; grind
theorem xl_two (hL : ssL ax ay bx by1 cx cy dx dy = 0) (hT : tn ax ay bx by1 cx cy = 0) (hab : ¬ (ax = bx ∧ ay = by1)) (hcd : ¬ (cx = dx ∧ cy = dy)) {lo hi : Int} (elo : lo = max (min (lk ax bx ax ay) (lk ax bx bx by1)) (min (lk ax bx cx cy) (lk ax bx dx dy))) (ehi : hi = min (max (lk ax bx ax ay) (lk ax bx bx by1)) (max (lk ax bx cx cy) (lk ax bx dx dy))) (h : lo < hi) : xal (hiP ax ay bx by1 cx cy dx dy) (hiX ax bx cx dx) (hiX ay by1 cy dy) none := by
  obtain ⟨⟨i, i4, iH, iK⟩, ⟨j, j4, jH, jK⟩, -⟩ := xl_hits hL hT hab hcd elo ehi (Int.le_of_lt h)
  refine Or.inl ⟨rfl, i, j, i4, j4, iH, jH, fun q => ?_⟩
  rw [q.1, q.2] at iK
  omega
theorem xl_one (hL : ssL ax ay bx by1 cx cy dx dy = 0) (hT : tn ax ay bx by1 cx cy = 0) (hab : ¬ (ax = bx ∧ ay = by1)) (hcd : ¬ (cx = dx ∧ cy = dy)) {lo hi : Int} (elo : lo = max (min (lk ax bx ax ay) (lk ax bx bx by1)) (min (lk ax bx cx cy) (lk ax bx dx dy))) (ehi : hi = min (max (lk ax bx ax ay) (lk ax bx bx by1)) (max (lk ax bx cx cy) (lk ax bx dx dy))) (h : lo = hi) {px py : Int} (hp : (lo = lk ax bx ax ay ∧ px = ax ∧ py = ay) ∨ (¬ lo = lk ax bx ax ay ∧ px = bx ∧ py = by1)) : xal (hiP ax ay bx by1 cx cy dx dy) (hiX ax bx cx dx) (hiX ay by1 cy dy) (some ([0], px, py, 0, 1, 0, 0)) := by
  obtain ⟨⟨i, i4, iH, iK⟩, -, hall, hor⟩ := xl_hits hL hT hab hcd elo ehi (by omega)
  have ta : tn ax ay bx by1 ax ay = 0 := by unfold tn; grind
  have tb : tn ax ay bx by1 bx by1 = 0 := by unfold tn; grind
  have htn := xl_tn hL hT hab hcd
  have tp : tn ax ay bx by1 px py = 0 ∧ lk ax bx px py = lo := by
    rcases hp with q | q
    · rw [q.2.1, q.2.2]; exact ⟨ta, q.1.symm⟩
    · rw [q.2.1, q.2.2]; exact ⟨tb, by have := hor h; omega⟩
  have e := xl_inj (htn i i4) tp.1 hab (by rw [iK, tp.2])
  refine Or.inr (Or.inr ⟨i, i4, iH, by rw [e.1, e.2], fun j j4 jH => ?_⟩)
  have := hall j j4 jH
  exact xl_inj (htn j j4) (htn i i4) hab (by omega)
end XL2
/-! distances: the class's fraction is the reference's -/
section DS
variable {ax ay bx by1 x y : Int}
theorem pd_on (hab : ¬ (ax = bx ∧ ay = by1)) (h : onS ax ay bx by1 x y) : (pd ax ay bx by1 x y).1 = 0 := by
  have ht := h.2
  have hc : (bx - ax) * (y - ay) - (by1 - ay) * (x - ax) = 0 := by
    unfold tn at ht; rw [Int.mul_comm (by1 - ay)]; exact ht
  unfold pd
  split
  · show ((bx - ax) * (y - ay) - (by1 - ay) * (x - ax)) * _ = 0
    rw [hc, Int.zero_mul]
  · rename_i hn
    have q1 := h.1.1
    have q2 := h.1.2
    have n1 : 0 ≤ (bx - ax) * (x - ax) := by
      rcases q1 with q | q
      · exact Int.mul_nonneg (by omega) (by omega)
      · exact Int.mul_nonneg_of_nonpos_of_nonpos (by omega) (by omega)
    have n2 : 0 ≤ (by1 - ay) * (y - ay) := by
      rcases q2 with q | q
      · exact Int.mul_nonneg (by omega) (by omega)
      · exact Int.mul_nonneg_of_nonpos_of_nonpos (by omega) (by omega)
    have m1 : (bx - ax) * (x - ax) ≤ (bx - ax) * (bx - ax) := by
      rcases q1 with q | q
      · exact Int.mul_le_mul_of_nonneg_left (by omega) (by omega)
      · exact Int.mul_le_mul_of_nonpos_left (by omega) (by omega)
    have m2 : (by1 - ay) * (y - ay) ≤ (by1 - ay) * (by1 - ay) := by
      rcases q2 with q | q
      · exact Int.mul_le_mul_of_nonneg_left (by omega) (by omega)
      · exact Int.mul_le_mul_of_nonpos_left (by omega) (by omega)
    split
    · rename_i hz
      have z1 : (bx - ax) * (x - ax) = 0 := by omega
      have z2 : (by1 - ay) * (y - ay) = 0 := by omega
      have e1 : x - ax = 0 := by
        rcases Int.mul_eq_zero.mp z1 with c | c
        · omega
        · exact c
      have e2 : y - ay = 0 := by
        rcases Int.mul_eq_zero.mp z2 with c | c
        · omega
        · exact c
      show (x - ax) * (x - ax) + (y - ay) * (y - ay) = 0
      rw [e1, e2]; rfl
    · rename_i hz
      have z1 : (bx - ax) * (x - bx) = 0 := by
        have : (bx - ax) * (x - bx) = (bx - ax) * (x - ax) - (bx - ax) * (bx - ax) := by grind
        omega
      have z2 : (by1 - ay) * (y - by1) = 0 := by
        have : (by1 - ay) * (y - by1) = (by1 - ay) * (y - ay) - (by1 - ay) * (by1 - ay) := by grind
        omega
      have e1 : x - bx = 0 := by
        rcases Int.mul_eq_zero.mp z1 with c | c
        · omega
        · exact c
      have e2 : y - by1 = 0 := by
        rcases Int.mul_eq_zero.mp z2 with c | c
        · omega
        · exact c
      show (x - bx) * (x - bx) + (y - by1) * (y - by1) = 0
      rw [e1, e2]; rfl
end DS
theorem mn_z1 {e p : Int × Int} (he : 0 ≤ e.1 ∧ 0 < e.2) (hp : 0 ≤ p.1 ∧ 0 < p.2) (h : e.1 = 0) : (mn e p).1 = 0 := by
  unfold mn
  rw [if_neg (by rw [h, Int.zero_mul]; have := Int.mul_nonneg hp.1 (Int.le_of_lt he.2); omega)]
  exact h
theorem mn_z2 {e p : Int × Int} (he : 0 ≤ e.1 ∧ 0 < e.2) (hp : 0 ≤ p.1 ∧ 0 < p.2) (h : p.1 = 0) : (mn e p).1 = 0 := by
  unfold mn
  split
  · exact h
  · rename_i c
    rw [h, Int.zero_mul] at c
    rcases Int.lt_or_le 0 e.1 with q | q
    · exact absurd (Int.mul_pos q hp.2) c
    · omega
theorem mn_10 {p : Int × Int} (hp : 0 ≤ p.1 ∧ 0 < p.2) : mn (1, 0) p = p := by
  unfold mn
  rw [if_pos (by show p.1 * 0 < 1 * p.2; omega)]
theorem gp_V {ax ay bx by1 cx cy dx dy : Int} (hab : ¬ (ax = bx ∧ ay = by1)) (hcd : ¬ (cx = dx ∧ cy = dy)) (h : mt ax ay bx by1 cx cy dx dy) : gpV ax ay bx by1 cx cy dx dy = (0, 1) := by
  unfold gpV
  split
  · rfl
  · rename_i hn
    have n1 := pd_nn ax ay bx by1 cx cy
    have n2 := pd_nn ax ay bx by1 dx dy
    have n3 := pd_nn cx cy dx dy ax ay
    have n4 := pd_nn cx cy dx dy bx by1
    have m2 := mn_nn n1 n2
    have m3 := mn_nn m2 n3
    have hz : (gpM ax ay bx by1 cx cy dx dy).1 = 0 := by
      unfold gpM
      rw [mn_10 n1]
      rcases h with (h | h | h | h) | h
      · exact mn_z1 m3 n4 (mn_z1 m2 n3 (mn_z1 n1 n2 (pd_on hab h)))
      · exact mn_z1 m3 n4 (mn_z1 m2 n3 (mn_z2 n1 n2 (pd_on hab h)))
      · exact mn_z1 m3 n4 (mn_z2 m2 n3 (pd_on hcd h))
      · exact mn_z2 m3 n4 (pd_on hcd h)
      · exact absurd h hn
    have hp : 0 < (gpM ax ay bx by1 cx cy dx dy).2 := by
      unfold gpM
      rw [mn_10 n1]
      exact (mn_nn m3 n4).2
    rw [hz]
    have e : gc 0 (gpM ax ay bx by1 cx cy dx dy).2 = (gpM ax ay bx by1 cx cy dx dy).2 := by
      unfold gc
      rw [Int.natAbs_zero, Nat.gcd_zero_left]; omega
    rw [e, Int.zero_ediv, Int.ediv_self (by omega)]
theorem gp_N {ax ay bx by1 cx cy dx dy : Int} (h : ¬ mt ax ay bx by1 cx cy dx dy) : gpV ax ay bx by1 cx cy dx dy = ((mn (mn (mn (pd ax ay bx by1 cx cy) (pd ax ay bx by1 dx dy)) (pd cx cy dx dy ax ay)) (pd cx cy dx dy bx by1)).1 / gc (mn (mn (mn (pd ax ay bx by1 cx cy) (pd ax ay bx by1 dx dy)) (pd cx cy dx dy ax ay)) (pd cx cy dx dy bx by1)).1 (mn (mn (mn (pd ax ay bx by1 cx cy) (pd ax ay bx by1 dx dy)) (pd cx cy dx dy ax ay)) (pd cx cy dx dy bx by1)).2, (mn (mn (mn (pd ax ay bx by1 cx cy) (pd ax ay bx by1 dx dy)) (pd cx cy dx dy ax ay)) (pd cx cy dx dy bx by1)).2 / gc (mn (mn (mn (pd ax ay bx by1 cx cy) (pd ax ay bx by1 dx dy)) (pd cx cy dx dy ax ay)) (pd cx cy dx dy bx by1)).1 (mn (mn (mn (pd ax ay bx by1 cx cy) (pd ax ay bx by1 dx dy)) (pd cx cy dx dy ax ay)) (pd cx cy dx dy bx by1)).2) := by
  unfold gpV
  rw [if_neg (fun q => h (Or.inr q))]
  unfold gpM
  rw [mn_10 (pd_nn ax ay bx by1 cx cy)]
