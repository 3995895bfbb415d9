/-! two segments whose ways are unlike: when they meet -/
section MT
variable {L B p u : Int}
theorem bw_of (hL : 0 < L) (hB : 0 ≤ B ∧ B ≤ L) (h : L * u = B * p) : (0 ≤ u ∧ u ≤ p) ∨ (p ≤ u ∧ u ≤ 0) := by
  rcases Int.le_total 0 p with hp | hp
  · have h1 : 0 ≤ B * p := Int.mul_nonneg hB.1 hp
    have h2 : B * p ≤ L * p := Int.mul_le_mul_of_nonneg_right hB.2 hp
    exact Or.inl ⟨Int.nonneg_of_mul_nonneg_right (by rw [h]; exact h1) hL, Int.le_of_mul_le_mul_left (by rw [h]; exact h2) hL⟩
  · have h1 : B * p ≤ 0 := Int.mul_nonpos_of_nonneg_of_nonpos hB.1 hp
    have h2 : L * p ≤ B * p := Int.mul_le_mul_of_nonpos_right hB.2 hp
    exact Or.inr ⟨Int.le_of_mul_le_mul_left (by rw [h]; exact h2) hL, Int.le_of_mul_le_mul_left (b := u) (c := 0) (by rw [h, Int.mul_zero]; exact h1) hL⟩
theorem of_bw (hL : 0 < L) (hp : ¬ p = 0) (h : L * u = B * p) (hb : (0 ≤ u ∧ u ≤ p) ∨ (p ≤ u ∧ u ≤ 0)) : 0 ≤ B ∧ B ≤ L := by
  rcases Int.lt_or_gt_of_ne hp with c | c
  · have h1 : L * u ≤ 0 := Int.mul_nonpos_of_nonneg_of_nonpos (Int.le_of_lt hL) (by omega)
    have h2 : L * p ≤ L * u := Int.mul_le_mul_of_nonneg_left (by omega) (Int.le_of_lt hL)
    rw [h] at h1 h2
    constructor
    · rcases Int.lt_or_le B 0 with q | q
      · have := Int.mul_pos_of_neg_of_neg q c; omega
      · exact q
    · rcases Int.lt_or_le L B with q | q
      · have := Int.mul_lt_mul_of_neg_right q c; omega
      · exact q
  · have h1 : 0 ≤ L * u := Int.mul_nonneg (Int.le_of_lt hL) (by omega)
    have h2 : L * u ≤ L * p := Int.mul_le_mul_of_nonneg_left (by omega) (Int.le_of_lt hL)
    rw [h] at h1 h2
    constructor
    · rcases Int.lt_or_le B 0 with q | q
      · have := Int.mul_neg_of_neg_of_pos q c; omega
      · exact q
    · exact Int.le_of_mul_le_mul_right h2 c
end MT
section MT2
variable {ax ay bx by1 cx cy dx dy : Int}
theorem mt_d : tn ax ay bx by1 dx dy = tn ax ay bx by1 cx cy + ssL ax ay bx by1 cx cy dx dy := by unfold tn ssL; grind
theorem mt_a : tn cx cy dx dy ax ay = ssB ax ay cx cy dx dy := by unfold tn ssB; grind
theorem mt_b : tn cx cy dx dy bx by1 = ssB ax ay cx cy dx dy - ssL ax ay bx by1 cx cy dx dy := by unfold tn ssB ssL; grind
theorem mt_x : ssL ax ay bx by1 cx cy dx dy * (cx - ax) = ssB ax ay cx cy dx dy * (bx - ax) + tn ax ay bx by1 cx cy * (dx - cx) := by unfold tn ssB ssL; grind
theorem mt_y : ssL ax ay bx by1 cx cy dx dy * (cy - ay) = ssB ax ay cx cy dx dy * (by1 - ay) + tn ax ay bx by1 cx cy * (dy - cy) := by unfold tn ssB ssL; grind
theorem on_i {ax ay bx by1 x y L B : Int} (hL : 0 < L) (hab : ¬ (ax = bx ∧ ay = by1)) (ht : tn ax ay bx by1 x y = 0) (h1 : L * (x - ax) = B * (bx - ax)) (h2 : L * (y - ay) = B * (by1 - ay)) : onS ax ay bx by1 x y ↔ 0 ≤ B ∧ B ≤ L := by
  constructor
  · intro h
    by_cases c : bx - ax = 0
    · exact of_bw hL (p := by1 - ay) (u := y - ay) (fun q => hab ⟨by omega, by omega⟩) h2 (by have := h.1.2; omega)
    · exact of_bw hL (p := bx - ax) (u := x - ax) c h1 (by have := h.1.1; omega)
  · intro h
    have q1 := bw_of hL h h1
    have q2 := bw_of hL h h2
    exact ⟨⟨by omega, by omega⟩, ht⟩
theorem pr_n {T L : Int} (hL : 0 < L) : T * (T + L) < 0 ↔ T < 0 ∧ 0 < T + L := by
  constructor
  · intro h
    rcases Int.lt_trichotomy T 0 with c | c | c
    · refine ⟨c, ?_⟩
      rcases Int.lt_or_le 0 (T + L) with q | q
      · exact q
      · have := Int.mul_nonneg_of_nonpos_of_nonpos (Int.le_of_lt c) q; omega
    · rw [c, Int.zero_mul] at h; omega
    · have := Int.mul_nonneg (Int.le_of_lt c) (show 0 ≤ T + L by omega); omega
  · intro h
    exact Int.mul_neg_of_neg_of_pos h.1 h.2
theorem mt_p (hL : 0 < ssL ax ay bx by1 cx cy dx dy) (hab : ¬ (ax = bx ∧ ay = by1)) (hcd : ¬ (cx = dx ∧ cy = dy)) : mt ax ay bx by1 cx cy dx dy ↔ (0 ≤ ssB ax ay cx cy dx dy ∧ ssB ax ay cx cy dx dy ≤ ssL ax ay bx by1 cx cy dx dy) ∧ (0 ≤ -tn ax ay bx by1 cx cy ∧ -tn ax ay bx by1 cx cy ≤ ssL ax ay bx by1 cx cy dx dy) := by
  have e1 := @mt_d ax ay bx by1 cx cy dx dy
  have e2 := @mt_a ax ay cx cy dx dy
  have e3 := @mt_b ax ay bx by1 cx cy dx dy
  have x1 := @mt_x ax ay bx by1 cx cy dx dy
  have y1 := @mt_y ax ay bx by1 cx cy dx dy
  generalize hT : tn ax ay bx by1 cx cy = T at *
  generalize hB : ssB ax ay cx cy dx dy = B at *
  generalize hLL : ssL ax ay bx by1 cx cy dx dy = L at *
  have iC : T = 0 → (onS ax ay bx by1 cx cy ↔ 0 ≤ B ∧ B ≤ L) := fun h => on_i hL hab (by rw [hT]; exact h) (by rw [x1, h]; omega) (by rw [y1, h]; omega)
  have iD : T + L = 0 → (onS ax ay bx by1 dx dy ↔ 0 ≤ B ∧ B ≤ L) := fun h => by
    have z1 : L * (dx - ax) = B * (bx - ax) + (T + L) * (dx - cx) := by grind
    have z2 : L * (dy - ay) = B * (by1 - ay) + (T + L) * (dy - cy) := by grind
    exact on_i hL hab (by rw [e1]; exact h) (by rw [z1, h]; omega) (by rw [z2, h]; omega)
  have iA : B = 0 → (onS cx cy dx dy ax ay ↔ 0 ≤ -T ∧ -T ≤ L) := fun h => by
    have z1 : L * (ax - cx) = -T * (dx - cx) - B * (bx - ax) := by grind
    have z2 : L * (ay - cy) = -T * (dy - cy) - B * (by1 - ay) := by grind
    exact on_i hL hcd (by rw [e2]; exact h) (by rw [z1, h]; omega) (by rw [z2, h]; omega)
  have iB : B - L = 0 → (onS cx cy dx dy bx by1 ↔ 0 ≤ -T ∧ -T ≤ L) := fun h => by
    have z1 : L * (bx - cx) = -T * (dx - cx) - (B - L) * (bx - ax) := by grind
    have z2 : L * (by1 - cy) = -T * (dy - cy) - (B - L) * (by1 - ay) := by grind
    exact on_i hL hcd (by rw [e3]; exact h) (by rw [z1, h]; omega) (by rw [z2, h]; omega)
  have pT := pr_n (T := T) hL
  have pB : B * (B - L) < 0 ↔ 0 < B ∧ B < L := by
    have := pr_n (T := B - L) hL
    rw [Int.sub_add_cancel, Int.mul_comm] at this
    rw [this]; omega
  constructor
  · intro h
    rcases h with (h | h | h | h) | h
    · have ht : T = 0 := by rw [← hT]; exact h.2
      have := (iC ht).mp h; omega
    · have ht : T + L = 0 := by rw [← e1]; exact h.2
      have := (iD ht).mp h; omega
    · have ht : B = 0 := by rw [← e2]; exact h.2
      have := (iA ht).mp h; omega
    · have ht : B - L = 0 := by rw [← e3]; exact h.2
      have := (iB ht).mp h; omega
    · rw [hT, e1, e2, e3] at h
      have := pT.mp h.1
      have := pB.mp h.2
      omega
  · intro h
    by_cases c1 : T = 0
    · exact Or.inl (Or.inl ((iC c1).mpr h.1))
    by_cases c2 : T + L = 0
    · exact Or.inl (Or.inr (Or.inl ((iD c2).mpr h.1)))
    by_cases c3 : B = 0
    · exact Or.inl (Or.inr (Or.inr (Or.inl ((iA c3).mpr h.2))))
    by_cases c4 : B - L = 0
    · exact Or.inl (Or.inr (Or.inr (Or.inr ((iB c4).mpr h.2))))
    refine Or.inr ⟨?_, ?_⟩
    · rw [hT, e1]; exact pT.mpr (by omega)
    · rw [e2, e3]; exact pB.mpr (by omega)
theorem tn_sw {ax ay bx by1 x y : Int} : tn bx by1 ax ay x y = -tn ax ay bx by1 x y := by unfold tn; grind
theorem on_sw {ax ay bx by1 x y : Int} : onS bx by1 ax ay x y ↔ onS ax ay bx by1 x y := by
  unfold onS
  rw [tn_sw]
  unfold bw
  omega
theorem or_sw {p1 p2 p3 p4 p5 : Prop} : ((p1 ∨ p2 ∨ p3 ∨ p4) ∨ p5) ↔ ((p2 ∨ p1 ∨ p3 ∨ p4) ∨ p5) := by
  constructor <;> (rintro ((h | h | h | h) | h)) <;> first | exact Or.inl (Or.inl h) | exact Or.inl (Or.inr (Or.inl h)) | exact Or.inl (Or.inr (Or.inr (Or.inl h))) | exact Or.inl (Or.inr (Or.inr (Or.inr h))) | exact Or.inr h
theorem mt_sw : mt ax ay bx by1 dx dy cx cy ↔ mt ax ay bx by1 cx cy dx dy := by
  unfold mt
  rw [on_sw (ax := cx) (ay := cy), on_sw (ax := cx) (ay := cy), tn_sw (ax := cx) (ay := cy), tn_sw (ax := cx) (ay := cy), Int.neg_mul_neg, Int.mul_comm (tn ax ay bx by1 dx dy)]
  exact or_sw
theorem mt_n (hL : ssL ax ay bx by1 cx cy dx dy < 0) (hab : ¬ (ax = bx ∧ ay = by1)) (hcd : ¬ (cx = dx ∧ cy = dy)) : mt ax ay bx by1 cx cy dx dy ↔ (0 ≤ -ssB ax ay cx cy dx dy ∧ -ssB ax ay cx cy dx dy ≤ -ssL ax ay bx by1 cx cy dx dy) ∧ (0 ≤ - -tn ax ay bx by1 cx cy ∧ - -tn ax ay bx by1 cx cy ≤ -ssL ax ay bx by1 cx cy dx dy) := by
  have e1 : ssL ax ay bx by1 dx dy cx cy = -ssL ax ay bx by1 cx cy dx dy := by unfold ssL; grind
  have e2 : ssB ax ay dx dy cx cy = -ssB ax ay cx cy dx dy := by unfold ssB; grind
  have e3 := @mt_d ax ay bx by1 cx cy dx dy
  rw [← mt_sw, mt_p (by rw [e1]; omega) hab (fun q => hcd ⟨q.1.symm, q.2.symm⟩), e1, e2, e3]
  omega
end MT2
/-! segments on one line -/
section XL
variable {ax ay bx by1 cx cy dx dy : Int}
/-- a place of a's and b's line lies between them as its coordinate does -/
theorem xl_on {px py : Int} (ht : tn ax ay bx by1 px py = 0) (hab : ¬ (ax = bx ∧ ay = by1)) : (bx - ax = 0 → (onS ax ay bx by1 px py ↔ bw py ay by1) ∧ px = ax) ∧ (¬ bx - ax = 0 → (onS ax ay bx by1 px py ↔ bw px ax bx)) := by
  have e : (bx - ax) * (py - ay) = (px - ax) * (by1 - ay) := by unfold tn at ht; omega
  constructor
  · intro c
    have hq : ¬ by1 - ay = 0 := fun q => hab ⟨by omega, by omega⟩
    have h1 : px - ax = 0 := by
      rw [c, Int.zero_mul] at e
      rcases Int.mul_eq_zero.mp e.symm with h | h
      · exact h
      · exact absurd h hq
    refine ⟨⟨fun h => h.1.2, fun h => ⟨⟨by omega, h⟩, ht⟩⟩, by omega⟩
  · intro c
    refine ⟨fun h => h.1.1, fun h => ?_⟩
    refine ⟨⟨h, ?_⟩, ht⟩
    rcases Int.lt_or_gt_of_ne c with q | q
    · have := @bw_of (-(bx - ax)) (-(px - ax)) (by1 - ay) (py - ay) (by omega) (by omega) (by rw [Int.neg_mul, Int.neg_mul, e])
      omega
    · have := @bw_of (bx - ax) (px - ax) (by1 - ay) (py - ay) (by omega) (by omega) e
      omega
end XL
