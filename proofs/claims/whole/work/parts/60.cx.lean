/-! numbers with roots: their order -/
theorem sq_le2 {p q : Int} (hq : 0 ≤ q) (h : p * p ≤ q * q) : p ≤ q := by
  rcases Int.lt_or_le q p with c | c
  · have h1 : q * q ≤ q * p := Int.mul_le_mul_of_nonneg_left (Int.le_of_lt c) hq
    have h2 : q * p < p * p := Int.mul_lt_mul_of_pos_right c (by omega)
    omega
  · exact c
theorem sq_mono {p q : Int} (hp : 0 ≤ p) (h : p ≤ q) : p * p ≤ q * q := Int.mul_le_mul h h hp (by omega)
theorem sq_mon2 {p q : Int} (h1 : q ≤ p) (h2 : p ≤ 0) : p * p ≤ q * q := by
  have := sq_mono (p := -p) (q := -q) (by omega) (by omega)
  rw [Int.neg_mul_neg, Int.neg_mul_neg] at this
  exact this
/-- U and f times the root of R is not below 0 -/
def np (U f R : Int) : Prop := (0 ≤ U ∧ 0 ≤ f) ∨ (0 ≤ U ∧ f * f * R ≤ U * U) ∨ (0 ≤ f ∧ U * U ≤ f * f * R)
section NP
variable {U f V g R : Int}
theorem np_x (hR : 0 ≤ R) (hU : 0 ≤ U) (hV : 0 ≤ V) (hfg : 0 ≤ f * g) (h1 : f * f * R ≤ U * U) (h2 : g * g * R ≤ V * V) : f * g * R ≤ U * V := by
  refine sq_le2 (Int.mul_nonneg hU hV) ?_
  have e1 : f * g * R * (f * g * R) = (f * f * R) * (g * g * R) := by grind
  have e2 : U * V * (U * V) = (U * U) * (V * V) := by grind
  rw [e1, e2]
  exact Int.mul_le_mul h1 h2 (Int.mul_nonneg (sq_nn g) hR) (sq_nn U)
theorem np_y (hR : 0 ≤ R) (hf : 0 ≤ f) (hg : 0 ≤ g) (h1 : U * U ≤ f * f * R) (h2 : V * V ≤ g * g * R) : U * V ≤ f * g * R := by
  refine sq_le2 (Int.mul_nonneg (Int.mul_nonneg hf hg) hR) ?_
  have e1 : f * g * R * (f * g * R) = (f * f * R) * (g * g * R) := by grind
  have e2 : U * V * (U * V) = (U * U) * (V * V) := by grind
  rw [e1, e2]
  exact Int.mul_le_mul h1 h2 (sq_nn V) (Int.mul_nonneg (sq_nn f) hR)
theorem np_q (U V : Int) : (U + V) * (U + V) = U * U + V * V + 2 * (U * V) := by grind
theorem np_qR (f g R : Int) : (f + g) * (f + g) * R = f * f * R + g * g * R + 2 * (f * g * R) := by grind
theorem np_bR (hR : 0 ≤ R) (h : f * f ≤ g * g) : f * f * R ≤ g * g * R := Int.mul_le_mul_of_nonneg_right h hR
theorem np_AB (hR : 0 ≤ R) (a : 0 ≤ U ∧ 0 ≤ f) (b : 0 ≤ V ∧ g * g * R ≤ V * V) : np (U + V) (f + g) R := by
  rcases Int.lt_or_le (f + g) 0 with c | c
  · refine Or.inr (Or.inl ⟨by omega, ?_⟩)
    have h1 := np_bR hR (sq_mon2 (p := f + g) (q := g) (by omega) (by omega))
    have h2 := sq_mono b.1 (show V ≤ U + V by omega)
    omega
  · exact Or.inl ⟨by omega, c⟩
theorem np_AC (hR : 0 ≤ R) (a : 0 ≤ U ∧ 0 ≤ f) (b : 0 ≤ g ∧ V * V ≤ g * g * R) : np (U + V) (f + g) R := by
  rcases Int.lt_or_le (U + V) 0 with c | c
  · refine Or.inr (Or.inr ⟨by omega, ?_⟩)
    have h1 := np_bR hR (sq_mono b.1 (show g ≤ f + g by omega))
    have h2 := sq_mon2 (p := U + V) (q := V) (by omega) (by omega)
    omega
  · exact Or.inl ⟨c, by omega⟩
theorem np_BB (hR : 0 ≤ R) (a : 0 ≤ U ∧ f * f * R ≤ U * U) (b : 0 ≤ V ∧ g * g * R ≤ V * V) : np (U + V) (f + g) R := by
  rcases Int.lt_or_le f 0 with cf | cf
  · rcases Int.lt_or_le g 0 with cg | cg
    · refine Or.inr (Or.inl ⟨by omega, ?_⟩)
      have h := np_x hR a.1 b.1 (Int.le_of_lt (Int.mul_pos_of_neg_of_neg cf cg)) a.2 b.2
      rw [np_qR, np_q]; omega
    · rw [Int.add_comm U, Int.add_comm f]; exact np_AB hR ⟨b.1, cg⟩ a
  · exact np_AB hR ⟨a.1, cf⟩ b
theorem np_CC (hR : 0 ≤ R) (a : 0 ≤ f ∧ U * U ≤ f * f * R) (b : 0 ≤ g ∧ V * V ≤ g * g * R) : np (U + V) (f + g) R := by
  rcases Int.lt_or_le U 0 with cU | cU
  · rcases Int.lt_or_le V 0 with cV | cV
    · refine Or.inr (Or.inr ⟨by omega, ?_⟩)
      have h := np_y hR a.1 b.1 a.2 b.2
      rw [np_q, np_qR]; omega
    · rw [Int.add_comm U, Int.add_comm f]; exact np_AC hR ⟨cV, b.1⟩ a
  · exact np_AC hR ⟨cU, a.1⟩ b
theorem np_BC (hR : 0 ≤ R) (a : 0 ≤ U ∧ f * f * R ≤ U * U) (b : 0 ≤ g ∧ V * V ≤ g * g * R) : np (U + V) (f + g) R := by
  rcases Int.lt_or_le f 0 with cf | cf
  · rcases Int.lt_or_le V 0 with cV | cV
    · rcases Int.lt_or_le (U + V) 0 with cs1 | cs1
      · rcases Int.lt_or_le (f + g) 0 with cs2 | cs2
        · exfalso
          have h1 : U * U < V * V := by
            have h3 := sq_mono a.1 (show U ≤ -V - 1 by omega)
            have h4 := sq_mono (p := -V - 1) (q := -V) (by omega) (by omega)
            have h5 : (-V - 1) * (-V - 1) = V * V + 2 * V + 1 := by grind
            omega
          have h2 := np_bR hR (sq_mono b.1 (show g ≤ -f by omega))
          rw [Int.neg_mul_neg] at h2
          omega
        · refine Or.inr (Or.inr ⟨cs2, ?_⟩)
          rcases Int.lt_or_le ((f + g) * (f + g) * R) ((U + V) * (U + V)) with c | c
          · exfalso
            have h := np_x (U := -(U + V)) (V := U) (f := f + g) (g := -f) hR (by omega) a.1 (Int.mul_nonneg cs2 (by omega)) (by rw [Int.neg_mul_neg]; omega) (by rw [Int.neg_mul_neg]; exact a.2)
            have e1 : V * V = (U + V) * (U + V) + U * U + 2 * (-(U + V) * U) := by grind
            have e2 : g * g * R = (f + g) * (f + g) * R + f * f * R + 2 * ((f + g) * -f * R) := by grind
            have := a.2
            have := b.2
            omega
          · exact c
      · rcases Int.lt_or_le (f + g) 0 with cs2 | cs2
        · refine Or.inr (Or.inl ⟨cs1, ?_⟩)
          rcases Int.lt_or_le ((U + V) * (U + V)) ((f + g) * (f + g) * R) with c | c
          · exfalso
            have h := np_y (U := U + V) (V := -V) (f := -(f + g)) (g := g) hR (by omega) b.1 (by rw [Int.neg_mul_neg]; omega) (by rw [Int.neg_mul_neg]; exact b.2)
            have e1 : U * U = (U + V) * (U + V) + V * V + 2 * ((U + V) * -V) := by grind
            have e2 : f * f * R = (f + g) * (f + g) * R + g * g * R + 2 * (-(f + g) * g * R) := by grind
            have := a.2
            have := b.2
            omega
          · exact c
        · exact Or.inl ⟨cs1, cs2⟩
    · rw [Int.add_comm U, Int.add_comm f]; exact np_AB hR ⟨cV, b.1⟩ a
  · exact np_AC hR ⟨a.1, cf⟩ b
theorem np_add (hR : 0 ≤ R) (a : np U f R) (b : np V g R) : np (U + V) (f + g) R := by
  rcases a with a | a | a <;> rcases b with b | b | b
  · exact Or.inl ⟨by omega, by omega⟩
  · exact np_AB hR a b
  · exact np_AC hR a b
  · rw [Int.add_comm U, Int.add_comm f]; exact np_AB hR b a
  · exact np_BB hR a b
  · exact np_BC hR a b
  · rw [Int.add_comm U, Int.add_comm f]; exact np_AC hR b a
  · rw [Int.add_comm U, Int.add_comm f]; exact np_BC hR b a
  · exact np_CC hR a b
/-- both a number and its opposite -/
theorem np_0 (hR : 0 ≤ R) (a : np U f R) (b : np (-U) (-f) R) : U * U = f * f * R ∧ U * f ≤ 0 := by
  have hQ := Int.mul_nonneg (sq_nn f) hR
  have hU := sq_nn U
  unfold np at b
  rw [Int.neg_mul_neg, Int.neg_mul_neg] at b
  have z : ∀ x y : Int, x = 0 → x * y = 0 := fun x y h => by rw [h, Int.zero_mul]
  rcases a with a | a | a <;> rcases b with b | b | b
  · have e1 : U = 0 := by omega
    have e2 : f = 0 := by omega
    subst e1; subst e2; simp
  · have e1 : U = 0 := by omega
    subst e1; simp at b hQ ⊢; omega
  · have e2 : f = 0 := by omega
    subst e2; simp at b ⊢; omega
  · have e1 : U = 0 := by omega
    subst e1; simp at a hQ ⊢; omega
  · have e1 : U = 0 := by omega
    subst e1; simp at a hQ ⊢; omega
  · refine ⟨by omega, ?_⟩
    exact Int.mul_nonpos_of_nonneg_of_nonpos a.1 (by omega)
  · have e2 : f = 0 := by omega
    subst e2; simp at a ⊢; omega
  · refine ⟨by omega, ?_⟩
    exact Int.mul_nonpos_of_nonpos_of_nonneg (by omega) a.1
  · have e2 : f = 0 := by omega
    subst e2; simp at a ⊢; omega
theorem sgQ (hR : 0 < R) (hf : ¬ f = 0) : 0 < f * f * R := Int.mul_pos (by
  rcases Int.lt_or_gt_of_ne hf with h | h
  · exact Int.mul_pos_of_neg_of_neg h h
  · exact Int.mul_pos h h) hR
theorem np_i (hR : 0 ≤ R) : np U f R ↔ 0 ≤ (rn U f R).toInt := by
  have hU := sq_nn U
  by_cases h0 : f = 0 ∨ R = 0
  · have e0 : f * f * R = 0 := by rcases h0 with h | h <;> rw [h] <;> simp
    rw [so_0 h0]
    unfold np
    rw [e0]
    have := sg_T U
    constructor
    · intro h
      rcases h with h | h | h
      · omega
      · omega
      · have : U = 0 := by
          rcases Int.lt_trichotomy U 0 with c | c | c
          · have := Int.mul_pos_of_neg_of_neg c c; omega
          · exact c
          · have := Int.mul_pos c c; omega
        omega
    · intro h
      exact Or.inr (Or.inl ⟨by omega, hU⟩)
  · have hf : ¬ f = 0 := fun h => h0 (Or.inl h)
    have hR1 : 0 < R := by
      have : ¬ R = 0 := fun h => h0 (Or.inr h)
      omega
    have hQ := sgQ hR1 hf
    have h1 := sg_T (U * U - f * f * R)
    unfold rn cs np
    rw [sg_pos hR1, Int32.mul_one]
    rcases Int.lt_or_gt_of_ne hf with hf1 | hf1
    · rw [sg_neg hf1]
      rcases Int.lt_trichotomy U 0 with c | c | c
      · rw [sg_neg c, if_pos (Or.inr rfl), iTm1]; constructor
        · intro h; omega
        · intro h; exact absurd h (by decide)
      · rw [sg_zero c, if_neg (by decide), if_pos rfl, iTm1]; constructor
        · intro h
          rw [c] at h
          simp at h; omega
        · intro h; exact absurd h (by decide)
      · rw [sg_pos c, if_neg (by decide), if_neg (by decide), Int32.one_mul]; constructor
        · intro h; omega
        · intro h; exact Or.inr (Or.inl ⟨by omega, by omega⟩)
    · rw [sg_pos hf1]
      rcases Int.lt_trichotomy U 0 with c | c | c
      · rw [sg_neg c, if_neg (by decide), if_neg (by decide), ← sg_neg (show (-1 : Int) < 0 by decide), sg_mul]
        have h2 := sg_T (-1 * (U * U - f * f * R))
        constructor
        · intro h; omega
        · intro h; exact Or.inr (Or.inr ⟨by omega, by omega⟩)
      · rw [sg_zero c, if_neg (by decide), if_pos rfl, iT1]; constructor
        · intro h; decide
        · intro h; exact Or.inl ⟨by omega, by omega⟩
      · rw [sg_pos c, if_pos (Or.inr rfl), iT1]; constructor
        · intro h; decide
        · intro h; exact Or.inl ⟨by omega, by omega⟩
end NP
theorem cs_n3 {a s q : Int32} (ha : r3 a) (hs : r3 s) (hq : r3 q) : (if -s = 0 ∨ -a = -s then -a else if -a = 0 then -s else -a * q) = -(if s = 0 ∨ a = s then a else if a = 0 then s else a * q) := by
  rcases ha with rfl | rfl | rfl <;> rcases hs with rfl | rfl | rfl <;> rcases hq with rfl | rfl | rfl <;> decide
theorem rn_ng (U f R : Int) : rn (-U) (-f) R = -rn U f R := by
  unfold rn cs
  rw [sg_ng, sg_ng, Int.neg_mul_neg, Int.neg_mul_neg]
  have e : -sg f * sg R = -(sg f * sg R) := by rcases sg_3 f with h | h | h <;> rcases sg_3 R with h2 | h2 | h2 <;> rw [h, h2] <;> decide
  rw [e]
  exact cs_n3 (sg_3 U) (by rw [sg_mul]; exact sg_3 _) (sg_3 _)
theorem rn_3 (U f R : Int) : r3 (rn U f R) := by
  have h := rn_r U f R
  have : (rn U f R).toInt = 0 ∨ (rn U f R).toInt = 1 ∨ (rn U f R).toInt = -1 := by omega
  rcases this with h | h | h
  · exact Or.inl (i_eq (h.trans iT0.symm))
  · exact Or.inr (Or.inl (i_eq (h.trans iT1.symm)))
  · exact Or.inr (Or.inr (i_eq (h.trans iTm1.symm)))
theorem i_n3 {x : Int32} (h : r3 x) : (-x).toInt = -x.toInt := by rcases h with rfl | rfl | rfl <;> decide
section RN
variable {U f V g R : Int}
theorem rn_ge (hR : 0 ≤ R) (a : 0 ≤ (rn U f R).toInt) (b : 0 ≤ (rn V g R).toInt) : 0 ≤ (rn (U + V) (f + g) R).toInt := (np_i hR).mp (np_add hR ((np_i hR).mpr a) ((np_i hR).mpr b))
theorem rn_nT (U f R : Int) : (rn (-U) (-f) R).toInt = -(rn U f R).toInt := by rw [rn_ng, i_n3 (rn_3 U f R)]
theorem rn_le (hR : 0 ≤ R) (a : (rn U f R).toInt ≤ 0) (b : (rn V g R).toInt ≤ 0) : (rn (U + V) (f + g) R).toInt ≤ 0 := by
  have h := rn_ge (U := -U) (f := -f) (V := -V) (g := -g) hR (by rw [rn_nT]; omega) (by rw [rn_nT]; omega)
  rw [← Int.neg_add, ← Int.neg_add, rn_nT] at h
  omega
theorem rn_sub (hR : 0 ≤ R) (a : 0 ≤ (rn (U + V) (f + g) R).toInt) (b : (rn V g R).toInt ≤ 0) : 0 ≤ (rn U f R).toInt := by
  have h := rn_ge (U := U + V) (f := f + g) (V := -V) (g := -g) hR a (by rw [rn_nT]; omega)
  rw [Int.add_neg_cancel_right, Int.add_neg_cancel_right] at h
  exact h
theorem rn_su2 (hR : 0 ≤ R) (a : (rn (U + V) (f + g) R).toInt ≤ 0) (b : 0 ≤ (rn V g R).toInt) : (rn U f R).toInt ≤ 0 := by
  have h := rn_le (U := U + V) (f := f + g) (V := -V) (g := -g) hR a (by rw [rn_nT]; omega)
  rw [Int.add_neg_cancel_right, Int.add_neg_cancel_right] at h
  exact h
theorem r3_eq {x y : Int32} (hx : r3 x) (hy : r3 y) (h1 : 0 ≤ x.toInt ↔ 0 ≤ y.toInt) (h2 : x.toInt ≤ 0 ↔ y.toInt ≤ 0) : x = y := by
  rcases hx with rfl | rfl | rfl <;> rcases hy with rfl | rfl | rfl <;> first | rfl | (exfalso; revert h1 h2; decide)
/-- adding 0 -/
theorem rn_a0 (hR : 0 ≤ R) (h : rn V g R = 0) : rn (U + V) (f + g) R = rn U f R := by
  have h0 : (rn V g R).toInt = 0 := by rw [h]; rfl
  exact r3_eq (rn_3 _ _ _) (rn_3 _ _ _) ⟨fun a => rn_sub hR a (by omega), fun a => rn_ge hR a (by omega)⟩ ⟨fun a => rn_su2 hR a (by omega), fun a => rn_le hR a (by omega)⟩
theorem rn_pp (hR : 0 ≤ R) (a : rn U f R = 1) (b : 0 ≤ (rn V g R).toInt) : rn (U + V) (f + g) R = 1 := by
  have h : ¬ (rn (U + V) (f + g) R).toInt ≤ 0 := fun h => by
    have := rn_su2 hR h b
    rw [a] at this
    exact absurd this (by decide)
  rcases rn_3 (U + V) (f + g) R with e | e | e
  · rw [e] at h; exact absurd (by decide) h
  · exact e
  · rw [e] at h; exact absurd (by decide) h
theorem rn_mm (hR : 0 ≤ R) (a : rn U f R = -1) (b : (rn V g R).toInt ≤ 0) : rn (U + V) (f + g) R = -1 := by
  have h : ¬ 0 ≤ (rn (U + V) (f + g) R).toInt := fun h => by
    have := rn_sub hR h b
    rw [a] at this
    exact absurd this (by decide)
  rcases rn_3 (U + V) (f + g) R with e | e | e
  · rw [e] at h; exact absurd (by decide) h
  · rw [e] at h; exact absurd (by decide) h
  · exact e
theorem rn_cons (hR : 0 ≤ R) (h : ¬ (rn U f R = 0 ∧ rn V g R = 0)) : rcC (rn U f R) (rn V g R) (rn (U - V) (f - g) R) (rn (U + V) (f + g) R) := by
  have n0 : rn V g R = 0 → rn (-V) (-g) R = 0 := fun q => by rw [rn_ng, q]; rfl
  refine ⟨⟨rn_3 _ _ _, rn_3 _ _ _, rn_3 _ _ _, rn_3 _ _ _⟩, h, fun q => ⟨?_, rn_a0 hR q⟩, fun q => ⟨?_, ?_⟩, fun a b => rn_pp hR a (by rw [b]; decide), fun a b => ?_, fun a b => ?_, fun a b => rn_mm hR a (by rw [b]; decide)⟩
  · rw [Int.sub_eq_add_neg, Int.sub_eq_add_neg]; exact rn_a0 hR (n0 q)
  · rw [Int.add_comm U, Int.add_comm f]; exact rn_a0 hR q
  · rw [Int.sub_eq_add_neg, Int.sub_eq_add_neg, Int.add_comm U, Int.add_comm f, rn_a0 hR q, rn_ng]
  · rw [Int.sub_eq_add_neg, Int.sub_eq_add_neg]; exact rn_pp hR a (by rw [rn_nT, b]; decide)
  · rw [Int.sub_eq_add_neg, Int.sub_eq_add_neg]; exact rn_mm hR a (by rw [rn_nT, b]; decide)
theorem rn_z (hR : 0 ≤ R) (h : rn U f R = 0) : U * U = f * f * R ∧ U * f ≤ 0 := np_0 hR ((np_i hR).mpr (by rw [h]; decide)) ((np_i hR).mpr (by rw [rn_nT, h]; decide))
end RN
theorem zz_p {U f V g R : Int} (hR : 0 ≤ R) (h1 : U * U = f * f * R ∧ U * f ≤ 0) (h2 : V * V = g * g * R ∧ V * g ≤ 0) : U * V = f * g * R := by
  have e : (U * V - f * g * R) * (U * V + f * g * R) = 0 := by
    have : (U * V - f * g * R) * (U * V + f * g * R) = U * U * (V * V) - f * f * R * (g * g * R) := by grind
    rw [this, h1.1, h2.1]; omega
  have e2 : 0 ≤ U * V * (f * g) := by
    have : U * V * (f * g) = (U * f) * (V * g) := by grind
    rw [this]; exact Int.mul_nonneg_of_nonpos_of_nonpos h1.2 h2.2
  rcases Int.mul_eq_zero.mp e with h | h
  · omega
  · rcases Int.lt_trichotomy (f * g) 0 with c | c | c
    · have h3 : f * g * R ≤ 0 := Int.mul_nonpos_of_nonpos_of_nonneg (Int.le_of_lt c) hR
      have h4 : U * V ≤ 0 := by
        rcases Int.lt_or_le 0 (U * V) with q | q
        · have := Int.mul_neg_of_pos_of_neg q c; omega
        · exact q
      omega
    · rw [c, Int.zero_mul] at h ⊢; omega
    · have h3 : 0 ≤ f * g * R := Int.mul_nonneg (Int.le_of_lt c) hR
      have h4 : 0 ≤ U * V := by
        rcases Int.lt_or_le (U * V) 0 with q | q
        · have := Int.mul_neg_of_neg_of_pos q c; omega
        · exact q
      omega
/-- a place of a crossing is no centre -/
theorem rn_nz {a b s f g R : Int} (hR : 0 ≤ R) (hf : f * f = b * b) (hg : g * g = a * a) (hfg : f * g = -(a * b)) (hS : 0 < R + s * s) (hab : ¬ (a = 0 ∧ b = 0)) : ¬ (rn (a * s) f R = 0 ∧ rn (b * s) g R = 0) := by
  rintro ⟨h1, h2⟩
  have z1 := rn_z hR h1
  have z2 := rn_z hR h2
  have z3 := zz_p hR z1 z2
  have e : a * b * (R + s * s) = 0 := by
    have e1 : a * s * (b * s) = a * b * (s * s) := by grind
    rw [e1, hfg] at z3
    have e2 : -(a * b) * R = -(a * b * R) := Int.neg_mul _ _
    rw [Int.mul_add]; omega
  have hab0 : a * b = 0 := by
    rcases Int.mul_eq_zero.mp e with h | h
    · exact h
    · omega
  have p1 := z1.1
  have p2 := z2.1
  rw [hf, show a * s * (a * s) = a * a * (s * s) by grind] at p1
  rw [hg, show b * s * (b * s) = b * b * (s * s) by grind] at p2
  have hss := sq_nn s
  rcases Int.mul_eq_zero.mp hab0 with h | h
  · have hb : ¬ b = 0 := fun q => hab ⟨h, q⟩
    have hbb : ¬ b * b = 0 := fun q => by rcases Int.mul_eq_zero.mp q with c | c <;> exact hb c
    have q1 : b * b * R = 0 := by rw [← p1, h, Int.zero_mul, Int.zero_mul]
    have q2 : b * b * (s * s) = 0 := by rw [p2, h, Int.zero_mul, Int.zero_mul]
    have r1 : R = 0 := (Int.mul_eq_zero.mp q1).resolve_left hbb
    have r2 : s * s = 0 := (Int.mul_eq_zero.mp q2).resolve_left hbb
    omega
  · have ha : ¬ a = 0 := fun q => hab ⟨q, h⟩
    have haa : ¬ a * a = 0 := fun q => by rcases Int.mul_eq_zero.mp q with c | c <;> exact ha c
    have q1 : a * a * R = 0 := by rw [← p2, h, Int.zero_mul, Int.zero_mul]
    have q2 : a * a * (s * s) = 0 := by rw [p1, h, Int.zero_mul, Int.zero_mul]
    have r1 : R = 0 := (Int.mul_eq_zero.mp q1).resolve_left haa
    have r2 : s * s = 0 := (Int.mul_eq_zero.mp q2).resolve_left haa
    omega
/-! what the class's signs want -/
theorem cx_P {z : Int} (h : bd 126 z) : -340282366920938463463374607431768211455 ≤ z ∧ z ≤ 340282366920938463463374607431768211455 := by
  have := bd_to h (B := 85070591730234615865843651857942052864) (by decide)
  omega
theorem cx_Q {f R : Int} (hf : bd 43 f) (hR : 0 ≤ R ∧ bd 150 R) : 0 ≤ f * f * R ∧ f * f * R < 115792089237316195423570985008687907853269984665640564039457584007913129639936 := nnB (bd_mul (bd_mul hf hf) hR.2) (Int.mul_nonneg (sq_nn f) hR.1) (by decide)
theorem cx_Q1 {f R : Int} (hR : 0 ≤ R ∧ bd 150 R) (hf : f.natAbs ≤ 1) : 0 ≤ f * f * R ∧ f * f * R < 115792089237316195423570985008687907853269984665640564039457584007913129639936 := cx_Q (Nat.le_trans hf (by decide)) hR
theorem cx_ge {x : Int32} : 0 ≤ x ↔ ¬ x < 0 := by rw [Int32.le_iff_toInt_le, Int32.lt_iff_toInt_lt]; omega
theorem cx_fa {x y : Int64} (hx : bd 42 x.toInt) (hy : bd 42 y.toInt) : (x + y).toInt = x.toInt + y.toInt := bl_add hx hy (by decide) (by decide)
theorem cx_fs {x y : Int64} (hx : bd 42 x.toInt) (hy : bd 42 y.toInt) : (x - y).toInt = x.toInt - y.toInt := bl_sub hx hy (by decide) (by decide)
