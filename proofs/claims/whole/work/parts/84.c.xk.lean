/-! what a crossing's numbers keep to, and that rounding them gives one answer on both sides -/
theorem cps_l (p1 p2 : Prop) [Decidable p1] [Decidable p2] (k1 k2 : Int32) : (cps p1 p2 k1 k2).length ≤ 2 := by
  unfold cps; split <;> split <;> simp
theorem cps_m {p1 p2 : Prop} [Decidable p1] [Decidable p2] {k1 k2 k : Int32} (h : k ∈ cps p1 p2 k1 k2) : k = k1 ∨ k = k2 := by
  unfold cps at h
  rcases List.mem_append.mp h with h | h
  · split at h
    · exact Or.inl (List.mem_singleton.mp h)
    · exact absurd h List.not_mem_nil
  · split at h
    · exact Or.inr (List.mem_singleton.mp h)
    · exact absurd h List.not_mem_nil
theorem fr_bd {d R L r : Int} (hd : d * d ≤ L) (hR : R ≤ r * L) (hR0 : 0 ≤ R) (hL : 0 ≤ L) (hr : r ≤ 4611686018427387904) : d * d * R ≤ 4611686018427387904 * (L * L) := by
  have h1 := Int.mul_le_mul hd hR hR0 hL
  have e : L * (r * L) = r * (L * L) := by grind
  have h2 : r * (L * L) ≤ 4611686018427387904 * (L * L) := Int.mul_le_mul_of_nonneg_right hr (sq_nn L)
  rw [e] at h1
  exact Int.le_trans h1 h2
theorem xK_sa {ax ay bx by1 cx cy r f t : Int} (h1 : inC ax) (h2 : inC ay) (h3 : inC bx) (h4 : inC by1) (hne : ¬ (ax = bx ∧ ay = by1)) (hr : 1 ≤ r ∧ r ≤ 4611686018427387904) (h : ¬ (xsa ax ay bx by1 cx cy r f t).1 = []) : xK (xsa ax ay bx by1 cx cy r f t) := by
  have hR := sa_R0 h
  have hS := @sc_S ax ay bx by1 cx cy r
  have hZ := sq_nn (saZ ax ay bx by1 cx cy)
  have hL := @sa_L2 ax ay bx by1
  have hLp := sc_Lp hne
  have hRL : saR ax ay bx by1 cx cy r ≤ r * saL ax ay bx by1 := by omega
  have hb := bd_to (bd_mono (sc_bL h1 h2 h3 h4) (show 83 ≤ 84 by decide)) (B := 19342813113834066795298816) (by decide)
  refine ⟨⟨hLp, hb.2⟩, ⟨hR, bd_mono (sc_bR2 h1 h2 h3 h4 hr hR) (by decide)⟩, ⟨bd_sC h3 h1, bd_sC h4 h2⟩, ⟨?_, ?_⟩, ?_, ?_⟩
  · exact fr_bd hL.1 hRL hR hL.2.2 hr.2
  · exact fr_bd hL.2.1 hRL hR hL.2.2 hr.2
  · exact cps_l _ _ _ _
  · intro k hk
    rcases cps_m hk with q | q
    · exact Or.inr (Or.inl q)
    · exact Or.inl q
theorem xK_aa {ax ay bx by1 r s f1 t1 f2 t2 : Int} (h1 : inC ax) (h2 : inC ay) (h3 : inC bx) (h4 : inC by1) (hne : ¬ (bx - ax = 0 ∧ by1 - ay = 0)) (hr : 1 ≤ r ∧ r ≤ 4611686018427387904) (h : ¬ aaS ax ay bx by1 r s f1 t1 f2 t2 = []) : xK (aaS ax ay bx by1 r s f1 t1 f2 t2, aaU ax ay bx by1 r s, aaV ax ay bx by1 r s, aaR ax ay bx by1 r s, aaL ax ay bx by1, -(by1 - ay), bx - ax) := by
  have hR := aa_R0 h
  have hS := @ac_S ax ay bx by1 r s
  have hZ := sq_nn (aaE ax ay bx by1 r s)
  have hF := @aa_F2 ax ay bx by1
  have hFp := ac_Fp hne
  have eL : aaL ax ay bx by1 = aaF ax ay bx by1 + aaF ax ay bx by1 := rfl
  have hb := bd_to (ac_bL h1 h2 h3 h4) (B := 19342813113834066795298816) (by decide)
  have hRL : aaR ax ay bx by1 r s ≤ r * 4 * aaF ax ay bx by1 := by omega
  have hfr : ∀ d : Int, d * d ≤ aaF ax ay bx by1 → d * d * aaR ax ay bx by1 r s ≤ 4611686018427387904 * (aaL ax ay bx by1 * aaL ax ay bx by1) := fun d hd => by
    have k1 := Int.mul_le_mul hd hRL hR hF.2.2
    have e : aaF ax ay bx by1 * (r * 4 * aaF ax ay bx by1) = r * (aaL ax ay bx by1 * aaL ax ay bx by1) := by rw [eL]; grind
    have k2 : r * (aaL ax ay bx by1 * aaL ax ay bx by1) ≤ 4611686018427387904 * (aaL ax ay bx by1 * aaL ax ay bx by1) := Int.mul_le_mul_of_nonneg_right hr.2 (sq_nn _)
    rw [e] at k1
    exact Int.le_trans k1 k2
  have hbR : bd 172 (aaR ax ay bx by1 r s) := bd_mono (bd_of_le hR hRL (bd_mul (bd_mul (bd_r hr) (show bd 2 4 by unfold bd; decide)) (ac_bF h1 h2 h3 h4))) (by decide)
  refine ⟨⟨?_, hb.2⟩, ⟨hR, hbR⟩, ⟨bd_neg (bd_sC h4 h2), bd_sC h3 h1⟩, ⟨?_, hfr _ hF.1⟩, ?_, ?_⟩
  · show 0 < aaL ax ay bx by1
    omega
  · exact hfr _ (by rw [Int.neg_mul_neg]; exact hF.2.1)
  · exact cps_l _ _ _ _
  · intro k hk
    rcases cps_m hk with q | q
    · exact Or.inl q
    · exact Or.inr (Or.inl q)
theorem bd_z (k : Nat) : bd k 0 := by unfold bd; exact Nat.zero_le _
theorem xK_0 {U V L : Int} (hL : 0 < L ∧ L ≤ 19342813113834066795298816) : xK ([0], U, V, 0, L, 0, 0) := by
  have hq : 0 ≤ 4611686018427387904 * (L * L) := Int.mul_nonneg (by decide) (sq_nn L)
  refine ⟨hL, ⟨Int.le_refl _, bd_z _⟩, ⟨bd_z _, bd_z _⟩, ⟨hq, hq⟩, (show ([0] : List Int32).length ≤ 2 by decide), ?_⟩
  intro k hk
  exact Or.inr (Or.inr ⟨List.mem_singleton.mp hk, rfl, rfl⟩)
theorem xK_ss {ax ay bx by1 cx cy dx dy : Int} {v : XV} (h1 : inC ax) (h2 : inC ay) (h3 : inC bx) (h4 : inC by1) (h5 : inC cx) (h6 : inC cy) (h7 : inC dx) (h8 : inC dy) (h : xss ax ay bx by1 cx cy dx dy (some v)) (hv : ¬ v.1 = []) : xK v := by
  have hb := bd_to (bd_mono (ss_bL h1 h2 h3 h4 h5 h6 h7 h8) (show 83 ≤ 84 by decide)) (B := 19342813113834066795298816) (by decide)
  unfold xss at h
  by_cases c : ssL ax ay bx by1 cx cy dx dy = 0
  · rw [if_pos c] at h
    by_cases c2 : ¬ tn ax ay bx by1 cx cy = 0
    · rw [if_pos c2] at h
      have := Option.some.inj h
      subst this
      exact absurd rfl hv
    · rw [if_neg c2] at h
      rcases h with ⟨h, -⟩ | ⟨h, -⟩ | ⟨j, -, -, h, -⟩
      · cases h
      · have := Option.some.inj h
        subst this
        exact absurd rfl hv
      · have := Option.some.inj h
        subst this
        exact xK_0 (by decide)
  · rw [if_neg c] at h
    by_cases c2 : ¬ mt ax ay bx by1 cx cy dx dy
    · rw [if_pos c2] at h
      have := Option.some.inj h
      subst this
      exact absurd rfl hv
    · rw [if_neg c2] at h
      by_cases c3 : ssL ax ay bx by1 cx cy dx dy < 0
      · rw [if_pos c3] at h
        have := Option.some.inj h
        subst this
        exact xK_0 (by omega)
      · rw [if_neg c3] at h
        have := Option.some.inj h
        subst this
        exact xK_0 (by omega)
/-! rounding -/
theorem adj_b {w : Int32} {N E : Int} (hE : 0 ≤ E) : -E - 1 ≤ adj w N E ∧ adj w N E ≤ E := by
  unfold adj
  split
  · omega
  · split
    · split <;> omega
    · omega
theorem fl_b {A N E M c : Int} {w : Int32} (hM : 0 < M) (hA : -(c * M) ≤ A ∧ A ≤ c * M) (hE : 0 ≤ E ∧ E ≤ 4294967296 * M) : -(c + 4294967299) ≤ flA A w N E M ∧ flA A w N E M ≤ c + 4294967299 := by
  rw [fl_adj]
  have ha := adj_b (w := w) (N := N) hE.1
  have e1 : (c + 4294967299) * M = c * M + 4294967299 * M := Int.add_mul _ _ _
  have e2 : -(c + 4294967299) * M = -(c * M) - 4294967299 * M := by rw [Int.neg_mul, e1]; omega
  constructor
  · exact Int.le_ediv_of_mul_le hM (by rw [e2]; omega)
  · exact Int.le_of_lt_add_one (Int.ediv_lt_of_lt_mul hM (by rw [Int.add_mul, e1]; omega))
theorem at_bd {U f R L E s how : Int} (hh : 0 ≤ how ∧ how < 3) (hL : 0 < L) (hU : -(4398046511104 * L) ≤ U ∧ U ≤ 4398046511104 * L) (hf : f * f * R ≤ 4611686018427387904 * (L * L)) (hE : rtR (atN how f R) E) : (atV how U f R L E s).natAbs < 9223372036854775808 := by
  have q1 : ∀ {N : Int} {M : Int}, 0 < M → N ≤ 4611686018427387904 * (M * M) → rtR N E → 0 ≤ E ∧ E ≤ 4294967296 * M := fun {N M} hM hN h => by
    have e : 2147483648 * M * (2147483648 * M) = 4611686018427387904 * (M * M) := by grind
    have := sq_le2 (p := E) (q := 2147483648 * M) (by omega) (by rw [e]; exact Int.le_trans h.2.1 hN)
    exact ⟨h.1, by omega⟩
  have hc : how = 0 ∨ how = 1 ∨ how = 2 := by omega
  rcases hc with rfl | rfl | rfl
  · have hE' := q1 hL hf (show rtR (f * f * R) E from hE)
    have := fl_b (w := sg (s * f)) (N := f * f * R) hL hU hE'
    show (flA U (sg (s * f)) (f * f * R) E L).natAbs < _
    omega
  · have hE' := q1 hL hf (show rtR (f * f * R) E from hE)
    have := fl_b (A := -U) (c := 4398046511104) (w := sg (-s * f)) (N := f * f * R) hL (by omega) hE'
    show (-flA (-U) (sg (-s * f)) (f * f * R) E L).natAbs < _
    omega
  · have e1 : 2 * f * (2 * f) * R = 4 * (f * f * R) := by grind
    have e2 : 4611686018427387904 * (2 * L * (2 * L)) = 4 * (4611686018427387904 * (L * L)) := by grind
    have hE' := q1 (M := 2 * L) (by omega) (by rw [e1, e2]; omega) (show rtR (2 * f * (2 * f) * R) E from hE)
    have := fl_b (A := 2 * U + L) (c := 4398046511105) (w := sg (s * f)) (N := 2 * f * (2 * f) * R) (M := 2 * L) (by omega) (by omega) hE'
    show (flA (2 * U + L) (sg (s * f)) (2 * f * (2 * f) * R) E (2 * L)).natAbs < _
    omega
/-- a place's number, as far as the base allows -/
theorem xU_b {U bx L : Int} (hL : 0 < L) (hb : inC bx) (h : -(2199023255552 * L) ≤ U - bx * L ∧ U - bx * L ≤ 2199023255552 * L) : -(4398046511104 * L) ≤ U ∧ U ≤ 4398046511104 * L := by
  have h1 : bx * L ≤ 1099511627776 * L := Int.mul_le_mul_of_nonneg_right hb.2 (by omega)
  have h2 : -1099511627776 * L ≤ bx * L := Int.mul_le_mul_of_nonneg_right hb.1 (by omega)
  omega
theorem bd_U {U L : Int} (hL : 0 < L ∧ L ≤ 19342813113834066795298816) (h : -(4398046511104 * L) ≤ U ∧ U ≤ 4398046511104 * L) : bd 127 U := bd_of 127 (B := 170141183460469231731687303715884105728) (by decide) (by omega) (by omega)
theorem lv_eq {x : Int64} {b T : Int} {y r : Int64} (hy : y = x + r) (hx : x.toInt = b) (hT : b + r.toInt = T) (hb : T.natAbs < 9223372036854775808) : y.toInt = T := by
  subst hx
  rw [hy, l_add (by omega) (by omega)]
  exact hT
