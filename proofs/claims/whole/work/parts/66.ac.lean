/-! two arcs -/
section ACB
variable {ax ay bx by1 r s : Int}
theorem ac_bF (h1 : inC ax) (h2 : inC ay) (h3 : inC bx) (h4 : inC by1) : bd 83 (aaF ax ay bx by1) := bd_add (bd_mul (bd_sC h3 h1) (bd_sC h3 h1)) (bd_mul (bd_sC h4 h2) (bd_sC h4 h2))
theorem ac_bL (h1 : inC ax) (h2 : inC ay) (h3 : inC bx) (h4 : inC by1) : bd 84 (aaL ax ay bx by1) := bd_add (ac_bF h1 h2 h3 h4) (ac_bF h1 h2 h3 h4)
theorem ac_F0 : 0 ≤ aaF ax ay bx by1 := Int.add_nonneg (sq_nn _) (sq_nn _)
/-- the along of two arcs: no more than 2^83 and 2^62 -/
theorem ac_bE (h1 : inC ax) (h2 : inC ay) (h3 : inC bx) (h4 : inC by1) (hr : 1 ≤ r ∧ r ≤ 4611686018427387904) (hs : 1 ≤ s ∧ s ≤ 4611686018427387904) : bd 84 (aaE ax ay bx by1 r s) ∧ bd 84 (aaE ax ay bx by1 r s - aaL ax ay bx by1) := by
  have hF := bd_to (ac_bF h1 h2 h3 h4) (B := 9671406556917033397649408) (by decide)
  have h0 := @ac_F0 ax ay bx by1
  unfold aaE aaL
  exact ⟨bd_of 84 (B := 19342813113834066795298816) (by decide) (by omega) (by omega), bd_of 84 (B := 19342813113834066795298816) (by decide) (by omega) (by omega)⟩
theorem ac_bR (h1 : inC ax) (h2 : inC ay) (h3 : inC bx) (h4 : inC by1) (hr : 1 ≤ r ∧ r ≤ 4611686018427387904) (hs : 1 ≤ s ∧ s ≤ 4611686018427387904) : bd 169 (aaR ax ay bx by1 r s) := by
  have hE := (ac_bE h1 h2 h3 h4 hr hs).1
  have e : aaR ax ay bx by1 r s = r * 4 * aaF ax ay bx by1 - aaE ax ay bx by1 r s * aaE ax ay bx by1 r s := rfl
  rw [e]
  exact bd_sub (bd_mono (bd_mul (bd_mul (bd_r hr) (show bd 2 4 from (by decide : Int.natAbs 4 ≤ 2 ^ 2))) (ac_bF h1 h2 h3 h4)) (by decide)) (bd_mul hE hE)
theorem ac_bR2 (h1 : inC ax) (h2 : inC ay) (h3 : inC bx) (h4 : inC by1) (hr : 1 ≤ r ∧ r ≤ 4611686018427387904) (hR : 0 ≤ aaR ax ay bx by1 r s) : bd 150 (aaR ax ay bx by1 r s) := by
  have e := @ac_S ax ay bx by1 r s
  have hz := sq_nn (aaE ax ay bx by1 r s)
  exact bd_mono (bd_of_le hR (show _ ≤ r * 4 * aaF ax ay bx by1 by omega) (bd_mul (bd_mul (bd_r hr) (show bd 2 4 from (by decide : Int.natAbs 4 ≤ 2 ^ 2))) (ac_bF h1 h2 h3 h4))) (by decide)
theorem ac_Fp (h : ¬ (bx - ax = 0 ∧ by1 - ay = 0)) : 0 < aaF ax ay bx by1 := sc_Lp (fun q => h ⟨by omega, by omega⟩)
end ACB
theorem ac_pt {ax ay bx by1 r s : Int} {w : Nat → Nat → Int64} {sd : Nat → Int32} {i j : Nat} (j2 : Nat) (hj : j2 = j + 1) {k : Int} {v : XV} (hv : v.2 = (aaU ax ay bx by1 r s, aaV ax ay bx by1 r s, aaR ax ay bx by1 r s, aaL ax ay bx by1, -(by1 - ay), bx - ax)) (hk : k * k = 1) (h1 : w i = dg (aaE ax ay bx by1 r s * (bx - ax))) (h2 : w (i + 1) = dg (-k * (by1 - ay) * (-k * (by1 - ay)) * aaR ax ay bx by1 r s)) (h3 : sd j = sg (-k * (by1 - ay)) * sg (aaR ax ay bx by1 r s)) (h4 : w (i + 3) = dg (aaE ax ay bx by1 r s * (by1 - ay))) (h5 : w (i + 4) = dg (k * (bx - ax) * (k * (bx - ax)) * aaR ax ay bx by1 r s)) (h6 : sd j2 = sg (k * (bx - ax)) * sg (aaR ax ay bx by1 r s)) :
    ptU w sd i j (v.2.1 - ax * v.2.2.2.2.1) (v.2.2.1 - ay * v.2.2.2.2.1) v.2.2.2.2.2.1 v.2.2.2.2.2.2 v.2.2.2.1 k := by
  subst hj
  rw [hv]
  have e1 : -k * (by1 - ay) = k * -(by1 - ay) := by grind
  rw [e1] at h2 h3
  rw [kk_1 hk] at h2 h5
  refine ⟨⟨?_, h2, h3⟩, ?_, h5, h6⟩
  · show w i = dg (aaU ax ay bx by1 r s - ax * aaL ax ay bx by1)
    rw [ac_U]; exact h1
  · show w (i + 3) = dg (aaV ax ay bx by1 r s - ay * aaL ax ay bx by1)
    rw [ac_V]; exact h4
theorem ac_eF {x1 x2 ax ay bx by1 : Int} (h1 : x1 = bx - ax) (h2 : x2 = by1 - ay) : x1 * x1 + x2 * x2 = aaF ax ay bx by1 := by rw [h1, h2]; rfl
theorem ac_eE {F r s : Int} : F + r * 1 + s * -1 = F + r - s := by omega
theorem ac_eL {F : Int} : F * 2 ^ 1 = F + F := by rw [show (2 : Int) ^ 1 = 2 from rfl]; omega

section AAX
variable {ax ay bx by1 r s f1 t1 f2 t2 : Int}
theorem aa_n (h : aaR ax ay bx by1 r s < 0) : aaS ax ay bx by1 r s f1 t1 f2 t2 = [] := by
  unfold aaS
  exact cps_00 (fun h9 => by have := h9.1; omega) (fun h9 => by have := h9.1; omega)
theorem aa_z1 (h0 : 0 ≤ aaR ax ay bx by1 r s) (h1 : ¬ 0 < aaR ax ay bx by1 r s) (p : acP (aaE ax ay bx by1 r s) (aaE ax ay bx by1 r s - aaL ax ay bx by1) (aaR ax ay bx by1 r s) (bx - ax) (by1 - ay) f1 t1 f2 t2 (1)) : aaS ax ay bx by1 r s f1 t1 f2 t2 = [1] := by
  unfold aaS
  exact cps_10 ⟨by omega, ac_P.mpr p⟩ (fun h9 => by have := h9.1; omega)
theorem aa_z0 (h0 : 0 ≤ aaR ax ay bx by1 r s) (h1 : ¬ 0 < aaR ax ay bx by1 r s) (p : ¬ acP (aaE ax ay bx by1 r s) (aaE ax ay bx by1 r s - aaL ax ay bx by1) (aaR ax ay bx by1 r s) (bx - ax) (by1 - ay) f1 t1 f2 t2 (1)) : aaS ax ay bx by1 r s f1 t1 f2 t2 = [] := by
  unfold aaS
  exact cps_00 (fun h9 => p (ac_P.mp h9.2)) (fun h9 => by have := h9.1; omega)
theorem aa_p11 (h0 : 0 < aaR ax ay bx by1 r s) (p : acP (aaE ax ay bx by1 r s) (aaE ax ay bx by1 r s - aaL ax ay bx by1) (aaR ax ay bx by1 r s) (bx - ax) (by1 - ay) f1 t1 f2 t2 (1)) (q : acP (aaE ax ay bx by1 r s) (aaE ax ay bx by1 r s - aaL ax ay bx by1) (aaR ax ay bx by1 r s) (bx - ax) (by1 - ay) f1 t1 f2 t2 (-1)) : aaS ax ay bx by1 r s f1 t1 f2 t2 = [1, -1] := by
  unfold aaS
  exact cps_11 ⟨by omega, ac_P.mpr p⟩ ⟨by omega, ac_P.mpr q⟩
theorem aa_p10 (h0 : 0 < aaR ax ay bx by1 r s) (p : acP (aaE ax ay bx by1 r s) (aaE ax ay bx by1 r s - aaL ax ay bx by1) (aaR ax ay bx by1 r s) (bx - ax) (by1 - ay) f1 t1 f2 t2 (1)) (q : ¬ acP (aaE ax ay bx by1 r s) (aaE ax ay bx by1 r s - aaL ax ay bx by1) (aaR ax ay bx by1 r s) (bx - ax) (by1 - ay) f1 t1 f2 t2 (-1)) : aaS ax ay bx by1 r s f1 t1 f2 t2 = [1] := by
  unfold aaS
  exact cps_10 ⟨by omega, ac_P.mpr p⟩ (fun h9 => q (ac_P.mp h9.2))
theorem aa_p01 (h0 : 0 < aaR ax ay bx by1 r s) (p : ¬ acP (aaE ax ay bx by1 r s) (aaE ax ay bx by1 r s - aaL ax ay bx by1) (aaR ax ay bx by1 r s) (bx - ax) (by1 - ay) f1 t1 f2 t2 (1)) (q : acP (aaE ax ay bx by1 r s) (aaE ax ay bx by1 r s - aaL ax ay bx by1) (aaR ax ay bx by1 r s) (bx - ax) (by1 - ay) f1 t1 f2 t2 (-1)) : aaS ax ay bx by1 r s f1 t1 f2 t2 = [-1] := by
  unfold aaS
  exact cps_01 (fun h9 => p (ac_P.mp h9.2)) ⟨by omega, ac_P.mpr q⟩
theorem aa_p00 (h0 : 0 < aaR ax ay bx by1 r s) (p : ¬ acP (aaE ax ay bx by1 r s) (aaE ax ay bx by1 r s - aaL ax ay bx by1) (aaR ax ay bx by1 r s) (bx - ax) (by1 - ay) f1 t1 f2 t2 (1)) (q : ¬ acP (aaE ax ay bx by1 r s) (aaE ax ay bx by1 r s - aaL ax ay bx by1) (aaR ax ay bx by1 r s) (bx - ax) (by1 - ay) f1 t1 f2 t2 (-1)) : aaS ax ay bx by1 r s f1 t1 f2 t2 = [] := by
  unfold aaS
  exact cps_00 (fun h9 => p (ac_P.mp h9.2)) (fun h9 => q (ac_P.mp h9.2))
end AAX
