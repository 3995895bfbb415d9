/-! a crossing's places, as the class holds them -/
theorem gd {α : Type} {l : List α} {d : α} {i : Nat} {x : α} (h : l[i]? = some x) : List.getD l i d = x := by rw [List.getD_eq_getElem?_getD, h]; rfl
abbrev ptU (w : Nat → Nat → Int64) (sd : Nat → Int32) (i j : Nat) (P V fx fy R k : Int) : Prop := (w i = dg P ∧ w (i + 1) = dg (fx * fx * R) ∧ sd j = sg (k * fx) * sg R) ∧ (w (i + 3) = dg V ∧ w (i + 4) = dg (fy * fy * R) ∧ sd (j + 1) = sg (k * fy) * sg R)
/-- the places of v, seen from (bx, by1) -/
def crU (v : XV) (bx by1 : Int) (w : Nat → Nat → Int64) (sd : Nat → Int32) : Prop :=
  (∀ k : Int32, v.1[0]? = some k → ptU w sd 7 1 (v.2.1 - bx * v.2.2.2.2.1) (v.2.2.1 - by1 * v.2.2.2.2.1) v.2.2.2.2.2.1 v.2.2.2.2.2.2 v.2.2.2.1 k.toInt) ∧
  (∀ k : Int32, v.1[1]? = some k → ptU w sd 13 3 (v.2.1 - bx * v.2.2.2.2.1) (v.2.2.1 - by1 * v.2.2.2.2.1) v.2.2.2.2.2.1 v.2.2.2.2.2.2 v.2.2.2.1 k.toInt)
section CRU
variable {v : XV} {bx by1 : Int} {w : Nat → Nat → Int64} {sd : Nat → Int32} {k j : Int32}
theorem crU_0 (h : v.1 = []) : crU v bx by1 w sd := by
  unfold crU; rw [h]; exact ⟨fun _ q => by simp at q, fun _ q => by simp at q⟩
theorem crU_1 {z : Int} (h : v.1 = [k]) (hz : k.toInt = z) (p : ptU w sd 7 1 (v.2.1 - bx * v.2.2.2.2.1) (v.2.2.1 - by1 * v.2.2.2.2.1) v.2.2.2.2.2.1 v.2.2.2.2.2.2 v.2.2.2.1 z) : crU v bx by1 w sd := by
  subst hz
  unfold crU; rw [h]
  exact ⟨fun _ q => by simp at q; subst q; exact p, fun _ q => by simp at q⟩
theorem crU_2 {z z2 : Int} (h : v.1 = [k, j]) (hz : k.toInt = z) (hz2 : j.toInt = z2) (p : ptU w sd 7 1 (v.2.1 - bx * v.2.2.2.2.1) (v.2.2.1 - by1 * v.2.2.2.2.1) v.2.2.2.2.2.1 v.2.2.2.2.2.2 v.2.2.2.1 z) (p2 : ptU w sd 13 3 (v.2.1 - bx * v.2.2.2.2.1) (v.2.2.1 - by1 * v.2.2.2.2.1) v.2.2.2.2.2.1 v.2.2.2.2.2.2 v.2.2.2.1 z2) : crU v bx by1 w sd := by
  subst hz; subst hz2
  unfold crU; rw [h]
  exact ⟨fun _ q => by simp at q; subst q; exact p, fun _ q => by simp at q; subst q; exact p2⟩
end CRU
theorem kk_1 {k f R : Int} (h : k * k = 1) : k * f * (k * f) * R = f * f * R := by
  have : k * f * (k * f) * R = k * k * (f * f * R) := by grind
  rw [this, h, Int.one_mul]
theorem sc_pt {ax ay bx by1 cx cy r f t : Int} {w : Nat → Nat → Int64} {sd : Nat → Int32} {i j : Nat} {k : Int} (hk : k * k = 1) (h1 : w i = dg (saZ ax ay bx by1 cx cy * -(by1 - ay))) (h2 : w (i + 1) = dg (k * (bx - ax) * (k * (bx - ax)) * saR ax ay bx by1 cx cy r)) (h3 : sd j = sg (k * (bx - ax)) * sg (saR ax ay bx by1 cx cy r)) (h4 : w (i + 3) = dg (saZ ax ay bx by1 cx cy * (bx - ax))) (h5 : w (i + 4) = dg (k * (by1 - ay) * (k * (by1 - ay)) * saR ax ay bx by1 cx cy r)) (h6 : sd (j + 1) = sg (k * (by1 - ay)) * sg (saR ax ay bx by1 cx cy r)) :
    ptU w sd i j ((xsa ax ay bx by1 cx cy r f t).2.1 - cx * (xsa ax ay bx by1 cx cy r f t).2.2.2.2.1) ((xsa ax ay bx by1 cx cy r f t).2.2.1 - cy * (xsa ax ay bx by1 cx cy r f t).2.2.2.2.1) (xsa ax ay bx by1 cx cy r f t).2.2.2.2.2.1 (xsa ax ay bx by1 cx cy r f t).2.2.2.2.2.2 (xsa ax ay bx by1 cx cy r f t).2.2.2.1 k := by
  rw [kk_1 hk] at h2 h5
  refine ⟨⟨?_, h2, h3⟩, ?_, h5, h6⟩
  · show w i = dg (saU ax ay bx by1 cx cy - cx * saL ax ay bx by1)
    rw [sc_U]; exact h1
  · show w (i + 3) = dg (saV ax ay bx by1 cx cy - cy * saL ax ay bx by1)
    rw [sc_V]; exact h4
section SCB
variable {ax ay bx by1 cx cy r : Int}
theorem sc_bL (h1 : inC ax) (h2 : inC ay) (h3 : inC bx) (h4 : inC by1) : bd 83 (saL ax ay bx by1) := bd_add (bd_mul (bd_sC h3 h1) (bd_sC h3 h1)) (bd_mul (bd_sC h4 h2) (bd_sC h4 h2))
theorem sc_bA (h1 : inC ax) (h2 : inC ay) (h3 : inC bx) (h4 : inC by1) (h5 : inC cx) (h6 : inC cy) : bd 83 (saA ax ay bx by1 cx cy) := bd_add (bd_mul (bd_sC h3 h1) (bd_sC h1 h5)) (bd_mul (bd_sC h4 h2) (bd_sC h2 h6))
theorem sc_bZ (h1 : inC ax) (h2 : inC ay) (h3 : inC bx) (h4 : inC by1) (h5 : inC cx) (h6 : inC cy) : bd 83 (saZ ax ay bx by1 cx cy) := bd_sub (bd_mul (bd_sC h3 h1) (bd_sC h2 h6)) (bd_mul (bd_sC h4 h2) (bd_sC h1 h5))
theorem bd_r (h : 1 ≤ r ∧ r ≤ 4611686018427387904) : bd 62 r := bd_of 62 (B := 4611686018427387904) (by decide) (by omega) h.2
theorem sc_bR (h1 : inC ax) (h2 : inC ay) (h3 : inC bx) (h4 : inC by1) (h5 : inC cx) (h6 : inC cy) (hr : 1 ≤ r ∧ r ≤ 4611686018427387904) : bd 167 (saR ax ay bx by1 cx cy r) := by
  have hz := sc_bZ h1 h2 h3 h4 h5 h6
  have e : saR ax ay bx by1 cx cy r = r * saL ax ay bx by1 - saZ ax ay bx by1 cx cy * saZ ax ay bx by1 cx cy := by have := @sc_S ax ay bx by1 cx cy r; omega
  rw [e]
  exact bd_sub (bd_mono (bd_mul (bd_r hr) (sc_bL h1 h2 h3 h4)) (by decide)) (bd_mul hz hz)
theorem sc_bR2 (h1 : inC ax) (h2 : inC ay) (h3 : inC bx) (h4 : inC by1) (hr : 1 ≤ r ∧ r ≤ 4611686018427387904) (hR : 0 ≤ saR ax ay bx by1 cx cy r) : bd 150 (saR ax ay bx by1 cx cy r) := by
  have e := @sc_S ax ay bx by1 cx cy r
  have hz := sq_nn (saZ ax ay bx by1 cx cy)
  exact bd_mono (bd_of_le hR (show _ ≤ r * saL ax ay bx by1 by omega) (bd_mul (bd_r hr) (sc_bL h1 h2 h3 h4))) (by decide)
end SCB
theorem sc_eA {x1 x2 dx dy ax ay bx by1 cx cy : Int} (h1 : x1 = ax - cx) (h2 : x2 = ay - cy) (h3 : dx = bx - ax) (h4 : dy = by1 - ay) : x1 * dx + x2 * dy = saA ax ay bx by1 cx cy := by
  rw [h1, h2, h3, h4]; unfold saA; rw [Int.mul_comm (ax - cx), Int.mul_comm (ay - cy)]
theorem sc_eZ {x1 x2 dx dy ax ay bx by1 cx cy : Int} (h1 : x1 = ax - cx) (h2 : x2 = ay - cy) (h3 : dx = bx - ax) (h4 : dy = by1 - ay) : dx * x2 - dy * x1 = saZ ax ay bx by1 cx cy := by
  rw [h1, h2, h3, h4]; rfl
theorem sc_eL {dx dy ax ay bx by1 : Int} (h3 : dx = bx - ax) (h4 : dy = by1 - ay) : dx * dx + dy * dy = saL ax ay bx by1 := by
  rw [h3, h4]; rfl

section SAX
variable {ax ay bx by1 cx cy r f t dx dy : Int}
theorem sa_e {k : Int} (hx : dx = bx - ax) (hy : dy = by1 - ay) : saP ax ay bx by1 cx cy r f t k ↔ scP (saA ax ay bx by1 cx cy) (saL ax ay bx by1) (saR ax ay bx by1 cx cy r) (saZ ax ay bx by1 cx cy) dx dy f t (k) := by subst hx; subst hy; exact sc_P
theorem sa_n (h : saR ax ay bx by1 cx cy r < 0) : (xsa ax ay bx by1 cx cy r f t).1 = [] := by
  show saS ax ay bx by1 cx cy r f t = []
  unfold saS
  exact cps_00 (fun h9 => by have := h9.1; omega) (fun h9 => by have := h9.1; omega)
theorem sa_z1 (hx : dx = bx - ax) (hy : dy = by1 - ay) (h0 : 0 ≤ saR ax ay bx by1 cx cy r) (h1 : ¬ 0 < saR ax ay bx by1 cx cy r) (p : scP (saA ax ay bx by1 cx cy) (saL ax ay bx by1) (saR ax ay bx by1 cx cy r) (saZ ax ay bx by1 cx cy) dx dy f t (-1)) : (xsa ax ay bx by1 cx cy r f t).1 = [-1] := by
  show saS ax ay bx by1 cx cy r f t = [-1]
  unfold saS
  exact cps_10 ⟨by omega, (sa_e hx hy).mpr p⟩ (fun h9 => by have := h9.1; omega)
theorem sa_z0 (hx : dx = bx - ax) (hy : dy = by1 - ay) (h0 : 0 ≤ saR ax ay bx by1 cx cy r) (h1 : ¬ 0 < saR ax ay bx by1 cx cy r) (p : ¬ scP (saA ax ay bx by1 cx cy) (saL ax ay bx by1) (saR ax ay bx by1 cx cy r) (saZ ax ay bx by1 cx cy) dx dy f t (-1)) : (xsa ax ay bx by1 cx cy r f t).1 = [] := by
  show saS ax ay bx by1 cx cy r f t = []
  unfold saS
  exact cps_00 (fun h9 => p ((sa_e hx hy).mp h9.2)) (fun h9 => by have := h9.1; omega)
theorem sa_p11 (hx : dx = bx - ax) (hy : dy = by1 - ay) (h0 : 0 < saR ax ay bx by1 cx cy r) (p : scP (saA ax ay bx by1 cx cy) (saL ax ay bx by1) (saR ax ay bx by1 cx cy r) (saZ ax ay bx by1 cx cy) dx dy f t (-1)) (q : scP (saA ax ay bx by1 cx cy) (saL ax ay bx by1) (saR ax ay bx by1 cx cy r) (saZ ax ay bx by1 cx cy) dx dy f t (1)) : (xsa ax ay bx by1 cx cy r f t).1 = [-1, 1] := by
  show saS ax ay bx by1 cx cy r f t = [-1, 1]
  unfold saS
  exact cps_11 ⟨by omega, (sa_e hx hy).mpr p⟩ ⟨by omega, (sa_e hx hy).mpr q⟩
theorem sa_p10 (hx : dx = bx - ax) (hy : dy = by1 - ay) (h0 : 0 < saR ax ay bx by1 cx cy r) (p : scP (saA ax ay bx by1 cx cy) (saL ax ay bx by1) (saR ax ay bx by1 cx cy r) (saZ ax ay bx by1 cx cy) dx dy f t (-1)) (q : ¬ scP (saA ax ay bx by1 cx cy) (saL ax ay bx by1) (saR ax ay bx by1 cx cy r) (saZ ax ay bx by1 cx cy) dx dy f t (1)) : (xsa ax ay bx by1 cx cy r f t).1 = [-1] := by
  show saS ax ay bx by1 cx cy r f t = [-1]
  unfold saS
  exact cps_10 ⟨by omega, (sa_e hx hy).mpr p⟩ (fun h9 => q ((sa_e hx hy).mp h9.2))
theorem sa_p01 (hx : dx = bx - ax) (hy : dy = by1 - ay) (h0 : 0 < saR ax ay bx by1 cx cy r) (p : ¬ scP (saA ax ay bx by1 cx cy) (saL ax ay bx by1) (saR ax ay bx by1 cx cy r) (saZ ax ay bx by1 cx cy) dx dy f t (-1)) (q : scP (saA ax ay bx by1 cx cy) (saL ax ay bx by1) (saR ax ay bx by1 cx cy r) (saZ ax ay bx by1 cx cy) dx dy f t (1)) : (xsa ax ay bx by1 cx cy r f t).1 = [1] := by
  show saS ax ay bx by1 cx cy r f t = [1]
  unfold saS
  exact cps_01 (fun h9 => p ((sa_e hx hy).mp h9.2)) ⟨by omega, (sa_e hx hy).mpr q⟩
theorem sa_p00 (hx : dx = bx - ax) (hy : dy = by1 - ay) (h0 : 0 < saR ax ay bx by1 cx cy r) (p : ¬ scP (saA ax ay bx by1 cx cy) (saL ax ay bx by1) (saR ax ay bx by1 cx cy r) (saZ ax ay bx by1 cx cy) dx dy f t (-1)) (q : ¬ scP (saA ax ay bx by1 cx cy) (saL ax ay bx by1) (saR ax ay bx by1 cx cy r) (saZ ax ay bx by1 cx cy) dx dy f t (1)) : (xsa ax ay bx by1 cx cy r f t).1 = [] := by
  show saS ax ay bx by1 cx cy r f t = []
  unfold saS
  exact cps_00 (fun h9 => p ((sa_e hx hy).mp h9.2)) (fun h9 => q ((sa_e hx hy).mp h9.2))
end SAX

theorem sc_pt2 {ax ay bx by1 cx cy r f t dx dy : Int} {w : Nat → Nat → Int64} {sd : Nat → Int32} {i j : Nat} (j2 : Nat) (hj : j2 = j + 1) {k : Int} (hx : dx = bx - ax) (hy : dy = by1 - ay) (hk : k * k = 1) (h1 : w i = dg (saZ ax ay bx by1 cx cy * -dy)) (h2 : w (i + 1) = dg (k * dx * (k * dx) * saR ax ay bx by1 cx cy r)) (h3 : sd j = sg (k * dx) * sg (saR ax ay bx by1 cx cy r)) (h4 : w (i + 3) = dg (saZ ax ay bx by1 cx cy * dx)) (h5 : w (i + 4) = dg (k * dy * (k * dy) * saR ax ay bx by1 cx cy r)) (h6 : sd j2 = sg (k * dy) * sg (saR ax ay bx by1 cx cy r)) :
    ptU w sd i j ((xsa ax ay bx by1 cx cy r f t).2.1 - cx * (xsa ax ay bx by1 cx cy r f t).2.2.2.2.1) ((xsa ax ay bx by1 cx cy r f t).2.2.1 - cy * (xsa ax ay bx by1 cx cy r f t).2.2.2.2.1) (xsa ax ay bx by1 cx cy r f t).2.2.2.2.2.1 (xsa ax ay bx by1 cx cy r f t).2.2.2.2.2.2 (xsa ax ay bx by1 cx cy r f t).2.2.2.1 k := by
  subst hx; subst hy; subst hj
  exact sc_pt hk h1 h2 h3 h4 h5 h6
