/-! the reference's upper methods: words, bounds, calls that name what they lay -/
def bI (p : Prop) [Decidable p] : Int32 := if p then 1 else 0
theorem bI_t {p : Prop} [Decidable p] (h : p) : bI p = 1 := if_pos h
theorem bI_f {p : Prop} [Decidable p] (h : ¬ p) : bI p = 0 := if_neg h
theorem bI_0 {p : Prop} [Decidable p] : bI p = 0 ↔ ¬ p := by
  by_cases h : p
  · rw [bI_t h]; exact ⟨fun e => absurd e (by decide), fun e => absurd h e⟩
  · rw [bI_f h]; exact ⟨fun _ => h, fun _ => rfl⟩
theorem bI_01 (p : Prop) [Decidable p] : bI p = 0 ∨ bI p = 1 := by
  by_cases h : p
  · exact Or.inr (bI_t h)
  · exact Or.inl (bI_f h)
theorem bI_c {p q : Prop} [Decidable p] [Decidable q] (h : p ↔ q) : bI p = bI q := by
  by_cases e : p
  · rw [bI_t e, bI_t (h.mp e)]
  · rw [bI_f e, bI_f (fun x => e (h.mpr x))]
abbrev inC (v : Int) : Prop := -1099511627776 ≤ v ∧ v ≤ 1099511627776
abbrev bw (v a b : Int) : Prop := (a ≤ v ∧ v ≤ b) ∨ (b ≤ v ∧ v ≤ a)
theorem sg_e0 {z : Int} : sg z = 0 ↔ z = 0 := by rw [← Int32.toInt_inj, iT0]; have := sg_T z; omega
theorem sg_l0 {z : Int} : sg z < 0 ↔ z < 0 := by rw [Int32.lt_iff_toInt_lt, iT0]; have := sg_T z; omega
theorem sg_g0 {z : Int} : 0 < sg z ↔ 0 < z := by rw [Int32.lt_iff_toInt_lt, iT0]; have := sg_T z; omega
theorem sg_le0 {z : Int} : sg z ≤ 0 ↔ z ≤ 0 := by rw [Int32.le_iff_toInt_le, iT0]; have := sg_T z; omega
theorem sg_ge0 {z : Int} : 0 ≤ sg z ↔ 0 ≤ z := by rw [Int32.le_iff_toInt_le, iT0]; have := sg_T z; omega
theorem sg_mul (x y : Int) : sg x * sg y = sg (x * y) := by
  rcases Int.lt_trichotomy x 0 with hx | hx | hx <;> rcases Int.lt_trichotomy y 0 with hy | hy | hy
  · rw [sg_neg hx, sg_neg hy, sg_pos (Int.mul_pos_of_neg_of_neg hx hy)]; decide
  · rw [sg_neg hx, sg_zero hy, hy, Int.mul_zero, sg_zero rfl]; decide
  · rw [sg_neg hx, sg_pos hy, sg_neg (Int.mul_neg_of_neg_of_pos hx hy)]; decide
  · rw [sg_zero hx, sg_neg hy, hx, Int.zero_mul, sg_zero rfl]; decide
  · rw [sg_zero hx, sg_zero hy, hx, Int.zero_mul, sg_zero rfl]; decide
  · rw [sg_zero hx, sg_pos hy, hx, Int.zero_mul, sg_zero rfl]; decide
  · rw [sg_pos hx, sg_neg hy, sg_neg (Int.mul_neg_of_pos_of_neg hx hy)]; decide
  · rw [sg_pos hx, sg_zero hy, hy, Int.mul_zero, sg_zero rfl]; decide
  · rw [sg_pos hx, sg_pos hy, sg_pos (Int.mul_pos hx hy)]; decide
theorem sg_ng (x : Int) : sg (-x) = -sg x := by
  rcases Int.lt_trichotomy x 0 with h | h | h
  · rw [sg_neg h, sg_pos (by omega)]; decide
  · rw [sg_zero h, sg_zero (by omega)]; decide
  · rw [sg_pos h, sg_neg (by omega)]
def bd (k : Nat) (z : Int) : Prop := z.natAbs ≤ 2 ^ k
theorem bd_mono {j k : Nat} {x : Int} (h : bd j x) (hk : j ≤ k) : bd k x := Nat.le_trans h (Nat.pow_le_pow_right (by decide) hk)
theorem bd_mul {j k : Nat} {x y : Int} (hx : bd j x) (hy : bd k y) : bd (j + k) (x * y) := by
  unfold bd at *
  rw [Int.natAbs_mul, Nat.pow_add]
  exact Nat.mul_le_mul hx hy
theorem bd_add {k : Nat} {x y : Int} (hx : bd k x) (hy : bd k y) : bd (k + 1) (x + y) := by
  unfold bd at *
  rw [Nat.pow_succ]
  omega
theorem bd_sub {k : Nat} {x y : Int} (hx : bd k x) (hy : bd k y) : bd (k + 1) (x - y) := by
  unfold bd at *
  rw [Nat.pow_succ]
  omega
theorem bd_neg {k : Nat} {x : Int} (hx : bd k x) : bd k (-x) := by
  unfold bd at *
  rw [Int.natAbs_neg]; exact hx
theorem bd_of (k : Nat) {B z : Int} (hB : (2 : Int) ^ k = B) (h1 : -B ≤ z) (h2 : z ≤ B) : bd k z := by
  unfold bd
  have h : ((2 ^ k : Nat) : Int) = B := by rw [← hB]; exact Int.natCast_pow 2 k
  omega
theorem bd_to {k : Nat} {B z : Int} (h : bd k z) (hB : (2 : Int) ^ k = B) : -B ≤ z ∧ z ≤ B := by
  unfold bd at h
  have h : ((2 ^ k : Nat) : Int) = B := by rw [← hB]; exact Int.natCast_pow 2 k
  omega
theorem bd_lt {k : Nat} {z : Int} (h : bd k z) (hk : k < 320) : z.natAbs < 2135987035920910082395021706169552114602704522356652769947041607822219725780640550022962086936576 := by
  have h2 := bd_mono h (show k ≤ 319 by omega)
  have h3 : (2 : Nat) ^ 319 < 2135987035920910082395021706169552114602704522356652769947041607822219725780640550022962086936576 := by decide
  exact Nat.lt_of_le_of_lt h2 h3
theorem bd_l (v : Int64) : bd 63 v.toInt := bd_of 63 (B := 9223372036854775808) (by decide) (l_rng v).1 (Int.le_of_lt (l_rng v).2)
theorem bd_C {v : Int} (h : inC v) : bd 40 v := bd_of 40 (B := 1099511627776) (by decide) h.1 h.2
theorem bl_sub {x y : Int64} {j k : Nat} (hx : bd j x.toInt) (hy : bd k y.toInt) (h1 : j < 62) (h2 : k < 62) : (x - y).toInt = x.toInt - y.toInt := by
  have a := bd_to (bd_mono hx (show j ≤ 61 by omega)) (B := 2305843009213693952) (by decide)
  have b := bd_to (bd_mono hy (show k ≤ 61 by omega)) (B := 2305843009213693952) (by decide)
  exact l_sub (by omega) (by omega)
theorem bl_add {x y : Int64} {j k : Nat} (hx : bd j x.toInt) (hy : bd k y.toInt) (h1 : j < 62) (h2 : k < 62) : (x + y).toInt = x.toInt + y.toInt := by
  have a := bd_to (bd_mono hx (show j ≤ 61 by omega)) (B := 2305843009213693952) (by decide)
  have b := bd_to (bd_mono hy (show k ≤ 61 by omega)) (B := 2305843009213693952) (by decide)
  exact l_add (by omega) (by omega)
theorem bl_neg0 {x : Int64} {j : Nat} (hx : bd j x.toInt) (h1 : j < 62) : (0 - x).toInt = -x.toInt := by
  have a := bd_to (bd_mono hx (show j ≤ 61 by omega)) (B := 2305843009213693952) (by decide)
  rw [l_sub] <;> rw [lT0] <;> omega
/-- the turn at a corner, as a number -/
def tn (ax ay bx by1 cx cy : Int) : Int := (bx - ax) * (cy - ay) - (cx - ax) * (by1 - ay)
theorem tn_l {ax ay bx by1 cx cy : Int64} (h1 : inC ax.toInt) (h2 : inC ay.toInt) (h3 : inC bx.toInt) (h4 : inC by1.toInt) (h5 : inC cx.toInt) (h6 : inC cy.toInt) : (bx - ax).toInt * (cy - ay).toInt - (cx - ax).toInt * (by1 - ay).toInt = tn ax.toInt ay.toInt bx.toInt by1.toInt cx.toInt cy.toInt := by
  unfold tn
  rw [l_sub (x := bx) (y := ax) (by omega) (by omega), l_sub (x := cy) (y := ay) (by omega) (by omega), l_sub (x := cx) (y := ax) (by omega) (by omega), l_sub (x := by1) (y := ay) (by omega) (by omega)]
abbrev onS (ax ay bx by1 x y : Int) : Prop := (bw x ax bx ∧ bw y ay by1) ∧ tn ax ay bx by1 x y = 0
abbrev mt (ax ay bx by1 cx cy dx dy : Int) : Prop := (onS ax ay bx by1 cx cy ∨ onS ax ay bx by1 dx dy ∨ onS cx cy dx dy ax ay ∨ onS cx cy dx dy bx by1) ∨ (tn ax ay bx by1 cx cy * tn ax ay bx by1 dx dy < 0 ∧ tn cx cy dx dy ax ay * tn cx cy dx dy bx by1 < 0)
/-- the first four registers are kept -/
def kp (zs zs' : List Int) : Prop := zs'.length = 16 ∧ ∀ i, i < 4 → zs'.getD i 0 = zs.getD i 0
theorem kp_i {z0 z1 z2 z3 z4 z5 z6 z7 z8 z9 z10 z11 z12 z13 z14 z15 y4 y5 y6 y7 y8 y9 y10 y11 y12 y13 y14 y15 : Int} : kp [z0, z1, z2, z3, z4, z5, z6, z7, z8, z9, z10, z11, z12, z13, z14, z15] [z0, z1, z2, z3, y4, y5, y6, y7, y8, y9, y10, y11, y12, y13, y14, y15] := ⟨rfl, fun i hi => by
  match i, hi with
  | 0, _ => rfl
  | 1, _ => rfl
  | 2, _ => rfl
  | 3, _ => rfl⟩
theorem kp_4 {z0 z1 z2 z3 z4 z5 z6 z7 z8 z9 z10 z11 z12 z13 z14 z15 : Int} {zs : List Int} (h : kp [z0, z1, z2, z3, z4, z5, z6, z7, z8, z9, z10, z11, z12, z13, z14, z15] zs) : ∃ y4 y5 y6 y7 y8 y9 y10 y11 y12 y13 y14 y15 : Int, zs = [z0, z1, z2, z3, y4, y5, y6, y7, y8, y9, y10, y11, y12, y13, y14, y15] := by
  obtain ⟨a0, a1, a2, a3, y4, y5, y6, y7, y8, y9, y10, y11, y12, y13, y14, y15, rfl⟩ := l16 h.1
  have e0 : a0 = z0 := h.2 0 (by decide)
  have e1 : a1 = z1 := h.2 1 (by decide)
  have e2 : a2 = z2 := h.2 2 (by decide)
  have e3 : a3 = z3 := h.2 3 (by decide)
  exact ⟨y4, y5, y6, y7, y8, y9, y10, y11, y12, y13, y14, y15, by rw [e0, e1, e2, e3]⟩
theorem kp_t {a b c : List Int} (h : kp a b) (h2 : kp b c) : kp a c := ⟨h2.1, fun i hi => (h2.2 i hi).trans (h.2 i hi)⟩
section NN
variable (l : Launch) (G : jG) (q : Nat → Nat) (t n co cr po : Int32) (tx ty : Int64) (zs : List Int) (sf : Nat → Int32)
theorem n_load (hl : zs.length = 16) (hS : okS zs sf) (r : Int32) (dd : Nat) (hdd : r.toInt = dd) (gdd : dd < 16) (v : Int64) (z : Int) (hz : z = v.toInt) : Ct l yX11_load wsX11_load rm_X11_load G [.ref (q 0), .int r, .long v] (mW G q t n co cr po tx ty zs sf) (S := Nat → Int32) (fun r u => r = none ∧ okS (zs.set dd z) u) (fun u => mW G q t n co cr po tx ty (zs.set dd z) u) (fun _ => []) := by
  subst hz; exact h_load l G q t n co cr po tx ty zs sf hl hS r dd hdd gdd v
theorem n_mul (hl : zs.length = 16) (hS : okS zs sf) (r : Int32) (dd : Nat) (hdd : r.toInt = dd) (gdd : dd < 16) (ra : Int32) (aa : Nat) (haa : ra.toInt = aa) (gaa : aa < 16) (rb : Int32) (bb : Nat) (hbb : rb.toInt = bb) (gbb : bb < 16) (hda : dd ≠ aa) (hdb : dd ≠ bb) (z : Int) (hz : z = zs.getD aa 0 * zs.getD bb 0) : Ct l yX11_multiply wsX11_multiply rm_X11_multiply G [.ref (q 0), .int r, .int ra, .int rb] (mW G q t n co cr po tx ty zs sf) (S := Nat → Int32) (fun r u => r = none ∧ okS (zs.set dd z) u) (fun u => mW G q t n co cr po tx ty (zs.set dd z) u) (fun _ => []) := by
  subst hz; exact h_multiply l G q t n co cr po tx ty zs sf hl hS r dd hdd gdd ra aa haa gaa rb bb hbb gbb hda hdb
theorem n_join (hl : zs.length = 16) (hS : okS zs sf) (r : Int32) (dd : Nat) (hdd : r.toInt = dd) (gdd : dd < 16) (ra : Int32) (aa : Nat) (haa : ra.toInt = aa) (gaa : aa < 16) (rb : Int32) (bb : Nat) (hbb : rb.toInt = bb) (gbb : bb < 16) (ls : Int32) (hls : ls = 0 ∨ ls = 1) (hda : dd ≠ aa) (hdb : dd ≠ bb) (z : Int) (hz : z = jn ls (zs.getD aa 0) (zs.getD bb 0)) {j k : Nat} (hba : bd j (zs.getD aa 0)) (hbb2 : bd k (zs.getD bb 0)) (hj : j < 320) (hk : k < 320) : Ct l yX11_join wsX11_join rm_X11_join G [.ref (q 0), .int r, .int ra, .int rb, .int ls] (mW G q t n co cr po tx ty zs sf) (S := Nat → Int32) (fun r u => r = none ∧ okS (zs.set dd z) u) (fun u => mW G q t n co cr po tx ty (zs.set dd z) u) (fun _ => []) := by
  subst hz; exact h_join l G q t n co cr po tx ty zs sf hl hS r dd hdd gdd ra aa haa gaa rb bb hbb gbb ls hls hda hdb (bd_lt hba hj) (bd_lt hbb2 hk)
theorem n_products (hl : zs.length = 16) (hS : okS zs sf) (r : Int32) (dd : Nat) (hdd : r.toInt = dd) (gd2 : dd < 12) (xa xb xc xe : Int64) (ls : Int32) (hls : ls = 0 ∨ ls = 1) (z : Int) (hz : z = jn ls (xa.toInt * xb.toInt) (xe.toInt * xc.toInt)) : Ct l yX11_products wsX11_products rm_X11_products G [.ref (q 0), .int r, .long xa, .long xb, .long xc, .long xe, .int ls] (mW G q t n co cr po tx ty zs sf) (S := Int × Int × Int × Int × (Nat → Int32)) (fun r u => r = none ∧ okS (((((zs.set 12 u.1).set 13 u.2.1).set 14 u.2.2.1).set 15 u.2.2.2.1).set dd z) u.2.2.2.2) (fun u => mW G q t n co cr po tx ty (((((zs.set 12 u.1).set 13 u.2.1).set 14 u.2.2.1).set 15 u.2.2.2.1).set dd z) u.2.2.2.2) (fun _ => []) := by
  subst hz
  obtain ⟨z0, z1, z2, z3, z4, z5, z6, z7, z8, z9, z10, z11, z12, z13, z14, z15, rfl⟩ := l16 hl
  have e : zP [z0, z1, z2, z3, z4, z5, z6, z7, z8, z9, z10, z11, z12, z13, z14, z15] dd xa.toInt xb.toInt xc.toInt xe.toInt ls = [z0, z1, z2, z3, z4, z5, z6, z7, z8, z9, z10, z11, xe.toInt * xc.toInt, xe.toInt, xc.toInt, xa.toInt * xb.toInt].set dd (jn ls (xa.toInt * xb.toInt) (xe.toInt * xc.toInt)) := rfl
  exact (c_X11_products l G q t n co cr po tx ty _ hl sf hS r dd hdd gd2 xa xb xc xe ls hls).weaken (fun _ => by simp only [List.map_cons, List.map_nil]) (fun w u h => ⟨(xe.toInt * xc.toInt, xe.toInt, xc.toInt, xa.toInt * xb.toInt, u), by rw [e] at h; exact h, by rw [e]; rfl, rfl⟩)
theorem n_turnOf (hl : zs.length = 16) (hS : okS zs sf) (ax ay bx by1 cx cy : Int64) (h1 : inC ax.toInt) (h2 : inC ay.toInt) (h3 : inC bx.toInt) (h4 : inC by1.toInt) (h5 : inC cx.toInt) (h6 : inC cy.toInt) : Ct l yX11_turnOf wsX11_turnOf rm_X11_turnOf G [.ref (q 0), .long ax, .long ay, .long bx, .long by1, .long cx, .long cy] (mW G q t n co cr po tx ty zs sf) (S := List Int × (Nat → Int32)) (fun r u => r = some (.int (sg (tn ax.toInt ay.toInt bx.toInt by1.toInt cx.toInt cy.toInt))) ∧ kp zs u.1 ∧ okS u.1 u.2) (fun u => mW G q t n co cr po tx ty u.1 u.2) (fun _ => []) := by
  obtain ⟨z0, z1, z2, z3, z4, z5, z6, z7, z8, z9, z10, z11, z12, z13, z14, z15, rfl⟩ := l16 hl
  exact (c_X11_turnOf l G q t n co cr po tx ty _ hl sf hS ax ay bx by1 cx cy).weaken (fun _ => by simp only [List.map_cons, List.map_nil]) (fun w u h => ⟨(_, u), ⟨by rw [← tn_l h1 h2 h3 h4 h5 h6]; exact h.1, kp_i, h.2⟩, rfl, rfl⟩)
end NN
/-- where a direction lies, in sixteenths, as the reference tells it -/
def posn (x y ls mo : Int32) : Int32 := if y = 0 then (if x ≤ 0 then 8 else 0) else if x = 0 then (if y ≤ 0 then 12 else 4) else if x ≤ 0 then (if y ≤ 0 then 10 + ls else 6 - mo) else (if y ≤ 0 then 14 + mo else 2 - ls)
theorem nar_I (p : Prop) [Decidable p] : narrow .boolean (Value.int (bI p)) = Value.int (bI p) := by
  rcases bI_01 p with h | h <;> rw [h] <;> rfl
