/-! crossings: the reference's words -/
/-- whether a place (U, V and a root, over L) is in an arc's directions -/
abbrev ofA (cx cy f t U V R L fx fy : Int) : Prop := trn f t (posn (rn (U - cx * L) fx R) (rn (V - cy * L) fy R) (rn (U - cx * L - (V - cy * L)) (fx - fy) R) (rn (U - cx * L + (V - cy * L)) (fx + fy) R)).toInt
theorem sm_p (x : Int64) : ((1 : Int32).toInt64 * x).toInt = x.toInt := by
  rw [show (1 : Int32).toInt64 = 1 from rfl, Int64.one_mul]
theorem sm_n {x : Int64} {k : Nat} (h : bd k x.toInt) (hk : k < 62) : ((-1 : Int32).toInt64 * x).toInt = -x.toInt := by
  rw [show (-1 : Int32).toInt64 = -1 from rfl]
  have a := bd_to (bd_mono h (show k ≤ 61 by omega)) (B := 2305843009213693952) (by decide)
  have e : (-1 : Int64).toInt = -1 := rfl
  rw [l_mul] <;> rw [e] <;> omega
/-- the places of a crossing that are kept, by their signs -/
def cps (p1 p2 : Prop) [Decidable p1] [Decidable p2] (k1 k2 : Int32) : List Int32 := (if p1 then [k1] else []) ++ (if p2 then [k2] else [])
theorem cps_00 {p1 p2 : Prop} [Decidable p1] [Decidable p2] {k1 k2 : Int32} (h1 : ¬ p1) (h2 : ¬ p2) : cps p1 p2 k1 k2 = [] := by unfold cps; rw [if_neg h1, if_neg h2]; rfl
theorem cps_10 {p1 p2 : Prop} [Decidable p1] [Decidable p2] {k1 k2 : Int32} (h1 : p1) (h2 : ¬ p2) : cps p1 p2 k1 k2 = [k1] := by unfold cps; rw [if_pos h1, if_neg h2]; rfl
theorem cps_01 {p1 p2 : Prop} [Decidable p1] [Decidable p2] {k1 k2 : Int32} (h1 : ¬ p1) (h2 : p2) : cps p1 p2 k1 k2 = [k2] := by unfold cps; rw [if_neg h1, if_pos h2]; rfl
theorem cps_11 {p1 p2 : Prop} [Decidable p1] [Decidable p2] {k1 k2 : Int32} (h1 : p1) (h2 : p2) : cps p1 p2 k1 k2 = [k1, k2] := by unfold cps; rw [if_pos h1, if_pos h2]; rfl
/-- the signs that are held are those of the list -/
def sgL (sig : Nat → Int32) (ps : List Int32) : Prop := ∀ i, i < ps.length → sig i = ps.getD i 0
theorem sgL_0 (sig : Nat → Int32) : sgL sig [] := fun i h => absurd h (Nat.not_lt_zero i)
theorem sgL_1 (sig : Nat → Int32) (k : Int32) : sgL (upd sig 0 k) [k] := fun i h => by
  have e : i = 0 := by simp at h; omega
  subst e; exact pk_us
theorem sgL_2 (sig : Nat → Int32) (k j : Int32) : sgL (upd (upd sig 0 k) 1 j) [k, j] := fun i h => by
  have e : i = 0 ∨ i = 1 := by simp at h; omega
  rcases e with e | e
  · subst e; rw [pk_un (by decide)]; exact pk_us
  · subst e; exact pk_us
theorem rg_flip {zs : List Int} {d : Nat} (h : d < zs.length) : ∀ r, zA zs r = zA (zs.set d (-(zs.getD d 0))) r := fun r => by
  by_cases e : r = d
  · subst e; rw [zA_set _ h]; unfold zA; omega
  · rw [zA_ne _ e]
theorem ok_flip0 {s : Int32} {z : Int} (h : ok1 s z) (h0 : s = 0) : ok1 1 (-z) := by
  rcases h with h | h
  · exact Or.inr ⟨rfl, by omega⟩
  · exact absurd (h0.symm.trans h.1) (by decide)
theorem ok_flip1 {s : Int32} {z : Int} (h : ok1 s z) (h0 : ¬ s = 0) : ok1 0 (-z) := by
  rcases h with h | h
  · exact absurd h.1 h0
  · exact Or.inl ⟨rfl, by omega⟩
theorem i64_p : ((1 : Int32).toInt64).toInt = 1 := rfl
theorem i64_n : ((-1 : Int32).toInt64).toInt = -1 := rfl
theorem i64_0p : (0 - (1 : Int32).toInt64).toInt = -1 := rfl
theorem i64_0n : (0 - (-1 : Int32).toInt64).toInt = 1 := rfl
theorem bd_p1 : bd 1 ((1 : Int32).toInt64).toInt := by rw [i64_p]; exact (by decide : Int.natAbs 1 ≤ 2 ^ 1)
theorem bd_n1 : bd 1 ((-1 : Int32).toInt64).toInt := by rw [i64_n]; exact (by decide : Int.natAbs (-1) ≤ 2 ^ 1)
theorem bd_0p : bd 1 (0 - (1 : Int32).toInt64).toInt := by rw [i64_0p]; exact (by decide : Int.natAbs (-1) ≤ 2 ^ 1)
theorem bd_0n : bd 1 (0 - (-1 : Int32).toInt64).toInt := by rw [i64_0n]; exact (by decide : Int.natAbs 1 ≤ 2 ^ 1)
/-! a segment and an arc -/
def saD (ax ay bx by1 cx cy : Int) : Int := -((bx - ax) * (ax - cx) + (by1 - ay) * (ay - cy))
def saL (ax ay bx by1 : Int) : Int := (bx - ax) * (bx - ax) + (by1 - ay) * (by1 - ay)
def saR (ax ay bx by1 cx cy r : Int) : Int := saD ax ay bx by1 cx cy * saD ax ay bx by1 cx cy - saL ax ay bx by1 * ((ax - cx) * (ax - cx) + (ay - cy) * (ay - cy) - r)
def saU (ax ay bx by1 cx cy : Int) : Int := ax * saL ax ay bx by1 + (bx - ax) * saD ax ay bx by1 cx cy
def saV (ax ay bx by1 cx cy : Int) : Int := ay * saL ax ay bx by1 + (by1 - ay) * saD ax ay bx by1 cx cy
abbrev saP (ax ay bx by1 cx cy r f t k : Int) : Prop := ¬ rn (saD ax ay bx by1 cx cy) k (saR ax ay bx by1 cx cy r) < 0 ∧ ¬ rn (saL ax ay bx by1 - saD ax ay bx by1 cx cy) (-k) (saR ax ay bx by1 cx cy r) < 0 ∧ ofA cx cy f t (saU ax ay bx by1 cx cy) (saV ax ay bx by1 cx cy) (saR ax ay bx by1 cx cy r) (saL ax ay bx by1) (k * (bx - ax)) (k * (by1 - ay))
def saS (ax ay bx by1 cx cy r f t : Int) : List Int32 := cps (0 ≤ saR ax ay bx by1 cx cy r ∧ saP ax ay bx by1 cx cy r f t (-1)) (0 < saR ax ay bx by1 cx cy r ∧ saP ax ay bx by1 cx cy r f t 1) (-1) 1
/-! two arcs -/
def aaF (ax ay bx by1 : Int) : Int := (bx - ax) * (bx - ax) + (by1 - ay) * (by1 - ay)
def aaE (ax ay bx by1 r s : Int) : Int := aaF ax ay bx by1 + r - s
def aaR (ax ay bx by1 r s : Int) : Int := r * 4 * aaF ax ay bx by1 - aaE ax ay bx by1 r s * aaE ax ay bx by1 r s
def aaL (ax ay bx by1 : Int) : Int := aaF ax ay bx by1 + aaF ax ay bx by1
def aaU (ax ay bx by1 r s : Int) : Int := ax * aaL ax ay bx by1 + (bx - ax) * aaE ax ay bx by1 r s
def aaV (ax ay bx by1 r s : Int) : Int := ay * aaL ax ay bx by1 + (by1 - ay) * aaE ax ay bx by1 r s
abbrev aaP (ax ay bx by1 r s f1 t1 f2 t2 k : Int) : Prop := ofA ax ay f1 t1 (aaU ax ay bx by1 r s) (aaV ax ay bx by1 r s) (aaR ax ay bx by1 r s) (aaL ax ay bx by1) (k * -(by1 - ay)) (k * (bx - ax)) ∧ ofA bx by1 f2 t2 (aaU ax ay bx by1 r s) (aaV ax ay bx by1 r s) (aaR ax ay bx by1 r s) (aaL ax ay bx by1) (k * -(by1 - ay)) (k * (bx - ax))
def aaS (ax ay bx by1 r s f1 t1 f2 t2 : Int) : List Int32 := cps (0 ≤ aaR ax ay bx by1 r s ∧ aaP ax ay bx by1 r s f1 t1 f2 t2 1) (0 < aaR ax ay bx by1 r s ∧ aaP ax ay bx by1 r s f1 t1 f2 t2 (-1)) 1 (-1)
/-- the registers of a crossing -/
def crG (zs : List Int) (tx ty : Int64) (U V R L fx fy : Int) : Prop := (zs.getD 0 0 = U ∧ zs.getD 1 0 = V ∧ zs.getD 2 0 = R ∧ zs.getD 3 0 = L) ∧ tx.toInt = fx ∧ ty.toInt = fy
/-- what a crossing gives: the signs of its places; twice a number with a root, the radicand, what it is over, the factors -/
abbrev XV : Type := List Int32 × Int × Int × Int × Int × Int × Int
def xG (v : XV) (po : Int32) (sig : Nat → Int32) (tx ty : Int64) (zs : List Int) : Prop := po = nI v.1.length ∧ sgL sig v.1 ∧ (¬ v.1 = [] → crG zs tx ty v.2.1 v.2.2.1 v.2.2.2.1 v.2.2.2.2.1 v.2.2.2.2.2.1 v.2.2.2.2.2.2)
def xsa (ax ay bx by1 cx cy r f t : Int) : XV := (saS ax ay bx by1 cx cy r f t, saU ax ay bx by1 cx cy, saV ax ay bx by1 cx cy, saR ax ay bx by1 cx cy r, saL ax ay bx by1, bx - ax, by1 - ay)
def xaa (ax ay bx by1 r s f1 t1 f2 t2 : Int) : Option XV := if bx - ax = 0 ∧ by1 - ay = 0 then (if r = s then none else some ([], 0, 0, 0, 0, 0, 0)) else some (aaS ax ay bx by1 r s f1 t1 f2 t2, aaU ax ay bx by1 r s, aaV ax ay bx by1 r s, aaR ax ay bx by1 r s, aaL ax ay bx by1, -(by1 - ay), bx - ax)
theorem xG_0 {sig : Nat → Int32} {tx ty : Int64} {zs : List Int} {w : Int × Int × Int × Int × Int × Int} : xG ([], w) 0 sig tx ty zs := ⟨rfl, sgL_0 sig, fun h => absurd rfl h⟩
/-! segments on one line: which ends lie on the other segment -/
def hiP (ax ay bx by1 cx cy dx dy : Int) : Nat → Prop
  | 0 => onS ax ay bx by1 cx cy
  | 1 => onS ax ay bx by1 dx dy
  | 2 => onS cx cy dx dy ax ay
  | _ => onS cx cy dx dy bx by1
def hiX (ax bx cx dx : Int) : Nat → Int
  | 0 => cx
  | 1 => dx
  | 2 => ax
  | _ => bx
/-- how far the four ends have been gone through -/
def alI (H : Nat → Prop) (X Y : Nat → Int) (k m : Nat) (x y : Int) (o : Int32) : Prop :=
  (m = 0 ∧ o = 0 ∧ ∀ j, j < k → ¬ H j) ∨ (0 < m ∧ o = 0 ∧ (∃ j, j < k ∧ H j ∧ X j = x ∧ Y j = y) ∧ ∀ i, i < k → H i → X i = x ∧ Y i = y) ∨ (0 < m ∧ o = 1 ∧ ∃ i j, i < k ∧ j < k ∧ H i ∧ H j ∧ ¬ (X i = X j ∧ Y i = Y j))
theorem al_0 {H : Nat → Prop} {X Y : Nat → Int} {x y : Int} : alI H X Y 0 0 x y 0 := Or.inl ⟨rfl, rfl, fun j hj => absurd hj (Nat.not_lt_zero j)⟩
theorem al_no {H : Nat → Prop} {X Y : Nat → Int} {k m : Nat} {x y : Int} {o : Int32} (h : alI H X Y k m x y o) (hn : ¬ H k) : alI H X Y (k + 1) m x y o := by
  rcases h with ⟨h1, h2, h3⟩ | ⟨h1, h2, ⟨j, q1, q2⟩, h4⟩ | ⟨h1, h2, i, j, q1, q2, q3⟩
  · exact Or.inl ⟨h1, h2, fun j hj => by rcases Nat.lt_succ_iff_lt_or_eq.mp hj with e | e; exact h3 j e; rw [e]; exact hn⟩
  · exact Or.inr (Or.inl ⟨h1, h2, ⟨j, by omega, q2⟩, fun i hi hH => by rcases Nat.lt_succ_iff_lt_or_eq.mp hi with e | e; exact h4 i e hH; rw [e] at hH; exact absurd hH hn⟩)
  · exact Or.inr (Or.inr ⟨h1, h2, i, j, by omega, by omega, q3⟩)
/-- the first that is hit -/
theorem al_f {H : Nat → Prop} {X Y : Nat → Int} {k m : Nat} {x y : Int} {o : Int32} (hm : m = 0) (h : alI H X Y k m x y o) (hH : H k) : alI H X Y (k + 1) (m + 1) (X k) (Y k) 0 := by
  rcases h with ⟨h1, h2, h3⟩ | ⟨h1, h2⟩ | ⟨h1, h2⟩
  · exact Or.inr (Or.inl ⟨by omega, rfl, ⟨k, by omega, hH, rfl, rfl⟩, fun i hi hI => by rcases Nat.lt_succ_iff_lt_or_eq.mp hi with e | e; exact absurd hI (h3 i e); rw [e]; exact ⟨rfl, rfl⟩⟩)
  · exact absurd h1 (by omega)
  · exact absurd h1 (by omega)
/-- hit again, at the same place -/
theorem al_s {H : Nat → Prop} {X Y : Nat → Int} {k m : Nat} {x y : Int} (hm : 0 < m) (h : alI H X Y k m x y 0) (hH : H k) (hx : X k = x) (hy : Y k = y) : alI H X Y (k + 1) (m + 1) (X k) (Y k) 0 := by
  rcases h with ⟨h1, h2, h3⟩ | ⟨h1, h2, ⟨j, q1, q2⟩, h4⟩ | ⟨h1, h2, _⟩
  · omega
  · exact Or.inr (Or.inl ⟨by omega, rfl, ⟨k, by omega, hH, rfl, rfl⟩, fun i hi hI => by rcases Nat.lt_succ_iff_lt_or_eq.mp hi with e | e; (rw [hx, hy]; exact h4 i e hI); rw [e]; exact ⟨rfl, rfl⟩⟩)
  · exact absurd h2 (by decide)
/-- hit again, elsewhere -/
theorem al_d {H : Nat → Prop} {X Y : Nat → Int} {k m : Nat} {x y : Int} (hm : 0 < m) (h : alI H X Y k m x y 0) (hH : H k) (hx : ¬ (X k = x ∧ Y k = y)) : alI H X Y (k + 1) (m + 1) (X k) (Y k) 1 := by
  rcases h with ⟨h1, h2, h3⟩ | ⟨h1, h2, ⟨j, q1, q2, q3, q4⟩, h4⟩ | ⟨h1, h2, _⟩
  · omega
  · exact Or.inr (Or.inr ⟨by omega, rfl, k, j, by omega, by omega, hH, q2, by rw [q3, q4]; exact hx⟩)
  · exact absurd h2 (by decide)
theorem al_o {H : Nat → Prop} {X Y : Nat → Int} {k m : Nat} {x y x2 y2 : Int} (h : alI H X Y k m x y 1) : alI H X Y (k + 1) (m + 1) x2 y2 1 := by
  rcases h with ⟨h1, h2, h3⟩ | ⟨h1, h2, _⟩ | ⟨h1, h2, i, j, q1, q2, q3⟩
  · exact absurd h2 (by decide)
  · exact absurd h2 (by decide)
  · exact Or.inr (Or.inr ⟨by omega, rfl, i, j, by omega, by omega, q3⟩)
theorem al_n {H : Nat → Prop} {X Y : Nat → Int} {k m : Nat} {x y : Int} {o : Int32} (h : alI H X Y k m x y o) (hm : ¬ 0 < m) : m = 0 ∧ o = 0 := by
  rcases h with ⟨h1, h2, _⟩ | ⟨h1, _⟩ | ⟨h1, _⟩
  · exact ⟨h1, h2⟩
  · exact absurd h1 hm
  · exact absurd h1 hm
theorem al_xn {H : Nat → Prop} {X Y : Nat → Int} {k m : Nat} {x y : Int} {o : Int32} (h4 : k = 4) (h : alI H X Y k m x y o) (ho : ¬ o = 0) : ∃ i j, i < 4 ∧ j < 4 ∧ H i ∧ H j ∧ ¬ (X i = X j ∧ Y i = Y j) := by
  subst h4
  rcases h with h | h | h
  · exact absurd h.2.1 ho
  · exact absurd h.2.1 ho
  · exact h.2.2
theorem al_x0 {H : Nat → Prop} {X Y : Nat → Int} {k m : Nat} {x y : Int} {o : Int32} (h4 : k = 4) (h : alI H X Y k m x y o) (hm : ¬ 0 < m) : ∀ i, i < 4 → ¬ H i := by
  subst h4
  rcases h with h | h | h
  · exact h.2.2
  · exact absurd h.1 hm
  · exact absurd h.1 hm
theorem al_x1 {H : Nat → Prop} {X Y : Nat → Int} {k m : Nat} {x y : Int} {o : Int32} (h4 : k = 4) (h : alI H X Y k m x y o) (ho : o = 0) (hm : 0 < m) : ∃ j, j < 4 ∧ H j ∧ X j = x ∧ Y j = y ∧ ∀ i, i < 4 → H i → X i = X j ∧ Y i = Y j := by
  subst h4
  rcases h with h | h | h
  · exact absurd h.1 (by omega)
  · obtain ⟨j, j1, j2, j3, j4⟩ := h.2.2.1
    exact ⟨j, j1, j2, j3, j4, fun i hi hH => by rw [j3, j4]; exact h.2.2.2 i hi hH⟩
  · exact absurd (ho.symm.trans h.2.1) (by decide)
/-- what segments on one line give: x is the crossing's words, or none where they have more than a place in common -/
def xal (H : Nat → Prop) (X Y : Nat → Int) (o : Option XV) : Prop :=
  (o = none ∧ ∃ i j, i < 4 ∧ j < 4 ∧ H i ∧ H j ∧ ¬ (X i = X j ∧ Y i = Y j)) ∨ (o = some ([], 0, 0, 0, 0, 0, 0) ∧ ∀ i, i < 4 → ¬ H i) ∨ (∃ j, j < 4 ∧ H j ∧ o = some ([0], X j, Y j, 0, 1, 0, 0) ∧ ∀ i, i < 4 → H i → X i = X j ∧ Y i = Y j)
/-! two segments that aren't alike in their way -/
def ssL (ax ay bx by1 cx cy dx dy : Int) : Int := (bx - ax) * (dy - cy) - (dx - cx) * (by1 - ay)
def ssB (ax ay cx cy dx dy : Int) : Int := (cx - ax) * (dy - cy) - (dx - cx) * (cy - ay)
/-- what the reference gives of two segments -/
def xss (ax ay bx by1 cx cy dx dy : Int) (o : Option XV) : Prop :=
  if ssL ax ay bx by1 cx cy dx dy = 0 then
    (if ¬ tn ax ay bx by1 cx cy = 0 then o = some ([], 0, 0, 0, 0, 0, 0) else xal (hiP ax ay bx by1 cx cy dx dy) (hiX ax bx cx dx) (hiX ay by1 cy dy) o)
  else if ¬ mt ax ay bx by1 cx cy dx dy then o = some ([], 0, 0, 0, 0, 0, 0)
  else if ssL ax ay bx by1 cx cy dx dy < 0 then o = some ([0], ax * -ssL ax ay bx by1 cx cy dx dy + (bx - ax) * -ssB ax ay cx cy dx dy, ay * -ssL ax ay bx by1 cx cy dx dy + (by1 - ay) * -ssB ax ay cx cy dx dy, 0, -ssL ax ay bx by1 cx cy dx dy, 0, 0)
  else o = some ([0], ax * ssL ax ay bx by1 cx cy dx dy + (bx - ax) * ssB ax ay cx cy dx dy, ay * ssL ax ay bx by1 cx cy dx dy + (by1 - ay) * ssB ax ay cx cy dx dy, 0, ssL ax ay bx by1 cx cy dx dy, 0, 0)
/-- floors of numbers with roots -/
def flA (A : Int) (w : Int32) (N E M : Int) : Int := (A + (if w = 0 then 0 else if w < 0 then (if E * E = N then -E else -E - 1) else E)) / M
theorem i64_2 : ((2 : Int32).toInt64).toInt = 2 := rfl
theorem bd_2 : bd 2 ((2 : Int32).toInt64).toInt := by rw [i64_2]; exact (by decide : Int.natAbs 2 ≤ 2 ^ 2)
theorem sm_2 {x : Int64} {k : Nat} (h : bd k x.toInt) (hk : k < 61) : ((2 : Int32).toInt64 * x).toInt = 2 * x.toInt := by
  rw [show (2 : Int32).toInt64 = 2 from rfl]
  have a := bd_to (bd_mono h (show k ≤ 60 by omega)) (B := 1152921504606846976) (by decide)
  have e : (2 : Int64).toInt = 2 := rfl
  rw [l_mul] <;> rw [e] <;> omega
theorem fl_z {A N E M : Int} {w : Int32} (h : w = 0) : flA A w N E M = A / M := by unfold flA; rw [if_pos h, Int.add_zero]
theorem fl_p {A N E M : Int} {w : Int32} (h : w = 1) : flA A w N E M = (A + E) / M := by unfold flA; rw [h]; rfl
theorem fl_n {A N E M : Int} {w : Int32} (h : w = -1) (hE : E * E = N) : flA A w N E M = (A - E) / M := by unfold flA; rw [h, if_neg (by decide), if_pos (by decide), if_pos hE, ← Int.sub_eq_add_neg]
theorem fl_m {A N E M : Int} {w : Int32} (h : w = -1) (hE : ¬ E * E = N) : flA A w N E M = (A - E - 1) / M := by unfold flA; rw [h, if_neg (by decide), if_pos (by decide), if_neg hE]; congr 1; omega
theorem bd_abs {k : Nat} {z : Int} (h : bd k z) : bd k (z.natAbs : Int) := by unfold bd at *; rw [Int.natAbs_natCast]; exact h
/-- a coordinate of a crossing, rounded: U and s f times the root of R, over L; E is the whole root that is used -/
def atN (how f R : Int) : Int := if how = 2 then 2 * f * (2 * f) * R else f * f * R
def atV (how U f R L E s : Int) : Int := if how = 0 then flA U (sg (s * f)) (f * f * R) E L else if how = 1 then -flA (-U) (sg (-s * f)) (f * f * R) E L else flA (2 * U + L) (sg (s * f)) (2 * f * (2 * f) * R) E (2 * L)
theorem hs_ng {s : Int32} {P : Prop} (h : s = 1 ∨ s = -1 ∨ (s = 0 ∧ P)) : 0 - s = 1 ∨ 0 - s = -1 ∨ (0 - s = 0 ∧ P) := by
  rcases h with h | h | h
  · rw [h]; exact Or.inr (Or.inl (by decide))
  · rw [h]; exact Or.inl (by decide)
  · rw [h.1]; exact Or.inr (Or.inr ⟨by decide, h.2⟩)
theorem hs_nT {s : Int32} {P : Prop} (h : s = 1 ∨ s = -1 ∨ (s = 0 ∧ P)) : (0 - s).toInt = -s.toInt := by
  rcases h with h | h | h
  · rw [h]; decide
  · rw [h]; decide
  · rw [h.1]; decide
