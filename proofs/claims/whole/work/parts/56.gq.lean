/-! segments as the class holds them; how far apart -/
abbrev sgH (ax ay bx by1 dx dy : Int64) : Prop := (inC ax.toInt ∧ inC ay.toInt ∧ inC bx.toInt ∧ inC by1.toInt) ∧ dx.toInt = bx.toInt - ax.toInt ∧ dy.toInt = by1.toInt - ay.toInt
theorem sgnB {z : Int} {k : Nat} (h : bd k z) (hk : k ≤ 254) : -57896044618658097711785492504343953926634992332820282019728792003956564819968 ≤ z ∧ z < 57896044618658097711785492504343953926634992332820282019728792003956564819968 := by
  have := bd_to (bd_mono h hk) (B := 28948022309329048855892746252171976963317496166410141009864396001978282409984) (by decide)
  omega
theorem nnB {z : Int} {k : Nat} (h : bd k z) (h0 : 0 ≤ z) (hk : k ≤ 255) : 0 ≤ z ∧ z < 115792089237316195423570985008687907853269984665640564039457584007913129639936 := by
  have := bd_to (bd_mono h hk) (B := 57896044618658097711785492504343953926634992332820282019728792003956564819968) (by decide)
  omega
theorem l_sC {x y : Int64} (hx : inC x.toInt) (hy : inC y.toInt) : (x - y).toInt = x.toInt - y.toInt := l_sub (by omega) (by omega)
theorem bd_sC {x y : Int} (hx : inC x) (hy : inC y) : bd 41 (x - y) := bd_sub (bd_C hx) (bd_C hy)
theorem tn_b {ax ay bx by1 cx cy : Int} (h1 : inC ax) (h2 : inC ay) (h3 : inC bx) (h4 : inC by1) (h5 : inC cx) (h6 : inC cy) : bd 83 (tn ax ay bx by1 cx cy) := bd_sub (bd_mul (bd_sC h3 h1) (bd_sC h6 h2)) (bd_mul (bd_sC h5 h1) (bd_sC h4 h2))
section GQ
variable {ax ay bx by1 dx dy x y : Int64}
theorem cr_t (h : sgH ax ay bx by1 dx dy) (hx : inC x.toInt) (hy : inC y.toInt) : dx.toInt * (y - ay).toInt - dy.toInt * (x - ax).toInt = tn ax.toInt ay.toInt bx.toInt by1.toInt x.toInt y.toInt := by
  unfold tn
  rw [l_sC hx h.1.1, l_sC hy h.1.2.1, h.2.1, h.2.2, Int.mul_comm (by1.toInt - ay.toInt)]
theorem cr_b (h : sgH ax ay bx by1 dx dy) (hx : inC x.toInt) (hy : inC y.toInt) : -57896044618658097711785492504343953926634992332820282019728792003956564819968 ≤ tn ax.toInt ay.toInt bx.toInt by1.toInt x.toInt y.toInt ∧ tn ax.toInt ay.toInt bx.toInt by1.toInt x.toInt y.toInt < 57896044618658097711785492504343953926634992332820282019728792003956564819968 := sgnB (tn_b h.1.1 h.1.2.1 h.1.2.2.1 h.1.2.2.2 hx hy) (by decide)
theorem sg_dl (h : sgH ax ay bx by1 dx dy) : -9223372036854775808 < dy.toInt := by have := h.1; have := h.2; omega
end GQ
section SN
variable {ax ay bx by1 x y dx dy px py : Int}
theorem sn_1 (h1 : dx = bx - ax) (h2 : dy = by1 - ay) (h3 : px = x - ax) (h4 : py = y - ay) (c : px * dx + py * dy ≤ 0) : px * px + py * py = (pd ax ay bx by1 x y).1 ∧ (1 : Int) = (pd ax ay bx by1 x y).2 := pd_2 h1 h2 h3 h4 (A := px * dx + py * dy) (by rw [Int.mul_comm px]) c rfl
theorem sn_2 {qx qy : Int} (h1 : dx = bx - ax) (h2 : dy = by1 - ay) (h3 : px = x - ax) (h4 : py = y - ay) (c : ¬ px * dx + py * dy ≤ 0) (c2 : ¬ (px * dx + py * dy) - (dx * dx + dy * dy) < 0) (h5 : qx = x - bx) (h6 : qy = y - by1) : qx * qx + qy * qy = (pd ax ay bx by1 x y).1 ∧ (1 : Int) = (pd ax ay bx by1 x y).2 := by
  have hB : 0 ≤ dx * dx + dy * dy := Int.add_nonneg (sq_nn _) (sq_nn _)
  exact pd_3 h1 h2 h3 h4 (A := px * dx + py * dy) (by rw [Int.mul_comm px]) (B := dx * dx + dy * dy) rfl c (by omega) h5 h6 rfl
theorem sn_3 (h1 : dx = bx - ax) (h2 : dy = by1 - ay) (h3 : px = x - ax) (h4 : py = y - ay) (c : ¬ px * dx + py * dy ≤ 0) (c2 : (px * dx + py * dy) - (dx * dx + dy * dy) < 0) : (dx * py - dy * px) * (dx * py - dy * px) = (pd ax ay bx by1 x y).1 ∧ dx * dx + dy * dy = (pd ax ay bx by1 x y).2 := by
  have hB : 0 ≤ dx * dx + dy * dy := Int.add_nonneg (sq_nn _) (sq_nn _)
  exact pd_1 h1 h2 h3 h4 (A := px * dx + py * dy) (by rw [Int.mul_comm px]) (B := dx * dx + dy * dy) rfl c (by omega) (X := dx * py - dy * px) (by rw [Int.mul_comm dy]) rfl
theorem sn_bA (h1 : bd 41 dx) (h2 : bd 41 dy) (h3 : bd 41 px) (h4 : bd 41 py) : bd 83 (px * dx + py * dy) := bd_add (bd_mul h3 h1) (bd_mul h4 h2)
theorem sn_bB (h1 : bd 41 dx) (h2 : bd 41 dy) : bd 83 (dx * dx + dy * dy) ∧ 0 ≤ dx * dx + dy * dy := ⟨bd_add (bd_mul h1 h1) (bd_mul h2 h2), Int.add_nonneg (sq_nn _) (sq_nn _)⟩
end SN
theorem mn_T {e p : Int × Int} (c : p.1 * e.2 - p.2 * e.1 < 0) : p.1 = (mn e p).1 ∧ p.2 = (mn e p).2 := by
  unfold mn
  rw [if_pos (by rw [Int.mul_comm e.1]; omega)]
  exact ⟨rfl, rfl⟩
theorem mn_F {e p : Int × Int} (c : ¬ p.1 * e.2 - p.2 * e.1 < 0) : e.1 = (mn e p).1 ∧ e.2 = (mn e p).2 := by
  unfold mn
  rw [if_neg (by rw [Int.mul_comm e.1]; omega)]
  exact ⟨rfl, rfl⟩
/-- a fraction with its bounds, as the class goes on with it -/
abbrev frB (e1 e2 : Int) : Prop := (0 ≤ e1 ∧ 0 ≤ e2) ∧ bd 166 e1 ∧ bd 83 e2
theorem fr_0 : frB ((1, 0) : Int × Int).1 ((1, 0) : Int × Int).2 := ⟨by decide, (by decide : Int.natAbs 1 ≤ 2 ^ 166), (by decide : Int.natAbs 0 ≤ 2 ^ 83)⟩
theorem fr_mn {e p : Int × Int} (h : frB e.1 e.2) (hp : frB p.1 p.2) : frB (mn e p).1 (mn e p).2 := by
  unfold mn; split
  · exact hp
  · exact h
theorem fr_pd {ax ay bx by1 x y : Int} (h1 : inC ax) (h2 : inC ay) (h3 : inC bx) (h4 : inC by1) (h5 : inC x) (h6 : inC y) : frB (pd ax ay bx by1 x y).1 (pd ax ay bx by1 x y).2 := ⟨⟨(pd_nn ax ay bx by1 x y).1, Int.le_of_lt (pd_nn ax ay bx by1 x y).2⟩, pd_bd h1 h2 h3 h4 h5 h6⟩
theorem fr_ag {e1 e2 p1 p2 : Int} (h : frB e1 e2) (hp : frB p1 p2) : (0 ≤ p1 * e2 ∧ p1 * e2 < 115792089237316195423570985008687907853269984665640564039457584007913129639936) ∧ (0 ≤ p2 * e1 ∧ p2 * e1 < 115792089237316195423570985008687907853269984665640564039457584007913129639936) := ⟨nnB (bd_mul hp.2.1 h.2.2) (Int.mul_nonneg hp.1.1 h.1.2) (by decide), nnB (bd_mul hp.2.2 h.2.1) (Int.mul_nonneg hp.1.2 h.1.1) (by decide)⟩
/-- the least of the four, from 1 above 0 on -/
def gpM (ax ay bx by1 cx cy dx dy : Int) : Int × Int := mn (mn (mn (mn (1, 0) (pd ax ay bx by1 cx cy)) (pd ax ay bx by1 dx dy)) (pd cx cy dx dy ax ay)) (pd cx cy dx dy bx by1)
abbrev gpP (ax ay bx by1 cx cy dx dy : Int) : Prop := tn ax ay bx by1 cx cy * tn ax ay bx by1 dx dy < 0 ∧ tn cx cy dx dy ax ay * tn cx cy dx dy bx by1 < 0
/-- what the class holds of two segments -/
def gpV (ax ay bx by1 cx cy dx dy : Int) : Int × Int := if gpP ax ay bx by1 cx cy dx dy then (0, 1) else ((gpM ax ay bx by1 cx cy dx dy).1 / gc (gpM ax ay bx by1 cx cy dx dy).1 (gpM ax ay bx by1 cx cy dx dy).2, (gpM ax ay bx by1 cx cy dx dy).2 / gc (gpM ax ay bx by1 cx cy dx dy).1 (gpM ax ay bx by1 cx cy dx dy).2)
theorem gpV_t {ax ay bx by1 cx cy dx dy : Int} (h : gpP ax ay bx by1 cx cy dx dy) : 0 = (gpV ax ay bx by1 cx cy dx dy).1 ∧ 1 = (gpV ax ay bx by1 cx cy dx dy).2 := by unfold gpV; rw [if_pos h]; exact ⟨rfl, rfl⟩
theorem gpV_f {ax ay bx by1 cx cy dx dy : Int} (h : ¬ gpP ax ay bx by1 cx cy dx dy) : (gpM ax ay bx by1 cx cy dx dy).1 / gc (gpM ax ay bx by1 cx cy dx dy).1 (gpM ax ay bx by1 cx cy dx dy).2 = (gpV ax ay bx by1 cx cy dx dy).1 ∧ (gpM ax ay bx by1 cx cy dx dy).2 / gc (gpM ax ay bx by1 cx cy dx dy).1 (gpM ax ay bx by1 cx cy dx dy).2 = (gpV ax ay bx by1 cx cy dx dy).2 := by unfold gpV; rw [if_neg h]; exact ⟨rfl, rfl⟩
theorem fr_pos {e : Int × Int} {p : Int × Int} (hp : 0 < p.2) (he : 0 < e.2 ∨ e = (1, 0)) : 0 < (mn e p).2 := by
  unfold mn
  split
  · exact hp
  · rename_i h
    rcases he with h1 | h1
    · exact h1
    · rw [h1] at h
      exfalso
      apply h
      show p.1 * 0 < 1 * p.2
      omega
theorem fr_p (B : Int × Int → Prop) {e : Int × Int} (h : B e) : B (e.1, e.2) := h
/-- what commonDivisor wants -/
theorem fr_cd {e1 e2 : Int} (h : frB e1 e2) : e1 * e2 < 2 ^ 250 := by
  have h1 := bd_to (bd_mul h.2.1 h.2.2) (B := 904625697166532776746648320380374280103671755200316906558262375061821325312) (by decide)
  have e : (2 : Int) ^ 250 = 1809251394333065553493296640760748560207343510400633813116524750123642650624 := by decide
  omega
theorem fr_cb {e1 e2 : Int} (h : frB e1 e2) : (0 ≤ e1 ∧ e1 ≤ 93536104789177786765035829293842113257979682750464) ∧ (0 ≤ e2 ∧ e2 ≤ 93536104789177786765035829293842113257979682750464) := by
  have h1 := bd_to h.2.1 (B := 93536104789177786765035829293842113257979682750464) (by decide)
  have h2 := bd_to h.2.2 (B := 9671406556917033397649408) (by decide)
  have := h.1
  omega
theorem gc_le {a b : Int} (hb : 0 < b) : gc a b ≤ b := by
  unfold gc
  have : Nat.gcd a.natAbs b.natAbs ≤ b.natAbs := Nat.gcd_le_right _ (by omega)
  omega
theorem mn_ch {p1 p2 p3 p4 : Int × Int} {a1 b1 a2 b2 a3 b3 a4 b4 : Int} (h1 : a1 = (mn (1, 0) p1).1) (k1 : b1 = (mn (1, 0) p1).2) (h2 : a2 = (mn (a1, b1) p2).1) (k2 : b2 = (mn (a1, b1) p2).2) (h3 : a3 = (mn (a2, b2) p3).1) (k3 : b3 = (mn (a2, b2) p3).2) (h4 : a4 = (mn (a3, b3) p4).1) (k4 : b4 = (mn (a3, b3) p4).2) : (a4, b4) = mn (mn (mn (mn (1, 0) p1) p2) p3) p4 := by
  have e1 : (a1, b1) = mn (1, 0) p1 := by rw [h1, k1]
  have e2 : (a2, b2) = mn (mn (1, 0) p1) p2 := by rw [h2, k2, e1]
  have e3 : (a3, b3) = mn (mn (mn (1, 0) p1) p2) p3 := by rw [h3, k3, e2]
  rw [h4, k4, e3]
theorem gpV_c {ax ay bx by1 cx cy dx dy a1 b1 a2 b2 a3 b3 a4 b4 : Int} (hn : ¬ gpP ax ay bx by1 cx cy dx dy) (h1 : a1 = (mn (1, 0) (pd ax ay bx by1 cx cy)).1) (k1 : b1 = (mn (1, 0) (pd ax ay bx by1 cx cy)).2) (h2 : a2 = (mn (a1, b1) (pd ax ay bx by1 dx dy)).1) (k2 : b2 = (mn (a1, b1) (pd ax ay bx by1 dx dy)).2) (h3 : a3 = (mn (a2, b2) (pd cx cy dx dy ax ay)).1) (k3 : b3 = (mn (a2, b2) (pd cx cy dx dy ax ay)).2) (h4 : a4 = (mn (a3, b3) (pd cx cy dx dy bx by1)).1) (k4 : b4 = (mn (a3, b3) (pd cx cy dx dy bx by1)).2) : a4 / gc a4 b4 = (gpV ax ay bx by1 cx cy dx dy).1 ∧ b4 / gc a4 b4 = (gpV ax ay bx by1 cx cy dx dy).2 := by
  have e : (a4, b4) = gpM ax ay bx by1 cx cy dx dy := mn_ch h1 k1 h2 k2 h3 k3 h4 k4
  have f := gpV_f hn
  rw [← e] at f
  exact f
theorem fr_st {e p : Int × Int} {a b : Int} (h : frB e.1 e.2) (hp : frB p.1 p.2) (ha : a = (mn e p).1) (hb : b = (mn e p).2) : frB a b := by
  rw [ha, hb]; exact fr_mn h hp
theorem fr_ps {e p : Int × Int} {b : Int} (hp : 0 < p.2) (he : 0 < e.2 ∨ e = (1, 0)) (hb : b = (mn e p).2) : 0 < b := by
  rw [hb]; exact fr_pos hp he
/-! the same numbers, not as parts of pairs: so that nothing looks into them -/
def pdA (ax ay bx by1 x y : Int) : Int := (pd ax ay bx by1 x y).1
def pdB (ax ay bx by1 x y : Int) : Int := (pd ax ay bx by1 x y).2
def mnA (e p : Int × Int) : Int := (mn e p).1
def mnB (e p : Int × Int) : Int := (mn e p).2
def gpA (ax ay bx by1 cx cy dx dy : Int) : Int := (gpV ax ay bx by1 cx cy dx dy).1
def gpB (ax ay bx by1 cx cy dx dy : Int) : Int := (gpV ax ay bx by1 cx cy dx dy).2
section PAB
variable {ax ay bx by1 cx cy x y dx dy px py : Int}
theorem qn_1 (h1 : dx = bx - ax) (h2 : dy = by1 - ay) (h3 : px = x - ax) (h4 : py = y - ay) (c : px * dx + py * dy ≤ 0) : px * px + py * py = pdA ax ay bx by1 x y ∧ (1 : Int) = pdB ax ay bx by1 x y := sn_1 h1 h2 h3 h4 c
theorem qn_2 {qx qy : Int} (h1 : dx = bx - ax) (h2 : dy = by1 - ay) (h3 : px = x - ax) (h4 : py = y - ay) (c : ¬ px * dx + py * dy ≤ 0) (c2 : ¬ (px * dx + py * dy) - (dx * dx + dy * dy) < 0) (h5 : qx = x - bx) (h6 : qy = y - by1) : qx * qx + qy * qy = pdA ax ay bx by1 x y ∧ (1 : Int) = pdB ax ay bx by1 x y := sn_2 h1 h2 h3 h4 c c2 h5 h6
theorem qn_3 (h1 : dx = bx - ax) (h2 : dy = by1 - ay) (h3 : px = x - ax) (h4 : py = y - ay) (c : ¬ px * dx + py * dy ≤ 0) (c2 : (px * dx + py * dy) - (dx * dx + dy * dy) < 0) : (dx * py - dy * px) * (dx * py - dy * px) = pdA ax ay bx by1 x y ∧ dx * dx + dy * dy = pdB ax ay bx by1 x y := sn_3 h1 h2 h3 h4 c c2
theorem qr_pd (h1 : inC ax) (h2 : inC ay) (h3 : inC bx) (h4 : inC by1) (h5 : inC x) (h6 : inC y) : frB (pdA ax ay bx by1 x y) (pdB ax ay bx by1 x y) := fr_pd h1 h2 h3 h4 h5 h6
theorem qm_T {e : Int × Int} (c : pdA ax ay bx by1 x y * e.2 - pdB ax ay bx by1 x y * e.1 < 0) : pdA ax ay bx by1 x y = mnA e (pd ax ay bx by1 x y) ∧ pdB ax ay bx by1 x y = mnB e (pd ax ay bx by1 x y) := mn_T c
theorem qm_F {e : Int × Int} (c : ¬ pdA ax ay bx by1 x y * e.2 - pdB ax ay bx by1 x y * e.1 < 0) : e.1 = mnA e (pd ax ay bx by1 x y) ∧ e.2 = mnB e (pd ax ay bx by1 x y) := mn_F c
theorem qr_st {e : Int × Int} {a b : Int} (h : frB e.1 e.2) (hp : frB (pdA ax ay bx by1 x y) (pdB ax ay bx by1 x y)) (ha : a = mnA e (pd ax ay bx by1 x y)) (hb : b = mnB e (pd ax ay bx by1 x y)) : frB a b := fr_st h hp ha hb
theorem qr_ps {e : Int × Int} {b : Int} (he : 0 < e.2 ∨ e = (1, 0)) (hb : b = mnB e (pd ax ay bx by1 x y)) : 0 < b := fr_ps (pd_nn ax ay bx by1 x y).2 he hb
theorem qV_t {cx cy : Int} (h : gpP ax ay bx by1 cx cy dx dy) : 0 = gpA ax ay bx by1 cx cy dx dy ∧ 1 = gpB ax ay bx by1 cx cy dx dy := gpV_t h
theorem qV_c {cx cy a1 b1 a2 b2 a3 b3 a4 b4 : Int} (hn : ¬ gpP ax ay bx by1 cx cy dx dy) (h1 : a1 = mnA (1, 0) (pd ax ay bx by1 cx cy)) (k1 : b1 = mnB (1, 0) (pd ax ay bx by1 cx cy)) (h2 : a2 = mnA (a1, b1) (pd ax ay bx by1 dx dy)) (k2 : b2 = mnB (a1, b1) (pd ax ay bx by1 dx dy)) (h3 : a3 = mnA (a2, b2) (pd cx cy dx dy ax ay)) (k3 : b3 = mnB (a2, b2) (pd cx cy dx dy ax ay)) (h4 : a4 = mnA (a3, b3) (pd cx cy dx dy bx by1)) (k4 : b4 = mnB (a3, b3) (pd cx cy dx dy bx by1)) : a4 / gc a4 b4 = gpA ax ay bx by1 cx cy dx dy ∧ b4 / gc a4 b4 = gpB ax ay bx by1 cx cy dx dy := gpV_c hn h1 k1 h2 k2 h3 k3 h4 k4
end PAB
