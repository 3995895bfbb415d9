/-! the reference's numbers: digits in base 2^16, twenty of them, sixteen registers -/
def eP (i : Nat) : Int := 65536 ^ i
theorem eP_0 : eP 0 = 1 := rfl
theorem eP_s (i : Nat) : eP (i + 1) = eP i * 65536 := Int.pow_succ _ _
theorem eP_pos (i : Nat) : 0 < eP i := Int.pow_pos (by decide)
theorem eP_add (i j : Nat) : eP (i + j) = eP i * eP j := Int.pow_add _ _ _
theorem eP_20 : eP 20 = 2135987035920910082395021706169552114602704522356652769947041607822219725780640550022962086936576 := rfl
def eg (z : Int) (i : Nat) : Int32 := Int32.ofInt (z / eP i % 65536)
theorem eg_T (z : Int) (i : Nat) : (eg z i).toInt = z / eP i % 65536 := Int32.toInt_ofInt_of_le (by omega) (by omega)
theorem eg_rng (z : Int) (i : Nat) : 0 ≤ (eg z i).toInt ∧ (eg z i).toInt < 65536 := by rw [eg_T]; omega
theorem eg_eq {x : Int32} {z : Int} {i : Nat} (h : x.toInt = z / eP i % 65536) : x = eg z i := i_eq (h.trans (eg_T z i).symm)
theorem eP_div (q : Int) (i : Nat) : q / eP i / 65536 = q / eP (i + 1) := by rw [eP_s, Int.ediv_ediv_of_nonneg (Int.le_of_lt (eP_pos i))]
theorem eP_div2 (q : Int) (i j : Nat) : q / eP i / eP j = q / eP (i + j) := by rw [eP_add, Int.ediv_ediv_of_nonneg (Int.le_of_lt (eP_pos i))]
/-- the registers' row -/
def zA (zs : List Int) (r : Nat) : Int := ((zs.getD r 0).natAbs : Int)
def rg (zs : List Int) (k : Nat) : Int32 := eg (zA zs (k / 20)) (k % 20)
theorem rg_at (zs : List Int) {r i : Nat} (hi : i < 20) : rg zs (20 * r + i) = eg (zA zs r) i := by
  unfold rg
  rw [show (20 * r + i) / 20 = r by omega, show (20 * r + i) % 20 = i by omega]
theorem zA_nn (zs : List Int) (r : Nat) : 0 ≤ zA zs r := by unfold zA; omega
theorem zA_set {zs : List Int} {d : Nat} (v : Int) (h : d < zs.length) : zA (zs.set d v) d = (v.natAbs : Int) := by
  unfold zA; simp [List.getD, h]
theorem zA_ne {zs : List Int} {d r : Nat} (v : Int) (h : r ≠ d) : zA (zs.set d v) r = zA zs r := by
  unfold zA; simp [List.getD, List.getElem?_set_ne (Ne.symm h)]
theorem rg_set {zs : List Int} {d : Nat} {v : Int} {g : Nat → Int32} (hl : zs.length = 16) (hd : d < 16) (h1 : ∀ j, j < 20 → g (20 * d + j) = eg (v.natAbs : Int) j) (h2 : ∀ k, k < 320 → k / 20 ≠ d → g k = rg zs k) : ∀ k, k < 320 → g k = rg (zs.set d v) k := by
  intro k hk
  by_cases e : k / 20 = d
  · have h3 := h1 (k % 20) (by omega)
    rw [show 20 * d + k % 20 = k by omega] at h3
    rw [h3]
    unfold rg
    rw [e, zA_set v (by omega)]
  · rw [h2 k hk e]
    unfold rg
    rw [zA_ne v e]
theorem ix20 {r t : Int32} {d i : Nat} (hr : r.toInt = d) (ht : t.toInt = i) (hd : d < 16) (hi : i < 20) : (20 * r + t).toInt = ((20 * d + i : Nat) : Int) := by
  have e : (20 * r).toInt = 20 * d := by rw [i_mul] <;> rw [hr, iT20] <;> omega
  rw [i_add] <;> rw [e, ht] <;> omega
theorem r_step {d i : Nat} {g : Nat → Int32} {w : Nat → Int32} {x : Int32} (h : ∀ j, j < i → g (20 * d + j) = w j) (hx : x = w i) : ∀ j, j < i + 1 → upd g (20 * d + i) x (20 * d + j) = w j := by
  intro j hj
  by_cases e : j = i
  · rw [e, pk_us, hx]
  · rw [pk_un (by omega), h j (by omega)]
theorem r_rest {d i : Nat} {g o : Nat → Int32} {x : Int32} (hi : i < 20) (h : ∀ k, k < 320 → k / 20 ≠ d → g k = o k) : ∀ k, k < 320 → k / 20 ≠ d → upd g (20 * d + i) x k = o k := fun k hk hn => by rw [pk_un (by omega), h k hk hn]
theorem r_tail {d i : Nat} {g o : Nat → Int32} {x : Int32} (h : ∀ j, i ≤ j → j < 20 → g (20 * d + j) = o j) : ∀ j, i + 1 ≤ j → j < 20 → upd g (20 * d + i) x (20 * d + j) = o j := fun j hj h2 => by rw [pk_un (by omega), h j (by omega) h2]
/-- a sign's word and its number -/
def ok1 (s : Int32) (z : Int) : Prop := (s = 0 ∧ 0 ≤ z) ∨ (s = 1 ∧ z ≤ 0)
def okS (zs : List Int) (s : Nat → Int32) : Prop := ∀ r, r < 16 → ok1 (s r) (zs.getD r 0)
theorem okS_set {zs : List Int} {s : Nat → Int32} {d : Nat} {v : Int} {b : Int32} (hl : zs.length = 16) (hd : d < 16) (h : okS zs s) (hb : ok1 b v) : okS (zs.set d v) (upd s d b) := by
  intro r hr
  by_cases e : r = d
  · subst e
    rw [pk_us]
    simp [List.getD, hl, hr]
    exact hb
  · rw [pk_un e]
    have := h r hr
    simpa [List.getD, List.getElem?_set_ne (Ne.symm e)] using this
theorem ok1_01 {s : Int32} {z : Int} (h : ok1 s z) : s = 0 ∨ s = 1 := by rcases h with h | h; exact Or.inl h.1; exact Or.inr h.1
/-! load -/
theorem ld_abs {v x : Int64} (h : (v.toInt < 0 ∧ x = 0 - v) ∨ (0 ≤ v.toInt ∧ x = v)) : uN x = v.toInt.natAbs := by
  have hr := l_rng v
  rcases h with ⟨h, e⟩ | ⟨h, e⟩
  · have h1 := uN_mod x
    have h2 : x.toInt = (0 - v.toInt).bmod (2 ^ 64) := by rw [e, Int64.toInt_sub, lT0]
    rw [h2, Int.bmod_def] at h1
    split at h1 <;> omega
  · have h1 := uN_mod x
    rw [e] at h1 ⊢
    omega
theorem l_65535 (x : Int64) : (x &&& 65535).toInt = x.toInt % 65536 := by
  have h : uN (x &&& 65535) = uN x % 65536 := by
    show (x.toUInt64 &&& Int64.toUInt64 65535).toNat = _
    rw [UInt64.toNat_and]
    exact Nat.and_two_pow_sub_one_eq_mod _ 16
  have h1 := uN_mod x
  rw [uN_of h (by omega)]
  omega
theorem l_toI {x : Int64} (h : -2147483648 ≤ x.toInt ∧ x.toInt < 2147483648) : x.toInt32.toInt = x.toInt := by
  rw [Int64.toInt_toInt32]; exact n_bm32 h.1 h.2
theorem i_toL (x : Int32) : x.toInt64.toInt = x.toInt := Int32.toInt_toInt64 x
theorem ld_dig {v x w : Int64} {t : Int32} {i : Nat} (hx : uN x = v.toInt.natAbs) (ht : t.toInt = i) (hi : i < 4) (h : (x.toUInt64 >>> ((16 * t).toInt64.toUInt64 &&& Int64.toUInt64 63)).toInt64 = w) : (w &&& 65535).toInt32 = eg (v.toInt.natAbs : Int) i := by
  have e : (16 * t) = nI (16 * i) := by
    apply i_nI _ (by omega)
    rw [i_mul] <;> rw [ht, iT16] <;> omega
  rw [e] at h
  have h1 : uN w = uN x / 2 ^ (16 * i) := by rw [← h, uN_sk _ (by omega)]
  have h2 := uN_mod w
  refine eg_eq ?_
  rw [l_toI (by rw [l_65535]; omega), l_65535]
  have h3 : (uN w : Int) = (v.toInt.natAbs : Int) / eP i := by
    rw [h1, hx, Nat.pow_mul]
    show (((v.toInt.natAbs) / (2 ^ 16) ^ i : Nat) : Int) = _
    rw [Int.natCast_ediv]; congr 1
  omega
theorem ld_zero {v : Int} {i : Nat} (hv : v.natAbs < 18446744073709551616) (hi : 4 ≤ i) : (0 : Int32) = eg (v.natAbs : Int) i := by
  refine eg_eq ?_
  have : (v.natAbs : Int) / eP i = 0 := by
    apply Int.ediv_eq_zero_of_lt (by omega)
    obtain ⟨m, rfl⟩ : ∃ m, i = 4 + m := ⟨i - 4, by omega⟩
    have h4 : eP 4 = 18446744073709551616 := rfl
    have h5 := eP_pos m
    have h6 : eP 4 * 1 ≤ eP 4 * eP m := Int.mul_le_mul_of_nonneg_left h5 (by decide)
    rw [eP_add]; omega
  rw [this]; rfl
/-! sign, sizes -/
theorem es_next {z : Int} {i : Nat} {v : Int32} (h : z % eP i = 0) (hv : v = eg z i) (h0 : v.toInt = 0) : z % eP (i + 1) = 0 := by
  rw [hv, eg_T] at h0
  rw [eP_s, d_mod z (eP_pos i) (by decide), h, h0, Int.mul_zero]; rfl
theorem es_nz {z : Int} {i : Nat} {v : Int32} (hv : v = eg z i) (h0 : ¬ v.toInt = 0) : z ≠ 0 := by
  intro e
  rw [hv, eg_T, e, Int.zero_ediv] at h0
  exact h0 rfl
theorem ea_eq {x y : Int} {k : Nat} {a b : Int32} (he : x / eP (k + 1) = y / eP (k + 1)) (ha : a = eg x k) (hb : b = eg y k) (h : a.toInt = b.toInt) : x / eP k = y / eP k := by
  rw [ha, hb, eg_T, eg_T] at h
  rw [← eP_div, ← eP_div] at he
  omega
theorem ea_lt {x y : Int} {k : Nat} {a b : Int32} (he : x / eP (k + 1) = y / eP (k + 1)) (ha : a = eg x k) (hb : b = eg y k) (h : a.toInt < b.toInt) : x < y := by
  rw [ha, hb, eg_T, eg_T] at h
  rw [← eP_div, ← eP_div] at he
  have h3 : x / eP k < y / eP k := by omega
  have h4 := Int.mul_ediv_add_emod x (eP k)
  have h5 := Int.mul_ediv_add_emod y (eP k)
  have h6 := d_rng x (eP_pos k)
  have h7 := d_rng y (eP_pos k)
  have h8 : eP k * (x / eP k + 1) ≤ eP k * (y / eP k) := Int.mul_le_mul_of_nonneg_left h3 (Int.le_of_lt (eP_pos k))
  rw [Int.mul_add, Int.mul_one] at h8
  omega
/-! sums, differences -/
theorem i_and16 (x : Int32) : (x &&& 65535).toInt = x.toInt % 65536 := by
  have h1 := pk_and x (m := 65535) 16 rfl
  rw [h1, nI_T (by omega)]
  have h2 : x.toInt = if 2 * x.toBitVec.toNat < 4294967296 then (x.toBitVec.toNat : Int) else (x.toBitVec.toNat : Int) - 4294967296 := BitVec.toInt_eq_toNat_cond _
  split at h2 <;> omega
theorem i_sh16 (x : Int32) : (x >>> ((16 : Int32) &&& 31)).toInt = x.toInt / 65536 := by
  rw [pk_shr x _ 16 (by decide), Int.shiftRight_eq_div_pow]; rfl
theorem ej_dig {x y : Int} {i : Nat} {a b r s : Int32} (ha : a = eg x i) (hb : b = eg y i) (hr : r.toInt = (x % eP i + y % eP i) / eP i) (hs : s = a + b + r) : s.toInt = x / eP i % 65536 + y / eP i % 65536 + (x % eP i + y % eP i) / eP i := by
  have h1 := d_c2 x y (eP_pos i)
  have h2 := eg_T x i
  have h3 := eg_T y i
  have e1 : (a + b).toInt = a.toInt + b.toInt := by rw [i_add] <;> rw [ha, hb] <;> omega
  rw [hs, i_add] <;> rw [e1, ha, hb] <;> omega
theorem ej_d {x y : Int} {i : Nat} {a b r s : Int32} (ha : a = eg x i) (hb : b = eg y i) (hr : r.toInt = (x % eP i + y % eP i) / eP i) (hs : s = a + b + r) : s &&& 65535 = eg (x + y) i := by
  refine eg_eq ?_
  rw [i_and16, ej_dig ha hb hr hs, d_add x y (eP_pos i)]
  omega
theorem ej_c {x y : Int} {i : Nat} {a b r s r' : Int32} (ha : a = eg x i) (hb : b = eg y i) (hr : r.toInt = (x % eP i + y % eP i) / eP i) (hs : s = a + b + r) (h' : r' = s >>> ((16 : Int32) &&& 31)) : r'.toInt = (x % eP (i + 1) + y % eP (i + 1)) / eP (i + 1) := by
  have h2 := ej_dig ha hb hr hs
  rw [h', i_sh16, eP_s, d_carry x y (eP_pos i) (by decide), ← h2]
theorem ek_dig {x y : Int} {i : Nat} {a b r s : Int32} (ha : a = eg x i) (hb : b = eg y i) (hr : r.toInt = -((x % eP i - y % eP i) / eP i)) (hs : s = a - b - r) : s.toInt = x / eP i % 65536 - y / eP i % 65536 + (x % eP i - y % eP i) / eP i := by
  have h1 := d_cs x y (eP_pos i)
  have h2 := eg_T x i
  have h3 := eg_T y i
  have e1 : (a - b).toInt = a.toInt - b.toInt := by rw [i_sub] <;> rw [ha, hb] <;> omega
  rw [hs, i_sub] <;> rw [e1, ha, hb] <;> omega
theorem ek_d {x y : Int} {i : Nat} {a b r s : Int32} (ha : a = eg x i) (hb : b = eg y i) (hr : r.toInt = -((x % eP i - y % eP i) / eP i)) (hs : s = a - b - r) : s &&& 65535 = eg (x - y) i := by
  refine eg_eq ?_
  rw [i_and16, ek_dig ha hb hr hs, d_sub x y (eP_pos i)]
  omega
theorem ek_c {x y : Int} {i : Nat} {a b r s r' : Int32} (ha : a = eg x i) (hb : b = eg y i) (hr : r.toInt = -((x % eP i - y % eP i) / eP i)) (hs : s = a - b - r) (h' : (s.toInt < 0 ∧ r'.toInt = 1) ∨ (0 ≤ s.toInt ∧ r'.toInt = 0)) : r'.toInt = -((x % eP (i + 1) - y % eP (i + 1)) / eP (i + 1)) := by
  have h1 := d_cs x y (eP_pos i)
  have h2 := ek_dig ha hb hr hs
  have e : (x % eP (i + 1) - y % eP (i + 1)) / eP (i + 1) = s.toInt / 65536 := by
    rw [h2, eP_s, d_mod x (eP_pos i) (by decide), d_mod y (eP_pos i) (by decide)]
    have h3 : x % eP i + eP i * (x / eP i % 65536) - (y % eP i + eP i * (y / eP i % 65536)) = (x % eP i - y % eP i) + eP i * (x / eP i % 65536 - y / eP i % 65536) := by rw [Int.mul_sub]; omega
    rw [h3, d_hi _ _ (eP_pos i)]
    congr 1; omega
  rw [e]; omega
theorem ed_dig {x : Int} {i : Nat} {a r s b0 : Int32} (ha : a = eg x i) (hb : b0.toInt = 0 ∨ b0.toInt = 1) (hr : r.toInt = (2 * (x % eP i) + b0.toInt) / eP i) (hs : s = 2 * a + r) : s.toInt = 2 * (x / eP i % 65536) + (2 * (x % eP i) + b0.toInt) / eP i := by
  have h1 := d_rng x (eP_pos i)
  have h2 := eg_T x i
  have h4 : 0 ≤ (2 * (x % eP i) + b0.toInt) / eP i := d_ge (eP_pos i) (by omega)
  have h5 : (2 * (x % eP i) + b0.toInt) / eP i < 2 := d_le (eP_pos i) (by omega)
  have e1 : (2 * a).toInt = 2 * a.toInt := by rw [i_mul] <;> rw [ha, iT2] <;> omega
  rw [hs, i_add] <;> rw [e1, ha] <;> omega
theorem ed_hi (x b0 : Int) {B : Int} (hB : 0 < B) : (2 * x + b0) / B = 2 * (x / B) + (2 * (x % B) + b0) / B := by
  have h1 := Int.mul_ediv_add_emod x B
  have h3 : 2 * x + b0 = (2 * (x % B) + b0) + B * (2 * (x / B)) := by grind
  have h4 := d_lo (2 * (x % B) + b0) (2 * (x / B)) hB
  rw [← h3] at h4
  omega
theorem ed_d {x : Int} {i : Nat} {a r s b0 : Int32} (ha : a = eg x i) (hb : b0.toInt = 0 ∨ b0.toInt = 1) (hr : r.toInt = (2 * (x % eP i) + b0.toInt) / eP i) (hs : s = 2 * a + r) : s &&& 65535 = eg (2 * x + b0.toInt) i := by
  refine eg_eq ?_
  rw [i_and16, ed_dig ha hb hr hs, ed_hi x b0.toInt (eP_pos i)]
  omega
theorem ed_c {x : Int} {i : Nat} {a r s b0 r' : Int32} (ha : a = eg x i) (hb : b0.toInt = 0 ∨ b0.toInt = 1) (hr : r.toInt = (2 * (x % eP i) + b0.toInt) / eP i) (hs : s = 2 * a + r) (h' : r' = s >>> ((16 : Int32) &&& 31)) : r'.toInt = (2 * (x % eP (i + 1)) + b0.toInt) / eP (i + 1) := by
  have h2 := ed_dig ha hb hr hs
  rw [h', i_sh16, h2, eP_s, d_mod x (eP_pos i) (by decide)]
  have h3 : 2 * (x % eP i + eP i * (x / eP i % 65536)) + b0.toInt = (2 * (x % eP i) + b0.toInt) + eP i * (2 * (x / eP i % 65536)) := by grind
  rw [h3, d_hi _ _ (eP_pos i)]
  congr 1; omega
/-! products -/
theorem eu_cr (t c y : Int) {B : Int} (hB : 0 < B) (hc : 0 ≤ c ∧ c < 65536) : 0 ≤ (t % B + c * (y % B)) / B ∧ (t % B + c * (y % B)) / B < 65536 := by
  have h1 := d_rng t hB
  have h2 := d_rng y hB
  have h3 : c * (y % B) ≤ 65535 * (y % B) := Int.mul_le_mul_of_nonneg_right (by omega) h2.1
  have h4 : 0 ≤ c * (y % B) := Int.mul_nonneg hc.1 h2.1
  exact ⟨d_ge hB (by omega), d_le hB (by omega)⟩
theorem eu_nx (t c y : Int) {B : Int} (hB : 0 < B) : (t % (B * 65536) + c * (y % (B * 65536))) / (B * 65536) = (t / B % 65536 + c * (y / B % 65536) + (t % B + c * (y % B)) / B) / 65536 := by
  rw [d_mod t hB (by decide), d_mod y hB (by decide)]
  have h3 : t % B + B * (t / B % 65536) + c * (y % B + B * (y / B % 65536)) = (t % B + c * (y % B)) + B * (t / B % 65536 + c * (y / B % 65536)) := by grind
  rw [h3, d_hi _ _ hB]
  congr 1
  omega
theorem eu_val {t c y : Int} {j : Nat} {lm yj gk : Int32} {r s : Int64} (hc : 0 ≤ c ∧ c < 65536) (hl : lm.toInt = c) (hy : yj = eg y j) (hg : gk.toInt = t / eP j % 65536) (hr : r.toInt = (t % eP j + c * (y % eP j)) / eP j) (hs : s = gk.toInt64 + lm.toInt64 * yj.toInt64 + r) : s.toInt = t / eP j % 65536 + c * (y / eP j % 65536) + (t % eP j + c * (y % eP j)) / eP j := by
  have h1 := eu_cr t c y (eP_pos j) hc
  have h2 := eg_T y j
  rw [← hy] at h2
  have m1 := @mb c (y / eP j % 65536) 65535 65535 (by omega) (by omega)
  have e : (lm.toInt64 * yj.toInt64).toInt = c * (y / eP j % 65536) := by rw [l_mul] <;> rw [i_toL, i_toL, hl, h2] <;> omega
  have e2 : (gk.toInt64 + lm.toInt64 * yj.toInt64).toInt = t / eP j % 65536 + c * (y / eP j % 65536) := by rw [l_add] <;> rw [i_toL, e, hg] <;> omega
  rw [hs, l_add] <;> rw [e2, hr] <;> omega
theorem eu_d {t c y : Int} {j : Nat} {lm yj gk : Int32} {r s : Int64} (hc : 0 ≤ c ∧ c < 65536) (hl : lm.toInt = c) (hy : yj = eg y j) (hg : gk.toInt = t / eP j % 65536) (hr : r.toInt = (t % eP j + c * (y % eP j)) / eP j) (hs : s = gk.toInt64 + lm.toInt64 * yj.toInt64 + r) : ((s &&& 65535).toInt32).toInt = (t + c * y) / eP j % 65536 := by
  have h1 := eu_val hc hl hy hg hr hs
  rw [l_toI (by rw [l_65535]; omega), l_65535, mul_hi t c y (eP_pos j)]
  have h2 : c * (y / eP j) % 65536 = c * (y / eP j % 65536) % 65536 := by rw [Int.mul_emod, Int.mul_emod c (y / eP j % 65536), Int.emod_emod_of_dvd _ (Int.dvd_refl _)]
  omega
theorem eu_c {t c y : Int} {j : Nat} {lm yj gk : Int32} {r s r' : Int64} (hc : 0 ≤ c ∧ c < 65536) (hl : lm.toInt = c) (hy : yj = eg y j) (hg : gk.toInt = t / eP j % 65536) (hr : r.toInt = (t % eP j + c * (y % eP j)) / eP j) (hs : s = gk.toInt64 + lm.toInt64 * yj.toInt64 + r) (h' : s >>> ((16 : Int32).toInt64 &&& 63) = r') : r'.toInt = (t % eP (j + 1) + c * (y % eP (j + 1))) / eP (j + 1) := by
  have h1 := eu_val hc hl hy hg hr hs
  have h2 := l_ss 16 (by decide) h'
  rw [h2, h1, eP_s, eu_nx t c y (eP_pos j)]
  rfl
theorem em_v1 {x y : Int} (i : Nat) : x % eP (i + 1) * y = x % eP i * y + eP i * (x / eP i % 65536 * y) := by
  rw [eP_s, d_mod x (eP_pos i) (by decide)]; grind
theorem em_hi (v z : Int) (i j : Nat) : (v + eP i * z) / eP (i + j) = (v / eP i + z) / eP j := by
  rw [eP_add, d_hi _ _ (eP_pos i)]
theorem em_lo (v z : Int) {i k : Nat} (h : k < i) : eg (v + eP i * z) k = eg v k := by
  refine (eg_eq ?_).symm
  rw [eg_T]
  obtain ⟨m, rfl⟩ : ∃ m, i = k + (m + 1) := ⟨i - k - 1, by omega⟩
  have e : v + eP (k + (m + 1)) * z = v + eP k * (65536 * (eP m * z)) := by rw [eP_add, eP_s]; grind
  rw [e, d_lo _ _ (eP_pos k)]
  omega
theorem em_dig {x y : Int} {i j : Nat} {lm yj gk : Int32} {r s : Int64} (hl : lm = eg x i) (hy : yj = eg y j) (hg : gk = eg (x % eP i * y) (i + j)) (hr : r.toInt = (x % eP i * y / eP i % eP j + x / eP i % 65536 * (y % eP j)) / eP j) (hs : s = gk.toInt64 + lm.toInt64 * yj.toInt64 + r) : (s &&& 65535).toInt32 = eg (x % eP (i + 1) * y) (i + j) := by
  rw [em_v1]
  refine eg_eq ?_
  rw [em_hi]
  exact eu_d (by omega) (by rw [hl, eg_T]) hy (by rw [hg, eg_T, eP_div2]) hr hs
theorem em_car {x y : Int} {i j : Nat} {lm yj gk : Int32} {r s r' : Int64} (hl : lm = eg x i) (hy : yj = eg y j) (hg : gk = eg (x % eP i * y) (i + j)) (hr : r.toInt = (x % eP i * y / eP i % eP j + x / eP i % 65536 * (y % eP j)) / eP j) (hs : s = gk.toInt64 + lm.toInt64 * yj.toInt64 + r) (h' : s >>> ((16 : Int32).toInt64 &&& 63) = r') : r'.toInt = (x % eP i * y / eP i % eP (j + 1) + x / eP i % 65536 * (y % eP (j + 1))) / eP (j + 1) := eu_c (by omega) (by rw [hl, eg_T]) hy (by rw [hg, eg_T, eP_div2]) hr hs h'
theorem em_end {x y : Int} {d i j : Nat} {g : Nat → Int32} (h1 : ∀ k, k < i + j → g (20 * d + k) = eg (x % eP (i + 1) * y) k) (h : 20 ≤ i + j) : ∀ k, k < 20 → g (20 * d + k) = eg (x % eP (i + 1) * y) k := fun k hk => h1 k (by omega)
theorem em_skip {x y : Int} {d i : Nat} {g : Nat → Int32} {v : Int32} (h : ∀ k, k < 20 → g (20 * d + k) = eg (x % eP i * y) k) (hv : v = eg x i) (h0 : v.toInt = 0) : ∀ k, k < 20 → g (20 * d + k) = eg (x % eP (i + 1) * y) k := by
  intro k hk
  rw [hv, eg_T] at h0
  rw [h k hk, em_v1, h0, Int.zero_mul, Int.mul_zero, Int.add_zero]
theorem em_beg {x y : Int} {d i : Nat} {g : Nat → Int32} (h : ∀ k, k < 20 → g (20 * d + k) = eg (x % eP i * y) k) (hi : i < 20) : ∀ k, k < i + 0 → g (20 * d + k) = eg (x % eP (i + 1) * y) k := by
  intro k hk
  rw [h k (by omega), em_v1, em_lo _ _ (by omega)]
theorem em_r0 {x y : Int} {i : Nat} : (0 : Int64).toInt = (x % eP i * y / eP i % eP 0 + x / eP i % 65536 * (y % eP 0)) / eP 0 := by
  rw [eP_0, lT0, Int.emod_one, Int.emod_one, Int.mul_zero]; rfl
theorem em_st2 {d i j : Nat} {g o : Nat → Int32} {x : Int32} (h2 : ∀ k, i + j ≤ k → k < 20 → g (20 * d + k) = o k) : ∀ k, i + (j + 1) ≤ k → k < 20 → upd g (20 * d + (i + j)) x (20 * d + k) = o k := fun k hk h8 => by rw [pk_un (by omega), h2 k (by omega) h8]
theorem em_st1 {d i j : Nat} {g w : Nat → Int32} {x : Int32} (h1 : ∀ k, k < i + j → g (20 * d + k) = w k) (hx : x = w (i + j)) : ∀ k, k < i + (j + 1) → upd g (20 * d + (i + j)) x (20 * d + k) = w k := r_step h1 hx
theorem em_fin {x y : Int} : ∀ k, k < 20 → eg (x % eP 20 * y) k = eg (x * y) k := by
  intro k hk
  have e : x * y = x % eP 20 * y + eP 20 * (x / eP 20 * y) := by
    have := Int.mul_ediv_add_emod x (eP 20)
    grind
  rw [e, em_lo _ _ hk]
theorem ix20b {r t u : Int32} {d i j : Nat} (hr : r.toInt = d) (ht : t.toInt = i) (hu : u.toInt = j) (hd : d < 16) (hi : i + j < 20) : (20 * r + t + u).toInt = ((20 * d + (i + j) : Nat) : Int) := by
  have e := ix20 hr ht hd (by omega : i < 20)
  rw [i_add] <;> rw [e, hu] <;> omega
