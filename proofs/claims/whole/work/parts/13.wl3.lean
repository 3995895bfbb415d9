/-! System.arraycopy of eight longs -/
section CP
variable {p : Program} {l : Launch} {e : Env} {R : Room} {s : State} {m : MethodId} {args : Array Value} {below : List Frame} {meth : Method} {c : Code} {Q : State → Prop} {cc : ByteArray} {n : Nat} {own : String} {Ts : List Cond} {G : jG} {A : Nat → Prop} {kc ks pc : Nat} {L : List (Nat × Value)} {st : List Value} {ws : va_W}
theorem j_copy8 {a a0 index : Nat} {f g : Nat → Int64} {ws' : va_W} (X : jX p s m args c cc n own Ts G A) (hd : decode cc pc = .ok (.invokestatic index, 3)) (h1 : Cond.methodLink own index arraycopyName ∈ Ts) (h2 : Cond.native arraycopyName ∈ Ts) (h3 : Cond.static arraycopyName ∈ Ts) (h4 : Cond.initialized "java/lang/System" ∈ Ts) (q0 q1 : Nat) (ha0 : ws[q0]? = some (a0, aJ G 8 f)) (ha1 : ws[q1]? = some (a, aJ G 8 g)) (hf : 1 ≤ R.frames) (hlo : (st.map fun v => v.category).sum + (nativeFrameWords "java/lang/System" "arraycopy" 5 + 11) ≤ R.locals) (hw : ws.set q1 (a, aJ G 8 f) = ws')
    (k : J p l e R s m args below meth c Q G A n kc ks (pc + 3) L st ws') : J p l e R s m args below meth c Q G A n kc ks pc L (.int 8 :: .int 0 :: .ref a :: .int 0 :: .ref a0 :: st) ws := by
  subst hw
  refine fun H locs ls hl hP hD hS => va_copyl (D := G.1) X.exec X.bytes (X.locals.trans hl.1.symm) X.self (X.hts _ h1) (X.hts _ h2) (X.hts _ h3) (X.hts _ h4) X.K hP hD hS q0 q1 1 1 ha0 ha1 rfl rfl rfl (by decide) (by decide) (by decide) (by decide) (by decide) (fun _ _ => rfl) hf hlo hd (fun H1 locs1 hP1 hD1 hS1 => ?_)
  have hlt := (List.getElem?_eq_some_iff.mp ha1).1
  have key : J p l e R s m args below meth c Q G A n kc ks (pc + 3) L st (ws.set q1 (a, aJ G 8 (va_cpy f g (0 : Int32).toNatClampNeg (0 : Int32).toNatClampNeg (8 : Int32).toNatClampNeg))) :=
    j_setJ q1 (List.getElem?_set_self hlt) (g := f) (fun j hj => by rw [pk_cpy_in (by decide +revert) (by exact Nat.lt_of_lt_of_eq hj rfl)]; congr 1; show 0 + (j - 0) = j; omega) (List.set_set ..) k
  exact key H1 locs1 ls hl hP1 hD1 hS1
end CP
/-! shifts by any count -/
theorem sh_l : ∀ k, k < 64 → (((nI k).toInt64 &&& 63).toBitVec.smod 64).toNat = k := by decide +kernel
theorem uN_shlk (x : Int64) {k : Nat} (hk : k < 64) : uN (x <<< ((nI k).toInt64 &&& 63)) = (uN x * 2 ^ k) % 18446744073709551616 := by
  show (x.toBitVec <<< (((nI k).toInt64 &&& 63).toBitVec.smod 64).toNat).toNat = _
  rw [sh_l k hk, BitVec.toNat_shiftLeft, Nat.shiftLeft_eq]
  rfl
theorem i_dv {x : Int32} {s d : Nat} (hx : x.toInt = s) (hs : s < 2147483648) (h0 : 0 < d) (hd : d < 2147483648) {y : Int32} (hy : y = x / nI d) : y.toInt = ((s / d : Nat) : Int) := by
  have : s / d ≤ s := Nat.div_le_self _ _
  rw [hy, i_nI hx hs, pk_div hs h0 hd, nI_T (by omega)]
theorem i_rm {x : Int32} {s d : Nat} (hx : x.toInt = s) (hs : s < 2147483648) (h0 : 0 < d) (hd : d < 2147483648) {y : Int32} (hy : y = x - x / nI d * nI d) : y.toInt = ((s % d : Nat) : Int) := by
  have : s % d ≤ s := Nat.mod_le _ _
  rw [hy, i_nI hx hs, pk_rem hs h0 hd, nI_T (by omega)]
/-- a digit, 0 at places below 0 -/
def dz (z : Int) (m : Int) : Int := if 0 ≤ m then z / dP m.toNat % 4294967296 else 0
theorem sl_dig (z : Int) {s w p i : Nat} (hs : s = 32 * w + p) (hp : p < 32) : z * 2 ^ s / dP i % 4294967296 = (dz z ((i : Int) - w) * 2 ^ p + dz z ((i : Int) - w - 1) / 2 ^ (32 - p)) % 4294967296 := by
  have hQ : (0 : Int) < 2 ^ p := Int.pow_pos (by decide)
  have hQ' : (0 : Int) < 2 ^ (32 - p) := Int.pow_pos (by decide)
  have hQQ : (2 : Int) ^ p * 2 ^ (32 - p) = 4294967296 := by rw [← Int.pow_add, show p + (32 - p) = 32 by omega]; rfl
  have e0 : z * 2 ^ s = z * 2 ^ p * dP w := by
    rw [hs, Int.pow_add, Int.pow_mul]
    show z * ((2 ^ 32 : Int) ^ w * 2 ^ p) = z * 2 ^ p * (4294967296 : Int) ^ w
    rw [Int.mul_comm ((2 ^ 32 : Int) ^ w), ← Int.mul_assoc]; rfl
  rw [e0]
  by_cases h : w ≤ i
  · obtain ⟨m, rfl⟩ : ∃ m, i = w + m := ⟨i - w, by omega⟩
    have e1 : z * 2 ^ p * dP w / dP (w + m) = z * 2 ^ p / dP m := by
      rw [dP_add, Int.mul_comm (z * 2 ^ p), Int.mul_ediv_mul_of_pos _ _ (dP_pos w)]
    have e2 : ((w + m : Nat) : Int) - w = m := by omega
    rw [e1, e2]
    have e3 := mul_hi 0 (2 ^ p) z (dP_pos m)
    rw [Int.zero_add, Int.zero_ediv, Int.zero_add, Int.zero_emod, Int.zero_add] at e3
    rw [Int.mul_comm z, e3]
    have e4 : dz z m = z / dP m % 4294967296 := by unfold dz; rw [if_pos (by omega)]; rfl
    have e5 : 2 ^ p * (z % dP m) / dP m = dz z ((m : Int) - 1) / 2 ^ (32 - p) := by
      cases m with
      | zero =>
        unfold dz
        rw [if_neg (by omega), dP_0, Int.emod_one, Int.mul_zero, Int.zero_ediv, Int.zero_ediv]
      | succ m =>
        have e6 : dz z (((m + 1 : Nat) : Int) - 1) = z / dP m % 4294967296 := by
          unfold dz; rw [if_pos (by omega), show (((m + 1 : Nat) : Int) - 1).toNat = m by omega]
        rw [e6, dP_s, ← hQQ]
        have e7 : dP m * (2 ^ p * 2 ^ (32 - p)) = 2 ^ p * (dP m * 2 ^ (32 - p)) := by rw [← Int.mul_assoc, Int.mul_comm (dP m), Int.mul_assoc]
        rw [e7, Int.mul_ediv_mul_of_pos _ _ hQ, ← e7, ← Int.ediv_ediv_of_nonneg (Int.le_of_lt (dP_pos m)), hQQ]
        congr 1
        rw [d_mod z (dP_pos m) (by decide), d_lo _ _ (dP_pos m), Int.ediv_eq_zero_of_lt (d_rng z (dP_pos m)).1 (d_rng z (dP_pos m)).2, Int.zero_add]
    rw [e5, e4, Int.mul_comm]
    have e8 : (z / dP m * 2 ^ p) % 4294967296 = (z / dP m % 4294967296 * 2 ^ p) % 4294967296 := by
      rw [Int.mul_emod]
      conv => rhs; rw [Int.mul_emod, Int.emod_emod_of_dvd _ (Int.dvd_refl _)]
    omega
  · obtain ⟨m, rfl⟩ : ∃ m, w = i + (m + 1) := ⟨w - i - 1, by omega⟩
    have e1 : z * 2 ^ p * dP (i + (m + 1)) = dP i * (4294967296 * (z * 2 ^ p * dP m)) := by rw [dP_add, dP_s]; grind
    rw [e1, Int.mul_ediv_cancel_left _ (by have := dP_pos i; omega)]
    unfold dz
    rw [if_neg (by omega), if_neg (by omega), Int.zero_mul, Int.zero_ediv]
    omega
theorem sl_or {a b p : Nat} {x y : Int64} (hx : uN x = 2 ^ p * a) (hy : uN y = b) (hb : b < 2 ^ p) : uN (x ||| y) = 2 ^ p * a + b := by
  have h1 : uN (x ||| y) = uN x ||| uN y := UInt64.toNat_or _ _
  rw [h1, hx, hy]
  exact (Nat.two_pow_add_eq_or_of_lt hb a).symm
theorem sl_new {z : Int} {s w p i : Nat} {r1 r2 u v : Int64} {y2 y3 : Int32} (hs : s = 32 * w + p) (hp : p < 32) (h1 : r1.toInt = dz z ((i : Int) - w)) (h2 : r2.toInt = dz z ((i : Int) - w - 1)) (e2 : y2 = nI p) (e3 : y3 = nI (32 - p)) (hu : r1 <<< (y2.toInt64 &&& 63) = u) (hv : (r2.toUInt64 >>> (y3.toInt64.toUInt64 &&& Int64.toUInt64 63)).toInt64 = v) : (u ||| v) &&& 4294967295 = dg (z * 2 ^ s) i := by
  have b1 : 0 ≤ dz z ((i : Int) - w) ∧ dz z ((i : Int) - w) < 4294967296 := by unfold dz; split <;> omega
  have b2 : 0 ≤ dz z ((i : Int) - w - 1) ∧ dz z ((i : Int) - w - 1) < 4294967296 := by unfold dz; split <;> omega
  have m1 := uN_mod r1
  have m2 := uN_mod r2
  have c1 : (uN r1 : Int) = dz z ((i : Int) - w) := by omega
  have c2 : (uN r2 : Int) = dz z ((i : Int) - w - 1) := by omega
  have hP : 2 ^ p * 2 ^ (32 - p) = 4294967296 := by rw [← Nat.pow_add, show p + (32 - p) = 32 by omega]
  have hPle : 2 ^ p ≤ 2147483648 := Nat.pow_le_pow_right (n := 2) (by decide) (show p ≤ 31 by omega)
  have eu : uN u = 2 ^ p * uN r1 := by
    rw [← hu, e2, uN_shlk _ (by omega)]
    have : uN r1 * 2 ^ p ≤ 4294967295 * 2147483648 := Nat.mul_le_mul (by omega) hPle
    rw [Nat.mod_eq_of_lt (by omega), Nat.mul_comm]
  have ev : uN v = uN r2 / 2 ^ (32 - p) := by rw [← hv, e3, uN_sk _ (by omega)]
  have hvlt : uN r2 / 2 ^ (32 - p) < 2 ^ p := by
    rw [Nat.div_lt_iff_lt_mul (Nat.two_pow_pos _), hP]; omega
  have eo := sl_or eu ev hvlt
  refine dg_eq ?_
  rw [sl_dig z hs hp, l_lo, ← c1, ← c2]
  have m3 := uN_mod (u ||| v)
  rw [eo] at m3
  have e9 : (((uN r1 : Int)) * 2 ^ p + (uN r2 : Int) / 2 ^ (32 - p)) = ((2 ^ p * uN r1 + uN r2 / 2 ^ (32 - p) : Nat) : Int) := by
    push_cast; rw [Int.mul_comm]
  rw [e9]
  omega
theorem sl_limb {z : Int} {k : Nat} {g : Nat → Int64} {x : Int32} {m : Int} (hm : x.toInt = m) (hk : m < k) (hk8 : k ≤ 8) (hg : ∀ j, j < k → g j = dg z j) {r : Int64} (hr : r = if 0 ≤ x.toInt ∧ x.toInt < 8 then g x.toInt.toNat else 0) : r.toInt = dz z m := by
  unfold dz
  rw [hr]
  by_cases h : 0 ≤ m
  · rw [if_pos (by omega), if_pos h, hg _ (by omega), dg_T, hm]
  · rw [if_neg (by omega), if_neg h, lT0]
theorem i_sb {x y : Int32} {a b : Int} (hx : x.toInt = a) (hy : y.toInt = b) (h1 : -2147483648 ≤ a - b) (h2 : a - b < 2147483648) : (x - y).toInt = a - b := by
  rw [i_sub] <;> rw [hx, hy] <;> omega
/-! one bit more -/
theorem sb_new {z : Int} {s w p : Nat} {gw u : Int64} {y : Int32} (hs : s = 32 * w + p) (hp : p < 32) (hz : z % 2 ^ (s + 1) = 0) (hg : gw = dg z w) (ey : y = nI p) (hu : (1 : Int64) <<< (y.toInt64 &&& 63) = u) : gw ||| u = dg (z + 2 ^ s) w := by
  have hQ : (0 : Int) < 2 ^ (p + 1) := Int.pow_pos (by decide)
  have hPle : 2 ^ p ≤ 2147483648 := Nat.pow_le_pow_right (n := 2) (by decide) (show p ≤ 31 by omega)
  have eu : uN u = 2 ^ p := by
    rw [← hu, ey, uN_shlk _ (by omega)]
    show 1 * 2 ^ p % 18446744073709551616 = _
    omega
  have e1 : (2 : Int) ^ (s + 1) = dP w * 2 ^ (p + 1) := by
    rw [hs, show 32 * w + p + 1 = 32 * w + (p + 1) by omega, Int.pow_add, Int.pow_mul]; rfl
  have e2 : (2 : Int) ^ s = dP w * 2 ^ p := by rw [hs, Int.pow_add, Int.pow_mul]; rfl
  rw [e1, d_mod z (dP_pos w) hQ] at hz
  have r1 := d_rng z (dP_pos w)
  have r2 := d_rng (z / dP w) hQ
  have hm0 : z / dP w % 2 ^ (p + 1) = 0 := by
    have h3 : 0 ≤ dP w * (z / dP w % 2 ^ (p + 1)) := Int.mul_nonneg (Int.le_of_lt (dP_pos w)) r2.1
    have h4 : dP w * (z / dP w % 2 ^ (p + 1)) = 0 := by omega
    rcases Int.mul_eq_zero.mp h4 with h | h
    · have := dP_pos w; omega
    · exact h
  have hK : (4294967296 : Int) = 2 ^ (p + 1) * 2 ^ (31 - p) := by rw [← Int.pow_add, show p + 1 + (31 - p) = 32 by omega]; rfl
  have hd0 : (uN gw : Int) % 2 ^ (p + 1) = 0 := by
    have := uN_mod gw
    have h5 := dg_T z w
    have h6 := dg_rng z w
    rw [← hg] at h5 h6
    have h7 : (uN gw : Int) = gw.toInt := by omega
    rw [h7, h5, hK, Int.emod_emod_of_dvd _ (Int.dvd_mul_right _ _), hm0]
  obtain ⟨a, ha⟩ : ∃ a : Nat, uN gw = 2 ^ (p + 1) * a := by
    have : uN gw % 2 ^ (p + 1) = 0 := by
      have h7 : ((uN gw % 2 ^ (p + 1) : Nat) : Int) = 0 := by push_cast; exact hd0
      omega
    exact ⟨uN gw / 2 ^ (p + 1), by rw [Nat.mul_div_cancel' (Nat.dvd_of_mod_eq_zero this)]⟩
  have eo := sl_or (p := p + 1) (x := gw) (y := u) ha eu (by rw [Nat.pow_succ]; have := Nat.two_pow_pos p; omega)
  have h5 := dg_T z w
  have h6 := dg_rng z w
  rw [← hg] at h5 h6
  have hm := uN_mod gw
  have hle : 2 ^ (p + 1) * a + 2 ^ p < 4294967296 := by
    have hK' : (4294967296 : Nat) = 2 ^ (p + 1) * 2 ^ (31 - p) := by rw [← Nat.pow_add, show p + 1 + (31 - p) = 32 by omega]
    have : 2 ^ (p + 1) * a < 2 ^ (p + 1) * 2 ^ (31 - p) := by rw [← hK', ← ha]; omega
    have h8 : a + 1 ≤ 2 ^ (31 - p) := Nat.lt_of_mul_lt_mul_left this
    have h9 : 2 ^ (p + 1) * (a + 1) ≤ 2 ^ (p + 1) * 2 ^ (31 - p) := Nat.mul_le_mul_left _ h8
    rw [← hK', Nat.mul_add, Nat.mul_one, Nat.pow_succ] at h9
    rw [Nat.pow_succ]
    have := Nat.two_pow_pos p
    omega
  refine dg_eq ?_
  rw [uN_of eo (by omega), e2, d_lo _ _ (dP_pos w), ← ha]
  have e10 : ((uN gw + 2 ^ p : Nat) : Int) = gw.toInt + 2 ^ p := by push_cast; omega
  rw [← ha] at hle
  have h11 : ((uN gw + 2 ^ p : Nat) : Int) < 4294967296 := Int.ofNat_lt.mpr hle
  rw [e10, h5] at h11
  rw [e10, h5]
  have h12 : (0 : Int) < 2 ^ p := Int.pow_pos (by decide)
  omega
theorem sb_oth {z : Int} {s w p j : Nat} (hs : s = 32 * w + p) (hp : p < 32) (hz : z % 2 ^ (s + 1) = 0) (hj : j ≠ w) : dg (z + 2 ^ s) j = dg z j := by
  have e2 : (2 : Int) ^ s = dP w * 2 ^ p := by rw [hs, Int.pow_add, Int.pow_mul]; rfl
  rcases Nat.lt_or_gt_of_ne hj with h | h
  · rw [e2, m_lo _ _ h]
  · refine (dg_eq ?_).symm
    rw [dg_T]
    obtain ⟨m, rfl⟩ : ∃ m, j = w + (m + 1) := ⟨j - w - 1, by omega⟩
    have hB : dP (w + (m + 1)) = 2 ^ (s + 1) * (2 ^ (31 - p) * dP m) := by
      have h1 : (2 : Int) ^ (s + 1) = dP w * 2 ^ (p + 1) := by
        rw [hs, show 32 * w + p + 1 = 32 * w + (p + 1) by omega, Int.pow_add, Int.pow_mul]; rfl
      have h2 : (2 : Int) ^ (p + 1) * 2 ^ (31 - p) = 4294967296 := by rw [← Int.pow_add, show p + 1 + (31 - p) = 32 by omega]; rfl
      rw [dP_add, dP_s, h1]
      have : dP w * (dP m * 4294967296) = dP w * (dP m * (2 ^ (p + 1) * 2 ^ (31 - p))) := by rw [h2]
      rw [this]; grind
    have hS : (0 : Int) < 2 ^ (s + 1) := Int.pow_pos (by decide)
    have e3 : z + 2 ^ s = 2 ^ s + 2 ^ (s + 1) * (z / 2 ^ (s + 1)) := by
      have := Int.mul_ediv_add_emod z (2 ^ (s + 1)); omega
    have e4 : z = 0 + 2 ^ (s + 1) * (z / 2 ^ (s + 1)) := by
      have := Int.mul_ediv_add_emod z (2 ^ (s + 1)); omega
    have e5 : (2 : Int) ^ s / 2 ^ (s + 1) = 0 := Int.ediv_eq_zero_of_lt (Int.le_of_lt (Int.pow_pos (by decide))) (by rw [Int.pow_succ]; have : (0 : Int) < 2 ^ s := Int.pow_pos (by decide); omega)
    rw [hB, e3, d_hi _ _ hS, e5]
    rw [← Int.ediv_ediv_of_nonneg (Int.le_of_lt hS), Int.zero_add]
