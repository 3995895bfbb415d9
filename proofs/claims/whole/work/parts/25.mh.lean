/-! division and root, bit by bit -/
theorem dv_bit {N : Int} {k : Nat} : N / 2 ^ k = 2 * (N / 2 ^ (k + 1)) + N / 2 ^ k % 2 := by
  have h : N / 2 ^ (k + 1) = N / 2 ^ k / 2 := by rw [Int.pow_succ, Int.ediv_ediv_of_nonneg (Int.le_of_lt (Int.pow_pos (by decide)))]
  rw [h]; omega
theorem dv_go {M B bit : Int} (hB : 0 < B) (hb : bit = 0 ∨ bit = 1) (h : B ≤ 2 * (M % B) + bit) : (2 * M + bit) / B = 2 * (M / B) + 1 ∧ (2 * M + bit) % B = 2 * (M % B) + bit - B := by
  have h1 := Int.mul_ediv_add_emod M B
  have h2 := d_rng M hB
  have e : 2 * M + bit = (2 * (M % B) + bit - B) + B * (2 * (M / B) + 1) := by grind
  have e2 := d_lo (2 * (M % B) + bit - B) (2 * (M / B) + 1) hB
  rw [← e] at e2
  have e3 : (2 * (M % B) + bit - B) / B = 0 := Int.ediv_eq_zero_of_lt (by omega) (by omega)
  have h5 := Int.mul_ediv_add_emod (2 * M + bit) B
  rw [e2, e3] at h5
  exact ⟨by omega, by have : B * (0 + (2 * (M / B) + 1)) = B * (2 * (M / B) + 1) := by rw [Int.zero_add]
                      omega⟩
theorem dv_no {M B bit : Int} (hB : 0 < B) (hb : bit = 0 ∨ bit = 1) (h : 2 * (M % B) + bit < B) : (2 * M + bit) / B = 2 * (M / B) ∧ (2 * M + bit) % B = 2 * (M % B) + bit := by
  have h1 := Int.mul_ediv_add_emod M B
  have h2 := d_rng M hB
  have e : 2 * M + bit = (2 * (M % B) + bit) + B * (2 * (M / B)) := by grind
  have e2 := d_lo (2 * (M % B) + bit) (2 * (M / B)) hB
  rw [← e] at e2
  have e3 : (2 * (M % B) + bit) / B = 0 := Int.ediv_eq_zero_of_lt (by omega) (by omega)
  have h5 := Int.mul_ediv_add_emod (2 * M + bit) B
  rw [e2, e3] at h5
  exact ⟨by omega, by have : B * (0 + 2 * (M / B)) = B * (2 * (M / B)) := by rw [Int.zero_add]
                      omega⟩
/-- the bit of a register's number -/
theorem bt_at {N : Int} {k : Nat} {m : Int32} {y v : Int32} (hm : m = eg N (k / 16)) (hy : y.toInt = ((k % 16 : Nat) : Int)) (hv : v = (m >>> (y &&& 31)) &&& 1) : v.toInt = N / 2 ^ k % 2 := by
  have hs : ∀ j, j < 16 → ((nI j &&& 31).toBitVec.smod 32).toNat = j := by decide +kernel
  have ey : y = nI (k % 16) := i_nI hy (by omega)
  have h1 : (m >>> (y &&& 31)).toInt = m.toInt / 2 ^ (k % 16) := by
    rw [ey, pk_shr _ _ (k % 16) (hs _ (by omega)), Int.shiftRight_eq_div_pow]; norm_cast
  have h2 : ((m >>> (y &&& 31)) &&& 1).toInt = (m >>> (y &&& 31)).toInt % 2 := by
    have h3 := pk_and (m >>> (y &&& 31)) (m := 1) 1 rfl
    rw [h3, nI_T (by omega)]
    have h4 : (m >>> (y &&& 31)).toInt = if 2 * (m >>> (y &&& 31)).toBitVec.toNat < 4294967296 then ((m >>> (y &&& 31)).toBitVec.toNat : Int) else ((m >>> (y &&& 31)).toBitVec.toNat : Int) - 4294967296 := BitVec.toInt_eq_toNat_cond _
    split at h4 <;> omega
  rw [hv, h2, h1, hm, eg_T]
  have e1 : (2 : Int) ^ k = eP (k / 16) * 2 ^ (k % 16) := by
    have : k = 16 * (k / 16) + k % 16 := by omega
    conv => lhs; rw [this, Int.pow_add, Int.pow_mul]
    rfl
  rw [e1, ← Int.ediv_ediv_of_nonneg (Int.le_of_lt (eP_pos _))]
  generalize N / eP (k / 16) = X
  have hK : (65536 : Int) = 2 ^ (k % 16) * 2 ^ (16 - k % 16) := by rw [← Int.pow_add, show k % 16 + (16 - k % 16) = 16 by omega]; rfl
  have hP : (0 : Int) < 2 ^ (k % 16) := Int.pow_pos (by decide)
  obtain ⟨c, hc⟩ : ∃ c : Int, (2 : Int) ^ (16 - k % 16) = 2 * c := ⟨2 ^ (15 - k % 16), by rw [show 16 - k % 16 = (15 - k % 16) + 1 by omega, Int.pow_succ, Int.mul_comm]⟩
  have e2 : X = X % 65536 + 2 ^ (k % 16) * (2 * (c * (X / 65536))) := by
    have h5 := Int.mul_ediv_add_emod X 65536
    have h6 : ∀ Y : Int, (65536 : Int) * Y = 2 ^ (k % 16) * (2 * (c * Y)) := fun Y => by
      rw [hK, hc, Int.mul_assoc, Int.mul_assoc]
    have h7 := h6 (X / 65536)
    omega
  have e3 := d_lo (X % 65536) (2 * (c * (X / 65536))) hP
  rw [← e2] at e3
  rw [e3]; omega
/-- the registers while a quotient is made -/
def dvL (zs : List Int) (dd : Nat) (q r : Int) : List Int := (zs.set dd q).set 12 r
section DVL
variable {zs : List Int} {dd : Nat} {q r : Int}
theorem dvL_len (hl : zs.length = 16) : (dvL zs dd q r).length = 16 := by simp [dvL, hl]
theorem dvL_12 {x : Int} : (dvL zs dd q r).set 12 x = dvL zs dd q x := by simp [dvL]
theorem dvL_dd {x : Int} (h : dd ≠ 12) : (dvL zs dd q r).set dd x = dvL zs dd x r := by
  unfold dvL; rw [List.set_comm _ _ (Ne.symm h), List.set_set]
theorem dvL_g12 (hl : zs.length = 16) : (dvL zs dd q r).getD 12 0 = r := by simp [dvL, List.getD, hl]
theorem dvL_gdd (hl : zs.length = 16) (h : dd ≠ 12) (hd : dd < 16) : (dvL zs dd q r).getD dd 0 = q := by
  unfold dvL List.getD
  rw [List.getElem?_set_ne (Ne.symm h)]
  simp [hl, hd]
theorem dvL_g {b : Nat} (h1 : b ≠ dd) (h2 : b ≠ 12) : (dvL zs dd q r).getD b 0 = zs.getD b 0 := by
  simp [dvL, List.getD, List.getElem?_set_ne (Ne.symm h1), List.getElem?_set_ne (Ne.symm h2)]
theorem dvL_zA {b : Nat} (h1 : b ≠ dd) (h2 : b ≠ 12) : zA (dvL zs dd q r) b = zA zs b := by unfold zA; rw [dvL_g h1 h2]
theorem dvL_z12 (hl : zs.length = 16) (hr : 0 ≤ r) : zA (dvL zs dd q r) 12 = r := by unfold zA; rw [dvL_g12 hl]; omega
end DVL
theorem rg_abs {zs zs' : List Int} (h : ∀ r, zA zs r = zA zs' r) : ∀ k, k < 320 → rg zs k = rg zs' k := fun k _ => by unfold rg; rw [h]
theorem set_self {zs : List Int} {k : Nat} (h : k < zs.length) : zs.set k (zs.getD k 0) = zs := by
  simp [List.getD, List.getElem?_eq_getElem h]
/-! the registers with their signs -/
section HH
variable (l : Launch) (G : jG) (q : Nat → Nat) (t n co cr po : Int32) (tx ty : Int64) (zs : List Int) (sf : Nat → Int32)
abbrev mW (G : jG) (q : Nat → Nat) (t n co cr po : Int32) (tx ty : Int64) (zs : List Int) (sf : Nat → Int32) : va_W := [(q 0, .inr (10, mF t n q co cr po tx ty)), (q 10, aI G 320 (rg zs)), (q 11, aZ G 16 sf)]
theorem h_load (hl : zs.length = 16) (hS : okS zs sf) (r : Int32) (dd : Nat) (hdd : r.toInt = dd) (gdd : dd < 16) (v : Int64) : Ct l yX11_load wsX11_load rm_X11_load G [.ref (q 0), .int r, .long v] (mW G q t n co cr po tx ty zs sf) (S := Nat → Int32) (fun r u => r = none ∧ okS (zs.set dd v.toInt) u) (fun u => mW G q t n co cr po tx ty (zs.set dd v.toInt) u) (fun _ => []) :=
  (c_X11_load l G q t n co cr po tx ty zs hl sf r dd hdd gdd v).weaken (fun _ => rfl) (fun w b h => ⟨upd sf dd b, ⟨h.1, okS_set hl gdd hS (by rcases h.2 with ⟨h1, h2⟩ | ⟨h1, h2⟩; exact Or.inr ⟨h1, by omega⟩; exact Or.inl ⟨h1, h2⟩)⟩, rfl, rfl⟩)
theorem h_copy (hl : zs.length = 16) (hS : okS zs sf) (r : Int32) (dd : Nat) (hdd : r.toInt = dd) (gdd : dd < 16) (ra : Int32) (aa : Nat) (haa : ra.toInt = aa) (gaa : aa < 16) (hne : dd ≠ aa) : Ct l yX11_copy wsX11_copy rm_X11_copy G [.ref (q 0), .int r, .int ra] (mW G q t n co cr po tx ty zs sf) (S := Nat → Int32) (fun r u => r = none ∧ okS (zs.set dd (zs.getD aa 0)) u) (fun u => mW G q t n co cr po tx ty (zs.set dd (zs.getD aa 0)) u) (fun _ => []) :=
  (c_X11_copy l G q t n co cr po tx ty zs hl sf r dd hdd gdd ra aa haa gaa hne (ok1_01 (hS aa gaa))).weaken (fun _ => rfl) (fun w b h => ⟨upd sf dd (sf aa), ⟨h, okS_set hl gdd hS (hS aa gaa)⟩, rfl, rfl⟩)
theorem h_multiply (hl : zs.length = 16) (hS : okS zs sf) (r : Int32) (dd : Nat) (hdd : r.toInt = dd) (gdd : dd < 16) (ra : Int32) (aa : Nat) (haa : ra.toInt = aa) (gaa : aa < 16) (rb : Int32) (bb : Nat) (hbb : rb.toInt = bb) (gbb : bb < 16) (hda : dd ≠ aa) (hdb : dd ≠ bb) : Ct l yX11_multiply wsX11_multiply rm_X11_multiply G [.ref (q 0), .int r, .int ra, .int rb] (mW G q t n co cr po tx ty zs sf) (S := Nat → Int32) (fun r u => r = none ∧ okS (zs.set dd (zs.getD aa 0 * zs.getD bb 0)) u) (fun u => mW G q t n co cr po tx ty (zs.set dd (zs.getD aa 0 * zs.getD bb 0)) u) (fun _ => []) :=
  (c_X11_multiply l G q t n co cr po tx ty zs hl sf r dd hdd gdd ra aa haa gaa rb bb hbb gbb hda hdb).weaken (fun _ => rfl) (fun w b h => ⟨upd sf dd b, ⟨h.1, okS_set hl gdd hS (ml_ok (hS aa gaa) (hS bb gbb) h.2)⟩, rfl, rfl⟩)
theorem h_join (hl : zs.length = 16) (hS : okS zs sf) (r : Int32) (dd : Nat) (hdd : r.toInt = dd) (gdd : dd < 16) (ra : Int32) (aa : Nat) (haa : ra.toInt = aa) (gaa : aa < 16) (rb : Int32) (bb : Nat) (hbb : rb.toInt = bb) (gbb : bb < 16) (ls : Int32) (hls : ls = 0 ∨ ls = 1) (hda : dd ≠ aa) (hdb : dd ≠ bb) (hba : (zs.getD aa 0).natAbs < 2135987035920910082395021706169552114602704522356652769947041607822219725780640550022962086936576) (hbb2 : (zs.getD bb 0).natAbs < 2135987035920910082395021706169552114602704522356652769947041607822219725780640550022962086936576) : Ct l yX11_join wsX11_join rm_X11_join G [.ref (q 0), .int r, .int ra, .int rb, .int ls] (mW G q t n co cr po tx ty zs sf) (S := Nat → Int32) (fun r u => r = none ∧ okS (zs.set dd (jn ls (zs.getD aa 0) (zs.getD bb 0))) u) (fun u => mW G q t n co cr po tx ty (zs.set dd (jn ls (zs.getD aa 0) (zs.getD bb 0))) u) (fun _ => []) :=
  (c_X11_join l G q t n co cr po tx ty zs hl sf r dd hdd gdd ra aa haa gaa rb bb hbb gbb ls hls hda hdb (hS aa gaa) (hS bb gbb) hba hbb2).weaken (fun _ => rfl) (fun w b h => ⟨upd sf dd b, ⟨h.1, okS_set hl gdd hS h.2⟩, rfl, rfl⟩)
end HH
theorem l16 {zs : List Int} (h : zs.length = 16) : ∃ z0 z1 z2 z3 z4 z5 z6 z7 z8 z9 z10 z11 z12 z13 z14 z15, zs = [z0, z1, z2, z3, z4, z5, z6, z7, z8, z9, z10, z11, z12, z13, z14, z15] := by
  match zs, h with
  | [z0, z1, z2, z3, z4, z5, z6, z7, z8, z9, z10, z11, z12, z13, z14, z15], _ => exact ⟨z0, z1, z2, z3, z4, z5, z6, z7, z8, z9, z10, z11, z12, z13, z14, z15, rfl⟩
theorem nb63 (a b : Int64) : (a.toInt * b.toInt).natAbs < 2135987035920910082395021706169552114602704522356652769947041607822219725780640550022962086936576 := by
  have h1 := l_rng a
  have h2 := l_rng b
  have h3 : a.toInt.natAbs * b.toInt.natAbs ≤ 9223372036854775808 * 9223372036854775808 := Nat.mul_le_mul (by omega) (by omega)
  rw [Int.natAbs_mul]; omega
def zP (zs : List Int) (dd : Nat) (a b c e : Int) (ls : Int32) : List Int := ((((((zs.set 13 a).set 14 b).set 15 (a * b)).set 14 c).set 13 e).set 12 (e * c)).set dd (jn ls (a * b) (e * c))
theorem zP_len {zs : List Int} {dd : Nat} {a b c e : Int} {ls : Int32} (h : zs.length = 16) : (zP zs dd a b c e ls).length = 16 := by simp [zP, h]
theorem nb64 (a b c d : Int64) : (a.toInt * b.toInt - c.toInt * d.toInt).natAbs < 2135987035920910082395021706169552114602704522356652769947041607822219725780640550022962086936576 := by
  have h1 := l_rng a
  have h2 := l_rng b
  have h3 := l_rng c
  have h4 := l_rng d
  have h5 : a.toInt.natAbs * b.toInt.natAbs ≤ 9223372036854775808 * 9223372036854775808 := Nat.mul_le_mul (by omega) (by omega)
  have h6 : c.toInt.natAbs * d.toInt.natAbs ≤ 9223372036854775808 * 9223372036854775808 := Nat.mul_le_mul (by omega) (by omega)
  rw [← Int.natAbs_mul] at h5 h6
  omega
theorem nb64p (a b c d : Int64) : (a.toInt * b.toInt + c.toInt * d.toInt).natAbs < 2135987035920910082395021706169552114602704522356652769947041607822219725780640550022962086936576 := by
  have h1 := l_rng a
  have h2 := l_rng b
  have h3 := l_rng c
  have h4 := l_rng d
  have h5 : a.toInt.natAbs * b.toInt.natAbs ≤ 9223372036854775808 * 9223372036854775808 := Nat.mul_le_mul (by omega) (by omega)
  have h6 : c.toInt.natAbs * d.toInt.natAbs ≤ 9223372036854775808 * 9223372036854775808 := Nat.mul_le_mul (by omega) (by omega)
  rw [← Int.natAbs_mul] at h5 h6
  omega
theorem dv_k {k j : Int32} {kk : Nat} (h : k.toInt = kk) (hk : kk < 320) (hj : j = k / 16) : j.toInt = ((kk / 16 : Nat) : Int) := i_dv h (by omega) (by decide) (by decide) hj
theorem ix20d {r k : Int32} {aa kk : Nat} (hr : r.toInt = aa) (hk : k.toInt = kk) (ha : aa < 16) (hk2 : kk < 320) : (20 * r + k / 16).toInt = ((20 * aa + kk / 16 : Nat) : Int) := ix20 hr (dv_k hk hk2 rfl) ha (by omega)
theorem okS_dvL {zs : List Int} {sf : Nat → Int32} {dd : Nat} {q r : Int} {b1 b2 : Int32} (hl : zs.length = 16) (hd : dd < 16) (h : okS zs sf) (h1 : ok1 b1 q) (h2 : ok1 b2 r) : okS (dvL zs dd q r) (upd (upd sf dd b1) 12 b2) :=
  okS_set (by simp [hl]) (by decide) (okS_set hl hd h h1) h2
/-- the quotient of a number below 0 -/
theorem dv_neg0 {z B : Int} (hB : 0 < B) (hz : z ≤ 0) (h : (z.natAbs : Int) % B = 0) : z / B = -((z.natAbs : Int) / B) := by
  have h1 := Int.mul_ediv_add_emod (z.natAbs : Int) B
  have e : z = 0 + B * (-((z.natAbs : Int) / B)) := by rw [Int.mul_neg]; omega
  have h2 := d_lo 0 (-((z.natAbs : Int) / B)) hB
  rw [← e, Int.zero_ediv] at h2
  omega
theorem dv_neg1 {z B : Int} (hB : 0 < B) (hz : z ≤ 0) (h : ¬ (z.natAbs : Int) % B = 0) : z / B = -((z.natAbs : Int) / B) - 1 := by
  have h1 := Int.mul_ediv_add_emod (z.natAbs : Int) B
  have h3 := d_rng (z.natAbs : Int) hB
  have e : z = (B - (z.natAbs : Int) % B) + B * (-((z.natAbs : Int) / B) - 1) := by rw [Int.mul_sub, Int.mul_neg]; omega
  have h2 := d_lo (B - (z.natAbs : Int) % B) (-((z.natAbs : Int) / B) - 1) hB
  have h9 : (B - (z.natAbs : Int) % B) / B = 0 := Int.ediv_eq_zero_of_lt (by omega) (by omega)
  rw [← e] at h2
  omega
theorem dvL_neg {zs : List Int} {dd : Nat} {q r : Int} (hl : zs.length = 16) (h : dd ≠ 12) (hd : dd < 16) : ∀ x, zA (dvL zs dd q r) x = zA (dvL zs dd (-q) r) x := by
  intro x
  by_cases h1 : x = dd
  · subst h1; unfold zA; rw [dvL_gdd hl h hd, dvL_gdd hl h hd]; omega
  · by_cases h2 : x = 12
    · subst h2; unfold zA; rw [dvL_g12 hl, dvL_g12 hl]
    · rw [dvL_zA h1 h2, dvL_zA h1 h2]
theorem up_s {sf : Nat → Int32} {dd aa : Nat} {b1 b2 : Int32} (h1 : aa ≠ dd) (h2 : aa ≠ 12) : upd (upd sf dd b1) 12 b2 aa = sf aa := by rw [pk_un h2, pk_un h1]
theorem okS_cong {zs : List Int} {s s' : Nat → Int32} (h : okS zs s) (e : ∀ r, s r = s' r) : okS zs s' := fun r hr => by rw [← e r]; exact h r hr
theorem ld0 {b : Int32} {v : Int64} (hv : 0 ≤ v.toInt) (h : (b = 1 ∧ v.toInt < 0) ∨ (b = 0 ∧ 0 ≤ v.toInt)) : b = 0 := by rcases h with h | h; exact absurd h.2 (by omega); exact h.1
theorem upsw (d : Nat) (sf : Nat → Int32) (x y z : Int32) (hd : d ≠ 12) : ∀ r, upd (upd sf d z) 12 y r = upd (upd (upd sf d x) 12 y) d z r := by
  intro r
  by_cases h1 : r = d
  · subst h1; rw [pk_us, pk_un hd, pk_us]
  · rw [pk_un h1]
    by_cases h2 : r = 12
    · subst h2; rw [pk_us, pk_us]
    · rw [pk_un h2, pk_un h2, pk_un h1, pk_un h1]
theorem rg_neg6 (z0 z1 z2 z3 z4 z5 q z7 z8 z9 z10 z11 z12 z13 z14 z15 : Int) : ∀ r, zA [z0, z1, z2, z3, z4, z5, q, z7, z8, z9, z10, z11, z12, z13, z14, z15] r = zA [z0, z1, z2, z3, z4, z5, -q, z7, z8, z9, z10, z11, z12, z13, z14, z15] r := by
  intro r
  by_cases h : r = 6
  · subst h; show ((q.natAbs : Nat) : Int) = (((-q).natAbs : Nat) : Int); omega
  · have e : [z0, z1, z2, z3, z4, z5, -q, z7, z8, z9, z10, z11, z12, z13, z14, z15] = [z0, z1, z2, z3, z4, z5, q, z7, z8, z9, z10, z11, z12, z13, z14, z15].set 6 (-q) := rfl
    rw [e, zA_ne _ h]
theorem rg_neg7 (z0 z1 z2 z3 z4 z5 z6 q z8 z9 z10 z11 z12 z13 z14 z15 : Int) : ∀ r, zA [z0, z1, z2, z3, z4, z5, z6, q, z8, z9, z10, z11, z12, z13, z14, z15] r = zA [z0, z1, z2, z3, z4, z5, z6, -q, z8, z9, z10, z11, z12, z13, z14, z15] r := by
  intro r
  by_cases h : r = 7
  · subst h; show ((q.natAbs : Nat) : Int) = (((-q).natAbs : Nat) : Int); omega
  · have e : [z0, z1, z2, z3, z4, z5, z6, -q, z8, z9, z10, z11, z12, z13, z14, z15] = [z0, z1, z2, z3, z4, z5, z6, q, z8, z9, z10, z11, z12, z13, z14, z15].set 7 (-q) := rfl
    rw [e, zA_ne _ h]
theorem p320 : (2 : Int) ^ 320 = 2135987035920910082395021706169552114602704522356652769947041607822219725780640550022962086936576 := by
  have h : ((2 ^ 320 : Nat) : Int) = (2 : Int) ^ 320 := Int.natCast_pow 2 320
  rw [← h]; rfl
theorem lT4 : (4 : Int64).toInt = 4 := rfl
theorem lTB : (4294967296 : Int64).toInt = 4294967296 := rfl
