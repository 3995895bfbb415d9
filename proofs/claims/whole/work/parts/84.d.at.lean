/-! where rounding begins, and that both sides come to one number -/
theorem r3_sm (x y : Int) : r3 (sg x * sg y) := by
  rw [sg_mul]; exact sg_3 _
theorem at_hq {Q L : Int} (hL : 0 < L ∧ L ≤ 19342813113834066795298816) (hQ : Q ≤ 4611686018427387904 * (L * L)) : Q < 7237005577332262213973186563042994240829374041602535252466099000494570602496 := by
  have h := Int.mul_le_mul hL.2 hL.2 (Int.le_of_lt hL.1) (by decide)
  omega
theorem at_h0 {P Q B L : Int} {s : Int32} (hs : r3 s) (hB : B = L) (hL : 0 < L ∧ L ≤ 19342813113834066795298816) (hP : -(2199023255552 * L) ≤ P ∧ P ≤ 2199023255552 * L) (hQ : Q ≤ 4611686018427387904 * (L * L)) (hQ0 : 0 ≤ Q) : (0 ≤ B ∧ B ≤ 38685626227668133590597632) ∧ (-170141183460469231731687303715884105727 ≤ P ∧ P ≤ 170141183460469231731687303715884105727) ∧ (0 ≤ Q ∧ Q < 115792089237316195423570985008687907853269984665640564039457584007913129639936) ∧ (0 ≤ (cs (P + B * 2 ^ 42) s Q).toInt ∧ (cs (P + B * 2 ^ 42 - B * 8796093022208) s Q).toInt < 0) := by
  subst hB
  have hq := at_hq hL hQ
  exact ⟨by omega, by omega, by omega, pre_0 hs hL.1 hP hQ⟩
theorem at_h2 {P Q B L : Int} {s : Int32} (hs : r3 s) (hB : B = L) (hL : 0 < L ∧ L ≤ 19342813113834066795298816) (hP : -(2199023255552 * L) ≤ P ∧ P ≤ 2199023255552 * L) (hQ : Q ≤ 4611686018427387904 * (L * L)) (hQ0 : 0 ≤ Q) : (0 ≤ B * 2 ^ 1 ∧ B * 2 ^ 1 ≤ 38685626227668133590597632) ∧ (-170141183460469231731687303715884105727 ≤ P * 2 ^ 1 + B ∧ P * 2 ^ 1 + B ≤ 170141183460469231731687303715884105727) ∧ (0 ≤ Q * 2 ^ 2 ∧ Q * 2 ^ 2 < 115792089237316195423570985008687907853269984665640564039457584007913129639936) ∧ (0 ≤ (cs (P * 2 ^ 1 + B + B * 2 ^ 1 * 2 ^ 42) s (Q * 2 ^ 2)).toInt ∧ (cs (P * 2 ^ 1 + B + B * 2 ^ 1 * 2 ^ 42 - B * 2 ^ 1 * 8796093022208) s (Q * 2 ^ 2)).toInt < 0) := by
  subst hB
  have hq := at_hq hL hQ
  have e1 : (2 : Int) ^ 1 = 2 := rfl
  have e2 : (2 : Int) ^ 2 = 4 := rfl
  refine ⟨?_, ?_, ?_, pre_2 hs hL.1 hP hQ⟩
  · rw [e1]; omega
  · rw [e1]; omega
  · rw [e2]; omega
section ATE
variable {bs y r w : Int64} {U f R L E k B : Int} {sd : Int32}
theorem ate_0 (hL : 0 < L) (hR : 0 ≤ R) (hk : ¬ k = 0 ∨ f = 0) (hB : B = L) (hsd : sd = sg (k * f) * sg R) (hU : -(4398046511104 * L) ≤ U ∧ U ≤ 4398046511104 * L) (hf : f * f * R ≤ 4611686018427387904 * (L * L)) (hE : rtR (atN 0 f R) E) (hw : w.toInt = atV 0 U f R L E k) (hy : y = bs + r) (hr : rdR (U - bs.toInt * L) sd (f * f * R) B r.toInt) : y = w := by
  subst hB; subst hsd
  have e := at_0 hL hR hk hE hr
  have hb := at_bd (how := 0) (s := k) (by decide) hL hU hf hE
  exact l_eq ((lv_eq hy rfl e.symm hb).trans hw.symm)
theorem ate_1 {F : Int} (hL : 0 < L) (hR : 0 ≤ R) (hk : ¬ k = 0 ∨ f = 0) (hB : B = L) (hsd : sd = sg (k * f) * sg R) (hU : -(4398046511104 * L) ≤ U ∧ U ≤ 4398046511104 * L) (hf : f * f * R ≤ 4611686018427387904 * (L * L)) (hE : rtR (atN 1 f R) E) (hw : w.toInt = atV 1 U f R L E k) (hy : y = bs + r) (hr : rdR (U - bs.toInt * L) sd (f * f * R) B F) (hF : (cs (U - bs.toInt * L - F * B) sd (f * f * R) = 0 ∧ r.toInt = F) ∨ (¬ cs (U - bs.toInt * L - F * B) sd (f * f * R) = 0 ∧ r.toInt = F + 1)) : y = w := by
  subst hB; subst hsd
  have e := at_1 hL hR hk hE hr hF
  have hb := at_bd (how := 1) (s := k) (by decide) hL hU hf hE
  exact l_eq ((lv_eq hy rfl e.symm hb).trans hw.symm)
theorem ate_2 (hL : 0 < L) (hR : 0 ≤ R) (hk : ¬ k = 0 ∨ f = 0) (hB : B = L) (hsd : sd = sg (k * f) * sg R) (hU : -(4398046511104 * L) ≤ U ∧ U ≤ 4398046511104 * L) (hf : f * f * R ≤ 4611686018427387904 * (L * L)) (hE : rtR (atN 2 f R) E) (hw : w.toInt = atV 2 U f R L E k) (hy : y = bs + r) (hr : rdR ((U - bs.toInt * L) * 2 ^ 1 + B) sd (f * f * R * 2 ^ 2) (B * 2 ^ 1) r.toInt) : y = w := by
  subst hB; subst hsd
  have e := at_2 hL hR hk hE hr
  have hb := at_bd (how := 2) (s := k) (by decide) hL hU hf hE
  exact l_eq ((lv_eq hy rfl e.symm hb).trans hw.symm)
end ATE
def xw6 (g : Nat → Nat → Int64) (a0 a1 a2 a3 a5 : Nat → Int64) : Nat → Nat → Int64
  | 0 => a0
  | 1 => a1
  | 2 => a2
  | 3 => a3
  | 4 => g 4
  | 5 => a5
  | n + 6 => g (n + 6)
def xs0 {α : Type} (g : Nat → α) (a : α) : Nat → α
  | 0 => a
  | n + 1 => g (n + 1)
theorem kq_0 {k : Int32} {fx fy : Int} (h : k = 1 ∨ k = -1 ∨ (k = 0 ∧ fx = 0 ∧ fy = 0)) : (¬ k.toInt = 0 ∨ fx = 0) ∧ (¬ k.toInt = 0 ∨ fy = 0) := by
  rcases h with rfl | rfl | ⟨rfl, h1, h2⟩
  · exact ⟨Or.inl (by decide), Or.inl (by decide)⟩
  · exact ⟨Or.inl (by decide), Or.inl (by decide)⟩
  · exact ⟨Or.inr h1, Or.inr h2⟩
theorem iv_x {N C j : Nat} {f : Nat → Option Nat} {fx fy lx ly : Int64} {S1 : Int} {cs cs2 : XS} {md md2 : Int32} {me mw : Option Nat} {A0 B0 : Int} {cr po cr2 po2 : Int32} {tx ty tx2 ty2 : Int64} {fa : Nat → Int32} {f1 f2 f3 f4 : Nat → Int64} {fr to1 : Nat → Int32} {cx cy : Nat → Int64} {zs zs2 : List Int} {sf sf2 sig sig2 : Nat → Int32} {tail : va_W} (h : iV N C j f fx fy lx ly S1 cs md me mw A0 B0 cr po tx ty fa f1 f2 f3 f4 fr to1 cx cy zs sf sig tail) (hj : j < 64) (hc : crF md2 cr2 cs2 po2 sig2 tx2 ty2 zs2) (hl : zs2.length = 16) (hs : okS zs2 sf2) : iV N C (j + 1) f fx fy lx ly S1 cs2 md2 me mw A0 B0 cr2 po2 tx2 ty2 fa f1 f2 f3 f4 fr to1 cx cy zs2 sf2 sig2 tail := by
  obtain ⟨⟨a, b, c⟩, h1, h2, h3, h4, h5⟩ := h
  exact ⟨⟨by omega, by omega, by omega⟩, h1, h2, h3, hc, hl, hs⟩
theorem xaa_n {ax ay bx by1 r s f1 t1 f2 t2 : Int} (h : ¬ (bx - ax = 0 ∧ by1 - ay = 0)) : xaa ax ay bx by1 r s f1 t1 f2 t2 = some (aaS ax ay bx by1 r s f1 t1 f2 t2, aaU ax ay bx by1 r s, aaV ax ay bx by1 r s, aaR ax ay bx by1 r s, aaL ax ay bx by1, -(by1 - ay), bx - ax) := if_neg h
theorem xaa_e {ax ay bx by1 r s f1 t1 f2 t2 : Int} (h : bx - ax = 0 ∧ by1 - ay = 0) (hr : ¬ r = s) : xaa ax ay bx by1 r s f1 t1 f2 t2 = some ([], 0, 0, 0, 0, 0, 0) := (if_pos h).trans (if_neg hr)
theorem xaa_x {ax ay bx by1 r s f1 t1 f2 t2 : Int} (h : bx - ax = 0 ∧ by1 - ay = 0) (hr : r = s) : xaa ax ay bx by1 r s f1 t1 f2 t2 = none := (if_pos h).trans (if_pos hr)
