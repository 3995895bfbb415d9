/-! the rows with shapes and crossings -/
theorem ix_n {N : Nat} {g : Int32} (h : 0 ≤ g.toInt ∧ g.toInt < N) (hN : N ≤ 64) : ∃ a, g = nI a ∧ a < N := ⟨g.toInt.toNat, i_eq (by rw [nI_T (by omega)]; omega), by omega⟩
theorem seg_u {tail : va_W} {i a b : Nat} {x1 x2 x3 x4 x5 x6 y1 y2 y3 y4 y5 y6 : Int64} (h : tail[i]? = some (a, .inr (7, [.long x1, .long x2, .long x3, .long x4, .long x5, .long x6]))) (k : tail[i]? = some (b, .inr (7, [.long y1, .long y2, .long y3, .long y4, .long y5, .long y6]))) : b = a ∧ y1 = x1 ∧ y2 = x2 ∧ y3 = x3 ∧ y4 = x4 := by
  rw [k] at h
  simp only [Option.some.injEq, Prod.mk.injEq, Sum.inr.injEq, List.cons.injEq, Value.long.injEq, true_and, and_true] at h
  exact ⟨h.1, h.2.1, h.2.2.1, h.2.2.2.1, h.2.2.2.2.1⟩
theorem arc_u {tail : va_W} {i a b : Nat} {x1 x2 x3 y1 y2 y3 : Int64} {x4 x5 y4 y5 : Int32} (h : tail[i]? = some (a, .inr (0, [.long x1, .long x2, .long x3, .int x4, .int x5]))) (k : tail[i]? = some (b, .inr (0, [.long y1, .long y2, .long y3, .int y4, .int y5]))) : b = a ∧ y1 = x1 ∧ y2 = x2 ∧ y3 = x3 := by
  rw [k] at h
  simp only [Option.some.injEq, Prod.mk.injEq, Sum.inr.injEq, List.cons.injEq, Value.long.injEq, Value.int.injEq, true_and, and_true] at h
  exact ⟨h.1, h.2.1, h.2.2.1, h.2.2.2.1⟩
theorem seg_arc {tail : va_W} {i j a b : Nat} {x1 x2 x3 x4 x5 x6 y1 y2 y3 : Int64} {y4 y5 : Int32} (h : tail[i]? = some (a, .inr (7, [.long x1, .long x2, .long x3, .long x4, .long x5, .long x6]))) (k : tail[j]? = some (b, .inr (0, [.long y1, .long y2, .long y3, .int y4, .int y5]))) : ¬ i = j := fun q => by
  subst q
  rw [k] at h
  simp at h
section LC2
variable {p : Program} {l : Launch} {e : Env} {s : State} {m : MethodId} {args : Array Value} {below : List Frame} {meth : Method} {c : Code} {Q : State → Prop} {G : jG} {A : Nat → Prop} {kc ks : Nat} {L : List (Nat × Value)} {x ot : Nat} {u q : Nat → Nat}
theorem hc_on (X : jX p s m args c cL_law 8 RL wsL_law G A) (XF : exF A s s.heap) (hst : l.stackTraces = false) {j : Nat} {code0 : Int32} {bv0 : Int64} {ws : va_W} (hL : LO G x u q ot j code0 bv0 ws) (hj : j < 64) (g1 : Int32) (g2 : Int64) (g3 : Int64) (hk : kc ≤ 100000 ∧ ks ≤ 1000000) (kk : ∀ (code : Int32) (ws1 : va_W), (∀ (kc ks : Nat) (L : List (Nat × Value)), kc ≤ 200000 ∧ ks ≤ 2000000 → (∀ (w : Int32) (ws2 : va_W), LO G x u q ot (j + 1) code (if w = 0 then 0 else 1) ws2 → J p l e room_1 s m args below meth c Q G A 8 kc ks 1437 L [.int w] ws2) → J p l e room_1 s m args below meth c Q G A 8 kc ks 1434 L [.long g3, .long g2, .int g1, .ref (q 0)] ws1) → J p l e room_1 s m args below meth c Q G A 8 (kc + 1) (ks + 6) 1381 L [.int code] ws1) : J p l e room_1 s m args below meth c Q G A 8 kc ks 1378 L [.ref ot, .long g3, .long g2, .int g1, .ref x] ws := by
  obtain ⟨N, f, C, fx, fy, lx, ly, S1, r1, r2, cs, md, me, mw, A0, B0, gf, ns, nf, nw, fw, cr, po, tx, ty, fa, f1, f2, f3, f4, fr, to1, cx, cy, zs, sf, sig, ofn, tail, rfl, hI, -⟩ := hL
  obtain ⟨⟨hN, hC, hJ⟩, hsh, hgp, hpo, hcr, hz⟩ := id hI
  by_cases hP : 0 ≤ g1.toInt ∧ g1.toInt < N
  · obtain ⟨a, hg1, ha⟩ := ix_n hP (by omega)
    obtain ⟨ad, i1, hf1, hh⟩ := hsh a ha
    by_cases hQ : inC g2.toInt ∧ inC g3.toInt
    · rcases hh with ⟨hz1, ⟨dx, dy, ht1, hs1⟩, ne1⟩ | ⟨hz1, ht1, hs1⟩
      · exact hv_on_s X XF hst hI hj g1 g2 g3 a ad i1 dx dy hg1 ha hf1 ht1 hs1 hz1 hQ hk kk
      · exact hv_on_a X XF hst hI hj g1 g2 g3 a ad i1 hg1 ha hf1 ht1 hs1 hz1 hQ hk kk
    · exact hv_on_2 X XF hst hI hj g1 g2 g3 a ad hg1 ha hf1 hQ hk kk
  · exact hv_on_1 X XF hst hI hj g1 g2 g3 hP hk kk

theorem hc_distance (X : jX p s m args c cL_law 8 RL wsL_law G A) (XF : exF A s s.heap) (hst : l.stackTraces = false) {j : Nat} {code0 : Int32} {bv0 : Int64} {ws : va_W} (hL : LO G x u q ot j code0 bv0 ws) (hj : j < 64) (g1 : Int32) (g2 : Int32) (g3 : Int32) (g4 : Int32) (hk : kc ≤ 100000 ∧ ks ≤ 1000000) (kk : ∀ (code : Int32) (ws1 : va_W), (∀ (kc ks : Nat) (L : List (Nat × Value)), kc ≤ 200000 ∧ ks ≤ 2000000 → (∀ (w : Int64) (ws2 : va_W), LO G x u q ot (j + 1) code w ws2 → J p l e room_1 s m args below meth c Q G A 8 kc ks 921 L [.long w] ws2) → J p l e room_1 s m args below meth c Q G A 8 kc ks 918 L [.int g4, .int g3, .int g2, .int g1, .ref (q 0)] ws1) → J p l e room_1 s m args below meth c Q G A 8 (kc + 1) (ks + 6) 891 L [.int code] ws1) : J p l e room_1 s m args below meth c Q G A 8 kc ks 888 L [.ref ot, .int g4, .int g3, .int g2, .int g1, .ref x] ws := by
  obtain ⟨N, f, C, fx, fy, lx, ly, S1, r1, r2, cs, md, me, mw, A0, B0, gf, ns, nf, nw, fw, cr, po, tx, ty, fa, f1, f2, f3, f4, fr, to1, cx, cy, zs, sf, sig, ofn, tail, rfl, hI, -⟩ := hL
  obtain ⟨⟨hN, hC, hJ⟩, hsh, hgp, hpo, hcr, hz⟩ := id hI
  by_cases hP : (0 ≤ g1.toInt ∧ g1.toInt < N) ∧ (0 ≤ g2.toInt ∧ g2.toInt < N) ∧ (0 ≤ g3.toInt ∧ g3.toInt < 2) ∧ (0 ≤ g4.toInt ∧ g4.toInt < 6)
  · skip
    obtain ⟨a, hg1, ha⟩ := ix_n hP.1 (by omega)
    obtain ⟨b, hg2, hb⟩ := ix_n hP.2.1 (by omega)
    obtain ⟨ad, i1, hf1, hh1⟩ := hsh a ha
    obtain ⟨bd2, i2, hf2, hh2⟩ := hsh b hb
    have hQ := hP.2.2
    rcases hh1 with ⟨hz1, ⟨dx, dy, ht1, hs1⟩, ne1⟩ | ⟨hz1, ht1, hs1⟩
    · rcases hh2 with ⟨hz2, ⟨ex, ey, ht2, hs2⟩, ne2⟩ | ⟨hz2, ht2, hs2⟩
      · by_cases h12 : i1 = i2
        · subst h12
          obtain ⟨q0, q1, q2, q3, q4⟩ := seg_u ht1 ht2
          rw [q0] at hf2
          exact hv_distance_0s X XF hst hI hj g1 g2 g3 g4 a b ad i1 dx dy hg1 ha hf1 ht1 hs1 hz1 hg2 hb hf2 hz2 ⟨q1, q2, q3, q4⟩ ne1 hQ hk kk
        · exact hv_distance_0 X XF hst hI hj g1 g2 g3 g4 a b ad i1 dx dy hg1 ha hf1 ht1 hs1 hz1 bd2 i2 ex ey hg2 hb hf2 ht2 hs2 hz2 h12 ne1 ne2 hQ hk kk
      · exact hv_distance_2b X XF hst hI hj g1 g2 g3 g4 a b ad i1 dx dy hg1 ha hf1 ht1 hs1 hz1 bd2 i2 hg2 hb hf2 ht2 hs2 hz2 (seg_arc ht1 ht2) hQ hk kk
    · exact hv_distance_2a X XF hst hI hj g1 g2 g3 g4 a b bd2 ad i1 hg1 ha hf1 ht1 hs1 hz1 hg2 hb hf2 hQ hk kk
  · exact hv_distance_1 X XF hst hI hj g1 g2 g3 g4 hP hk kk

theorem hc_cross (X : jX p s m args c cL_law 8 RL wsL_law G A) (XF : exF A s s.heap) (hst : l.stackTraces = false) {j : Nat} {code0 : Int32} {bv0 : Int64} {ws : va_W} (hL : LO G x u q ot j code0 bv0 ws) (hj : j < 64) (g1 : Int32) (g2 : Int32) (hk : kc ≤ 100000 ∧ ks ≤ 1000000) (kk : ∀ (code : Int32) (ws1 : va_W), (∀ (kc ks : Nat) (L : List (Nat × Value)), kc ≤ 200000 ∧ ks ≤ 2000000 → (∀ (w : Int32) (ws2 : va_W), LO G x u q ot (j + 1) code w.toInt64 ws2 → J p l e room_1 s m args below meth c Q G A 8 kc ks 1214 L [.int w] ws2) → J p l e room_1 s m args below meth c Q G A 8 kc ks 1211 L [.int g2, .int g1, .ref (q 0)] ws1) → J p l e room_1 s m args below meth c Q G A 8 (kc + 1) (ks + 6) 1196 L [.int code] ws1) : J p l e room_1 s m args below meth c Q G A 8 kc ks 1193 L [.ref ot, .int g2, .int g1, .ref x] ws := by
  obtain ⟨N, f, C, fx, fy, lx, ly, S1, r1, r2, cs, md, me, mw, A0, B0, gf, ns, nf, nw, fw, cr, po, tx, ty, fa, f1, f2, f3, f4, fr, to1, cx, cy, zs, sf, sig, ofn, tail, rfl, hI, -⟩ := hL
  obtain ⟨⟨hN, hC, hJ⟩, hsh, hgp, hpo, hcr, hz⟩ := id hI
  by_cases hP : (0 ≤ g1.toInt ∧ g1.toInt < N) ∧ (0 ≤ g2.toInt ∧ g2.toInt < N)
  · skip
    obtain ⟨a, hg1, ha⟩ := ix_n hP.1 (by omega)
    obtain ⟨b, hg2, hb⟩ := ix_n hP.2 (by omega)
    obtain ⟨ad, i1, hf1, hh1⟩ := hsh a ha
    obtain ⟨bd2, i2, hf2, hh2⟩ := hsh b hb
    rcases hh1 with ⟨hz1, ⟨dx, dy, ht1, hs1⟩, ne1⟩ | ⟨hz1, ht1, hs1⟩
    · rcases hh2 with ⟨hz2, ⟨ex, ey, ht2, hs2⟩, ne2⟩ | ⟨hz2, ht2, hs2⟩
      · by_cases h12 : i1 = i2
        · subst h12
          obtain ⟨q0, q1, q2, q3, q4⟩ := seg_u ht1 ht2
          rw [q0] at hf2
          by_cases hn : xss (f1 a).toInt (f2 a).toInt (f3 a).toInt (f4 a).toInt (f1 a).toInt (f2 a).toInt (f3 a).toInt (f4 a).toInt none
          · exact hv_cross_ss_sx X XF hst hI hj g1 g2 a b ad i1 dx dy hg1 ha hf1 ht1 hs1 hz1 hg2 hb hf2 hz2 ⟨q1, q2, q3, q4⟩ ne1 hn hk kk
          · exact hv_cross_ss_s X XF hst hI hj g1 g2 a b ad i1 dx dy hg1 ha hf1 ht1 hs1 hz1 hg2 hb hf2 hz2 ⟨q1, q2, q3, q4⟩ ne1 hn hk kk
        · by_cases hn : xss (f1 a).toInt (f2 a).toInt (f3 a).toInt (f4 a).toInt (f1 b).toInt (f2 b).toInt (f3 b).toInt (f4 b).toInt none
          · exact hv_cross_ssx X XF hst hI hj g1 g2 a b ad i1 dx dy hg1 ha hf1 ht1 hs1 hz1 bd2 i2 ex ey hg2 hb hf2 ht2 hs2 hz2 h12 ne1 ne2 hn hk kk
          · exact hv_cross_ss X XF hst hI hj g1 g2 a b ad i1 dx dy hg1 ha hf1 ht1 hs1 hz1 bd2 i2 ex ey hg2 hb hf2 ht2 hs2 hz2 h12 ne1 ne2 hn hk kk
      · exact hv_cross_sa X XF hst hI hj g1 g2 a b ad i1 dx dy hg1 ha hf1 ht1 hs1 hz1 bd2 i2 hg2 hb hf2 ht2 hs2 hz2 (seg_arc ht1 ht2) ne1 hk kk
    · rcases hh2 with ⟨hz2, ⟨ex, ey, ht2, hs2⟩, ne2⟩ | ⟨hz2, ht2, hs2⟩
      · exact hv_cross_as X XF hst hI hj g1 g2 a b ad i1 hg1 ha hf1 ht1 hs1 hz1 bd2 i2 ex ey hg2 hb hf2 ht2 hs2 hz2 (seg_arc ht2 ht1) ne2 hk kk
      · by_cases h12 : i1 = i2
        · subst h12
          obtain ⟨q0, q1, q2, q3⟩ := arc_u ht1 ht2
          rw [q0] at hf2
          exact hv_cross_aasx X XF hst hI hj g1 g2 a b ad i1 hg1 ha hf1 ht1 hs1 hz1 hg2 hb hf2 hs2 hz2 ⟨by rw [q1]; omega, by rw [q2]; omega⟩ (by rw [q3]) hk kk
        · by_cases hn : (f1 b).toInt - (f1 a).toInt = 0 ∧ (f2 b).toInt - (f2 a).toInt = 0
          · by_cases hr9 : (f3 a).toInt = (f3 b).toInt
            · exact hv_cross_aaex X XF hst hI hj g1 g2 a b ad i1 hg1 ha hf1 ht1 hs1 hz1 bd2 i2 hg2 hb hf2 ht2 hs2 hz2 h12 hn hr9 hk kk
            · exact hv_cross_aae X XF hst hI hj g1 g2 a b ad i1 hg1 ha hf1 ht1 hs1 hz1 bd2 i2 hg2 hb hf2 ht2 hs2 hz2 h12 hn hr9 hk kk
          · exact hv_cross_aa X XF hst hI hj g1 g2 a b ad i1 hg1 ha hf1 ht1 hs1 hz1 bd2 i2 hg2 hb hf2 ht2 hs2 hz2 h12 hn hk kk
  · exact hv_cross_1 X XF hst hI hj g1 g2 hP hk kk

theorem hc_at (X : jX p s m args c cL_law 8 RL wsL_law G A) (XF : exF A s s.heap) (hst : l.stackTraces = false) {j : Nat} {code0 : Int32} {bv0 : Int64} {ws : va_W} (hL : LO G x u q ot j code0 bv0 ws) (hj : j < 64) (g1 : Int32) (g2 : Int32) (g3 : Int32) (hk : kc ≤ 100000 ∧ ks ≤ 1000000) (kk : ∀ (code : Int32) (ws1 : va_W), (∀ (kc ks : Nat) (L : List (Nat × Value)), kc ≤ 200000 ∧ ks ≤ 2000000 → (∀ (w : Int64) (ws2 : va_W), LO G x u q ot (j + 1) code w ws2 → J p l e room_1 s m args below meth c Q G A 8 kc ks 1294 L [.long w] ws2) → J p l e room_1 s m args below meth c Q G A 8 kc ks 1291 L [.int g3, .int g2, .int g1, .ref (q 0)] ws1) → J p l e room_1 s m args below meth c Q G A 8 (kc + 1) (ks + 6) 1270 L [.int code] ws1) : J p l e room_1 s m args below meth c Q G A 8 kc ks 1267 L [.ref ot, .int g3, .int g2, .int g1, .ref x] ws := by
  obtain ⟨N, f, C, fx, fy, lx, ly, S1, r1, r2, cs, md, me, mw, A0, B0, gf, ns, nf, nw, fw, cr, po, tx, ty, fa, f1, f2, f3, f4, fr, to1, cx, cy, zs, sf, sig, ofn, tail, rfl, hI, -⟩ := hL
  obtain ⟨⟨hN, hC, hJ⟩, hsh, hgp, hpo, hcr, hz⟩ := id hI
  rcases hcr.2 with ⟨hmd, hcr0⟩ | ⟨hmd, hcr0, v, hG, hXP, hKx⟩
  · exact hv_at_1 X XF hst hI hj g1 g2 g3 hmd hcr0 hk kk
  · by_cases hP : ((0 ≤ g1.toInt ∧ g1.toInt < po.toInt) ∧ (0 ≤ g2.toInt ∧ g2.toInt < 2) ∧ (0 ≤ g3.toInt ∧ g3.toInt < 3))
    · have hv : ¬ v.1 = [] := fun q => by
        have q2 := hG.1
        rw [q] at q2
        have q3 : po.toInt = 0 := by rw [q2]; rfl
        omega
      have hXK := hKx hv
      have hl2 := hXK.2.2.2.2.1
      have hp9 : po.toInt = v.1.length := by rw [hG.1, nI_T (by omega)]
      rcases (show g1.toInt = 0 ∨ g1.toInt = 1 by omega) with c1 | c1 <;> rcases (show g2.toInt = 0 ∨ g2.toInt = 1 by omega) with c2 | c2 <;> rcases (show g3.toInt = 0 ∨ g3.toInt = 1 ∨ g3.toInt = 2 by omega) with c3 | c3 | c3
      · exact hv_at_0000 X XF hst hI hj g1 g2 g3 v hG hXP hXK hv _ (List.getElem?_eq_getElem (show 0 < v.1.length by omega)) hmd hcr0 (i_eq (c1.trans rfl)) (i_eq (c2.trans rfl)) (i_eq (c3.trans rfl)) hk kk
      · exact hv_at_0001 X XF hst hI hj g1 g2 g3 v hG hXP hXK hv _ (List.getElem?_eq_getElem (show 0 < v.1.length by omega)) hmd hcr0 (i_eq (c1.trans rfl)) (i_eq (c2.trans rfl)) (i_eq (c3.trans rfl)) hk kk
      · exact hv_at_0002 X XF hst hI hj g1 g2 g3 v hG hXP hXK hv _ (List.getElem?_eq_getElem (show 0 < v.1.length by omega)) hmd hcr0 (i_eq (c1.trans rfl)) (i_eq (c2.trans rfl)) (i_eq (c3.trans rfl)) hk kk
      · exact hv_at_0010 X XF hst hI hj g1 g2 g3 v hG hXP hXK hv _ (List.getElem?_eq_getElem (show 0 < v.1.length by omega)) hmd hcr0 (i_eq (c1.trans rfl)) (i_eq (c2.trans rfl)) (i_eq (c3.trans rfl)) hk kk
      · exact hv_at_0011 X XF hst hI hj g1 g2 g3 v hG hXP hXK hv _ (List.getElem?_eq_getElem (show 0 < v.1.length by omega)) hmd hcr0 (i_eq (c1.trans rfl)) (i_eq (c2.trans rfl)) (i_eq (c3.trans rfl)) hk kk
      · exact hv_at_0012 X XF hst hI hj g1 g2 g3 v hG hXP hXK hv _ (List.getElem?_eq_getElem (show 0 < v.1.length by omega)) hmd hcr0 (i_eq (c1.trans rfl)) (i_eq (c2.trans rfl)) (i_eq (c3.trans rfl)) hk kk
      · exact hv_at_0100 X XF hst hI hj g1 g2 g3 v hG hXP hXK hv _ (List.getElem?_eq_getElem (show 1 < v.1.length by omega)) hmd hcr0 (i_eq (c1.trans rfl)) (i_eq (c2.trans rfl)) (i_eq (c3.trans rfl)) hk kk
      · exact hv_at_0101 X XF hst hI hj g1 g2 g3 v hG hXP hXK hv _ (List.getElem?_eq_getElem (show 1 < v.1.length by omega)) hmd hcr0 (i_eq (c1.trans rfl)) (i_eq (c2.trans rfl)) (i_eq (c3.trans rfl)) hk kk
      · exact hv_at_0102 X XF hst hI hj g1 g2 g3 v hG hXP hXK hv _ (List.getElem?_eq_getElem (show 1 < v.1.length by omega)) hmd hcr0 (i_eq (c1.trans rfl)) (i_eq (c2.trans rfl)) (i_eq (c3.trans rfl)) hk kk
      · exact hv_at_0110 X XF hst hI hj g1 g2 g3 v hG hXP hXK hv _ (List.getElem?_eq_getElem (show 1 < v.1.length by omega)) hmd hcr0 (i_eq (c1.trans rfl)) (i_eq (c2.trans rfl)) (i_eq (c3.trans rfl)) hk kk
      · exact hv_at_0111 X XF hst hI hj g1 g2 g3 v hG hXP hXK hv _ (List.getElem?_eq_getElem (show 1 < v.1.length by omega)) hmd hcr0 (i_eq (c1.trans rfl)) (i_eq (c2.trans rfl)) (i_eq (c3.trans rfl)) hk kk
      · exact hv_at_0112 X XF hst hI hj g1 g2 g3 v hG hXP hXK hv _ (List.getElem?_eq_getElem (show 1 < v.1.length by omega)) hmd hcr0 (i_eq (c1.trans rfl)) (i_eq (c2.trans rfl)) (i_eq (c3.trans rfl)) hk kk
    · exact hv_at_2 X XF hst hI hj g1 g2 g3 hmd hcr0 (hXP.1.trans hG.1.symm) hP hk kk

set_option maxRecDepth 20000 in
theorem lc_on (X : jX p s m args c cL_law 8 RL wsL_law G A) (XF : exF A s s.heap) (hst : l.stackTraces = false) {b K : Nat} {xs : Nat → Int32} (hX : va_X b K xs s s.heap) (hb : b < s.heap.size) (hA : ¬ A b) (hK : K ≤ 832) {i j : Nat} (hi : i + 13 ≤ K) {code0 : Int32} {bv0 : Int64} {ws : va_W} (hL : LO G x u q ot j code0 bv0 ws) (hj : j < 64) (hk : kc ≤ 50000 ∧ ks ≤ 500000) (kk : ∀ (code : Int32) (bv : Int64) (ws2 : va_W), LO G x u q ot (j + 1) code bv ws2 → J p l e room_1 s m args below meth c Q G A 8 (kc + 1) (ks + 6) 1924 [(0, .ref b), (1, .ref x), (2, .ref (q 0)), (3, .ref ot), (4, .int (nI i))] [] ws2) : J p l e room_1 s m args below meth c Q G A 8 kc ks 1326 [(0, .ref b), (1, .ref x), (2, .ref (q 0)), (3, .ref ot), (4, .int (nI i))] [] ws := by
  refine j_aload_n X dL_law_1326 rfl 1 rfl ?_
  refine j_aload_n X dL_law_1327 rfl 0 rfl ?_
  refine j_iload X dL_law_1328 4 rfl ?_
  refine j_iconst (v := 1) X dL_law_1330 rfl ?_
  refine j_iadd X dL_law_1331 ?_
  refine j_sald X hX hb hA dL_law_1332 (i + 1) (sc_1 i) (by omega) (by omega) ?_
  refine j_aload_n X dL_law_1333 rfl 0 rfl ?_
  refine j_iload X dL_law_1334 4 rfl ?_
  refine j_iconst (v := 2) X dL_law_1336 rfl ?_
  refine j_iadd X dL_law_1337 ?_
  refine j_sald X hX hb hA dL_law_1338 (i + 2) (sc_2 i) (by omega) (by omega) ?_
  refine j_i2l X dL_law_1339 rfl ?_
  refine j_bipush (v := 32) X dL_law_1340 (by decide) ?_
  refine j_lshl X dL_law_1342 rfl ?_
  refine j_aload_n X dL_law_1343 rfl 0 rfl ?_
  refine j_iload X dL_law_1344 4 rfl ?_
  refine j_iconst (v := 3) X dL_law_1346 rfl ?_
  refine j_iadd X dL_law_1347 ?_
  refine j_sald X hX hb hA dL_law_1348 (i + 3) (sc_3 i) (by omega) (by omega) ?_
  refine j_i2l X dL_law_1349 rfl ?_
  refine j_ldc2 (v := 4294967295) X dL_law_1350 cst_L_68 ?_
  refine j_land X dL_law_1353 ?_
  refine j_lor X dL_law_1354 ?_
  refine j_aload_n X dL_law_1355 rfl 0 rfl ?_
  refine j_iload X dL_law_1356 4 rfl ?_
  refine j_iconst (v := 4) X dL_law_1358 rfl ?_
  refine j_iadd X dL_law_1359 ?_
  refine j_sald X hX hb hA dL_law_1360 (i + 4) (sc_4 i) (by omega) (by omega) ?_
  refine j_i2l X dL_law_1361 rfl ?_
  refine j_bipush (v := 32) X dL_law_1362 (by decide) ?_
  refine j_lshl X dL_law_1364 rfl ?_
  refine j_aload_n X dL_law_1365 rfl 0 rfl ?_
  refine j_iload X dL_law_1366 4 rfl ?_
  refine j_iconst (v := 5) X dL_law_1368 rfl ?_
  refine j_iadd X dL_law_1369 ?_
  refine j_sald X hX hb hA dL_law_1370 (i + 5) (sc_5 i) (by omega) (by omega) ?_
  refine j_i2l X dL_law_1371 rfl ?_
  refine j_ldc2 (v := 4294967295) X dL_law_1372 cst_L_68 ?_
  refine j_land X dL_law_1375 ?_
  refine j_lor X dL_law_1376 ?_
  refine j_aload_n X dL_law_1377 rfl 3 rfl ?_
  refine hc_on X XF hst hL hj _ _ _ ⟨by omega, by omega⟩ (fun code ws1 hR => ?_)
  refine j_istore (L' := [(5, .int code), (0, .ref b), (1, .ref x), (2, .ref (q 0)), (3, .ref ot), (4, .int (nI i))]) X dL_law_1381 (by decide) rfl ?_
  refine j_aload_n X dL_law_1383 rfl 3 rfl ?_
  refine j_aload_n X dL_law_1384 rfl 1 rfl ?_
  refine j_iload X dL_law_1385 5 rfl ?_
  refine j_iconst (v := 1) X dL_law_1387 rfl ?_
  refine j_iadd X dL_law_1388 ?_
  refine j_sald X hX hb hA dL_law_1389 (i + 1) (sc_1 i) (by omega) (by omega) ?_
  refine j_aload_n X dL_law_1390 rfl 1 rfl ?_
  refine j_iload X dL_law_1391 5 rfl ?_
  refine j_iconst (v := 2) X dL_law_1393 rfl ?_
  refine j_iadd X dL_law_1394 ?_
  refine j_sald X hX hb hA dL_law_1395 (i + 2) (sc_2 i) (by omega) (by omega) ?_
  refine j_i2l X dL_law_1396 rfl ?_
  refine j_bipush (v := 32) X dL_law_1397 (by decide) ?_
  refine j_lshl X dL_law_1399 rfl ?_
  refine j_aload_n X dL_law_1400 rfl 1 rfl ?_
  refine j_iload X dL_law_1401 5 rfl ?_
  refine j_iconst (v := 3) X dL_law_1403 rfl ?_
  refine j_iadd X dL_law_1404 ?_
  refine j_sald X hX hb hA dL_law_1405 (i + 3) (sc_3 i) (by omega) (by omega) ?_
  refine j_i2l X dL_law_1406 rfl ?_
  refine j_ldc2 (v := 4294967295) X dL_law_1407 cst_L_68 ?_
  refine j_land X dL_law_1410 ?_
  refine j_lor X dL_law_1411 ?_
  refine j_aload_n X dL_law_1412 rfl 1 rfl ?_
  refine j_iload X dL_law_1413 5 rfl ?_
  refine j_iconst (v := 4) X dL_law_1415 rfl ?_
  refine j_iadd X dL_law_1416 ?_
  refine j_sald X hX hb hA dL_law_1417 (i + 4) (sc_4 i) (by omega) (by omega) ?_
  refine j_i2l X dL_law_1418 rfl ?_
  refine j_bipush (v := 32) X dL_law_1419 (by decide) ?_
  refine j_lshl X dL_law_1421 rfl ?_
  refine j_aload_n X dL_law_1422 rfl 1 rfl ?_
  refine j_iload X dL_law_1423 5 rfl ?_
  refine j_iconst (v := 5) X dL_law_1425 rfl ?_
  refine j_iadd X dL_law_1426 ?_
  refine j_sald X hX hb hA dL_law_1427 (i + 5) (sc_5 i) (by omega) (by omega) ?_
  refine j_i2l X dL_law_1428 rfl ?_
  refine j_ldc2 (v := 4294967295) X dL_law_1429 cst_L_68 ?_
  refine j_land X dL_law_1432 ?_
  refine j_lor X dL_law_1433 ?_
  refine hR _ _ _ ⟨by omega, by omega⟩ (fun w ws2 hL2 => ?_)
  refine j_istore (L' := [(6, .int w), (5, .int code), (0, .ref b), (1, .ref x), (2, .ref (q 0)), (3, .ref ot), (4, .int (nI i))]) X dL_law_1437 (by decide) rfl ?_
  refine j_aload_n X dL_law_1439 rfl 4 rfl ?_
  refine lo_thr X hL2 dL_law_1440 ⟨by omega, by omega⟩ ?_
  refine j_iload X dL_law_1443 1 rfl ?_
  refine j_icmp_eq (tgt := 1450) X dL_law_1445 (by decide) (fun _ => ?_) (fun c9 => absurd rfl c9)
  refine j_iload X dL_law_1450 1 rfl ?_
  refine j_if_ne (tgt := 1474) X dL_law_1452 (by decide) (fun _ => ?_) (fun c9 => ?_)
  · refine j_goto (tgt := 1924) X dL_law_1474 (by decide) ?_
    refine j_sub [2, 3, 4, 5, 6] rfl ?_
    exact kk _ _ _ hL2
  refine j_aload_n X dL_law_1455 rfl 5 rfl ?_
  refine j_iconst (v := 0) X dL_law_1456 rfl ?_
  refine lo_ld X hL2 c9 dL_law_1457 ?_
  refine j_iload X dL_law_1458 0 rfl ?_
  refine j_if_eq (tgt := 1467) X dL_law_1460 (by decide) (fun c8 => ?_) (fun c8 => ?_)
  · refine j_lconst (v := 0) X dL_law_1467 rfl ?_
    refine j_lcmp X dL_law_1468 ?_
    refine j_if_eq (tgt := 1474) X dL_law_1469 (by decide) (fun _ => ?_) (fun c9 => absurd (by rw [if_pos c8]; exact lgc_s _) c9)
    refine j_goto (tgt := 1924) X dL_law_1474 (by decide) ?_
    refine j_sub [2, 3, 4, 5, 6] rfl ?_
    exact kk _ _ _ hL2
  · refine j_lconst (v := 1) X dL_law_1463 rfl ?_
    refine j_goto (tgt := 1468) X dL_law_1464 (by decide) ?_
    refine j_lcmp X dL_law_1468 ?_
    refine j_if_eq (tgt := 1474) X dL_law_1469 (by decide) (fun _ => ?_) (fun c9 => absurd (by rw [if_neg c8]; exact lgc_s _) c9)
    refine j_goto (tgt := 1924) X dL_law_1474 (by decide) ?_
    refine j_sub [2, 3, 4, 5, 6] rfl ?_
    exact kk _ _ _ hL2

set_option maxRecDepth 20000 in
theorem lc_distance (X : jX p s m args c cL_law 8 RL wsL_law G A) (XF : exF A s s.heap) (hst : l.stackTraces = false) {b K : Nat} {xs : Nat → Int32} (hX : va_X b K xs s s.heap) (hb : b < s.heap.size) (hA : ¬ A b) (hK : K ≤ 832) {i j : Nat} (hi : i + 13 ≤ K) {code0 : Int32} {bv0 : Int64} {ws : va_W} (hL : LO G x u q ot j code0 bv0 ws) (hj : j < 64) (hk : kc ≤ 50000 ∧ ks ≤ 500000) (kk : ∀ (code : Int32) (bv : Int64) (ws2 : va_W), LO G x u q ot (j + 1) code bv ws2 → J p l e room_1 s m args below meth c Q G A 8 (kc + 1) (ks + 6) 1924 [(0, .ref b), (1, .ref x), (2, .ref (q 0)), (3, .ref ot), (4, .int (nI i))] [] ws2) : J p l e room_1 s m args below meth c Q G A 8 kc ks 862 [(0, .ref b), (1, .ref x), (2, .ref (q 0)), (3, .ref ot), (4, .int (nI i))] [] ws := by
  refine j_aload_n X dL_law_862 rfl 1 rfl ?_
  refine j_aload_n X dL_law_863 rfl 0 rfl ?_
  refine j_iload X dL_law_864 4 rfl ?_
  refine j_iconst (v := 1) X dL_law_866 rfl ?_
  refine j_iadd X dL_law_867 ?_
  refine j_sald X hX hb hA dL_law_868 (i + 1) (sc_1 i) (by omega) (by omega) ?_
  refine j_aload_n X dL_law_869 rfl 0 rfl ?_
  refine j_iload X dL_law_870 4 rfl ?_
  refine j_iconst (v := 2) X dL_law_872 rfl ?_
  refine j_iadd X dL_law_873 ?_
  refine j_sald X hX hb hA dL_law_874 (i + 2) (sc_2 i) (by omega) (by omega) ?_
  refine j_aload_n X dL_law_875 rfl 0 rfl ?_
  refine j_iload X dL_law_876 4 rfl ?_
  refine j_iconst (v := 3) X dL_law_878 rfl ?_
  refine j_iadd X dL_law_879 ?_
  refine j_sald X hX hb hA dL_law_880 (i + 3) (sc_3 i) (by omega) (by omega) ?_
  refine j_aload_n X dL_law_881 rfl 0 rfl ?_
  refine j_iload X dL_law_882 4 rfl ?_
  refine j_iconst (v := 4) X dL_law_884 rfl ?_
  refine j_iadd X dL_law_885 ?_
  refine j_sald X hX hb hA dL_law_886 (i + 4) (sc_4 i) (by omega) (by omega) ?_
  refine j_aload_n X dL_law_887 rfl 3 rfl ?_
  refine hc_distance X XF hst hL hj _ _ _ _ ⟨by omega, by omega⟩ (fun code ws1 hR => ?_)
  refine j_istore (L' := [(5, .int code), (0, .ref b), (1, .ref x), (2, .ref (q 0)), (3, .ref ot), (4, .int (nI i))]) X dL_law_891 (by decide) rfl ?_
  refine j_aload_n X dL_law_893 rfl 3 rfl ?_
  refine j_aload_n X dL_law_894 rfl 1 rfl ?_
  refine j_iload X dL_law_895 5 rfl ?_
  refine j_iconst (v := 1) X dL_law_897 rfl ?_
  refine j_iadd X dL_law_898 ?_
  refine j_sald X hX hb hA dL_law_899 (i + 1) (sc_1 i) (by omega) (by omega) ?_
  refine j_aload_n X dL_law_900 rfl 1 rfl ?_
  refine j_iload X dL_law_901 5 rfl ?_
  refine j_iconst (v := 2) X dL_law_903 rfl ?_
  refine j_iadd X dL_law_904 ?_
  refine j_sald X hX hb hA dL_law_905 (i + 2) (sc_2 i) (by omega) (by omega) ?_
  refine j_aload_n X dL_law_906 rfl 1 rfl ?_
  refine j_iload X dL_law_907 5 rfl ?_
  refine j_iconst (v := 3) X dL_law_909 rfl ?_
  refine j_iadd X dL_law_910 ?_
  refine j_sald X hX hb hA dL_law_911 (i + 3) (sc_3 i) (by omega) (by omega) ?_
  refine j_aload_n X dL_law_912 rfl 1 rfl ?_
  refine j_iload X dL_law_913 5 rfl ?_
  refine j_iconst (v := 4) X dL_law_915 rfl ?_
  refine j_iadd X dL_law_916 ?_
  refine j_sald X hX hb hA dL_law_917 (i + 4) (sc_4 i) (by omega) (by omega) ?_
  refine hR _ _ _ ⟨by omega, by omega⟩ (fun w ws2 hL2 => ?_)
  refine j_lstore (L' := [(6, .long w), (5, .int code), (0, .ref b), (1, .ref x), (2, .ref (q 0)), (3, .ref ot), (4, .int (nI i))]) X dL_law_921 (by decide) rfl ?_
  refine j_aload_n X dL_law_923 rfl 4 rfl ?_
  refine lo_thr X hL2 dL_law_924 ⟨by omega, by omega⟩ ?_
  refine j_iload X dL_law_927 1 rfl ?_
  refine j_icmp_eq (tgt := 934) X dL_law_929 (by decide) (fun _ => ?_) (fun c9 => absurd rfl c9)
  refine j_iload X dL_law_934 1 rfl ?_
  refine j_if_ne (tgt := 950) X dL_law_936 (by decide) (fun _ => ?_) (fun c9 => ?_)
  · refine j_goto (tgt := 1924) X dL_law_950 (by decide) ?_
    refine j_sub [2, 3, 4, 5, 6] rfl ?_
    exact kk _ _ _ hL2
  refine j_aload_n X dL_law_939 rfl 5 rfl ?_
  refine j_iconst (v := 0) X dL_law_940 rfl ?_
  refine lo_ld X hL2 c9 dL_law_941 ?_
  refine j_lload X dL_law_942 0 rfl ?_
  refine j_lcmp X dL_law_944 ?_
  refine j_if_eq (tgt := 950) X dL_law_945 (by decide) (fun _ => ?_) (fun c9 => absurd (lgc_s _) c9)
  refine j_goto (tgt := 1924) X dL_law_950 (by decide) ?_
  refine j_sub [2, 3, 4, 5, 6] rfl ?_
  exact kk _ _ _ hL2

set_option maxRecDepth 20000 in
theorem lc_cross (X : jX p s m args c cL_law 8 RL wsL_law G A) (XF : exF A s s.heap) (hst : l.stackTraces = false) {b K : Nat} {xs : Nat → Int32} (hX : va_X b K xs s s.heap) (hb : b < s.heap.size) (hA : ¬ A b) (hK : K ≤ 832) {i j : Nat} (hi : i + 13 ≤ K) {code0 : Int32} {bv0 : Int64} {ws : va_W} (hL : LO G x u q ot j code0 bv0 ws) (hj : j < 64) (hk : kc ≤ 50000 ∧ ks ≤ 500000) (kk : ∀ (code : Int32) (bv : Int64) (ws2 : va_W), LO G x u q ot (j + 1) code bv ws2 → J p l e room_1 s m args below meth c Q G A 8 (kc + 1) (ks + 6) 1924 [(0, .ref b), (1, .ref x), (2, .ref (q 0)), (3, .ref ot), (4, .int (nI i))] [] ws2) : J p l e room_1 s m args below meth c Q G A 8 kc ks 1179 [(0, .ref b), (1, .ref x), (2, .ref (q 0)), (3, .ref ot), (4, .int (nI i))] [] ws := by
  refine j_aload_n X dL_law_1179 rfl 1 rfl ?_
  refine j_aload_n X dL_law_1180 rfl 0 rfl ?_
  refine j_iload X dL_law_1181 4 rfl ?_
  refine j_iconst (v := 1) X dL_law_1183 rfl ?_
  refine j_iadd X dL_law_1184 ?_
  refine j_sald X hX hb hA dL_law_1185 (i + 1) (sc_1 i) (by omega) (by omega) ?_
  refine j_aload_n X dL_law_1186 rfl 0 rfl ?_
  refine j_iload X dL_law_1187 4 rfl ?_
  refine j_iconst (v := 2) X dL_law_1189 rfl ?_
  refine j_iadd X dL_law_1190 ?_
  refine j_sald X hX hb hA dL_law_1191 (i + 2) (sc_2 i) (by omega) (by omega) ?_
  refine j_aload_n X dL_law_1192 rfl 3 rfl ?_
  refine hc_cross X XF hst hL hj _ _ ⟨by omega, by omega⟩ (fun code ws1 hR => ?_)
  refine j_istore (L' := [(5, .int code), (0, .ref b), (1, .ref x), (2, .ref (q 0)), (3, .ref ot), (4, .int (nI i))]) X dL_law_1196 (by decide) rfl ?_
  refine j_aload_n X dL_law_1198 rfl 3 rfl ?_
  refine j_aload_n X dL_law_1199 rfl 1 rfl ?_
  refine j_iload X dL_law_1200 5 rfl ?_
  refine j_iconst (v := 1) X dL_law_1202 rfl ?_
  refine j_iadd X dL_law_1203 ?_
  refine j_sald X hX hb hA dL_law_1204 (i + 1) (sc_1 i) (by omega) (by omega) ?_
  refine j_aload_n X dL_law_1205 rfl 1 rfl ?_
  refine j_iload X dL_law_1206 5 rfl ?_
  refine j_iconst (v := 2) X dL_law_1208 rfl ?_
  refine j_iadd X dL_law_1209 ?_
  refine j_sald X hX hb hA dL_law_1210 (i + 2) (sc_2 i) (by omega) (by omega) ?_
  refine hR _ _ _ ⟨by omega, by omega⟩ (fun w ws2 hL2 => ?_)
  refine j_istore (L' := [(6, .int w), (5, .int code), (0, .ref b), (1, .ref x), (2, .ref (q 0)), (3, .ref ot), (4, .int (nI i))]) X dL_law_1214 (by decide) rfl ?_
  refine j_aload_n X dL_law_1216 rfl 4 rfl ?_
  refine lo_thr X hL2 dL_law_1217 ⟨by omega, by omega⟩ ?_
  refine j_iload X dL_law_1220 1 rfl ?_
  refine j_icmp_eq (tgt := 1227) X dL_law_1222 (by decide) (fun _ => ?_) (fun c9 => absurd rfl c9)
  refine j_iload X dL_law_1227 1 rfl ?_
  refine j_if_ne (tgt := 1244) X dL_law_1229 (by decide) (fun _ => ?_) (fun c9 => ?_)
  · refine j_goto (tgt := 1924) X dL_law_1244 (by decide) ?_
    refine j_sub [2, 3, 4, 5, 6] rfl ?_
    exact kk _ _ _ hL2
  refine j_aload_n X dL_law_1232 rfl 5 rfl ?_
  refine j_iconst (v := 0) X dL_law_1233 rfl ?_
  refine lo_ld X hL2 c9 dL_law_1234 ?_
  refine j_iload X dL_law_1235 0 rfl ?_
  refine j_i2l X dL_law_1237 rfl ?_
  refine j_lcmp X dL_law_1238 ?_
  refine j_if_eq (tgt := 1244) X dL_law_1239 (by decide) (fun _ => ?_) (fun c9 => absurd (lgc_s _) c9)
  refine j_goto (tgt := 1924) X dL_law_1244 (by decide) ?_
  refine j_sub [2, 3, 4, 5, 6] rfl ?_
  exact kk _ _ _ hL2

set_option maxRecDepth 20000 in
theorem lc_at (X : jX p s m args c cL_law 8 RL wsL_law G A) (XF : exF A s s.heap) (hst : l.stackTraces = false) {b K : Nat} {xs : Nat → Int32} (hX : va_X b K xs s s.heap) (hb : b < s.heap.size) (hA : ¬ A b) (hK : K ≤ 832) {i j : Nat} (hi : i + 13 ≤ K) {code0 : Int32} {bv0 : Int64} {ws : va_W} (hL : LO G x u q ot j code0 bv0 ws) (hj : j < 64) (hk : kc ≤ 50000 ∧ ks ≤ 500000) (kk : ∀ (code : Int32) (bv : Int64) (ws2 : va_W), LO G x u q ot (j + 1) code bv ws2 → J p l e room_1 s m args below meth c Q G A 8 (kc + 1) (ks + 6) 1924 [(0, .ref b), (1, .ref x), (2, .ref (q 0)), (3, .ref ot), (4, .int (nI i))] [] ws2) : J p l e room_1 s m args below meth c Q G A 8 kc ks 1247 [(0, .ref b), (1, .ref x), (2, .ref (q 0)), (3, .ref ot), (4, .int (nI i))] [] ws := by
  refine j_aload_n X dL_law_1247 rfl 1 rfl ?_
  refine j_aload_n X dL_law_1248 rfl 0 rfl ?_
  refine j_iload X dL_law_1249 4 rfl ?_
  refine j_iconst (v := 1) X dL_law_1251 rfl ?_
  refine j_iadd X dL_law_1252 ?_
  refine j_sald X hX hb hA dL_law_1253 (i + 1) (sc_1 i) (by omega) (by omega) ?_
  refine j_aload_n X dL_law_1254 rfl 0 rfl ?_
  refine j_iload X dL_law_1255 4 rfl ?_
  refine j_iconst (v := 2) X dL_law_1257 rfl ?_
  refine j_iadd X dL_law_1258 ?_
  refine j_sald X hX hb hA dL_law_1259 (i + 2) (sc_2 i) (by omega) (by omega) ?_
  refine j_aload_n X dL_law_1260 rfl 0 rfl ?_
  refine j_iload X dL_law_1261 4 rfl ?_
  refine j_iconst (v := 3) X dL_law_1263 rfl ?_
  refine j_iadd X dL_law_1264 ?_
  refine j_sald X hX hb hA dL_law_1265 (i + 3) (sc_3 i) (by omega) (by omega) ?_
  refine j_aload_n X dL_law_1266 rfl 3 rfl ?_
  refine hc_at X XF hst hL hj _ _ _ ⟨by omega, by omega⟩ (fun code ws1 hR => ?_)
  refine j_istore (L' := [(5, .int code), (0, .ref b), (1, .ref x), (2, .ref (q 0)), (3, .ref ot), (4, .int (nI i))]) X dL_law_1270 (by decide) rfl ?_
  refine j_aload_n X dL_law_1272 rfl 3 rfl ?_
  refine j_aload_n X dL_law_1273 rfl 1 rfl ?_
  refine j_iload X dL_law_1274 5 rfl ?_
  refine j_iconst (v := 1) X dL_law_1276 rfl ?_
  refine j_iadd X dL_law_1277 ?_
  refine j_sald X hX hb hA dL_law_1278 (i + 1) (sc_1 i) (by omega) (by omega) ?_
  refine j_aload_n X dL_law_1279 rfl 1 rfl ?_
  refine j_iload X dL_law_1280 5 rfl ?_
  refine j_iconst (v := 2) X dL_law_1282 rfl ?_
  refine j_iadd X dL_law_1283 ?_
  refine j_sald X hX hb hA dL_law_1284 (i + 2) (sc_2 i) (by omega) (by omega) ?_
  refine j_aload_n X dL_law_1285 rfl 1 rfl ?_
  refine j_iload X dL_law_1286 5 rfl ?_
  refine j_iconst (v := 3) X dL_law_1288 rfl ?_
  refine j_iadd X dL_law_1289 ?_
  refine j_sald X hX hb hA dL_law_1290 (i + 3) (sc_3 i) (by omega) (by omega) ?_
  refine hR _ _ _ ⟨by omega, by omega⟩ (fun w ws2 hL2 => ?_)
  refine j_lstore (L' := [(6, .long w), (5, .int code), (0, .ref b), (1, .ref x), (2, .ref (q 0)), (3, .ref ot), (4, .int (nI i))]) X dL_law_1294 (by decide) rfl ?_
  refine j_aload_n X dL_law_1296 rfl 4 rfl ?_
  refine lo_thr X hL2 dL_law_1297 ⟨by omega, by omega⟩ ?_
  refine j_iload X dL_law_1300 1 rfl ?_
  refine j_icmp_eq (tgt := 1307) X dL_law_1302 (by decide) (fun _ => ?_) (fun c9 => absurd rfl c9)
  refine j_iload X dL_law_1307 1 rfl ?_
  refine j_if_ne (tgt := 1323) X dL_law_1309 (by decide) (fun _ => ?_) (fun c9 => ?_)
  · refine j_goto (tgt := 1924) X dL_law_1323 (by decide) ?_
    refine j_sub [2, 3, 4, 5, 6] rfl ?_
    exact kk _ _ _ hL2
  refine j_aload_n X dL_law_1312 rfl 5 rfl ?_
  refine j_iconst (v := 0) X dL_law_1313 rfl ?_
  refine lo_ld X hL2 c9 dL_law_1314 ?_
  refine j_lload X dL_law_1315 0 rfl ?_
  refine j_lcmp X dL_law_1317 ?_
  refine j_if_eq (tgt := 1323) X dL_law_1318 (by decide) (fun _ => ?_) (fun c9 => absurd (lgc_s _) c9)
  refine j_goto (tgt := 1924) X dL_law_1323 (by decide) ?_
  refine j_sub [2, 3, 4, 5, 6] rfl ?_
  exact kk _ _ _ hL2

end LC2
