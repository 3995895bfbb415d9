/-! rows of at -/
section HV6
variable {p : Program} {l : Launch} {e : Env} {s : State} {m : MethodId} {args : Array Value} {below : List Frame} {meth : Method} {c : Code} {Q : State → Prop} {G : jG} {A : Nat → Prop} {kc ks : Nat} {L : List (Nat × Value)} {x ot : Nat} {u q : Nat → Nat}
set_option maxHeartbeats 1000000 in
set_option maxRecDepth 100000 in
theorem hv_at_0100 (X : jX p s m args c cL_law 8 RL wsL_law G A) (XF : exF A s s.heap) (hst : l.stackTraces = false) {j : Nat} {N : Nat} {f : Nat → Option Nat} {C : Nat} {fx : Int64} {fy : Int64} {lx : Int64} {ly : Int64} {S1 : Int} {r1 : Nat → Int64} {r2 : Nat → Int64} {cs : XS} {md : Int32} {me : Option Nat} {mw : Option Nat} {A0 : Int} {B0 : Int} {gf : Nat → Nat → Int64} {ns : Int32} {nf : Int64} {nw : Nat → Nat → Int64} {fw : Nat → Int64} {t : Int32} {cr : Int32} {po : Int32} {tx : Int64} {ty : Int64} {fa : Nat → Int32} {f1 : Nat → Int64} {f2 : Nat → Int64} {f3 : Nat → Int64} {f4 : Nat → Int64} {fr : Nat → Int32} {to1 : Nat → Int32} {cx : Nat → Int64} {cy : Nat → Int64} {zs : List Int} {sf : Nat → Int32} {sig : Nat → Int32} {ofn : Nat → Int64} {tail : va_W} (hI : iV N C j f fx fy lx ly S1 cs md me mw A0 B0 cr po tx ty fa f1 f2 f3 f4 fr to1 cx cy zs sf sig tail) (hj : j < 64) (g1 : Int32) (g2 : Int32) (g3 : Int32) (v : XV) (hG : xG v po sig tx ty zs) (hXP : xP v cs) (hXK : xK v) (hv : ¬ v.1 = []) (kq : Int32) (hkq : v.1[1]? = some kq) (hmd : md = 1) (hcr0 : cr = 1) (hg1 : g1 = 1) (hg2 : g2 = 0) (hg3 : g3 = 0) (hk : kc ≤ 100000 ∧ ks ≤ 1000000) (kk : ∀ (code : Int32) (ws1 : va_W), (∀ (kc ks : Nat) (L : List (Nat × Value)), kc ≤ 200000 ∧ ks ≤ 2000000 → (∀ (w : Int64) (ws2 : va_W), LO G x u q ot (j + 1) code w ws2 → J p l e room_1 s m args below meth c Q G A 8 kc ks 1294 L [.long w] ws2) → J p l e room_1 s m args below meth c Q G A 8 kc ks 1291 L [.int g3, .int g2, .int g1, .ref (q 0)] ws1) → J p l e room_1 s m args below meth c Q G A 8 (kc + 1) (ks + 6) 1270 L [.int code] ws1) : J p l e room_1 s m args below meth c Q G A 8 kc ks 1267 L [.ref ot, .int g3, .int g2, .int g1, .ref x] (wL G x u q ot N f C fx fy lx ly S1 r1 r2 cs md me mw A0 B0 gf ns nf nw fw t cr po tx ty fa f1 f2 f3 f4 fr to1 cx cy zs sf sig ofn tail) := by
  obtain ⟨⟨hN, hC, hJ⟩, hsh, hgp, hpo, hcr, hzl, hzs⟩ := id hI
  subst hmd
  subst hcr0
  obtain ⟨hB, hU, hxB⟩ := hXP.2.1 hv
  obtain ⟨⟨e1, e2, e3⟩, e4, e5, e6⟩ := hU.2 kq hkq
  have hP1 : cs.1 13 = dg (v.2.1 - cs.2.2.2.2.1.toInt * v.2.2.2.2.1) := e1
  have hP2 : cs.1 14 = dg (v.2.2.2.2.2.1 * v.2.2.2.2.2.1 * v.2.2.2.1) := e2
  have hP3 : cs.2.1 3 = sg (kq.toInt * v.2.2.2.2.2.1) * sg v.2.2.2.1 := e3
  have hr3 : r3 (cs.2.1 3) := by rw [hP3]; exact r3_sm _ _
  have hQ0 : 0 ≤ v.2.2.2.2.2.1 * v.2.2.2.2.2.1 * v.2.2.2.1 := Int.mul_nonneg (sq_nn _) hXK.2.1.1
  have hh := at_h0 (s := cs.2.1 3) hr3 hB hXK.1 hxB.2.1 hXK.2.2.2.1.1 hQ0
  have hUb := xU_b hXK.1.1 hxB.1.1 hxB.2.1
  obtain ⟨z0, z1, z2, z3, z4, z5, z6, z7, z8, z9, z10, z11, z12, z13, z14, z15, rfl⟩ := l16 hzl
  obtain ⟨⟨w0, w1, w2, w3⟩, w4, w5⟩ := hG.2.2 hv
  obtain rfl : z0 = v.2.1 := w0
  obtain rfl : z1 = v.2.2.1 := w1
  obtain rfl : z2 = v.2.2.2.1 := w2
  obtain rfl : z3 = v.2.2.2.2.1 := w3
  have hlen : 1 < v.1.length := (List.getElem?_eq_some_iff.mp hkq).1
  have hsg : sig 1 = kq := by rw [hG.2.1 1 hlen, List.getD_eq_getElem?_getD, hkq]; rfl
  have hq9 := hXK.2.2.2.2.2 kq (List.mem_of_getElem? hkq)
  have hk9 := (kq_0 hq9).1
  have t2 : g2.toInt = 0 := by rw [hg2]; rfl
  have t3 : g3.toInt = 0 := by rw [hg3]; rfl
  have t1 : g1.toInt = 1 := by rw [hg1]; rfl
  have c2 : ∀ y z : Int, (if g2.toInt = 0 then y else z) = y := fun y z => if_pos t2
  have hpo9 : po.toInt = v.1.length := by rw [hG.1, nI_T (by have := hXK.2.2.2.2.1; omega)]
  have hct9 : cs.2.2.2.1.toInt = v.1.length := by rw [hXP.1, nI_T (by have := hXK.2.2.2.2.1; omega)]
  have hVb := bd_U hXK.1 (xU_b hXK.1.1 hxB.1.1 hxB.2.1)
  have hVc := bd_U hXK.1 (xU_b hXK.1.1 hxB.1.2 hxB.2.2)
  have hM := c_L_at_0100 l G x (u 1) (u 2) (u 5) (u 96) (u 113) (u 120) (nI N) (u 19) (u 20) (u 34) (u 36) (u 51) (u 66) (u 81) (u 88) (u 90) (u 92) (u 94) cs.2.2.2.1 cs.2.2.2.2.1 cs.2.2.2.2.2.1 (u 21) (u 22) (u 23) (u 24) (u 25) (u 32) (u 26) (u 27) (u 28) (u 29) (u 30) (u 33) (u 52) (u 53) (u 54) (u 55) (u 56) (u 57) (u 59) (u 35) (cs.1 0) (cs.1 1) (cs.1 2) (cs.1 3) (cs.1 5) (cs.2.1 0) (cs.2.1 3) (cs.2.2.1 0) (cs.2.2.1 3) (v.2.1 - cs.2.2.2.2.1.toInt * v.2.2.2.2.1) (v.2.2.2.2.2.1 * v.2.2.2.2.2.1 * v.2.2.2.1) cs.2.2.2.2.2.2.1 hh.1.1 hh.1.2 hh.2.1 hh.2.2.1 hh.2.2.2.1 hh.2.2.2.2 (by rw [hct9]; omega) ot ofn
  rw [← hP1, ← hP2] at hM
  have hM2 := cf_perm (W := [(x, .inr (9, [.ref (u 1), .int (nI N), .ref (u 2), .ref (u 5), .ref (u 19), .ref (u 96), .ref (u 113), .ref (u 120)])), ((u 19), .inr (1, [.ref (u 20), .int 1, .int cs.2.2.2.1, .long cs.2.2.2.2.1, .long cs.2.2.2.2.2.1, .ref (u 34), .ref (u 36), .ref (u 51), .ref (u 66), .ref (u 81), .ref (u 88), .ref (u 90), .ref (u 92), .ref (u 94)])), ((u 20), .inr (6, [.ref (u 21), .ref (u 23), .ref (u 25), .ref (u 32)])), ((u 21), .inr (8, [.ref (u 22)])), ((u 22), aJ G 8 (cs.1 0)), ((u 23), .inr (8, [.ref (u 24)])), ((u 24), aJ G 8 (cs.1 1)), ((u 25), .inr (5, [.ref (u 26), .ref (u 28), .int (cs.2.1 0), .long (cs.2.2.1 0), .ref (u 30)])), ((u 26), .inr (8, [.ref (u 27)])), ((u 27), aJ G 8 (cs.1 2)), ((u 28), .inr (8, [.ref (u 29)])), ((u 29), aJ G 8 (cs.1 3)), ((u 32), .inr (8, [.ref (u 33)])), ((u 33), aJ G 8 (cs.1 5)), ((u 34), .inr (8, [.ref (u 35)])), ((u 35), aJ G 8 (dg cs.2.2.2.2.2.2.1)), ((u 51), .inr (3, [.ref (u 52), .ref (u 59)])), ((u 52), .inr (5, [.ref (u 53), .ref (u 55), .int (cs.2.1 3), .long (cs.2.2.1 3), .ref (u 57)])), ((u 53), .inr (8, [.ref (u 54)])), ((u 54), aJ G 8 (cs.1 13)), ((u 55), .inr (8, [.ref (u 56)])), ((u 56), aJ G 8 (cs.1 14)), (ot, aJ G 1 ofn)]) (Bo' := fun z9 => [(x, .inr (9, [.ref (u 1), .int (nI N), .ref (u 2), .ref (u 5), .ref (u 19), .ref (u 96), .ref (u 113), .ref (u 120)])), ((u 19), .inr (1, [.ref (u 20), .int 1, .int cs.2.2.2.1, .long cs.2.2.2.2.1, .long cs.2.2.2.2.2.1, .ref (u 34), .ref (u 36), .ref (u 51), .ref (u 66), .ref (u 81), .ref (u 88), .ref (u 90), .ref (u 92), .ref (u 94)])), ((u 20), .inr (6, [.ref (u 21), .ref (u 23), .ref (u 25), .ref (u 32)])), ((u 21), .inr (8, [.ref (u 22)])), ((u 22), aJ G 8 z9.2.1), ((u 23), .inr (8, [.ref (u 24)])), ((u 24), aJ G 8 z9.2.2.1), ((u 25), .inr (5, [.ref (u 26), .ref (u 28), .int (cs.2.1 3), .long (cs.2.2.1 3), .ref (u 30)])), ((u 26), .inr (8, [.ref (u 27)])), ((u 27), aJ G 8 (dg z9.2.2.2.1)), ((u 28), .inr (8, [.ref (u 29)])), ((u 29), aJ G 8 (cs.1 14)), ((u 32), .inr (8, [.ref (u 33)])), ((u 33), aJ G 8 (dg z9.2.2.2.2)), ((u 34), .inr (8, [.ref (u 35)])), ((u 35), aJ G 8 (dg cs.2.2.2.2.2.2.1)), ((u 51), .inr (3, [.ref (u 52), .ref (u 59)])), ((u 52), .inr (5, [.ref (u 53), .ref (u 55), .int (cs.2.1 3), .long (cs.2.2.1 3), .ref (u 57)])), ((u 53), .inr (8, [.ref (u 54)])), ((u 54), aJ G 8 (cs.1 13)), ((u 55), .inr (8, [.ref (u 56)])), ((u 56), aJ G 8 (cs.1 14)), (ot, aJ G 1 (vp_updL ofn 0 z9.1))]) hM [0, 1, 16, 2, 3, 4, 5, 6, 7, 8, 9, 10, 11, 12, 13, 17, 18, 19, 20, 21, 14, 15, 22] rfl (by decide) (fun _ => rfl) 23 rfl (fun _ => rfl) (by decide)
  refine j_callSWK0 X XF dL_law_1267 hM2 gL_law_L_at rfl hs_L_at ⟨Nat.le_of_ble_eq_true rfl, Nat.le_of_ble_eq_true rfl⟩ mk_at_0100 wl_l rfl rfl (by rw [hg1, hg2, hg3]; rfl) (Nat.le_of_ble_eq_true rfl) ⟨?_, ?_⟩ ?_
  · show kc + 0 ≤ 600128; omega
  · show ks + 0 ≤ 7301097; omega
  rintro v9 u9 hp9
  obtain ⟨rfl, y9, ⟨r9, h9, hr9⟩, h7⟩ := hp9
  change J p l e room_1 s m args below meth c Q G A 8 (kc + 0) (ks + 0) 1270 L [.int 0] (wL G x u q ot N f C fx fy lx ly S1 r1 r2 (xw6 cs.1 u9.2.1 u9.2.2.1 (dg u9.2.2.2.1) (cs.1 14) (dg u9.2.2.2.2), xs0 cs.2.1 (cs.2.1 3), xs0 cs.2.2.1 (cs.2.2.1 3), cs.2.2.2) 1 me mw A0 B0 gf ns nf nw fw t 1 po tx ty fa f1 f2 f3 f4 fr to1 cx cy ([v.2.1, v.2.2.1, v.2.2.2.1, v.2.2.2.2.1, z4, z5, z6, z7, z8, z9, z10, z11, z12, z13, z14, z15]) sf sig (vp_updL ofn 0 u9.1) tail)
  refine j_widen (kc' := kc + 1) (ks' := ks + 6) (Nat.add_le_add_left (Nat.le_of_ble_eq_true rfl) _) (Nat.add_le_add_left (Nat.le_of_ble_eq_true rfl) _) ?_
  refine kk 0 _ (fun kc ks L hk K => ?_)
  refine j_callVK X dL_law_1291 (c_X11_at_0 l G q t (nI N) (nI C) 1 po tx ty v.2.1 v.2.2.1 v.2.2.2.1 v.2.2.2.2.1 z4 z5 z6 z7 z8 z9 z10 z11 z12 z13 z14 z15 sf hzs sig g1 g2 g3 1 hg1 (by decide) (by decide) (⟨⟨by omega, by omega⟩, ⟨by omega, by omega⟩, by omega, by omega⟩) hVb hVc hXK.2.1.2 hXK.2.1.1 (b84 hXK.1) hXK.1.1 (by rw [w4]; exact hXK.2.2.1.1) (by rw [w5]; exact hXK.2.2.1.2) (by rw [hsg, w4]; exact sg_f hq9 (fun q => q.1)) (by rw [hsg, w5]; exact sg_f hq9 (fun q => q.2)) (fun E9 hE9 => by rw [c2] at hE9; rw [c2, c2]; rw [w4] at hE9; rw [w4]; exact at_bd ⟨by omega, by omega⟩ hXK.1.1 hUb hXK.2.2.2.1.1 hE9)) gL_law_X11_at rfl hy_X11_at_V ⟨Nat.le_of_ble_eq_true rfl, Nat.le_of_ble_eq_true rfl⟩ 0 rfl rfl mk_r_at_0 wl_l rfl rfl rfl (Nat.le_of_ble_eq_true rfl) ⟨?_, ?_⟩ ?_
  · show kc + 0 ≤ 600128; omega
  · show ks + 0 ≤ 7301097; omega
  rintro v8 u8 hp8
  obtain ⟨rfl, h81, h82, hk8, hs8⟩ := hp8
  rw [c2, t3, w4] at h81
  rw [c2, c2, t3, w4, hsg] at h82
  exact K _ _ ⟨N, f, C, fx, fy, lx, ly, S1, r1, r2, (xw6 cs.1 u9.2.1 u9.2.2.1 (dg u9.2.2.2.1) (cs.1 14) (dg u9.2.2.2.2), xs0 cs.2.1 (cs.2.1 3), xs0 cs.2.2.1 (cs.2.2.1 3), cs.2.2.2), 1, me, mw, A0, B0, gf, ns, nf, nw, fw, 1, po, tx, ty, fa, f1, f2, f3, f4, fr, to1, cx, cy, u8.2.2.1, u8.2.2.2, sig, vp_updL ofn 0 u9.1, tail, rfl, iv_x hI hj ⟨hcr.1, Or.inr ⟨rfl, rfl, v, ⟨hG.1, hG.2.1, fun _ => ⟨kp_z hk8, w4, w5⟩⟩, ⟨hXP.1, fun _ => ⟨hB, hU, hxB⟩, hXP.2.2⟩, fun _ => hXK⟩⟩ hk8.1 hs8, fun _ => h7.trans (ate_0 hXK.1.1 hXK.2.1.1 hk9 hB hP3 hUb hXK.2.2.2.1.1 h81 h82 (vl_inj h9) hr9)⟩

set_option maxHeartbeats 1000000 in
set_option maxRecDepth 100000 in
theorem hv_at_0101 (X : jX p s m args c cL_law 8 RL wsL_law G A) (XF : exF A s s.heap) (hst : l.stackTraces = false) {j : Nat} {N : Nat} {f : Nat → Option Nat} {C : Nat} {fx : Int64} {fy : Int64} {lx : Int64} {ly : Int64} {S1 : Int} {r1 : Nat → Int64} {r2 : Nat → Int64} {cs : XS} {md : Int32} {me : Option Nat} {mw : Option Nat} {A0 : Int} {B0 : Int} {gf : Nat → Nat → Int64} {ns : Int32} {nf : Int64} {nw : Nat → Nat → Int64} {fw : Nat → Int64} {t : Int32} {cr : Int32} {po : Int32} {tx : Int64} {ty : Int64} {fa : Nat → Int32} {f1 : Nat → Int64} {f2 : Nat → Int64} {f3 : Nat → Int64} {f4 : Nat → Int64} {fr : Nat → Int32} {to1 : Nat → Int32} {cx : Nat → Int64} {cy : Nat → Int64} {zs : List Int} {sf : Nat → Int32} {sig : Nat → Int32} {ofn : Nat → Int64} {tail : va_W} (hI : iV N C j f fx fy lx ly S1 cs md me mw A0 B0 cr po tx ty fa f1 f2 f3 f4 fr to1 cx cy zs sf sig tail) (hj : j < 64) (g1 : Int32) (g2 : Int32) (g3 : Int32) (v : XV) (hG : xG v po sig tx ty zs) (hXP : xP v cs) (hXK : xK v) (hv : ¬ v.1 = []) (kq : Int32) (hkq : v.1[1]? = some kq) (hmd : md = 1) (hcr0 : cr = 1) (hg1 : g1 = 1) (hg2 : g2 = 0) (hg3 : g3 = 1) (hk : kc ≤ 100000 ∧ ks ≤ 1000000) (kk : ∀ (code : Int32) (ws1 : va_W), (∀ (kc ks : Nat) (L : List (Nat × Value)), kc ≤ 200000 ∧ ks ≤ 2000000 → (∀ (w : Int64) (ws2 : va_W), LO G x u q ot (j + 1) code w ws2 → J p l e room_1 s m args below meth c Q G A 8 kc ks 1294 L [.long w] ws2) → J p l e room_1 s m args below meth c Q G A 8 kc ks 1291 L [.int g3, .int g2, .int g1, .ref (q 0)] ws1) → J p l e room_1 s m args below meth c Q G A 8 (kc + 1) (ks + 6) 1270 L [.int code] ws1) : J p l e room_1 s m args below meth c Q G A 8 kc ks 1267 L [.ref ot, .int g3, .int g2, .int g1, .ref x] (wL G x u q ot N f C fx fy lx ly S1 r1 r2 cs md me mw A0 B0 gf ns nf nw fw t cr po tx ty fa f1 f2 f3 f4 fr to1 cx cy zs sf sig ofn tail) := by
  obtain ⟨⟨hN, hC, hJ⟩, hsh, hgp, hpo, hcr, hzl, hzs⟩ := id hI
  subst hmd
  subst hcr0
  obtain ⟨hB, hU, hxB⟩ := hXP.2.1 hv
  obtain ⟨⟨e1, e2, e3⟩, e4, e5, e6⟩ := hU.2 kq hkq
  have hP1 : cs.1 13 = dg (v.2.1 - cs.2.2.2.2.1.toInt * v.2.2.2.2.1) := e1
  have hP2 : cs.1 14 = dg (v.2.2.2.2.2.1 * v.2.2.2.2.2.1 * v.2.2.2.1) := e2
  have hP3 : cs.2.1 3 = sg (kq.toInt * v.2.2.2.2.2.1) * sg v.2.2.2.1 := e3
  have hr3 : r3 (cs.2.1 3) := by rw [hP3]; exact r3_sm _ _
  have hQ0 : 0 ≤ v.2.2.2.2.2.1 * v.2.2.2.2.2.1 * v.2.2.2.1 := Int.mul_nonneg (sq_nn _) hXK.2.1.1
  have hh := at_h0 (s := cs.2.1 3) hr3 hB hXK.1 hxB.2.1 hXK.2.2.2.1.1 hQ0
  have hUb := xU_b hXK.1.1 hxB.1.1 hxB.2.1
  obtain ⟨z0, z1, z2, z3, z4, z5, z6, z7, z8, z9, z10, z11, z12, z13, z14, z15, rfl⟩ := l16 hzl
  obtain ⟨⟨w0, w1, w2, w3⟩, w4, w5⟩ := hG.2.2 hv
  obtain rfl : z0 = v.2.1 := w0
  obtain rfl : z1 = v.2.2.1 := w1
  obtain rfl : z2 = v.2.2.2.1 := w2
  obtain rfl : z3 = v.2.2.2.2.1 := w3
  have hlen : 1 < v.1.length := (List.getElem?_eq_some_iff.mp hkq).1
  have hsg : sig 1 = kq := by rw [hG.2.1 1 hlen, List.getD_eq_getElem?_getD, hkq]; rfl
  have hq9 := hXK.2.2.2.2.2 kq (List.mem_of_getElem? hkq)
  have hk9 := (kq_0 hq9).1
  have t2 : g2.toInt = 0 := by rw [hg2]; rfl
  have t3 : g3.toInt = 1 := by rw [hg3]; rfl
  have t1 : g1.toInt = 1 := by rw [hg1]; rfl
  have c2 : ∀ y z : Int, (if g2.toInt = 0 then y else z) = y := fun y z => if_pos t2
  have hpo9 : po.toInt = v.1.length := by rw [hG.1, nI_T (by have := hXK.2.2.2.2.1; omega)]
  have hct9 : cs.2.2.2.1.toInt = v.1.length := by rw [hXP.1, nI_T (by have := hXK.2.2.2.2.1; omega)]
  have hVb := bd_U hXK.1 (xU_b hXK.1.1 hxB.1.1 hxB.2.1)
  have hVc := bd_U hXK.1 (xU_b hXK.1.1 hxB.1.2 hxB.2.2)
  have hM := c_L_at_0101 l G x (u 1) (u 2) (u 5) (u 96) (u 113) (u 120) (nI N) (u 19) (u 20) (u 34) (u 36) (u 51) (u 66) (u 81) (u 88) (u 90) (u 92) (u 94) cs.2.2.2.1 cs.2.2.2.2.1 cs.2.2.2.2.2.1 (u 21) (u 22) (u 23) (u 24) (u 25) (u 32) (u 26) (u 27) (u 28) (u 29) (u 30) (u 33) (u 52) (u 53) (u 54) (u 55) (u 56) (u 57) (u 59) (u 35) (cs.1 0) (cs.1 1) (cs.1 2) (cs.1 3) (cs.1 5) (cs.2.1 0) (cs.2.1 3) (cs.2.2.1 0) (cs.2.2.1 3) (v.2.1 - cs.2.2.2.2.1.toInt * v.2.2.2.2.1) (v.2.2.2.2.2.1 * v.2.2.2.2.2.1 * v.2.2.2.1) cs.2.2.2.2.2.2.1 hh.1.1 hh.1.2 hh.2.1 hh.2.2.1 hh.2.2.2.1 hh.2.2.2.2 (by rw [hct9]; omega) ot ofn
  rw [← hP1, ← hP2] at hM
  have hM2 := cf_perm (W := [(x, .inr (9, [.ref (u 1), .int (nI N), .ref (u 2), .ref (u 5), .ref (u 19), .ref (u 96), .ref (u 113), .ref (u 120)])), ((u 19), .inr (1, [.ref (u 20), .int 1, .int cs.2.2.2.1, .long cs.2.2.2.2.1, .long cs.2.2.2.2.2.1, .ref (u 34), .ref (u 36), .ref (u 51), .ref (u 66), .ref (u 81), .ref (u 88), .ref (u 90), .ref (u 92), .ref (u 94)])), ((u 20), .inr (6, [.ref (u 21), .ref (u 23), .ref (u 25), .ref (u 32)])), ((u 21), .inr (8, [.ref (u 22)])), ((u 22), aJ G 8 (cs.1 0)), ((u 23), .inr (8, [.ref (u 24)])), ((u 24), aJ G 8 (cs.1 1)), ((u 25), .inr (5, [.ref (u 26), .ref (u 28), .int (cs.2.1 0), .long (cs.2.2.1 0), .ref (u 30)])), ((u 26), .inr (8, [.ref (u 27)])), ((u 27), aJ G 8 (cs.1 2)), ((u 28), .inr (8, [.ref (u 29)])), ((u 29), aJ G 8 (cs.1 3)), ((u 32), .inr (8, [.ref (u 33)])), ((u 33), aJ G 8 (cs.1 5)), ((u 34), .inr (8, [.ref (u 35)])), ((u 35), aJ G 8 (dg cs.2.2.2.2.2.2.1)), ((u 51), .inr (3, [.ref (u 52), .ref (u 59)])), ((u 52), .inr (5, [.ref (u 53), .ref (u 55), .int (cs.2.1 3), .long (cs.2.2.1 3), .ref (u 57)])), ((u 53), .inr (8, [.ref (u 54)])), ((u 54), aJ G 8 (cs.1 13)), ((u 55), .inr (8, [.ref (u 56)])), ((u 56), aJ G 8 (cs.1 14)), (ot, aJ G 1 ofn)]) (Bo' := fun z9 => [(x, .inr (9, [.ref (u 1), .int (nI N), .ref (u 2), .ref (u 5), .ref (u 19), .ref (u 96), .ref (u 113), .ref (u 120)])), ((u 19), .inr (1, [.ref (u 20), .int 1, .int cs.2.2.2.1, .long cs.2.2.2.2.1, .long cs.2.2.2.2.2.1, .ref (u 34), .ref (u 36), .ref (u 51), .ref (u 66), .ref (u 81), .ref (u 88), .ref (u 90), .ref (u 92), .ref (u 94)])), ((u 20), .inr (6, [.ref (u 21), .ref (u 23), .ref (u 25), .ref (u 32)])), ((u 21), .inr (8, [.ref (u 22)])), ((u 22), aJ G 8 z9.2.1), ((u 23), .inr (8, [.ref (u 24)])), ((u 24), aJ G 8 z9.2.2.1), ((u 25), .inr (5, [.ref (u 26), .ref (u 28), .int (cs.2.1 3), .long (cs.2.2.1 3), .ref (u 30)])), ((u 26), .inr (8, [.ref (u 27)])), ((u 27), aJ G 8 (dg z9.2.2.2.1)), ((u 28), .inr (8, [.ref (u 29)])), ((u 29), aJ G 8 (cs.1 14)), ((u 32), .inr (8, [.ref (u 33)])), ((u 33), aJ G 8 (dg z9.2.2.2.2)), ((u 34), .inr (8, [.ref (u 35)])), ((u 35), aJ G 8 (dg cs.2.2.2.2.2.2.1)), ((u 51), .inr (3, [.ref (u 52), .ref (u 59)])), ((u 52), .inr (5, [.ref (u 53), .ref (u 55), .int (cs.2.1 3), .long (cs.2.2.1 3), .ref (u 57)])), ((u 53), .inr (8, [.ref (u 54)])), ((u 54), aJ G 8 (cs.1 13)), ((u 55), .inr (8, [.ref (u 56)])), ((u 56), aJ G 8 (cs.1 14)), (ot, aJ G 1 (vp_updL ofn 0 z9.1))]) hM [0, 1, 16, 2, 3, 4, 5, 6, 7, 8, 9, 10, 11, 12, 13, 17, 18, 19, 20, 21, 14, 15, 22] rfl (by decide) (fun _ => rfl) 23 rfl (fun _ => rfl) (by decide)
  refine j_callSWK0 X XF dL_law_1267 hM2 gL_law_L_at rfl hs_L_at ⟨Nat.le_of_ble_eq_true rfl, Nat.le_of_ble_eq_true rfl⟩ mk_at_0100 wl_l rfl rfl (by rw [hg1, hg2, hg3]; rfl) (Nat.le_of_ble_eq_true rfl) ⟨?_, ?_⟩ ?_
  · show kc + 0 ≤ 600128; omega
  · show ks + 0 ≤ 7301097; omega
  rintro v9 u9 hp9
  obtain ⟨rfl, y9, ⟨r9, F9, h9, hr9, hF9⟩, h7⟩ := hp9
  change J p l e room_1 s m args below meth c Q G A 8 (kc + 0) (ks + 0) 1270 L [.int 0] (wL G x u q ot N f C fx fy lx ly S1 r1 r2 (xw6 cs.1 u9.2.1 u9.2.2.1 (dg u9.2.2.2.1) (cs.1 14) (dg u9.2.2.2.2), xs0 cs.2.1 (cs.2.1 3), xs0 cs.2.2.1 (cs.2.2.1 3), cs.2.2.2) 1 me mw A0 B0 gf ns nf nw fw t 1 po tx ty fa f1 f2 f3 f4 fr to1 cx cy ([v.2.1, v.2.2.1, v.2.2.2.1, v.2.2.2.2.1, z4, z5, z6, z7, z8, z9, z10, z11, z12, z13, z14, z15]) sf sig (vp_updL ofn 0 u9.1) tail)
  refine j_widen (kc' := kc + 1) (ks' := ks + 6) (Nat.add_le_add_left (Nat.le_of_ble_eq_true rfl) _) (Nat.add_le_add_left (Nat.le_of_ble_eq_true rfl) _) ?_
  refine kk 0 _ (fun kc ks L hk K => ?_)
  refine j_callVK X dL_law_1291 (c_X11_at_0 l G q t (nI N) (nI C) 1 po tx ty v.2.1 v.2.2.1 v.2.2.2.1 v.2.2.2.2.1 z4 z5 z6 z7 z8 z9 z10 z11 z12 z13 z14 z15 sf hzs sig g1 g2 g3 1 hg1 (by decide) (by decide) (⟨⟨by omega, by omega⟩, ⟨by omega, by omega⟩, by omega, by omega⟩) hVb hVc hXK.2.1.2 hXK.2.1.1 (b84 hXK.1) hXK.1.1 (by rw [w4]; exact hXK.2.2.1.1) (by rw [w5]; exact hXK.2.2.1.2) (by rw [hsg, w4]; exact sg_f hq9 (fun q => q.1)) (by rw [hsg, w5]; exact sg_f hq9 (fun q => q.2)) (fun E9 hE9 => by rw [c2] at hE9; rw [c2, c2]; rw [w4] at hE9; rw [w4]; exact at_bd ⟨by omega, by omega⟩ hXK.1.1 hUb hXK.2.2.2.1.1 hE9)) gL_law_X11_at rfl hy_X11_at_V ⟨Nat.le_of_ble_eq_true rfl, Nat.le_of_ble_eq_true rfl⟩ 0 rfl rfl mk_r_at_0 wl_l rfl rfl rfl (Nat.le_of_ble_eq_true rfl) ⟨?_, ?_⟩ ?_
  · show kc + 0 ≤ 600128; omega
  · show ks + 0 ≤ 7301097; omega
  rintro v8 u8 hp8
  obtain ⟨rfl, h81, h82, hk8, hs8⟩ := hp8
  rw [c2, t3, w4] at h81
  rw [c2, c2, t3, w4, hsg] at h82
  exact K _ _ ⟨N, f, C, fx, fy, lx, ly, S1, r1, r2, (xw6 cs.1 u9.2.1 u9.2.2.1 (dg u9.2.2.2.1) (cs.1 14) (dg u9.2.2.2.2), xs0 cs.2.1 (cs.2.1 3), xs0 cs.2.2.1 (cs.2.2.1 3), cs.2.2.2), 1, me, mw, A0, B0, gf, ns, nf, nw, fw, 1, po, tx, ty, fa, f1, f2, f3, f4, fr, to1, cx, cy, u8.2.2.1, u8.2.2.2, sig, vp_updL ofn 0 u9.1, tail, rfl, iv_x hI hj ⟨hcr.1, Or.inr ⟨rfl, rfl, v, ⟨hG.1, hG.2.1, fun _ => ⟨kp_z hk8, w4, w5⟩⟩, ⟨hXP.1, fun _ => ⟨hB, hU, hxB⟩, hXP.2.2⟩, fun _ => hXK⟩⟩ hk8.1 hs8, fun _ => h7.trans (ate_1 hXK.1.1 hXK.2.1.1 hk9 hB hP3 hUb hXK.2.2.2.1.1 h81 h82 (vl_inj h9) hr9 hF9)⟩

set_option maxHeartbeats 1000000 in
set_option maxRecDepth 100000 in
theorem hv_at_0102 (X : jX p s m args c cL_law 8 RL wsL_law G A) (XF : exF A s s.heap) (hst : l.stackTraces = false) {j : Nat} {N : Nat} {f : Nat → Option Nat} {C : Nat} {fx : Int64} {fy : Int64} {lx : Int64} {ly : Int64} {S1 : Int} {r1 : Nat → Int64} {r2 : Nat → Int64} {cs : XS} {md : Int32} {me : Option Nat} {mw : Option Nat} {A0 : Int} {B0 : Int} {gf : Nat → Nat → Int64} {ns : Int32} {nf : Int64} {nw : Nat → Nat → Int64} {fw : Nat → Int64} {t : Int32} {cr : Int32} {po : Int32} {tx : Int64} {ty : Int64} {fa : Nat → Int32} {f1 : Nat → Int64} {f2 : Nat → Int64} {f3 : Nat → Int64} {f4 : Nat → Int64} {fr : Nat → Int32} {to1 : Nat → Int32} {cx : Nat → Int64} {cy : Nat → Int64} {zs : List Int} {sf : Nat → Int32} {sig : Nat → Int32} {ofn : Nat → Int64} {tail : va_W} (hI : iV N C j f fx fy lx ly S1 cs md me mw A0 B0 cr po tx ty fa f1 f2 f3 f4 fr to1 cx cy zs sf sig tail) (hj : j < 64) (g1 : Int32) (g2 : Int32) (g3 : Int32) (v : XV) (hG : xG v po sig tx ty zs) (hXP : xP v cs) (hXK : xK v) (hv : ¬ v.1 = []) (kq : Int32) (hkq : v.1[1]? = some kq) (hmd : md = 1) (hcr0 : cr = 1) (hg1 : g1 = 1) (hg2 : g2 = 0) (hg3 : g3 = 2) (hk : kc ≤ 100000 ∧ ks ≤ 1000000) (kk : ∀ (code : Int32) (ws1 : va_W), (∀ (kc ks : Nat) (L : List (Nat × Value)), kc ≤ 200000 ∧ ks ≤ 2000000 → (∀ (w : Int64) (ws2 : va_W), LO G x u q ot (j + 1) code w ws2 → J p l e room_1 s m args below meth c Q G A 8 kc ks 1294 L [.long w] ws2) → J p l e room_1 s m args below meth c Q G A 8 kc ks 1291 L [.int g3, .int g2, .int g1, .ref (q 0)] ws1) → J p l e room_1 s m args below meth c Q G A 8 (kc + 1) (ks + 6) 1270 L [.int code] ws1) : J p l e room_1 s m args below meth c Q G A 8 kc ks 1267 L [.ref ot, .int g3, .int g2, .int g1, .ref x] (wL G x u q ot N f C fx fy lx ly S1 r1 r2 cs md me mw A0 B0 gf ns nf nw fw t cr po tx ty fa f1 f2 f3 f4 fr to1 cx cy zs sf sig ofn tail) := by
  obtain ⟨⟨hN, hC, hJ⟩, hsh, hgp, hpo, hcr, hzl, hzs⟩ := id hI
  subst hmd
  subst hcr0
  obtain ⟨hB, hU, hxB⟩ := hXP.2.1 hv
  obtain ⟨⟨e1, e2, e3⟩, e4, e5, e6⟩ := hU.2 kq hkq
  have hP1 : cs.1 13 = dg (v.2.1 - cs.2.2.2.2.1.toInt * v.2.2.2.2.1) := e1
  have hP2 : cs.1 14 = dg (v.2.2.2.2.2.1 * v.2.2.2.2.2.1 * v.2.2.2.1) := e2
  have hP3 : cs.2.1 3 = sg (kq.toInt * v.2.2.2.2.2.1) * sg v.2.2.2.1 := e3
  have hr3 : r3 (cs.2.1 3) := by rw [hP3]; exact r3_sm _ _
  have hQ0 : 0 ≤ v.2.2.2.2.2.1 * v.2.2.2.2.2.1 * v.2.2.2.1 := Int.mul_nonneg (sq_nn _) hXK.2.1.1
  have hh := at_h2 (s := cs.2.1 3) hr3 hB hXK.1 hxB.2.1 hXK.2.2.2.1.1 hQ0
  have hUb := xU_b hXK.1.1 hxB.1.1 hxB.2.1
  obtain ⟨z0, z1, z2, z3, z4, z5, z6, z7, z8, z9, z10, z11, z12, z13, z14, z15, rfl⟩ := l16 hzl
  obtain ⟨⟨w0, w1, w2, w3⟩, w4, w5⟩ := hG.2.2 hv
  obtain rfl : z0 = v.2.1 := w0
  obtain rfl : z1 = v.2.2.1 := w1
  obtain rfl : z2 = v.2.2.2.1 := w2
  obtain rfl : z3 = v.2.2.2.2.1 := w3
  have hlen : 1 < v.1.length := (List.getElem?_eq_some_iff.mp hkq).1
  have hsg : sig 1 = kq := by rw [hG.2.1 1 hlen, List.getD_eq_getElem?_getD, hkq]; rfl
  have hq9 := hXK.2.2.2.2.2 kq (List.mem_of_getElem? hkq)
  have hk9 := (kq_0 hq9).1
  have t2 : g2.toInt = 0 := by rw [hg2]; rfl
  have t3 : g3.toInt = 2 := by rw [hg3]; rfl
  have t1 : g1.toInt = 1 := by rw [hg1]; rfl
  have c2 : ∀ y z : Int, (if g2.toInt = 0 then y else z) = y := fun y z => if_pos t2
  have hpo9 : po.toInt = v.1.length := by rw [hG.1, nI_T (by have := hXK.2.2.2.2.1; omega)]
  have hct9 : cs.2.2.2.1.toInt = v.1.length := by rw [hXP.1, nI_T (by have := hXK.2.2.2.2.1; omega)]
  have hVb := bd_U hXK.1 (xU_b hXK.1.1 hxB.1.1 hxB.2.1)
  have hVc := bd_U hXK.1 (xU_b hXK.1.1 hxB.1.2 hxB.2.2)
  have hM := c_L_at_0102 l G x (u 1) (u 2) (u 5) (u 96) (u 113) (u 120) (nI N) (u 19) (u 20) (u 34) (u 36) (u 51) (u 66) (u 81) (u 88) (u 90) (u 92) (u 94) cs.2.2.2.1 cs.2.2.2.2.1 cs.2.2.2.2.2.1 (u 21) (u 22) (u 23) (u 24) (u 25) (u 32) (u 26) (u 27) (u 28) (u 29) (u 30) (u 33) (u 52) (u 53) (u 54) (u 55) (u 56) (u 57) (u 59) (u 35) (cs.1 0) (cs.1 1) (cs.1 2) (cs.1 3) (cs.1 5) (cs.2.1 0) (cs.2.1 3) (cs.2.2.1 0) (cs.2.2.1 3) (v.2.1 - cs.2.2.2.2.1.toInt * v.2.2.2.2.1) (v.2.2.2.2.2.1 * v.2.2.2.2.2.1 * v.2.2.2.1) cs.2.2.2.2.2.2.1 hh.1.1 hh.1.2 hh.2.1 hh.2.2.1 hh.2.2.2.1 hh.2.2.2.2 (by rw [hct9]; omega) ot ofn
  rw [← hP1, ← hP2] at hM
  have hM2 := cf_perm (W := [(x, .inr (9, [.ref (u 1), .int (nI N), .ref (u 2), .ref (u 5), .ref (u 19), .ref (u 96), .ref (u 113), .ref (u 120)])), ((u 19), .inr (1, [.ref (u 20), .int 1, .int cs.2.2.2.1, .long cs.2.2.2.2.1, .long cs.2.2.2.2.2.1, .ref (u 34), .ref (u 36), .ref (u 51), .ref (u 66), .ref (u 81), .ref (u 88), .ref (u 90), .ref (u 92), .ref (u 94)])), ((u 20), .inr (6, [.ref (u 21), .ref (u 23), .ref (u 25), .ref (u 32)])), ((u 21), .inr (8, [.ref (u 22)])), ((u 22), aJ G 8 (cs.1 0)), ((u 23), .inr (8, [.ref (u 24)])), ((u 24), aJ G 8 (cs.1 1)), ((u 25), .inr (5, [.ref (u 26), .ref (u 28), .int (cs.2.1 0), .long (cs.2.2.1 0), .ref (u 30)])), ((u 26), .inr (8, [.ref (u 27)])), ((u 27), aJ G 8 (cs.1 2)), ((u 28), .inr (8, [.ref (u 29)])), ((u 29), aJ G 8 (cs.1 3)), ((u 32), .inr (8, [.ref (u 33)])), ((u 33), aJ G 8 (cs.1 5)), ((u 34), .inr (8, [.ref (u 35)])), ((u 35), aJ G 8 (dg cs.2.2.2.2.2.2.1)), ((u 51), .inr (3, [.ref (u 52), .ref (u 59)])), ((u 52), .inr (5, [.ref (u 53), .ref (u 55), .int (cs.2.1 3), .long (cs.2.2.1 3), .ref (u 57)])), ((u 53), .inr (8, [.ref (u 54)])), ((u 54), aJ G 8 (cs.1 13)), ((u 55), .inr (8, [.ref (u 56)])), ((u 56), aJ G 8 (cs.1 14)), (ot, aJ G 1 ofn)]) (Bo' := fun z9 => [(x, .inr (9, [.ref (u 1), .int (nI N), .ref (u 2), .ref (u 5), .ref (u 19), .ref (u 96), .ref (u 113), .ref (u 120)])), ((u 19), .inr (1, [.ref (u 20), .int 1, .int cs.2.2.2.1, .long cs.2.2.2.2.1, .long cs.2.2.2.2.2.1, .ref (u 34), .ref (u 36), .ref (u 51), .ref (u 66), .ref (u 81), .ref (u 88), .ref (u 90), .ref (u 92), .ref (u 94)])), ((u 20), .inr (6, [.ref (u 21), .ref (u 23), .ref (u 25), .ref (u 32)])), ((u 21), .inr (8, [.ref (u 22)])), ((u 22), aJ G 8 z9.2.1), ((u 23), .inr (8, [.ref (u 24)])), ((u 24), aJ G 8 z9.2.2.1), ((u 25), .inr (5, [.ref (u 26), .ref (u 28), .int (cs.2.1 3), .long (cs.2.2.1 3), .ref (u 30)])), ((u 26), .inr (8, [.ref (u 27)])), ((u 27), aJ G 8 (dg z9.2.2.2.1)), ((u 28), .inr (8, [.ref (u 29)])), ((u 29), aJ G 8 (dg ((v.2.2.2.2.2.1 * v.2.2.2.2.2.1 * v.2.2.2.1) * 2 ^ 2))), ((u 32), .inr (8, [.ref (u 33)])), ((u 33), aJ G 8 (dg z9.2.2.2.2)), ((u 34), .inr (8, [.ref (u 35)])), ((u 35), aJ G 8 (dg cs.2.2.2.2.2.2.1)), ((u 51), .inr (3, [.ref (u 52), .ref (u 59)])), ((u 52), .inr (5, [.ref (u 53), .ref (u 55), .int (cs.2.1 3), .long (cs.2.2.1 3), .ref (u 57)])), ((u 53), .inr (8, [.ref (u 54)])), ((u 54), aJ G 8 (cs.1 13)), ((u 55), .inr (8, [.ref (u 56)])), ((u 56), aJ G 8 (cs.1 14)), (ot, aJ G 1 (vp_updL ofn 0 z9.1))]) hM [0, 1, 16, 2, 3, 4, 5, 6, 7, 8, 9, 10, 11, 12, 13, 17, 18, 19, 20, 21, 14, 15, 22] rfl (by decide) (fun _ => rfl) 23 rfl (fun _ => rfl) (by decide)
  refine j_callSWK0 X XF dL_law_1267 hM2 gL_law_L_at rfl hs_L_at ⟨Nat.le_of_ble_eq_true rfl, Nat.le_of_ble_eq_true rfl⟩ mk_at_0100 wl_l rfl rfl (by rw [hg1, hg2, hg3]; rfl) (Nat.le_of_ble_eq_true rfl) ⟨?_, ?_⟩ ?_
  · show kc + 0 ≤ 600128; omega
  · show ks + 0 ≤ 7301097; omega
  rintro v9 u9 hp9
  obtain ⟨rfl, y9, ⟨r9, h9, hr9⟩, h7⟩ := hp9
  change J p l e room_1 s m args below meth c Q G A 8 (kc + 0) (ks + 0) 1270 L [.int 0] (wL G x u q ot N f C fx fy lx ly S1 r1 r2 (xw6 cs.1 u9.2.1 u9.2.2.1 (dg u9.2.2.2.1) (dg (v.2.2.2.2.2.1 * v.2.2.2.2.2.1 * v.2.2.2.1 * 2 ^ 2)) (dg u9.2.2.2.2), xs0 cs.2.1 (cs.2.1 3), xs0 cs.2.2.1 (cs.2.2.1 3), cs.2.2.2) 1 me mw A0 B0 gf ns nf nw fw t 1 po tx ty fa f1 f2 f3 f4 fr to1 cx cy ([v.2.1, v.2.2.1, v.2.2.2.1, v.2.2.2.2.1, z4, z5, z6, z7, z8, z9, z10, z11, z12, z13, z14, z15]) sf sig (vp_updL ofn 0 u9.1) tail)
  refine j_widen (kc' := kc + 1) (ks' := ks + 6) (Nat.add_le_add_left (Nat.le_of_ble_eq_true rfl) _) (Nat.add_le_add_left (Nat.le_of_ble_eq_true rfl) _) ?_
  refine kk 0 _ (fun kc ks L hk K => ?_)
  refine j_callVK X dL_law_1291 (c_X11_at_0 l G q t (nI N) (nI C) 1 po tx ty v.2.1 v.2.2.1 v.2.2.2.1 v.2.2.2.2.1 z4 z5 z6 z7 z8 z9 z10 z11 z12 z13 z14 z15 sf hzs sig g1 g2 g3 1 hg1 (by decide) (by decide) (⟨⟨by omega, by omega⟩, ⟨by omega, by omega⟩, by omega, by omega⟩) hVb hVc hXK.2.1.2 hXK.2.1.1 (b84 hXK.1) hXK.1.1 (by rw [w4]; exact hXK.2.2.1.1) (by rw [w5]; exact hXK.2.2.1.2) (by rw [hsg, w4]; exact sg_f hq9 (fun q => q.1)) (by rw [hsg, w5]; exact sg_f hq9 (fun q => q.2)) (fun E9 hE9 => by rw [c2] at hE9; rw [c2, c2]; rw [w4] at hE9; rw [w4]; exact at_bd ⟨by omega, by omega⟩ hXK.1.1 hUb hXK.2.2.2.1.1 hE9)) gL_law_X11_at rfl hy_X11_at_V ⟨Nat.le_of_ble_eq_true rfl, Nat.le_of_ble_eq_true rfl⟩ 0 rfl rfl mk_r_at_0 wl_l rfl rfl rfl (Nat.le_of_ble_eq_true rfl) ⟨?_, ?_⟩ ?_
  · show kc + 0 ≤ 600128; omega
  · show ks + 0 ≤ 7301097; omega
  rintro v8 u8 hp8
  obtain ⟨rfl, h81, h82, hk8, hs8⟩ := hp8
  rw [c2, t3, w4] at h81
  rw [c2, c2, t3, w4, hsg] at h82
  exact K _ _ ⟨N, f, C, fx, fy, lx, ly, S1, r1, r2, (xw6 cs.1 u9.2.1 u9.2.2.1 (dg u9.2.2.2.1) (dg (v.2.2.2.2.2.1 * v.2.2.2.2.2.1 * v.2.2.2.1 * 2 ^ 2)) (dg u9.2.2.2.2), xs0 cs.2.1 (cs.2.1 3), xs0 cs.2.2.1 (cs.2.2.1 3), cs.2.2.2), 1, me, mw, A0, B0, gf, ns, nf, nw, fw, 1, po, tx, ty, fa, f1, f2, f3, f4, fr, to1, cx, cy, u8.2.2.1, u8.2.2.2, sig, vp_updL ofn 0 u9.1, tail, rfl, iv_x hI hj ⟨hcr.1, Or.inr ⟨rfl, rfl, v, ⟨hG.1, hG.2.1, fun _ => ⟨kp_z hk8, w4, w5⟩⟩, ⟨hXP.1, fun _ => ⟨hB, hU, hxB⟩, hXP.2.2⟩, fun _ => hXK⟩⟩ hk8.1 hs8, fun _ => h7.trans (ate_2 hXK.1.1 hXK.2.1.1 hk9 hB hP3 hUb hXK.2.2.2.1.1 h81 h82 (vl_inj h9) hr9)⟩

set_option maxHeartbeats 1000000 in
set_option maxRecDepth 100000 in
theorem hv_at_0110 (X : jX p s m args c cL_law 8 RL wsL_law G A) (XF : exF A s s.heap) (hst : l.stackTraces = false) {j : Nat} {N : Nat} {f : Nat → Option Nat} {C : Nat} {fx : Int64} {fy : Int64} {lx : Int64} {ly : Int64} {S1 : Int} {r1 : Nat → Int64} {r2 : Nat → Int64} {cs : XS} {md : Int32} {me : Option Nat} {mw : Option Nat} {A0 : Int} {B0 : Int} {gf : Nat → Nat → Int64} {ns : Int32} {nf : Int64} {nw : Nat → Nat → Int64} {fw : Nat → Int64} {t : Int32} {cr : Int32} {po : Int32} {tx : Int64} {ty : Int64} {fa : Nat → Int32} {f1 : Nat → Int64} {f2 : Nat → Int64} {f3 : Nat → Int64} {f4 : Nat → Int64} {fr : Nat → Int32} {to1 : Nat → Int32} {cx : Nat → Int64} {cy : Nat → Int64} {zs : List Int} {sf : Nat → Int32} {sig : Nat → Int32} {ofn : Nat → Int64} {tail : va_W} (hI : iV N C j f fx fy lx ly S1 cs md me mw A0 B0 cr po tx ty fa f1 f2 f3 f4 fr to1 cx cy zs sf sig tail) (hj : j < 64) (g1 : Int32) (g2 : Int32) (g3 : Int32) (v : XV) (hG : xG v po sig tx ty zs) (hXP : xP v cs) (hXK : xK v) (hv : ¬ v.1 = []) (kq : Int32) (hkq : v.1[1]? = some kq) (hmd : md = 1) (hcr0 : cr = 1) (hg1 : g1 = 1) (hg2 : g2 = 1) (hg3 : g3 = 0) (hk : kc ≤ 100000 ∧ ks ≤ 1000000) (kk : ∀ (code : Int32) (ws1 : va_W), (∀ (kc ks : Nat) (L : List (Nat × Value)), kc ≤ 200000 ∧ ks ≤ 2000000 → (∀ (w : Int64) (ws2 : va_W), LO G x u q ot (j + 1) code w ws2 → J p l e room_1 s m args below meth c Q G A 8 kc ks 1294 L [.long w] ws2) → J p l e room_1 s m args below meth c Q G A 8 kc ks 1291 L [.int g3, .int g2, .int g1, .ref (q 0)] ws1) → J p l e room_1 s m args below meth c Q G A 8 (kc + 1) (ks + 6) 1270 L [.int code] ws1) : J p l e room_1 s m args below meth c Q G A 8 kc ks 1267 L [.ref ot, .int g3, .int g2, .int g1, .ref x] (wL G x u q ot N f C fx fy lx ly S1 r1 r2 cs md me mw A0 B0 gf ns nf nw fw t cr po tx ty fa f1 f2 f3 f4 fr to1 cx cy zs sf sig ofn tail) := by
  obtain ⟨⟨hN, hC, hJ⟩, hsh, hgp, hpo, hcr, hzl, hzs⟩ := id hI
  subst hmd
  subst hcr0
  obtain ⟨hB, hU, hxB⟩ := hXP.2.1 hv
  obtain ⟨⟨e1, e2, e3⟩, e4, e5, e6⟩ := hU.2 kq hkq
  have hP1 : cs.1 16 = dg (v.2.2.1 - cs.2.2.2.2.2.1.toInt * v.2.2.2.2.1) := e4
  have hP2 : cs.1 17 = dg (v.2.2.2.2.2.2 * v.2.2.2.2.2.2 * v.2.2.2.1) := e5
  have hP3 : cs.2.1 4 = sg (kq.toInt * v.2.2.2.2.2.2) * sg v.2.2.2.1 := e6
  have hr3 : r3 (cs.2.1 4) := by rw [hP3]; exact r3_sm _ _
  have hQ0 : 0 ≤ v.2.2.2.2.2.2 * v.2.2.2.2.2.2 * v.2.2.2.1 := Int.mul_nonneg (sq_nn _) hXK.2.1.1
  have hh := at_h0 (s := cs.2.1 4) hr3 hB hXK.1 hxB.2.2 hXK.2.2.2.1.2 hQ0
  have hUb := xU_b hXK.1.1 hxB.1.2 hxB.2.2
  obtain ⟨z0, z1, z2, z3, z4, z5, z6, z7, z8, z9, z10, z11, z12, z13, z14, z15, rfl⟩ := l16 hzl
  obtain ⟨⟨w0, w1, w2, w3⟩, w4, w5⟩ := hG.2.2 hv
  obtain rfl : z0 = v.2.1 := w0
  obtain rfl : z1 = v.2.2.1 := w1
  obtain rfl : z2 = v.2.2.2.1 := w2
  obtain rfl : z3 = v.2.2.2.2.1 := w3
  have hlen : 1 < v.1.length := (List.getElem?_eq_some_iff.mp hkq).1
  have hsg : sig 1 = kq := by rw [hG.2.1 1 hlen, List.getD_eq_getElem?_getD, hkq]; rfl
  have hq9 := hXK.2.2.2.2.2 kq (List.mem_of_getElem? hkq)
  have hk9 := (kq_0 hq9).2
  have t2 : g2.toInt = 1 := by rw [hg2]; rfl
  have t3 : g3.toInt = 0 := by rw [hg3]; rfl
  have t1 : g1.toInt = 1 := by rw [hg1]; rfl
  have c2 : ∀ y z : Int, (if g2.toInt = 0 then y else z) = z := fun y z => if_neg (by rw [t2]; decide)
  have hpo9 : po.toInt = v.1.length := by rw [hG.1, nI_T (by have := hXK.2.2.2.2.1; omega)]
  have hct9 : cs.2.2.2.1.toInt = v.1.length := by rw [hXP.1, nI_T (by have := hXK.2.2.2.2.1; omega)]
  have hVb := bd_U hXK.1 (xU_b hXK.1.1 hxB.1.1 hxB.2.1)
  have hVc := bd_U hXK.1 (xU_b hXK.1.1 hxB.1.2 hxB.2.2)
  have hM := c_L_at_0110 l G x (u 1) (u 2) (u 5) (u 96) (u 113) (u 120) (nI N) (u 19) (u 20) (u 34) (u 36) (u 51) (u 66) (u 81) (u 88) (u 90) (u 92) (u 94) cs.2.2.2.1 cs.2.2.2.2.1 cs.2.2.2.2.2.1 (u 21) (u 22) (u 23) (u 24) (u 25) (u 32) (u 26) (u 27) (u 28) (u 29) (u 30) (u 33) (u 59) (u 60) (u 61) (u 62) (u 63) (u 64) (u 52) (u 35) (cs.1 0) (cs.1 1) (cs.1 2) (cs.1 3) (cs.1 5) (cs.2.1 0) (cs.2.1 4) (cs.2.2.1 0) (cs.2.2.1 4) (v.2.2.1 - cs.2.2.2.2.2.1.toInt * v.2.2.2.2.1) (v.2.2.2.2.2.2 * v.2.2.2.2.2.2 * v.2.2.2.1) cs.2.2.2.2.2.2.1 hh.1.1 hh.1.2 hh.2.1 hh.2.2.1 hh.2.2.2.1 hh.2.2.2.2 (by rw [hct9]; omega) ot ofn
  rw [← hP1, ← hP2] at hM
  have hM2 := cf_perm (W := [(x, .inr (9, [.ref (u 1), .int (nI N), .ref (u 2), .ref (u 5), .ref (u 19), .ref (u 96), .ref (u 113), .ref (u 120)])), ((u 19), .inr (1, [.ref (u 20), .int 1, .int cs.2.2.2.1, .long cs.2.2.2.2.1, .long cs.2.2.2.2.2.1, .ref (u 34), .ref (u 36), .ref (u 51), .ref (u 66), .ref (u 81), .ref (u 88), .ref (u 90), .ref (u 92), .ref (u 94)])), ((u 20), .inr (6, [.ref (u 21), .ref (u 23), .ref (u 25), .ref (u 32)])), ((u 21), .inr (8, [.ref (u 22)])), ((u 22), aJ G 8 (cs.1 0)), ((u 23), .inr (8, [.ref (u 24)])), ((u 24), aJ G 8 (cs.1 1)), ((u 25), .inr (5, [.ref (u 26), .ref (u 28), .int (cs.2.1 0), .long (cs.2.2.1 0), .ref (u 30)])), ((u 26), .inr (8, [.ref (u 27)])), ((u 27), aJ G 8 (cs.1 2)), ((u 28), .inr (8, [.ref (u 29)])), ((u 29), aJ G 8 (cs.1 3)), ((u 32), .inr (8, [.ref (u 33)])), ((u 33), aJ G 8 (cs.1 5)), ((u 34), .inr (8, [.ref (u 35)])), ((u 35), aJ G 8 (dg cs.2.2.2.2.2.2.1)), ((u 51), .inr (3, [.ref (u 52), .ref (u 59)])), ((u 59), .inr (5, [.ref (u 60), .ref (u 62), .int (cs.2.1 4), .long (cs.2.2.1 4), .ref (u 64)])), ((u 60), .inr (8, [.ref (u 61)])), ((u 61), aJ G 8 (cs.1 16)), ((u 62), .inr (8, [.ref (u 63)])), ((u 63), aJ G 8 (cs.1 17)), (ot, aJ G 1 ofn)]) (Bo' := fun z9 => [(x, .inr (9, [.ref (u 1), .int (nI N), .ref (u 2), .ref (u 5), .ref (u 19), .ref (u 96), .ref (u 113), .ref (u 120)])), ((u 19), .inr (1, [.ref (u 20), .int 1, .int cs.2.2.2.1, .long cs.2.2.2.2.1, .long cs.2.2.2.2.2.1, .ref (u 34), .ref (u 36), .ref (u 51), .ref (u 66), .ref (u 81), .ref (u 88), .ref (u 90), .ref (u 92), .ref (u 94)])), ((u 20), .inr (6, [.ref (u 21), .ref (u 23), .ref (u 25), .ref (u 32)])), ((u 21), .inr (8, [.ref (u 22)])), ((u 22), aJ G 8 z9.2.1), ((u 23), .inr (8, [.ref (u 24)])), ((u 24), aJ G 8 z9.2.2.1), ((u 25), .inr (5, [.ref (u 26), .ref (u 28), .int (cs.2.1 4), .long (cs.2.2.1 4), .ref (u 30)])), ((u 26), .inr (8, [.ref (u 27)])), ((u 27), aJ G 8 (dg z9.2.2.2.1)), ((u 28), .inr (8, [.ref (u 29)])), ((u 29), aJ G 8 (cs.1 17)), ((u 32), .inr (8, [.ref (u 33)])), ((u 33), aJ G 8 (dg z9.2.2.2.2)), ((u 34), .inr (8, [.ref (u 35)])), ((u 35), aJ G 8 (dg cs.2.2.2.2.2.2.1)), ((u 51), .inr (3, [.ref (u 52), .ref (u 59)])), ((u 59), .inr (5, [.ref (u 60), .ref (u 62), .int (cs.2.1 4), .long (cs.2.2.1 4), .ref (u 64)])), ((u 60), .inr (8, [.ref (u 61)])), ((u 61), aJ G 8 (cs.1 16)), ((u 62), .inr (8, [.ref (u 63)])), ((u 63), aJ G 8 (cs.1 17)), (ot, aJ G 1 (vp_updL ofn 0 z9.1))]) hM [0, 1, 16, 2, 3, 4, 5, 6, 7, 8, 9, 10, 11, 12, 13, 17, 18, 19, 20, 21, 14, 15, 22] rfl (by decide) (fun _ => rfl) 23 rfl (fun _ => rfl) (by decide)
  refine j_callSWK0 X XF dL_law_1267 hM2 gL_law_L_at rfl hs_L_at ⟨Nat.le_of_ble_eq_true rfl, Nat.le_of_ble_eq_true rfl⟩ mk_at_0110 wl_l rfl rfl (by rw [hg1, hg2, hg3]; rfl) (Nat.le_of_ble_eq_true rfl) ⟨?_, ?_⟩ ?_
  · show kc + 0 ≤ 600128; omega
  · show ks + 0 ≤ 7301097; omega
  rintro v9 u9 hp9
  obtain ⟨rfl, y9, ⟨r9, h9, hr9⟩, h7⟩ := hp9
  change J p l e room_1 s m args below meth c Q G A 8 (kc + 0) (ks + 0) 1270 L [.int 0] (wL G x u q ot N f C fx fy lx ly S1 r1 r2 (xw6 cs.1 u9.2.1 u9.2.2.1 (dg u9.2.2.2.1) (cs.1 17) (dg u9.2.2.2.2), xs0 cs.2.1 (cs.2.1 4), xs0 cs.2.2.1 (cs.2.2.1 4), cs.2.2.2) 1 me mw A0 B0 gf ns nf nw fw t 1 po tx ty fa f1 f2 f3 f4 fr to1 cx cy ([v.2.1, v.2.2.1, v.2.2.2.1, v.2.2.2.2.1, z4, z5, z6, z7, z8, z9, z10, z11, z12, z13, z14, z15]) sf sig (vp_updL ofn 0 u9.1) tail)
  refine j_widen (kc' := kc + 1) (ks' := ks + 6) (Nat.add_le_add_left (Nat.le_of_ble_eq_true rfl) _) (Nat.add_le_add_left (Nat.le_of_ble_eq_true rfl) _) ?_
  refine kk 0 _ (fun kc ks L hk K => ?_)
  refine j_callVK X dL_law_1291 (c_X11_at_0 l G q t (nI N) (nI C) 1 po tx ty v.2.1 v.2.2.1 v.2.2.2.1 v.2.2.2.2.1 z4 z5 z6 z7 z8 z9 z10 z11 z12 z13 z14 z15 sf hzs sig g1 g2 g3 1 hg1 (by decide) (by decide) (⟨⟨by omega, by omega⟩, ⟨by omega, by omega⟩, by omega, by omega⟩) hVb hVc hXK.2.1.2 hXK.2.1.1 (b84 hXK.1) hXK.1.1 (by rw [w4]; exact hXK.2.2.1.1) (by rw [w5]; exact hXK.2.2.1.2) (by rw [hsg, w4]; exact sg_f hq9 (fun q => q.1)) (by rw [hsg, w5]; exact sg_f hq9 (fun q => q.2)) (fun E9 hE9 => by rw [c2] at hE9; rw [c2, c2]; rw [w5] at hE9; rw [w5]; exact at_bd ⟨by omega, by omega⟩ hXK.1.1 hUb hXK.2.2.2.1.2 hE9)) gL_law_X11_at rfl hy_X11_at_V ⟨Nat.le_of_ble_eq_true rfl, Nat.le_of_ble_eq_true rfl⟩ 0 rfl rfl mk_r_at_0 wl_l rfl rfl rfl (Nat.le_of_ble_eq_true rfl) ⟨?_, ?_⟩ ?_
  · show kc + 0 ≤ 600128; omega
  · show ks + 0 ≤ 7301097; omega
  rintro v8 u8 hp8
  obtain ⟨rfl, h81, h82, hk8, hs8⟩ := hp8
  rw [c2, t3, w5] at h81
  rw [c2, c2, t3, w5, hsg] at h82
  exact K _ _ ⟨N, f, C, fx, fy, lx, ly, S1, r1, r2, (xw6 cs.1 u9.2.1 u9.2.2.1 (dg u9.2.2.2.1) (cs.1 17) (dg u9.2.2.2.2), xs0 cs.2.1 (cs.2.1 4), xs0 cs.2.2.1 (cs.2.2.1 4), cs.2.2.2), 1, me, mw, A0, B0, gf, ns, nf, nw, fw, 1, po, tx, ty, fa, f1, f2, f3, f4, fr, to1, cx, cy, u8.2.2.1, u8.2.2.2, sig, vp_updL ofn 0 u9.1, tail, rfl, iv_x hI hj ⟨hcr.1, Or.inr ⟨rfl, rfl, v, ⟨hG.1, hG.2.1, fun _ => ⟨kp_z hk8, w4, w5⟩⟩, ⟨hXP.1, fun _ => ⟨hB, hU, hxB⟩, hXP.2.2⟩, fun _ => hXK⟩⟩ hk8.1 hs8, fun _ => h7.trans (ate_0 hXK.1.1 hXK.2.1.1 hk9 hB hP3 hUb hXK.2.2.2.1.2 h81 h82 (vl_inj h9) hr9)⟩

set_option maxHeartbeats 1000000 in
set_option maxRecDepth 100000 in
theorem hv_at_0111 (X : jX p s m args c cL_law 8 RL wsL_law G A) (XF : exF A s s.heap) (hst : l.stackTraces = false) {j : Nat} {N : Nat} {f : Nat → Option Nat} {C : Nat} {fx : Int64} {fy : Int64} {lx : Int64} {ly : Int64} {S1 : Int} {r1 : Nat → Int64} {r2 : Nat → Int64} {cs : XS} {md : Int32} {me : Option Nat} {mw : Option Nat} {A0 : Int} {B0 : Int} {gf : Nat → Nat → Int64} {ns : Int32} {nf : Int64} {nw : Nat → Nat → Int64} {fw : Nat → Int64} {t : Int32} {cr : Int32} {po : Int32} {tx : Int64} {ty : Int64} {fa : Nat → Int32} {f1 : Nat → Int64} {f2 : Nat → Int64} {f3 : Nat → Int64} {f4 : Nat → Int64} {fr : Nat → Int32} {to1 : Nat → Int32} {cx : Nat → Int64} {cy : Nat → Int64} {zs : List Int} {sf : Nat → Int32} {sig : Nat → Int32} {ofn : Nat → Int64} {tail : va_W} (hI : iV N C j f fx fy lx ly S1 cs md me mw A0 B0 cr po tx ty fa f1 f2 f3 f4 fr to1 cx cy zs sf sig tail) (hj : j < 64) (g1 : Int32) (g2 : Int32) (g3 : Int32) (v : XV) (hG : xG v po sig tx ty zs) (hXP : xP v cs) (hXK : xK v) (hv : ¬ v.1 = []) (kq : Int32) (hkq : v.1[1]? = some kq) (hmd : md = 1) (hcr0 : cr = 1) (hg1 : g1 = 1) (hg2 : g2 = 1) (hg3 : g3 = 1) (hk : kc ≤ 100000 ∧ ks ≤ 1000000) (kk : ∀ (code : Int32) (ws1 : va_W), (∀ (kc ks : Nat) (L : List (Nat × Value)), kc ≤ 200000 ∧ ks ≤ 2000000 → (∀ (w : Int64) (ws2 : va_W), LO G x u q ot (j + 1) code w ws2 → J p l e room_1 s m args below meth c Q G A 8 kc ks 1294 L [.long w] ws2) → J p l e room_1 s m args below meth c Q G A 8 kc ks 1291 L [.int g3, .int g2, .int g1, .ref (q 0)] ws1) → J p l e room_1 s m args below meth c Q G A 8 (kc + 1) (ks + 6) 1270 L [.int code] ws1) : J p l e room_1 s m args below meth c Q G A 8 kc ks 1267 L [.ref ot, .int g3, .int g2, .int g1, .ref x] (wL G x u q ot N f C fx fy lx ly S1 r1 r2 cs md me mw A0 B0 gf ns nf nw fw t cr po tx ty fa f1 f2 f3 f4 fr to1 cx cy zs sf sig ofn tail) := by
  obtain ⟨⟨hN, hC, hJ⟩, hsh, hgp, hpo, hcr, hzl, hzs⟩ := id hI
  subst hmd
  subst hcr0
  obtain ⟨hB, hU, hxB⟩ := hXP.2.1 hv
  obtain ⟨⟨e1, e2, e3⟩, e4, e5, e6⟩ := hU.2 kq hkq
  have hP1 : cs.1 16 = dg (v.2.2.1 - cs.2.2.2.2.2.1.toInt * v.2.2.2.2.1) := e4
  have hP2 : cs.1 17 = dg (v.2.2.2.2.2.2 * v.2.2.2.2.2.2 * v.2.2.2.1) := e5
  have hP3 : cs.2.1 4 = sg (kq.toInt * v.2.2.2.2.2.2) * sg v.2.2.2.1 := e6
  have hr3 : r3 (cs.2.1 4) := by rw [hP3]; exact r3_sm _ _
  have hQ0 : 0 ≤ v.2.2.2.2.2.2 * v.2.2.2.2.2.2 * v.2.2.2.1 := Int.mul_nonneg (sq_nn _) hXK.2.1.1
  have hh := at_h0 (s := cs.2.1 4) hr3 hB hXK.1 hxB.2.2 hXK.2.2.2.1.2 hQ0
  have hUb := xU_b hXK.1.1 hxB.1.2 hxB.2.2
  obtain ⟨z0, z1, z2, z3, z4, z5, z6, z7, z8, z9, z10, z11, z12, z13, z14, z15, rfl⟩ := l16 hzl
  obtain ⟨⟨w0, w1, w2, w3⟩, w4, w5⟩ := hG.2.2 hv
  obtain rfl : z0 = v.2.1 := w0
  obtain rfl : z1 = v.2.2.1 := w1
  obtain rfl : z2 = v.2.2.2.1 := w2
  obtain rfl : z3 = v.2.2.2.2.1 := w3
  have hlen : 1 < v.1.length := (List.getElem?_eq_some_iff.mp hkq).1
  have hsg : sig 1 = kq := by rw [hG.2.1 1 hlen, List.getD_eq_getElem?_getD, hkq]; rfl
  have hq9 := hXK.2.2.2.2.2 kq (List.mem_of_getElem? hkq)
  have hk9 := (kq_0 hq9).2
  have t2 : g2.toInt = 1 := by rw [hg2]; rfl
  have t3 : g3.toInt = 1 := by rw [hg3]; rfl
  have t1 : g1.toInt = 1 := by rw [hg1]; rfl
  have c2 : ∀ y z : Int, (if g2.toInt = 0 then y else z) = z := fun y z => if_neg (by rw [t2]; decide)
  have hpo9 : po.toInt = v.1.length := by rw [hG.1, nI_T (by have := hXK.2.2.2.2.1; omega)]
  have hct9 : cs.2.2.2.1.toInt = v.1.length := by rw [hXP.1, nI_T (by have := hXK.2.2.2.2.1; omega)]
  have hVb := bd_U hXK.1 (xU_b hXK.1.1 hxB.1.1 hxB.2.1)
  have hVc := bd_U hXK.1 (xU_b hXK.1.1 hxB.1.2 hxB.2.2)
  have hM := c_L_at_0111 l G x (u 1) (u 2) (u 5) (u 96) (u 113) (u 120) (nI N) (u 19) (u 20) (u 34) (u 36) (u 51) (u 66) (u 81) (u 88) (u 90) (u 92) (u 94) cs.2.2.2.1 cs.2.2.2.2.1 cs.2.2.2.2.2.1 (u 21) (u 22) (u 23) (u 24) (u 25) (u 32) (u 26) (u 27) (u 28) (u 29) (u 30) (u 33) (u 59) (u 60) (u 61) (u 62) (u 63) (u 64) (u 52) (u 35) (cs.1 0) (cs.1 1) (cs.1 2) (cs.1 3) (cs.1 5) (cs.2.1 0) (cs.2.1 4) (cs.2.2.1 0) (cs.2.2.1 4) (v.2.2.1 - cs.2.2.2.2.2.1.toInt * v.2.2.2.2.1) (v.2.2.2.2.2.2 * v.2.2.2.2.2.2 * v.2.2.2.1) cs.2.2.2.2.2.2.1 hh.1.1 hh.1.2 hh.2.1 hh.2.2.1 hh.2.2.2.1 hh.2.2.2.2 (by rw [hct9]; omega) ot ofn
  rw [← hP1, ← hP2] at hM
  have hM2 := cf_perm (W := [(x, .inr (9, [.ref (u 1), .int (nI N), .ref (u 2), .ref (u 5), .ref (u 19), .ref (u 96), .ref (u 113), .ref (u 120)])), ((u 19), .inr (1, [.ref (u 20), .int 1, .int cs.2.2.2.1, .long cs.2.2.2.2.1, .long cs.2.2.2.2.2.1, .ref (u 34), .ref (u 36), .ref (u 51), .ref (u 66), .ref (u 81), .ref (u 88), .ref (u 90), .ref (u 92), .ref (u 94)])), ((u 20), .inr (6, [.ref (u 21), .ref (u 23), .ref (u 25), .ref (u 32)])), ((u 21), .inr (8, [.ref (u 22)])), ((u 22), aJ G 8 (cs.1 0)), ((u 23), .inr (8, [.ref (u 24)])), ((u 24), aJ G 8 (cs.1 1)), ((u 25), .inr (5, [.ref (u 26), .ref (u 28), .int (cs.2.1 0), .long (cs.2.2.1 0), .ref (u 30)])), ((u 26), .inr (8, [.ref (u 27)])), ((u 27), aJ G 8 (cs.1 2)), ((u 28), .inr (8, [.ref (u 29)])), ((u 29), aJ G 8 (cs.1 3)), ((u 32), .inr (8, [.ref (u 33)])), ((u 33), aJ G 8 (cs.1 5)), ((u 34), .inr (8, [.ref (u 35)])), ((u 35), aJ G 8 (dg cs.2.2.2.2.2.2.1)), ((u 51), .inr (3, [.ref (u 52), .ref (u 59)])), ((u 59), .inr (5, [.ref (u 60), .ref (u 62), .int (cs.2.1 4), .long (cs.2.2.1 4), .ref (u 64)])), ((u 60), .inr (8, [.ref (u 61)])), ((u 61), aJ G 8 (cs.1 16)), ((u 62), .inr (8, [.ref (u 63)])), ((u 63), aJ G 8 (cs.1 17)), (ot, aJ G 1 ofn)]) (Bo' := fun z9 => [(x, .inr (9, [.ref (u 1), .int (nI N), .ref (u 2), .ref (u 5), .ref (u 19), .ref (u 96), .ref (u 113), .ref (u 120)])), ((u 19), .inr (1, [.ref (u 20), .int 1, .int cs.2.2.2.1, .long cs.2.2.2.2.1, .long cs.2.2.2.2.2.1, .ref (u 34), .ref (u 36), .ref (u 51), .ref (u 66), .ref (u 81), .ref (u 88), .ref (u 90), .ref (u 92), .ref (u 94)])), ((u 20), .inr (6, [.ref (u 21), .ref (u 23), .ref (u 25), .ref (u 32)])), ((u 21), .inr (8, [.ref (u 22)])), ((u 22), aJ G 8 z9.2.1), ((u 23), .inr (8, [.ref (u 24)])), ((u 24), aJ G 8 z9.2.2.1), ((u 25), .inr (5, [.ref (u 26), .ref (u 28), .int (cs.2.1 4), .long (cs.2.2.1 4), .ref (u 30)])), ((u 26), .inr (8, [.ref (u 27)])), ((u 27), aJ G 8 (dg z9.2.2.2.1)), ((u 28), .inr (8, [.ref (u 29)])), ((u 29), aJ G 8 (cs.1 17)), ((u 32), .inr (8, [.ref (u 33)])), ((u 33), aJ G 8 (dg z9.2.2.2.2)), ((u 34), .inr (8, [.ref (u 35)])), ((u 35), aJ G 8 (dg cs.2.2.2.2.2.2.1)), ((u 51), .inr (3, [.ref (u 52), .ref (u 59)])), ((u 59), .inr (5, [.ref (u 60), .ref (u 62), .int (cs.2.1 4), .long (cs.2.2.1 4), .ref (u 64)])), ((u 60), .inr (8, [.ref (u 61)])), ((u 61), aJ G 8 (cs.1 16)), ((u 62), .inr (8, [.ref (u 63)])), ((u 63), aJ G 8 (cs.1 17)), (ot, aJ G 1 (vp_updL ofn 0 z9.1))]) hM [0, 1, 16, 2, 3, 4, 5, 6, 7, 8, 9, 10, 11, 12, 13, 17, 18, 19, 20, 21, 14, 15, 22] rfl (by decide) (fun _ => rfl) 23 rfl (fun _ => rfl) (by decide)
  refine j_callSWK0 X XF dL_law_1267 hM2 gL_law_L_at rfl hs_L_at ⟨Nat.le_of_ble_eq_true rfl, Nat.le_of_ble_eq_true rfl⟩ mk_at_0110 wl_l rfl rfl (by rw [hg1, hg2, hg3]; rfl) (Nat.le_of_ble_eq_true rfl) ⟨?_, ?_⟩ ?_
  · show kc + 0 ≤ 600128; omega
  · show ks + 0 ≤ 7301097; omega
  rintro v9 u9 hp9
  obtain ⟨rfl, y9, ⟨r9, F9, h9, hr9, hF9⟩, h7⟩ := hp9
  change J p l e room_1 s m args below meth c Q G A 8 (kc + 0) (ks + 0) 1270 L [.int 0] (wL G x u q ot N f C fx fy lx ly S1 r1 r2 (xw6 cs.1 u9.2.1 u9.2.2.1 (dg u9.2.2.2.1) (cs.1 17) (dg u9.2.2.2.2), xs0 cs.2.1 (cs.2.1 4), xs0 cs.2.2.1 (cs.2.2.1 4), cs.2.2.2) 1 me mw A0 B0 gf ns nf nw fw t 1 po tx ty fa f1 f2 f3 f4 fr to1 cx cy ([v.2.1, v.2.2.1, v.2.2.2.1, v.2.2.2.2.1, z4, z5, z6, z7, z8, z9, z10, z11, z12, z13, z14, z15]) sf sig (vp_updL ofn 0 u9.1) tail)
  refine j_widen (kc' := kc + 1) (ks' := ks + 6) (Nat.add_le_add_left (Nat.le_of_ble_eq_true rfl) _) (Nat.add_le_add_left (Nat.le_of_ble_eq_true rfl) _) ?_
  refine kk 0 _ (fun kc ks L hk K => ?_)
  refine j_callVK X dL_law_1291 (c_X11_at_0 l G q t (nI N) (nI C) 1 po tx ty v.2.1 v.2.2.1 v.2.2.2.1 v.2.2.2.2.1 z4 z5 z6 z7 z8 z9 z10 z11 z12 z13 z14 z15 sf hzs sig g1 g2 g3 1 hg1 (by decide) (by decide) (⟨⟨by omega, by omega⟩, ⟨by omega, by omega⟩, by omega, by omega⟩) hVb hVc hXK.2.1.2 hXK.2.1.1 (b84 hXK.1) hXK.1.1 (by rw [w4]; exact hXK.2.2.1.1) (by rw [w5]; exact hXK.2.2.1.2) (by rw [hsg, w4]; exact sg_f hq9 (fun q => q.1)) (by rw [hsg, w5]; exact sg_f hq9 (fun q => q.2)) (fun E9 hE9 => by rw [c2] at hE9; rw [c2, c2]; rw [w5] at hE9; rw [w5]; exact at_bd ⟨by omega, by omega⟩ hXK.1.1 hUb hXK.2.2.2.1.2 hE9)) gL_law_X11_at rfl hy_X11_at_V ⟨Nat.le_of_ble_eq_true rfl, Nat.le_of_ble_eq_true rfl⟩ 0 rfl rfl mk_r_at_0 wl_l rfl rfl rfl (Nat.le_of_ble_eq_true rfl) ⟨?_, ?_⟩ ?_
  · show kc + 0 ≤ 600128; omega
  · show ks + 0 ≤ 7301097; omega
  rintro v8 u8 hp8
  obtain ⟨rfl, h81, h82, hk8, hs8⟩ := hp8
  rw [c2, t3, w5] at h81
  rw [c2, c2, t3, w5, hsg] at h82
  exact K _ _ ⟨N, f, C, fx, fy, lx, ly, S1, r1, r2, (xw6 cs.1 u9.2.1 u9.2.2.1 (dg u9.2.2.2.1) (cs.1 17) (dg u9.2.2.2.2), xs0 cs.2.1 (cs.2.1 4), xs0 cs.2.2.1 (cs.2.2.1 4), cs.2.2.2), 1, me, mw, A0, B0, gf, ns, nf, nw, fw, 1, po, tx, ty, fa, f1, f2, f3, f4, fr, to1, cx, cy, u8.2.2.1, u8.2.2.2, sig, vp_updL ofn 0 u9.1, tail, rfl, iv_x hI hj ⟨hcr.1, Or.inr ⟨rfl, rfl, v, ⟨hG.1, hG.2.1, fun _ => ⟨kp_z hk8, w4, w5⟩⟩, ⟨hXP.1, fun _ => ⟨hB, hU, hxB⟩, hXP.2.2⟩, fun _ => hXK⟩⟩ hk8.1 hs8, fun _ => h7.trans (ate_1 hXK.1.1 hXK.2.1.1 hk9 hB hP3 hUb hXK.2.2.2.1.2 h81 h82 (vl_inj h9) hr9 hF9)⟩

set_option maxHeartbeats 1000000 in
set_option maxRecDepth 100000 in
theorem hv_at_0112 (X : jX p s m args c cL_law 8 RL wsL_law G A) (XF : exF A s s.heap) (hst : l.stackTraces = false) {j : Nat} {N : Nat} {f : Nat → Option Nat} {C : Nat} {fx : Int64} {fy : Int64} {lx : Int64} {ly : Int64} {S1 : Int} {r1 : Nat → Int64} {r2 : Nat → Int64} {cs : XS} {md : Int32} {me : Option Nat} {mw : Option Nat} {A0 : Int} {B0 : Int} {gf : Nat → Nat → Int64} {ns : Int32} {nf : Int64} {nw : Nat → Nat → Int64} {fw : Nat → Int64} {t : Int32} {cr : Int32} {po : Int32} {tx : Int64} {ty : Int64} {fa : Nat → Int32} {f1 : Nat → Int64} {f2 : Nat → Int64} {f3 : Nat → Int64} {f4 : Nat → Int64} {fr : Nat → Int32} {to1 : Nat → Int32} {cx : Nat → Int64} {cy : Nat → Int64} {zs : List Int} {sf : Nat → Int32} {sig : Nat → Int32} {ofn : Nat → Int64} {tail : va_W} (hI : iV N C j f fx fy lx ly S1 cs md me mw A0 B0 cr po tx ty fa f1 f2 f3 f4 fr to1 cx cy zs sf sig tail) (hj : j < 64) (g1 : Int32) (g2 : Int32) (g3 : Int32) (v : XV) (hG : xG v po sig tx ty zs) (hXP : xP v cs) (hXK : xK v) (hv : ¬ v.1 = []) (kq : Int32) (hkq : v.1[1]? = some kq) (hmd : md = 1) (hcr0 : cr = 1) (hg1 : g1 = 1) (hg2 : g2 = 1) (hg3 : g3 = 2) (hk : kc ≤ 100000 ∧ ks ≤ 1000000) (kk : ∀ (code : Int32) (ws1 : va_W), (∀ (kc ks : Nat) (L : List (Nat × Value)), kc ≤ 200000 ∧ ks ≤ 2000000 → (∀ (w : Int64) (ws2 : va_W), LO G x u q ot (j + 1) code w ws2 → J p l e room_1 s m args below meth c Q G A 8 kc ks 1294 L [.long w] ws2) → J p l e room_1 s m args below meth c Q G A 8 kc ks 1291 L [.int g3, .int g2, .int g1, .ref (q 0)] ws1) → J p l e room_1 s m args below meth c Q G A 8 (kc + 1) (ks + 6) 1270 L [.int code] ws1) : J p l e room_1 s m args below meth c Q G A 8 kc ks 1267 L [.ref ot, .int g3, .int g2, .int g1, .ref x] (wL G x u q ot N f C fx fy lx ly S1 r1 r2 cs md me mw A0 B0 gf ns nf nw fw t cr po tx ty fa f1 f2 f3 f4 fr to1 cx cy zs sf sig ofn tail) := by
  obtain ⟨⟨hN, hC, hJ⟩, hsh, hgp, hpo, hcr, hzl, hzs⟩ := id hI
  subst hmd
  subst hcr0
  obtain ⟨hB, hU, hxB⟩ := hXP.2.1 hv
  obtain ⟨⟨e1, e2, e3⟩, e4, e5, e6⟩ := hU.2 kq hkq
  have hP1 : cs.1 16 = dg (v.2.2.1 - cs.2.2.2.2.2.1.toInt * v.2.2.2.2.1) := e4
  have hP2 : cs.1 17 = dg (v.2.2.2.2.2.2 * v.2.2.2.2.2.2 * v.2.2.2.1) := e5
  have hP3 : cs.2.1 4 = sg (kq.toInt * v.2.2.2.2.2.2) * sg v.2.2.2.1 := e6
  have hr3 : r3 (cs.2.1 4) := by rw [hP3]; exact r3_sm _ _
  have hQ0 : 0 ≤ v.2.2.2.2.2.2 * v.2.2.2.2.2.2 * v.2.2.2.1 := Int.mul_nonneg (sq_nn _) hXK.2.1.1
  have hh := at_h2 (s := cs.2.1 4) hr3 hB hXK.1 hxB.2.2 hXK.2.2.2.1.2 hQ0
  have hUb := xU_b hXK.1.1 hxB.1.2 hxB.2.2
  obtain ⟨z0, z1, z2, z3, z4, z5, z6, z7, z8, z9, z10, z11, z12, z13, z14, z15, rfl⟩ := l16 hzl
  obtain ⟨⟨w0, w1, w2, w3⟩, w4, w5⟩ := hG.2.2 hv
  obtain rfl : z0 = v.2.1 := w0
  obtain rfl : z1 = v.2.2.1 := w1
  obtain rfl : z2 = v.2.2.2.1 := w2
  obtain rfl : z3 = v.2.2.2.2.1 := w3
  have hlen : 1 < v.1.length := (List.getElem?_eq_some_iff.mp hkq).1
  have hsg : sig 1 = kq := by rw [hG.2.1 1 hlen, List.getD_eq_getElem?_getD, hkq]; rfl
  have hq9 := hXK.2.2.2.2.2 kq (List.mem_of_getElem? hkq)
  have hk9 := (kq_0 hq9).2
  have t2 : g2.toInt = 1 := by rw [hg2]; rfl
  have t3 : g3.toInt = 2 := by rw [hg3]; rfl
  have t1 : g1.toInt = 1 := by rw [hg1]; rfl
  have c2 : ∀ y z : Int, (if g2.toInt = 0 then y else z) = z := fun y z => if_neg (by rw [t2]; decide)
  have hpo9 : po.toInt = v.1.length := by rw [hG.1, nI_T (by have := hXK.2.2.2.2.1; omega)]
  have hct9 : cs.2.2.2.1.toInt = v.1.length := by rw [hXP.1, nI_T (by have := hXK.2.2.2.2.1; omega)]
  have hVb := bd_U hXK.1 (xU_b hXK.1.1 hxB.1.1 hxB.2.1)
  have hVc := bd_U hXK.1 (xU_b hXK.1.1 hxB.1.2 hxB.2.2)
  have hM := c_L_at_0112 l G x (u 1) (u 2) (u 5) (u 96) (u 113) (u 120) (nI N) (u 19) (u 20) (u 34) (u 36) (u 51) (u 66) (u 81) (u 88) (u 90) (u 92) (u 94) cs.2.2.2.1 cs.2.2.2.2.1 cs.2.2.2.2.2.1 (u 21) (u 22) (u 23) (u 24) (u 25) (u 32) (u 26) (u 27) (u 28) (u 29) (u 30) (u 33) (u 59) (u 60) (u 61) (u 62) (u 63) (u 64) (u 52) (u 35) (cs.1 0) (cs.1 1) (cs.1 2) (cs.1 3) (cs.1 5) (cs.2.1 0) (cs.2.1 4) (cs.2.2.1 0) (cs.2.2.1 4) (v.2.2.1 - cs.2.2.2.2.2.1.toInt * v.2.2.2.2.1) (v.2.2.2.2.2.2 * v.2.2.2.2.2.2 * v.2.2.2.1) cs.2.2.2.2.2.2.1 hh.1.1 hh.1.2 hh.2.1 hh.2.2.1 hh.2.2.2.1 hh.2.2.2.2 (by rw [hct9]; omega) ot ofn
  rw [← hP1, ← hP2] at hM
  have hM2 := cf_perm (W := [(x, .inr (9, [.ref (u 1), .int (nI N), .ref (u 2), .ref (u 5), .ref (u 19), .ref (u 96), .ref (u 113), .ref (u 120)])), ((u 19), .inr (1, [.ref (u 20), .int 1, .int cs.2.2.2.1, .long cs.2.2.2.2.1, .long cs.2.2.2.2.2.1, .ref (u 34), .ref (u 36), .ref (u 51), .ref (u 66), .ref (u 81), .ref (u 88), .ref (u 90), .ref (u 92), .ref (u 94)])), ((u 20), .inr (6, [.ref (u 21), .ref (u 23), .ref (u 25), .ref (u 32)])), ((u 21), .inr (8, [.ref (u 22)])), ((u 22), aJ G 8 (cs.1 0)), ((u 23), .inr (8, [.ref (u 24)])), ((u 24), aJ G 8 (cs.1 1)), ((u 25), .inr (5, [.ref (u 26), .ref (u 28), .int (cs.2.1 0), .long (cs.2.2.1 0), .ref (u 30)])), ((u 26), .inr (8, [.ref (u 27)])), ((u 27), aJ G 8 (cs.1 2)), ((u 28), .inr (8, [.ref (u 29)])), ((u 29), aJ G 8 (cs.1 3)), ((u 32), .inr (8, [.ref (u 33)])), ((u 33), aJ G 8 (cs.1 5)), ((u 34), .inr (8, [.ref (u 35)])), ((u 35), aJ G 8 (dg cs.2.2.2.2.2.2.1)), ((u 51), .inr (3, [.ref (u 52), .ref (u 59)])), ((u 59), .inr (5, [.ref (u 60), .ref (u 62), .int (cs.2.1 4), .long (cs.2.2.1 4), .ref (u 64)])), ((u 60), .inr (8, [.ref (u 61)])), ((u 61), aJ G 8 (cs.1 16)), ((u 62), .inr (8, [.ref (u 63)])), ((u 63), aJ G 8 (cs.1 17)), (ot, aJ G 1 ofn)]) (Bo' := fun z9 => [(x, .inr (9, [.ref (u 1), .int (nI N), .ref (u 2), .ref (u 5), .ref (u 19), .ref (u 96), .ref (u 113), .ref (u 120)])), ((u 19), .inr (1, [.ref (u 20), .int 1, .int cs.2.2.2.1, .long cs.2.2.2.2.1, .long cs.2.2.2.2.2.1, .ref (u 34), .ref (u 36), .ref (u 51), .ref (u 66), .ref (u 81), .ref (u 88), .ref (u 90), .ref (u 92), .ref (u 94)])), ((u 20), .inr (6, [.ref (u 21), .ref (u 23), .ref (u 25), .ref (u 32)])), ((u 21), .inr (8, [.ref (u 22)])), ((u 22), aJ G 8 z9.2.1), ((u 23), .inr (8, [.ref (u 24)])), ((u 24), aJ G 8 z9.2.2.1), ((u 25), .inr (5, [.ref (u 26), .ref (u 28), .int (cs.2.1 4), .long (cs.2.2.1 4), .ref (u 30)])), ((u 26), .inr (8, [.ref (u 27)])), ((u 27), aJ G 8 (dg z9.2.2.2.1)), ((u 28), .inr (8, [.ref (u 29)])), ((u 29), aJ G 8 (dg ((v.2.2.2.2.2.2 * v.2.2.2.2.2.2 * v.2.2.2.1) * 2 ^ 2))), ((u 32), .inr (8, [.ref (u 33)])), ((u 33), aJ G 8 (dg z9.2.2.2.2)), ((u 34), .inr (8, [.ref (u 35)])), ((u 35), aJ G 8 (dg cs.2.2.2.2.2.2.1)), ((u 51), .inr (3, [.ref (u 52), .ref (u 59)])), ((u 59), .inr (5, [.ref (u 60), .ref (u 62), .int (cs.2.1 4), .long (cs.2.2.1 4), .ref (u 64)])), ((u 60), .inr (8, [.ref (u 61)])), ((u 61), aJ G 8 (cs.1 16)), ((u 62), .inr (8, [.ref (u 63)])), ((u 63), aJ G 8 (cs.1 17)), (ot, aJ G 1 (vp_updL ofn 0 z9.1))]) hM [0, 1, 16, 2, 3, 4, 5, 6, 7, 8, 9, 10, 11, 12, 13, 17, 18, 19, 20, 21, 14, 15, 22] rfl (by decide) (fun _ => rfl) 23 rfl (fun _ => rfl) (by decide)
  refine j_callSWK0 X XF dL_law_1267 hM2 gL_law_L_at rfl hs_L_at ⟨Nat.le_of_ble_eq_true rfl, Nat.le_of_ble_eq_true rfl⟩ mk_at_0110 wl_l rfl rfl (by rw [hg1, hg2, hg3]; rfl) (Nat.le_of_ble_eq_true rfl) ⟨?_, ?_⟩ ?_
  · show kc + 0 ≤ 600128; omega
  · show ks + 0 ≤ 7301097; omega
  rintro v9 u9 hp9
  obtain ⟨rfl, y9, ⟨r9, h9, hr9⟩, h7⟩ := hp9
  change J p l e room_1 s m args below meth c Q G A 8 (kc + 0) (ks + 0) 1270 L [.int 0] (wL G x u q ot N f C fx fy lx ly S1 r1 r2 (xw6 cs.1 u9.2.1 u9.2.2.1 (dg u9.2.2.2.1) (dg (v.2.2.2.2.2.2 * v.2.2.2.2.2.2 * v.2.2.2.1 * 2 ^ 2)) (dg u9.2.2.2.2), xs0 cs.2.1 (cs.2.1 4), xs0 cs.2.2.1 (cs.2.2.1 4), cs.2.2.2) 1 me mw A0 B0 gf ns nf nw fw t 1 po tx ty fa f1 f2 f3 f4 fr to1 cx cy ([v.2.1, v.2.2.1, v.2.2.2.1, v.2.2.2.2.1, z4, z5, z6, z7, z8, z9, z10, z11, z12, z13, z14, z15]) sf sig (vp_updL ofn 0 u9.1) tail)
  refine j_widen (kc' := kc + 1) (ks' := ks + 6) (Nat.add_le_add_left (Nat.le_of_ble_eq_true rfl) _) (Nat.add_le_add_left (Nat.le_of_ble_eq_true rfl) _) ?_
  refine kk 0 _ (fun kc ks L hk K => ?_)
  refine j_callVK X dL_law_1291 (c_X11_at_0 l G q t (nI N) (nI C) 1 po tx ty v.2.1 v.2.2.1 v.2.2.2.1 v.2.2.2.2.1 z4 z5 z6 z7 z8 z9 z10 z11 z12 z13 z14 z15 sf hzs sig g1 g2 g3 1 hg1 (by decide) (by decide) (⟨⟨by omega, by omega⟩, ⟨by omega, by omega⟩, by omega, by omega⟩) hVb hVc hXK.2.1.2 hXK.2.1.1 (b84 hXK.1) hXK.1.1 (by rw [w4]; exact hXK.2.2.1.1) (by rw [w5]; exact hXK.2.2.1.2) (by rw [hsg, w4]; exact sg_f hq9 (fun q => q.1)) (by rw [hsg, w5]; exact sg_f hq9 (fun q => q.2)) (fun E9 hE9 => by rw [c2] at hE9; rw [c2, c2]; rw [w5] at hE9; rw [w5]; exact at_bd ⟨by omega, by omega⟩ hXK.1.1 hUb hXK.2.2.2.1.2 hE9)) gL_law_X11_at rfl hy_X11_at_V ⟨Nat.le_of_ble_eq_true rfl, Nat.le_of_ble_eq_true rfl⟩ 0 rfl rfl mk_r_at_0 wl_l rfl rfl rfl (Nat.le_of_ble_eq_true rfl) ⟨?_, ?_⟩ ?_
  · show kc + 0 ≤ 600128; omega
  · show ks + 0 ≤ 7301097; omega
  rintro v8 u8 hp8
  obtain ⟨rfl, h81, h82, hk8, hs8⟩ := hp8
  rw [c2, t3, w5] at h81
  rw [c2, c2, t3, w5, hsg] at h82
  exact K _ _ ⟨N, f, C, fx, fy, lx, ly, S1, r1, r2, (xw6 cs.1 u9.2.1 u9.2.2.1 (dg u9.2.2.2.1) (dg (v.2.2.2.2.2.2 * v.2.2.2.2.2.2 * v.2.2.2.1 * 2 ^ 2)) (dg u9.2.2.2.2), xs0 cs.2.1 (cs.2.1 4), xs0 cs.2.2.1 (cs.2.2.1 4), cs.2.2.2), 1, me, mw, A0, B0, gf, ns, nf, nw, fw, 1, po, tx, ty, fa, f1, f2, f3, f4, fr, to1, cx, cy, u8.2.2.1, u8.2.2.2, sig, vp_updL ofn 0 u9.1, tail, rfl, iv_x hI hj ⟨hcr.1, Or.inr ⟨rfl, rfl, v, ⟨hG.1, hG.2.1, fun _ => ⟨kp_z hk8, w4, w5⟩⟩, ⟨hXP.1, fun _ => ⟨hB, hU, hxB⟩, hXP.2.2⟩, fun _ => hXK⟩⟩ hk8.1 hs8, fun _ => h7.trans (ate_2 hXK.1.1 hXK.2.1.1 hk9 hB hP3 hUb hXK.2.2.2.1.2 h81 h82 (vl_inj h9) hr9)⟩
end HV6
