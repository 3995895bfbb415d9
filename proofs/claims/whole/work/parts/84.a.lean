/-! both calls of a row, for each way they go -/
theorem vi_inj {a b : Int32} (h : some (Value.int a) = some (Value.int b)) : a = b := by injection h with h; injection h
theorem vl_inj {a b : Int64} (h : some (Value.long a) = some (Value.long b)) : a = b := by injection h with h; injection h
def nw3 (a b c : Nat → Int64) : Nat → Nat → Int64
  | 0 => a
  | 1 => b
  | _ => c
theorem sg_d {g1 g2 g3 g4 : Int64} (hP : ((inC g1.toInt ∧ inC g2.toInt) ∧ (inC g3.toInt ∧ inC g4.toInt)) ∧ ¬ (g1.toInt = g3.toInt ∧ g2.toInt = g4.toInt)) : (g3 - g1).toInt = g3.toInt - g1.toInt ∧ (g4 - g2).toInt = g4.toInt - g2.toInt := by
  obtain ⟨⟨⟨a, b⟩, c, d⟩, -⟩ := hP
  exact ⟨l_sub (by omega) (by omega), l_sub (by omega) (by omega)⟩
theorem ov_u {a b : Int} {how : Int} {y : Int64} {u v : Int64 × Int × Int} (hb : ¬ b = 0) (h : y = u.1) (h1 : ovR a b u.2.1 u.2.2) (h2 : u.1.toInt = ovV u.2.1 u.2.2 b how) (k1 : ovR a b v.2.1 v.2.2) (k2 : v.1.toInt = ovV v.2.1 v.2.2 b how) : y = v.1 := by
  obtain ⟨e1, e2⟩ := ovR_u hb h1 k1
  refine h.trans (l_eq ?_)
  rw [h2, k2, e1, e2]
theorem rt_u {a : Int} {how : Int} {y w x : Int64} {h k : Int} (h0 : y = x) (h1 : rtR a h) (h2 : x.toInt = rtV a h how) (k1 : rtR a k) (k2 : w.toInt = rtV a k how) : y = w := by
  refine h0.trans (l_eq ?_)
  rw [h2, k2, rtR_u h1 k1]
section HV
variable {p : Program} {l : Launch} {e : Env} {s : State} {m : MethodId} {args : Array Value} {below : List Frame} {meth : Method} {c : Code} {Q : State → Prop} {G : jG} {A : Nat → Prop} {kc ks : Nat} {L : List (Nat × Value)} {x ot : Nat} {u q : Nat → Nat}
set_option maxHeartbeats 1000000 in
set_option maxRecDepth 100000 in
theorem hv_turn_ok (X : jX p s m args c cL_law 8 RL wsL_law G A) (XF : exF A s s.heap) (hst : l.stackTraces = false) {j : Nat} {N : Nat} {f : Nat → Option Nat} {C : Nat} {fx : Int64} {fy : Int64} {lx : Int64} {ly : Int64} {S1 : Int} {r1 : Nat → Int64} {r2 : Nat → Int64} {cs : XS} {md : Int32} {me : Option Nat} {mw : Option Nat} {A0 : Int} {B0 : Int} {gf : Nat → Nat → Int64} {ns : Int32} {nf : Int64} {nw : Nat → Nat → Int64} {fw : Nat → Int64} {t : Int32} {cr : Int32} {po : Int32} {tx : Int64} {ty : Int64} {fa : Nat → Int32} {f1 : Nat → Int64} {f2 : Nat → Int64} {f3 : Nat → Int64} {f4 : Nat → Int64} {fr : Nat → Int32} {to1 : Nat → Int32} {cx : Nat → Int64} {cy : Nat → Int64} {zs : List Int} {sf : Nat → Int32} {sig : Nat → Int32} {ofn : Nat → Int64} {tail : va_W} (hI : iV N C j f fx fy lx ly S1 cs md me mw A0 B0 cr po tx ty fa f1 f2 f3 f4 fr to1 cx cy zs sf sig tail) (hj : j < 64) (g1 : Int64) (g2 : Int64) (g3 : Int64) (g4 : Int64) (g5 : Int64) (g6 : Int64) (hP : (inC g1.toInt ∧ inC g2.toInt) ∧ (inC g3.toInt ∧ inC g4.toInt) ∧ (inC g5.toInt ∧ inC g6.toInt)) (hk : kc ≤ 100000 ∧ ks ≤ 1000000) (kk : ∀ (code : Int32) (ws1 : va_W), (∀ (kc ks : Nat) (L : List (Nat × Value)), kc ≤ 200000 ∧ ks ≤ 2000000 → (∀ (w : Int32) (ws2 : va_W), LO G x u q ot (j + 1) code w.toInt64 ws2 → J p l e room_1 s m args below meth c Q G A 8 kc ks 397 L [.int w] ws2) → J p l e room_1 s m args below meth c Q G A 8 kc ks 394 L [.long g6, .long g5, .long g4, .long g3, .long g2, .long g1, .ref (q 0)] ws1) → J p l e room_1 s m args below meth c Q G A 8 (kc + 1) (ks + 6) 252 L [.int code] ws1) : J p l e room_1 s m args below meth c Q G A 8 kc ks 249 L [.ref ot, .long g6, .long g5, .long g4, .long g3, .long g2, .long g1, .ref x] (wL G x u q ot N f C fx fy lx ly S1 r1 r2 cs md me mw A0 B0 gf ns nf nw fw t cr po tx ty fa f1 f2 f3 f4 fr to1 cx cy zs sf sig ofn tail) := by
  obtain ⟨⟨hN, hC, hJ⟩, hsh, hgp, hpo, hcr, hzl, hzs⟩ := id hI
  refine j_callSW0 X XF dL_law_249 (c_L_turn_ok l G x (u 1) (u 2) (u 5) (u 19) (u 96) (u 113) (u 120) (nI N) (u 121) fw g1 g2 g3 g4 g5 g6 hP ot ofn) gL_law_L_turn rfl hs_L_turn ⟨Nat.le_of_ble_eq_true rfl, Nat.le_of_ble_eq_true rfl⟩ [0, 120, 121, 135] rfl (by decide) rfl rfl (Nat.le_of_ble_eq_true rfl) ⟨?_, ?_⟩ ?_
  · show kc + 0 ≤ 600128; omega
  · show ks + 0 ≤ 7301097; omega
  rintro v9 u9 hp9
  obtain ⟨rfl, y9, h9, h7⟩ := hp9
  obtain rfl := vi_inj h9
  change J p l e room_1 s m args below meth c Q G A 8 (kc + 0) (ks + 0) 252 L [.int 0] (wL G x u q ot N f C fx fy lx ly S1 r1 r2 cs md me mw A0 B0 gf ns nf nw u9.2 t cr po tx ty fa f1 f2 f3 f4 fr to1 cx cy zs sf sig (vp_updL ofn 0 u9.1) tail)
  refine j_widen (kc' := kc + 1) (ks' := ks + 6) (Nat.add_le_add_left (Nat.le_of_ble_eq_true rfl) _) (Nat.add_le_add_left (Nat.le_of_ble_eq_true rfl) _) ?_
  refine kk 0 _ (fun kc ks L hk K => ?_)
  refine j_callV0 X dL_law_394 (c_X11_turn_ok l G q t (nI N) (nI C) cr po tx ty zs hzl sf hzs g1 g2 g3 g4 g5 g6 hP) gL_law_X11_turn rfl hy_X11_turn_V ⟨Nat.le_of_ble_eq_true rfl, Nat.le_of_ble_eq_true rfl⟩ 0 rfl rfl [122, 132, 133] rfl (by decide) rfl rfl (Nat.le_of_ble_eq_true rfl) ⟨?_, ?_⟩ ?_
  · show kc + 0 ≤ 600128; omega
  · show ks + 0 ≤ 7301097; omega
  rintro v8 u8 hp8
  obtain ⟨rfl, hk8, hs8⟩ := hp8
  exact K _ _ ⟨N, f, C, fx, fy, lx, ly, S1, r1, r2, cs, md, me, mw, A0, B0, gf, ns, nf, nw, u9.2, cr, po, tx, ty, fa, f1, f2, f3, f4, fr, to1, cx, cy, u8.1, u8.2, sig, vp_updL ofn 0 u9.1, tail, rfl, iv_k hI hj hk8 hs8, fun _ => h7⟩

set_option maxHeartbeats 1000000 in
set_option maxRecDepth 100000 in
theorem hv_turn_no (X : jX p s m args c cL_law 8 RL wsL_law G A) (XF : exF A s s.heap) (hst : l.stackTraces = false) {j : Nat} {N : Nat} {f : Nat → Option Nat} {C : Nat} {fx : Int64} {fy : Int64} {lx : Int64} {ly : Int64} {S1 : Int} {r1 : Nat → Int64} {r2 : Nat → Int64} {cs : XS} {md : Int32} {me : Option Nat} {mw : Option Nat} {A0 : Int} {B0 : Int} {gf : Nat → Nat → Int64} {ns : Int32} {nf : Int64} {nw : Nat → Nat → Int64} {fw : Nat → Int64} {t : Int32} {cr : Int32} {po : Int32} {tx : Int64} {ty : Int64} {fa : Nat → Int32} {f1 : Nat → Int64} {f2 : Nat → Int64} {f3 : Nat → Int64} {f4 : Nat → Int64} {fr : Nat → Int32} {to1 : Nat → Int32} {cx : Nat → Int64} {cy : Nat → Int64} {zs : List Int} {sf : Nat → Int32} {sig : Nat → Int32} {ofn : Nat → Int64} {tail : va_W} (hI : iV N C j f fx fy lx ly S1 cs md me mw A0 B0 cr po tx ty fa f1 f2 f3 f4 fr to1 cx cy zs sf sig tail) (hj : j < 64) (g1 : Int64) (g2 : Int64) (g3 : Int64) (g4 : Int64) (g5 : Int64) (g6 : Int64) (hP : ¬ ((inC g1.toInt ∧ inC g2.toInt) ∧ (inC g3.toInt ∧ inC g4.toInt) ∧ (inC g5.toInt ∧ inC g6.toInt))) (hk : kc ≤ 100000 ∧ ks ≤ 1000000) (kk : ∀ (code : Int32) (ws1 : va_W), (∀ (kc ks : Nat) (L : List (Nat × Value)), kc ≤ 200000 ∧ ks ≤ 2000000 → (∀ (w : Int32) (ws2 : va_W), LO G x u q ot (j + 1) code w.toInt64 ws2 → J p l e room_1 s m args below meth c Q G A 8 kc ks 397 L [.int w] ws2) → J p l e room_1 s m args below meth c Q G A 8 kc ks 394 L [.long g6, .long g5, .long g4, .long g3, .long g2, .long g1, .ref (q 0)] ws1) → J p l e room_1 s m args below meth c Q G A 8 (kc + 1) (ks + 6) 252 L [.int code] ws1) : J p l e room_1 s m args below meth c Q G A 8 kc ks 249 L [.ref ot, .long g6, .long g5, .long g4, .long g3, .long g2, .long g1, .ref x] (wL G x u q ot N f C fx fy lx ly S1 r1 r2 cs md me mw A0 B0 gf ns nf nw fw t cr po tx ty fa f1 f2 f3 f4 fr to1 cx cy zs sf sig ofn tail) := by
  obtain ⟨⟨hN, hC, hJ⟩, hsh, hgp, hpo, hcr, hzl, hzs⟩ := id hI
  refine j_callSW0 X XF dL_law_249 (c_L_turn_no l G hst x (u 1) (u 2) (u 5) (u 19) (u 96) (u 113) (u 120) (nI N) g1 g2 g3 g4 g5 g6 hP ot ofn) gL_law_L_turn rfl hs_L_turn ⟨Nat.le_of_ble_eq_true rfl, Nat.le_of_ble_eq_true rfl⟩ [0, 135] rfl (by decide) rfl rfl (Nat.le_of_ble_eq_true rfl) ⟨?_, ?_⟩ ?_
  · show kc + 1 ≤ 600128; omega
  · show ks + 6 ≤ 7301097; omega
  rintro v9 u9 hp9
  obtain ⟨rfl, -⟩ := hp9
  change J p l e room_1 s m args below meth c Q G A 8 (kc + 1) (ks + 6) 252 L [.int 1] (wL G x u q ot N f C fx fy lx ly S1 r1 r2 cs md me mw A0 B0 gf ns nf nw fw t cr po tx ty fa f1 f2 f3 f4 fr to1 cx cy zs sf sig ofn tail)
  refine j_widen (kc' := kc + 1) (ks' := ks + 6) (Nat.add_le_add_left (Nat.le_of_ble_eq_true rfl) _) (Nat.add_le_add_left (Nat.le_of_ble_eq_true rfl) _) ?_
  refine kk 1 _ (fun kc ks L hk K => ?_)
  refine j_callV0 X dL_law_394 (c_X11_turn_no l G q t (nI N) (nI C) cr po tx ty g1 g2 g3 g4 g5 g6 hP) gL_law_X11_turn rfl hy_X11_turn_V ⟨Nat.le_of_ble_eq_true rfl, Nat.le_of_ble_eq_true rfl⟩ 0 rfl rfl [122] rfl (by decide) rfl rfl (Nat.le_of_ble_eq_true rfl) ⟨?_, ?_⟩ ?_
  · show kc + 0 ≤ 600128; omega
  · show ks + 0 ≤ 7301097; omega
  rintro v8 u8 hp8
  subst hp8
  exact K _ _ ⟨N, f, C, fx, fy, lx, ly, S1, r1, r2, cs, md, me, mw, A0, B0, gf, ns, nf, nw, fw, cr, po, tx, ty, fa, f1, f2, f3, f4, fr, to1, cx, cy, zs, sf, sig, ofn, tail, rfl, iv_s hI hj, fun h => absurd h (by decide)⟩

set_option maxHeartbeats 8000000 in
set_option maxRecDepth 100000 in
theorem hv_segment_ok (X : jX p s m args c cL_law 8 RL wsL_law G A) (XF : exF A s s.heap) (hst : l.stackTraces = false) {j : Nat} {N : Nat} {f : Nat → Option Nat} {C : Nat} {fx : Int64} {fy : Int64} {lx : Int64} {ly : Int64} {S1 : Int} {r1 : Nat → Int64} {r2 : Nat → Int64} {cs : XS} {md : Int32} {me : Option Nat} {mw : Option Nat} {A0 : Int} {B0 : Int} {gf : Nat → Nat → Int64} {ns : Int32} {nf : Int64} {nw : Nat → Nat → Int64} {fw : Nat → Int64} {t : Int32} {cr : Int32} {po : Int32} {tx : Int64} {ty : Int64} {fa : Nat → Int32} {f1 : Nat → Int64} {f2 : Nat → Int64} {f3 : Nat → Int64} {f4 : Nat → Int64} {fr : Nat → Int32} {to1 : Nat → Int32} {cx : Nat → Int64} {cy : Nat → Int64} {zs : List Int} {sf : Nat → Int32} {sig : Nat → Int32} {ofn : Nat → Int64} {tail : va_W} (hI : iV N C j f fx fy lx ly S1 cs md me mw A0 B0 cr po tx ty fa f1 f2 f3 f4 fr to1 cx cy zs sf sig tail) (hj : j < 64) (g1 : Int64) (g2 : Int64) (g3 : Int64) (g4 : Int64) (hP : ((inC g1.toInt ∧ inC g2.toInt) ∧ (inC g3.toInt ∧ inC g4.toInt)) ∧ ¬ (g1.toInt = g3.toInt ∧ g2.toInt = g4.toInt)) (hk : kc ≤ 100000 ∧ ks ≤ 1000000) (kk : ∀ (code : Int32) (ws1 : va_W), (∀ (kc ks : Nat) (L : List (Nat × Value)), kc ≤ 200000 ∧ ks ≤ 2000000 → (∀ (w : Int32) (ws2 : va_W), LO G x u q ot (j + 1) code w.toInt64 ws2 → J p l e room_1 s m args below meth c Q G A 8 kc ks 623 L [.int w] ws2) → J p l e room_1 s m args below meth c Q G A 8 kc ks 620 L [.long g4, .long g3, .long g2, .long g1, .ref (q 0)] ws1) → J p l e room_1 s m args below meth c Q G A 8 (kc + 1) (ks + 6) 526 L [.int code] ws1) : J p l e room_1 s m args below meth c Q G A 8 kc ks 523 L [.ref ot, .long g4, .long g3, .long g2, .long g1, .ref x] (wL G x u q ot N f C fx fy lx ly S1 r1 r2 cs md me mw A0 B0 gf ns nf nw fw t cr po tx ty fa f1 f2 f3 f4 fr to1 cx cy zs sf sig ofn tail) := by
  obtain ⟨⟨hN, hC, hJ⟩, hsh, hgp, hpo, hcr, hzl, hzs⟩ := id hI
  refine j_callSW X XF dL_law_523 (c_L_segment_ok l G x (u 1) (u 2) (u 5) (u 19) (u 96) (u 113) (u 120) f N (by omega) g1 g2 g3 g4 hP ot ofn) gL_law_L_segment rfl hs_L_segment ⟨Nat.le_of_ble_eq_true rfl, Nat.le_of_ble_eq_true rfl⟩ [0, 1, 135] rfl (by decide) rfl rfl (Nat.le_of_ble_eq_true rfl) ⟨?_, ?_⟩ ?_
  · show kc + 1 ≤ 600128; omega
  · show ks + 6 ≤ 7301097; omega
  rintro v9 u9 hp9
  obtain ⟨rfl, y9, h9, h7⟩ := hp9
  obtain rfl := vi_inj h9
  refine j_widen (kc' := kc + 1) (ks' := ks + 6) (Nat.add_le_add_left (Nat.le_of_ble_eq_true rfl) _) (Nat.add_le_add_left (Nat.le_of_ble_eq_true rfl) _) ?_
  refine kk 0 _ (fun kc ks L hk K => ?_)
  refine j_callV0 X dL_law_620 (c_X11_segment_ok l G q t (nI C) cr po tx ty fa f1 f2 f3 f4 N (by omega) g1 g2 g3 g4 hP) gL_law_X11_segment rfl hy_X11_segment_V ⟨Nat.le_of_ble_eq_true rfl, Nat.le_of_ble_eq_true rfl⟩ 0 rfl rfl [122, 123, 124, 125, 126, 127] rfl (by decide) rfl rfl (Nat.le_of_ble_eq_true rfl) ⟨?_, ?_⟩ ?_
  · show kc + 0 ≤ 600128; omega
  · show ks + 0 ≤ 7301097; omega
  rintro v8 u8 hp8
  subst hp8
  exact K _ _ ⟨N + 1, va_up f N (some u9.2), C, fx, fy, lx, ly, S1, r1, r2, cs, md, me, mw, A0, B0, gf, ns, nf, nw, fw, cr, po, tx, ty, upd fa N 0, vp_updL f1 N g1, vp_updL f2 N g2, vp_updL f3 N g3, vp_updL f4 N g4, fr, to1, cx, cy, zs, sf, sig, vp_updL ofn 0 u9.1, tail ++ [(u9.2, .inr (7, [.long g1, .long g2, .long g3, .long g4, .long (g3 - g1), .long (g4 - g2)]))], rfl, iv_seg hI hj hP (sg_d hP), fun _ => h7⟩

set_option maxHeartbeats 1000000 in
set_option maxRecDepth 100000 in
theorem hv_segment_no (X : jX p s m args c cL_law 8 RL wsL_law G A) (XF : exF A s s.heap) (hst : l.stackTraces = false) {j : Nat} {N : Nat} {f : Nat → Option Nat} {C : Nat} {fx : Int64} {fy : Int64} {lx : Int64} {ly : Int64} {S1 : Int} {r1 : Nat → Int64} {r2 : Nat → Int64} {cs : XS} {md : Int32} {me : Option Nat} {mw : Option Nat} {A0 : Int} {B0 : Int} {gf : Nat → Nat → Int64} {ns : Int32} {nf : Int64} {nw : Nat → Nat → Int64} {fw : Nat → Int64} {t : Int32} {cr : Int32} {po : Int32} {tx : Int64} {ty : Int64} {fa : Nat → Int32} {f1 : Nat → Int64} {f2 : Nat → Int64} {f3 : Nat → Int64} {f4 : Nat → Int64} {fr : Nat → Int32} {to1 : Nat → Int32} {cx : Nat → Int64} {cy : Nat → Int64} {zs : List Int} {sf : Nat → Int32} {sig : Nat → Int32} {ofn : Nat → Int64} {tail : va_W} (hI : iV N C j f fx fy lx ly S1 cs md me mw A0 B0 cr po tx ty fa f1 f2 f3 f4 fr to1 cx cy zs sf sig tail) (hj : j < 64) (g1 : Int64) (g2 : Int64) (g3 : Int64) (g4 : Int64) (hP : ¬ (((inC g1.toInt ∧ inC g2.toInt) ∧ (inC g3.toInt ∧ inC g4.toInt)) ∧ ¬ (g1.toInt = g3.toInt ∧ g2.toInt = g4.toInt))) (hk : kc ≤ 100000 ∧ ks ≤ 1000000) (kk : ∀ (code : Int32) (ws1 : va_W), (∀ (kc ks : Nat) (L : List (Nat × Value)), kc ≤ 200000 ∧ ks ≤ 2000000 → (∀ (w : Int32) (ws2 : va_W), LO G x u q ot (j + 1) code w.toInt64 ws2 → J p l e room_1 s m args below meth c Q G A 8 kc ks 623 L [.int w] ws2) → J p l e room_1 s m args below meth c Q G A 8 kc ks 620 L [.long g4, .long g3, .long g2, .long g1, .ref (q 0)] ws1) → J p l e room_1 s m args below meth c Q G A 8 (kc + 1) (ks + 6) 526 L [.int code] ws1) : J p l e room_1 s m args below meth c Q G A 8 kc ks 523 L [.ref ot, .long g4, .long g3, .long g2, .long g1, .ref x] (wL G x u q ot N f C fx fy lx ly S1 r1 r2 cs md me mw A0 B0 gf ns nf nw fw t cr po tx ty fa f1 f2 f3 f4 fr to1 cx cy zs sf sig ofn tail) := by
  obtain ⟨⟨hN, hC, hJ⟩, hsh, hgp, hpo, hcr, hzl, hzs⟩ := id hI
  refine j_callSW0 X XF dL_law_523 (c_L_segment_no l G hst x (u 1) (u 2) (u 5) (u 19) (u 96) (u 113) (u 120) (nI N) g1 g2 g3 g4 hP ot ofn) gL_law_L_segment rfl hs_L_segment ⟨Nat.le_of_ble_eq_true rfl, Nat.le_of_ble_eq_true rfl⟩ [0, 135] rfl (by decide) rfl rfl (Nat.le_of_ble_eq_true rfl) ⟨?_, ?_⟩ ?_
  · show kc + 1 ≤ 600128; omega
  · show ks + 6 ≤ 7301097; omega
  rintro v9 u9 hp9
  obtain ⟨rfl, -⟩ := hp9
  change J p l e room_1 s m args below meth c Q G A 8 (kc + 1) (ks + 6) 526 L [.int 1] (wL G x u q ot N f C fx fy lx ly S1 r1 r2 cs md me mw A0 B0 gf ns nf nw fw t cr po tx ty fa f1 f2 f3 f4 fr to1 cx cy zs sf sig ofn tail)
  refine j_widen (kc' := kc + 1) (ks' := ks + 6) (Nat.add_le_add_left (Nat.le_of_ble_eq_true rfl) _) (Nat.add_le_add_left (Nat.le_of_ble_eq_true rfl) _) ?_
  refine kk 1 _ (fun kc ks L hk K => ?_)
  refine j_callV0 X dL_law_620 (c_X11_segment_no l G q t (nI N) (nI C) cr po tx ty g1 g2 g3 g4 hP) gL_law_X11_segment rfl hy_X11_segment_V ⟨Nat.le_of_ble_eq_true rfl, Nat.le_of_ble_eq_true rfl⟩ 0 rfl rfl [122] rfl (by decide) rfl rfl (Nat.le_of_ble_eq_true rfl) ⟨?_, ?_⟩ ?_
  · show kc + 0 ≤ 600128; omega
  · show ks + 0 ≤ 7301097; omega
  rintro v8 u8 hp8
  subst hp8
  exact K _ _ ⟨N, f, C, fx, fy, lx, ly, S1, r1, r2, cs, md, me, mw, A0, B0, gf, ns, nf, nw, fw, cr, po, tx, ty, fa, f1, f2, f3, f4, fr, to1, cx, cy, zs, sf, sig, ofn, tail, rfl, iv_s hI hj, fun h => absurd h (by decide)⟩

set_option maxHeartbeats 8000000 in
set_option maxRecDepth 100000 in
theorem hv_arc_ok (X : jX p s m args c cL_law 8 RL wsL_law G A) (XF : exF A s s.heap) (hst : l.stackTraces = false) {j : Nat} {N : Nat} {f : Nat → Option Nat} {C : Nat} {fx : Int64} {fy : Int64} {lx : Int64} {ly : Int64} {S1 : Int} {r1 : Nat → Int64} {r2 : Nat → Int64} {cs : XS} {md : Int32} {me : Option Nat} {mw : Option Nat} {A0 : Int} {B0 : Int} {gf : Nat → Nat → Int64} {ns : Int32} {nf : Int64} {nw : Nat → Nat → Int64} {fw : Nat → Int64} {t : Int32} {cr : Int32} {po : Int32} {tx : Int64} {ty : Int64} {fa : Nat → Int32} {f1 : Nat → Int64} {f2 : Nat → Int64} {f3 : Nat → Int64} {f4 : Nat → Int64} {fr : Nat → Int32} {to1 : Nat → Int32} {cx : Nat → Int64} {cy : Nat → Int64} {zs : List Int} {sf : Nat → Int32} {sig : Nat → Int32} {ofn : Nat → Int64} {tail : va_W} (hI : iV N C j f fx fy lx ly S1 cs md me mw A0 B0 cr po tx ty fa f1 f2 f3 f4 fr to1 cx cy zs sf sig tail) (hj : j < 64) (g1 : Int64) (g2 : Int64) (g3 : Int64) (g4 : Int32) (g5 : Int32) (hP : (inC g1.toInt ∧ inC g2.toInt) ∧ (1 ≤ g3.toInt ∧ g3.toInt ≤ 4611686018427387904) ∧ (0 ≤ g4.toInt ∧ g4.toInt < 8) ∧ (0 ≤ g5.toInt ∧ g5.toInt < 8)) (hk : kc ≤ 100000 ∧ ks ≤ 1000000) (kk : ∀ (code : Int32) (ws1 : va_W), (∀ (kc ks : Nat) (L : List (Nat × Value)), kc ≤ 200000 ∧ ks ≤ 2000000 → (∀ (w : Int32) (ws2 : va_W), LO G x u q ot (j + 1) code w.toInt64 ws2 → J p l e room_1 s m args below meth c Q G A 8 kc ks 829 L [.int w] ws2) → J p l e room_1 s m args below meth c Q G A 8 kc ks 826 L [.int g5, .int g4, .long g3, .long g2, .long g1, .ref (q 0)] ws1) → J p l e room_1 s m args below meth c Q G A 8 (kc + 1) (ks + 6) 742 L [.int code] ws1) : J p l e room_1 s m args below meth c Q G A 8 kc ks 739 L [.ref ot, .int g5, .int g4, .long g3, .long g2, .long g1, .ref x] (wL G x u q ot N f C fx fy lx ly S1 r1 r2 cs md me mw A0 B0 gf ns nf nw fw t cr po tx ty fa f1 f2 f3 f4 fr to1 cx cy zs sf sig ofn tail) := by
  obtain ⟨⟨hN, hC, hJ⟩, hsh, hgp, hpo, hcr, hzl, hzs⟩ := id hI
  refine j_callSW X XF dL_law_739 (c_L_arc_ok l G x (u 1) (u 2) (u 5) (u 19) (u 96) (u 113) (u 120) f N (by omega) g1 g2 g3 g4 g5 hP ot ofn) gL_law_L_arc rfl hs_L_arc ⟨Nat.le_of_ble_eq_true rfl, Nat.le_of_ble_eq_true rfl⟩ [0, 1, 135] rfl (by decide) rfl rfl (Nat.le_of_ble_eq_true rfl) ⟨?_, ?_⟩ ?_
  · show kc + 1 ≤ 600128; omega
  · show ks + 6 ≤ 7301097; omega
  rintro v9 u9 hp9
  obtain ⟨rfl, y9, h9, h7⟩ := hp9
  obtain rfl := vi_inj h9
  refine j_widen (kc' := kc + 1) (ks' := ks + 6) (Nat.add_le_add_left (Nat.le_of_ble_eq_true rfl) _) (Nat.add_le_add_left (Nat.le_of_ble_eq_true rfl) _) ?_
  refine kk 0 _ (fun kc ks L hk K => ?_)
  refine j_callV0 X dL_law_826 (c_X11_arc_ok l G q t (nI C) cr po tx ty fa f1 f2 f3 f4 N (by omega) fr to1 g1 g2 g3 g4 g5 hP) gL_law_X11_arc rfl hy_X11_arc_V ⟨Nat.le_of_ble_eq_true rfl, Nat.le_of_ble_eq_true rfl⟩ 0 rfl rfl [122, 123, 124, 125, 126, 127, 128, 129] rfl (by decide) rfl rfl (Nat.le_of_ble_eq_true rfl) ⟨?_, ?_⟩ ?_
  · show kc + 0 ≤ 600128; omega
  · show ks + 0 ≤ 7301097; omega
  rintro v8 u8 hp8
  subst hp8
  exact K _ _ ⟨N + 1, va_up f N (some u9.2), C, fx, fy, lx, ly, S1, r1, r2, cs, md, me, mw, A0, B0, gf, ns, nf, nw, fw, cr, po, tx, ty, upd fa N 1, vp_updL f1 N g1, vp_updL f2 N g2, vp_updL f3 N g3, vp_updL f4 N 0, upd fr N g4, upd to1 N g5, cx, cy, zs, sf, sig, vp_updL ofn 0 u9.1, tail ++ [(u9.2, .inr (0, [.long g1, .long g2, .long g3, .int g4, .int g5]))], rfl, iv_arc hI hj hP, fun _ => h7⟩

set_option maxHeartbeats 1000000 in
set_option maxRecDepth 100000 in
theorem hv_arc_no (X : jX p s m args c cL_law 8 RL wsL_law G A) (XF : exF A s s.heap) (hst : l.stackTraces = false) {j : Nat} {N : Nat} {f : Nat → Option Nat} {C : Nat} {fx : Int64} {fy : Int64} {lx : Int64} {ly : Int64} {S1 : Int} {r1 : Nat → Int64} {r2 : Nat → Int64} {cs : XS} {md : Int32} {me : Option Nat} {mw : Option Nat} {A0 : Int} {B0 : Int} {gf : Nat → Nat → Int64} {ns : Int32} {nf : Int64} {nw : Nat → Nat → Int64} {fw : Nat → Int64} {t : Int32} {cr : Int32} {po : Int32} {tx : Int64} {ty : Int64} {fa : Nat → Int32} {f1 : Nat → Int64} {f2 : Nat → Int64} {f3 : Nat → Int64} {f4 : Nat → Int64} {fr : Nat → Int32} {to1 : Nat → Int32} {cx : Nat → Int64} {cy : Nat → Int64} {zs : List Int} {sf : Nat → Int32} {sig : Nat → Int32} {ofn : Nat → Int64} {tail : va_W} (hI : iV N C j f fx fy lx ly S1 cs md me mw A0 B0 cr po tx ty fa f1 f2 f3 f4 fr to1 cx cy zs sf sig tail) (hj : j < 64) (g1 : Int64) (g2 : Int64) (g3 : Int64) (g4 : Int32) (g5 : Int32) (hP : ¬ ((inC g1.toInt ∧ inC g2.toInt) ∧ (1 ≤ g3.toInt ∧ g3.toInt ≤ 4611686018427387904) ∧ (0 ≤ g4.toInt ∧ g4.toInt < 8) ∧ (0 ≤ g5.toInt ∧ g5.toInt < 8))) (hk : kc ≤ 100000 ∧ ks ≤ 1000000) (kk : ∀ (code : Int32) (ws1 : va_W), (∀ (kc ks : Nat) (L : List (Nat × Value)), kc ≤ 200000 ∧ ks ≤ 2000000 → (∀ (w : Int32) (ws2 : va_W), LO G x u q ot (j + 1) code w.toInt64 ws2 → J p l e room_1 s m args below meth c Q G A 8 kc ks 829 L [.int w] ws2) → J p l e room_1 s m args below meth c Q G A 8 kc ks 826 L [.int g5, .int g4, .long g3, .long g2, .long g1, .ref (q 0)] ws1) → J p l e room_1 s m args below meth c Q G A 8 (kc + 1) (ks + 6) 742 L [.int code] ws1) : J p l e room_1 s m args below meth c Q G A 8 kc ks 739 L [.ref ot, .int g5, .int g4, .long g3, .long g2, .long g1, .ref x] (wL G x u q ot N f C fx fy lx ly S1 r1 r2 cs md me mw A0 B0 gf ns nf nw fw t cr po tx ty fa f1 f2 f3 f4 fr to1 cx cy zs sf sig ofn tail) := by
  obtain ⟨⟨hN, hC, hJ⟩, hsh, hgp, hpo, hcr, hzl, hzs⟩ := id hI
  refine j_callSW0 X XF dL_law_739 (c_L_arc_no l G hst x (u 1) (u 2) (u 5) (u 19) (u 96) (u 113) (u 120) (nI N) g1 g2 g3 g4 g5 hP ot ofn) gL_law_L_arc rfl hs_L_arc ⟨Nat.le_of_ble_eq_true rfl, Nat.le_of_ble_eq_true rfl⟩ [0, 135] rfl (by decide) rfl rfl (Nat.le_of_ble_eq_true rfl) ⟨?_, ?_⟩ ?_
  · show kc + 1 ≤ 600128; omega
  · show ks + 6 ≤ 7301097; omega
  rintro v9 u9 hp9
  obtain ⟨rfl, -⟩ := hp9
  change J p l e room_1 s m args below meth c Q G A 8 (kc + 1) (ks + 6) 742 L [.int 1] (wL G x u q ot N f C fx fy lx ly S1 r1 r2 cs md me mw A0 B0 gf ns nf nw fw t cr po tx ty fa f1 f2 f3 f4 fr to1 cx cy zs sf sig ofn tail)
  refine j_widen (kc' := kc + 1) (ks' := ks + 6) (Nat.add_le_add_left (Nat.le_of_ble_eq_true rfl) _) (Nat.add_le_add_left (Nat.le_of_ble_eq_true rfl) _) ?_
  refine kk 1 _ (fun kc ks L hk K => ?_)
  refine j_callV0 X dL_law_826 (c_X11_arc_no l G q t (nI N) (nI C) cr po tx ty g1 g2 g3 g4 g5 hP) gL_law_X11_arc rfl hy_X11_arc_V ⟨Nat.le_of_ble_eq_true rfl, Nat.le_of_ble_eq_true rfl⟩ 0 rfl rfl [122] rfl (by decide) rfl rfl (Nat.le_of_ble_eq_true rfl) ⟨?_, ?_⟩ ?_
  · show kc + 0 ≤ 600128; omega
  · show ks + 0 ≤ 7301097; omega
  rintro v8 u8 hp8
  subst hp8
  exact K _ _ ⟨N, f, C, fx, fy, lx, ly, S1, r1, r2, cs, md, me, mw, A0, B0, gf, ns, nf, nw, fw, cr, po, tx, ty, fa, f1, f2, f3, f4, fr, to1, cx, cy, zs, sf, sig, ofn, tail, rfl, iv_s hI hj, fun h => absurd h (by decide)⟩

set_option maxHeartbeats 1000000 in
set_option maxRecDepth 100000 in
theorem hv_compare_ok (X : jX p s m args c cL_law 8 RL wsL_law G A) (XF : exF A s s.heap) (hst : l.stackTraces = false) {j : Nat} {N : Nat} {f : Nat → Option Nat} {C : Nat} {fx : Int64} {fy : Int64} {lx : Int64} {ly : Int64} {S1 : Int} {r1 : Nat → Int64} {r2 : Nat → Int64} {cs : XS} {md : Int32} {me : Option Nat} {mw : Option Nat} {A0 : Int} {B0 : Int} {gf : Nat → Nat → Int64} {ns : Int32} {nf : Int64} {nw : Nat → Nat → Int64} {fw : Nat → Int64} {t : Int32} {cr : Int32} {po : Int32} {tx : Int64} {ty : Int64} {fa : Nat → Int32} {f1 : Nat → Int64} {f2 : Nat → Int64} {f3 : Nat → Int64} {f4 : Nat → Int64} {fr : Nat → Int32} {to1 : Nat → Int32} {cx : Nat → Int64} {cy : Nat → Int64} {zs : List Int} {sf : Nat → Int32} {sig : Nat → Int32} {ofn : Nat → Int64} {tail : va_W} (hI : iV N C j f fx fy lx ly S1 cs md me mw A0 B0 cr po tx ty fa f1 f2 f3 f4 fr to1 cx cy zs sf sig tail) (hj : j < 64) (g1 : Int64) (g2 : Int64) (g3 : Int64) (g4 : Int64) (hP : 0 ≤ g3.toInt) (hk : kc ≤ 100000 ∧ ks ≤ 1000000) (kk : ∀ (code : Int32) (ws1 : va_W), (∀ (kc ks : Nat) (L : List (Nat × Value)), kc ≤ 200000 ∧ ks ≤ 2000000 → (∀ (w : Int32) (ws2 : va_W), LO G x u q ot (j + 1) code w.toInt64 ws2 → J p l e room_1 s m args below meth c Q G A 8 kc ks 1146 L [.int w] ws2) → J p l e room_1 s m args below meth c Q G A 8 kc ks 1143 L [.long g4, .long g3, .long g2, .long g1, .ref (q 0)] ws1) → J p l e room_1 s m args below meth c Q G A 8 (kc + 1) (ks + 6) 1049 L [.int code] ws1) : J p l e room_1 s m args below meth c Q G A 8 kc ks 1046 L [.ref ot, .long g4, .long g3, .long g2, .long g1, .ref x] (wL G x u q ot N f C fx fy lx ly S1 r1 r2 cs md me mw A0 B0 gf ns nf nw fw t cr po tx ty fa f1 f2 f3 f4 fr to1 cx cy zs sf sig ofn tail) := by
  obtain ⟨⟨hN, hC, hJ⟩, hsh, hgp, hpo, hcr, hzl, hzs⟩ := id hI
  refine j_callSW0 X XF dL_law_1046 (c_L_compare_ok l G x (u 1) (u 2) (u 5) (u 19) (u 96) (u 113) (u 120) (nI N) (u 6) (u 7) (u 8) (u 9) (u 10) (u 17) (u 114) (u 115) (u 116) (u 117) (u 118) (u 119) (u 121) r1 r2 (nw 0) (nw 1) (nw 2) fw ns nf g1 g2 g3 g4 hP ot ofn) gL_law_L_compare rfl hs_L_compare ⟨Nat.le_of_ble_eq_true rfl, Nat.le_of_ble_eq_true rfl⟩ [0, 5, 6, 7, 8, 9, 113, 114, 115, 116, 117, 118, 119, 120, 121, 135] rfl (by decide) rfl rfl (Nat.le_of_ble_eq_true rfl) ⟨?_, ?_⟩ ?_
  · show kc + 0 ≤ 600128; omega
  · show ks + 0 ≤ 7301097; omega
  rintro v9 u9 hp9
  obtain ⟨rfl, y9, h9, h7⟩ := hp9
  obtain rfl := vi_inj h9
  change J p l e room_1 s m args below meth c Q G A 8 (kc + 0) (ks + 0) 1049 L [.int 0] (wL G x u q ot N f C fx fy lx ly S1 u9.2.1 u9.2.2.1 cs md me mw A0 B0 gf u9.2.2.2.2.2.2.1 u9.2.2.2.2.2.2.2.1 (nw3 u9.2.2.2.1 u9.2.2.2.2.1 u9.2.2.2.2.2.1) u9.2.2.2.2.2.2.2.2 t cr po tx ty fa f1 f2 f3 f4 fr to1 cx cy zs sf sig (vp_updL ofn 0 u9.1) tail)
  refine j_widen (kc' := kc + 1) (ks' := ks + 6) (Nat.add_le_add_left (Nat.le_of_ble_eq_true rfl) _) (Nat.add_le_add_left (Nat.le_of_ble_eq_true rfl) _) ?_
  refine kk 0 _ (fun kc ks L hk K => ?_)
  refine j_callV0 X dL_law_1143 (c_X11_compare_ok l G q t (nI N) (nI C) cr po tx ty zs hzl sf hzs g1 g2 g3 g4 hP) gL_law_X11_compare rfl hy_X11_compare_V ⟨Nat.le_of_ble_eq_true rfl, Nat.le_of_ble_eq_true rfl⟩ 0 rfl rfl [122, 132, 133] rfl (by decide) rfl rfl (Nat.le_of_ble_eq_true rfl) ⟨?_, ?_⟩ ?_
  · show kc + 0 ≤ 600128; omega
  · show ks + 0 ≤ 7301097; omega
  rintro v8 u8 hp8
  obtain ⟨rfl, hk8, hs8⟩ := hp8
  exact K _ _ ⟨N, f, C, fx, fy, lx, ly, S1, u9.2.1, u9.2.2.1, cs, md, me, mw, A0, B0, gf, u9.2.2.2.2.2.2.1, u9.2.2.2.2.2.2.2.1, nw3 u9.2.2.2.1 u9.2.2.2.2.1 u9.2.2.2.2.2.1, u9.2.2.2.2.2.2.2.2, cr, po, tx, ty, fa, f1, f2, f3, f4, fr, to1, cx, cy, u8.1, u8.2, sig, vp_updL ofn 0 u9.1, tail, rfl, iv_k hI hj hk8 hs8, fun _ => h7⟩

set_option maxHeartbeats 1000000 in
set_option maxRecDepth 100000 in
theorem hv_compare_no (X : jX p s m args c cL_law 8 RL wsL_law G A) (XF : exF A s s.heap) (hst : l.stackTraces = false) {j : Nat} {N : Nat} {f : Nat → Option Nat} {C : Nat} {fx : Int64} {fy : Int64} {lx : Int64} {ly : Int64} {S1 : Int} {r1 : Nat → Int64} {r2 : Nat → Int64} {cs : XS} {md : Int32} {me : Option Nat} {mw : Option Nat} {A0 : Int} {B0 : Int} {gf : Nat → Nat → Int64} {ns : Int32} {nf : Int64} {nw : Nat → Nat → Int64} {fw : Nat → Int64} {t : Int32} {cr : Int32} {po : Int32} {tx : Int64} {ty : Int64} {fa : Nat → Int32} {f1 : Nat → Int64} {f2 : Nat → Int64} {f3 : Nat → Int64} {f4 : Nat → Int64} {fr : Nat → Int32} {to1 : Nat → Int32} {cx : Nat → Int64} {cy : Nat → Int64} {zs : List Int} {sf : Nat → Int32} {sig : Nat → Int32} {ofn : Nat → Int64} {tail : va_W} (hI : iV N C j f fx fy lx ly S1 cs md me mw A0 B0 cr po tx ty fa f1 f2 f3 f4 fr to1 cx cy zs sf sig tail) (hj : j < 64) (g1 : Int64) (g2 : Int64) (g3 : Int64) (g4 : Int64) (hP : g3.toInt < 0) (hk : kc ≤ 100000 ∧ ks ≤ 1000000) (kk : ∀ (code : Int32) (ws1 : va_W), (∀ (kc ks : Nat) (L : List (Nat × Value)), kc ≤ 200000 ∧ ks ≤ 2000000 → (∀ (w : Int32) (ws2 : va_W), LO G x u q ot (j + 1) code w.toInt64 ws2 → J p l e room_1 s m args below meth c Q G A 8 kc ks 1146 L [.int w] ws2) → J p l e room_1 s m args below meth c Q G A 8 kc ks 1143 L [.long g4, .long g3, .long g2, .long g1, .ref (q 0)] ws1) → J p l e room_1 s m args below meth c Q G A 8 (kc + 1) (ks + 6) 1049 L [.int code] ws1) : J p l e room_1 s m args below meth c Q G A 8 kc ks 1046 L [.ref ot, .long g4, .long g3, .long g2, .long g1, .ref x] (wL G x u q ot N f C fx fy lx ly S1 r1 r2 cs md me mw A0 B0 gf ns nf nw fw t cr po tx ty fa f1 f2 f3 f4 fr to1 cx cy zs sf sig ofn tail) := by
  obtain ⟨⟨hN, hC, hJ⟩, hsh, hgp, hpo, hcr, hzl, hzs⟩ := id hI
  refine j_callSW0 X XF dL_law_1046 (c_L_compare_no l G hst x (u 1) (u 2) (u 5) (u 19) (u 96) (u 113) (u 120) (nI N) g1 g2 g3 g4 hP ot ofn) gL_law_L_compare rfl hs_L_compare ⟨Nat.le_of_ble_eq_true rfl, Nat.le_of_ble_eq_true rfl⟩ [0, 135] rfl (by decide) rfl rfl (Nat.le_of_ble_eq_true rfl) ⟨?_, ?_⟩ ?_
  · show kc + 1 ≤ 600128; omega
  · show ks + 6 ≤ 7301097; omega
  rintro v9 u9 hp9
  obtain ⟨rfl, -⟩ := hp9
  change J p l e room_1 s m args below meth c Q G A 8 (kc + 1) (ks + 6) 1049 L [.int 1] (wL G x u q ot N f C fx fy lx ly S1 r1 r2 cs md me mw A0 B0 gf ns nf nw fw t cr po tx ty fa f1 f2 f3 f4 fr to1 cx cy zs sf sig ofn tail)
  refine j_widen (kc' := kc + 1) (ks' := ks + 6) (Nat.add_le_add_left (Nat.le_of_ble_eq_true rfl) _) (Nat.add_le_add_left (Nat.le_of_ble_eq_true rfl) _) ?_
  refine kk 1 _ (fun kc ks L hk K => ?_)
  refine j_callV0 X dL_law_1143 (c_X11_compare_no l G q t (nI N) (nI C) cr po tx ty g1 g2 g3 g4 hP) gL_law_X11_compare rfl hy_X11_compare_V ⟨Nat.le_of_ble_eq_true rfl, Nat.le_of_ble_eq_true rfl⟩ 0 rfl rfl [122] rfl (by decide) rfl rfl (Nat.le_of_ble_eq_true rfl) ⟨?_, ?_⟩ ?_
  · show kc + 0 ≤ 600128; omega
  · show ks + 0 ≤ 7301097; omega
  rintro v8 u8 hp8
  subst hp8
  exact K _ _ ⟨N, f, C, fx, fy, lx, ly, S1, r1, r2, cs, md, me, mw, A0, B0, gf, ns, nf, nw, fw, cr, po, tx, ty, fa, f1, f2, f3, f4, fr, to1, cx, cy, zs, sf, sig, ofn, tail, rfl, iv_s hI hj, fun h => absurd h (by decide)⟩

set_option maxHeartbeats 1000000 in
set_option maxRecDepth 100000 in
theorem hv_over_0 (X : jX p s m args c cL_law 8 RL wsL_law G A) (XF : exF A s s.heap) (hst : l.stackTraces = false) {j : Nat} {N : Nat} {f : Nat → Option Nat} {C : Nat} {fx : Int64} {fy : Int64} {lx : Int64} {ly : Int64} {S1 : Int} {r1 : Nat → Int64} {r2 : Nat → Int64} {cs : XS} {md : Int32} {me : Option Nat} {mw : Option Nat} {A0 : Int} {B0 : Int} {gf : Nat → Nat → Int64} {ns : Int32} {nf : Int64} {nw : Nat → Nat → Int64} {fw : Nat → Int64} {t : Int32} {cr : Int32} {po : Int32} {tx : Int64} {ty : Int64} {fa : Nat → Int32} {f1 : Nat → Int64} {f2 : Nat → Int64} {f3 : Nat → Int64} {f4 : Nat → Int64} {fr : Nat → Int32} {to1 : Nat → Int32} {cx : Nat → Int64} {cy : Nat → Int64} {zs : List Int} {sf : Nat → Int32} {sig : Nat → Int32} {ofn : Nat → Int64} {tail : va_W} (hI : iV N C j f fx fy lx ly S1 cs md me mw A0 B0 cr po tx ty fa f1 f2 f3 f4 fr to1 cx cy zs sf sig tail) (hj : j < 64) (g1 : Int64) (g2 : Int64) (g3 : Int32) (hb : ¬ g2.toInt = 0) (hb1 : ¬ g2.toInt = -1) (hP : 0 ≤ g3.toInt ∧ g3.toInt ≤ 2) (hk : kc ≤ 100000 ∧ ks ≤ 1000000) (kk : ∀ (code : Int32) (ws1 : va_W), (∀ (kc ks : Nat) (L : List (Nat × Value)), kc ≤ 200000 ∧ ks ≤ 2000000 → (∀ (w : Int64) (ws2 : va_W), LO G x u q ot (j + 1) code w ws2 → J p l e room_1 s m args below meth c Q G A 8 kc ks 1588 L [.long w] ws2) → J p l e room_1 s m args below meth c Q G A 8 kc ks 1585 L [.int g3, .long g2, .long g1, .ref (q 0)] ws1) → J p l e room_1 s m args below meth c Q G A 8 (kc + 1) (ks + 6) 1532 L [.int code] ws1) : J p l e room_1 s m args below meth c Q G A 8 kc ks 1529 L [.ref ot, .int g3, .long g2, .long g1, .ref x] (wL G x u q ot N f C fx fy lx ly S1 r1 r2 cs md me mw A0 B0 gf ns nf nw fw t cr po tx ty fa f1 f2 f3 f4 fr to1 cx cy zs sf sig ofn tail) := by
  obtain ⟨⟨hN, hC, hJ⟩, hsh, hgp, hpo, hcr, hzl, hzs⟩ := id hI
  refine j_callSW0 X XF dL_law_1529 (c_L_over_0 l G x (u 1) (u 2) (u 5) (u 19) (u 96) (u 113) (u 120) (nI N) g1 g2 g3 hb hb1 hP ot ofn) gL_law_L_over rfl hs_L_over ⟨Nat.le_of_ble_eq_true rfl, Nat.le_of_ble_eq_true rfl⟩ [0, 135] rfl (by decide) rfl rfl (Nat.le_of_ble_eq_true rfl) ⟨?_, ?_⟩ ?_
  · show kc + 0 ≤ 600128; omega
  · show ks + 0 ≤ 7301097; omega
  rintro v9 u9 hp9
  obtain ⟨rfl, y9, ⟨h9, h91, h92⟩, h7⟩ := hp9
  change J p l e room_1 s m args below meth c Q G A 8 (kc + 0) (ks + 0) 1532 L [.int 0] (wL G x u q ot N f C fx fy lx ly S1 r1 r2 cs md me mw A0 B0 gf ns nf nw fw t cr po tx ty fa f1 f2 f3 f4 fr to1 cx cy zs sf sig (vp_updL ofn 0 u9.1) tail)
  refine j_widen (kc' := kc + 1) (ks' := ks + 6) (Nat.add_le_add_left (Nat.le_of_ble_eq_true rfl) _) (Nat.add_le_add_left (Nat.le_of_ble_eq_true rfl) _) ?_
  refine kk 0 _ (fun kc ks L hk K => ?_)
  refine j_callV0 X dL_law_1585 (c_X11_over_0 l G q t (nI N) (nI C) cr po tx ty g1 g2 g3 hb hb1 hP) gL_law_X11_over rfl hy_X11_over_V ⟨Nat.le_of_ble_eq_true rfl, Nat.le_of_ble_eq_true rfl⟩ 0 rfl rfl [122] rfl (by decide) rfl rfl (Nat.le_of_ble_eq_true rfl) ⟨?_, ?_⟩ ?_
  · show kc + 0 ≤ 600128; omega
  · show ks + 0 ≤ 7301097; omega
  rintro v8 u8 hp8
  obtain ⟨rfl, h81, h82⟩ := hp8
  exact K _ _ ⟨N, f, C, fx, fy, lx, ly, S1, r1, r2, cs, md, me, mw, A0, B0, gf, ns, nf, nw, fw, cr, po, tx, ty, fa, f1, f2, f3, f4, fr, to1, cx, cy, zs, sf, sig, vp_updL ofn 0 u9.1, tail, rfl, iv_s hI hj, fun _ => h7.trans (ov_u hb (vl_inj h9) h91 h92 h81 h82)⟩

set_option maxHeartbeats 1000000 in
set_option maxRecDepth 100000 in
theorem hv_over_m (X : jX p s m args c cL_law 8 RL wsL_law G A) (XF : exF A s s.heap) (hst : l.stackTraces = false) {j : Nat} {N : Nat} {f : Nat → Option Nat} {C : Nat} {fx : Int64} {fy : Int64} {lx : Int64} {ly : Int64} {S1 : Int} {r1 : Nat → Int64} {r2 : Nat → Int64} {cs : XS} {md : Int32} {me : Option Nat} {mw : Option Nat} {A0 : Int} {B0 : Int} {gf : Nat → Nat → Int64} {ns : Int32} {nf : Int64} {nw : Nat → Nat → Int64} {fw : Nat → Int64} {t : Int32} {cr : Int32} {po : Int32} {tx : Int64} {ty : Int64} {fa : Nat → Int32} {f1 : Nat → Int64} {f2 : Nat → Int64} {f3 : Nat → Int64} {f4 : Nat → Int64} {fr : Nat → Int32} {to1 : Nat → Int32} {cx : Nat → Int64} {cy : Nat → Int64} {zs : List Int} {sf : Nat → Int32} {sig : Nat → Int32} {ofn : Nat → Int64} {tail : va_W} (hI : iV N C j f fx fy lx ly S1 cs md me mw A0 B0 cr po tx ty fa f1 f2 f3 f4 fr to1 cx cy zs sf sig tail) (hj : j < 64) (g1 : Int64) (g2 : Int64) (g3 : Int32) (hb1 : g2.toInt = -1) (hP : 0 ≤ g3.toInt ∧ g3.toInt ≤ 2) (hk : kc ≤ 100000 ∧ ks ≤ 1000000) (kk : ∀ (code : Int32) (ws1 : va_W), (∀ (kc ks : Nat) (L : List (Nat × Value)), kc ≤ 200000 ∧ ks ≤ 2000000 → (∀ (w : Int64) (ws2 : va_W), LO G x u q ot (j + 1) code w ws2 → J p l e room_1 s m args below meth c Q G A 8 kc ks 1588 L [.long w] ws2) → J p l e room_1 s m args below meth c Q G A 8 kc ks 1585 L [.int g3, .long g2, .long g1, .ref (q 0)] ws1) → J p l e room_1 s m args below meth c Q G A 8 (kc + 1) (ks + 6) 1532 L [.int code] ws1) : J p l e room_1 s m args below meth c Q G A 8 kc ks 1529 L [.ref ot, .int g3, .long g2, .long g1, .ref x] (wL G x u q ot N f C fx fy lx ly S1 r1 r2 cs md me mw A0 B0 gf ns nf nw fw t cr po tx ty fa f1 f2 f3 f4 fr to1 cx cy zs sf sig ofn tail) := by
  obtain ⟨⟨hN, hC, hJ⟩, hsh, hgp, hpo, hcr, hzl, hzs⟩ := id hI
  refine j_callSW0 X XF dL_law_1529 (c_L_over_m l G x (u 1) (u 2) (u 5) (u 19) (u 96) (u 113) (u 120) (nI N) g1 g2 g3 hb1 hP ot ofn) gL_law_L_over rfl hs_L_over ⟨Nat.le_of_ble_eq_true rfl, Nat.le_of_ble_eq_true rfl⟩ [0, 135] rfl (by decide) rfl rfl (Nat.le_of_ble_eq_true rfl) ⟨?_, ?_⟩ ?_
  · show kc + 0 ≤ 600128; omega
  · show ks + 0 ≤ 7301097; omega
  rintro v9 u9 hp9
  obtain ⟨rfl, y9, h9, h7⟩ := hp9
  obtain rfl := vl_inj h9
  change J p l e room_1 s m args below meth c Q G A 8 (kc + 0) (ks + 0) 1532 L [.int 0] (wL G x u q ot N f C fx fy lx ly S1 r1 r2 cs md me mw A0 B0 gf ns nf nw fw t cr po tx ty fa f1 f2 f3 f4 fr to1 cx cy zs sf sig (vp_updL ofn 0 u9.1) tail)
  refine j_widen (kc' := kc + 1) (ks' := ks + 6) (Nat.add_le_add_left (Nat.le_of_ble_eq_true rfl) _) (Nat.add_le_add_left (Nat.le_of_ble_eq_true rfl) _) ?_
  refine kk 0 _ (fun kc ks L hk K => ?_)
  refine j_callV0 X dL_law_1585 (c_X11_over_m l G q t (nI N) (nI C) cr po tx ty g1 g2 g3 hb1 hP) gL_law_X11_over rfl hy_X11_over_V ⟨Nat.le_of_ble_eq_true rfl, Nat.le_of_ble_eq_true rfl⟩ 0 rfl rfl [122] rfl (by decide) rfl rfl (Nat.le_of_ble_eq_true rfl) ⟨?_, ?_⟩ ?_
  · show kc + 0 ≤ 600128; omega
  · show ks + 0 ≤ 7301097; omega
  rintro v8 u8 hp8
  subst hp8
  exact K _ _ ⟨N, f, C, fx, fy, lx, ly, S1, r1, r2, cs, md, me, mw, A0, B0, gf, ns, nf, nw, fw, cr, po, tx, ty, fa, f1, f2, f3, f4, fr, to1, cx, cy, zs, sf, sig, vp_updL ofn 0 u9.1, tail, rfl, iv_s hI hj, fun _ => h7⟩

set_option maxHeartbeats 1000000 in
set_option maxRecDepth 100000 in
theorem hv_over_1 (X : jX p s m args c cL_law 8 RL wsL_law G A) (XF : exF A s s.heap) (hst : l.stackTraces = false) {j : Nat} {N : Nat} {f : Nat → Option Nat} {C : Nat} {fx : Int64} {fy : Int64} {lx : Int64} {ly : Int64} {S1 : Int} {r1 : Nat → Int64} {r2 : Nat → Int64} {cs : XS} {md : Int32} {me : Option Nat} {mw : Option Nat} {A0 : Int} {B0 : Int} {gf : Nat → Nat → Int64} {ns : Int32} {nf : Int64} {nw : Nat → Nat → Int64} {fw : Nat → Int64} {t : Int32} {cr : Int32} {po : Int32} {tx : Int64} {ty : Int64} {fa : Nat → Int32} {f1 : Nat → Int64} {f2 : Nat → Int64} {f3 : Nat → Int64} {f4 : Nat → Int64} {fr : Nat → Int32} {to1 : Nat → Int32} {cx : Nat → Int64} {cy : Nat → Int64} {zs : List Int} {sf : Nat → Int32} {sig : Nat → Int32} {ofn : Nat → Int64} {tail : va_W} (hI : iV N C j f fx fy lx ly S1 cs md me mw A0 B0 cr po tx ty fa f1 f2 f3 f4 fr to1 cx cy zs sf sig tail) (hj : j < 64) (g1 : Int64) (g2 : Int64) (g3 : Int32) (hP : g2.toInt = 0) (hk : kc ≤ 100000 ∧ ks ≤ 1000000) (kk : ∀ (code : Int32) (ws1 : va_W), (∀ (kc ks : Nat) (L : List (Nat × Value)), kc ≤ 200000 ∧ ks ≤ 2000000 → (∀ (w : Int64) (ws2 : va_W), LO G x u q ot (j + 1) code w ws2 → J p l e room_1 s m args below meth c Q G A 8 kc ks 1588 L [.long w] ws2) → J p l e room_1 s m args below meth c Q G A 8 kc ks 1585 L [.int g3, .long g2, .long g1, .ref (q 0)] ws1) → J p l e room_1 s m args below meth c Q G A 8 (kc + 1) (ks + 6) 1532 L [.int code] ws1) : J p l e room_1 s m args below meth c Q G A 8 kc ks 1529 L [.ref ot, .int g3, .long g2, .long g1, .ref x] (wL G x u q ot N f C fx fy lx ly S1 r1 r2 cs md me mw A0 B0 gf ns nf nw fw t cr po tx ty fa f1 f2 f3 f4 fr to1 cx cy zs sf sig ofn tail) := by
  obtain ⟨⟨hN, hC, hJ⟩, hsh, hgp, hpo, hcr, hzl, hzs⟩ := id hI
  refine j_callSW0 X XF dL_law_1529 (c_L_over_1 l G hst x (u 1) (u 2) (u 5) (u 19) (u 96) (u 113) (u 120) (nI N) g1 g2 g3 hP ot ofn) gL_law_L_over rfl hs_L_over ⟨Nat.le_of_ble_eq_true rfl, Nat.le_of_ble_eq_true rfl⟩ [0, 135] rfl (by decide) rfl rfl (Nat.le_of_ble_eq_true rfl) ⟨?_, ?_⟩ ?_
  · show kc + 1 ≤ 600128; omega
  · show ks + 6 ≤ 7301097; omega
  rintro v9 u9 hp9
  obtain ⟨rfl, -⟩ := hp9
  change J p l e room_1 s m args below meth c Q G A 8 (kc + 1) (ks + 6) 1532 L [.int 1] (wL G x u q ot N f C fx fy lx ly S1 r1 r2 cs md me mw A0 B0 gf ns nf nw fw t cr po tx ty fa f1 f2 f3 f4 fr to1 cx cy zs sf sig ofn tail)
  refine j_widen (kc' := kc + 1) (ks' := ks + 6) (Nat.add_le_add_left (Nat.le_of_ble_eq_true rfl) _) (Nat.add_le_add_left (Nat.le_of_ble_eq_true rfl) _) ?_
  refine kk 1 _ (fun kc ks L hk K => ?_)
  refine j_callV0 X dL_law_1585 (c_X11_over_1 l G q t (nI N) (nI C) cr po tx ty g1 g2 g3 hP) gL_law_X11_over rfl hy_X11_over_V ⟨Nat.le_of_ble_eq_true rfl, Nat.le_of_ble_eq_true rfl⟩ 0 rfl rfl [122] rfl (by decide) rfl rfl (Nat.le_of_ble_eq_true rfl) ⟨?_, ?_⟩ ?_
  · show kc + 0 ≤ 600128; omega
  · show ks + 0 ≤ 7301097; omega
  rintro v8 u8 hp8
  subst hp8
  exact K _ _ ⟨N, f, C, fx, fy, lx, ly, S1, r1, r2, cs, md, me, mw, A0, B0, gf, ns, nf, nw, fw, cr, po, tx, ty, fa, f1, f2, f3, f4, fr, to1, cx, cy, zs, sf, sig, ofn, tail, rfl, iv_s hI hj, fun h => absurd h (by decide)⟩

set_option maxHeartbeats 1000000 in
set_option maxRecDepth 100000 in
theorem hv_over_2 (X : jX p s m args c cL_law 8 RL wsL_law G A) (XF : exF A s s.heap) (hst : l.stackTraces = false) {j : Nat} {N : Nat} {f : Nat → Option Nat} {C : Nat} {fx : Int64} {fy : Int64} {lx : Int64} {ly : Int64} {S1 : Int} {r1 : Nat → Int64} {r2 : Nat → Int64} {cs : XS} {md : Int32} {me : Option Nat} {mw : Option Nat} {A0 : Int} {B0 : Int} {gf : Nat → Nat → Int64} {ns : Int32} {nf : Int64} {nw : Nat → Nat → Int64} {fw : Nat → Int64} {t : Int32} {cr : Int32} {po : Int32} {tx : Int64} {ty : Int64} {fa : Nat → Int32} {f1 : Nat → Int64} {f2 : Nat → Int64} {f3 : Nat → Int64} {f4 : Nat → Int64} {fr : Nat → Int32} {to1 : Nat → Int32} {cx : Nat → Int64} {cy : Nat → Int64} {zs : List Int} {sf : Nat → Int32} {sig : Nat → Int32} {ofn : Nat → Int64} {tail : va_W} (hI : iV N C j f fx fy lx ly S1 cs md me mw A0 B0 cr po tx ty fa f1 f2 f3 f4 fr to1 cx cy zs sf sig tail) (hj : j < 64) (g1 : Int64) (g2 : Int64) (g3 : Int32) (hb : ¬ g2.toInt = 0) (hP : ¬ (0 ≤ g3.toInt ∧ g3.toInt ≤ 2)) (hk : kc ≤ 100000 ∧ ks ≤ 1000000) (kk : ∀ (code : Int32) (ws1 : va_W), (∀ (kc ks : Nat) (L : List (Nat × Value)), kc ≤ 200000 ∧ ks ≤ 2000000 → (∀ (w : Int64) (ws2 : va_W), LO G x u q ot (j + 1) code w ws2 → J p l e room_1 s m args below meth c Q G A 8 kc ks 1588 L [.long w] ws2) → J p l e room_1 s m args below meth c Q G A 8 kc ks 1585 L [.int g3, .long g2, .long g1, .ref (q 0)] ws1) → J p l e room_1 s m args below meth c Q G A 8 (kc + 1) (ks + 6) 1532 L [.int code] ws1) : J p l e room_1 s m args below meth c Q G A 8 kc ks 1529 L [.ref ot, .int g3, .long g2, .long g1, .ref x] (wL G x u q ot N f C fx fy lx ly S1 r1 r2 cs md me mw A0 B0 gf ns nf nw fw t cr po tx ty fa f1 f2 f3 f4 fr to1 cx cy zs sf sig ofn tail) := by
  obtain ⟨⟨hN, hC, hJ⟩, hsh, hgp, hpo, hcr, hzl, hzs⟩ := id hI
  refine j_callSW0 X XF dL_law_1529 (c_L_over_2 l G hst x (u 1) (u 2) (u 5) (u 19) (u 96) (u 113) (u 120) (nI N) g1 g2 g3 hb hP ot ofn) gL_law_L_over rfl hs_L_over ⟨Nat.le_of_ble_eq_true rfl, Nat.le_of_ble_eq_true rfl⟩ [0, 135] rfl (by decide) rfl rfl (Nat.le_of_ble_eq_true rfl) ⟨?_, ?_⟩ ?_
  · show kc + 1 ≤ 600128; omega
  · show ks + 6 ≤ 7301097; omega
  rintro v9 u9 hp9
  obtain ⟨rfl, -⟩ := hp9
  change J p l e room_1 s m args below meth c Q G A 8 (kc + 1) (ks + 6) 1532 L [.int 2] (wL G x u q ot N f C fx fy lx ly S1 r1 r2 cs md me mw A0 B0 gf ns nf nw fw t cr po tx ty fa f1 f2 f3 f4 fr to1 cx cy zs sf sig ofn tail)
  refine j_widen (kc' := kc + 1) (ks' := ks + 6) (Nat.add_le_add_left (Nat.le_of_ble_eq_true rfl) _) (Nat.add_le_add_left (Nat.le_of_ble_eq_true rfl) _) ?_
  refine kk 2 _ (fun kc ks L hk K => ?_)
  refine j_callV0 X dL_law_1585 (c_X11_over_2 l G q t (nI N) (nI C) cr po tx ty g1 g2 g3 hb hP) gL_law_X11_over rfl hy_X11_over_V ⟨Nat.le_of_ble_eq_true rfl, Nat.le_of_ble_eq_true rfl⟩ 0 rfl rfl [122] rfl (by decide) rfl rfl (Nat.le_of_ble_eq_true rfl) ⟨?_, ?_⟩ ?_
  · show kc + 0 ≤ 600128; omega
  · show ks + 0 ≤ 7301097; omega
  rintro v8 u8 hp8
  subst hp8
  exact K _ _ ⟨N, f, C, fx, fy, lx, ly, S1, r1, r2, cs, md, me, mw, A0, B0, gf, ns, nf, nw, fw, cr, po, tx, ty, fa, f1, f2, f3, f4, fr, to1, cx, cy, zs, sf, sig, ofn, tail, rfl, iv_s hI hj, fun h => absurd h (by decide)⟩

set_option maxHeartbeats 1000000 in
set_option maxRecDepth 100000 in
theorem hv_root_0 (X : jX p s m args c cL_law 8 RL wsL_law G A) (XF : exF A s s.heap) (hst : l.stackTraces = false) {j : Nat} {N : Nat} {f : Nat → Option Nat} {C : Nat} {fx : Int64} {fy : Int64} {lx : Int64} {ly : Int64} {S1 : Int} {r1 : Nat → Int64} {r2 : Nat → Int64} {cs : XS} {md : Int32} {me : Option Nat} {mw : Option Nat} {A0 : Int} {B0 : Int} {gf : Nat → Nat → Int64} {ns : Int32} {nf : Int64} {nw : Nat → Nat → Int64} {fw : Nat → Int64} {t : Int32} {cr : Int32} {po : Int32} {tx : Int64} {ty : Int64} {fa : Nat → Int32} {f1 : Nat → Int64} {f2 : Nat → Int64} {f3 : Nat → Int64} {f4 : Nat → Int64} {fr : Nat → Int32} {to1 : Nat → Int32} {cx : Nat → Int64} {cy : Nat → Int64} {zs : List Int} {sf : Nat → Int32} {sig : Nat → Int32} {ofn : Nat → Int64} {tail : va_W} (hI : iV N C j f fx fy lx ly S1 cs md me mw A0 B0 cr po tx ty fa f1 f2 f3 f4 fr to1 cx cy zs sf sig tail) (hj : j < 64) (g1 : Int64) (g2 : Int32) (hP : 0 ≤ g2.toInt ∧ g2.toInt ≤ 2) (hv : 0 ≤ g1.toInt) (hk : kc ≤ 100000 ∧ ks ≤ 1000000) (kk : ∀ (code : Int32) (ws1 : va_W), (∀ (kc ks : Nat) (L : List (Nat × Value)), kc ≤ 200000 ∧ ks ≤ 2000000 → (∀ (w : Int64) (ws2 : va_W), LO G x u q ot (j + 1) code w ws2 → J p l e room_1 s m args below meth c Q G A 8 kc ks 1687 L [.long w] ws2) → J p l e room_1 s m args below meth c Q G A 8 kc ks 1684 L [.int g2, .long g1, .ref (q 0)] ws1) → J p l e room_1 s m args below meth c Q G A 8 (kc + 1) (ks + 6) 1653 L [.int code] ws1) : J p l e room_1 s m args below meth c Q G A 8 kc ks 1650 L [.ref ot, .int g2, .long g1, .ref x] (wL G x u q ot N f C fx fy lx ly S1 r1 r2 cs md me mw A0 B0 gf ns nf nw fw t cr po tx ty fa f1 f2 f3 f4 fr to1 cx cy zs sf sig ofn tail) := by
  obtain ⟨⟨hN, hC, hJ⟩, hsh, hgp, hpo, hcr, hzl, hzs⟩ := id hI
  refine j_callSW0 X XF dL_law_1650 (c_L_root_0 l G x (u 1) (u 2) (u 5) (u 19) (u 96) (u 113) (u 120) (nI N) g1 g2 hP hv ot ofn) gL_law_L_root rfl hs_L_root ⟨Nat.le_of_ble_eq_true rfl, Nat.le_of_ble_eq_true rfl⟩ [0, 135] rfl (by decide) rfl rfl (Nat.le_of_ble_eq_true rfl) ⟨?_, ?_⟩ ?_
  · show kc + 0 ≤ 600128; omega
  · show ks + 0 ≤ 7301097; omega
  rintro v9 u9 hp9
  obtain ⟨rfl, y9, ⟨h9, h91, h92⟩, h7⟩ := hp9
  change J p l e room_1 s m args below meth c Q G A 8 (kc + 0) (ks + 0) 1653 L [.int 0] (wL G x u q ot N f C fx fy lx ly S1 r1 r2 cs md me mw A0 B0 gf ns nf nw fw t cr po tx ty fa f1 f2 f3 f4 fr to1 cx cy zs sf sig (vp_updL ofn 0 u9.1) tail)
  refine j_widen (kc' := kc + 1) (ks' := ks + 6) (Nat.add_le_add_left (Nat.le_of_ble_eq_true rfl) _) (Nat.add_le_add_left (Nat.le_of_ble_eq_true rfl) _) ?_
  refine kk 0 _ (fun kc ks L hk K => ?_)
  refine j_callV0 X dL_law_1684 (c_X11_root_0 l G q t (nI N) (nI C) cr po tx ty zs hzl sf hzs g1 g2 hP hv) gL_law_X11_root rfl hy_X11_root_V ⟨Nat.le_of_ble_eq_true rfl, Nat.le_of_ble_eq_true rfl⟩ 0 rfl rfl [122, 132, 133] rfl (by decide) rfl rfl (Nat.le_of_ble_eq_true rfl) ⟨?_, ?_⟩ ?_
  · show kc + 0 ≤ 600128; omega
  · show ks + 0 ≤ 7301097; omega
  rintro v8 u8 hp8
  obtain ⟨rfl, h81, h82, hk8, hs8⟩ := hp8
  exact K _ _ ⟨N, f, C, fx, fy, lx, ly, S1, r1, r2, cs, md, me, mw, A0, B0, gf, ns, nf, nw, fw, cr, po, tx, ty, fa, f1, f2, f3, f4, fr, to1, cx, cy, u8.2.2.1, u8.2.2.2, sig, vp_updL ofn 0 u9.1, tail, rfl, iv_k hI hj hk8 hs8, fun _ => h7.trans (rt_u (vl_inj h9) h91 h92 h81 h82)⟩

set_option maxHeartbeats 1000000 in
set_option maxRecDepth 100000 in
theorem hv_root_1 (X : jX p s m args c cL_law 8 RL wsL_law G A) (XF : exF A s s.heap) (hst : l.stackTraces = false) {j : Nat} {N : Nat} {f : Nat → Option Nat} {C : Nat} {fx : Int64} {fy : Int64} {lx : Int64} {ly : Int64} {S1 : Int} {r1 : Nat → Int64} {r2 : Nat → Int64} {cs : XS} {md : Int32} {me : Option Nat} {mw : Option Nat} {A0 : Int} {B0 : Int} {gf : Nat → Nat → Int64} {ns : Int32} {nf : Int64} {nw : Nat → Nat → Int64} {fw : Nat → Int64} {t : Int32} {cr : Int32} {po : Int32} {tx : Int64} {ty : Int64} {fa : Nat → Int32} {f1 : Nat → Int64} {f2 : Nat → Int64} {f3 : Nat → Int64} {f4 : Nat → Int64} {fr : Nat → Int32} {to1 : Nat → Int32} {cx : Nat → Int64} {cy : Nat → Int64} {zs : List Int} {sf : Nat → Int32} {sig : Nat → Int32} {ofn : Nat → Int64} {tail : va_W} (hI : iV N C j f fx fy lx ly S1 cs md me mw A0 B0 cr po tx ty fa f1 f2 f3 f4 fr to1 cx cy zs sf sig tail) (hj : j < 64) (g1 : Int64) (g2 : Int32) (hP : ¬ (0 ≤ g2.toInt ∧ g2.toInt ≤ 2)) (hk : kc ≤ 100000 ∧ ks ≤ 1000000) (kk : ∀ (code : Int32) (ws1 : va_W), (∀ (kc ks : Nat) (L : List (Nat × Value)), kc ≤ 200000 ∧ ks ≤ 2000000 → (∀ (w : Int64) (ws2 : va_W), LO G x u q ot (j + 1) code w ws2 → J p l e room_1 s m args below meth c Q G A 8 kc ks 1687 L [.long w] ws2) → J p l e room_1 s m args below meth c Q G A 8 kc ks 1684 L [.int g2, .long g1, .ref (q 0)] ws1) → J p l e room_1 s m args below meth c Q G A 8 (kc + 1) (ks + 6) 1653 L [.int code] ws1) : J p l e room_1 s m args below meth c Q G A 8 kc ks 1650 L [.ref ot, .int g2, .long g1, .ref x] (wL G x u q ot N f C fx fy lx ly S1 r1 r2 cs md me mw A0 B0 gf ns nf nw fw t cr po tx ty fa f1 f2 f3 f4 fr to1 cx cy zs sf sig ofn tail) := by
  obtain ⟨⟨hN, hC, hJ⟩, hsh, hgp, hpo, hcr, hzl, hzs⟩ := id hI
  refine j_callSW0 X XF dL_law_1650 (c_L_root_1 l G hst x (u 1) (u 2) (u 5) (u 19) (u 96) (u 113) (u 120) (nI N) g1 g2 hP ot ofn) gL_law_L_root rfl hs_L_root ⟨Nat.le_of_ble_eq_true rfl, Nat.le_of_ble_eq_true rfl⟩ [0, 135] rfl (by decide) rfl rfl (Nat.le_of_ble_eq_true rfl) ⟨?_, ?_⟩ ?_
  · show kc + 1 ≤ 600128; omega
  · show ks + 6 ≤ 7301097; omega
  rintro v9 u9 hp9
  obtain ⟨rfl, -⟩ := hp9
  change J p l e room_1 s m args below meth c Q G A 8 (kc + 1) (ks + 6) 1653 L [.int 1] (wL G x u q ot N f C fx fy lx ly S1 r1 r2 cs md me mw A0 B0 gf ns nf nw fw t cr po tx ty fa f1 f2 f3 f4 fr to1 cx cy zs sf sig ofn tail)
  refine j_widen (kc' := kc + 1) (ks' := ks + 6) (Nat.add_le_add_left (Nat.le_of_ble_eq_true rfl) _) (Nat.add_le_add_left (Nat.le_of_ble_eq_true rfl) _) ?_
  refine kk 1 _ (fun kc ks L hk K => ?_)
  refine j_callV0 X dL_law_1684 (c_X11_root_1 l G q t (nI N) (nI C) cr po tx ty g1 g2 hP) gL_law_X11_root rfl hy_X11_root_V ⟨Nat.le_of_ble_eq_true rfl, Nat.le_of_ble_eq_true rfl⟩ 0 rfl rfl [122] rfl (by decide) rfl rfl (Nat.le_of_ble_eq_true rfl) ⟨?_, ?_⟩ ?_
  · show kc + 0 ≤ 600128; omega
  · show ks + 0 ≤ 7301097; omega
  rintro v8 u8 hp8
  subst hp8
  exact K _ _ ⟨N, f, C, fx, fy, lx, ly, S1, r1, r2, cs, md, me, mw, A0, B0, gf, ns, nf, nw, fw, cr, po, tx, ty, fa, f1, f2, f3, f4, fr, to1, cx, cy, zs, sf, sig, ofn, tail, rfl, iv_s hI hj, fun h => absurd h (by decide)⟩

set_option maxHeartbeats 1000000 in
set_option maxRecDepth 100000 in
theorem hv_root_2 (X : jX p s m args c cL_law 8 RL wsL_law G A) (XF : exF A s s.heap) (hst : l.stackTraces = false) {j : Nat} {N : Nat} {f : Nat → Option Nat} {C : Nat} {fx : Int64} {fy : Int64} {lx : Int64} {ly : Int64} {S1 : Int} {r1 : Nat → Int64} {r2 : Nat → Int64} {cs : XS} {md : Int32} {me : Option Nat} {mw : Option Nat} {A0 : Int} {B0 : Int} {gf : Nat → Nat → Int64} {ns : Int32} {nf : Int64} {nw : Nat → Nat → Int64} {fw : Nat → Int64} {t : Int32} {cr : Int32} {po : Int32} {tx : Int64} {ty : Int64} {fa : Nat → Int32} {f1 : Nat → Int64} {f2 : Nat → Int64} {f3 : Nat → Int64} {f4 : Nat → Int64} {fr : Nat → Int32} {to1 : Nat → Int32} {cx : Nat → Int64} {cy : Nat → Int64} {zs : List Int} {sf : Nat → Int32} {sig : Nat → Int32} {ofn : Nat → Int64} {tail : va_W} (hI : iV N C j f fx fy lx ly S1 cs md me mw A0 B0 cr po tx ty fa f1 f2 f3 f4 fr to1 cx cy zs sf sig tail) (hj : j < 64) (g1 : Int64) (g2 : Int32) (hP : 0 ≤ g2.toInt ∧ g2.toInt ≤ 2) (hv : g1.toInt < 0) (hk : kc ≤ 100000 ∧ ks ≤ 1000000) (kk : ∀ (code : Int32) (ws1 : va_W), (∀ (kc ks : Nat) (L : List (Nat × Value)), kc ≤ 200000 ∧ ks ≤ 2000000 → (∀ (w : Int64) (ws2 : va_W), LO G x u q ot (j + 1) code w ws2 → J p l e room_1 s m args below meth c Q G A 8 kc ks 1687 L [.long w] ws2) → J p l e room_1 s m args below meth c Q G A 8 kc ks 1684 L [.int g2, .long g1, .ref (q 0)] ws1) → J p l e room_1 s m args below meth c Q G A 8 (kc + 1) (ks + 6) 1653 L [.int code] ws1) : J p l e room_1 s m args below meth c Q G A 8 kc ks 1650 L [.ref ot, .int g2, .long g1, .ref x] (wL G x u q ot N f C fx fy lx ly S1 r1 r2 cs md me mw A0 B0 gf ns nf nw fw t cr po tx ty fa f1 f2 f3 f4 fr to1 cx cy zs sf sig ofn tail) := by
  obtain ⟨⟨hN, hC, hJ⟩, hsh, hgp, hpo, hcr, hzl, hzs⟩ := id hI
  refine j_callSW0 X XF dL_law_1650 (c_L_root_2 l G hst x (u 1) (u 2) (u 5) (u 19) (u 96) (u 113) (u 120) (nI N) g1 g2 hP hv ot ofn) gL_law_L_root rfl hs_L_root ⟨Nat.le_of_ble_eq_true rfl, Nat.le_of_ble_eq_true rfl⟩ [0, 135] rfl (by decide) rfl rfl (Nat.le_of_ble_eq_true rfl) ⟨?_, ?_⟩ ?_
  · show kc + 1 ≤ 600128; omega
  · show ks + 6 ≤ 7301097; omega
  rintro v9 u9 hp9
  obtain ⟨rfl, -⟩ := hp9
  change J p l e room_1 s m args below meth c Q G A 8 (kc + 1) (ks + 6) 1653 L [.int 2] (wL G x u q ot N f C fx fy lx ly S1 r1 r2 cs md me mw A0 B0 gf ns nf nw fw t cr po tx ty fa f1 f2 f3 f4 fr to1 cx cy zs sf sig ofn tail)
  refine j_widen (kc' := kc + 1) (ks' := ks + 6) (Nat.add_le_add_left (Nat.le_of_ble_eq_true rfl) _) (Nat.add_le_add_left (Nat.le_of_ble_eq_true rfl) _) ?_
  refine kk 2 _ (fun kc ks L hk K => ?_)
  refine j_callV0 X dL_law_1684 (c_X11_root_2 l G q t (nI N) (nI C) cr po tx ty g1 g2 hP hv) gL_law_X11_root rfl hy_X11_root_V ⟨Nat.le_of_ble_eq_true rfl, Nat.le_of_ble_eq_true rfl⟩ 0 rfl rfl [122] rfl (by decide) rfl rfl (Nat.le_of_ble_eq_true rfl) ⟨?_, ?_⟩ ?_
  · show kc + 0 ≤ 600128; omega
  · show ks + 0 ≤ 7301097; omega
  rintro v8 u8 hp8
  subst hp8
  exact K _ _ ⟨N, f, C, fx, fy, lx, ly, S1, r1, r2, cs, md, me, mw, A0, B0, gf, ns, nf, nw, fw, cr, po, tx, ty, fa, f1, f2, f3, f4, fr, to1, cx, cy, zs, sf, sig, ofn, tail, rfl, iv_s hI hj, fun h => absurd h (by decide)⟩

set_option maxHeartbeats 8000000 in
set_option maxRecDepth 100000 in
theorem hv_corner_0 (X : jX p s m args c cL_law 8 RL wsL_law G A) (XF : exF A s s.heap) (hst : l.stackTraces = false) {j : Nat} {N : Nat} {f : Nat → Option Nat} {C : Nat} {fx : Int64} {fy : Int64} {lx : Int64} {ly : Int64} {S1 : Int} {r1 : Nat → Int64} {r2 : Nat → Int64} {cs : XS} {md : Int32} {me : Option Nat} {mw : Option Nat} {A0 : Int} {B0 : Int} {gf : Nat → Nat → Int64} {ns : Int32} {nf : Int64} {nw : Nat → Nat → Int64} {fw : Nat → Int64} {t : Int32} {cr : Int32} {po : Int32} {tx : Int64} {ty : Int64} {fa : Nat → Int32} {f1 : Nat → Int64} {f2 : Nat → Int64} {f3 : Nat → Int64} {f4 : Nat → Int64} {fr : Nat → Int32} {to1 : Nat → Int32} {cx : Nat → Int64} {cy : Nat → Int64} {zs : List Int} {sf : Nat → Int32} {sig : Nat → Int32} {ofn : Nat → Int64} {tail : va_W} (hI : iV N C j f fx fy lx ly S1 cs md me mw A0 B0 cr po tx ty fa f1 f2 f3 f4 fr to1 cx cy zs sf sig tail) (hj : j < 64) (g1 : Int64) (g2 : Int64) (hP : inC g1.toInt ∧ inC g2.toInt) (hC0 : C = 0) (hk : kc ≤ 100000 ∧ ks ≤ 1000000) (kk : ∀ (code : Int32) (ws1 : va_W), (∀ (kc ks : Nat) (L : List (Nat × Value)), kc ≤ 200000 ∧ ks ≤ 2000000 → (∀ (w : Int32) (ws2 : va_W), LO G x u q ot (j + 1) code (if w = 0 then 0 else 1) ws2 → J p l e room_1 s m args below meth c Q G A 8 kc ks 1818 L [.int w] ws2) → J p l e room_1 s m args below meth c Q G A 8 kc ks 1815 L [.long g2, .long g1, .ref (q 0)] ws1) → J p l e room_1 s m args below meth c Q G A 8 (kc + 1) (ks + 6) 1768 L [.int code] ws1) : J p l e room_1 s m args below meth c Q G A 8 kc ks 1765 L [.ref ot, .long g2, .long g1, .ref x] (wL G x u q ot N f C fx fy lx ly S1 r1 r2 cs md me mw A0 B0 gf ns nf nw fw t cr po tx ty fa f1 f2 f3 f4 fr to1 cx cy zs sf sig ofn tail) := by
  obtain ⟨⟨hN, hC, hJ⟩, hsh, hgp, hpo, hcr, hzl, hzs⟩ := id hI
  subst hC0
  refine j_callSW0 X XF dL_law_1765 (c_L_corner_0 l G x (u 1) (u 2) (u 5) (u 19) (u 96) (u 113) (u 120) (nI N) (u 3) (u 4) fx fy lx ly S1 g1 g2 hP ot ofn) gL_law_L_corner rfl hs_L_corner ⟨Nat.le_of_ble_eq_true rfl, Nat.le_of_ble_eq_true rfl⟩ [0, 2, 3, 4, 135] rfl (by decide) rfl rfl (Nat.le_of_ble_eq_true rfl) ⟨?_, ?_⟩ ?_
  · show kc + 0 ≤ 600128; omega
  · show ks + 0 ≤ 7301097; omega
  rintro v9 u9 hp9
  obtain ⟨rfl, y9, h9, h7⟩ := hp9
  obtain rfl := vi_inj h9
  refine j_widen (kc' := kc + 1) (ks' := ks + 6) (Nat.add_le_add_left (Nat.le_of_ble_eq_true rfl) _) (Nat.add_le_add_left (Nat.le_of_ble_eq_true rfl) _) ?_
  refine kk 0 _ (fun kc ks L hk K => ?_)
  refine j_callV0 X dL_law_1815 (c_X11_corner_ok l G q t (nI N) cr po tx ty cx cy 0 (by omega) g1 g2 hP) gL_law_X11_corner rfl hy_X11_corner_V ⟨Nat.le_of_ble_eq_true rfl, Nat.le_of_ble_eq_true rfl⟩ 0 rfl rfl [122, 130, 131] rfl (by decide) rfl rfl (Nat.le_of_ble_eq_true rfl) ⟨?_, ?_⟩ ?_
  · show kc + 0 ≤ 600128; omega
  · show ks + 0 ≤ 7301097; omega
  rintro v8 u8 hp8
  subst hp8
  exact K _ _ ⟨N, f, 1, g1, g2, g1, g2, S1, r1, r2, cs, md, me, mw, A0, B0, gf, ns, nf, nw, fw, cr, po, tx, ty, fa, f1, f2, f3, f4, fr, to1, vp_updL cx 0 g1, vp_updL cy 0 g2, zs, sf, sig, vp_updL ofn 0 u9.1, tail, rfl, iv_c0 hI hj hP, fun _ => h7⟩

set_option maxHeartbeats 8000000 in
set_option maxRecDepth 100000 in
theorem hv_corner_n (X : jX p s m args c cL_law 8 RL wsL_law G A) (XF : exF A s s.heap) (hst : l.stackTraces = false) {j : Nat} {N : Nat} {f : Nat → Option Nat} {C : Nat} {fx : Int64} {fy : Int64} {lx : Int64} {ly : Int64} {S1 : Int} {r1 : Nat → Int64} {r2 : Nat → Int64} {cs : XS} {md : Int32} {me : Option Nat} {mw : Option Nat} {A0 : Int} {B0 : Int} {gf : Nat → Nat → Int64} {ns : Int32} {nf : Int64} {nw : Nat → Nat → Int64} {fw : Nat → Int64} {t : Int32} {cr : Int32} {po : Int32} {tx : Int64} {ty : Int64} {fa : Nat → Int32} {f1 : Nat → Int64} {f2 : Nat → Int64} {f3 : Nat → Int64} {f4 : Nat → Int64} {fr : Nat → Int32} {to1 : Nat → Int32} {cx : Nat → Int64} {cy : Nat → Int64} {zs : List Int} {sf : Nat → Int32} {sig : Nat → Int32} {ofn : Nat → Int64} {tail : va_W} (hI : iV N C j f fx fy lx ly S1 cs md me mw A0 B0 cr po tx ty fa f1 f2 f3 f4 fr to1 cx cy zs sf sig tail) (hj : j < 64) (g1 : Int64) (g2 : Int64) (hP : inC g1.toInt ∧ inC g2.toInt) (hC0 : 0 < C) (hk : kc ≤ 100000 ∧ ks ≤ 1000000) (kk : ∀ (code : Int32) (ws1 : va_W), (∀ (kc ks : Nat) (L : List (Nat × Value)), kc ≤ 200000 ∧ ks ≤ 2000000 → (∀ (w : Int32) (ws2 : va_W), LO G x u q ot (j + 1) code (if w = 0 then 0 else 1) ws2 → J p l e room_1 s m args below meth c Q G A 8 kc ks 1818 L [.int w] ws2) → J p l e room_1 s m args below meth c Q G A 8 kc ks 1815 L [.long g2, .long g1, .ref (q 0)] ws1) → J p l e room_1 s m args below meth c Q G A 8 (kc + 1) (ks + 6) 1768 L [.int code] ws1) : J p l e room_1 s m args below meth c Q G A 8 kc ks 1765 L [.ref ot, .long g2, .long g1, .ref x] (wL G x u q ot N f C fx fy lx ly S1 r1 r2 cs md me mw A0 B0 gf ns nf nw fw t cr po tx ty fa f1 f2 f3 f4 fr to1 cx cy zs sf sig ofn tail) := by
  obtain ⟨⟨hN, hC, hJ⟩, hsh, hgp, hpo, hcr, hzl, hzs⟩ := id hI
  refine j_callSW0 X XF dL_law_1765 (c_L_corner_n l G x (u 1) (u 2) (u 5) (u 19) (u 96) (u 113) (u 120) (nI N) (u 3) (u 4) fx fy lx ly S1 g1 g2 C (⟨hC0, by omega⟩) ((po_ly hpo).2) hP ot ofn) gL_law_L_corner rfl hs_L_corner ⟨Nat.le_of_ble_eq_true rfl, Nat.le_of_ble_eq_true rfl⟩ [0, 2, 3, 4, 135] rfl (by decide) rfl rfl (Nat.le_of_ble_eq_true rfl) ⟨?_, ?_⟩ ?_
  · show kc + 0 ≤ 600128; omega
  · show ks + 0 ≤ 7301097; omega
  rintro v9 u9 hp9
  obtain ⟨rfl, y9, h9, h7⟩ := hp9
  obtain rfl := vi_inj h9
  refine j_widen (kc' := kc + 1) (ks' := ks + 6) (Nat.add_le_add_left (Nat.le_of_ble_eq_true rfl) _) (Nat.add_le_add_left (Nat.le_of_ble_eq_true rfl) _) ?_
  refine kk 0 _ (fun kc ks L hk K => ?_)
  refine j_callV0 X dL_law_1815 (c_X11_corner_ok l G q t (nI N) cr po tx ty cx cy C (by omega) g1 g2 hP) gL_law_X11_corner rfl hy_X11_corner_V ⟨Nat.le_of_ble_eq_true rfl, Nat.le_of_ble_eq_true rfl⟩ 0 rfl rfl [122, 130, 131] rfl (by decide) rfl rfl (Nat.le_of_ble_eq_true rfl) ⟨?_, ?_⟩ ?_
  · show kc + 0 ≤ 600128; omega
  · show ks + 0 ≤ 7301097; omega
  rintro v8 u8 hp8
  subst hp8
  exact K _ _ ⟨N, f, C + 1, fx, fy, g1, g2, S1 + (lx.toInt * g2.toInt - ly.toInt * g1.toInt), r1, r2, cs, md, me, mw, A0, B0, gf, ns, nf, nw, fw, cr, po, tx, ty, fa, f1, f2, f3, f4, fr, to1, vp_updL cx C g1, vp_updL cy C g2, zs, sf, sig, vp_updL ofn 0 u9.1, tail, rfl, iv_cn hC0 hI hj hP, fun _ => h7⟩

set_option maxHeartbeats 1000000 in
set_option maxRecDepth 100000 in
theorem hv_corner_no (X : jX p s m args c cL_law 8 RL wsL_law G A) (XF : exF A s s.heap) (hst : l.stackTraces = false) {j : Nat} {N : Nat} {f : Nat → Option Nat} {C : Nat} {fx : Int64} {fy : Int64} {lx : Int64} {ly : Int64} {S1 : Int} {r1 : Nat → Int64} {r2 : Nat → Int64} {cs : XS} {md : Int32} {me : Option Nat} {mw : Option Nat} {A0 : Int} {B0 : Int} {gf : Nat → Nat → Int64} {ns : Int32} {nf : Int64} {nw : Nat → Nat → Int64} {fw : Nat → Int64} {t : Int32} {cr : Int32} {po : Int32} {tx : Int64} {ty : Int64} {fa : Nat → Int32} {f1 : Nat → Int64} {f2 : Nat → Int64} {f3 : Nat → Int64} {f4 : Nat → Int64} {fr : Nat → Int32} {to1 : Nat → Int32} {cx : Nat → Int64} {cy : Nat → Int64} {zs : List Int} {sf : Nat → Int32} {sig : Nat → Int32} {ofn : Nat → Int64} {tail : va_W} (hI : iV N C j f fx fy lx ly S1 cs md me mw A0 B0 cr po tx ty fa f1 f2 f3 f4 fr to1 cx cy zs sf sig tail) (hj : j < 64) (g1 : Int64) (g2 : Int64) (hP : ¬ (inC g1.toInt ∧ inC g2.toInt)) (hk : kc ≤ 100000 ∧ ks ≤ 1000000) (kk : ∀ (code : Int32) (ws1 : va_W), (∀ (kc ks : Nat) (L : List (Nat × Value)), kc ≤ 200000 ∧ ks ≤ 2000000 → (∀ (w : Int32) (ws2 : va_W), LO G x u q ot (j + 1) code (if w = 0 then 0 else 1) ws2 → J p l e room_1 s m args below meth c Q G A 8 kc ks 1818 L [.int w] ws2) → J p l e room_1 s m args below meth c Q G A 8 kc ks 1815 L [.long g2, .long g1, .ref (q 0)] ws1) → J p l e room_1 s m args below meth c Q G A 8 (kc + 1) (ks + 6) 1768 L [.int code] ws1) : J p l e room_1 s m args below meth c Q G A 8 kc ks 1765 L [.ref ot, .long g2, .long g1, .ref x] (wL G x u q ot N f C fx fy lx ly S1 r1 r2 cs md me mw A0 B0 gf ns nf nw fw t cr po tx ty fa f1 f2 f3 f4 fr to1 cx cy zs sf sig ofn tail) := by
  obtain ⟨⟨hN, hC, hJ⟩, hsh, hgp, hpo, hcr, hzl, hzs⟩ := id hI
  refine j_callSW0 X XF dL_law_1765 (c_L_corner_no l G hst x (u 1) (u 2) (u 5) (u 19) (u 96) (u 113) (u 120) (nI N) g1 g2 hP ot ofn) gL_law_L_corner rfl hs_L_corner ⟨Nat.le_of_ble_eq_true rfl, Nat.le_of_ble_eq_true rfl⟩ [0, 135] rfl (by decide) rfl rfl (Nat.le_of_ble_eq_true rfl) ⟨?_, ?_⟩ ?_
  · show kc + 1 ≤ 600128; omega
  · show ks + 6 ≤ 7301097; omega
  rintro v9 u9 hp9
  obtain ⟨rfl, -⟩ := hp9
  change J p l e room_1 s m args below meth c Q G A 8 (kc + 1) (ks + 6) 1768 L [.int 1] (wL G x u q ot N f C fx fy lx ly S1 r1 r2 cs md me mw A0 B0 gf ns nf nw fw t cr po tx ty fa f1 f2 f3 f4 fr to1 cx cy zs sf sig ofn tail)
  refine j_widen (kc' := kc + 1) (ks' := ks + 6) (Nat.add_le_add_left (Nat.le_of_ble_eq_true rfl) _) (Nat.add_le_add_left (Nat.le_of_ble_eq_true rfl) _) ?_
  refine kk 1 _ (fun kc ks L hk K => ?_)
  refine j_callV0 X dL_law_1815 (c_X11_corner_no l G q t (nI N) (nI C) cr po tx ty g1 g2 hP) gL_law_X11_corner rfl hy_X11_corner_V ⟨Nat.le_of_ble_eq_true rfl, Nat.le_of_ble_eq_true rfl⟩ 0 rfl rfl [122] rfl (by decide) rfl rfl (Nat.le_of_ble_eq_true rfl) ⟨?_, ?_⟩ ?_
  · show kc + 0 ≤ 600128; omega
  · show ks + 0 ≤ 7301097; omega
  rintro v8 u8 hp8
  subst hp8
  exact K _ _ ⟨N, f, C, fx, fy, lx, ly, S1, r1, r2, cs, md, me, mw, A0, B0, gf, ns, nf, nw, fw, cr, po, tx, ty, fa, f1, f2, f3, f4, fr, to1, cx, cy, zs, sf, sig, ofn, tail, rfl, iv_s hI hj, fun h => absurd h (by decide)⟩

set_option maxHeartbeats 1000000 in
set_option maxRecDepth 100000 in
theorem hv_area_0 (X : jX p s m args c cL_law 8 RL wsL_law G A) (XF : exF A s s.heap) (hst : l.stackTraces = false) {j : Nat} {N : Nat} {f : Nat → Option Nat} {C : Nat} {fx : Int64} {fy : Int64} {lx : Int64} {ly : Int64} {S1 : Int} {r1 : Nat → Int64} {r2 : Nat → Int64} {cs : XS} {md : Int32} {me : Option Nat} {mw : Option Nat} {A0 : Int} {B0 : Int} {gf : Nat → Nat → Int64} {ns : Int32} {nf : Int64} {nw : Nat → Nat → Int64} {fw : Nat → Int64} {t : Int32} {cr : Int32} {po : Int32} {tx : Int64} {ty : Int64} {fa : Nat → Int32} {f1 : Nat → Int64} {f2 : Nat → Int64} {f3 : Nat → Int64} {f4 : Nat → Int64} {fr : Nat → Int32} {to1 : Nat → Int32} {cx : Nat → Int64} {cy : Nat → Int64} {zs : List Int} {sf : Nat → Int32} {sig : Nat → Int32} {ofn : Nat → Int64} {tail : va_W} (hI : iV N C j f fx fy lx ly S1 cs md me mw A0 B0 cr po tx ty fa f1 f2 f3 f4 fr to1 cx cy zs sf sig tail) (hj : j < 64) (g1 : Int32) (hP : 0 ≤ g1.toInt ∧ g1.toInt < 4) (hk : kc ≤ 100000 ∧ ks ≤ 1000000) (kk : ∀ (code : Int32) (ws1 : va_W), (∀ (kc ks : Nat) (L : List (Nat × Value)), kc ≤ 200000 ∧ ks ≤ 2000000 → (∀ (w : Int64) (ws2 : va_W), LO G x u q ot (j + 1) code w ws2 → J p l e room_1 s m args below meth c Q G A 8 kc ks 1881 L [.long w] ws2) → J p l e room_1 s m args below meth c Q G A 8 kc ks 1878 L [.int g1, .ref (q 0)] ws1) → J p l e room_1 s m args below meth c Q G A 8 (kc + 1) (ks + 6) 1869 L [.int code] ws1) : J p l e room_1 s m args below meth c Q G A 8 kc ks 1866 L [.ref ot, .int g1, .ref x] (wL G x u q ot N f C fx fy lx ly S1 r1 r2 cs md me mw A0 B0 gf ns nf nw fw t cr po tx ty fa f1 f2 f3 f4 fr to1 cx cy zs sf sig ofn tail) := by
  obtain ⟨⟨hN, hC, hJ⟩, hsh, hgp, hpo, hcr, hzl, hzs⟩ := id hI
  refine j_callSW0 X XF dL_law_1866 (c_L_area_0 l G x (u 1) (u 2) (u 5) (u 19) (u 96) (u 113) (u 120) (nI N) (nI C) (u 3) (u 4) fx fy lx ly S1 (u 121) fw g1 (by have := (po_ly hpo).2.1; omega) hP ot ofn) gL_law_L_area rfl hs_L_area ⟨Nat.le_of_ble_eq_true rfl, Nat.le_of_ble_eq_true rfl⟩ [0, 2, 3, 4, 120, 121, 135] rfl (by decide) rfl rfl (Nat.le_of_ble_eq_true rfl) ⟨?_, ?_⟩ ?_
  · show kc + 0 ≤ 600128; omega
  · show ks + 0 ≤ 7301097; omega
  rintro v9 u9 hp9
  obtain ⟨rfl, y9, h9, h7⟩ := hp9
  obtain rfl := vl_inj h9
  change J p l e room_1 s m args below meth c Q G A 8 (kc + 0) (ks + 0) 1869 L [.int 0] (wL G x u q ot N f C fx fy lx ly S1 r1 r2 cs md me mw A0 B0 gf ns nf nw (dg (S1 + (lx.toInt * fy.toInt - ly.toInt * fx.toInt))) t cr po tx ty fa f1 f2 f3 f4 fr to1 cx cy zs sf sig (vp_updL ofn 0 u9.1) tail)
  refine j_widen (kc' := kc + 1) (ks' := ks + 6) (Nat.add_le_add_left (Nat.le_of_ble_eq_true rfl) _) (Nat.add_le_add_left (Nat.le_of_ble_eq_true rfl) _) ?_
  refine kk 0 _ (fun kc ks L hk K => ?_)
  refine j_callV0 X dL_law_1878 (c_X11_area_0 l G q t (nI N) cr po tx ty zs hzl sf hzs cx cy C (⟨by omega, hpo.1⟩) g1 hP) gL_law_X11_area rfl hy_X11_area_V ⟨Nat.le_of_ble_eq_true rfl, Nat.le_of_ble_eq_true rfl⟩ 0 rfl rfl [122, 130, 131, 132, 133] rfl (by decide) rfl rfl (Nat.le_of_ble_eq_true rfl) ⟨?_, ?_⟩ ?_
  · show kc + 0 ≤ 600128; omega
  · show ks + 0 ≤ 7301097; omega
  rintro v8 u8 hp8
  obtain ⟨rfl, h81, hk8, hs8⟩ := hp8
  exact K _ _ ⟨N, f, C, fx, fy, lx, ly, S1, r1, r2, cs, md, me, mw, A0, B0, gf, ns, nf, nw, dg (S1 + (lx.toInt * fy.toInt - ly.toInt * fx.toInt)), cr, po, tx, ty, fa, f1, f2, f3, f4, fr, to1, cx, cy, u8.2.1, u8.2.2, sig, vp_updL ofn 0 u9.1, tail, rfl, iv_k hI hj hk8 hs8, fun _ => h7.trans (by rw [ar_po hpo]; exact (dg_eq h81).symm)⟩

set_option maxHeartbeats 1000000 in
set_option maxRecDepth 100000 in
theorem hv_area_1 (X : jX p s m args c cL_law 8 RL wsL_law G A) (XF : exF A s s.heap) (hst : l.stackTraces = false) {j : Nat} {N : Nat} {f : Nat → Option Nat} {C : Nat} {fx : Int64} {fy : Int64} {lx : Int64} {ly : Int64} {S1 : Int} {r1 : Nat → Int64} {r2 : Nat → Int64} {cs : XS} {md : Int32} {me : Option Nat} {mw : Option Nat} {A0 : Int} {B0 : Int} {gf : Nat → Nat → Int64} {ns : Int32} {nf : Int64} {nw : Nat → Nat → Int64} {fw : Nat → Int64} {t : Int32} {cr : Int32} {po : Int32} {tx : Int64} {ty : Int64} {fa : Nat → Int32} {f1 : Nat → Int64} {f2 : Nat → Int64} {f3 : Nat → Int64} {f4 : Nat → Int64} {fr : Nat → Int32} {to1 : Nat → Int32} {cx : Nat → Int64} {cy : Nat → Int64} {zs : List Int} {sf : Nat → Int32} {sig : Nat → Int32} {ofn : Nat → Int64} {tail : va_W} (hI : iV N C j f fx fy lx ly S1 cs md me mw A0 B0 cr po tx ty fa f1 f2 f3 f4 fr to1 cx cy zs sf sig tail) (hj : j < 64) (g1 : Int32) (hP : ¬ (0 ≤ g1.toInt ∧ g1.toInt < 4)) (hk : kc ≤ 100000 ∧ ks ≤ 1000000) (kk : ∀ (code : Int32) (ws1 : va_W), (∀ (kc ks : Nat) (L : List (Nat × Value)), kc ≤ 200000 ∧ ks ≤ 2000000 → (∀ (w : Int64) (ws2 : va_W), LO G x u q ot (j + 1) code w ws2 → J p l e room_1 s m args below meth c Q G A 8 kc ks 1881 L [.long w] ws2) → J p l e room_1 s m args below meth c Q G A 8 kc ks 1878 L [.int g1, .ref (q 0)] ws1) → J p l e room_1 s m args below meth c Q G A 8 (kc + 1) (ks + 6) 1869 L [.int code] ws1) : J p l e room_1 s m args below meth c Q G A 8 kc ks 1866 L [.ref ot, .int g1, .ref x] (wL G x u q ot N f C fx fy lx ly S1 r1 r2 cs md me mw A0 B0 gf ns nf nw fw t cr po tx ty fa f1 f2 f3 f4 fr to1 cx cy zs sf sig ofn tail) := by
  obtain ⟨⟨hN, hC, hJ⟩, hsh, hgp, hpo, hcr, hzl, hzs⟩ := id hI
  refine j_callSW0 X XF dL_law_1866 (c_L_area_1 l G hst x (u 1) (u 2) (u 5) (u 19) (u 96) (u 113) (u 120) (nI N) g1 hP ot ofn) gL_law_L_area rfl hs_L_area ⟨Nat.le_of_ble_eq_true rfl, Nat.le_of_ble_eq_true rfl⟩ [0, 135] rfl (by decide) rfl rfl (Nat.le_of_ble_eq_true rfl) ⟨?_, ?_⟩ ?_
  · show kc + 1 ≤ 600128; omega
  · show ks + 6 ≤ 7301097; omega
  rintro v9 u9 hp9
  obtain ⟨rfl, -⟩ := hp9
  change J p l e room_1 s m args below meth c Q G A 8 (kc + 1) (ks + 6) 1869 L [.int 1] (wL G x u q ot N f C fx fy lx ly S1 r1 r2 cs md me mw A0 B0 gf ns nf nw fw t cr po tx ty fa f1 f2 f3 f4 fr to1 cx cy zs sf sig ofn tail)
  refine j_widen (kc' := kc + 1) (ks' := ks + 6) (Nat.add_le_add_left (Nat.le_of_ble_eq_true rfl) _) (Nat.add_le_add_left (Nat.le_of_ble_eq_true rfl) _) ?_
  refine kk 1 _ (fun kc ks L hk K => ?_)
  refine j_callV0 X dL_law_1878 (c_X11_area_1 l G q t (nI N) (nI C) cr po tx ty g1 hP) gL_law_X11_area rfl hy_X11_area_V ⟨Nat.le_of_ble_eq_true rfl, Nat.le_of_ble_eq_true rfl⟩ 0 rfl rfl [122] rfl (by decide) rfl rfl (Nat.le_of_ble_eq_true rfl) ⟨?_, ?_⟩ ?_
  · show kc + 0 ≤ 600128; omega
  · show ks + 0 ≤ 7301097; omega
  rintro v8 u8 hp8
  subst hp8
  exact K _ _ ⟨N, f, C, fx, fy, lx, ly, S1, r1, r2, cs, md, me, mw, A0, B0, gf, ns, nf, nw, fw, cr, po, tx, ty, fa, f1, f2, f3, f4, fr, to1, cx, cy, zs, sf, sig, ofn, tail, rfl, iv_s hI hj, fun h => absurd h (by decide)⟩
end HV
