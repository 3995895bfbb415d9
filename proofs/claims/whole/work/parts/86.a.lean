/-! the law, row by row -/
theorem nI_a (i k : Nat) : nI i + nI k = nI (i + k) := (Int32.ofNat_add i k).symm
theorem sc_1 (i : Nat) : nI i + 1 = nI (i + 1) := nI_a i 1
theorem sc_2 (i : Nat) : nI i + 2 = nI (i + 2) := nI_a i 2
theorem sc_3 (i : Nat) : nI i + 3 = nI (i + 3) := nI_a i 3
theorem sc_4 (i : Nat) : nI i + 4 = nI (i + 4) := nI_a i 4
theorem sc_5 (i : Nat) : nI i + 5 = nI (i + 5) := nI_a i 5
theorem sc_6 (i : Nat) : nI i + 6 = nI (i + 6) := nI_a i 6
theorem sc_7 (i : Nat) : nI i + 7 = nI (i + 7) := nI_a i 7
theorem sc_8 (i : Nat) : nI i + 8 = nI (i + 8) := nI_a i 8
theorem sc_9 (i : Nat) : nI i + 9 = nI (i + 9) := nI_a i 9
theorem sc_10 (i : Nat) : nI i + 10 = nI (i + 10) := nI_a i 10
theorem sc_11 (i : Nat) : nI i + 11 = nI (i + 11) := nI_a i 11
theorem sc_12 (i : Nat) : nI i + 12 = nI (i + 12) := nI_a i 12
theorem lgc_s (x : Int64) : lg_cmp x x = 0 := (lg_cmp_eq x x).mpr rfl
theorem cst_L_68 : Jvm.Cond.constantLong RL 68 4294967295 ∈ wsL_law := by decide +kernel
section LC
variable {p : Program} {l : Launch} {e : Env} {s : State} {m : MethodId} {args : Array Value} {below : List Frame} {meth : Method} {c : Code} {Q : State → Prop} {G : jG} {A : Nat → Prop} {kc ks : Nat} {L : List (Nat × Value)} {x ot : Nat} {u q : Nat → Nat}
theorem lo_thr (X : jX p s m args c cL_law 8 RL wsL_law G A) {j : Nat} {code : Int32} {bv : Int64} {ws : va_W} {pc : Nat} (h : LO G x u q ot j code bv ws) (hd : decode cL_law pc = .ok (.invokevirtual 76, 3)) (hk : kc ≤ 200000 ∧ ks ≤ 2000000) (k : J p l e room_1 s m args below meth c Q G A 8 kc ks (pc + 3) L [.int code] ws) : J p l e room_1 s m args below meth c Q G A 8 kc ks pc L [.ref (q 0)] ws := by
  obtain ⟨N, f, C, fx, fy, lx, ly, S1, r1, r2, cs, md, me, mw, A0, B0, gf, ns, nf, nw, fw, cr, po, tx, ty, fa, f1, f2, f3, f4, fr, to1, cx, cy, zs, sf, sig, ofn, tail, rfl, -, -⟩ := h
  refine j_callV0 X hd (c_X11_thrown l G q code (nI N) (nI C) cr po tx ty) gL_law_X11_thrown rfl hy_X11_thrown_V ⟨Nat.le_of_ble_eq_true rfl, Nat.le_of_ble_eq_true rfl⟩ 0 rfl rfl [122] rfl (by decide) rfl rfl (Nat.le_of_ble_eq_true rfl) ⟨?_, ?_⟩ ?_
  · show kc + 0 ≤ 600128; omega
  · show ks + 0 ≤ 7301097; omega
  rintro v8 u8 hp8
  subst hp8
  exact k
theorem lo_ld (X : jX p s m args c cL_law 8 RL wsL_law G A) {j : Nat} {code : Int32} {bv : Int64} {ws : va_W} {pc : Nat} {st : List Value} (h : LO G x u q ot j code bv ws) (hc : code = 0) (hd : decode cL_law pc = .ok (.laload, 1)) (k : J p l e room_1 s m args below meth c Q G A 8 kc ks (pc + 1) L (.long bv :: st) ws) : J p l e room_1 s m args below meth c Q G A 8 kc ks pc L (.int 0 :: .ref ot :: st) ws := by
  obtain ⟨N, f, C, fx, fy, lx, ly, S1, r1, r2, cs, md, me, mw, A0, B0, gf, ns, nf, nw, fw, cr, po, tx, ty, fa, f1, f2, f3, f4, fr, to1, cx, cy, zs, sf, sig, ofn, tail, rfl, -, hb⟩ := h
  refine j_lald X hd 135 rfl 0 rfl (by decide) (by decide) ?_
  rw [hb hc]
  exact k

theorem hc_turn (X : jX p s m args c cL_law 8 RL wsL_law G A) (XF : exF A s s.heap) (hst : l.stackTraces = false) {j : Nat} {code0 : Int32} {bv0 : Int64} {ws : va_W} (hL : LO G x u q ot j code0 bv0 ws) (hj : j < 64) (g1 : Int64) (g2 : Int64) (g3 : Int64) (g4 : Int64) (g5 : Int64) (g6 : Int64) (hk : kc ≤ 100000 ∧ ks ≤ 1000000) (kk : ∀ (code : Int32) (ws1 : va_W), (∀ (kc ks : Nat) (L : List (Nat × Value)), kc ≤ 200000 ∧ ks ≤ 2000000 → (∀ (w : Int32) (ws2 : va_W), LO G x u q ot (j + 1) code w.toInt64 ws2 → J p l e room_1 s m args below meth c Q G A 8 kc ks 397 L [.int w] ws2) → J p l e room_1 s m args below meth c Q G A 8 kc ks 394 L [.long g6, .long g5, .long g4, .long g3, .long g2, .long g1, .ref (q 0)] ws1) → J p l e room_1 s m args below meth c Q G A 8 (kc + 1) (ks + 6) 252 L [.int code] ws1) : J p l e room_1 s m args below meth c Q G A 8 kc ks 249 L [.ref ot, .long g6, .long g5, .long g4, .long g3, .long g2, .long g1, .ref x] ws := by
  obtain ⟨N, f, C, fx, fy, lx, ly, S1, r1, r2, cs, md, me, mw, A0, B0, gf, ns, nf, nw, fw, cr, po, tx, ty, fa, f1, f2, f3, f4, fr, to1, cx, cy, zs, sf, sig, ofn, tail, rfl, hI, -⟩ := hL
  by_cases hP : (inC g1.toInt ∧ inC g2.toInt) ∧ (inC g3.toInt ∧ inC g4.toInt) ∧ (inC g5.toInt ∧ inC g6.toInt)
  · exact hv_turn_ok X XF hst hI hj g1 g2 g3 g4 g5 g6 hP hk kk
  · exact hv_turn_no X XF hst hI hj g1 g2 g3 g4 g5 g6 hP hk kk

theorem hc_segment (X : jX p s m args c cL_law 8 RL wsL_law G A) (XF : exF A s s.heap) (hst : l.stackTraces = false) {j : Nat} {code0 : Int32} {bv0 : Int64} {ws : va_W} (hL : LO G x u q ot j code0 bv0 ws) (hj : j < 64) (g1 : Int64) (g2 : Int64) (g3 : Int64) (g4 : Int64) (hk : kc ≤ 100000 ∧ ks ≤ 1000000) (kk : ∀ (code : Int32) (ws1 : va_W), (∀ (kc ks : Nat) (L : List (Nat × Value)), kc ≤ 200000 ∧ ks ≤ 2000000 → (∀ (w : Int32) (ws2 : va_W), LO G x u q ot (j + 1) code w.toInt64 ws2 → J p l e room_1 s m args below meth c Q G A 8 kc ks 623 L [.int w] ws2) → J p l e room_1 s m args below meth c Q G A 8 kc ks 620 L [.long g4, .long g3, .long g2, .long g1, .ref (q 0)] ws1) → J p l e room_1 s m args below meth c Q G A 8 (kc + 1) (ks + 6) 526 L [.int code] ws1) : J p l e room_1 s m args below meth c Q G A 8 kc ks 523 L [.ref ot, .long g4, .long g3, .long g2, .long g1, .ref x] ws := by
  obtain ⟨N, f, C, fx, fy, lx, ly, S1, r1, r2, cs, md, me, mw, A0, B0, gf, ns, nf, nw, fw, cr, po, tx, ty, fa, f1, f2, f3, f4, fr, to1, cx, cy, zs, sf, sig, ofn, tail, rfl, hI, -⟩ := hL
  by_cases hP : ((inC g1.toInt ∧ inC g2.toInt) ∧ (inC g3.toInt ∧ inC g4.toInt)) ∧ ¬ (g1.toInt = g3.toInt ∧ g2.toInt = g4.toInt)
  · exact hv_segment_ok X XF hst hI hj g1 g2 g3 g4 hP hk kk
  · exact hv_segment_no X XF hst hI hj g1 g2 g3 g4 hP hk kk

theorem hc_arc (X : jX p s m args c cL_law 8 RL wsL_law G A) (XF : exF A s s.heap) (hst : l.stackTraces = false) {j : Nat} {code0 : Int32} {bv0 : Int64} {ws : va_W} (hL : LO G x u q ot j code0 bv0 ws) (hj : j < 64) (g1 : Int64) (g2 : Int64) (g3 : Int64) (g4 : Int32) (g5 : Int32) (hk : kc ≤ 100000 ∧ ks ≤ 1000000) (kk : ∀ (code : Int32) (ws1 : va_W), (∀ (kc ks : Nat) (L : List (Nat × Value)), kc ≤ 200000 ∧ ks ≤ 2000000 → (∀ (w : Int32) (ws2 : va_W), LO G x u q ot (j + 1) code w.toInt64 ws2 → J p l e room_1 s m args below meth c Q G A 8 kc ks 829 L [.int w] ws2) → J p l e room_1 s m args below meth c Q G A 8 kc ks 826 L [.int g5, .int g4, .long g3, .long g2, .long g1, .ref (q 0)] ws1) → J p l e room_1 s m args below meth c Q G A 8 (kc + 1) (ks + 6) 742 L [.int code] ws1) : J p l e room_1 s m args below meth c Q G A 8 kc ks 739 L [.ref ot, .int g5, .int g4, .long g3, .long g2, .long g1, .ref x] ws := by
  obtain ⟨N, f, C, fx, fy, lx, ly, S1, r1, r2, cs, md, me, mw, A0, B0, gf, ns, nf, nw, fw, cr, po, tx, ty, fa, f1, f2, f3, f4, fr, to1, cx, cy, zs, sf, sig, ofn, tail, rfl, hI, -⟩ := hL
  by_cases hP : (inC g1.toInt ∧ inC g2.toInt) ∧ (1 ≤ g3.toInt ∧ g3.toInt ≤ 4611686018427387904) ∧ (0 ≤ g4.toInt ∧ g4.toInt < 8) ∧ (0 ≤ g5.toInt ∧ g5.toInt < 8)
  · exact hv_arc_ok X XF hst hI hj g1 g2 g3 g4 g5 hP hk kk
  · exact hv_arc_no X XF hst hI hj g1 g2 g3 g4 g5 hP hk kk

theorem hc_compare (X : jX p s m args c cL_law 8 RL wsL_law G A) (XF : exF A s s.heap) (hst : l.stackTraces = false) {j : Nat} {code0 : Int32} {bv0 : Int64} {ws : va_W} (hL : LO G x u q ot j code0 bv0 ws) (hj : j < 64) (g1 : Int64) (g2 : Int64) (g3 : Int64) (g4 : Int64) (hk : kc ≤ 100000 ∧ ks ≤ 1000000) (kk : ∀ (code : Int32) (ws1 : va_W), (∀ (kc ks : Nat) (L : List (Nat × Value)), kc ≤ 200000 ∧ ks ≤ 2000000 → (∀ (w : Int32) (ws2 : va_W), LO G x u q ot (j + 1) code w.toInt64 ws2 → J p l e room_1 s m args below meth c Q G A 8 kc ks 1146 L [.int w] ws2) → J p l e room_1 s m args below meth c Q G A 8 kc ks 1143 L [.long g4, .long g3, .long g2, .long g1, .ref (q 0)] ws1) → J p l e room_1 s m args below meth c Q G A 8 (kc + 1) (ks + 6) 1049 L [.int code] ws1) : J p l e room_1 s m args below meth c Q G A 8 kc ks 1046 L [.ref ot, .long g4, .long g3, .long g2, .long g1, .ref x] ws := by
  obtain ⟨N, f, C, fx, fy, lx, ly, S1, r1, r2, cs, md, me, mw, A0, B0, gf, ns, nf, nw, fw, cr, po, tx, ty, fa, f1, f2, f3, f4, fr, to1, cx, cy, zs, sf, sig, ofn, tail, rfl, hI, -⟩ := hL
  by_cases hP : 0 ≤ g3.toInt
  · exact hv_compare_ok X XF hst hI hj g1 g2 g3 g4 hP hk kk
  · exact hv_compare_no X XF hst hI hj g1 g2 g3 g4 (Int.not_le.mp hP) hk kk

theorem hc_over (X : jX p s m args c cL_law 8 RL wsL_law G A) (XF : exF A s s.heap) (hst : l.stackTraces = false) {j : Nat} {code0 : Int32} {bv0 : Int64} {ws : va_W} (hL : LO G x u q ot j code0 bv0 ws) (hj : j < 64) (g1 : Int64) (g2 : Int64) (g3 : Int32) (hk : kc ≤ 100000 ∧ ks ≤ 1000000) (kk : ∀ (code : Int32) (ws1 : va_W), (∀ (kc ks : Nat) (L : List (Nat × Value)), kc ≤ 200000 ∧ ks ≤ 2000000 → (∀ (w : Int64) (ws2 : va_W), LO G x u q ot (j + 1) code w ws2 → J p l e room_1 s m args below meth c Q G A 8 kc ks 1588 L [.long w] ws2) → J p l e room_1 s m args below meth c Q G A 8 kc ks 1585 L [.int g3, .long g2, .long g1, .ref (q 0)] ws1) → J p l e room_1 s m args below meth c Q G A 8 (kc + 1) (ks + 6) 1532 L [.int code] ws1) : J p l e room_1 s m args below meth c Q G A 8 kc ks 1529 L [.ref ot, .int g3, .long g2, .long g1, .ref x] ws := by
  obtain ⟨N, f, C, fx, fy, lx, ly, S1, r1, r2, cs, md, me, mw, A0, B0, gf, ns, nf, nw, fw, cr, po, tx, ty, fa, f1, f2, f3, f4, fr, to1, cx, cy, zs, sf, sig, ofn, tail, rfl, hI, -⟩ := hL
  by_cases hb : g2.toInt = 0
  · exact hv_over_1 X XF hst hI hj g1 g2 g3 hb hk kk
  by_cases hP : 0 ≤ g3.toInt ∧ g3.toInt ≤ 2
  · by_cases hb1 : g2.toInt = -1
    · exact hv_over_m X XF hst hI hj g1 g2 g3 hb1 hP hk kk
    · exact hv_over_0 X XF hst hI hj g1 g2 g3 hb hb1 hP hk kk
  · exact hv_over_2 X XF hst hI hj g1 g2 g3 hb hP hk kk

theorem hc_root (X : jX p s m args c cL_law 8 RL wsL_law G A) (XF : exF A s s.heap) (hst : l.stackTraces = false) {j : Nat} {code0 : Int32} {bv0 : Int64} {ws : va_W} (hL : LO G x u q ot j code0 bv0 ws) (hj : j < 64) (g1 : Int64) (g2 : Int32) (hk : kc ≤ 100000 ∧ ks ≤ 1000000) (kk : ∀ (code : Int32) (ws1 : va_W), (∀ (kc ks : Nat) (L : List (Nat × Value)), kc ≤ 200000 ∧ ks ≤ 2000000 → (∀ (w : Int64) (ws2 : va_W), LO G x u q ot (j + 1) code w ws2 → J p l e room_1 s m args below meth c Q G A 8 kc ks 1687 L [.long w] ws2) → J p l e room_1 s m args below meth c Q G A 8 kc ks 1684 L [.int g2, .long g1, .ref (q 0)] ws1) → J p l e room_1 s m args below meth c Q G A 8 (kc + 1) (ks + 6) 1653 L [.int code] ws1) : J p l e room_1 s m args below meth c Q G A 8 kc ks 1650 L [.ref ot, .int g2, .long g1, .ref x] ws := by
  obtain ⟨N, f, C, fx, fy, lx, ly, S1, r1, r2, cs, md, me, mw, A0, B0, gf, ns, nf, nw, fw, cr, po, tx, ty, fa, f1, f2, f3, f4, fr, to1, cx, cy, zs, sf, sig, ofn, tail, rfl, hI, -⟩ := hL
  by_cases hP : 0 ≤ g2.toInt ∧ g2.toInt ≤ 2
  · by_cases hv : 0 ≤ g1.toInt
    · exact hv_root_0 X XF hst hI hj g1 g2 hP hv hk kk
    · exact hv_root_2 X XF hst hI hj g1 g2 hP (Int.not_le.mp hv) hk kk
  · exact hv_root_1 X XF hst hI hj g1 g2 hP hk kk

theorem hc_corner (X : jX p s m args c cL_law 8 RL wsL_law G A) (XF : exF A s s.heap) (hst : l.stackTraces = false) {j : Nat} {code0 : Int32} {bv0 : Int64} {ws : va_W} (hL : LO G x u q ot j code0 bv0 ws) (hj : j < 64) (g1 : Int64) (g2 : Int64) (hk : kc ≤ 100000 ∧ ks ≤ 1000000) (kk : ∀ (code : Int32) (ws1 : va_W), (∀ (kc ks : Nat) (L : List (Nat × Value)), kc ≤ 200000 ∧ ks ≤ 2000000 → (∀ (w : Int32) (ws2 : va_W), LO G x u q ot (j + 1) code (if w = 0 then 0 else 1) ws2 → J p l e room_1 s m args below meth c Q G A 8 kc ks 1818 L [.int w] ws2) → J p l e room_1 s m args below meth c Q G A 8 kc ks 1815 L [.long g2, .long g1, .ref (q 0)] ws1) → J p l e room_1 s m args below meth c Q G A 8 (kc + 1) (ks + 6) 1768 L [.int code] ws1) : J p l e room_1 s m args below meth c Q G A 8 kc ks 1765 L [.ref ot, .long g2, .long g1, .ref x] ws := by
  obtain ⟨N, f, C, fx, fy, lx, ly, S1, r1, r2, cs, md, me, mw, A0, B0, gf, ns, nf, nw, fw, cr, po, tx, ty, fa, f1, f2, f3, f4, fr, to1, cx, cy, zs, sf, sig, ofn, tail, rfl, hI, -⟩ := hL
  by_cases hP : inC g1.toInt ∧ inC g2.toInt
  · by_cases hC0 : C = 0
    · exact hv_corner_0 X XF hst hI hj g1 g2 hP hC0 hk kk
    · exact hv_corner_n X XF hst hI hj g1 g2 hP (Nat.pos_of_ne_zero hC0) hk kk
  · exact hv_corner_no X XF hst hI hj g1 g2 hP hk kk

theorem hc_area (X : jX p s m args c cL_law 8 RL wsL_law G A) (XF : exF A s s.heap) (hst : l.stackTraces = false) {j : Nat} {code0 : Int32} {bv0 : Int64} {ws : va_W} (hL : LO G x u q ot j code0 bv0 ws) (hj : j < 64) (g1 : Int32) (hk : kc ≤ 100000 ∧ ks ≤ 1000000) (kk : ∀ (code : Int32) (ws1 : va_W), (∀ (kc ks : Nat) (L : List (Nat × Value)), kc ≤ 200000 ∧ ks ≤ 2000000 → (∀ (w : Int64) (ws2 : va_W), LO G x u q ot (j + 1) code w ws2 → J p l e room_1 s m args below meth c Q G A 8 kc ks 1881 L [.long w] ws2) → J p l e room_1 s m args below meth c Q G A 8 kc ks 1878 L [.int g1, .ref (q 0)] ws1) → J p l e room_1 s m args below meth c Q G A 8 (kc + 1) (ks + 6) 1869 L [.int code] ws1) : J p l e room_1 s m args below meth c Q G A 8 kc ks 1866 L [.ref ot, .int g1, .ref x] ws := by
  obtain ⟨N, f, C, fx, fy, lx, ly, S1, r1, r2, cs, md, me, mw, A0, B0, gf, ns, nf, nw, fw, cr, po, tx, ty, fa, f1, f2, f3, f4, fr, to1, cx, cy, zs, sf, sig, ofn, tail, rfl, hI, -⟩ := hL
  by_cases hP : 0 ≤ g1.toInt ∧ g1.toInt < 4
  · exact hv_area_0 X XF hst hI hj g1 hP hk kk
  · exact hv_area_1 X XF hst hI hj g1 hP hk kk

set_option maxRecDepth 20000 in
theorem lc_clear (X : jX p s m args c cL_law 8 RL wsL_law G A) (XF : exF A s s.heap) (hst : l.stackTraces = false) {b i j : Nat} {code0 : Int32} {bv0 : Int64} {ws : va_W} (hL : LO G x u q ot j code0 bv0 ws) (hj : j < 64) (hk : kc ≤ 50000 ∧ ks ≤ 500000) (kk : ∀ (code : Int32) (bv : Int64) (ws2 : va_W), LO G x u q ot (j + 1) code bv ws2 → J p l e room_1 s m args below meth c Q G A 8 (kc + 1) (ks + 6) 1924 [(0, .ref b), (1, .ref x), (2, .ref (q 0)), (3, .ref ot), (4, .int (nI i))] [] ws2) : J p l e room_1 s m args below meth c Q G A 8 kc ks 1913 [(0, .ref b), (1, .ref x), (2, .ref (q 0)), (3, .ref ot), (4, .int (nI i))] [] ws := by
  obtain ⟨N, f, C, fx, fy, lx, ly, S1, r1, r2, cs, md, me, mw, A0, B0, gf, ns, nf, nw, fw, cr, po, tx, ty, fa, f1, f2, f3, f4, fr, to1, cx, cy, zs, sf, sig, ofn, tail, rfl, hI, -⟩ := hL
  obtain ⟨⟨hN, hC, hJ⟩, hsh, hgp, hpo, hcr, hz⟩ := hI
  refine j_aload_n X dL_law_1913 rfl 1 rfl ?_
  refine j_callV0 X dL_law_1914 (c_X10_clear l G x (u 1) (u 2) (u 5) (u 19) (u 96) (u 113) (u 120) (nI N) (u 3) (u 4) (nI C) fx fy lx ly (dg S1) (u 20) (u 34) (u 36) (u 51) (u 66) (u 81) (u 88) (u 90) (u 92) (u 94) md cs.2.2.2.1 cs.2.2.2.2.1 cs.2.2.2.2.2.1) gL_law_X10_clear rfl hy_X10_clear_V ⟨Nat.le_of_ble_eq_true rfl, Nat.le_of_ble_eq_true rfl⟩ 0 rfl rfl [0, 2, 3, 4, 19] rfl (by decide) rfl rfl (Nat.le_of_ble_eq_true rfl) ⟨?_, ?_⟩ ?_
  · show kc + 0 ≤ 600128; omega
  · show ks + 0 ≤ 7301097; omega
  rintro v9 u9 hp9
  subst hp9
  refine j_aload_n X dL_law_1917 rfl 2 rfl ?_
  refine j_callV0 X dL_law_1918 (c_X11_clear l G q code0 (nI N) (nI C) cr po tx ty) gL_law_X11_clear rfl hy_X11_clear_V ⟨Nat.le_of_ble_eq_true rfl, Nat.le_of_ble_eq_true rfl⟩ 0 rfl rfl [122] rfl (by decide) rfl rfl (Nat.le_of_ble_eq_true rfl) ⟨?_, ?_⟩ ?_
  · show kc + 0 + 0 ≤ 600128; omega
  · show ks + 0 + 0 ≤ 7301097; omega
  rintro v8 u8 hp8
  subst hp8
  refine j_goto (tgt := 1924) X dL_law_1921 (by decide) ?_
  refine j_widen (kc' := kc + 1) (ks' := ks + 6) (Nat.add_le_add_left (Nat.le_of_ble_eq_true rfl) _) (Nat.add_le_add_left (Nat.le_of_ble_eq_true rfl) _) ?_
  exact kk 0 (ofn 0) _ ⟨0, f, 0, 0, 0, 0, 0, 0, r1, r2, (cs.1, cs.2.1, cs.2.2.1, 0, cs.2.2.2.2), 0, me, mw, A0, B0, gf, ns, nf, nw, fw, 0, 0, tx, ty, fa, f1, f2, f3, f4, fr, to1, cx, cy, zs, sf, sig, ofn, tail, rfl, ⟨⟨by omega, by omega, by omega⟩, fun k hk => absurd hk (Nat.not_lt_zero k), hgp, ⟨fun k hk => absurd hk (Nat.not_lt_zero k), rfl, Or.inl ⟨rfl, rfl, rfl, rfl, rfl⟩⟩, ⟨hcr.1, Or.inl ⟨rfl, rfl⟩⟩, hz⟩, fun _ => rfl⟩

set_option maxRecDepth 20000 in
theorem lc_turn (X : jX p s m args c cL_law 8 RL wsL_law G A) (XF : exF A s s.heap) (hst : l.stackTraces = false) {b K : Nat} {xs : Nat → Int32} (hX : va_X b K xs s s.heap) (hb : b < s.heap.size) (hA : ¬ A b) (hK : K ≤ 832) {i j : Nat} (hi : i + 13 ≤ K) {code0 : Int32} {bv0 : Int64} {ws : va_W} (hL : LO G x u q ot j code0 bv0 ws) (hj : j < 64) (hk : kc ≤ 50000 ∧ ks ≤ 500000) (kk : ∀ (code : Int32) (bv : Int64) (ws2 : va_W), LO G x u q ot (j + 1) code bv ws2 → J p l e room_1 s m args below meth c Q G A 8 (kc + 1) (ks + 6) 1924 [(0, .ref b), (1, .ref x), (2, .ref (q 0)), (3, .ref ot), (4, .int (nI i))] [] ws2) : J p l e room_1 s m args below meth c Q G A 8 kc ks 108 [(0, .ref b), (1, .ref x), (2, .ref (q 0)), (3, .ref ot), (4, .int (nI i))] [] ws := by
  refine j_aload_n X dL_law_108 rfl 1 rfl ?_
  refine j_aload_n X dL_law_109 rfl 0 rfl ?_
  refine j_iload X dL_law_110 4 rfl ?_
  refine j_iconst (v := 1) X dL_law_112 rfl ?_
  refine j_iadd X dL_law_113 ?_
  refine j_sald X hX hb hA dL_law_114 (i + 1) (sc_1 i) (by omega) (by omega) ?_
  refine j_i2l X dL_law_115 rfl ?_
  refine j_bipush (v := 32) X dL_law_116 (by decide) ?_
  refine j_lshl X dL_law_118 rfl ?_
  refine j_aload_n X dL_law_119 rfl 0 rfl ?_
  refine j_iload X dL_law_120 4 rfl ?_
  refine j_iconst (v := 2) X dL_law_122 rfl ?_
  refine j_iadd X dL_law_123 ?_
  refine j_sald X hX hb hA dL_law_124 (i + 2) (sc_2 i) (by omega) (by omega) ?_
  refine j_i2l X dL_law_125 rfl ?_
  refine j_ldc2 (v := 4294967295) X dL_law_126 cst_L_68 ?_
  refine j_land X dL_law_129 ?_
  refine j_lor X dL_law_130 ?_
  refine j_aload_n X dL_law_131 rfl 0 rfl ?_
  refine j_iload X dL_law_132 4 rfl ?_
  refine j_iconst (v := 3) X dL_law_134 rfl ?_
  refine j_iadd X dL_law_135 ?_
  refine j_sald X hX hb hA dL_law_136 (i + 3) (sc_3 i) (by omega) (by omega) ?_
  refine j_i2l X dL_law_137 rfl ?_
  refine j_bipush (v := 32) X dL_law_138 (by decide) ?_
  refine j_lshl X dL_law_140 rfl ?_
  refine j_aload_n X dL_law_141 rfl 0 rfl ?_
  refine j_iload X dL_law_142 4 rfl ?_
  refine j_iconst (v := 4) X dL_law_144 rfl ?_
  refine j_iadd X dL_law_145 ?_
  refine j_sald X hX hb hA dL_law_146 (i + 4) (sc_4 i) (by omega) (by omega) ?_
  refine j_i2l X dL_law_147 rfl ?_
  refine j_ldc2 (v := 4294967295) X dL_law_148 cst_L_68 ?_
  refine j_land X dL_law_151 ?_
  refine j_lor X dL_law_152 ?_
  refine j_aload_n X dL_law_153 rfl 0 rfl ?_
  refine j_iload X dL_law_154 4 rfl ?_
  refine j_iconst (v := 5) X dL_law_156 rfl ?_
  refine j_iadd X dL_law_157 ?_
  refine j_sald X hX hb hA dL_law_158 (i + 5) (sc_5 i) (by omega) (by omega) ?_
  refine j_i2l X dL_law_159 rfl ?_
  refine j_bipush (v := 32) X dL_law_160 (by decide) ?_
  refine j_lshl X dL_law_162 rfl ?_
  refine j_aload_n X dL_law_163 rfl 0 rfl ?_
  refine j_iload X dL_law_164 4 rfl ?_
  refine j_bipush (v := 6) X dL_law_166 (by decide) ?_
  refine j_iadd X dL_law_168 ?_
  refine j_sald X hX hb hA dL_law_169 (i + 6) (sc_6 i) (by omega) (by omega) ?_
  refine j_i2l X dL_law_170 rfl ?_
  refine j_ldc2 (v := 4294967295) X dL_law_171 cst_L_68 ?_
  refine j_land X dL_law_174 ?_
  refine j_lor X dL_law_175 ?_
  refine j_aload_n X dL_law_176 rfl 0 rfl ?_
  refine j_iload X dL_law_177 4 rfl ?_
  refine j_bipush (v := 7) X dL_law_179 (by decide) ?_
  refine j_iadd X dL_law_181 ?_
  refine j_sald X hX hb hA dL_law_182 (i + 7) (sc_7 i) (by omega) (by omega) ?_
  refine j_i2l X dL_law_183 rfl ?_
  refine j_bipush (v := 32) X dL_law_184 (by decide) ?_
  refine j_lshl X dL_law_186 rfl ?_
  refine j_aload_n X dL_law_187 rfl 0 rfl ?_
  refine j_iload X dL_law_188 4 rfl ?_
  refine j_bipush (v := 8) X dL_law_190 (by decide) ?_
  refine j_iadd X dL_law_192 ?_
  refine j_sald X hX hb hA dL_law_193 (i + 8) (sc_8 i) (by omega) (by omega) ?_
  refine j_i2l X dL_law_194 rfl ?_
  refine j_ldc2 (v := 4294967295) X dL_law_195 cst_L_68 ?_
  refine j_land X dL_law_198 ?_
  refine j_lor X dL_law_199 ?_
  refine j_aload_n X dL_law_200 rfl 0 rfl ?_
  refine j_iload X dL_law_201 4 rfl ?_
  refine j_bipush (v := 9) X dL_law_203 (by decide) ?_
  refine j_iadd X dL_law_205 ?_
  refine j_sald X hX hb hA dL_law_206 (i + 9) (sc_9 i) (by omega) (by omega) ?_
  refine j_i2l X dL_law_207 rfl ?_
  refine j_bipush (v := 32) X dL_law_208 (by decide) ?_
  refine j_lshl X dL_law_210 rfl ?_
  refine j_aload_n X dL_law_211 rfl 0 rfl ?_
  refine j_iload X dL_law_212 4 rfl ?_
  refine j_bipush (v := 10) X dL_law_214 (by decide) ?_
  refine j_iadd X dL_law_216 ?_
  refine j_sald X hX hb hA dL_law_217 (i + 10) (sc_10 i) (by omega) (by omega) ?_
  refine j_i2l X dL_law_218 rfl ?_
  refine j_ldc2 (v := 4294967295) X dL_law_219 cst_L_68 ?_
  refine j_land X dL_law_222 ?_
  refine j_lor X dL_law_223 ?_
  refine j_aload_n X dL_law_224 rfl 0 rfl ?_
  refine j_iload X dL_law_225 4 rfl ?_
  refine j_bipush (v := 11) X dL_law_227 (by decide) ?_
  refine j_iadd X dL_law_229 ?_
  refine j_sald X hX hb hA dL_law_230 (i + 11) (sc_11 i) (by omega) (by omega) ?_
  refine j_i2l X dL_law_231 rfl ?_
  refine j_bipush (v := 32) X dL_law_232 (by decide) ?_
  refine j_lshl X dL_law_234 rfl ?_
  refine j_aload_n X dL_law_235 rfl 0 rfl ?_
  refine j_iload X dL_law_236 4 rfl ?_
  refine j_bipush (v := 12) X dL_law_238 (by decide) ?_
  refine j_iadd X dL_law_240 ?_
  refine j_sald X hX hb hA dL_law_241 (i + 12) (sc_12 i) (by omega) (by omega) ?_
  refine j_i2l X dL_law_242 rfl ?_
  refine j_ldc2 (v := 4294967295) X dL_law_243 cst_L_68 ?_
  refine j_land X dL_law_246 ?_
  refine j_lor X dL_law_247 ?_
  refine j_aload_n X dL_law_248 rfl 3 rfl ?_
  refine hc_turn X XF hst hL hj _ _ _ _ _ _ ⟨by omega, by omega⟩ (fun code ws1 hR => ?_)
  refine j_istore (L' := [(5, .int code), (0, .ref b), (1, .ref x), (2, .ref (q 0)), (3, .ref ot), (4, .int (nI i))]) X dL_law_252 (by decide) rfl ?_
  refine j_aload_n X dL_law_254 rfl 3 rfl ?_
  refine j_aload_n X dL_law_255 rfl 1 rfl ?_
  refine j_iload X dL_law_256 5 rfl ?_
  refine j_iconst (v := 1) X dL_law_258 rfl ?_
  refine j_iadd X dL_law_259 ?_
  refine j_sald X hX hb hA dL_law_260 (i + 1) (sc_1 i) (by omega) (by omega) ?_
  refine j_i2l X dL_law_261 rfl ?_
  refine j_bipush (v := 32) X dL_law_262 (by decide) ?_
  refine j_lshl X dL_law_264 rfl ?_
  refine j_aload_n X dL_law_265 rfl 1 rfl ?_
  refine j_iload X dL_law_266 5 rfl ?_
  refine j_iconst (v := 2) X dL_law_268 rfl ?_
  refine j_iadd X dL_law_269 ?_
  refine j_sald X hX hb hA dL_law_270 (i + 2) (sc_2 i) (by omega) (by omega) ?_
  refine j_i2l X dL_law_271 rfl ?_
  refine j_ldc2 (v := 4294967295) X dL_law_272 cst_L_68 ?_
  refine j_land X dL_law_275 ?_
  refine j_lor X dL_law_276 ?_
  refine j_aload_n X dL_law_277 rfl 1 rfl ?_
  refine j_iload X dL_law_278 5 rfl ?_
  refine j_iconst (v := 3) X dL_law_280 rfl ?_
  refine j_iadd X dL_law_281 ?_
  refine j_sald X hX hb hA dL_law_282 (i + 3) (sc_3 i) (by omega) (by omega) ?_
  refine j_i2l X dL_law_283 rfl ?_
  refine j_bipush (v := 32) X dL_law_284 (by decide) ?_
  refine j_lshl X dL_law_286 rfl ?_
  refine j_aload_n X dL_law_287 rfl 1 rfl ?_
  refine j_iload X dL_law_288 5 rfl ?_
  refine j_iconst (v := 4) X dL_law_290 rfl ?_
  refine j_iadd X dL_law_291 ?_
  refine j_sald X hX hb hA dL_law_292 (i + 4) (sc_4 i) (by omega) (by omega) ?_
  refine j_i2l X dL_law_293 rfl ?_
  refine j_ldc2 (v := 4294967295) X dL_law_294 cst_L_68 ?_
  refine j_land X dL_law_297 ?_
  refine j_lor X dL_law_298 ?_
  refine j_aload_n X dL_law_299 rfl 1 rfl ?_
  refine j_iload X dL_law_300 5 rfl ?_
  refine j_iconst (v := 5) X dL_law_302 rfl ?_
  refine j_iadd X dL_law_303 ?_
  refine j_sald X hX hb hA dL_law_304 (i + 5) (sc_5 i) (by omega) (by omega) ?_
  refine j_i2l X dL_law_305 rfl ?_
  refine j_bipush (v := 32) X dL_law_306 (by decide) ?_
  refine j_lshl X dL_law_308 rfl ?_
  refine j_aload_n X dL_law_309 rfl 1 rfl ?_
  refine j_iload X dL_law_310 5 rfl ?_
  refine j_bipush (v := 6) X dL_law_312 (by decide) ?_
  refine j_iadd X dL_law_314 ?_
  refine j_sald X hX hb hA dL_law_315 (i + 6) (sc_6 i) (by omega) (by omega) ?_
  refine j_i2l X dL_law_316 rfl ?_
  refine j_ldc2 (v := 4294967295) X dL_law_317 cst_L_68 ?_
  refine j_land X dL_law_320 ?_
  refine j_lor X dL_law_321 ?_
  refine j_aload_n X dL_law_322 rfl 1 rfl ?_
  refine j_iload X dL_law_323 5 rfl ?_
  refine j_bipush (v := 7) X dL_law_325 (by decide) ?_
  refine j_iadd X dL_law_327 ?_
  refine j_sald X hX hb hA dL_law_328 (i + 7) (sc_7 i) (by omega) (by omega) ?_
  refine j_i2l X dL_law_329 rfl ?_
  refine j_bipush (v := 32) X dL_law_330 (by decide) ?_
  refine j_lshl X dL_law_332 rfl ?_
  refine j_aload_n X dL_law_333 rfl 1 rfl ?_
  refine j_iload X dL_law_334 5 rfl ?_
  refine j_bipush (v := 8) X dL_law_336 (by decide) ?_
  refine j_iadd X dL_law_338 ?_
  refine j_sald X hX hb hA dL_law_339 (i + 8) (sc_8 i) (by omega) (by omega) ?_
  refine j_i2l X dL_law_340 rfl ?_
  refine j_ldc2 (v := 4294967295) X dL_law_341 cst_L_68 ?_
  refine j_land X dL_law_344 ?_
  refine j_lor X dL_law_345 ?_
  refine j_aload_n X dL_law_346 rfl 1 rfl ?_
  refine j_iload X dL_law_347 5 rfl ?_
  refine j_bipush (v := 9) X dL_law_349 (by decide) ?_
  refine j_iadd X dL_law_351 ?_
  refine j_sald X hX hb hA dL_law_352 (i + 9) (sc_9 i) (by omega) (by omega) ?_
  refine j_i2l X dL_law_353 rfl ?_
  refine j_bipush (v := 32) X dL_law_354 (by decide) ?_
  refine j_lshl X dL_law_356 rfl ?_
  refine j_aload_n X dL_law_357 rfl 1 rfl ?_
  refine j_iload X dL_law_358 5 rfl ?_
  refine j_bipush (v := 10) X dL_law_360 (by decide) ?_
  refine j_iadd X dL_law_362 ?_
  refine j_sald X hX hb hA dL_law_363 (i + 10) (sc_10 i) (by omega) (by omega) ?_
  refine j_i2l X dL_law_364 rfl ?_
  refine j_ldc2 (v := 4294967295) X dL_law_365 cst_L_68 ?_
  refine j_land X dL_law_368 ?_
  refine j_lor X dL_law_369 ?_
  refine j_aload_n X dL_law_370 rfl 1 rfl ?_
  refine j_iload X dL_law_371 5 rfl ?_
  refine j_bipush (v := 11) X dL_law_373 (by decide) ?_
  refine j_iadd X dL_law_375 ?_
  refine j_sald X hX hb hA dL_law_376 (i + 11) (sc_11 i) (by omega) (by omega) ?_
  refine j_i2l X dL_law_377 rfl ?_
  refine j_bipush (v := 32) X dL_law_378 (by decide) ?_
  refine j_lshl X dL_law_380 rfl ?_
  refine j_aload_n X dL_law_381 rfl 1 rfl ?_
  refine j_iload X dL_law_382 5 rfl ?_
  refine j_bipush (v := 12) X dL_law_384 (by decide) ?_
  refine j_iadd X dL_law_386 ?_
  refine j_sald X hX hb hA dL_law_387 (i + 12) (sc_12 i) (by omega) (by omega) ?_
  refine j_i2l X dL_law_388 rfl ?_
  refine j_ldc2 (v := 4294967295) X dL_law_389 cst_L_68 ?_
  refine j_land X dL_law_392 ?_
  refine j_lor X dL_law_393 ?_
  refine hR _ _ _ ⟨by omega, by omega⟩ (fun w ws2 hL2 => ?_)
  refine j_istore (L' := [(6, .int w), (5, .int code), (0, .ref b), (1, .ref x), (2, .ref (q 0)), (3, .ref ot), (4, .int (nI i))]) X dL_law_397 (by decide) rfl ?_
  refine j_aload_n X dL_law_399 rfl 4 rfl ?_
  refine lo_thr X hL2 dL_law_400 ⟨by omega, by omega⟩ ?_
  refine j_iload X dL_law_403 1 rfl ?_
  refine j_icmp_eq (tgt := 410) X dL_law_405 (by decide) (fun _ => ?_) (fun c9 => absurd rfl c9)
  refine j_iload X dL_law_410 1 rfl ?_
  refine j_if_ne (tgt := 427) X dL_law_412 (by decide) (fun _ => ?_) (fun c9 => ?_)
  · refine j_goto (tgt := 1924) X dL_law_427 (by decide) ?_
    refine j_sub [2, 3, 4, 5, 6] rfl ?_
    exact kk _ _ _ hL2
  refine j_aload_n X dL_law_415 rfl 5 rfl ?_
  refine j_iconst (v := 0) X dL_law_416 rfl ?_
  refine lo_ld X hL2 c9 dL_law_417 ?_
  refine j_iload X dL_law_418 0 rfl ?_
  refine j_i2l X dL_law_420 rfl ?_
  refine j_lcmp X dL_law_421 ?_
  refine j_if_eq (tgt := 427) X dL_law_422 (by decide) (fun _ => ?_) (fun c9 => absurd (lgc_s _) c9)
  refine j_goto (tgt := 1924) X dL_law_427 (by decide) ?_
  refine j_sub [2, 3, 4, 5, 6] rfl ?_
  exact kk _ _ _ hL2

set_option maxRecDepth 20000 in
theorem lc_segment (X : jX p s m args c cL_law 8 RL wsL_law G A) (XF : exF A s s.heap) (hst : l.stackTraces = false) {b K : Nat} {xs : Nat → Int32} (hX : va_X b K xs s s.heap) (hb : b < s.heap.size) (hA : ¬ A b) (hK : K ≤ 832) {i j : Nat} (hi : i + 13 ≤ K) {code0 : Int32} {bv0 : Int64} {ws : va_W} (hL : LO G x u q ot j code0 bv0 ws) (hj : j < 64) (hk : kc ≤ 50000 ∧ ks ≤ 500000) (kk : ∀ (code : Int32) (bv : Int64) (ws2 : va_W), LO G x u q ot (j + 1) code bv ws2 → J p l e room_1 s m args below meth c Q G A 8 (kc + 1) (ks + 6) 1924 [(0, .ref b), (1, .ref x), (2, .ref (q 0)), (3, .ref ot), (4, .int (nI i))] [] ws2) : J p l e room_1 s m args below meth c Q G A 8 kc ks 430 [(0, .ref b), (1, .ref x), (2, .ref (q 0)), (3, .ref ot), (4, .int (nI i))] [] ws := by
  refine j_aload_n X dL_law_430 rfl 1 rfl ?_
  refine j_aload_n X dL_law_431 rfl 0 rfl ?_
  refine j_iload X dL_law_432 4 rfl ?_
  refine j_iconst (v := 1) X dL_law_434 rfl ?_
  refine j_iadd X dL_law_435 ?_
  refine j_sald X hX hb hA dL_law_436 (i + 1) (sc_1 i) (by omega) (by omega) ?_
  refine j_i2l X dL_law_437 rfl ?_
  refine j_bipush (v := 32) X dL_law_438 (by decide) ?_
  refine j_lshl X dL_law_440 rfl ?_
  refine j_aload_n X dL_law_441 rfl 0 rfl ?_
  refine j_iload X dL_law_442 4 rfl ?_
  refine j_iconst (v := 2) X dL_law_444 rfl ?_
  refine j_iadd X dL_law_445 ?_
  refine j_sald X hX hb hA dL_law_446 (i + 2) (sc_2 i) (by omega) (by omega) ?_
  refine j_i2l X dL_law_447 rfl ?_
  refine j_ldc2 (v := 4294967295) X dL_law_448 cst_L_68 ?_
  refine j_land X dL_law_451 ?_
  refine j_lor X dL_law_452 ?_
  refine j_aload_n X dL_law_453 rfl 0 rfl ?_
  refine j_iload X dL_law_454 4 rfl ?_
  refine j_iconst (v := 3) X dL_law_456 rfl ?_
  refine j_iadd X dL_law_457 ?_
  refine j_sald X hX hb hA dL_law_458 (i + 3) (sc_3 i) (by omega) (by omega) ?_
  refine j_i2l X dL_law_459 rfl ?_
  refine j_bipush (v := 32) X dL_law_460 (by decide) ?_
  refine j_lshl X dL_law_462 rfl ?_
  refine j_aload_n X dL_law_463 rfl 0 rfl ?_
  refine j_iload X dL_law_464 4 rfl ?_
  refine j_iconst (v := 4) X dL_law_466 rfl ?_
  refine j_iadd X dL_law_467 ?_
  refine j_sald X hX hb hA dL_law_468 (i + 4) (sc_4 i) (by omega) (by omega) ?_
  refine j_i2l X dL_law_469 rfl ?_
  refine j_ldc2 (v := 4294967295) X dL_law_470 cst_L_68 ?_
  refine j_land X dL_law_473 ?_
  refine j_lor X dL_law_474 ?_
  refine j_aload_n X dL_law_475 rfl 0 rfl ?_
  refine j_iload X dL_law_476 4 rfl ?_
  refine j_iconst (v := 5) X dL_law_478 rfl ?_
  refine j_iadd X dL_law_479 ?_
  refine j_sald X hX hb hA dL_law_480 (i + 5) (sc_5 i) (by omega) (by omega) ?_
  refine j_i2l X dL_law_481 rfl ?_
  refine j_bipush (v := 32) X dL_law_482 (by decide) ?_
  refine j_lshl X dL_law_484 rfl ?_
  refine j_aload_n X dL_law_485 rfl 0 rfl ?_
  refine j_iload X dL_law_486 4 rfl ?_
  refine j_bipush (v := 6) X dL_law_488 (by decide) ?_
  refine j_iadd X dL_law_490 ?_
  refine j_sald X hX hb hA dL_law_491 (i + 6) (sc_6 i) (by omega) (by omega) ?_
  refine j_i2l X dL_law_492 rfl ?_
  refine j_ldc2 (v := 4294967295) X dL_law_493 cst_L_68 ?_
  refine j_land X dL_law_496 ?_
  refine j_lor X dL_law_497 ?_
  refine j_aload_n X dL_law_498 rfl 0 rfl ?_
  refine j_iload X dL_law_499 4 rfl ?_
  refine j_bipush (v := 7) X dL_law_501 (by decide) ?_
  refine j_iadd X dL_law_503 ?_
  refine j_sald X hX hb hA dL_law_504 (i + 7) (sc_7 i) (by omega) (by omega) ?_
  refine j_i2l X dL_law_505 rfl ?_
  refine j_bipush (v := 32) X dL_law_506 (by decide) ?_
  refine j_lshl X dL_law_508 rfl ?_
  refine j_aload_n X dL_law_509 rfl 0 rfl ?_
  refine j_iload X dL_law_510 4 rfl ?_
  refine j_bipush (v := 8) X dL_law_512 (by decide) ?_
  refine j_iadd X dL_law_514 ?_
  refine j_sald X hX hb hA dL_law_515 (i + 8) (sc_8 i) (by omega) (by omega) ?_
  refine j_i2l X dL_law_516 rfl ?_
  refine j_ldc2 (v := 4294967295) X dL_law_517 cst_L_68 ?_
  refine j_land X dL_law_520 ?_
  refine j_lor X dL_law_521 ?_
  refine j_aload_n X dL_law_522 rfl 3 rfl ?_
  refine hc_segment X XF hst hL hj _ _ _ _ ⟨by omega, by omega⟩ (fun code ws1 hR => ?_)
  refine j_istore (L' := [(5, .int code), (0, .ref b), (1, .ref x), (2, .ref (q 0)), (3, .ref ot), (4, .int (nI i))]) X dL_law_526 (by decide) rfl ?_
  refine j_aload_n X dL_law_528 rfl 3 rfl ?_
  refine j_aload_n X dL_law_529 rfl 1 rfl ?_
  refine j_iload X dL_law_530 5 rfl ?_
  refine j_iconst (v := 1) X dL_law_532 rfl ?_
  refine j_iadd X dL_law_533 ?_
  refine j_sald X hX hb hA dL_law_534 (i + 1) (sc_1 i) (by omega) (by omega) ?_
  refine j_i2l X dL_law_535 rfl ?_
  refine j_bipush (v := 32) X dL_law_536 (by decide) ?_
  refine j_lshl X dL_law_538 rfl ?_
  refine j_aload_n X dL_law_539 rfl 1 rfl ?_
  refine j_iload X dL_law_540 5 rfl ?_
  refine j_iconst (v := 2) X dL_law_542 rfl ?_
  refine j_iadd X dL_law_543 ?_
  refine j_sald X hX hb hA dL_law_544 (i + 2) (sc_2 i) (by omega) (by omega) ?_
  refine j_i2l X dL_law_545 rfl ?_
  refine j_ldc2 (v := 4294967295) X dL_law_546 cst_L_68 ?_
  refine j_land X dL_law_549 ?_
  refine j_lor X dL_law_550 ?_
  refine j_aload_n X dL_law_551 rfl 1 rfl ?_
  refine j_iload X dL_law_552 5 rfl ?_
  refine j_iconst (v := 3) X dL_law_554 rfl ?_
  refine j_iadd X dL_law_555 ?_
  refine j_sald X hX hb hA dL_law_556 (i + 3) (sc_3 i) (by omega) (by omega) ?_
  refine j_i2l X dL_law_557 rfl ?_
  refine j_bipush (v := 32) X dL_law_558 (by decide) ?_
  refine j_lshl X dL_law_560 rfl ?_
  refine j_aload_n X dL_law_561 rfl 1 rfl ?_
  refine j_iload X dL_law_562 5 rfl ?_
  refine j_iconst (v := 4) X dL_law_564 rfl ?_
  refine j_iadd X dL_law_565 ?_
  refine j_sald X hX hb hA dL_law_566 (i + 4) (sc_4 i) (by omega) (by omega) ?_
  refine j_i2l X dL_law_567 rfl ?_
  refine j_ldc2 (v := 4294967295) X dL_law_568 cst_L_68 ?_
  refine j_land X dL_law_571 ?_
  refine j_lor X dL_law_572 ?_
  refine j_aload_n X dL_law_573 rfl 1 rfl ?_
  refine j_iload X dL_law_574 5 rfl ?_
  refine j_iconst (v := 5) X dL_law_576 rfl ?_
  refine j_iadd X dL_law_577 ?_
  refine j_sald X hX hb hA dL_law_578 (i + 5) (sc_5 i) (by omega) (by omega) ?_
  refine j_i2l X dL_law_579 rfl ?_
  refine j_bipush (v := 32) X dL_law_580 (by decide) ?_
  refine j_lshl X dL_law_582 rfl ?_
  refine j_aload_n X dL_law_583 rfl 1 rfl ?_
  refine j_iload X dL_law_584 5 rfl ?_
  refine j_bipush (v := 6) X dL_law_586 (by decide) ?_
  refine j_iadd X dL_law_588 ?_
  refine j_sald X hX hb hA dL_law_589 (i + 6) (sc_6 i) (by omega) (by omega) ?_
  refine j_i2l X dL_law_590 rfl ?_
  refine j_ldc2 (v := 4294967295) X dL_law_591 cst_L_68 ?_
  refine j_land X dL_law_594 ?_
  refine j_lor X dL_law_595 ?_
  refine j_aload_n X dL_law_596 rfl 1 rfl ?_
  refine j_iload X dL_law_597 5 rfl ?_
  refine j_bipush (v := 7) X dL_law_599 (by decide) ?_
  refine j_iadd X dL_law_601 ?_
  refine j_sald X hX hb hA dL_law_602 (i + 7) (sc_7 i) (by omega) (by omega) ?_
  refine j_i2l X dL_law_603 rfl ?_
  refine j_bipush (v := 32) X dL_law_604 (by decide) ?_
  refine j_lshl X dL_law_606 rfl ?_
  refine j_aload_n X dL_law_607 rfl 1 rfl ?_
  refine j_iload X dL_law_608 5 rfl ?_
  refine j_bipush (v := 8) X dL_law_610 (by decide) ?_
  refine j_iadd X dL_law_612 ?_
  refine j_sald X hX hb hA dL_law_613 (i + 8) (sc_8 i) (by omega) (by omega) ?_
  refine j_i2l X dL_law_614 rfl ?_
  refine j_ldc2 (v := 4294967295) X dL_law_615 cst_L_68 ?_
  refine j_land X dL_law_618 ?_
  refine j_lor X dL_law_619 ?_
  refine hR _ _ _ ⟨by omega, by omega⟩ (fun w ws2 hL2 => ?_)
  refine j_istore (L' := [(6, .int w), (5, .int code), (0, .ref b), (1, .ref x), (2, .ref (q 0)), (3, .ref ot), (4, .int (nI i))]) X dL_law_623 (by decide) rfl ?_
  refine j_aload_n X dL_law_625 rfl 4 rfl ?_
  refine lo_thr X hL2 dL_law_626 ⟨by omega, by omega⟩ ?_
  refine j_iload X dL_law_629 1 rfl ?_
  refine j_icmp_eq (tgt := 636) X dL_law_631 (by decide) (fun _ => ?_) (fun c9 => absurd rfl c9)
  refine j_iload X dL_law_636 1 rfl ?_
  refine j_if_ne (tgt := 653) X dL_law_638 (by decide) (fun _ => ?_) (fun c9 => ?_)
  · refine j_goto (tgt := 1924) X dL_law_653 (by decide) ?_
    refine j_sub [2, 3, 4, 5, 6] rfl ?_
    exact kk _ _ _ hL2
  refine j_aload_n X dL_law_641 rfl 5 rfl ?_
  refine j_iconst (v := 0) X dL_law_642 rfl ?_
  refine lo_ld X hL2 c9 dL_law_643 ?_
  refine j_iload X dL_law_644 0 rfl ?_
  refine j_i2l X dL_law_646 rfl ?_
  refine j_lcmp X dL_law_647 ?_
  refine j_if_eq (tgt := 653) X dL_law_648 (by decide) (fun _ => ?_) (fun c9 => absurd (lgc_s _) c9)
  refine j_goto (tgt := 1924) X dL_law_653 (by decide) ?_
  refine j_sub [2, 3, 4, 5, 6] rfl ?_
  exact kk _ _ _ hL2

set_option maxRecDepth 20000 in
theorem lc_arc (X : jX p s m args c cL_law 8 RL wsL_law G A) (XF : exF A s s.heap) (hst : l.stackTraces = false) {b K : Nat} {xs : Nat → Int32} (hX : va_X b K xs s s.heap) (hb : b < s.heap.size) (hA : ¬ A b) (hK : K ≤ 832) {i j : Nat} (hi : i + 13 ≤ K) {code0 : Int32} {bv0 : Int64} {ws : va_W} (hL : LO G x u q ot j code0 bv0 ws) (hj : j < 64) (hk : kc ≤ 50000 ∧ ks ≤ 500000) (kk : ∀ (code : Int32) (bv : Int64) (ws2 : va_W), LO G x u q ot (j + 1) code bv ws2 → J p l e room_1 s m args below meth c Q G A 8 (kc + 1) (ks + 6) 1924 [(0, .ref b), (1, .ref x), (2, .ref (q 0)), (3, .ref ot), (4, .int (nI i))] [] ws2) : J p l e room_1 s m args below meth c Q G A 8 kc ks 656 [(0, .ref b), (1, .ref x), (2, .ref (q 0)), (3, .ref ot), (4, .int (nI i))] [] ws := by
  refine j_aload_n X dL_law_656 rfl 1 rfl ?_
  refine j_aload_n X dL_law_657 rfl 0 rfl ?_
  refine j_iload X dL_law_658 4 rfl ?_
  refine j_iconst (v := 1) X dL_law_660 rfl ?_
  refine j_iadd X dL_law_661 ?_
  refine j_sald X hX hb hA dL_law_662 (i + 1) (sc_1 i) (by omega) (by omega) ?_
  refine j_i2l X dL_law_663 rfl ?_
  refine j_bipush (v := 32) X dL_law_664 (by decide) ?_
  refine j_lshl X dL_law_666 rfl ?_
  refine j_aload_n X dL_law_667 rfl 0 rfl ?_
  refine j_iload X dL_law_668 4 rfl ?_
  refine j_iconst (v := 2) X dL_law_670 rfl ?_
  refine j_iadd X dL_law_671 ?_
  refine j_sald X hX hb hA dL_law_672 (i + 2) (sc_2 i) (by omega) (by omega) ?_
  refine j_i2l X dL_law_673 rfl ?_
  refine j_ldc2 (v := 4294967295) X dL_law_674 cst_L_68 ?_
  refine j_land X dL_law_677 ?_
  refine j_lor X dL_law_678 ?_
  refine j_aload_n X dL_law_679 rfl 0 rfl ?_
  refine j_iload X dL_law_680 4 rfl ?_
  refine j_iconst (v := 3) X dL_law_682 rfl ?_
  refine j_iadd X dL_law_683 ?_
  refine j_sald X hX hb hA dL_law_684 (i + 3) (sc_3 i) (by omega) (by omega) ?_
  refine j_i2l X dL_law_685 rfl ?_
  refine j_bipush (v := 32) X dL_law_686 (by decide) ?_
  refine j_lshl X dL_law_688 rfl ?_
  refine j_aload_n X dL_law_689 rfl 0 rfl ?_
  refine j_iload X dL_law_690 4 rfl ?_
  refine j_iconst (v := 4) X dL_law_692 rfl ?_
  refine j_iadd X dL_law_693 ?_
  refine j_sald X hX hb hA dL_law_694 (i + 4) (sc_4 i) (by omega) (by omega) ?_
  refine j_i2l X dL_law_695 rfl ?_
  refine j_ldc2 (v := 4294967295) X dL_law_696 cst_L_68 ?_
  refine j_land X dL_law_699 ?_
  refine j_lor X dL_law_700 ?_
  refine j_aload_n X dL_law_701 rfl 0 rfl ?_
  refine j_iload X dL_law_702 4 rfl ?_
  refine j_iconst (v := 5) X dL_law_704 rfl ?_
  refine j_iadd X dL_law_705 ?_
  refine j_sald X hX hb hA dL_law_706 (i + 5) (sc_5 i) (by omega) (by omega) ?_
  refine j_i2l X dL_law_707 rfl ?_
  refine j_bipush (v := 32) X dL_law_708 (by decide) ?_
  refine j_lshl X dL_law_710 rfl ?_
  refine j_aload_n X dL_law_711 rfl 0 rfl ?_
  refine j_iload X dL_law_712 4 rfl ?_
  refine j_bipush (v := 6) X dL_law_714 (by decide) ?_
  refine j_iadd X dL_law_716 ?_
  refine j_sald X hX hb hA dL_law_717 (i + 6) (sc_6 i) (by omega) (by omega) ?_
  refine j_i2l X dL_law_718 rfl ?_
  refine j_ldc2 (v := 4294967295) X dL_law_719 cst_L_68 ?_
  refine j_land X dL_law_722 ?_
  refine j_lor X dL_law_723 ?_
  refine j_aload_n X dL_law_724 rfl 0 rfl ?_
  refine j_iload X dL_law_725 4 rfl ?_
  refine j_bipush (v := 7) X dL_law_727 (by decide) ?_
  refine j_iadd X dL_law_729 ?_
  refine j_sald X hX hb hA dL_law_730 (i + 7) (sc_7 i) (by omega) (by omega) ?_
  refine j_aload_n X dL_law_731 rfl 0 rfl ?_
  refine j_iload X dL_law_732 4 rfl ?_
  refine j_bipush (v := 8) X dL_law_734 (by decide) ?_
  refine j_iadd X dL_law_736 ?_
  refine j_sald X hX hb hA dL_law_737 (i + 8) (sc_8 i) (by omega) (by omega) ?_
  refine j_aload_n X dL_law_738 rfl 3 rfl ?_
  refine hc_arc X XF hst hL hj _ _ _ _ _ ⟨by omega, by omega⟩ (fun code ws1 hR => ?_)
  refine j_istore (L' := [(5, .int code), (0, .ref b), (1, .ref x), (2, .ref (q 0)), (3, .ref ot), (4, .int (nI i))]) X dL_law_742 (by decide) rfl ?_
  refine j_aload_n X dL_law_744 rfl 3 rfl ?_
  refine j_aload_n X dL_law_745 rfl 1 rfl ?_
  refine j_iload X dL_law_746 5 rfl ?_
  refine j_iconst (v := 1) X dL_law_748 rfl ?_
  refine j_iadd X dL_law_749 ?_
  refine j_sald X hX hb hA dL_law_750 (i + 1) (sc_1 i) (by omega) (by omega) ?_
  refine j_i2l X dL_law_751 rfl ?_
  refine j_bipush (v := 32) X dL_law_752 (by decide) ?_
  refine j_lshl X dL_law_754 rfl ?_
  refine j_aload_n X dL_law_755 rfl 1 rfl ?_
  refine j_iload X dL_law_756 5 rfl ?_
  refine j_iconst (v := 2) X dL_law_758 rfl ?_
  refine j_iadd X dL_law_759 ?_
  refine j_sald X hX hb hA dL_law_760 (i + 2) (sc_2 i) (by omega) (by omega) ?_
  refine j_i2l X dL_law_761 rfl ?_
  refine j_ldc2 (v := 4294967295) X dL_law_762 cst_L_68 ?_
  refine j_land X dL_law_765 ?_
  refine j_lor X dL_law_766 ?_
  refine j_aload_n X dL_law_767 rfl 1 rfl ?_
  refine j_iload X dL_law_768 5 rfl ?_
  refine j_iconst (v := 3) X dL_law_770 rfl ?_
  refine j_iadd X dL_law_771 ?_
  refine j_sald X hX hb hA dL_law_772 (i + 3) (sc_3 i) (by omega) (by omega) ?_
  refine j_i2l X dL_law_773 rfl ?_
  refine j_bipush (v := 32) X dL_law_774 (by decide) ?_
  refine j_lshl X dL_law_776 rfl ?_
  refine j_aload_n X dL_law_777 rfl 1 rfl ?_
  refine j_iload X dL_law_778 5 rfl ?_
  refine j_iconst (v := 4) X dL_law_780 rfl ?_
  refine j_iadd X dL_law_781 ?_
  refine j_sald X hX hb hA dL_law_782 (i + 4) (sc_4 i) (by omega) (by omega) ?_
  refine j_i2l X dL_law_783 rfl ?_
  refine j_ldc2 (v := 4294967295) X dL_law_784 cst_L_68 ?_
  refine j_land X dL_law_787 ?_
  refine j_lor X dL_law_788 ?_
  refine j_aload_n X dL_law_789 rfl 1 rfl ?_
  refine j_iload X dL_law_790 5 rfl ?_
  refine j_iconst (v := 5) X dL_law_792 rfl ?_
  refine j_iadd X dL_law_793 ?_
  refine j_sald X hX hb hA dL_law_794 (i + 5) (sc_5 i) (by omega) (by omega) ?_
  refine j_i2l X dL_law_795 rfl ?_
  refine j_bipush (v := 32) X dL_law_796 (by decide) ?_
  refine j_lshl X dL_law_798 rfl ?_
  refine j_aload_n X dL_law_799 rfl 1 rfl ?_
  refine j_iload X dL_law_800 5 rfl ?_
  refine j_bipush (v := 6) X dL_law_802 (by decide) ?_
  refine j_iadd X dL_law_804 ?_
  refine j_sald X hX hb hA dL_law_805 (i + 6) (sc_6 i) (by omega) (by omega) ?_
  refine j_i2l X dL_law_806 rfl ?_
  refine j_ldc2 (v := 4294967295) X dL_law_807 cst_L_68 ?_
  refine j_land X dL_law_810 ?_
  refine j_lor X dL_law_811 ?_
  refine j_aload_n X dL_law_812 rfl 1 rfl ?_
  refine j_iload X dL_law_813 5 rfl ?_
  refine j_bipush (v := 7) X dL_law_815 (by decide) ?_
  refine j_iadd X dL_law_817 ?_
  refine j_sald X hX hb hA dL_law_818 (i + 7) (sc_7 i) (by omega) (by omega) ?_
  refine j_aload_n X dL_law_819 rfl 1 rfl ?_
  refine j_iload X dL_law_820 5 rfl ?_
  refine j_bipush (v := 8) X dL_law_822 (by decide) ?_
  refine j_iadd X dL_law_824 ?_
  refine j_sald X hX hb hA dL_law_825 (i + 8) (sc_8 i) (by omega) (by omega) ?_
  refine hR _ _ _ ⟨by omega, by omega⟩ (fun w ws2 hL2 => ?_)
  refine j_istore (L' := [(6, .int w), (5, .int code), (0, .ref b), (1, .ref x), (2, .ref (q 0)), (3, .ref ot), (4, .int (nI i))]) X dL_law_829 (by decide) rfl ?_
  refine j_aload_n X dL_law_831 rfl 4 rfl ?_
  refine lo_thr X hL2 dL_law_832 ⟨by omega, by omega⟩ ?_
  refine j_iload X dL_law_835 1 rfl ?_
  refine j_icmp_eq (tgt := 842) X dL_law_837 (by decide) (fun _ => ?_) (fun c9 => absurd rfl c9)
  refine j_iload X dL_law_842 1 rfl ?_
  refine j_if_ne (tgt := 859) X dL_law_844 (by decide) (fun _ => ?_) (fun c9 => ?_)
  · refine j_goto (tgt := 1924) X dL_law_859 (by decide) ?_
    refine j_sub [2, 3, 4, 5, 6] rfl ?_
    exact kk _ _ _ hL2
  refine j_aload_n X dL_law_847 rfl 5 rfl ?_
  refine j_iconst (v := 0) X dL_law_848 rfl ?_
  refine lo_ld X hL2 c9 dL_law_849 ?_
  refine j_iload X dL_law_850 0 rfl ?_
  refine j_i2l X dL_law_852 rfl ?_
  refine j_lcmp X dL_law_853 ?_
  refine j_if_eq (tgt := 859) X dL_law_854 (by decide) (fun _ => ?_) (fun c9 => absurd (lgc_s _) c9)
  refine j_goto (tgt := 1924) X dL_law_859 (by decide) ?_
  refine j_sub [2, 3, 4, 5, 6] rfl ?_
  exact kk _ _ _ hL2

set_option maxRecDepth 20000 in
theorem lc_compare (X : jX p s m args c cL_law 8 RL wsL_law G A) (XF : exF A s s.heap) (hst : l.stackTraces = false) {b K : Nat} {xs : Nat → Int32} (hX : va_X b K xs s s.heap) (hb : b < s.heap.size) (hA : ¬ A b) (hK : K ≤ 832) {i j : Nat} (hi : i + 13 ≤ K) {code0 : Int32} {bv0 : Int64} {ws : va_W} (hL : LO G x u q ot j code0 bv0 ws) (hj : j < 64) (hk : kc ≤ 50000 ∧ ks ≤ 500000) (kk : ∀ (code : Int32) (bv : Int64) (ws2 : va_W), LO G x u q ot (j + 1) code bv ws2 → J p l e room_1 s m args below meth c Q G A 8 (kc + 1) (ks + 6) 1924 [(0, .ref b), (1, .ref x), (2, .ref (q 0)), (3, .ref ot), (4, .int (nI i))] [] ws2) : J p l e room_1 s m args below meth c Q G A 8 kc ks 953 [(0, .ref b), (1, .ref x), (2, .ref (q 0)), (3, .ref ot), (4, .int (nI i))] [] ws := by
  refine j_aload_n X dL_law_953 rfl 1 rfl ?_
  refine j_aload_n X dL_law_954 rfl 0 rfl ?_
  refine j_iload X dL_law_955 4 rfl ?_
  refine j_iconst (v := 1) X dL_law_957 rfl ?_
  refine j_iadd X dL_law_958 ?_
  refine j_sald X hX hb hA dL_law_959 (i + 1) (sc_1 i) (by omega) (by omega) ?_
  refine j_i2l X dL_law_960 rfl ?_
  refine j_bipush (v := 32) X dL_law_961 (by decide) ?_
  refine j_lshl X dL_law_963 rfl ?_
  refine j_aload_n X dL_law_964 rfl 0 rfl ?_
  refine j_iload X dL_law_965 4 rfl ?_
  refine j_iconst (v := 2) X dL_law_967 rfl ?_
  refine j_iadd X dL_law_968 ?_
  refine j_sald X hX hb hA dL_law_969 (i + 2) (sc_2 i) (by omega) (by omega) ?_
  refine j_i2l X dL_law_970 rfl ?_
  refine j_ldc2 (v := 4294967295) X dL_law_971 cst_L_68 ?_
  refine j_land X dL_law_974 ?_
  refine j_lor X dL_law_975 ?_
  refine j_aload_n X dL_law_976 rfl 0 rfl ?_
  refine j_iload X dL_law_977 4 rfl ?_
  refine j_iconst (v := 3) X dL_law_979 rfl ?_
  refine j_iadd X dL_law_980 ?_
  refine j_sald X hX hb hA dL_law_981 (i + 3) (sc_3 i) (by omega) (by omega) ?_
  refine j_i2l X dL_law_982 rfl ?_
  refine j_bipush (v := 32) X dL_law_983 (by decide) ?_
  refine j_lshl X dL_law_985 rfl ?_
  refine j_aload_n X dL_law_986 rfl 0 rfl ?_
  refine j_iload X dL_law_987 4 rfl ?_
  refine j_iconst (v := 4) X dL_law_989 rfl ?_
  refine j_iadd X dL_law_990 ?_
  refine j_sald X hX hb hA dL_law_991 (i + 4) (sc_4 i) (by omega) (by omega) ?_
  refine j_i2l X dL_law_992 rfl ?_
  refine j_ldc2 (v := 4294967295) X dL_law_993 cst_L_68 ?_
  refine j_land X dL_law_996 ?_
  refine j_lor X dL_law_997 ?_
  refine j_aload_n X dL_law_998 rfl 0 rfl ?_
  refine j_iload X dL_law_999 4 rfl ?_
  refine j_iconst (v := 5) X dL_law_1001 rfl ?_
  refine j_iadd X dL_law_1002 ?_
  refine j_sald X hX hb hA dL_law_1003 (i + 5) (sc_5 i) (by omega) (by omega) ?_
  refine j_i2l X dL_law_1004 rfl ?_
  refine j_bipush (v := 32) X dL_law_1005 (by decide) ?_
  refine j_lshl X dL_law_1007 rfl ?_
  refine j_aload_n X dL_law_1008 rfl 0 rfl ?_
  refine j_iload X dL_law_1009 4 rfl ?_
  refine j_bipush (v := 6) X dL_law_1011 (by decide) ?_
  refine j_iadd X dL_law_1013 ?_
  refine j_sald X hX hb hA dL_law_1014 (i + 6) (sc_6 i) (by omega) (by omega) ?_
  refine j_i2l X dL_law_1015 rfl ?_
  refine j_ldc2 (v := 4294967295) X dL_law_1016 cst_L_68 ?_
  refine j_land X dL_law_1019 ?_
  refine j_lor X dL_law_1020 ?_
  refine j_aload_n X dL_law_1021 rfl 0 rfl ?_
  refine j_iload X dL_law_1022 4 rfl ?_
  refine j_bipush (v := 7) X dL_law_1024 (by decide) ?_
  refine j_iadd X dL_law_1026 ?_
  refine j_sald X hX hb hA dL_law_1027 (i + 7) (sc_7 i) (by omega) (by omega) ?_
  refine j_i2l X dL_law_1028 rfl ?_
  refine j_bipush (v := 32) X dL_law_1029 (by decide) ?_
  refine j_lshl X dL_law_1031 rfl ?_
  refine j_aload_n X dL_law_1032 rfl 0 rfl ?_
  refine j_iload X dL_law_1033 4 rfl ?_
  refine j_bipush (v := 8) X dL_law_1035 (by decide) ?_
  refine j_iadd X dL_law_1037 ?_
  refine j_sald X hX hb hA dL_law_1038 (i + 8) (sc_8 i) (by omega) (by omega) ?_
  refine j_i2l X dL_law_1039 rfl ?_
  refine j_ldc2 (v := 4294967295) X dL_law_1040 cst_L_68 ?_
  refine j_land X dL_law_1043 ?_
  refine j_lor X dL_law_1044 ?_
  refine j_aload_n X dL_law_1045 rfl 3 rfl ?_
  refine hc_compare X XF hst hL hj _ _ _ _ ⟨by omega, by omega⟩ (fun code ws1 hR => ?_)
  refine j_istore (L' := [(5, .int code), (0, .ref b), (1, .ref x), (2, .ref (q 0)), (3, .ref ot), (4, .int (nI i))]) X dL_law_1049 (by decide) rfl ?_
  refine j_aload_n X dL_law_1051 rfl 3 rfl ?_
  refine j_aload_n X dL_law_1052 rfl 1 rfl ?_
  refine j_iload X dL_law_1053 5 rfl ?_
  refine j_iconst (v := 1) X dL_law_1055 rfl ?_
  refine j_iadd X dL_law_1056 ?_
  refine j_sald X hX hb hA dL_law_1057 (i + 1) (sc_1 i) (by omega) (by omega) ?_
  refine j_i2l X dL_law_1058 rfl ?_
  refine j_bipush (v := 32) X dL_law_1059 (by decide) ?_
  refine j_lshl X dL_law_1061 rfl ?_
  refine j_aload_n X dL_law_1062 rfl 1 rfl ?_
  refine j_iload X dL_law_1063 5 rfl ?_
  refine j_iconst (v := 2) X dL_law_1065 rfl ?_
  refine j_iadd X dL_law_1066 ?_
  refine j_sald X hX hb hA dL_law_1067 (i + 2) (sc_2 i) (by omega) (by omega) ?_
  refine j_i2l X dL_law_1068 rfl ?_
  refine j_ldc2 (v := 4294967295) X dL_law_1069 cst_L_68 ?_
  refine j_land X dL_law_1072 ?_
  refine j_lor X dL_law_1073 ?_
  refine j_aload_n X dL_law_1074 rfl 1 rfl ?_
  refine j_iload X dL_law_1075 5 rfl ?_
  refine j_iconst (v := 3) X dL_law_1077 rfl ?_
  refine j_iadd X dL_law_1078 ?_
  refine j_sald X hX hb hA dL_law_1079 (i + 3) (sc_3 i) (by omega) (by omega) ?_
  refine j_i2l X dL_law_1080 rfl ?_
  refine j_bipush (v := 32) X dL_law_1081 (by decide) ?_
  refine j_lshl X dL_law_1083 rfl ?_
  refine j_aload_n X dL_law_1084 rfl 1 rfl ?_
  refine j_iload X dL_law_1085 5 rfl ?_
  refine j_iconst (v := 4) X dL_law_1087 rfl ?_
  refine j_iadd X dL_law_1088 ?_
  refine j_sald X hX hb hA dL_law_1089 (i + 4) (sc_4 i) (by omega) (by omega) ?_
  refine j_i2l X dL_law_1090 rfl ?_
  refine j_ldc2 (v := 4294967295) X dL_law_1091 cst_L_68 ?_
  refine j_land X dL_law_1094 ?_
  refine j_lor X dL_law_1095 ?_
  refine j_aload_n X dL_law_1096 rfl 1 rfl ?_
  refine j_iload X dL_law_1097 5 rfl ?_
  refine j_iconst (v := 5) X dL_law_1099 rfl ?_
  refine j_iadd X dL_law_1100 ?_
  refine j_sald X hX hb hA dL_law_1101 (i + 5) (sc_5 i) (by omega) (by omega) ?_
  refine j_i2l X dL_law_1102 rfl ?_
  refine j_bipush (v := 32) X dL_law_1103 (by decide) ?_
  refine j_lshl X dL_law_1105 rfl ?_
  refine j_aload_n X dL_law_1106 rfl 1 rfl ?_
  refine j_iload X dL_law_1107 5 rfl ?_
  refine j_bipush (v := 6) X dL_law_1109 (by decide) ?_
  refine j_iadd X dL_law_1111 ?_
  refine j_sald X hX hb hA dL_law_1112 (i + 6) (sc_6 i) (by omega) (by omega) ?_
  refine j_i2l X dL_law_1113 rfl ?_
  refine j_ldc2 (v := 4294967295) X dL_law_1114 cst_L_68 ?_
  refine j_land X dL_law_1117 ?_
  refine j_lor X dL_law_1118 ?_
  refine j_aload_n X dL_law_1119 rfl 1 rfl ?_
  refine j_iload X dL_law_1120 5 rfl ?_
  refine j_bipush (v := 7) X dL_law_1122 (by decide) ?_
  refine j_iadd X dL_law_1124 ?_
  refine j_sald X hX hb hA dL_law_1125 (i + 7) (sc_7 i) (by omega) (by omega) ?_
  refine j_i2l X dL_law_1126 rfl ?_
  refine j_bipush (v := 32) X dL_law_1127 (by decide) ?_
  refine j_lshl X dL_law_1129 rfl ?_
  refine j_aload_n X dL_law_1130 rfl 1 rfl ?_
  refine j_iload X dL_law_1131 5 rfl ?_
  refine j_bipush (v := 8) X dL_law_1133 (by decide) ?_
  refine j_iadd X dL_law_1135 ?_
  refine j_sald X hX hb hA dL_law_1136 (i + 8) (sc_8 i) (by omega) (by omega) ?_
  refine j_i2l X dL_law_1137 rfl ?_
  refine j_ldc2 (v := 4294967295) X dL_law_1138 cst_L_68 ?_
  refine j_land X dL_law_1141 ?_
  refine j_lor X dL_law_1142 ?_
  refine hR _ _ _ ⟨by omega, by omega⟩ (fun w ws2 hL2 => ?_)
  refine j_istore (L' := [(6, .int w), (5, .int code), (0, .ref b), (1, .ref x), (2, .ref (q 0)), (3, .ref ot), (4, .int (nI i))]) X dL_law_1146 (by decide) rfl ?_
  refine j_aload_n X dL_law_1148 rfl 4 rfl ?_
  refine lo_thr X hL2 dL_law_1149 ⟨by omega, by omega⟩ ?_
  refine j_iload X dL_law_1152 1 rfl ?_
  refine j_icmp_eq (tgt := 1159) X dL_law_1154 (by decide) (fun _ => ?_) (fun c9 => absurd rfl c9)
  refine j_iload X dL_law_1159 1 rfl ?_
  refine j_if_ne (tgt := 1176) X dL_law_1161 (by decide) (fun _ => ?_) (fun c9 => ?_)
  · refine j_goto (tgt := 1924) X dL_law_1176 (by decide) ?_
    refine j_sub [2, 3, 4, 5, 6] rfl ?_
    exact kk _ _ _ hL2
  refine j_aload_n X dL_law_1164 rfl 5 rfl ?_
  refine j_iconst (v := 0) X dL_law_1165 rfl ?_
  refine lo_ld X hL2 c9 dL_law_1166 ?_
  refine j_iload X dL_law_1167 0 rfl ?_
  refine j_i2l X dL_law_1169 rfl ?_
  refine j_lcmp X dL_law_1170 ?_
  refine j_if_eq (tgt := 1176) X dL_law_1171 (by decide) (fun _ => ?_) (fun c9 => absurd (lgc_s _) c9)
  refine j_goto (tgt := 1924) X dL_law_1176 (by decide) ?_
  refine j_sub [2, 3, 4, 5, 6] rfl ?_
  exact kk _ _ _ hL2

set_option maxRecDepth 20000 in
theorem lc_over (X : jX p s m args c cL_law 8 RL wsL_law G A) (XF : exF A s s.heap) (hst : l.stackTraces = false) {b K : Nat} {xs : Nat → Int32} (hX : va_X b K xs s s.heap) (hb : b < s.heap.size) (hA : ¬ A b) (hK : K ≤ 832) {i j : Nat} (hi : i + 13 ≤ K) {code0 : Int32} {bv0 : Int64} {ws : va_W} (hL : LO G x u q ot j code0 bv0 ws) (hj : j < 64) (hk : kc ≤ 50000 ∧ ks ≤ 500000) (kk : ∀ (code : Int32) (bv : Int64) (ws2 : va_W), LO G x u q ot (j + 1) code bv ws2 → J p l e room_1 s m args below meth c Q G A 8 (kc + 1) (ks + 6) 1924 [(0, .ref b), (1, .ref x), (2, .ref (q 0)), (3, .ref ot), (4, .int (nI i))] [] ws2) : J p l e room_1 s m args below meth c Q G A 8 kc ks 1477 [(0, .ref b), (1, .ref x), (2, .ref (q 0)), (3, .ref ot), (4, .int (nI i))] [] ws := by
  refine j_aload_n X dL_law_1477 rfl 1 rfl ?_
  refine j_aload_n X dL_law_1478 rfl 0 rfl ?_
  refine j_iload X dL_law_1479 4 rfl ?_
  refine j_iconst (v := 1) X dL_law_1481 rfl ?_
  refine j_iadd X dL_law_1482 ?_
  refine j_sald X hX hb hA dL_law_1483 (i + 1) (sc_1 i) (by omega) (by omega) ?_
  refine j_i2l X dL_law_1484 rfl ?_
  refine j_bipush (v := 32) X dL_law_1485 (by decide) ?_
  refine j_lshl X dL_law_1487 rfl ?_
  refine j_aload_n X dL_law_1488 rfl 0 rfl ?_
  refine j_iload X dL_law_1489 4 rfl ?_
  refine j_iconst (v := 2) X dL_law_1491 rfl ?_
  refine j_iadd X dL_law_1492 ?_
  refine j_sald X hX hb hA dL_law_1493 (i + 2) (sc_2 i) (by omega) (by omega) ?_
  refine j_i2l X dL_law_1494 rfl ?_
  refine j_ldc2 (v := 4294967295) X dL_law_1495 cst_L_68 ?_
  refine j_land X dL_law_1498 ?_
  refine j_lor X dL_law_1499 ?_
  refine j_aload_n X dL_law_1500 rfl 0 rfl ?_
  refine j_iload X dL_law_1501 4 rfl ?_
  refine j_iconst (v := 3) X dL_law_1503 rfl ?_
  refine j_iadd X dL_law_1504 ?_
  refine j_sald X hX hb hA dL_law_1505 (i + 3) (sc_3 i) (by omega) (by omega) ?_
  refine j_i2l X dL_law_1506 rfl ?_
  refine j_bipush (v := 32) X dL_law_1507 (by decide) ?_
  refine j_lshl X dL_law_1509 rfl ?_
  refine j_aload_n X dL_law_1510 rfl 0 rfl ?_
  refine j_iload X dL_law_1511 4 rfl ?_
  refine j_iconst (v := 4) X dL_law_1513 rfl ?_
  refine j_iadd X dL_law_1514 ?_
  refine j_sald X hX hb hA dL_law_1515 (i + 4) (sc_4 i) (by omega) (by omega) ?_
  refine j_i2l X dL_law_1516 rfl ?_
  refine j_ldc2 (v := 4294967295) X dL_law_1517 cst_L_68 ?_
  refine j_land X dL_law_1520 ?_
  refine j_lor X dL_law_1521 ?_
  refine j_aload_n X dL_law_1522 rfl 0 rfl ?_
  refine j_iload X dL_law_1523 4 rfl ?_
  refine j_iconst (v := 5) X dL_law_1525 rfl ?_
  refine j_iadd X dL_law_1526 ?_
  refine j_sald X hX hb hA dL_law_1527 (i + 5) (sc_5 i) (by omega) (by omega) ?_
  refine j_aload_n X dL_law_1528 rfl 3 rfl ?_
  refine hc_over X XF hst hL hj _ _ _ ⟨by omega, by omega⟩ (fun code ws1 hR => ?_)
  refine j_istore (L' := [(5, .int code), (0, .ref b), (1, .ref x), (2, .ref (q 0)), (3, .ref ot), (4, .int (nI i))]) X dL_law_1532 (by decide) rfl ?_
  refine j_aload_n X dL_law_1534 rfl 3 rfl ?_
  refine j_aload_n X dL_law_1535 rfl 1 rfl ?_
  refine j_iload X dL_law_1536 5 rfl ?_
  refine j_iconst (v := 1) X dL_law_1538 rfl ?_
  refine j_iadd X dL_law_1539 ?_
  refine j_sald X hX hb hA dL_law_1540 (i + 1) (sc_1 i) (by omega) (by omega) ?_
  refine j_i2l X dL_law_1541 rfl ?_
  refine j_bipush (v := 32) X dL_law_1542 (by decide) ?_
  refine j_lshl X dL_law_1544 rfl ?_
  refine j_aload_n X dL_law_1545 rfl 1 rfl ?_
  refine j_iload X dL_law_1546 5 rfl ?_
  refine j_iconst (v := 2) X dL_law_1548 rfl ?_
  refine j_iadd X dL_law_1549 ?_
  refine j_sald X hX hb hA dL_law_1550 (i + 2) (sc_2 i) (by omega) (by omega) ?_
  refine j_i2l X dL_law_1551 rfl ?_
  refine j_ldc2 (v := 4294967295) X dL_law_1552 cst_L_68 ?_
  refine j_land X dL_law_1555 ?_
  refine j_lor X dL_law_1556 ?_
  refine j_aload_n X dL_law_1557 rfl 1 rfl ?_
  refine j_iload X dL_law_1558 5 rfl ?_
  refine j_iconst (v := 3) X dL_law_1560 rfl ?_
  refine j_iadd X dL_law_1561 ?_
  refine j_sald X hX hb hA dL_law_1562 (i + 3) (sc_3 i) (by omega) (by omega) ?_
  refine j_i2l X dL_law_1563 rfl ?_
  refine j_bipush (v := 32) X dL_law_1564 (by decide) ?_
  refine j_lshl X dL_law_1566 rfl ?_
  refine j_aload_n X dL_law_1567 rfl 1 rfl ?_
  refine j_iload X dL_law_1568 5 rfl ?_
  refine j_iconst (v := 4) X dL_law_1570 rfl ?_
  refine j_iadd X dL_law_1571 ?_
  refine j_sald X hX hb hA dL_law_1572 (i + 4) (sc_4 i) (by omega) (by omega) ?_
  refine j_i2l X dL_law_1573 rfl ?_
  refine j_ldc2 (v := 4294967295) X dL_law_1574 cst_L_68 ?_
  refine j_land X dL_law_1577 ?_
  refine j_lor X dL_law_1578 ?_
  refine j_aload_n X dL_law_1579 rfl 1 rfl ?_
  refine j_iload X dL_law_1580 5 rfl ?_
  refine j_iconst (v := 5) X dL_law_1582 rfl ?_
  refine j_iadd X dL_law_1583 ?_
  refine j_sald X hX hb hA dL_law_1584 (i + 5) (sc_5 i) (by omega) (by omega) ?_
  refine hR _ _ _ ⟨by omega, by omega⟩ (fun w ws2 hL2 => ?_)
  refine j_lstore (L' := [(6, .long w), (5, .int code), (0, .ref b), (1, .ref x), (2, .ref (q 0)), (3, .ref ot), (4, .int (nI i))]) X dL_law_1588 (by decide) rfl ?_
  refine j_aload_n X dL_law_1590 rfl 4 rfl ?_
  refine lo_thr X hL2 dL_law_1591 ⟨by omega, by omega⟩ ?_
  refine j_iload X dL_law_1594 1 rfl ?_
  refine j_icmp_eq (tgt := 1601) X dL_law_1596 (by decide) (fun _ => ?_) (fun c9 => absurd rfl c9)
  refine j_iload X dL_law_1601 1 rfl ?_
  refine j_if_ne (tgt := 1617) X dL_law_1603 (by decide) (fun _ => ?_) (fun c9 => ?_)
  · refine j_goto (tgt := 1924) X dL_law_1617 (by decide) ?_
    refine j_sub [2, 3, 4, 5, 6] rfl ?_
    exact kk _ _ _ hL2
  refine j_aload_n X dL_law_1606 rfl 5 rfl ?_
  refine j_iconst (v := 0) X dL_law_1607 rfl ?_
  refine lo_ld X hL2 c9 dL_law_1608 ?_
  refine j_lload X dL_law_1609 0 rfl ?_
  refine j_lcmp X dL_law_1611 ?_
  refine j_if_eq (tgt := 1617) X dL_law_1612 (by decide) (fun _ => ?_) (fun c9 => absurd (lgc_s _) c9)
  refine j_goto (tgt := 1924) X dL_law_1617 (by decide) ?_
  refine j_sub [2, 3, 4, 5, 6] rfl ?_
  exact kk _ _ _ hL2

set_option maxRecDepth 20000 in
theorem lc_root (X : jX p s m args c cL_law 8 RL wsL_law G A) (XF : exF A s s.heap) (hst : l.stackTraces = false) {b K : Nat} {xs : Nat → Int32} (hX : va_X b K xs s s.heap) (hb : b < s.heap.size) (hA : ¬ A b) (hK : K ≤ 832) {i j : Nat} (hi : i + 13 ≤ K) {code0 : Int32} {bv0 : Int64} {ws : va_W} (hL : LO G x u q ot j code0 bv0 ws) (hj : j < 64) (hk : kc ≤ 50000 ∧ ks ≤ 500000) (kk : ∀ (code : Int32) (bv : Int64) (ws2 : va_W), LO G x u q ot (j + 1) code bv ws2 → J p l e room_1 s m args below meth c Q G A 8 (kc + 1) (ks + 6) 1924 [(0, .ref b), (1, .ref x), (2, .ref (q 0)), (3, .ref ot), (4, .int (nI i))] [] ws2) : J p l e room_1 s m args below meth c Q G A 8 kc ks 1620 [(0, .ref b), (1, .ref x), (2, .ref (q 0)), (3, .ref ot), (4, .int (nI i))] [] ws := by
  refine j_aload_n X dL_law_1620 rfl 1 rfl ?_
  refine j_aload_n X dL_law_1621 rfl 0 rfl ?_
  refine j_iload X dL_law_1622 4 rfl ?_
  refine j_iconst (v := 1) X dL_law_1624 rfl ?_
  refine j_iadd X dL_law_1625 ?_
  refine j_sald X hX hb hA dL_law_1626 (i + 1) (sc_1 i) (by omega) (by omega) ?_
  refine j_i2l X dL_law_1627 rfl ?_
  refine j_bipush (v := 32) X dL_law_1628 (by decide) ?_
  refine j_lshl X dL_law_1630 rfl ?_
  refine j_aload_n X dL_law_1631 rfl 0 rfl ?_
  refine j_iload X dL_law_1632 4 rfl ?_
  refine j_iconst (v := 2) X dL_law_1634 rfl ?_
  refine j_iadd X dL_law_1635 ?_
  refine j_sald X hX hb hA dL_law_1636 (i + 2) (sc_2 i) (by omega) (by omega) ?_
  refine j_i2l X dL_law_1637 rfl ?_
  refine j_ldc2 (v := 4294967295) X dL_law_1638 cst_L_68 ?_
  refine j_land X dL_law_1641 ?_
  refine j_lor X dL_law_1642 ?_
  refine j_aload_n X dL_law_1643 rfl 0 rfl ?_
  refine j_iload X dL_law_1644 4 rfl ?_
  refine j_iconst (v := 3) X dL_law_1646 rfl ?_
  refine j_iadd X dL_law_1647 ?_
  refine j_sald X hX hb hA dL_law_1648 (i + 3) (sc_3 i) (by omega) (by omega) ?_
  refine j_aload_n X dL_law_1649 rfl 3 rfl ?_
  refine hc_root X XF hst hL hj _ _ ⟨by omega, by omega⟩ (fun code ws1 hR => ?_)
  refine j_istore (L' := [(5, .int code), (0, .ref b), (1, .ref x), (2, .ref (q 0)), (3, .ref ot), (4, .int (nI i))]) X dL_law_1653 (by decide) rfl ?_
  refine j_aload_n X dL_law_1655 rfl 3 rfl ?_
  refine j_aload_n X dL_law_1656 rfl 1 rfl ?_
  refine j_iload X dL_law_1657 5 rfl ?_
  refine j_iconst (v := 1) X dL_law_1659 rfl ?_
  refine j_iadd X dL_law_1660 ?_
  refine j_sald X hX hb hA dL_law_1661 (i + 1) (sc_1 i) (by omega) (by omega) ?_
  refine j_i2l X dL_law_1662 rfl ?_
  refine j_bipush (v := 32) X dL_law_1663 (by decide) ?_
  refine j_lshl X dL_law_1665 rfl ?_
  refine j_aload_n X dL_law_1666 rfl 1 rfl ?_
  refine j_iload X dL_law_1667 5 rfl ?_
  refine j_iconst (v := 2) X dL_law_1669 rfl ?_
  refine j_iadd X dL_law_1670 ?_
  refine j_sald X hX hb hA dL_law_1671 (i + 2) (sc_2 i) (by omega) (by omega) ?_
  refine j_i2l X dL_law_1672 rfl ?_
  refine j_ldc2 (v := 4294967295) X dL_law_1673 cst_L_68 ?_
  refine j_land X dL_law_1676 ?_
  refine j_lor X dL_law_1677 ?_
  refine j_aload_n X dL_law_1678 rfl 1 rfl ?_
  refine j_iload X dL_law_1679 5 rfl ?_
  refine j_iconst (v := 3) X dL_law_1681 rfl ?_
  refine j_iadd X dL_law_1682 ?_
  refine j_sald X hX hb hA dL_law_1683 (i + 3) (sc_3 i) (by omega) (by omega) ?_
  refine hR _ _ _ ⟨by omega, by omega⟩ (fun w ws2 hL2 => ?_)
  refine j_lstore (L' := [(6, .long w), (5, .int code), (0, .ref b), (1, .ref x), (2, .ref (q 0)), (3, .ref ot), (4, .int (nI i))]) X dL_law_1687 (by decide) rfl ?_
  refine j_aload_n X dL_law_1689 rfl 4 rfl ?_
  refine lo_thr X hL2 dL_law_1690 ⟨by omega, by omega⟩ ?_
  refine j_iload X dL_law_1693 1 rfl ?_
  refine j_icmp_eq (tgt := 1700) X dL_law_1695 (by decide) (fun _ => ?_) (fun c9 => absurd rfl c9)
  refine j_iload X dL_law_1700 1 rfl ?_
  refine j_if_ne (tgt := 1716) X dL_law_1702 (by decide) (fun _ => ?_) (fun c9 => ?_)
  · refine j_goto (tgt := 1924) X dL_law_1716 (by decide) ?_
    refine j_sub [2, 3, 4, 5, 6] rfl ?_
    exact kk _ _ _ hL2
  refine j_aload_n X dL_law_1705 rfl 5 rfl ?_
  refine j_iconst (v := 0) X dL_law_1706 rfl ?_
  refine lo_ld X hL2 c9 dL_law_1707 ?_
  refine j_lload X dL_law_1708 0 rfl ?_
  refine j_lcmp X dL_law_1710 ?_
  refine j_if_eq (tgt := 1716) X dL_law_1711 (by decide) (fun _ => ?_) (fun c9 => absurd (lgc_s _) c9)
  refine j_goto (tgt := 1924) X dL_law_1716 (by decide) ?_
  refine j_sub [2, 3, 4, 5, 6] rfl ?_
  exact kk _ _ _ hL2

set_option maxRecDepth 20000 in
theorem lc_corner (X : jX p s m args c cL_law 8 RL wsL_law G A) (XF : exF A s s.heap) (hst : l.stackTraces = false) {b K : Nat} {xs : Nat → Int32} (hX : va_X b K xs s s.heap) (hb : b < s.heap.size) (hA : ¬ A b) (hK : K ≤ 832) {i j : Nat} (hi : i + 13 ≤ K) {code0 : Int32} {bv0 : Int64} {ws : va_W} (hL : LO G x u q ot j code0 bv0 ws) (hj : j < 64) (hk : kc ≤ 50000 ∧ ks ≤ 500000) (kk : ∀ (code : Int32) (bv : Int64) (ws2 : va_W), LO G x u q ot (j + 1) code bv ws2 → J p l e room_1 s m args below meth c Q G A 8 (kc + 1) (ks + 6) 1924 [(0, .ref b), (1, .ref x), (2, .ref (q 0)), (3, .ref ot), (4, .int (nI i))] [] ws2) : J p l e room_1 s m args below meth c Q G A 8 kc ks 1719 [(0, .ref b), (1, .ref x), (2, .ref (q 0)), (3, .ref ot), (4, .int (nI i))] [] ws := by
  refine j_aload_n X dL_law_1719 rfl 1 rfl ?_
  refine j_aload_n X dL_law_1720 rfl 0 rfl ?_
  refine j_iload X dL_law_1721 4 rfl ?_
  refine j_iconst (v := 1) X dL_law_1723 rfl ?_
  refine j_iadd X dL_law_1724 ?_
  refine j_sald X hX hb hA dL_law_1725 (i + 1) (sc_1 i) (by omega) (by omega) ?_
  refine j_i2l X dL_law_1726 rfl ?_
  refine j_bipush (v := 32) X dL_law_1727 (by decide) ?_
  refine j_lshl X dL_law_1729 rfl ?_
  refine j_aload_n X dL_law_1730 rfl 0 rfl ?_
  refine j_iload X dL_law_1731 4 rfl ?_
  refine j_iconst (v := 2) X dL_law_1733 rfl ?_
  refine j_iadd X dL_law_1734 ?_
  refine j_sald X hX hb hA dL_law_1735 (i + 2) (sc_2 i) (by omega) (by omega) ?_
  refine j_i2l X dL_law_1736 rfl ?_
  refine j_ldc2 (v := 4294967295) X dL_law_1737 cst_L_68 ?_
  refine j_land X dL_law_1740 ?_
  refine j_lor X dL_law_1741 ?_
  refine j_aload_n X dL_law_1742 rfl 0 rfl ?_
  refine j_iload X dL_law_1743 4 rfl ?_
  refine j_iconst (v := 3) X dL_law_1745 rfl ?_
  refine j_iadd X dL_law_1746 ?_
  refine j_sald X hX hb hA dL_law_1747 (i + 3) (sc_3 i) (by omega) (by omega) ?_
  refine j_i2l X dL_law_1748 rfl ?_
  refine j_bipush (v := 32) X dL_law_1749 (by decide) ?_
  refine j_lshl X dL_law_1751 rfl ?_
  refine j_aload_n X dL_law_1752 rfl 0 rfl ?_
  refine j_iload X dL_law_1753 4 rfl ?_
  refine j_iconst (v := 4) X dL_law_1755 rfl ?_
  refine j_iadd X dL_law_1756 ?_
  refine j_sald X hX hb hA dL_law_1757 (i + 4) (sc_4 i) (by omega) (by omega) ?_
  refine j_i2l X dL_law_1758 rfl ?_
  refine j_ldc2 (v := 4294967295) X dL_law_1759 cst_L_68 ?_
  refine j_land X dL_law_1762 ?_
  refine j_lor X dL_law_1763 ?_
  refine j_aload_n X dL_law_1764 rfl 3 rfl ?_
  refine hc_corner X XF hst hL hj _ _ ⟨by omega, by omega⟩ (fun code ws1 hR => ?_)
  refine j_istore (L' := [(5, .int code), (0, .ref b), (1, .ref x), (2, .ref (q 0)), (3, .ref ot), (4, .int (nI i))]) X dL_law_1768 (by decide) rfl ?_
  refine j_aload_n X dL_law_1770 rfl 3 rfl ?_
  refine j_aload_n X dL_law_1771 rfl 1 rfl ?_
  refine j_iload X dL_law_1772 5 rfl ?_
  refine j_iconst (v := 1) X dL_law_1774 rfl ?_
  refine j_iadd X dL_law_1775 ?_
  refine j_sald X hX hb hA dL_law_1776 (i + 1) (sc_1 i) (by omega) (by omega) ?_
  refine j_i2l X dL_law_1777 rfl ?_
  refine j_bipush (v := 32) X dL_law_1778 (by decide) ?_
  refine j_lshl X dL_law_1780 rfl ?_
  refine j_aload_n X dL_law_1781 rfl 1 rfl ?_
  refine j_iload X dL_law_1782 5 rfl ?_
  refine j_iconst (v := 2) X dL_law_1784 rfl ?_
  refine j_iadd X dL_law_1785 ?_
  refine j_sald X hX hb hA dL_law_1786 (i + 2) (sc_2 i) (by omega) (by omega) ?_
  refine j_i2l X dL_law_1787 rfl ?_
  refine j_ldc2 (v := 4294967295) X dL_law_1788 cst_L_68 ?_
  refine j_land X dL_law_1791 ?_
  refine j_lor X dL_law_1792 ?_
  refine j_aload_n X dL_law_1793 rfl 1 rfl ?_
  refine j_iload X dL_law_1794 5 rfl ?_
  refine j_iconst (v := 3) X dL_law_1796 rfl ?_
  refine j_iadd X dL_law_1797 ?_
  refine j_sald X hX hb hA dL_law_1798 (i + 3) (sc_3 i) (by omega) (by omega) ?_
  refine j_i2l X dL_law_1799 rfl ?_
  refine j_bipush (v := 32) X dL_law_1800 (by decide) ?_
  refine j_lshl X dL_law_1802 rfl ?_
  refine j_aload_n X dL_law_1803 rfl 1 rfl ?_
  refine j_iload X dL_law_1804 5 rfl ?_
  refine j_iconst (v := 4) X dL_law_1806 rfl ?_
  refine j_iadd X dL_law_1807 ?_
  refine j_sald X hX hb hA dL_law_1808 (i + 4) (sc_4 i) (by omega) (by omega) ?_
  refine j_i2l X dL_law_1809 rfl ?_
  refine j_ldc2 (v := 4294967295) X dL_law_1810 cst_L_68 ?_
  refine j_land X dL_law_1813 ?_
  refine j_lor X dL_law_1814 ?_
  refine hR _ _ _ ⟨by omega, by omega⟩ (fun w ws2 hL2 => ?_)
  refine j_istore (L' := [(6, .int w), (5, .int code), (0, .ref b), (1, .ref x), (2, .ref (q 0)), (3, .ref ot), (4, .int (nI i))]) X dL_law_1818 (by decide) rfl ?_
  refine j_aload_n X dL_law_1820 rfl 4 rfl ?_
  refine lo_thr X hL2 dL_law_1821 ⟨by omega, by omega⟩ ?_
  refine j_iload X dL_law_1824 1 rfl ?_
  refine j_icmp_eq (tgt := 1831) X dL_law_1826 (by decide) (fun _ => ?_) (fun c9 => absurd rfl c9)
  refine j_iload X dL_law_1831 1 rfl ?_
  refine j_if_ne (tgt := 1855) X dL_law_1833 (by decide) (fun _ => ?_) (fun c9 => ?_)
  · refine j_goto (tgt := 1924) X dL_law_1855 (by decide) ?_
    refine j_sub [2, 3, 4, 5, 6] rfl ?_
    exact kk _ _ _ hL2
  refine j_aload_n X dL_law_1836 rfl 5 rfl ?_
  refine j_iconst (v := 0) X dL_law_1837 rfl ?_
  refine lo_ld X hL2 c9 dL_law_1838 ?_
  refine j_iload X dL_law_1839 0 rfl ?_
  refine j_if_eq (tgt := 1848) X dL_law_1841 (by decide) (fun c8 => ?_) (fun c8 => ?_)
  · refine j_lconst (v := 0) X dL_law_1848 rfl ?_
    refine j_lcmp X dL_law_1849 ?_
    refine j_if_eq (tgt := 1855) X dL_law_1850 (by decide) (fun _ => ?_) (fun c9 => absurd (by rw [if_pos c8]; exact lgc_s _) c9)
    refine j_goto (tgt := 1924) X dL_law_1855 (by decide) ?_
    refine j_sub [2, 3, 4, 5, 6] rfl ?_
    exact kk _ _ _ hL2
  · refine j_lconst (v := 1) X dL_law_1844 rfl ?_
    refine j_goto (tgt := 1849) X dL_law_1845 (by decide) ?_
    refine j_lcmp X dL_law_1849 ?_
    refine j_if_eq (tgt := 1855) X dL_law_1850 (by decide) (fun _ => ?_) (fun c9 => absurd (by rw [if_neg c8]; exact lgc_s _) c9)
    refine j_goto (tgt := 1924) X dL_law_1855 (by decide) ?_
    refine j_sub [2, 3, 4, 5, 6] rfl ?_
    exact kk _ _ _ hL2

set_option maxRecDepth 20000 in
theorem lc_area (X : jX p s m args c cL_law 8 RL wsL_law G A) (XF : exF A s s.heap) (hst : l.stackTraces = false) {b K : Nat} {xs : Nat → Int32} (hX : va_X b K xs s s.heap) (hb : b < s.heap.size) (hA : ¬ A b) (hK : K ≤ 832) {i j : Nat} (hi : i + 13 ≤ K) {code0 : Int32} {bv0 : Int64} {ws : va_W} (hL : LO G x u q ot j code0 bv0 ws) (hj : j < 64) (hk : kc ≤ 50000 ∧ ks ≤ 500000) (kk : ∀ (code : Int32) (bv : Int64) (ws2 : va_W), LO G x u q ot (j + 1) code bv ws2 → J p l e room_1 s m args below meth c Q G A 8 (kc + 1) (ks + 6) 1924 [(0, .ref b), (1, .ref x), (2, .ref (q 0)), (3, .ref ot), (4, .int (nI i))] [] ws2) : J p l e room_1 s m args below meth c Q G A 8 kc ks 1858 [(0, .ref b), (1, .ref x), (2, .ref (q 0)), (3, .ref ot), (4, .int (nI i))] [] ws := by
  refine j_aload_n X dL_law_1858 rfl 1 rfl ?_
  refine j_aload_n X dL_law_1859 rfl 0 rfl ?_
  refine j_iload X dL_law_1860 4 rfl ?_
  refine j_iconst (v := 1) X dL_law_1862 rfl ?_
  refine j_iadd X dL_law_1863 ?_
  refine j_sald X hX hb hA dL_law_1864 (i + 1) (sc_1 i) (by omega) (by omega) ?_
  refine j_aload_n X dL_law_1865 rfl 3 rfl ?_
  refine hc_area X XF hst hL hj _ ⟨by omega, by omega⟩ (fun code ws1 hR => ?_)
  refine j_istore (L' := [(5, .int code), (0, .ref b), (1, .ref x), (2, .ref (q 0)), (3, .ref ot), (4, .int (nI i))]) X dL_law_1869 (by decide) rfl ?_
  refine j_aload_n X dL_law_1871 rfl 3 rfl ?_
  refine j_aload_n X dL_law_1872 rfl 1 rfl ?_
  refine j_iload X dL_law_1873 5 rfl ?_
  refine j_iconst (v := 1) X dL_law_1875 rfl ?_
  refine j_iadd X dL_law_1876 ?_
  refine j_sald X hX hb hA dL_law_1877 (i + 1) (sc_1 i) (by omega) (by omega) ?_
  refine hR _ _ _ ⟨by omega, by omega⟩ (fun w ws2 hL2 => ?_)
  refine j_lstore (L' := [(6, .long w), (5, .int code), (0, .ref b), (1, .ref x), (2, .ref (q 0)), (3, .ref ot), (4, .int (nI i))]) X dL_law_1881 (by decide) rfl ?_
  refine j_aload_n X dL_law_1883 rfl 4 rfl ?_
  refine lo_thr X hL2 dL_law_1884 ⟨by omega, by omega⟩ ?_
  refine j_iload X dL_law_1887 1 rfl ?_
  refine j_icmp_eq (tgt := 1894) X dL_law_1889 (by decide) (fun _ => ?_) (fun c9 => absurd rfl c9)
  refine j_iload X dL_law_1894 1 rfl ?_
  refine j_if_ne (tgt := 1910) X dL_law_1896 (by decide) (fun _ => ?_) (fun c9 => ?_)
  · refine j_goto (tgt := 1924) X dL_law_1910 (by decide) ?_
    refine j_sub [2, 3, 4, 5, 6] rfl ?_
    exact kk _ _ _ hL2
  refine j_aload_n X dL_law_1899 rfl 5 rfl ?_
  refine j_iconst (v := 0) X dL_law_1900 rfl ?_
  refine lo_ld X hL2 c9 dL_law_1901 ?_
  refine j_lload X dL_law_1902 0 rfl ?_
  refine j_lcmp X dL_law_1904 ?_
  refine j_if_eq (tgt := 1910) X dL_law_1905 (by decide) (fun _ => ?_) (fun c9 => absurd (lgc_s _) c9)
  refine j_goto (tgt := 1924) X dL_law_1910 (by decide) ?_
  refine j_sub [2, 3, 4, 5, 6] rfl ?_
  exact kk _ _ _ hL2

end LC
