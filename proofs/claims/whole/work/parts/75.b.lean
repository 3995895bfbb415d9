abbrev rm_X10_compare : Room := { frames := 3, cells := 0, slots := 0, locals := 91 }
theorem in_X10_compare_X10 : ∀ w ∈ u_ws RX10 TX10 8, w ∈ wsX10_compare := by decide +kernel
theorem fl_X10_compare_46 : Cond.fieldLink RX10 46 (TX10 6).1 (TX10 6).2.1 (TX10 6).2.2.1 ∈ wsX10_compare := by decide +kernel
theorem in_X10_compare_X5 : ∀ w ∈ u_ws RX5 TX5 5, w ∈ wsX10_compare := by decide +kernel
theorem fl_X10_compare_134 : Cond.fieldLink RX10 134 (TX5 0).1 (TX5 0).2.1 (TX5 0).2.2.1 ∈ wsX10_compare := by decide +kernel
theorem k_X10_compare_141 : Cond.constantLong RX10 141 (-1) ∈ wsX10_compare := by decide +kernel
theorem fl_X10_compare_53 : Cond.fieldLink RX10 53 (TX10 7).1 (TX10 7).2.1 (TX10 7).2.2.1 ∈ wsX10_compare := by decide +kernel
theorem fl_X10_compare_25 : Cond.fieldLink RX10 25 (TX10 3).1 (TX10 3).2.1 (TX10 3).2.2.1 ∈ wsX10_compare := by decide +kernel
set_option maxHeartbeats 4000000 in
set_option maxRecDepth 100000 in
theorem c_X10_compare_ok (l : Launch) (G : jG) (x0 xs po ro cr gp nu wk : Nat) (cn : Int32) (s1 b1 s2 b2 rr stp n1 m1 n2 m2 n3 m3 awk : Nat) (f1 f2 g1 g2 g3 fw : Nat → Int64) (sd0 : Int32) (fc0 : Int64) (xa xb xc xd : Int64) (hP : 0 ≤ xc.toInt) : Ct l yX10_compare wsX10_compare rm_X10_compare G [.ref x0, .long xa, .long xb, .long xc, .long xd] [(x0, .inr (9, [.ref xs, .int cn, .ref po, .ref ro, .ref cr, .ref gp, .ref nu, .ref wk])), (ro, .inr (6, [.ref s1, .ref s2, .ref rr, .ref stp])), (s1, .inr (8, [.ref b1])), (b1, aJ G 8 f1), (s2, .inr (8, [.ref b2])), (b2, aJ G 8 f2), (nu, .inr (5, [.ref n1, .ref n2, .int sd0, .long fc0, .ref n3])), (n1, .inr (8, [.ref m1])), (m1, aJ G 8 g1), (n2, .inr (8, [.ref m2])), (m2, aJ G 8 g2), (n3, .inr (8, [.ref m3])), (m3, aJ G 8 g3), (wk, .inr (8, [.ref awk])), (awk, aJ G 8 fw)] (S := (Nat → Int64) × (Nat → Int64) × (Nat → Int64) × (Nat → Int64) × (Nat → Int64) × Int32 × Int64 × (Nat → Int64)) (fun r _ => r = some (.int (rn (xa.toInt - xd.toInt) xb.toInt xc.toInt))) (fun u => [(x0, .inr (9, [.ref xs, .int cn, .ref po, .ref ro, .ref cr, .ref gp, .ref nu, .ref wk])), (ro, .inr (6, [.ref s1, .ref s2, .ref rr, .ref stp])), (s1, .inr (8, [.ref b1])), (b1, aJ G 8 u.1), (s2, .inr (8, [.ref b2])), (b2, aJ G 8 u.2.1), (nu, .inr (5, [.ref n1, .ref n2, .int u.2.2.2.2.2.1, .long u.2.2.2.2.2.2.1, .ref n3])), (n1, .inr (8, [.ref m1])), (m1, aJ G 8 u.2.2.1), (n2, .inr (8, [.ref m2])), (m2, aJ G 8 u.2.2.2.1), (n3, .inr (8, [.ref m3])), (m3, aJ G 8 u.2.2.2.2.1), (wk, .inr (8, [.ref awk])), (awk, aJ G 8 u.2.2.2.2.2.2.2)]) (fun _ => []) := by
  refine c_intro (cc := cX10_compare) (maxL := 9) (ret := (some .int)) (by decide) rfl (Nat.le_of_ble_eq_true rfl) (fun _ => by simp only [List.map_cons, List.map_nil]) ?_
  intro p e s m args below meth c Q A X hr hin E
  change J p l e rm_X10_compare s m args below meth c Q G A 9 0 0 0 [(0, .ref x0), (1, .long xa), (3, .long xb), (5, .long xc), (7, .long xd)] [] [(x0, .inr (9, [.ref xs, .int cn, .ref po, .ref ro, .ref cr, .ref gp, .ref nu, .ref wk])), (ro, .inr (6, [.ref s1, .ref s2, .ref rr, .ref stp])), (s1, .inr (8, [.ref b1])), (b1, aJ G 8 f1), (s2, .inr (8, [.ref b2])), (b2, aJ G 8 f2), (nu, .inr (5, [.ref n1, .ref n2, .int sd0, .long fc0, .ref n3])), (n1, .inr (8, [.ref m1])), (m1, aJ G 8 g1), (n2, .inr (8, [.ref m2])), (m2, aJ G 8 g2), (n3, .inr (8, [.ref m3])), (m3, aJ G 8 g3), (wk, .inr (8, [.ref awk])), (awk, aJ G 8 fw)]
  refine j_lload X dX10_compare_0 3 rfl ?_
  refine j_lconst (v := 0) X dX10_compare_2 rfl ?_
  refine j_lcmp X dX10_compare_3 ?_
  refine j_if_ge (tgt := 17) X dX10_compare_4 (by decide) (fun c_4 => ?_) (fun c_4 => ?_)
  · skip
    first | simp only [cmp_eq, cmp_lt, cmp_ge, cmp_gt, cmp_le, lT0, lT1] at c_4 | simp only [Int32.le_iff_toInt_le, Int32.lt_iff_toInt_lt, ← Int32.toInt_inj, iT0, iT1, iT2, iT3, iT4, iT5, iT6, iT7, iT8, iT9, iT10, iT11, iT12, iT13, iT14, iT15, iT16, iT19, iT20, iT31, iT32, iT42, iT64, iT200, iT318, iT319, iT1000, iTm1, iTm2] at c_4
    refine j_aload_n X dX10_compare_17 rfl 0 rfl ?_
    refine j_get (v := .ref nu) X dX10_compare_18 0 rfl 6 rfl in_X10_compare_X10 (by decide) fl_X10_compare_46 rfl ?_
    refine j_get (v := .ref n1) X dX10_compare_21 6 rfl 0 rfl in_X10_compare_X5 (by decide) fl_X10_compare_134 rfl ?_
    refine j_lload_n X dX10_compare_24 rfl 1 rfl ?_
    refine j_callV X dX10_compare_25 (c_X9_setTo l G n1 m1 g1 xa) gX10_compare_X9_setTo rfl hy_X9_setTo_V ⟨Nat.le_of_ble_eq_true rfl, Nat.le_of_ble_eq_true rfl⟩ 0 rfl rfl [7, 8] rfl (by decide) rfl rfl (Nat.le_of_ble_eq_true rfl) ⟨Nat.le_of_ble_eq_true rfl, Nat.le_of_ble_eq_true rfl⟩ ?_
    rintro _ ⟨⟩ rfl
    change J p l e rm_X10_compare s m args below meth c Q G A 9 0 0 28 [(0, .ref x0), (1, .long xa), (3, .long xb), (5, .long xc), (7, .long xd)] [] [(x0, .inr (9, [.ref xs, .int cn, .ref po, .ref ro, .ref cr, .ref gp, .ref nu, .ref wk])), (ro, .inr (6, [.ref s1, .ref s2, .ref rr, .ref stp])), (s1, .inr (8, [.ref b1])), (b1, aJ G 8 f1), (s2, .inr (8, [.ref b2])), (b2, aJ G 8 f2), (nu, .inr (5, [.ref n1, .ref n2, .int sd0, .long fc0, .ref n3])), (n1, .inr (8, [.ref m1])), (m1, aJ G 8 (dg xa.toInt)), (n2, .inr (8, [.ref m2])), (m2, aJ G 8 g2), (n3, .inr (8, [.ref m3])), (m3, aJ G 8 g3), (wk, .inr (8, [.ref awk])), (awk, aJ G 8 fw)]
    refine j_aload_n X dX10_compare_28 rfl 0 rfl ?_
    refine j_get (v := .ref nu) X dX10_compare_29 0 rfl 6 rfl in_X10_compare_X10 (by decide) fl_X10_compare_46 rfl ?_
    refine j_get (v := .ref n1) X dX10_compare_32 6 rfl 0 rfl in_X10_compare_X5 (by decide) fl_X10_compare_134 rfl ?_
    refine j_lload X dX10_compare_35 4 rfl ?_
    refine j_ldc2 (v := (-1)) X dX10_compare_37 k_X10_compare_141 ?_
    refine j_callV X dX10_compare_40 (c_X9_addProduct l G n1 m1 xa.toInt xd (-1)) gX10_compare_X9_addProduct rfl hy_X9_addProduct_V ⟨Nat.le_of_ble_eq_true rfl, Nat.le_of_ble_eq_true rfl⟩ 0 rfl rfl [7, 8] rfl (by decide) rfl rfl (Nat.le_of_ble_eq_true rfl) ⟨Nat.le_of_ble_eq_true rfl, Nat.le_of_ble_eq_true rfl⟩ ?_
    rintro _ ⟨⟩ rfl
    change J p l e rm_X10_compare s m args below meth c Q G A 9 0 0 43 [(0, .ref x0), (1, .long xa), (3, .long xb), (5, .long xc), (7, .long xd)] [] [(x0, .inr (9, [.ref xs, .int cn, .ref po, .ref ro, .ref cr, .ref gp, .ref nu, .ref wk])), (ro, .inr (6, [.ref s1, .ref s2, .ref rr, .ref stp])), (s1, .inr (8, [.ref b1])), (b1, aJ G 8 f1), (s2, .inr (8, [.ref b2])), (b2, aJ G 8 f2), (nu, .inr (5, [.ref n1, .ref n2, .int sd0, .long fc0, .ref n3])), (n1, .inr (8, [.ref m1])), (m1, aJ G 8 (dg (xa.toInt + xd.toInt * (-1 : Int64).toInt))), (n2, .inr (8, [.ref m2])), (m2, aJ G 8 g2), (n3, .inr (8, [.ref m3])), (m3, aJ G 8 g3), (wk, .inr (8, [.ref awk])), (awk, aJ G 8 fw)]
    rw [show (-1 : Int64).toInt = -1 from rfl]
    rw [show (xa.toInt + xd.toInt * (-1)) = xa.toInt - xd.toInt from (by omega)]
    refine j_aload_n X dX10_compare_43 rfl 0 rfl ?_
    refine j_get (v := .ref wk) X dX10_compare_44 0 rfl 7 rfl in_X10_compare_X10 (by decide) fl_X10_compare_53 rfl ?_
    refine j_lload X dX10_compare_47 3 rfl ?_
    refine j_callV X dX10_compare_49 (c_X9_setTo l G wk awk fw xc) gX10_compare_X9_setTo rfl hy_X9_setTo_V ⟨Nat.le_of_ble_eq_true rfl, Nat.le_of_ble_eq_true rfl⟩ 0 rfl rfl [13, 14] rfl (by decide) rfl rfl (Nat.le_of_ble_eq_true rfl) ⟨Nat.le_of_ble_eq_true rfl, Nat.le_of_ble_eq_true rfl⟩ ?_
    rintro _ ⟨⟩ rfl
    change J p l e rm_X10_compare s m args below meth c Q G A 9 0 0 52 [(0, .ref x0), (1, .long xa), (3, .long xb), (5, .long xc), (7, .long xd)] [] [(x0, .inr (9, [.ref xs, .int cn, .ref po, .ref ro, .ref cr, .ref gp, .ref nu, .ref wk])), (ro, .inr (6, [.ref s1, .ref s2, .ref rr, .ref stp])), (s1, .inr (8, [.ref b1])), (b1, aJ G 8 f1), (s2, .inr (8, [.ref b2])), (b2, aJ G 8 f2), (nu, .inr (5, [.ref n1, .ref n2, .int sd0, .long fc0, .ref n3])), (n1, .inr (8, [.ref m1])), (m1, aJ G 8 (dg (xa.toInt - xd.toInt))), (n2, .inr (8, [.ref m2])), (m2, aJ G 8 g2), (n3, .inr (8, [.ref m3])), (m3, aJ G 8 g3), (wk, .inr (8, [.ref awk])), (awk, aJ G 8 (dg xc.toInt))]
    refine j_aload_n X dX10_compare_52 rfl 0 rfl ?_
    refine j_get (v := .ref nu) X dX10_compare_53 0 rfl 6 rfl in_X10_compare_X10 (by decide) fl_X10_compare_46 rfl ?_
    refine j_lload_n X dX10_compare_56 rfl 2 rfl ?_
    refine j_aload_n X dX10_compare_57 rfl 0 rfl ?_
    refine j_get (v := .ref wk) X dX10_compare_58 0 rfl 7 rfl in_X10_compare_X10 (by decide) fl_X10_compare_53 rfl ?_
    refine j_callV X dX10_compare_61 (c_X5_setRoot l G nu n1 n2 m2 n3 m3 wk awk g2 g3 sd0 fc0 xb xc.toInt (by have := l_rng xc; omega)) gX10_compare_X5_setRoot rfl hy_X5_setRoot_V ⟨Nat.le_of_ble_eq_true rfl, Nat.le_of_ble_eq_true rfl⟩ 0 rfl rfl [6, 9, 10, 11, 12, 13, 14] rfl (by decide) rfl rfl (Nat.le_of_ble_eq_true rfl) ⟨Nat.le_of_ble_eq_true rfl, Nat.le_of_ble_eq_true rfl⟩ ?_
    rintro _ ⟨⟩ rfl
    change J p l e rm_X10_compare s m args below meth c Q G A 9 0 0 64 [(0, .ref x0), (1, .long xa), (3, .long xb), (5, .long xc), (7, .long xd)] [] [(x0, .inr (9, [.ref xs, .int cn, .ref po, .ref ro, .ref cr, .ref gp, .ref nu, .ref wk])), (ro, .inr (6, [.ref s1, .ref s2, .ref rr, .ref stp])), (s1, .inr (8, [.ref b1])), (b1, aJ G 8 f1), (s2, .inr (8, [.ref b2])), (b2, aJ G 8 f2), (nu, .inr (5, [.ref n1, .ref n2, .int (sg xb.toInt * sg xc.toInt), .long xb, .ref n3])), (n1, .inr (8, [.ref m1])), (m1, aJ G 8 (dg (xa.toInt - xd.toInt))), (n2, .inr (8, [.ref m2])), (m2, aJ G 8 (dg (xb.toInt * xb.toInt * xc.toInt))), (n3, .inr (8, [.ref m3])), (m3, aJ G 8 (dg (xb.toInt * xb.toInt))), (wk, .inr (8, [.ref awk])), (awk, aJ G 8 (dg xc.toInt))]
    refine j_aload_n X dX10_compare_64 rfl 0 rfl ?_
    refine j_get (v := .ref ro) X dX10_compare_65 0 rfl 3 rfl in_X10_compare_X10 (by decide) fl_X10_compare_25 rfl ?_
    refine j_aload_n X dX10_compare_68 rfl 0 rfl ?_
    refine j_get (v := .ref nu) X dX10_compare_69 0 rfl 6 rfl in_X10_compare_X10 (by decide) fl_X10_compare_46 rfl ?_
    refine j_callV X dX10_compare_72 (c_X6_sign l G ro s1 b1 s2 b2 rr stp nu n1 m1 n2 m2 n3 f1 f2 (sg xb.toInt * sg xc.toInt) xb (xa.toInt - xd.toInt) (xb.toInt * xb.toInt * xc.toInt) (cmp_b (b := xb) (c := xc)) (cmp_q hP)) gX10_compare_X6_sign rfl hy_X6_sign_V ⟨Nat.le_of_ble_eq_true rfl, Nat.le_of_ble_eq_true rfl⟩ 0 rfl rfl [1, 2, 3, 4, 5, 6, 7, 8, 9, 10] rfl (by decide) rfl rfl (Nat.le_of_ble_eq_true rfl) ⟨Nat.le_of_ble_eq_true rfl, Nat.le_of_ble_eq_true rfl⟩ ?_
    rintro _ ⟨g_1, g_2⟩ rfl
    change J p l e rm_X10_compare s m args below meth c Q G A 9 0 0 75 [(0, .ref x0), (1, .long xa), (3, .long xb), (5, .long xc), (7, .long xd)] [.int (cs (xa.toInt - xd.toInt) (sg xb.toInt * sg xc.toInt) (xb.toInt * xb.toInt * xc.toInt))] [(x0, .inr (9, [.ref xs, .int cn, .ref po, .ref ro, .ref cr, .ref gp, .ref nu, .ref wk])), (ro, .inr (6, [.ref s1, .ref s2, .ref rr, .ref stp])), (s1, .inr (8, [.ref b1])), (b1, aJ G 8 g_1), (s2, .inr (8, [.ref b2])), (b2, aJ G 8 g_2), (nu, .inr (5, [.ref n1, .ref n2, .int (sg xb.toInt * sg xc.toInt), .long xb, .ref n3])), (n1, .inr (8, [.ref m1])), (m1, aJ G 8 (dg (xa.toInt - xd.toInt))), (n2, .inr (8, [.ref m2])), (m2, aJ G 8 (dg (xb.toInt * xb.toInt * xc.toInt))), (n3, .inr (8, [.ref m3])), (m3, aJ G 8 (dg (xb.toInt * xb.toInt))), (wk, .inr (8, [.ref awk])), (awk, aJ G 8 (dg xc.toInt))]
    exact E.2.1 75 _ (cs (xa.toInt - xd.toInt) (sg xb.toInt * sg xc.toInt) (xb.toInt * xb.toInt * xc.toInt)) (g_1, g_2, dg (xa.toInt - xd.toInt), dg (xb.toInt * xb.toInt * xc.toInt), dg (xb.toInt * xb.toInt), sg xb.toInt * sg xc.toInt, xb, dg xc.toInt) _ dX10_compare_75 rfl hr rfl
  · skip
    first | simp only [cmp_eq, cmp_lt, cmp_ge, cmp_gt, cmp_le, lT0, lT1] at c_4 | simp only [Int32.le_iff_toInt_le, Int32.lt_iff_toInt_lt, ← Int32.toInt_inj, iT0, iT1, iT2, iT3, iT4, iT5, iT6, iT7, iT8, iT9, iT10, iT11, iT12, iT13, iT14, iT15, iT16, iT19, iT20, iT31, iT32, iT42, iT64, iT200, iT318, iT319, iT1000, iTm1, iTm2] at c_4
    exfalso; omega

theorem hy_X10_compare_V : yX10_compare.cls = RX10 ∧ yX10_compare.cls ≠ "java/lang/invoke/MethodHandle" ∧ yX10_compare.cls ≠ "java/lang/invoke/VarHandle" ∧ (parseMethodDescriptor yX10_compare.desc).map (fun d => d.parameters.length) = some 4 := by decide +kernel
abbrev rm_X10_compare_no : Room := { frames := 6, cells := 1, slots := 6, locals := 90 }
theorem ta_X10_compare_65 : (Cond.classLink RX10 65 eA ∈ wsX10_compare) ∧ (Cond.initialized eA ∈ wsX10_compare) := by decide +kernel
theorem tb_X10_compare_69 : ∀ w ∈ (vx_atS RX10 69 eA ["java/lang/RuntimeException", "java/lang/Exception"]).filter goodWord, w ∈ wsX10_compare := fun w h => List.mem_cons_of_mem _ (List.mem_append_right _ h)
set_option maxHeartbeats 4000000 in
set_option maxRecDepth 100000 in
theorem c_X10_compare_no (l : Launch) (G : jG) (hst : l.stackTraces = false) (x0 xs po ro cr gp nu wk : Nat) (cn : Int32) (xa xb xc xd : Int64) (hP : xc.toInt < 0) : CtX l yX10_compare wsX10_compare rm_X10_compare_no G [.ref x0, .long xa, .long xb, .long xc, .long xd] [(x0, .inr (9, [.ref xs, .int cn, .ref po, .ref ro, .ref cr, .ref gp, .ref nu, .ref wk]))] eA (S := Unit) (fun _ => True) (fun _ => [(x0, .inr (9, [.ref xs, .int cn, .ref po, .ref ro, .ref cr, .ref gp, .ref nu, .ref wk]))]) := by
  refine c_introX (cc := cX10_compare) (maxL := 9) (ret := (some .int)) (by decide) rfl (Nat.le_of_ble_eq_true rfl) (fun _ => by simp only [List.map_cons, List.map_nil]) ?_
  intro p e s m args below meth c Q A hQ X XF hlk htb
  change J p l e rm_X10_compare_no s m args below meth c Q G A 9 0 0 0 [(0, .ref x0), (1, .long xa), (3, .long xb), (5, .long xc), (7, .long xd)] [] [(x0, .inr (9, [.ref xs, .int cn, .ref po, .ref ro, .ref cr, .ref gp, .ref nu, .ref wk]))]
  refine j_lload X dX10_compare_0 3 rfl ?_
  refine j_lconst (v := 0) X dX10_compare_2 rfl ?_
  refine j_lcmp X dX10_compare_3 ?_
  refine j_if_ge (tgt := 17) X dX10_compare_4 (by decide) (fun c_4 => ?_) (fun c_4 => ?_)
  · skip
    first | simp only [cmp_eq, cmp_lt, cmp_ge, cmp_gt, cmp_le, lT0, lT1] at c_4 | simp only [Int32.le_iff_toInt_le, Int32.lt_iff_toInt_lt, ← Int32.toInt_inj, iT0, iT1, iT2, iT3, iT4, iT5, iT6, iT7, iT8, iT9, iT10, iT11, iT12, iT13, iT14, iT15, iT16, iT19, iT20, iT31, iT32, iT42, iT64, iT200, iT318, iT319, iT1000, iTm1, iTm2] at c_4
    exfalso; omega
  · skip
    subst hQ
    exact j_throwS (cls := eA) (text := "no root of what is below 0") (names := ["java/lang/RuntimeException", "java/lang/Exception"]) X rfl hst XF hlk htb dX10_compare_7 dX10_compare_10 dX10_compare_11 dX10_compare_13 dX10_compare_16 (by decide +kernel) (by decide +kernel) ta_X10_compare_65.1 ta_X10_compare_65.2 (by decide +kernel) (by decide +kernel) tb_X10_compare_69 tc_69 td_69 (Nat.le_of_ble_eq_true rfl) (Nat.le_of_ble_eq_true rfl) (Nat.le_of_ble_eq_true rfl) (Nat.le_of_ble_eq_true rfl) () trivial rfl

