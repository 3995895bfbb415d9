abbrev rm_X10_corner : Room := { frames := 4, cells := 0, slots := 0, locals := 120 }
theorem in_X10_corner_X10 : ∀ w ∈ u_ws RX10 TX10 8, w ∈ wsX10_corner := by decide +kernel
theorem fl_X10_corner_18 : Cond.fieldLink RX10 18 (TX10 2).1 (TX10 2).2.1 (TX10 2).2.2.1 ∈ wsX10_corner := by decide +kernel
theorem in_X10_corner_X4 : ∀ w ∈ u_ws RX4 TX4 6, w ∈ wsX10_corner := by decide +kernel
theorem fl_X10_corner_214 : Cond.fieldLink RX10 214 (TX4 0).1 (TX4 0).2.1 (TX4 0).2.2.1 ∈ wsX10_corner := by decide +kernel
set_option maxHeartbeats 4000000 in
set_option maxRecDepth 100000 in
theorem c_X10_corner_0 (l : Launch) (G : jG) (x0 xs po ro cr gp nu wk : Nat) (cn : Int32) (su asu : Nat) (fx fy lx ly : Int64) (S1 : Int) (x y : Int64) (hP : inC x.toInt ∧ inC y.toInt) : Ct l yX10_corner wsX10_corner rm_X10_corner G [.ref x0, .long x, .long y] [(x0, .inr (9, [.ref xs, .int cn, .ref po, .ref ro, .ref cr, .ref gp, .ref nu, .ref wk])), (po, .inr (4, [.int 0, .long fx, .long fy, .long lx, .long ly, .ref su])), (su, .inr (8, [.ref asu])), (asu, aJ G 8 (dg S1))] (S := Unit) (fun r _ => r = some (.int 1)) (fun _ => [(x0, .inr (9, [.ref xs, .int cn, .ref po, .ref ro, .ref cr, .ref gp, .ref nu, .ref wk])), (po, .inr (4, [.int 1, .long x, .long y, .long x, .long y, .ref su])), (su, .inr (8, [.ref asu])), (asu, aJ G 8 (dg S1))]) (fun _ => []) := by
  refine c_intro (cc := cX10_corner) (maxL := 5) (ret := (some .boolean)) (by decide) rfl (Nat.le_of_ble_eq_true rfl) (fun _ => by simp only [List.map_cons, List.map_nil]) ?_
  intro p e s m args below meth c Q A X hr hin E
  change J p l e rm_X10_corner s m args below meth c Q G A 5 0 0 0 [(0, .ref x0), (1, .long x), (3, .long y)] [] [(x0, .inr (9, [.ref xs, .int cn, .ref po, .ref ro, .ref cr, .ref gp, .ref nu, .ref wk])), (po, .inr (4, [.int 0, .long fx, .long fy, .long lx, .long ly, .ref su])), (su, .inr (8, [.ref asu])), (asu, aJ G 8 (dg S1))]
  refine j_lload_n X dX10_corner_0 rfl 1 rfl ?_
  refine j_lload_n X dX10_corner_1 rfl 2 rfl ?_
  refine j_callS X dX10_corner_2 (c_X10_isPlace l G x y) gX10_corner_X10_isPlace rfl hy_X10_isPlace_S ⟨Nat.le_of_ble_eq_true rfl, Nat.le_of_ble_eq_true rfl⟩ [] rfl (by decide) rfl rfl (Nat.le_of_ble_eq_true rfl) ⟨Nat.le_of_ble_eq_true rfl, Nat.le_of_ble_eq_true rfl⟩ ?_
  rintro _ ⟨⟩ rfl
  change J p l e rm_X10_corner s m args below meth c Q G A 5 0 0 5 [(0, .ref x0), (1, .long x), (3, .long y)] [.int (bI (inC x.toInt ∧ inC y.toInt))] [(x0, .inr (9, [.ref xs, .int cn, .ref po, .ref ro, .ref cr, .ref gp, .ref nu, .ref wk])), (po, .inr (4, [.int 0, .long fx, .long fy, .long lx, .long ly, .ref su])), (su, .inr (8, [.ref asu])), (asu, aJ G 8 (dg S1))]
  refine j_if_ne (tgt := 18) X dX10_corner_5 (by decide) (fun c_5 => ?_) (fun c_5 => ?_)
  · skip
    rw [bI_0, Classical.not_not] at c_5
    refine j_aload_n X dX10_corner_18 rfl 0 rfl ?_
    refine j_get (v := .ref po) X dX10_corner_19 0 rfl 2 rfl in_X10_corner_X10 (by decide) fl_X10_corner_18 rfl ?_
    refine j_get (v := .int 0) X dX10_corner_22 1 rfl 0 rfl in_X10_corner_X4 (by decide) fl_X10_corner_214 rfl ?_
    refine j_sipush (v := 200) X dX10_corner_25 (by decide) ?_
    refine j_icmp_lt (tgt := 33) X dX10_corner_28 (by decide) (fun _ => ?_) (fun c9 => absurd c9 (by decide))
    refine j_aload_n X dX10_corner_33 rfl 0 rfl ?_
    refine j_get (v := .ref po) X dX10_corner_34 0 rfl 2 rfl in_X10_corner_X10 (by decide) fl_X10_corner_18 rfl ?_
    refine j_lload_n X dX10_corner_37 rfl 1 rfl ?_
    refine j_lload_n X dX10_corner_38 rfl 2 rfl ?_
    refine j_callV X dX10_corner_39 (c_X4_add_0 l G po su asu fx fy lx ly S1 x y) gX10_corner_X4_add rfl hy_X4_add_V ⟨Nat.le_of_ble_eq_true rfl, Nat.le_of_ble_eq_true rfl⟩ 0 rfl rfl [1, 2, 3] rfl (by decide) rfl rfl (Nat.le_of_ble_eq_true rfl) ⟨Nat.le_of_ble_eq_true rfl, Nat.le_of_ble_eq_true rfl⟩ ?_
    rintro _ ⟨⟩ rfl
    change J p l e rm_X10_corner s m args below meth c Q G A 5 0 0 42 [(0, .ref x0), (1, .long x), (3, .long y)] [] [(x0, .inr (9, [.ref xs, .int cn, .ref po, .ref ro, .ref cr, .ref gp, .ref nu, .ref wk])), (po, .inr (4, [.int 1, .long x, .long y, .long x, .long y, .ref su])), (su, .inr (8, [.ref asu])), (asu, aJ G 8 (dg S1))]
    refine j_iconst (v := 1) X dX10_corner_42 rfl ?_
    exact E.2.1 43 _ 1 () _ dX10_corner_43 rfl hr rfl
  · skip
    rw [bI_0] at c_5
    exfalso; omega

theorem hy_X10_corner_V : yX10_corner.cls = RX10 ∧ yX10_corner.cls ≠ "java/lang/invoke/MethodHandle" ∧ yX10_corner.cls ≠ "java/lang/invoke/VarHandle" ∧ (parseMethodDescriptor yX10_corner.desc).map (fun d => d.parameters.length) = some 2 := by decide +kernel
set_option maxHeartbeats 4000000 in
set_option maxRecDepth 100000 in
theorem c_X10_corner_n (l : Launch) (G : jG) (x0 xs po ro cr gp nu wk : Nat) (cn : Int32) (su asu : Nat) (fx fy lx ly : Int64) (S1 : Int) (x y : Int64) (C : Nat) (hC : 0 < C ∧ C < 200) (hly : inC ly.toInt) (hP : inC x.toInt ∧ inC y.toInt) : Ct l yX10_corner wsX10_corner rm_X10_corner G [.ref x0, .long x, .long y] [(x0, .inr (9, [.ref xs, .int cn, .ref po, .ref ro, .ref cr, .ref gp, .ref nu, .ref wk])), (po, .inr (4, [.int (nI C), .long fx, .long fy, .long lx, .long ly, .ref su])), (su, .inr (8, [.ref asu])), (asu, aJ G 8 (dg S1))] (S := Unit) (fun r _ => r = some (.int 1)) (fun _ => [(x0, .inr (9, [.ref xs, .int cn, .ref po, .ref ro, .ref cr, .ref gp, .ref nu, .ref wk])), (po, .inr (4, [.int (nI (C + 1)), .long fx, .long fy, .long x, .long y, .ref su])), (su, .inr (8, [.ref asu])), (asu, aJ G 8 (dg (S1 + (lx.toInt * y.toInt - ly.toInt * x.toInt))))]) (fun _ => []) := by
  refine c_intro (cc := cX10_corner) (maxL := 5) (ret := (some .boolean)) (by decide) rfl (Nat.le_of_ble_eq_true rfl) (fun _ => by simp only [List.map_cons, List.map_nil]) ?_
  intro p e s m args below meth c Q A X hr hin E
  change J p l e rm_X10_corner s m args below meth c Q G A 5 0 0 0 [(0, .ref x0), (1, .long x), (3, .long y)] [] [(x0, .inr (9, [.ref xs, .int cn, .ref po, .ref ro, .ref cr, .ref gp, .ref nu, .ref wk])), (po, .inr (4, [.int (nI C), .long fx, .long fy, .long lx, .long ly, .ref su])), (su, .inr (8, [.ref asu])), (asu, aJ G 8 (dg S1))]
  refine j_lload_n X dX10_corner_0 rfl 1 rfl ?_
  refine j_lload_n X dX10_corner_1 rfl 2 rfl ?_
  refine j_callS X dX10_corner_2 (c_X10_isPlace l G x y) gX10_corner_X10_isPlace rfl hy_X10_isPlace_S ⟨Nat.le_of_ble_eq_true rfl, Nat.le_of_ble_eq_true rfl⟩ [] rfl (by decide) rfl rfl (Nat.le_of_ble_eq_true rfl) ⟨Nat.le_of_ble_eq_true rfl, Nat.le_of_ble_eq_true rfl⟩ ?_
  rintro _ ⟨⟩ rfl
  change J p l e rm_X10_corner s m args below meth c Q G A 5 0 0 5 [(0, .ref x0), (1, .long x), (3, .long y)] [.int (bI (inC x.toInt ∧ inC y.toInt))] [(x0, .inr (9, [.ref xs, .int cn, .ref po, .ref ro, .ref cr, .ref gp, .ref nu, .ref wk])), (po, .inr (4, [.int (nI C), .long fx, .long fy, .long lx, .long ly, .ref su])), (su, .inr (8, [.ref asu])), (asu, aJ G 8 (dg S1))]
  refine j_if_ne (tgt := 18) X dX10_corner_5 (by decide) (fun c_5 => ?_) (fun c_5 => ?_)
  · skip
    rw [bI_0, Classical.not_not] at c_5
    refine j_aload_n X dX10_corner_18 rfl 0 rfl ?_
    refine j_get (v := .ref po) X dX10_corner_19 0 rfl 2 rfl in_X10_corner_X10 (by decide) fl_X10_corner_18 rfl ?_
    refine j_get (v := .int (nI C)) X dX10_corner_22 1 rfl 0 rfl in_X10_corner_X4 (by decide) fl_X10_corner_214 rfl ?_
    refine j_sipush (v := 200) X dX10_corner_25 (by decide) ?_
    refine j_icmp_lt (tgt := 33) X dX10_corner_28 (by decide) (fun c_28 => ?_) (fun c_28 => ?_)
    · skip
      first | simp only [cmp_eq, cmp_lt, cmp_ge, cmp_gt, cmp_le, lT0, lT1] at c_28 | simp only [Int32.le_iff_toInt_le, Int32.lt_iff_toInt_lt, ← Int32.toInt_inj, iT0, iT1, iT2, iT3, iT4, iT5, iT6, iT7, iT8, iT9, iT10, iT11, iT12, iT13, iT14, iT15, iT16, iT19, iT20, iT31, iT32, iT42, iT64, iT200, iT318, iT319, iT1000, iTm1, iTm2] at c_28
      rw [nI_T (show C < 2147483648 by omega)] at c_28
      refine j_aload_n X dX10_corner_33 rfl 0 rfl ?_
      refine j_get (v := .ref po) X dX10_corner_34 0 rfl 2 rfl in_X10_corner_X10 (by decide) fl_X10_corner_18 rfl ?_
      refine j_lload_n X dX10_corner_37 rfl 1 rfl ?_
      refine j_lload_n X dX10_corner_38 rfl 2 rfl ?_
      refine j_callV X dX10_corner_39 (c_X4_add_n l G po su asu fx fy lx ly S1 x y C hC hly) gX10_corner_X4_add rfl hy_X4_add_V ⟨Nat.le_of_ble_eq_true rfl, Nat.le_of_ble_eq_true rfl⟩ 0 rfl rfl [1, 2, 3] rfl (by decide) rfl rfl (Nat.le_of_ble_eq_true rfl) ⟨Nat.le_of_ble_eq_true rfl, Nat.le_of_ble_eq_true rfl⟩ ?_
      rintro _ ⟨⟩ rfl
      change J p l e rm_X10_corner s m args below meth c Q G A 5 0 0 42 [(0, .ref x0), (1, .long x), (3, .long y)] [] [(x0, .inr (9, [.ref xs, .int cn, .ref po, .ref ro, .ref cr, .ref gp, .ref nu, .ref wk])), (po, .inr (4, [.int (nI (C + 1)), .long fx, .long fy, .long x, .long y, .ref su])), (su, .inr (8, [.ref asu])), (asu, aJ G 8 (dg (S1 + (lx.toInt * y.toInt - ly.toInt * x.toInt))))]
      refine j_iconst (v := 1) X dX10_corner_42 rfl ?_
      exact E.2.1 43 _ 1 () _ dX10_corner_43 rfl hr rfl
    · skip
      first | simp only [cmp_eq, cmp_lt, cmp_ge, cmp_gt, cmp_le, lT0, lT1] at c_28 | simp only [Int32.le_iff_toInt_le, Int32.lt_iff_toInt_lt, ← Int32.toInt_inj, iT0, iT1, iT2, iT3, iT4, iT5, iT6, iT7, iT8, iT9, iT10, iT11, iT12, iT13, iT14, iT15, iT16, iT19, iT20, iT31, iT32, iT42, iT64, iT200, iT318, iT319, iT1000, iTm1, iTm2] at c_28
      rw [nI_T (show C < 2147483648 by omega)] at c_28
      exfalso; omega
  · skip
    rw [bI_0] at c_5
    exfalso; omega

abbrev rm_X10_corner_no : Room := { frames := 6, cells := 1, slots := 6, locals := 90 }
theorem ta_X10_corner_65 : (Cond.classLink RX10 65 eA ∈ wsX10_corner) ∧ (Cond.initialized eA ∈ wsX10_corner) := by decide +kernel
theorem tb_X10_corner_69 : ∀ w ∈ (vx_atS RX10 69 eA ["java/lang/RuntimeException", "java/lang/Exception"]).filter goodWord, w ∈ wsX10_corner := fun w h => List.mem_cons_of_mem _ (List.mem_append_right _ h)
set_option maxHeartbeats 4000000 in
set_option maxRecDepth 100000 in
theorem c_X10_corner_no (l : Launch) (G : jG) (hst : l.stackTraces = false) (x0 xs po ro cr gp nu wk : Nat) (cn : Int32) (x y : Int64) (hP : ¬ (inC x.toInt ∧ inC y.toInt)) : CtX l yX10_corner wsX10_corner rm_X10_corner_no G [.ref x0, .long x, .long y] [(x0, .inr (9, [.ref xs, .int cn, .ref po, .ref ro, .ref cr, .ref gp, .ref nu, .ref wk]))] eA (S := Unit) (fun _ => True) (fun _ => [(x0, .inr (9, [.ref xs, .int cn, .ref po, .ref ro, .ref cr, .ref gp, .ref nu, .ref wk]))]) := by
  refine c_introX (cc := cX10_corner) (maxL := 5) (ret := (some .boolean)) (by decide) rfl (Nat.le_of_ble_eq_true rfl) (fun _ => by simp only [List.map_cons, List.map_nil]) ?_
  intro p e s m args below meth c Q A hQ X XF hlk htb
  change J p l e rm_X10_corner_no s m args below meth c Q G A 5 0 0 0 [(0, .ref x0), (1, .long x), (3, .long y)] [] [(x0, .inr (9, [.ref xs, .int cn, .ref po, .ref ro, .ref cr, .ref gp, .ref nu, .ref wk]))]
  refine j_lload_n X dX10_corner_0 rfl 1 rfl ?_
  refine j_lload_n X dX10_corner_1 rfl 2 rfl ?_
  refine j_callS X dX10_corner_2 (c_X10_isPlace l G x y) gX10_corner_X10_isPlace rfl hy_X10_isPlace_S ⟨Nat.le_of_ble_eq_true rfl, Nat.le_of_ble_eq_true rfl⟩ [] rfl (by decide) rfl rfl (Nat.le_of_ble_eq_true rfl) ⟨Nat.le_of_ble_eq_true rfl, Nat.le_of_ble_eq_true rfl⟩ ?_
  rintro _ ⟨⟩ rfl
  change J p l e rm_X10_corner_no s m args below meth c Q G A 5 0 0 5 [(0, .ref x0), (1, .long x), (3, .long y)] [.int (bI (inC x.toInt ∧ inC y.toInt))] [(x0, .inr (9, [.ref xs, .int cn, .ref po, .ref ro, .ref cr, .ref gp, .ref nu, .ref wk]))]
  refine j_if_ne (tgt := 18) X dX10_corner_5 (by decide) (fun c_5 => ?_) (fun c_5 => ?_)
  · skip
    rw [bI_0, Classical.not_not] at c_5
    exfalso; omega
  · skip
    rw [bI_0] at c_5
    subst hQ
    exact j_throwS (cls := eA) (text := "no place") (names := ["java/lang/RuntimeException", "java/lang/Exception"]) X rfl hst XF hlk htb dX10_corner_8 dX10_corner_11 dX10_corner_12 dX10_corner_14 dX10_corner_17 (by decide +kernel) (by decide +kernel) ta_X10_corner_65.1 ta_X10_corner_65.2 (by decide +kernel) (by decide +kernel) tb_X10_corner_69 tc_69 td_69 (Nat.le_of_ble_eq_true rfl) (Nat.le_of_ble_eq_true rfl) (Nat.le_of_ble_eq_true rfl) (Nat.le_of_ble_eq_true rfl) () trivial rfl

abbrev rm_X10_area : Room := { frames := 4, cells := 0, slots := 0, locals := 117 }
theorem in_X10_area_X10 : ∀ w ∈ u_ws RX10 TX10 8, w ∈ wsX10_area := by decide +kernel
theorem fl_X10_area_18 : Cond.fieldLink RX10 18 (TX10 2).1 (TX10 2).2.1 (TX10 2).2.2.1 ∈ wsX10_area := by decide +kernel
theorem fl_X10_area_53 : Cond.fieldLink RX10 53 (TX10 7).1 (TX10 7).2.1 (TX10 7).2.2.1 ∈ wsX10_area := by decide +kernel
set_option maxHeartbeats 4000000 in
set_option maxRecDepth 100000 in
theorem c_X10_area_0 (l : Launch) (G : jG) (x0 xs po ro cr gp nu wk : Nat) (cn ct : Int32) (su asu : Nat) (fx fy lx ly : Int64) (S1 : Int) (awk : Nat) (fw : Nat → Int64) (li : Int32) (hly : -9223372036854775808 < ly.toInt) (hP : 0 ≤ li.toInt ∧ li.toInt < 4) : Ct l yX10_area wsX10_area rm_X10_area G [.ref x0, .int li] [(x0, .inr (9, [.ref xs, .int cn, .ref po, .ref ro, .ref cr, .ref gp, .ref nu, .ref wk])), (po, .inr (4, [.int ct, .long fx, .long fy, .long lx, .long ly, .ref su])), (su, .inr (8, [.ref asu])), (asu, aJ G 8 (dg S1)), (wk, .inr (8, [.ref awk])), (awk, aJ G 8 fw)] (S := Unit) (fun r _ => r = some (.long (dg (S1 + (lx.toInt * fy.toInt - ly.toInt * fx.toInt)) li.toInt.toNat))) (fun _ => [(x0, .inr (9, [.ref xs, .int cn, .ref po, .ref ro, .ref cr, .ref gp, .ref nu, .ref wk])), (po, .inr (4, [.int ct, .long fx, .long fy, .long lx, .long ly, .ref su])), (su, .inr (8, [.ref asu])), (asu, aJ G 8 (dg S1)), (wk, .inr (8, [.ref awk])), (awk, aJ G 8 (dg (S1 + (lx.toInt * fy.toInt - ly.toInt * fx.toInt))))]) (fun _ => []) := by
  refine c_intro (cc := cX10_area) (maxL := 2) (ret := (some .long)) (by decide) rfl (Nat.le_of_ble_eq_true rfl) (fun _ => by simp only [List.map_cons, List.map_nil]) ?_
  intro p e s m args below meth c Q A X hr hin E
  change J p l e rm_X10_area s m args below meth c Q G A 2 0 0 0 [(0, .ref x0), (1, .int li)] [] [(x0, .inr (9, [.ref xs, .int cn, .ref po, .ref ro, .ref cr, .ref gp, .ref nu, .ref wk])), (po, .inr (4, [.int ct, .long fx, .long fy, .long lx, .long ly, .ref su])), (su, .inr (8, [.ref asu])), (asu, aJ G 8 (dg S1)), (wk, .inr (8, [.ref awk])), (awk, aJ G 8 fw)]
  refine j_iload_n X dX10_area_0 rfl 1 rfl ?_
  refine j_if_lt (tgt := 9) X dX10_area_1 (by decide) (fun c_1 => ?_) (fun c_1 => ?_)
  · skip
    first | simp only [cmp_eq, cmp_lt, cmp_ge, cmp_gt, cmp_le, lT0, lT1] at c_1 | simp only [Int32.le_iff_toInt_le, Int32.lt_iff_toInt_lt, ← Int32.toInt_inj, iT0, iT1, iT2, iT3, iT4, iT5, iT6, iT7, iT8, iT9, iT10, iT11, iT12, iT13, iT14, iT15, iT16, iT19, iT20, iT31, iT32, iT42, iT64, iT200, iT318, iT319, iT1000, iTm1, iTm2] at c_1
    exfalso; omega
  · skip
    first | simp only [cmp_eq, cmp_lt, cmp_ge, cmp_gt, cmp_le, lT0, lT1] at c_1 | simp only [Int32.le_iff_toInt_le, Int32.lt_iff_toInt_lt, ← Int32.toInt_inj, iT0, iT1, iT2, iT3, iT4, iT5, iT6, iT7, iT8, iT9, iT10, iT11, iT12, iT13, iT14, iT15, iT16, iT19, iT20, iT31, iT32, iT42, iT64, iT200, iT318, iT319, iT1000, iTm1, iTm2] at c_1
    refine j_iload_n X dX10_area_4 rfl 1 rfl ?_
    refine j_iconst (v := 4) X dX10_area_5 rfl ?_
    refine j_icmp_lt (tgt := 19) X dX10_area_6 (by decide) (fun c_6 => ?_) (fun c_6 => ?_)
    · skip
      first | simp only [cmp_eq, cmp_lt, cmp_ge, cmp_gt, cmp_le, lT0, lT1] at c_6 | simp only [Int32.le_iff_toInt_le, Int32.lt_iff_toInt_lt, ← Int32.toInt_inj, iT0, iT1, iT2, iT3, iT4, iT5, iT6, iT7, iT8, iT9, iT10, iT11, iT12, iT13, iT14, iT15, iT16, iT19, iT20, iT31, iT32, iT42, iT64, iT200, iT318, iT319, iT1000, iTm1, iTm2] at c_6
      refine j_aload_n X dX10_area_19 rfl 0 rfl ?_
      refine j_get (v := .ref po) X dX10_area_20 0 rfl 2 rfl in_X10_area_X10 (by decide) fl_X10_area_18 rfl ?_
      refine j_aload_n X dX10_area_23 rfl 0 rfl ?_
      refine j_get (v := .ref wk) X dX10_area_24 0 rfl 7 rfl in_X10_area_X10 (by decide) fl_X10_area_53 rfl ?_
      refine j_callV X dX10_area_27 (c_X4_measureTwice l G po su asu fx fy lx ly wk awk fw ct S1 hly) gX10_area_X4_measureTwice rfl hy_X4_measureTwice_V ⟨Nat.le_of_ble_eq_true rfl, Nat.le_of_ble_eq_true rfl⟩ 0 rfl rfl [1, 2, 3, 4, 5] rfl (by decide) rfl rfl (Nat.le_of_ble_eq_true rfl) ⟨Nat.le_of_ble_eq_true rfl, Nat.le_of_ble_eq_true rfl⟩ ?_
      rintro _ ⟨⟩ rfl
      change J p l e rm_X10_area s m args below meth c Q G A 2 0 0 30 [(0, .ref x0), (1, .int li)] [] [(x0, .inr (9, [.ref xs, .int cn, .ref po, .ref ro, .ref cr, .ref gp, .ref nu, .ref wk])), (po, .inr (4, [.int ct, .long fx, .long fy, .long lx, .long ly, .ref su])), (su, .inr (8, [.ref asu])), (asu, aJ G 8 (dg S1)), (wk, .inr (8, [.ref awk])), (awk, aJ G 8 (dg (S1 + (lx.toInt * fy.toInt - ly.toInt * fx.toInt))))]
      refine j_aload_n X dX10_area_30 rfl 0 rfl ?_
      refine j_get (v := .ref wk) X dX10_area_31 0 rfl 7 rfl in_X10_area_X10 (by decide) fl_X10_area_53 rfl ?_
      refine j_iload_n X dX10_area_34 rfl 1 rfl ?_
      refine j_callV X dX10_area_35 (c_X9_limb l G wk awk (dg (S1 + (lx.toInt * fy.toInt - ly.toInt * fx.toInt))) li) gX10_area_X9_limb rfl hy_X9_limb_V ⟨Nat.le_of_ble_eq_true rfl, Nat.le_of_ble_eq_true rfl⟩ 0 rfl rfl [4, 5] rfl (by decide) rfl rfl (Nat.le_of_ble_eq_true rfl) ⟨Nat.le_of_ble_eq_true rfl, Nat.le_of_ble_eq_true rfl⟩ ?_
      rintro _ ⟨⟩ rfl
      change J p l e rm_X10_area s m args below meth c Q G A 2 0 0 38 [(0, .ref x0), (1, .int li)] [.long (if 0 ≤ li.toInt ∧ li.toInt < 8 then (dg (S1 + (lx.toInt * fy.toInt - ly.toInt * fx.toInt))) li.toInt.toNat else 0)] [(x0, .inr (9, [.ref xs, .int cn, .ref po, .ref ro, .ref cr, .ref gp, .ref nu, .ref wk])), (po, .inr (4, [.int ct, .long fx, .long fy, .long lx, .long ly, .ref su])), (su, .inr (8, [.ref asu])), (asu, aJ G 8 (dg S1)), (wk, .inr (8, [.ref awk])), (awk, aJ G 8 (dg (S1 + (lx.toInt * fy.toInt - ly.toInt * fx.toInt))))]
      refine j_topl (fun r_1 er_1 => ?_)
      exact E.2.2 38 _ r_1 () dX10_area_38 (by rw [er_1, if_pos (by omega)]) hr
    · skip
      first | simp only [cmp_eq, cmp_lt, cmp_ge, cmp_gt, cmp_le, lT0, lT1] at c_6 | simp only [Int32.le_iff_toInt_le, Int32.lt_iff_toInt_lt, ← Int32.toInt_inj, iT0, iT1, iT2, iT3, iT4, iT5, iT6, iT7, iT8, iT9, iT10, iT11, iT12, iT13, iT14, iT15, iT16, iT19, iT20, iT31, iT32, iT42, iT64, iT200, iT318, iT319, iT1000, iTm1, iTm2] at c_6
      exfalso; omega

theorem hy_X10_area_V : yX10_area.cls = RX10 ∧ yX10_area.cls ≠ "java/lang/invoke/MethodHandle" ∧ yX10_area.cls ≠ "java/lang/invoke/VarHandle" ∧ (parseMethodDescriptor yX10_area.desc).map (fun d => d.parameters.length) = some 1 := by decide +kernel
abbrev rm_X10_area_1 : Room := { frames := 6, cells := 1, slots := 6, locals := 90 }
theorem ta_X10_area_109 : (Cond.classLink RX10 109 eB ∈ wsX10_area) ∧ (Cond.initialized eB ∈ wsX10_area) := by decide +kernel
theorem tb_X10_area_113 : ∀ w ∈ (vx_atS RX10 113 eB ["java/lang/RuntimeException", "java/lang/Exception"]).filter goodWord, w ∈ wsX10_area := fun w h => List.mem_cons_of_mem _ (List.mem_append_right _ h)
set_option maxHeartbeats 4000000 in
set_option maxRecDepth 100000 in
theorem c_X10_area_1 (l : Launch) (G : jG) (hst : l.stackTraces = false) (x0 xs po ro cr gp nu wk : Nat) (cn : Int32) (li : Int32) (hP : ¬ (0 ≤ li.toInt ∧ li.toInt < 4)) : CtX l yX10_area wsX10_area rm_X10_area_1 G [.ref x0, .int li] [(x0, .inr (9, [.ref xs, .int cn, .ref po, .ref ro, .ref cr, .ref gp, .ref nu, .ref wk]))] eB (S := Unit) (fun _ => True) (fun _ => [(x0, .inr (9, [.ref xs, .int cn, .ref po, .ref ro, .ref cr, .ref gp, .ref nu, .ref wk]))]) := by
  refine c_introX (cc := cX10_area) (maxL := 2) (ret := (some .long)) (by decide) rfl (Nat.le_of_ble_eq_true rfl) (fun _ => by simp only [List.map_cons, List.map_nil]) ?_
  intro p e s m args below meth c Q A hQ X XF hlk htb
  change J p l e rm_X10_area_1 s m args below meth c Q G A 2 0 0 0 [(0, .ref x0), (1, .int li)] [] [(x0, .inr (9, [.ref xs, .int cn, .ref po, .ref ro, .ref cr, .ref gp, .ref nu, .ref wk]))]
  refine j_iload_n X dX10_area_0 rfl 1 rfl ?_
  refine j_if_lt (tgt := 9) X dX10_area_1 (by decide) (fun c_1 => ?_) (fun c_1 => ?_)
  · skip
    first | simp only [cmp_eq, cmp_lt, cmp_ge, cmp_gt, cmp_le, lT0, lT1] at c_1 | simp only [Int32.le_iff_toInt_le, Int32.lt_iff_toInt_lt, ← Int32.toInt_inj, iT0, iT1, iT2, iT3, iT4, iT5, iT6, iT7, iT8, iT9, iT10, iT11, iT12, iT13, iT14, iT15, iT16, iT19, iT20, iT31, iT32, iT42, iT64, iT200, iT318, iT319, iT1000, iTm1, iTm2] at c_1
    subst hQ
    exact j_throwS (cls := eB) (text := "no such limb") (names := ["java/lang/RuntimeException", "java/lang/Exception"]) X rfl hst XF hlk htb dX10_area_9 dX10_area_12 dX10_area_13 dX10_area_15 dX10_area_18 (by decide +kernel) (by decide +kernel) ta_X10_area_109.1 ta_X10_area_109.2 (by decide +kernel) (by decide +kernel) tb_X10_area_113 tc_113 td_113 (Nat.le_of_ble_eq_true rfl) (Nat.le_of_ble_eq_true rfl) (Nat.le_of_ble_eq_true rfl) (Nat.le_of_ble_eq_true rfl) () trivial rfl
  · skip
    first | simp only [cmp_eq, cmp_lt, cmp_ge, cmp_gt, cmp_le, lT0, lT1] at c_1 | simp only [Int32.le_iff_toInt_le, Int32.lt_iff_toInt_lt, ← Int32.toInt_inj, iT0, iT1, iT2, iT3, iT4, iT5, iT6, iT7, iT8, iT9, iT10, iT11, iT12, iT13, iT14, iT15, iT16, iT19, iT20, iT31, iT32, iT42, iT64, iT200, iT318, iT319, iT1000, iTm1, iTm2] at c_1
    refine j_iload_n X dX10_area_4 rfl 1 rfl ?_
    refine j_iconst (v := 4) X dX10_area_5 rfl ?_
    refine j_icmp_lt (tgt := 19) X dX10_area_6 (by decide) (fun c_6 => ?_) (fun c_6 => ?_)
    · skip
      first | simp only [cmp_eq, cmp_lt, cmp_ge, cmp_gt, cmp_le, lT0, lT1] at c_6 | simp only [Int32.le_iff_toInt_le, Int32.lt_iff_toInt_lt, ← Int32.toInt_inj, iT0, iT1, iT2, iT3, iT4, iT5, iT6, iT7, iT8, iT9, iT10, iT11, iT12, iT13, iT14, iT15, iT16, iT19, iT20, iT31, iT32, iT42, iT64, iT200, iT318, iT319, iT1000, iTm1, iTm2] at c_6
      exfalso; omega
    · skip
      first | simp only [cmp_eq, cmp_lt, cmp_ge, cmp_gt, cmp_le, lT0, lT1] at c_6 | simp only [Int32.le_iff_toInt_le, Int32.lt_iff_toInt_lt, ← Int32.toInt_inj, iT0, iT1, iT2, iT3, iT4, iT5, iT6, iT7, iT8, iT9, iT10, iT11, iT12, iT13, iT14, iT15, iT16, iT19, iT20, iT31, iT32, iT42, iT64, iT200, iT318, iT319, iT1000, iTm1, iTm2] at c_6
      subst hQ
      exact j_throwS (cls := eB) (text := "no such limb") (names := ["java/lang/RuntimeException", "java/lang/Exception"]) X rfl hst XF hlk htb dX10_area_9 dX10_area_12 dX10_area_13 dX10_area_15 dX10_area_18 (by decide +kernel) (by decide +kernel) ta_X10_area_109.1 ta_X10_area_109.2 (by decide +kernel) (by decide +kernel) tb_X10_area_113 tc_113 td_113 (Nat.le_of_ble_eq_true rfl) (Nat.le_of_ble_eq_true rfl) (Nat.le_of_ble_eq_true rfl) (Nat.le_of_ble_eq_true rfl) () trivial rfl

abbrev rm_X10_clear : Room := { frames := 2, cells := 0, slots := 0, locals := 45 }
theorem in_X10_clear_X10 : ∀ w ∈ u_ws RX10 TX10 8, w ∈ wsX10_clear := by decide +kernel
theorem fl_X10_clear_57 : Cond.fieldLink RX10 57 (TX10 1).1 (TX10 1).2.1 (TX10 1).2.2.1 ∈ wsX10_clear := by decide +kernel
theorem fl_X10_clear_18 : Cond.fieldLink RX10 18 (TX10 2).1 (TX10 2).2.1 (TX10 2).2.2.1 ∈ wsX10_clear := by decide +kernel
theorem fl_X10_clear_32 : Cond.fieldLink RX10 32 (TX10 4).1 (TX10 4).2.1 (TX10 4).2.2.1 ∈ wsX10_clear := by decide +kernel
set_option maxHeartbeats 4000000 in
set_option maxRecDepth 100000 in
theorem c_X10_clear (l : Launch) (G : jG) (x0 xs po ro cr gp nu wk : Nat) (cn : Int32) (su asu : Nat) (pct : Int32) (fx fy lx ly : Int64) (fs1 : Nat → Int64) (c1 c2 c3 c4 c5 c6 c7 c8 c9 c10 : Nat) (md ct : Int32) (bsx bsy : Int64) : Ct l yX10_clear wsX10_clear rm_X10_clear G [.ref x0] [(x0, .inr (9, [.ref xs, .int cn, .ref po, .ref ro, .ref cr, .ref gp, .ref nu, .ref wk])), (po, .inr (4, [.int pct, .long fx, .long fy, .long lx, .long ly, .ref su])), (su, .inr (8, [.ref asu])), (asu, aJ G 8 fs1), (cr, .inr (1, [.ref c1, .int md, .int ct, .long bsx, .long bsy, .ref c2, .ref c3, .ref c4, .ref c5, .ref c6, .ref c7, .ref c8, .ref c9, .ref c10]))] (S := Unit) (fun r _ => r = none) (fun _ => [(x0, .inr (9, [.ref xs, .int 0, .ref po, .ref ro, .ref cr, .ref gp, .ref nu, .ref wk])), (po, .inr (4, [.int 0, .long 0, .long 0, .long 0, .long 0, .ref su])), (su, .inr (8, [.ref asu])), (asu, aJ G 8 (dg 0)), (cr, .inr (1, [.ref c1, .int 0, .int 0, .long bsx, .long bsy, .ref c2, .ref c3, .ref c4, .ref c5, .ref c6, .ref c7, .ref c8, .ref c9, .ref c10]))]) (fun _ => []) := by
  refine c_intro (cc := cX10_clear) (maxL := 1) (ret := none) (by decide) rfl (Nat.le_of_ble_eq_true rfl) (fun _ => by simp only [List.map_cons, List.map_nil]) ?_
  intro p e s m args below meth c Q A X hr hin E
  change J p l e rm_X10_clear s m args below meth c Q G A 1 0 0 0 [(0, .ref x0)] [] [(x0, .inr (9, [.ref xs, .int cn, .ref po, .ref ro, .ref cr, .ref gp, .ref nu, .ref wk])), (po, .inr (4, [.int pct, .long fx, .long fy, .long lx, .long ly, .ref su])), (su, .inr (8, [.ref asu])), (asu, aJ G 8 fs1), (cr, .inr (1, [.ref c1, .int md, .int ct, .long bsx, .long bsy, .ref c2, .ref c3, .ref c4, .ref c5, .ref c6, .ref c7, .ref c8, .ref c9, .ref c10]))]
  refine j_aload_n X dX10_clear_0 rfl 0 rfl ?_
  refine j_iconst (v := 0) X dX10_clear_1 rfl ?_
  refine j_put (ws' := [(x0, .inr (9, [.ref xs, .int 0, .ref po, .ref ro, .ref cr, .ref gp, .ref nu, .ref wk])), (po, .inr (4, [.int pct, .long fx, .long fy, .long lx, .long ly, .ref su])), (su, .inr (8, [.ref asu])), (asu, aJ G 8 fs1), (cr, .inr (1, [.ref c1, .int md, .int ct, .long bsx, .long bsy, .ref c2, .ref c3, .ref c4, .ref c5, .ref c6, .ref c7, .ref c8, .ref c9, .ref c10]))]) X dX10_clear_2 0 rfl 1 rfl in_X10_clear_X10 tyX10 tyX10_ok nmX10 (by decide) fl_X10_clear_57 rfl rfl rfl rfl (Nat.le_of_ble_eq_true rfl) rfl ?_
  refine j_aload_n X dX10_clear_5 rfl 0 rfl ?_
  refine j_get (v := .ref po) X dX10_clear_6 0 rfl 2 rfl in_X10_clear_X10 (by decide) fl_X10_clear_18 rfl ?_
  refine j_callV X dX10_clear_9 (c_X4_forget l G po su asu fx fy lx ly pct fs1) gX10_clear_X4_forget rfl hy_X4_forget_V ⟨Nat.le_of_ble_eq_true rfl, Nat.le_of_ble_eq_true rfl⟩ 0 rfl rfl [1, 2, 3] rfl (by decide) rfl rfl (Nat.le_of_ble_eq_true rfl) ⟨Nat.le_of_ble_eq_true rfl, Nat.le_of_ble_eq_true rfl⟩ ?_
  rintro _ ⟨⟩ rfl
  change J p l e rm_X10_clear s m args below meth c Q G A 1 0 0 12 [(0, .ref x0)] [] [(x0, .inr (9, [.ref xs, .int 0, .ref po, .ref ro, .ref cr, .ref gp, .ref nu, .ref wk])), (po, .inr (4, [.int 0, .long 0, .long 0, .long 0, .long 0, .ref su])), (su, .inr (8, [.ref asu])), (asu, aJ G 8 (dg 0)), (cr, .inr (1, [.ref c1, .int md, .int ct, .long bsx, .long bsy, .ref c2, .ref c3, .ref c4, .ref c5, .ref c6, .ref c7, .ref c8, .ref c9, .ref c10]))]
  refine j_aload_n X dX10_clear_12 rfl 0 rfl ?_
  refine j_get (v := .ref cr) X dX10_clear_13 0 rfl 4 rfl in_X10_clear_X10 (by decide) fl_X10_clear_32 rfl ?_
  refine j_callV X dX10_clear_16 (c_X1_forget l G cr c1 c2 c3 c4 c5 c6 c7 c8 c9 c10 md ct bsx bsy) gX10_clear_X1_forget rfl hy_X1_forget_V ⟨Nat.le_of_ble_eq_true rfl, Nat.le_of_ble_eq_true rfl⟩ 0 rfl rfl [4] rfl (by decide) rfl rfl (Nat.le_of_ble_eq_true rfl) ⟨Nat.le_of_ble_eq_true rfl, Nat.le_of_ble_eq_true rfl⟩ ?_
  rintro _ ⟨⟩ rfl
  change J p l e rm_X10_clear s m args below meth c Q G A 1 0 0 19 [(0, .ref x0)] [] [(x0, .inr (9, [.ref xs, .int 0, .ref po, .ref ro, .ref cr, .ref gp, .ref nu, .ref wk])), (po, .inr (4, [.int 0, .long 0, .long 0, .long 0, .long 0, .ref su])), (su, .inr (8, [.ref asu])), (asu, aJ G 8 (dg 0)), (cr, .inr (1, [.ref c1, .int 0, .int 0, .long bsx, .long bsy, .ref c2, .ref c3, .ref c4, .ref c5, .ref c6, .ref c7, .ref c8, .ref c9, .ref c10]))]
  exact E.1 19 _ () dX10_clear_19 rfl hr

theorem hy_X10_clear_V : yX10_clear.cls = RX10 ∧ yX10_clear.cls ≠ "java/lang/invoke/MethodHandle" ∧ yX10_clear.cls ≠ "java/lang/invoke/VarHandle" ∧ (parseMethodDescriptor yX10_clear.desc).map (fun d => d.parameters.length) = some 0 := by decide +kernel
