abbrev rm_X10_shapeOf : Room := { frames := 0, cells := 0, slots := 0, locals := 0 }
theorem in_X10_shapeOf_X10 : ∀ w ∈ u_ws RX10 TX10 8, w ∈ wsX10_shapeOf := by decide +kernel
theorem fl_X10_shapeOf_57 : Cond.fieldLink RX10 57 (TX10 1).1 (TX10 1).2.1 (TX10 1).2.2.1 ∈ wsX10_shapeOf := by decide +kernel
theorem fl_X10_shapeOf_11 : Cond.fieldLink RX10 11 (TX10 0).1 (TX10 0).2.1 (TX10 0).2.2.1 ∈ wsX10_shapeOf := by decide +kernel
set_option maxHeartbeats 4000000 in
set_option maxRecDepth 100000 in
theorem c_X10_shapeOf (l : Launch) (G : jG) (x0 xs po ro cr gp nu wk : Nat) (f : Nat → Option Nat) (N : Nat) (gN : N ≤ 200) (x1 : Int32) (oo : Option Nat) (ho : shO f N x1 = oo) : Ct l yX10_shapeOf wsX10_shapeOf rm_X10_shapeOf G [.ref x0, .int x1] [(x0, .inr (9, [.ref xs, .int (nI N), .ref po, .ref ro, .ref cr, .ref gp, .ref nu, .ref wk])), (xs, aS G 200 f)] (S := Unit) (fun r _ => r = some (va_rf oo)) (fun _ => [(x0, .inr (9, [.ref xs, .int (nI N), .ref po, .ref ro, .ref cr, .ref gp, .ref nu, .ref wk])), (xs, aS G 200 f)]) (fun _ => []) := by
  refine c_introR (cc := cX10_shapeOf) (maxL := 2) (ret := (some (.object "NanoSigns$Shape"))) (by decide) rfl (Nat.le_of_ble_eq_true rfl) (fun _ => by simp only [List.map_cons, List.map_nil]) ?_
  intro p e s m args below meth c Q A X hr hin E
  change J p l e rm_X10_shapeOf s m args below meth c Q G A 2 0 0 0 [(0, .ref x0), (1, .int x1)] [] [(x0, .inr (9, [.ref xs, .int (nI N), .ref po, .ref ro, .ref cr, .ref gp, .ref nu, .ref wk])), (xs, aS G 200 f)]
  subst ho
  refine j_iload_n X dX10_shapeOf_0 rfl 1 rfl ?_
  refine j_if_lt (tgt := 30) X dX10_shapeOf_1 (by decide) (fun c_1 => ?_) (fun c_1 => ?_)
  · skip
    first | simp only [cmp_eq, cmp_lt, cmp_ge, cmp_gt, cmp_le, lT0, lT1] at c_1 | simp only [Int32.le_iff_toInt_le, Int32.lt_iff_toInt_lt, ← Int32.toInt_inj, iT0, iT1, iT2, iT3, iT4, iT5, iT6, iT7, iT8, iT9, iT10, iT11, iT12, iT13, iT14, iT15, iT16, iT19, iT20, iT31, iT32, iT42, iT64, iT200, iT318, iT319, iT1000, iTm1, iTm2] at c_1
    refine j_null X dX10_shapeOf_30 ?_
    exact E 31 _ (.null) () _ dX10_shapeOf_31 (Or.inl rfl) (by rw [shO_n (by omega)]; rfl) hr
  · skip
    first | simp only [cmp_eq, cmp_lt, cmp_ge, cmp_gt, cmp_le, lT0, lT1] at c_1 | simp only [Int32.le_iff_toInt_le, Int32.lt_iff_toInt_lt, ← Int32.toInt_inj, iT0, iT1, iT2, iT3, iT4, iT5, iT6, iT7, iT8, iT9, iT10, iT11, iT12, iT13, iT14, iT15, iT16, iT19, iT20, iT31, iT32, iT42, iT64, iT200, iT318, iT319, iT1000, iTm1, iTm2] at c_1
    refine j_iload_n X dX10_shapeOf_4 rfl 1 rfl ?_
    refine j_aload_n X dX10_shapeOf_5 rfl 0 rfl ?_
    refine j_get (v := .int (nI N)) X dX10_shapeOf_6 0 rfl 1 rfl in_X10_shapeOf_X10 (by decide) fl_X10_shapeOf_57 rfl ?_
    refine j_icmp_ge (tgt := 30) X dX10_shapeOf_9 (by decide) (fun c_9 => ?_) (fun c_9 => ?_)
    · skip
      first | simp only [cmp_eq, cmp_lt, cmp_ge, cmp_gt, cmp_le, lT0, lT1] at c_9 | simp only [Int32.le_iff_toInt_le, Int32.lt_iff_toInt_lt, ← Int32.toInt_inj, iT0, iT1, iT2, iT3, iT4, iT5, iT6, iT7, iT8, iT9, iT10, iT11, iT12, iT13, iT14, iT15, iT16, iT19, iT20, iT31, iT32, iT42, iT64, iT200, iT318, iT319, iT1000, iTm1, iTm2] at c_9
      rw [nI_T (show N < 2147483648 by omega)] at c_9
      refine j_null X dX10_shapeOf_30 ?_
      exact E 31 _ (.null) () _ dX10_shapeOf_31 (Or.inl rfl) (by rw [shO_n (by omega)]; rfl) hr
    · skip
      first | simp only [cmp_eq, cmp_lt, cmp_ge, cmp_gt, cmp_le, lT0, lT1] at c_9 | simp only [Int32.le_iff_toInt_le, Int32.lt_iff_toInt_lt, ← Int32.toInt_inj, iT0, iT1, iT2, iT3, iT4, iT5, iT6, iT7, iT8, iT9, iT10, iT11, iT12, iT13, iT14, iT15, iT16, iT19, iT20, iT31, iT32, iT42, iT64, iT200, iT318, iT319, iT1000, iTm1, iTm2] at c_9
      rw [nI_T (show N < 2147483648 by omega)] at c_9
      refine j_iload_n X dX10_shapeOf_12 rfl 1 rfl ?_
      refine j_aload_n X dX10_shapeOf_13 rfl 0 rfl ?_
      refine j_get (v := .ref xs) X dX10_shapeOf_14 0 rfl 0 rfl in_X10_shapeOf_X10 (by decide) fl_X10_shapeOf_11 rfl ?_
      refine j_alenS (v := 200) X dX10_shapeOf_17 1 rfl rfl ?_
      refine j_icmp_ge (tgt := 30) X dX10_shapeOf_18 (by decide) (fun c_18 => ?_) (fun c_18 => ?_)
      · skip
        first | simp only [cmp_eq, cmp_lt, cmp_ge, cmp_gt, cmp_le, lT0, lT1] at c_18 | simp only [Int32.le_iff_toInt_le, Int32.lt_iff_toInt_lt, ← Int32.toInt_inj, iT0, iT1, iT2, iT3, iT4, iT5, iT6, iT7, iT8, iT9, iT10, iT11, iT12, iT13, iT14, iT15, iT16, iT19, iT20, iT31, iT32, iT42, iT64, iT200, iT318, iT319, iT1000, iTm1, iTm2] at c_18
        refine j_null X dX10_shapeOf_30 ?_
        exact E 31 _ (.null) () _ dX10_shapeOf_31 (Or.inl rfl) (by rw [shO_n (by omega)]; rfl) hr
      · skip
        first | simp only [cmp_eq, cmp_lt, cmp_ge, cmp_gt, cmp_le, lT0, lT1] at c_18 | simp only [Int32.le_iff_toInt_le, Int32.lt_iff_toInt_lt, ← Int32.toInt_inj, iT0, iT1, iT2, iT3, iT4, iT5, iT6, iT7, iT8, iT9, iT10, iT11, iT12, iT13, iT14, iT15, iT16, iT19, iT20, iT31, iT32, iT42, iT64, iT200, iT318, iT319, iT1000, iTm1, iTm2] at c_18
        refine j_aload_n X dX10_shapeOf_21 rfl 0 rfl ?_
        refine j_get (v := .ref xs) X dX10_shapeOf_22 0 rfl 0 rfl in_X10_shapeOf_X10 (by decide) fl_X10_shapeOf_11 rfl ?_
        refine j_iload_n X dX10_shapeOf_25 rfl 1 rfl ?_
        refine j_aald (v := va_rf (f x1.toInt.toNat)) X dX10_shapeOf_26 1 rfl (i_nI (by omega) (by omega)) (by omega) (by decide) rfl ?_
        refine j_goto (tgt := 31) X dX10_shapeOf_27 (by decide) ?_
        exact E 31 _ (va_rf (f x1.toInt.toNat)) () _ dX10_shapeOf_31 (va_rf_or _) (by rw [shO_y (by omega)]) hr

theorem hy_X10_shapeOf_V : yX10_shapeOf.cls = RX10 ∧ yX10_shapeOf.cls ≠ "java/lang/invoke/MethodHandle" ∧ yX10_shapeOf.cls ≠ "java/lang/invoke/VarHandle" ∧ (parseMethodDescriptor yX10_shapeOf.desc).map (fun d => d.parameters.length) = some 1 := by decide +kernel
abbrev rm_X10_keep : Room := { frames := 0, cells := 0, slots := 0, locals := 0 }
theorem in_X10_keep_X10 : ∀ w ∈ u_ws RX10 TX10 8, w ∈ wsX10_keep := by decide +kernel
theorem fl_X10_keep_57 : Cond.fieldLink RX10 57 (TX10 1).1 (TX10 1).2.1 (TX10 1).2.2.1 ∈ wsX10_keep := by decide +kernel
theorem fl_X10_keep_11 : Cond.fieldLink RX10 11 (TX10 0).1 (TX10 0).2.1 (TX10 0).2.2.1 ∈ wsX10_keep := by decide +kernel
set_option maxHeartbeats 4000000 in
set_option maxRecDepth 100000 in
theorem c_X10_keep_s (l : Launch) (G : jG) (x0 xs po ro cr gp nu wk : Nat) (f : Nat → Option Nat) (N : Nat) (gN : N < 200) (s0 : Nat) (sax say sbx sby sdx sdy : Int64)  : Cf l yX10_keep wsX10_keep rm_X10_keep G [.ref x0, .ref s0] [(x0, .inr (9, [.ref xs, .int (nI N), .ref po, .ref ro, .ref cr, .ref gp, .ref nu, .ref wk])), (xs, aS G 200 f), (s0, .inr (7, [.long sax, .long say, .long sbx, .long sby, .long sdx, .long sdy]))] (S := Unit) (fun r _ => r = some (.int (nI N))) (fun _ => [(x0, .inr (9, [.ref xs, .int (nI (N + 1)), .ref po, .ref ro, .ref cr, .ref gp, .ref nu, .ref wk])), (xs, aS G 200 (va_up f N (some s0))), (s0, .inr (7, [.long sax, .long say, .long sbx, .long sby, .long sdx, .long sdy]))]) (fun _ => []) := by
  refine cf_intro (cc := cX10_keep) (maxL := 2) (ret := (some .int)) (by decide) rfl (Nat.le_of_ble_eq_true rfl) (fun _ => by simp only [List.map_cons, List.map_nil]) ?_
  intro p e s m args below meth c Q A X XF hr hin E
  change J p l e rm_X10_keep s m args below meth c Q G A 2 0 0 0 [(0, .ref x0), (1, .ref s0)] [] [(x0, .inr (9, [.ref xs, .int (nI N), .ref po, .ref ro, .ref cr, .ref gp, .ref nu, .ref wk])), (xs, aS G 200 f), (s0, .inr (7, [.long sax, .long say, .long sbx, .long sby, .long sdx, .long sdy]))]
  refine j_aload_n X dX10_keep_0 rfl 0 rfl ?_
  refine j_get (v := .int (nI N)) X dX10_keep_1 0 rfl 1 rfl in_X10_keep_X10 (by decide) fl_X10_keep_57 rfl ?_
  refine j_if_lt (tgt := 19) X dX10_keep_4 (by decide) (fun c_4 => ?_) (fun c_4 => ?_)
  · skip
    exact absurd c_4 (nI_pos (by omega))
  · skip
    refine j_aload_n X dX10_keep_7 rfl 0 rfl ?_
    refine j_get (v := .int (nI N)) X dX10_keep_8 0 rfl 1 rfl in_X10_keep_X10 (by decide) fl_X10_keep_57 rfl ?_
    refine j_aload_n X dX10_keep_11 rfl 0 rfl ?_
    refine j_get (v := .ref xs) X dX10_keep_12 0 rfl 0 rfl in_X10_keep_X10 (by decide) fl_X10_keep_11 rfl ?_
    refine j_alenS (v := 200) X dX10_keep_15 1 rfl rfl ?_
    refine j_icmp_lt (tgt := 21) X dX10_keep_16 (by decide) (fun c_16 => ?_) (fun c_16 => ?_)
    · skip
      refine j_aload_n X dX10_keep_21 rfl 0 rfl ?_
      refine j_get (v := .ref xs) X dX10_keep_22 0 rfl 0 rfl in_X10_keep_X10 (by decide) fl_X10_keep_11 rfl ?_
      refine j_aload_n X dX10_keep_25 rfl 0 rfl ?_
      refine j_get (v := .int (nI N)) X dX10_keep_26 0 rfl 1 rfl in_X10_keep_X10 (by decide) fl_X10_keep_57 rfl ?_
      refine j_aload_n X dX10_keep_29 rfl 1 rfl ?_
      refine j_aast (ws' := [(x0, .inr (9, [.ref xs, .int (nI N), .ref po, .ref ro, .ref cr, .ref gp, .ref nu, .ref wk])), (xs, aS G 200 (va_up f N (some s0))), (s0, .inr (7, [.long sax, .long say, .long sbx, .long sby, .long sdx, .long sdy]))]) X dX10_keep_30 1 rfl 2 rfl rfl (XF.2.2.1 (RX7, "NanoSigns$Shape") (by decide +kernel)) rfl (by omega) (by decide) rfl ?_
      refine j_aload_n X dX10_keep_31 rfl 0 rfl ?_
      refine j_dup X dX10_keep_32 rfl ?_
      refine j_get (v := .int (nI N)) X dX10_keep_33 0 rfl 1 rfl in_X10_keep_X10 (by decide) fl_X10_keep_57 rfl ?_
      refine j_iconst (v := 1) X dX10_keep_36 rfl ?_
      refine j_iadd X dX10_keep_37 ?_
      rw [nI_s (by omega)]
      refine j_put (ws' := [(x0, .inr (9, [.ref xs, .int (nI (N + 1)), .ref po, .ref ro, .ref cr, .ref gp, .ref nu, .ref wk])), (xs, aS G 200 (va_up f N (some s0))), (s0, .inr (7, [.long sax, .long say, .long sbx, .long sby, .long sdx, .long sdy]))]) X dX10_keep_38 0 rfl 1 rfl in_X10_keep_X10 tyX10 tyX10_ok nmX10 (by decide) fl_X10_keep_57 rfl rfl rfl rfl (Nat.le_of_ble_eq_true rfl) rfl ?_
      refine j_aload_n X dX10_keep_41 rfl 0 rfl ?_
      refine j_get (v := .int (nI (N + 1))) X dX10_keep_42 0 rfl 1 rfl in_X10_keep_X10 (by decide) fl_X10_keep_57 rfl ?_
      refine j_iconst (v := 1) X dX10_keep_45 rfl ?_
      refine j_isub X dX10_keep_46 ?_
      exact E.2.1 47 _ ((nI (N + 1)) - 1) () _ dX10_keep_47 (by rw [nI_pred]) hr rfl
    · skip
      first | simp only [cmp_eq, cmp_lt, cmp_ge, cmp_gt, cmp_le, lT0, lT1] at c_16 | simp only [Int32.le_iff_toInt_le, Int32.lt_iff_toInt_lt, ← Int32.toInt_inj, iT0, iT1, iT2, iT3, iT4, iT5, iT6, iT7, iT8, iT9, iT10, iT11, iT12, iT13, iT14, iT15, iT16, iT19, iT20, iT31, iT32, iT42, iT64, iT200, iT318, iT319, iT1000, iTm1, iTm2] at c_16
      rw [nI_T (show N < 2147483648 by omega)] at c_16
      exfalso; omega

theorem hy_X10_keep_V : yX10_keep.cls = RX10 ∧ yX10_keep.cls ≠ "java/lang/invoke/MethodHandle" ∧ yX10_keep.cls ≠ "java/lang/invoke/VarHandle" ∧ (parseMethodDescriptor yX10_keep.desc).map (fun d => d.parameters.length) = some 1 := by decide +kernel
set_option maxHeartbeats 4000000 in
set_option maxRecDepth 100000 in
theorem c_X10_keep_a (l : Launch) (G : jG) (x0 xs po ro cr gp nu wk : Nat) (f : Nat → Option Nat) (N : Nat) (gN : N < 200) (p0 : Nat) (pcx pcy pr : Int64) (pf pt : Int32)  : Cf l yX10_keep wsX10_keep rm_X10_keep G [.ref x0, .ref p0] [(x0, .inr (9, [.ref xs, .int (nI N), .ref po, .ref ro, .ref cr, .ref gp, .ref nu, .ref wk])), (xs, aS G 200 f), (p0, .inr (0, [.long pcx, .long pcy, .long pr, .int pf, .int pt]))] (S := Unit) (fun r _ => r = some (.int (nI N))) (fun _ => [(x0, .inr (9, [.ref xs, .int (nI (N + 1)), .ref po, .ref ro, .ref cr, .ref gp, .ref nu, .ref wk])), (xs, aS G 200 (va_up f N (some p0))), (p0, .inr (0, [.long pcx, .long pcy, .long pr, .int pf, .int pt]))]) (fun _ => []) := by
  refine cf_intro (cc := cX10_keep) (maxL := 2) (ret := (some .int)) (by decide) rfl (Nat.le_of_ble_eq_true rfl) (fun _ => by simp only [List.map_cons, List.map_nil]) ?_
  intro p e s m args below meth c Q A X XF hr hin E
  change J p l e rm_X10_keep s m args below meth c Q G A 2 0 0 0 [(0, .ref x0), (1, .ref p0)] [] [(x0, .inr (9, [.ref xs, .int (nI N), .ref po, .ref ro, .ref cr, .ref gp, .ref nu, .ref wk])), (xs, aS G 200 f), (p0, .inr (0, [.long pcx, .long pcy, .long pr, .int pf, .int pt]))]
  refine j_aload_n X dX10_keep_0 rfl 0 rfl ?_
  refine j_get (v := .int (nI N)) X dX10_keep_1 0 rfl 1 rfl in_X10_keep_X10 (by decide) fl_X10_keep_57 rfl ?_
  refine j_if_lt (tgt := 19) X dX10_keep_4 (by decide) (fun c_4 => ?_) (fun c_4 => ?_)
  · skip
    exact absurd c_4 (nI_pos (by omega))
  · skip
    refine j_aload_n X dX10_keep_7 rfl 0 rfl ?_
    refine j_get (v := .int (nI N)) X dX10_keep_8 0 rfl 1 rfl in_X10_keep_X10 (by decide) fl_X10_keep_57 rfl ?_
    refine j_aload_n X dX10_keep_11 rfl 0 rfl ?_
    refine j_get (v := .ref xs) X dX10_keep_12 0 rfl 0 rfl in_X10_keep_X10 (by decide) fl_X10_keep_11 rfl ?_
    refine j_alenS (v := 200) X dX10_keep_15 1 rfl rfl ?_
    refine j_icmp_lt (tgt := 21) X dX10_keep_16 (by decide) (fun c_16 => ?_) (fun c_16 => ?_)
    · skip
      refine j_aload_n X dX10_keep_21 rfl 0 rfl ?_
      refine j_get (v := .ref xs) X dX10_keep_22 0 rfl 0 rfl in_X10_keep_X10 (by decide) fl_X10_keep_11 rfl ?_
      refine j_aload_n X dX10_keep_25 rfl 0 rfl ?_
      refine j_get (v := .int (nI N)) X dX10_keep_26 0 rfl 1 rfl in_X10_keep_X10 (by decide) fl_X10_keep_57 rfl ?_
      refine j_aload_n X dX10_keep_29 rfl 1 rfl ?_
      refine j_aast (ws' := [(x0, .inr (9, [.ref xs, .int (nI N), .ref po, .ref ro, .ref cr, .ref gp, .ref nu, .ref wk])), (xs, aS G 200 (va_up f N (some p0))), (p0, .inr (0, [.long pcx, .long pcy, .long pr, .int pf, .int pt]))]) X dX10_keep_30 1 rfl 2 rfl rfl (XF.2.2.1 (RX0, "NanoSigns$Shape") (by decide +kernel)) rfl (by omega) (by decide) rfl ?_
      refine j_aload_n X dX10_keep_31 rfl 0 rfl ?_
      refine j_dup X dX10_keep_32 rfl ?_
      refine j_get (v := .int (nI N)) X dX10_keep_33 0 rfl 1 rfl in_X10_keep_X10 (by decide) fl_X10_keep_57 rfl ?_
      refine j_iconst (v := 1) X dX10_keep_36 rfl ?_
      refine j_iadd X dX10_keep_37 ?_
      rw [nI_s (by omega)]
      refine j_put (ws' := [(x0, .inr (9, [.ref xs, .int (nI (N + 1)), .ref po, .ref ro, .ref cr, .ref gp, .ref nu, .ref wk])), (xs, aS G 200 (va_up f N (some p0))), (p0, .inr (0, [.long pcx, .long pcy, .long pr, .int pf, .int pt]))]) X dX10_keep_38 0 rfl 1 rfl in_X10_keep_X10 tyX10 tyX10_ok nmX10 (by decide) fl_X10_keep_57 rfl rfl rfl rfl (Nat.le_of_ble_eq_true rfl) rfl ?_
      refine j_aload_n X dX10_keep_41 rfl 0 rfl ?_
      refine j_get (v := .int (nI (N + 1))) X dX10_keep_42 0 rfl 1 rfl in_X10_keep_X10 (by decide) fl_X10_keep_57 rfl ?_
      refine j_iconst (v := 1) X dX10_keep_45 rfl ?_
      refine j_isub X dX10_keep_46 ?_
      exact E.2.1 47 _ ((nI (N + 1)) - 1) () _ dX10_keep_47 (by rw [nI_pred]) hr rfl
    · skip
      first | simp only [cmp_eq, cmp_lt, cmp_ge, cmp_gt, cmp_le, lT0, lT1] at c_16 | simp only [Int32.le_iff_toInt_le, Int32.lt_iff_toInt_lt, ← Int32.toInt_inj, iT0, iT1, iT2, iT3, iT4, iT5, iT6, iT7, iT8, iT9, iT10, iT11, iT12, iT13, iT14, iT15, iT16, iT19, iT20, iT31, iT32, iT42, iT64, iT200, iT318, iT319, iT1000, iTm1, iTm2] at c_16
      rw [nI_T (show N < 2147483648 by omega)] at c_16
      exfalso; omega

abbrev rm_X10_turn : Room := { frames := 3, cells := 0, slots := 0, locals := 96 }
theorem in_X10_turn_X10 : ∀ w ∈ u_ws RX10 TX10 8, w ∈ wsX10_turn := by decide +kernel
theorem fl_X10_turn_53 : Cond.fieldLink RX10 53 (TX10 7).1 (TX10 7).2.1 (TX10 7).2.2.1 ∈ wsX10_turn := by decide +kernel
set_option maxHeartbeats 4000000 in
set_option maxRecDepth 100000 in
theorem c_X10_turn_ok (l : Launch) (G : jG) (x0 xs po ro cr gp nu wk : Nat) (cn : Int32) (awk : Nat) (fw : Nat → Int64) (ax ay bx by1 cx cy : Int64) (hP : (inC ax.toInt ∧ inC ay.toInt) ∧ (inC bx.toInt ∧ inC by1.toInt) ∧ (inC cx.toInt ∧ inC cy.toInt)) : Ct l yX10_turn wsX10_turn rm_X10_turn G [.ref x0, .long ax, .long ay, .long bx, .long by1, .long cx, .long cy] [(x0, .inr (9, [.ref xs, .int cn, .ref po, .ref ro, .ref cr, .ref gp, .ref nu, .ref wk])), (wk, .inr (8, [.ref awk])), (awk, aJ G 8 fw)] (S := Nat → Int64) (fun r _ => r = some (.int (sg (tn ax.toInt ay.toInt bx.toInt by1.toInt cx.toInt cy.toInt)))) (fun u => [(x0, .inr (9, [.ref xs, .int cn, .ref po, .ref ro, .ref cr, .ref gp, .ref nu, .ref wk])), (wk, .inr (8, [.ref awk])), (awk, aJ G 8 u)]) (fun _ => []) := by
  refine c_intro (cc := cX10_turn) (maxL := 13) (ret := (some .int)) (by decide) rfl (Nat.le_of_ble_eq_true rfl) (fun _ => by simp only [List.map_cons, List.map_nil]) ?_
  intro p e s m args below meth c Q A X hr hin E
  change J p l e rm_X10_turn s m args below meth c Q G A 13 0 0 0 [(0, .ref x0), (1, .long ax), (3, .long ay), (5, .long bx), (7, .long by1), (9, .long cx), (11, .long cy)] [] [(x0, .inr (9, [.ref xs, .int cn, .ref po, .ref ro, .ref cr, .ref gp, .ref nu, .ref wk])), (wk, .inr (8, [.ref awk])), (awk, aJ G 8 fw)]
  have hs : sgH ax ay bx by1 (bx - ax) (by1 - ay) := ⟨⟨hP.1.1, hP.1.2, hP.2.1.1, hP.2.1.2⟩, l_sC hP.2.1.1 hP.1.1, l_sC hP.2.1.2 hP.1.2⟩
  refine j_lload_n X dX10_turn_0 rfl 1 rfl ?_
  refine j_lload_n X dX10_turn_1 rfl 2 rfl ?_
  refine j_callS X dX10_turn_2 (c_X10_isPlace l G ax ay) gX10_turn_X10_isPlace rfl hy_X10_isPlace_S ⟨Nat.le_of_ble_eq_true rfl, Nat.le_of_ble_eq_true rfl⟩ [] rfl (by decide) rfl rfl (Nat.le_of_ble_eq_true rfl) ⟨Nat.le_of_ble_eq_true rfl, Nat.le_of_ble_eq_true rfl⟩ ?_
  rintro _ ⟨⟩ rfl
  change J p l e rm_X10_turn s m args below meth c Q G A 13 0 0 5 [(0, .ref x0), (1, .long ax), (3, .long ay), (5, .long bx), (7, .long by1), (9, .long cx), (11, .long cy)] [.int (bI (inC ax.toInt ∧ inC ay.toInt))] [(x0, .inr (9, [.ref xs, .int cn, .ref po, .ref ro, .ref cr, .ref gp, .ref nu, .ref wk])), (wk, .inr (8, [.ref awk])), (awk, aJ G 8 fw)]
  refine j_if_eq (tgt := 28) X dX10_turn_5 (by decide) (fun c_5 => ?_) (fun c_5 => ?_)
  · skip
    rw [bI_0] at c_5
    exfalso; omega
  · skip
    rw [bI_0, Classical.not_not] at c_5
    refine j_lload X dX10_turn_8 3 rfl ?_
    refine j_lload X dX10_turn_10 4 rfl ?_
    refine j_callS X dX10_turn_12 (c_X10_isPlace l G bx by1) gX10_turn_X10_isPlace rfl hy_X10_isPlace_S ⟨Nat.le_of_ble_eq_true rfl, Nat.le_of_ble_eq_true rfl⟩ [] rfl (by decide) rfl rfl (Nat.le_of_ble_eq_true rfl) ⟨Nat.le_of_ble_eq_true rfl, Nat.le_of_ble_eq_true rfl⟩ ?_
    rintro _ ⟨⟩ rfl
    change J p l e rm_X10_turn s m args below meth c Q G A 13 0 0 15 [(0, .ref x0), (1, .long ax), (3, .long ay), (5, .long bx), (7, .long by1), (9, .long cx), (11, .long cy)] [.int (bI (inC bx.toInt ∧ inC by1.toInt))] [(x0, .inr (9, [.ref xs, .int cn, .ref po, .ref ro, .ref cr, .ref gp, .ref nu, .ref wk])), (wk, .inr (8, [.ref awk])), (awk, aJ G 8 fw)]
    refine j_if_eq (tgt := 28) X dX10_turn_15 (by decide) (fun c_15 => ?_) (fun c_15 => ?_)
    · skip
      rw [bI_0] at c_15
      exfalso; omega
    · skip
      rw [bI_0, Classical.not_not] at c_15
      refine j_lload X dX10_turn_18 5 rfl ?_
      refine j_lload X dX10_turn_20 6 rfl ?_
      refine j_callS X dX10_turn_22 (c_X10_isPlace l G cx cy) gX10_turn_X10_isPlace rfl hy_X10_isPlace_S ⟨Nat.le_of_ble_eq_true rfl, Nat.le_of_ble_eq_true rfl⟩ [] rfl (by decide) rfl rfl (Nat.le_of_ble_eq_true rfl) ⟨Nat.le_of_ble_eq_true rfl, Nat.le_of_ble_eq_true rfl⟩ ?_
      rintro _ ⟨⟩ rfl
      change J p l e rm_X10_turn s m args below meth c Q G A 13 0 0 25 [(0, .ref x0), (1, .long ax), (3, .long ay), (5, .long bx), (7, .long by1), (9, .long cx), (11, .long cy)] [.int (bI (inC cx.toInt ∧ inC cy.toInt))] [(x0, .inr (9, [.ref xs, .int cn, .ref po, .ref ro, .ref cr, .ref gp, .ref nu, .ref wk])), (wk, .inr (8, [.ref awk])), (awk, aJ G 8 fw)]
      refine j_if_ne (tgt := 38) X dX10_turn_25 (by decide) (fun c_25 => ?_) (fun c_25 => ?_)
      · skip
        rw [bI_0, Classical.not_not] at c_25
        refine j_aload_n X dX10_turn_38 rfl 0 rfl ?_
        refine j_get (v := .ref wk) X dX10_turn_39 0 rfl 7 rfl in_X10_turn_X10 (by decide) fl_X10_turn_53 rfl ?_
        refine j_lload X dX10_turn_42 3 rfl ?_
        refine j_lload_n X dX10_turn_44 rfl 1 rfl ?_
        refine j_lsub X dX10_turn_45 ?_
        refine j_lload X dX10_turn_46 4 rfl ?_
        refine j_lload_n X dX10_turn_48 rfl 2 rfl ?_
        refine j_lsub X dX10_turn_49 ?_
        refine j_lload X dX10_turn_50 5 rfl ?_
        refine j_lload_n X dX10_turn_52 rfl 1 rfl ?_
        refine j_lsub X dX10_turn_53 ?_
        refine j_lload X dX10_turn_54 6 rfl ?_
        refine j_lload_n X dX10_turn_56 rfl 2 rfl ?_
        refine j_lsub X dX10_turn_57 ?_
        refine j_callV X dX10_turn_58 (c_X9_setToCross l G wk awk fw (bx - ax) (by1 - ay) (cx - ax) (cy - ay) (sg_dl hs)) gX10_turn_X9_setToCross rfl hy_X9_setToCross_V ⟨Nat.le_of_ble_eq_true rfl, Nat.le_of_ble_eq_true rfl⟩ 0 rfl rfl [1, 2] rfl (by decide) rfl rfl (Nat.le_of_ble_eq_true rfl) ⟨Nat.le_of_ble_eq_true rfl, Nat.le_of_ble_eq_true rfl⟩ ?_
        rintro _ ⟨⟩ rfl
        change J p l e rm_X10_turn s m args below meth c Q G A 13 0 0 61 [(0, .ref x0), (1, .long ax), (3, .long ay), (5, .long bx), (7, .long by1), (9, .long cx), (11, .long cy)] [] [(x0, .inr (9, [.ref xs, .int cn, .ref po, .ref ro, .ref cr, .ref gp, .ref nu, .ref wk])), (wk, .inr (8, [.ref awk])), (awk, aJ G 8 (dg ((bx - ax).toInt * (cy - ay).toInt - (by1 - ay).toInt * (cx - ax).toInt)))]
        rw [show ((bx - ax).toInt * (cy - ay).toInt - (by1 - ay).toInt * (cx - ax).toInt) = tn ax.toInt ay.toInt bx.toInt by1.toInt cx.toInt cy.toInt from (cr_t hs hP.2.2.1 hP.2.2.2)]
        refine j_aload_n X dX10_turn_61 rfl 0 rfl ?_
        refine j_get (v := .ref wk) X dX10_turn_62 0 rfl 7 rfl in_X10_turn_X10 (by decide) fl_X10_turn_53 rfl ?_
        refine j_callV X dX10_turn_65 (c_X9_sign l G wk awk (tn ax.toInt ay.toInt bx.toInt by1.toInt cx.toInt cy.toInt) (cr_b hs hP.2.2.1 hP.2.2.2)) gX10_turn_X9_sign rfl hy_X9_sign_V ⟨Nat.le_of_ble_eq_true rfl, Nat.le_of_ble_eq_true rfl⟩ 0 rfl rfl [1, 2] rfl (by decide) rfl rfl (Nat.le_of_ble_eq_true rfl) ⟨Nat.le_of_ble_eq_true rfl, Nat.le_of_ble_eq_true rfl⟩ ?_
        rintro _ ⟨⟩ rfl
        change J p l e rm_X10_turn s m args below meth c Q G A 13 0 0 68 [(0, .ref x0), (1, .long ax), (3, .long ay), (5, .long bx), (7, .long by1), (9, .long cx), (11, .long cy)] [.int (sg (tn ax.toInt ay.toInt bx.toInt by1.toInt cx.toInt cy.toInt))] [(x0, .inr (9, [.ref xs, .int cn, .ref po, .ref ro, .ref cr, .ref gp, .ref nu, .ref wk])), (wk, .inr (8, [.ref awk])), (awk, aJ G 8 (dg (tn ax.toInt ay.toInt bx.toInt by1.toInt cx.toInt cy.toInt)))]
        exact E.2.1 68 _ (sg (tn ax.toInt ay.toInt bx.toInt by1.toInt cx.toInt cy.toInt)) (dg (tn ax.toInt ay.toInt bx.toInt by1.toInt cx.toInt cy.toInt)) _ dX10_turn_68 rfl hr rfl
      · skip
        rw [bI_0] at c_25
        exfalso; omega

theorem hy_X10_turn_V : yX10_turn.cls = RX10 ∧ yX10_turn.cls ≠ "java/lang/invoke/MethodHandle" ∧ yX10_turn.cls ≠ "java/lang/invoke/VarHandle" ∧ (parseMethodDescriptor yX10_turn.desc).map (fun d => d.parameters.length) = some 6 := by decide +kernel
abbrev rm_X10_turn_no : Room := { frames := 6, cells := 1, slots := 6, locals := 90 }
theorem ta_X10_turn_65 : (Cond.classLink RX10 65 eA ∈ wsX10_turn) ∧ (Cond.initialized eA ∈ wsX10_turn) := by decide +kernel
theorem tb_X10_turn_69 : ∀ w ∈ (vx_atS RX10 69 eA ["java/lang/RuntimeException", "java/lang/Exception"]).filter goodWord, w ∈ wsX10_turn := fun w h => List.mem_cons_of_mem _ (List.mem_append_right _ h)
theorem tc_69 : ∀ w ∈ (vx_atS RX10 69 eA ["java/lang/RuntimeException", "java/lang/Exception"]).filter (fun w => !goodWord w), w ∈ Cond.castable eA eA :: exD.map Cond.declares := by decide +kernel
theorem td_69 : ∀ w ∈ Cond.classLink RX10 65 eA :: Cond.initialized eA :: vx_atS RX10 69 eA ["java/lang/RuntimeException", "java/lang/Exception"], vx_ot w = true := by decide +kernel
set_option maxHeartbeats 4000000 in
set_option maxRecDepth 100000 in
theorem c_X10_turn_no (l : Launch) (G : jG) (hst : l.stackTraces = false) (x0 xs po ro cr gp nu wk : Nat) (cn : Int32) (ax ay bx by1 cx cy : Int64) (hP : ¬ ((inC ax.toInt ∧ inC ay.toInt) ∧ (inC bx.toInt ∧ inC by1.toInt) ∧ (inC cx.toInt ∧ inC cy.toInt))) : CtX l yX10_turn wsX10_turn rm_X10_turn_no G [.ref x0, .long ax, .long ay, .long bx, .long by1, .long cx, .long cy] [(x0, .inr (9, [.ref xs, .int cn, .ref po, .ref ro, .ref cr, .ref gp, .ref nu, .ref wk]))] eA (S := Unit) (fun _ => True) (fun _ => [(x0, .inr (9, [.ref xs, .int cn, .ref po, .ref ro, .ref cr, .ref gp, .ref nu, .ref wk]))]) := by
  refine c_introX (cc := cX10_turn) (maxL := 13) (ret := (some .int)) (by decide) rfl (Nat.le_of_ble_eq_true rfl) (fun _ => by simp only [List.map_cons, List.map_nil]) ?_
  intro p e s m args below meth c Q A hQ X XF hlk htb
  change J p l e rm_X10_turn_no s m args below meth c Q G A 13 0 0 0 [(0, .ref x0), (1, .long ax), (3, .long ay), (5, .long bx), (7, .long by1), (9, .long cx), (11, .long cy)] [] [(x0, .inr (9, [.ref xs, .int cn, .ref po, .ref ro, .ref cr, .ref gp, .ref nu, .ref wk]))]
  refine j_lload_n X dX10_turn_0 rfl 1 rfl ?_
  refine j_lload_n X dX10_turn_1 rfl 2 rfl ?_
  refine j_callS X dX10_turn_2 (c_X10_isPlace l G ax ay) gX10_turn_X10_isPlace rfl hy_X10_isPlace_S ⟨Nat.le_of_ble_eq_true rfl, Nat.le_of_ble_eq_true rfl⟩ [] rfl (by decide) rfl rfl (Nat.le_of_ble_eq_true rfl) ⟨Nat.le_of_ble_eq_true rfl, Nat.le_of_ble_eq_true rfl⟩ ?_
  rintro _ ⟨⟩ rfl
  change J p l e rm_X10_turn_no s m args below meth c Q G A 13 0 0 5 [(0, .ref x0), (1, .long ax), (3, .long ay), (5, .long bx), (7, .long by1), (9, .long cx), (11, .long cy)] [.int (bI (inC ax.toInt ∧ inC ay.toInt))] [(x0, .inr (9, [.ref xs, .int cn, .ref po, .ref ro, .ref cr, .ref gp, .ref nu, .ref wk]))]
  refine j_if_eq (tgt := 28) X dX10_turn_5 (by decide) (fun c_5 => ?_) (fun c_5 => ?_)
  · skip
    rw [bI_0] at c_5
    subst hQ
    exact j_throwS (cls := eA) (text := "no place") (names := ["java/lang/RuntimeException", "java/lang/Exception"]) X rfl hst XF hlk htb dX10_turn_28 dX10_turn_31 dX10_turn_32 dX10_turn_34 dX10_turn_37 (by decide +kernel) (by decide +kernel) ta_X10_turn_65.1 ta_X10_turn_65.2 (by decide +kernel) (by decide +kernel) tb_X10_turn_69 tc_69 td_69 (Nat.le_of_ble_eq_true rfl) (Nat.le_of_ble_eq_true rfl) (Nat.le_of_ble_eq_true rfl) (Nat.le_of_ble_eq_true rfl) () trivial rfl
  · skip
    rw [bI_0, Classical.not_not] at c_5
    refine j_lload X dX10_turn_8 3 rfl ?_
    refine j_lload X dX10_turn_10 4 rfl ?_
    refine j_callS X dX10_turn_12 (c_X10_isPlace l G bx by1) gX10_turn_X10_isPlace rfl hy_X10_isPlace_S ⟨Nat.le_of_ble_eq_true rfl, Nat.le_of_ble_eq_true rfl⟩ [] rfl (by decide) rfl rfl (Nat.le_of_ble_eq_true rfl) ⟨Nat.le_of_ble_eq_true rfl, Nat.le_of_ble_eq_true rfl⟩ ?_
    rintro _ ⟨⟩ rfl
    change J p l e rm_X10_turn_no s m args below meth c Q G A 13 0 0 15 [(0, .ref x0), (1, .long ax), (3, .long ay), (5, .long bx), (7, .long by1), (9, .long cx), (11, .long cy)] [.int (bI (inC bx.toInt ∧ inC by1.toInt))] [(x0, .inr (9, [.ref xs, .int cn, .ref po, .ref ro, .ref cr, .ref gp, .ref nu, .ref wk]))]
    refine j_if_eq (tgt := 28) X dX10_turn_15 (by decide) (fun c_15 => ?_) (fun c_15 => ?_)
    · skip
      rw [bI_0] at c_15
      subst hQ
      exact j_throwS (cls := eA) (text := "no place") (names := ["java/lang/RuntimeException", "java/lang/Exception"]) X rfl hst XF hlk htb dX10_turn_28 dX10_turn_31 dX10_turn_32 dX10_turn_34 dX10_turn_37 (by decide +kernel) (by decide +kernel) ta_X10_turn_65.1 ta_X10_turn_65.2 (by decide +kernel) (by decide +kernel) tb_X10_turn_69 tc_69 td_69 (Nat.le_of_ble_eq_true rfl) (Nat.le_of_ble_eq_true rfl) (Nat.le_of_ble_eq_true rfl) (Nat.le_of_ble_eq_true rfl) () trivial rfl
    · skip
      rw [bI_0, Classical.not_not] at c_15
      refine j_lload X dX10_turn_18 5 rfl ?_
      refine j_lload X dX10_turn_20 6 rfl ?_
      refine j_callS X dX10_turn_22 (c_X10_isPlace l G cx cy) gX10_turn_X10_isPlace rfl hy_X10_isPlace_S ⟨Nat.le_of_ble_eq_true rfl, Nat.le_of_ble_eq_true rfl⟩ [] rfl (by decide) rfl rfl (Nat.le_of_ble_eq_true rfl) ⟨Nat.le_of_ble_eq_true rfl, Nat.le_of_ble_eq_true rfl⟩ ?_
      rintro _ ⟨⟩ rfl
      change J p l e rm_X10_turn_no s m args below meth c Q G A 13 0 0 25 [(0, .ref x0), (1, .long ax), (3, .long ay), (5, .long bx), (7, .long by1), (9, .long cx), (11, .long cy)] [.int (bI (inC cx.toInt ∧ inC cy.toInt))] [(x0, .inr (9, [.ref xs, .int cn, .ref po, .ref ro, .ref cr, .ref gp, .ref nu, .ref wk]))]
      refine j_if_ne (tgt := 38) X dX10_turn_25 (by decide) (fun c_25 => ?_) (fun c_25 => ?_)
      · skip
        rw [bI_0, Classical.not_not] at c_25
        exfalso; omega
      · skip
        rw [bI_0] at c_25
        subst hQ
        exact j_throwS (cls := eA) (text := "no place") (names := ["java/lang/RuntimeException", "java/lang/Exception"]) X rfl hst XF hlk htb dX10_turn_28 dX10_turn_31 dX10_turn_32 dX10_turn_34 dX10_turn_37 (by decide +kernel) (by decide +kernel) ta_X10_turn_65.1 ta_X10_turn_65.2 (by decide +kernel) (by decide +kernel) tb_X10_turn_69 tc_69 td_69 (Nat.le_of_ble_eq_true rfl) (Nat.le_of_ble_eq_true rfl) (Nat.le_of_ble_eq_true rfl) (Nat.le_of_ble_eq_true rfl) () trivial rfl

abbrev rm_X10_segment : Room := { frames := 3, cells := 1, slots := 6, locals := 80 }
theorem df_X7 : ∀ j, j < 6 → defaultValue (tyX7 j) = vp_V [.long 0, .long 0, .long 0, .long 0, .long 0, .long 0] j := fun j hj => by rcases (show j = 0 ∨ j = 1 ∨ j = 2 ∨ j = 3 ∨ j = 4 ∨ j = 5 by omega) with rfl | rfl | rfl | rfl | rfl | rfl <;> rfl
theorem nw_X10_segment_82 : (Cond.classLink RX10 82 RX7 ∈ wsX10_segment) ∧ (Cond.instantiable RX7 6 ∈ wsX10_segment) ∧ (Cond.initialized RX7 ∈ wsX10_segment) := by decide +kernel
theorem in_X10_segment_X7 : ∀ w ∈ u_ws RX7 TX7 6, w ∈ wsX10_segment := by decide +kernel
theorem ii_X10_segment_X7_init : (Cond.initialized yX7_init.cls ∈ wsX10_segment) ∧ (Cond.instanceMethod yX7_init ∈ wsX10_segment) := by decide +kernel
theorem il_X10_segment_84 : Cond.methodLink RX10 84 yX7_init ∈ wsX10_segment := by decide +kernel
set_option maxHeartbeats 4000000 in
set_option maxRecDepth 100000 in
theorem c_X10_segment_ok (l : Launch) (G : jG) (x0 xs po ro cr gp nu wk : Nat) (f : Nat → Option Nat) (N : Nat) (gN : N < 200) (ax ay bx by1 : Int64) (hP : ((inC ax.toInt ∧ inC ay.toInt) ∧ (inC bx.toInt ∧ inC by1.toInt)) ∧ ¬ (ax.toInt = bx.toInt ∧ ay.toInt = by1.toInt)) : Cf l yX10_segment wsX10_segment rm_X10_segment G [.ref x0, .long ax, .long ay, .long bx, .long by1] [(x0, .inr (9, [.ref xs, .int (nI N), .ref po, .ref ro, .ref cr, .ref gp, .ref nu, .ref wk])), (xs, aS G 200 f)] (S := Nat) (fun r _ => r = some (.int (nI N))) (fun u => [(x0, .inr (9, [.ref xs, .int (nI (N + 1)), .ref po, .ref ro, .ref cr, .ref gp, .ref nu, .ref wk])), (xs, aS G 200 (va_up f N (some u)))]) (fun u => [(u, .inr (7, [.long ax, .long ay, .long bx, .long by1, .long (bx - ax), .long (by1 - ay)]))]) := by
  refine cf_intro (cc := cX10_segment) (maxL := 9) (ret := (some .int)) (by decide) rfl (Nat.le_of_ble_eq_true rfl) (fun _ => by simp only [List.map_cons, List.map_nil]) ?_
  intro p e s m args below meth c Q A X XF hr hin E
  change J p l e rm_X10_segment s m args below meth c Q G A 9 0 0 0 [(0, .ref x0), (1, .long ax), (3, .long ay), (5, .long bx), (7, .long by1)] [] [(x0, .inr (9, [.ref xs, .int (nI N), .ref po, .ref ro, .ref cr, .ref gp, .ref nu, .ref wk])), (xs, aS G 200 f)]
  refine j_lload_n X dX10_segment_0 rfl 1 rfl ?_
  refine j_lload_n X dX10_segment_1 rfl 2 rfl ?_
  refine j_callS X dX10_segment_2 (c_X10_isPlace l G ax ay) gX10_segment_X10_isPlace rfl hy_X10_isPlace_S ⟨Nat.le_of_ble_eq_true rfl, Nat.le_of_ble_eq_true rfl⟩ [] rfl (by decide) rfl rfl (Nat.le_of_ble_eq_true rfl) ⟨Nat.le_of_ble_eq_true rfl, Nat.le_of_ble_eq_true rfl⟩ ?_
  rintro _ ⟨⟩ rfl
  change J p l e rm_X10_segment s m args below meth c Q G A 9 0 0 5 [(0, .ref x0), (1, .long ax), (3, .long ay), (5, .long bx), (7, .long by1)] [.int (bI (inC ax.toInt ∧ inC ay.toInt))] [(x0, .inr (9, [.ref xs, .int (nI N), .ref po, .ref ro, .ref cr, .ref gp, .ref nu, .ref wk])), (xs, aS G 200 f)]
  refine j_if_eq (tgt := 18) X dX10_segment_5 (by decide) (fun c_5 => ?_) (fun c_5 => ?_)
  · skip
    rw [bI_0] at c_5
    exfalso; omega
  · skip
    rw [bI_0, Classical.not_not] at c_5
    refine j_lload X dX10_segment_8 3 rfl ?_
    refine j_lload X dX10_segment_10 4 rfl ?_
    refine j_callS X dX10_segment_12 (c_X10_isPlace l G bx by1) gX10_segment_X10_isPlace rfl hy_X10_isPlace_S ⟨Nat.le_of_ble_eq_true rfl, Nat.le_of_ble_eq_true rfl⟩ [] rfl (by decide) rfl rfl (Nat.le_of_ble_eq_true rfl) ⟨Nat.le_of_ble_eq_true rfl, Nat.le_of_ble_eq_true rfl⟩ ?_
    rintro _ ⟨⟩ rfl
    change J p l e rm_X10_segment s m args below meth c Q G A 9 0 0 15 [(0, .ref x0), (1, .long ax), (3, .long ay), (5, .long bx), (7, .long by1)] [.int (bI (inC bx.toInt ∧ inC by1.toInt))] [(x0, .inr (9, [.ref xs, .int (nI N), .ref po, .ref ro, .ref cr, .ref gp, .ref nu, .ref wk])), (xs, aS G 200 f)]
    refine j_if_ne (tgt := 28) X dX10_segment_15 (by decide) (fun c_15 => ?_) (fun c_15 => ?_)
    · skip
      rw [bI_0, Classical.not_not] at c_15
      refine j_lload_n X dX10_segment_28 rfl 1 rfl ?_
      refine j_lload X dX10_segment_29 3 rfl ?_
      refine j_lcmp X dX10_segment_31 ?_
      refine j_if_ne (tgt := 52) X dX10_segment_32 (by decide) (fun c_32 => ?_) (fun c_32 => ?_)
      · skip
        first | simp only [cmp_eq, cmp_lt, cmp_ge, cmp_gt, cmp_le, lT0, lT1] at c_32 | simp only [Int32.le_iff_toInt_le, Int32.lt_iff_toInt_lt, ← Int32.toInt_inj, iT0, iT1, iT2, iT3, iT4, iT5, iT6, iT7, iT8, iT9, iT10, iT11, iT12, iT13, iT14, iT15, iT16, iT19, iT20, iT31, iT32, iT42, iT64, iT200, iT318, iT319, iT1000, iTm1, iTm2] at c_32
        refine j_aload_n X dX10_segment_52 rfl 0 rfl ?_
        refine j_new (ci := 7) (fs := [.long 0, .long 0, .long 0, .long 0, .long 0, .long 0]) X dX10_segment_53 in_X10_segment_X7 tyX7 tyX7_ok nw_X10_segment_82.1 nw_X10_segment_82.2.1 nw_X10_segment_82.2.2 rfl df_X7 (Nat.le_of_ble_eq_true rfl) (Nat.le_of_ble_eq_true rfl) (fun q_1 => ?_)
        change J p l e rm_X10_segment s m args below meth c Q G A 9 1 6 56 [(0, .ref x0), (1, .long ax), (3, .long ay), (5, .long bx), (7, .long by1)] [.ref q_1, .ref x0] [(x0, .inr (9, [.ref xs, .int (nI N), .ref po, .ref ro, .ref cr, .ref gp, .ref nu, .ref wk])), (xs, aS G 200 f), (q_1, .inr (7, [.long 0, .long 0, .long 0, .long 0, .long 0, .long 0]))]
        refine j_dup X dX10_segment_56 rfl ?_
        refine j_lload_n X dX10_segment_57 rfl 1 rfl ?_
        refine j_lload_n X dX10_segment_58 rfl 2 rfl ?_
        refine j_lload X dX10_segment_59 3 rfl ?_
        refine j_lload X dX10_segment_61 4 rfl ?_
        refine j_callI X XF dX10_segment_63 (c_X7_init l G q_1 ax ay bx by1 (bx - ax) (by1 - ay) rfl rfl) gX10_segment_X7_init rfl ii_X10_segment_X7_init.1 il_X10_segment_84 ii_X10_segment_X7_init.2 rfl hi_X7_init ⟨Nat.le_of_ble_eq_true rfl, Nat.le_of_ble_eq_true rfl⟩ [2] rfl (by decide) rfl rfl (Nat.le_of_ble_eq_true rfl) ⟨Nat.le_of_ble_eq_true rfl, Nat.le_of_ble_eq_true rfl⟩ ?_
        rintro _ ⟨⟩ rfl
        change J p l e rm_X10_segment s m args below meth c Q G A 9 1 6 66 [(0, .ref x0), (1, .long ax), (3, .long ay), (5, .long bx), (7, .long by1)] [.ref q_1, .ref x0] [(x0, .inr (9, [.ref xs, .int (nI N), .ref po, .ref ro, .ref cr, .ref gp, .ref nu, .ref wk])), (xs, aS G 200 f), (q_1, .inr (7, [.long ax, .long ay, .long bx, .long by1, .long (bx - ax), .long (by1 - ay)]))]
        refine j_callVF X XF dX10_segment_66 (c_X10_keep_s l G x0 xs po ro cr gp nu wk f N gN q_1 ax ay bx by1 (bx - ax) (by1 - ay)) gX10_segment_X10_keep rfl hy_X10_keep_V ⟨Nat.le_of_ble_eq_true rfl, Nat.le_of_ble_eq_true rfl⟩ 0 rfl rfl [0, 1, 2] rfl (by decide) rfl rfl (Nat.le_of_ble_eq_true rfl) ⟨Nat.le_of_ble_eq_true rfl, Nat.le_of_ble_eq_true rfl⟩ ?_
        rintro _ ⟨⟩ rfl
        change J p l e rm_X10_segment s m args below meth c Q G A 9 1 6 69 [(0, .ref x0), (1, .long ax), (3, .long ay), (5, .long bx), (7, .long by1)] [.int (nI N)] [(x0, .inr (9, [.ref xs, .int (nI (N + 1)), .ref po, .ref ro, .ref cr, .ref gp, .ref nu, .ref wk])), (xs, aS G 200 (va_up f N (some q_1))), (q_1, .inr (7, [.long ax, .long ay, .long bx, .long by1, .long (bx - ax), .long (by1 - ay)]))]
        exact E.2.1 69 _ (nI N) q_1 _ dX10_segment_69 rfl hr rfl
      · skip
        first | simp only [cmp_eq, cmp_lt, cmp_ge, cmp_gt, cmp_le, lT0, lT1] at c_32 | simp only [Int32.le_iff_toInt_le, Int32.lt_iff_toInt_lt, ← Int32.toInt_inj, iT0, iT1, iT2, iT3, iT4, iT5, iT6, iT7, iT8, iT9, iT10, iT11, iT12, iT13, iT14, iT15, iT16, iT19, iT20, iT31, iT32, iT42, iT64, iT200, iT318, iT319, iT1000, iTm1, iTm2] at c_32
        refine j_lload_n X dX10_segment_35 rfl 2 rfl ?_
        refine j_lload X dX10_segment_36 4 rfl ?_
        refine j_lcmp X dX10_segment_38 ?_
        refine j_if_ne (tgt := 52) X dX10_segment_39 (by decide) (fun c_39 => ?_) (fun c_39 => ?_)
        · skip
          first | simp only [cmp_eq, cmp_lt, cmp_ge, cmp_gt, cmp_le, lT0, lT1] at c_39 | simp only [Int32.le_iff_toInt_le, Int32.lt_iff_toInt_lt, ← Int32.toInt_inj, iT0, iT1, iT2, iT3, iT4, iT5, iT6, iT7, iT8, iT9, iT10, iT11, iT12, iT13, iT14, iT15, iT16, iT19, iT20, iT31, iT32, iT42, iT64, iT200, iT318, iT319, iT1000, iTm1, iTm2] at c_39
          refine j_aload_n X dX10_segment_52 rfl 0 rfl ?_
          refine j_new (ci := 7) (fs := [.long 0, .long 0, .long 0, .long 0, .long 0, .long 0]) X dX10_segment_53 in_X10_segment_X7 tyX7 tyX7_ok nw_X10_segment_82.1 nw_X10_segment_82.2.1 nw_X10_segment_82.2.2 rfl df_X7 (Nat.le_of_ble_eq_true rfl) (Nat.le_of_ble_eq_true rfl) (fun q_2 => ?_)
          change J p l e rm_X10_segment s m args below meth c Q G A 9 1 6 56 [(0, .ref x0), (1, .long ax), (3, .long ay), (5, .long bx), (7, .long by1)] [.ref q_2, .ref x0] [(x0, .inr (9, [.ref xs, .int (nI N), .ref po, .ref ro, .ref cr, .ref gp, .ref nu, .ref wk])), (xs, aS G 200 f), (q_2, .inr (7, [.long 0, .long 0, .long 0, .long 0, .long 0, .long 0]))]
          refine j_dup X dX10_segment_56 rfl ?_
          refine j_lload_n X dX10_segment_57 rfl 1 rfl ?_
          refine j_lload_n X dX10_segment_58 rfl 2 rfl ?_
          refine j_lload X dX10_segment_59 3 rfl ?_
          refine j_lload X dX10_segment_61 4 rfl ?_
          refine j_callI X XF dX10_segment_63 (c_X7_init l G q_2 ax ay bx by1 (bx - ax) (by1 - ay) rfl rfl) gX10_segment_X7_init rfl ii_X10_segment_X7_init.1 il_X10_segment_84 ii_X10_segment_X7_init.2 rfl hi_X7_init ⟨Nat.le_of_ble_eq_true rfl, Nat.le_of_ble_eq_true rfl⟩ [2] rfl (by decide) rfl rfl (Nat.le_of_ble_eq_true rfl) ⟨Nat.le_of_ble_eq_true rfl, Nat.le_of_ble_eq_true rfl⟩ ?_
          rintro _ ⟨⟩ rfl
          change J p l e rm_X10_segment s m args below meth c Q G A 9 1 6 66 [(0, .ref x0), (1, .long ax), (3, .long ay), (5, .long bx), (7, .long by1)] [.ref q_2, .ref x0] [(x0, .inr (9, [.ref xs, .int (nI N), .ref po, .ref ro, .ref cr, .ref gp, .ref nu, .ref wk])), (xs, aS G 200 f), (q_2, .inr (7, [.long ax, .long ay, .long bx, .long by1, .long (bx - ax), .long (by1 - ay)]))]
          refine j_callVF X XF dX10_segment_66 (c_X10_keep_s l G x0 xs po ro cr gp nu wk f N gN q_2 ax ay bx by1 (bx - ax) (by1 - ay)) gX10_segment_X10_keep rfl hy_X10_keep_V ⟨Nat.le_of_ble_eq_true rfl, Nat.le_of_ble_eq_true rfl⟩ 0 rfl rfl [0, 1, 2] rfl (by decide) rfl rfl (Nat.le_of_ble_eq_true rfl) ⟨Nat.le_of_ble_eq_true rfl, Nat.le_of_ble_eq_true rfl⟩ ?_
          rintro _ ⟨⟩ rfl
          change J p l e rm_X10_segment s m args below meth c Q G A 9 1 6 69 [(0, .ref x0), (1, .long ax), (3, .long ay), (5, .long bx), (7, .long by1)] [.int (nI N)] [(x0, .inr (9, [.ref xs, .int (nI (N + 1)), .ref po, .ref ro, .ref cr, .ref gp, .ref nu, .ref wk])), (xs, aS G 200 (va_up f N (some q_2))), (q_2, .inr (7, [.long ax, .long ay, .long bx, .long by1, .long (bx - ax), .long (by1 - ay)]))]
          exact E.2.1 69 _ (nI N) q_2 _ dX10_segment_69 rfl hr rfl
        · skip
          first | simp only [cmp_eq, cmp_lt, cmp_ge, cmp_gt, cmp_le, lT0, lT1] at c_39 | simp only [Int32.le_iff_toInt_le, Int32.lt_iff_toInt_lt, ← Int32.toInt_inj, iT0, iT1, iT2, iT3, iT4, iT5, iT6, iT7, iT8, iT9, iT10, iT11, iT12, iT13, iT14, iT15, iT16, iT19, iT20, iT31, iT32, iT42, iT64, iT200, iT318, iT319, iT1000, iTm1, iTm2] at c_39
          exfalso; omega
    · skip
      rw [bI_0] at c_15
      exfalso; omega

theorem hy_X10_segment_V : yX10_segment.cls = RX10 ∧ yX10_segment.cls ≠ "java/lang/invoke/MethodHandle" ∧ yX10_segment.cls ≠ "java/lang/invoke/VarHandle" ∧ (parseMethodDescriptor yX10_segment.desc).map (fun d => d.parameters.length) = some 4 := by decide +kernel
abbrev rm_X10_segment_no : Room := { frames := 6, cells := 1, slots := 6, locals := 90 }
theorem ta_X10_segment_65 : (Cond.classLink RX10 65 eA ∈ wsX10_segment) ∧ (Cond.initialized eA ∈ wsX10_segment) := by decide +kernel
theorem tb_X10_segment_69 : ∀ w ∈ (vx_atS RX10 69 eA ["java/lang/RuntimeException", "java/lang/Exception"]).filter goodWord, w ∈ wsX10_segment := fun w h => List.mem_cons_of_mem _ (List.mem_append_right _ h)
set_option maxHeartbeats 4000000 in
set_option maxRecDepth 100000 in
theorem c_X10_segment_no (l : Launch) (G : jG) (hst : l.stackTraces = false) (x0 xs po ro cr gp nu wk : Nat) (cn : Int32) (ax ay bx by1 : Int64) (hP : ¬ (((inC ax.toInt ∧ inC ay.toInt) ∧ (inC bx.toInt ∧ inC by1.toInt)) ∧ ¬ (ax.toInt = bx.toInt ∧ ay.toInt = by1.toInt))) : CtX l yX10_segment wsX10_segment rm_X10_segment_no G [.ref x0, .long ax, .long ay, .long bx, .long by1] [(x0, .inr (9, [.ref xs, .int cn, .ref po, .ref ro, .ref cr, .ref gp, .ref nu, .ref wk]))] eA (S := Unit) (fun _ => True) (fun _ => [(x0, .inr (9, [.ref xs, .int cn, .ref po, .ref ro, .ref cr, .ref gp, .ref nu, .ref wk]))]) := by
  refine c_introX (cc := cX10_segment) (maxL := 9) (ret := (some .int)) (by decide) rfl (Nat.le_of_ble_eq_true rfl) (fun _ => by simp only [List.map_cons, List.map_nil]) ?_
  intro p e s m args below meth c Q A hQ X XF hlk htb
  change J p l e rm_X10_segment_no s m args below meth c Q G A 9 0 0 0 [(0, .ref x0), (1, .long ax), (3, .long ay), (5, .long bx), (7, .long by1)] [] [(x0, .inr (9, [.ref xs, .int cn, .ref po, .ref ro, .ref cr, .ref gp, .ref nu, .ref wk]))]
  refine j_lload_n X dX10_segment_0 rfl 1 rfl ?_
  refine j_lload_n X dX10_segment_1 rfl 2 rfl ?_
  refine j_callS X dX10_segment_2 (c_X10_isPlace l G ax ay) gX10_segment_X10_isPlace rfl hy_X10_isPlace_S ⟨Nat.le_of_ble_eq_true rfl, Nat.le_of_ble_eq_true rfl⟩ [] rfl (by decide) rfl rfl (Nat.le_of_ble_eq_true rfl) ⟨Nat.le_of_ble_eq_true rfl, Nat.le_of_ble_eq_true rfl⟩ ?_
  rintro _ ⟨⟩ rfl
  change J p l e rm_X10_segment_no s m args below meth c Q G A 9 0 0 5 [(0, .ref x0), (1, .long ax), (3, .long ay), (5, .long bx), (7, .long by1)] [.int (bI (inC ax.toInt ∧ inC ay.toInt))] [(x0, .inr (9, [.ref xs, .int cn, .ref po, .ref ro, .ref cr, .ref gp, .ref nu, .ref wk]))]
  refine j_if_eq (tgt := 18) X dX10_segment_5 (by decide) (fun c_5 => ?_) (fun c_5 => ?_)
  · skip
    rw [bI_0] at c_5
    subst hQ
    exact j_throwS (cls := eA) (text := "no place") (names := ["java/lang/RuntimeException", "java/lang/Exception"]) X rfl hst XF hlk htb dX10_segment_18 dX10_segment_21 dX10_segment_22 dX10_segment_24 dX10_segment_27 (by decide +kernel) (by decide +kernel) ta_X10_segment_65.1 ta_X10_segment_65.2 (by decide +kernel) (by decide +kernel) tb_X10_segment_69 tc_69 td_69 (Nat.le_of_ble_eq_true rfl) (Nat.le_of_ble_eq_true rfl) (Nat.le_of_ble_eq_true rfl) (Nat.le_of_ble_eq_true rfl) () trivial rfl
  · skip
    rw [bI_0, Classical.not_not] at c_5
    refine j_lload X dX10_segment_8 3 rfl ?_
    refine j_lload X dX10_segment_10 4 rfl ?_
    refine j_callS X dX10_segment_12 (c_X10_isPlace l G bx by1) gX10_segment_X10_isPlace rfl hy_X10_isPlace_S ⟨Nat.le_of_ble_eq_true rfl, Nat.le_of_ble_eq_true rfl⟩ [] rfl (by decide) rfl rfl (Nat.le_of_ble_eq_true rfl) ⟨Nat.le_of_ble_eq_true rfl, Nat.le_of_ble_eq_true rfl⟩ ?_
    rintro _ ⟨⟩ rfl
    change J p l e rm_X10_segment_no s m args below meth c Q G A 9 0 0 15 [(0, .ref x0), (1, .long ax), (3, .long ay), (5, .long bx), (7, .long by1)] [.int (bI (inC bx.toInt ∧ inC by1.toInt))] [(x0, .inr (9, [.ref xs, .int cn, .ref po, .ref ro, .ref cr, .ref gp, .ref nu, .ref wk]))]
    refine j_if_ne (tgt := 28) X dX10_segment_15 (by decide) (fun c_15 => ?_) (fun c_15 => ?_)
    · skip
      rw [bI_0, Classical.not_not] at c_15
      refine j_lload_n X dX10_segment_28 rfl 1 rfl ?_
      refine j_lload X dX10_segment_29 3 rfl ?_
      refine j_lcmp X dX10_segment_31 ?_
      refine j_if_ne (tgt := 52) X dX10_segment_32 (by decide) (fun c_32 => ?_) (fun c_32 => ?_)
      · skip
        first | simp only [cmp_eq, cmp_lt, cmp_ge, cmp_gt, cmp_le, lT0, lT1] at c_32 | simp only [Int32.le_iff_toInt_le, Int32.lt_iff_toInt_lt, ← Int32.toInt_inj, iT0, iT1, iT2, iT3, iT4, iT5, iT6, iT7, iT8, iT9, iT10, iT11, iT12, iT13, iT14, iT15, iT16, iT19, iT20, iT31, iT32, iT42, iT64, iT200, iT318, iT319, iT1000, iTm1, iTm2] at c_32
        exfalso; omega
      · skip
        first | simp only [cmp_eq, cmp_lt, cmp_ge, cmp_gt, cmp_le, lT0, lT1] at c_32 | simp only [Int32.le_iff_toInt_le, Int32.lt_iff_toInt_lt, ← Int32.toInt_inj, iT0, iT1, iT2, iT3, iT4, iT5, iT6, iT7, iT8, iT9, iT10, iT11, iT12, iT13, iT14, iT15, iT16, iT19, iT20, iT31, iT32, iT42, iT64, iT200, iT318, iT319, iT1000, iTm1, iTm2] at c_32
        refine j_lload_n X dX10_segment_35 rfl 2 rfl ?_
        refine j_lload X dX10_segment_36 4 rfl ?_
        refine j_lcmp X dX10_segment_38 ?_
        refine j_if_ne (tgt := 52) X dX10_segment_39 (by decide) (fun c_39 => ?_) (fun c_39 => ?_)
        · skip
          first | simp only [cmp_eq, cmp_lt, cmp_ge, cmp_gt, cmp_le, lT0, lT1] at c_39 | simp only [Int32.le_iff_toInt_le, Int32.lt_iff_toInt_lt, ← Int32.toInt_inj, iT0, iT1, iT2, iT3, iT4, iT5, iT6, iT7, iT8, iT9, iT10, iT11, iT12, iT13, iT14, iT15, iT16, iT19, iT20, iT31, iT32, iT42, iT64, iT200, iT318, iT319, iT1000, iTm1, iTm2] at c_39
          exfalso; omega
        · skip
          first | simp only [cmp_eq, cmp_lt, cmp_ge, cmp_gt, cmp_le, lT0, lT1] at c_39 | simp only [Int32.le_iff_toInt_le, Int32.lt_iff_toInt_lt, ← Int32.toInt_inj, iT0, iT1, iT2, iT3, iT4, iT5, iT6, iT7, iT8, iT9, iT10, iT11, iT12, iT13, iT14, iT15, iT16, iT19, iT20, iT31, iT32, iT42, iT64, iT200, iT318, iT319, iT1000, iTm1, iTm2] at c_39
          subst hQ
          exact j_throwS (cls := eA) (text := "the places are the same") (names := ["java/lang/RuntimeException", "java/lang/Exception"]) X rfl hst XF hlk htb dX10_segment_42 dX10_segment_45 dX10_segment_46 dX10_segment_48 dX10_segment_51 (by decide +kernel) (by decide +kernel) ta_X10_segment_65.1 ta_X10_segment_65.2 (by decide +kernel) (by decide +kernel) tb_X10_segment_69 tc_69 td_69 (Nat.le_of_ble_eq_true rfl) (Nat.le_of_ble_eq_true rfl) (Nat.le_of_ble_eq_true rfl) (Nat.le_of_ble_eq_true rfl) () trivial rfl
    · skip
      rw [bI_0] at c_15
      subst hQ
      exact j_throwS (cls := eA) (text := "no place") (names := ["java/lang/RuntimeException", "java/lang/Exception"]) X rfl hst XF hlk htb dX10_segment_18 dX10_segment_21 dX10_segment_22 dX10_segment_24 dX10_segment_27 (by decide +kernel) (by decide +kernel) ta_X10_segment_65.1 ta_X10_segment_65.2 (by decide +kernel) (by decide +kernel) tb_X10_segment_69 tc_69 td_69 (Nat.le_of_ble_eq_true rfl) (Nat.le_of_ble_eq_true rfl) (Nat.le_of_ble_eq_true rfl) (Nat.le_of_ble_eq_true rfl) () trivial rfl

abbrev rm_X10_arc : Room := { frames := 3, cells := 1, slots := 6, locals := 80 }
theorem k_X10_arc_90 : Cond.constantLong RX10 90 (4611686018427387904) ∈ wsX10_arc := by decide +kernel
theorem df_X0 : ∀ j, j < 5 → defaultValue (tyX0 j) = vp_V [.long 0, .long 0, .long 0, .int 0, .int 0] j := fun j hj => by rcases (show j = 0 ∨ j = 1 ∨ j = 2 ∨ j = 3 ∨ j = 4 by omega) with rfl | rfl | rfl | rfl | rfl <;> rfl
theorem nw_X10_arc_100 : (Cond.classLink RX10 100 RX0 ∈ wsX10_arc) ∧ (Cond.instantiable RX0 5 ∈ wsX10_arc) ∧ (Cond.initialized RX0 ∈ wsX10_arc) := by decide +kernel
theorem in_X10_arc_X0 : ∀ w ∈ u_ws RX0 TX0 5, w ∈ wsX10_arc := by decide +kernel
theorem ii_X10_arc_X0_init : (Cond.initialized yX0_init.cls ∈ wsX10_arc) ∧ (Cond.instanceMethod yX0_init ∈ wsX10_arc) := by decide +kernel
theorem il_X10_arc_102 : Cond.methodLink RX10 102 yX0_init ∈ wsX10_arc := by decide +kernel
set_option maxHeartbeats 4000000 in
set_option maxRecDepth 100000 in
theorem c_X10_arc_ok (l : Launch) (G : jG) (x0 xs po ro cr gp nu wk : Nat) (f : Nat → Option Nat) (N : Nat) (gN : N < 200) (cx cy r : Int64) (fo tw : Int32) (hP : (inC cx.toInt ∧ inC cy.toInt) ∧ (1 ≤ r.toInt ∧ r.toInt ≤ 4611686018427387904) ∧ (0 ≤ fo.toInt ∧ fo.toInt < 8) ∧ (0 ≤ tw.toInt ∧ tw.toInt < 8)) : Cf l yX10_arc wsX10_arc rm_X10_arc G [.ref x0, .long cx, .long cy, .long r, .int fo, .int tw] [(x0, .inr (9, [.ref xs, .int (nI N), .ref po, .ref ro, .ref cr, .ref gp, .ref nu, .ref wk])), (xs, aS G 200 f)] (S := Nat) (fun r _ => r = some (.int (nI N))) (fun u => [(x0, .inr (9, [.ref xs, .int (nI (N + 1)), .ref po, .ref ro, .ref cr, .ref gp, .ref nu, .ref wk])), (xs, aS G 200 (va_up f N (some u)))]) (fun u => [(u, .inr (0, [.long cx, .long cy, .long r, .int fo, .int tw]))]) := by
  refine cf_intro (cc := cX10_arc) (maxL := 9) (ret := (some .int)) (by decide) rfl (Nat.le_of_ble_eq_true rfl) (fun _ => by simp only [List.map_cons, List.map_nil]) ?_
  intro p e s m args below meth c Q A X XF hr hin E
  change J p l e rm_X10_arc s m args below meth c Q G A 9 0 0 0 [(0, .ref x0), (1, .long cx), (3, .long cy), (5, .long r), (7, .int fo), (8, .int tw)] [] [(x0, .inr (9, [.ref xs, .int (nI N), .ref po, .ref ro, .ref cr, .ref gp, .ref nu, .ref wk])), (xs, aS G 200 f)]
  refine j_lload_n X dX10_arc_0 rfl 1 rfl ?_
  refine j_lload_n X dX10_arc_1 rfl 2 rfl ?_
  refine j_callS X dX10_arc_2 (c_X10_isPlace l G cx cy) gX10_arc_X10_isPlace rfl hy_X10_isPlace_S ⟨Nat.le_of_ble_eq_true rfl, Nat.le_of_ble_eq_true rfl⟩ [] rfl (by decide) rfl rfl (Nat.le_of_ble_eq_true rfl) ⟨Nat.le_of_ble_eq_true rfl, Nat.le_of_ble_eq_true rfl⟩ ?_
  rintro _ ⟨⟩ rfl
  change J p l e rm_X10_arc s m args below meth c Q G A 9 0 0 5 [(0, .ref x0), (1, .long cx), (3, .long cy), (5, .long r), (7, .int fo), (8, .int tw)] [.int (bI (inC cx.toInt ∧ inC cy.toInt))] [(x0, .inr (9, [.ref xs, .int (nI N), .ref po, .ref ro, .ref cr, .ref gp, .ref nu, .ref wk])), (xs, aS G 200 f)]
  refine j_if_ne (tgt := 18) X dX10_arc_5 (by decide) (fun c_5 => ?_) (fun c_5 => ?_)
  · skip
    rw [bI_0, Classical.not_not] at c_5
    refine j_lload X dX10_arc_18 3 rfl ?_
    refine j_lconst (v := 1) X dX10_arc_20 rfl ?_
    refine j_lcmp X dX10_arc_21 ?_
    refine j_if_lt (tgt := 34) X dX10_arc_22 (by decide) (fun c_22 => ?_) (fun c_22 => ?_)
    · skip
      first | simp only [cmp_eq, cmp_lt, cmp_ge, cmp_gt, cmp_le, lT0, lT1] at c_22 | simp only [Int32.le_iff_toInt_le, Int32.lt_iff_toInt_lt, ← Int32.toInt_inj, iT0, iT1, iT2, iT3, iT4, iT5, iT6, iT7, iT8, iT9, iT10, iT11, iT12, iT13, iT14, iT15, iT16, iT19, iT20, iT31, iT32, iT42, iT64, iT200, iT318, iT319, iT1000, iTm1, iTm2] at c_22
      exfalso; omega
    · skip
      first | simp only [cmp_eq, cmp_lt, cmp_ge, cmp_gt, cmp_le, lT0, lT1] at c_22 | simp only [Int32.le_iff_toInt_le, Int32.lt_iff_toInt_lt, ← Int32.toInt_inj, iT0, iT1, iT2, iT3, iT4, iT5, iT6, iT7, iT8, iT9, iT10, iT11, iT12, iT13, iT14, iT15, iT16, iT19, iT20, iT31, iT32, iT42, iT64, iT200, iT318, iT319, iT1000, iTm1, iTm2] at c_22
      refine j_lload X dX10_arc_25 3 rfl ?_
      refine j_ldc2 (v := 4611686018427387904) X dX10_arc_27 k_X10_arc_90 ?_
      refine j_lcmp X dX10_arc_30 ?_
      refine j_if_le (tgt := 44) X dX10_arc_31 (by decide) (fun c_31 => ?_) (fun c_31 => ?_)
      · skip
        first | simp only [cmp_eq, cmp_lt, cmp_ge, cmp_gt, cmp_le, lT0, lT1] at c_31 | simp only [Int32.le_iff_toInt_le, Int32.lt_iff_toInt_lt, ← Int32.toInt_inj, iT0, iT1, iT2, iT3, iT4, iT5, iT6, iT7, iT8, iT9, iT10, iT11, iT12, iT13, iT14, iT15, iT16, iT19, iT20, iT31, iT32, iT42, iT64, iT200, iT318, iT319, iT1000, iTm1, iTm2] at c_31
        rw [show (4611686018427387904 : Int64).toInt = 4611686018427387904 from rfl] at c_31
        refine j_iload X dX10_arc_44 4 rfl ?_
        refine j_callS X dX10_arc_46 (c_X10_isDirection l G fo) gX10_arc_X10_isDirection rfl hy_X10_isDirection_S ⟨Nat.le_of_ble_eq_true rfl, Nat.le_of_ble_eq_true rfl⟩ [] rfl (by decide) rfl rfl (Nat.le_of_ble_eq_true rfl) ⟨Nat.le_of_ble_eq_true rfl, Nat.le_of_ble_eq_true rfl⟩ ?_
        rintro _ ⟨⟩ rfl
        change J p l e rm_X10_arc s m args below meth c Q G A 9 0 0 49 [(0, .ref x0), (1, .long cx), (3, .long cy), (5, .long r), (7, .int fo), (8, .int tw)] [.int (bI (0 ≤ fo.toInt ∧ fo.toInt < 8))] [(x0, .inr (9, [.ref xs, .int (nI N), .ref po, .ref ro, .ref cr, .ref gp, .ref nu, .ref wk])), (xs, aS G 200 f)]
        refine j_if_eq (tgt := 60) X dX10_arc_49 (by decide) (fun c_49 => ?_) (fun c_49 => ?_)
        · skip
          rw [bI_0] at c_49
          exfalso; omega
        · skip
          rw [bI_0, Classical.not_not] at c_49
          refine j_iload X dX10_arc_52 5 rfl ?_
          refine j_callS X dX10_arc_54 (c_X10_isDirection l G tw) gX10_arc_X10_isDirection rfl hy_X10_isDirection_S ⟨Nat.le_of_ble_eq_true rfl, Nat.le_of_ble_eq_true rfl⟩ [] rfl (by decide) rfl rfl (Nat.le_of_ble_eq_true rfl) ⟨Nat.le_of_ble_eq_true rfl, Nat.le_of_ble_eq_true rfl⟩ ?_
          rintro _ ⟨⟩ rfl
          change J p l e rm_X10_arc s m args below meth c Q G A 9 0 0 57 [(0, .ref x0), (1, .long cx), (3, .long cy), (5, .long r), (7, .int fo), (8, .int tw)] [.int (bI (0 ≤ tw.toInt ∧ tw.toInt < 8))] [(x0, .inr (9, [.ref xs, .int (nI N), .ref po, .ref ro, .ref cr, .ref gp, .ref nu, .ref wk])), (xs, aS G 200 f)]
          refine j_if_ne (tgt := 70) X dX10_arc_57 (by decide) (fun c_57 => ?_) (fun c_57 => ?_)
          · skip
            rw [bI_0, Classical.not_not] at c_57
            refine j_aload_n X dX10_arc_70 rfl 0 rfl ?_
            refine j_new (ci := 0) (fs := [.long 0, .long 0, .long 0, .int 0, .int 0]) X dX10_arc_71 in_X10_arc_X0 tyX0 tyX0_ok nw_X10_arc_100.1 nw_X10_arc_100.2.1 nw_X10_arc_100.2.2 rfl df_X0 (Nat.le_of_ble_eq_true rfl) (Nat.le_of_ble_eq_true rfl) (fun q_1 => ?_)
            change J p l e rm_X10_arc s m args below meth c Q G A 9 1 5 74 [(0, .ref x0), (1, .long cx), (3, .long cy), (5, .long r), (7, .int fo), (8, .int tw)] [.ref q_1, .ref x0] [(x0, .inr (9, [.ref xs, .int (nI N), .ref po, .ref ro, .ref cr, .ref gp, .ref nu, .ref wk])), (xs, aS G 200 f), (q_1, .inr (0, [.long 0, .long 0, .long 0, .int 0, .int 0]))]
            refine j_dup X dX10_arc_74 rfl ?_
            refine j_lload_n X dX10_arc_75 rfl 1 rfl ?_
            refine j_lload_n X dX10_arc_76 rfl 2 rfl ?_
            refine j_lload X dX10_arc_77 3 rfl ?_
            refine j_iload X dX10_arc_79 4 rfl ?_
            refine j_iload X dX10_arc_81 5 rfl ?_
            refine j_callI X XF dX10_arc_83 (c_X0_init l G q_1 cx cy r fo tw) gX10_arc_X0_init rfl ii_X10_arc_X0_init.1 il_X10_arc_102 ii_X10_arc_X0_init.2 rfl hi_X0_init ⟨Nat.le_of_ble_eq_true rfl, Nat.le_of_ble_eq_true rfl⟩ [2] rfl (by decide) rfl rfl (Nat.le_of_ble_eq_true rfl) ⟨Nat.le_of_ble_eq_true rfl, Nat.le_of_ble_eq_true rfl⟩ ?_
            rintro _ ⟨⟩ rfl
            change J p l e rm_X10_arc s m args below meth c Q G A 9 1 5 86 [(0, .ref x0), (1, .long cx), (3, .long cy), (5, .long r), (7, .int fo), (8, .int tw)] [.ref q_1, .ref x0] [(x0, .inr (9, [.ref xs, .int (nI N), .ref po, .ref ro, .ref cr, .ref gp, .ref nu, .ref wk])), (xs, aS G 200 f), (q_1, .inr (0, [.long cx, .long cy, .long r, .int fo, .int tw]))]
            refine j_callVF X XF dX10_arc_86 (c_X10_keep_a l G x0 xs po ro cr gp nu wk f N gN q_1 cx cy r fo tw) gX10_arc_X10_keep rfl hy_X10_keep_V ⟨Nat.le_of_ble_eq_true rfl, Nat.le_of_ble_eq_true rfl⟩ 0 rfl rfl [0, 1, 2] rfl (by decide) rfl rfl (Nat.le_of_ble_eq_true rfl) ⟨Nat.le_of_ble_eq_true rfl, Nat.le_of_ble_eq_true rfl⟩ ?_
            rintro _ ⟨⟩ rfl
            change J p l e rm_X10_arc s m args below meth c Q G A 9 1 5 89 [(0, .ref x0), (1, .long cx), (3, .long cy), (5, .long r), (7, .int fo), (8, .int tw)] [.int (nI N)] [(x0, .inr (9, [.ref xs, .int (nI (N + 1)), .ref po, .ref ro, .ref cr, .ref gp, .ref nu, .ref wk])), (xs, aS G 200 (va_up f N (some q_1))), (q_1, .inr (0, [.long cx, .long cy, .long r, .int fo, .int tw]))]
            refine j_widen (kc' := 1) (ks' := 6) (by decide) (by decide) ?_
            exact E.2.1 89 _ (nI N) q_1 _ dX10_arc_89 rfl hr rfl
          · skip
            rw [bI_0] at c_57
            exfalso; omega
      · skip
        first | simp only [cmp_eq, cmp_lt, cmp_ge, cmp_gt, cmp_le, lT0, lT1] at c_31 | simp only [Int32.le_iff_toInt_le, Int32.lt_iff_toInt_lt, ← Int32.toInt_inj, iT0, iT1, iT2, iT3, iT4, iT5, iT6, iT7, iT8, iT9, iT10, iT11, iT12, iT13, iT14, iT15, iT16, iT19, iT20, iT31, iT32, iT42, iT64, iT200, iT318, iT319, iT1000, iTm1, iTm2] at c_31
        rw [show (4611686018427387904 : Int64).toInt = 4611686018427387904 from rfl] at c_31
        exfalso; omega
  · skip
    rw [bI_0] at c_5
    exfalso; omega

theorem hy_X10_arc_V : yX10_arc.cls = RX10 ∧ yX10_arc.cls ≠ "java/lang/invoke/MethodHandle" ∧ yX10_arc.cls ≠ "java/lang/invoke/VarHandle" ∧ (parseMethodDescriptor yX10_arc.desc).map (fun d => d.parameters.length) = some 5 := by decide +kernel
abbrev rm_X10_arc_no : Room := { frames := 6, cells := 1, slots := 6, locals := 90 }
theorem ta_X10_arc_65 : (Cond.classLink RX10 65 eA ∈ wsX10_arc) ∧ (Cond.initialized eA ∈ wsX10_arc) := by decide +kernel
theorem tb_X10_arc_69 : ∀ w ∈ (vx_atS RX10 69 eA ["java/lang/RuntimeException", "java/lang/Exception"]).filter goodWord, w ∈ wsX10_arc := fun w h => List.mem_cons_of_mem _ (List.mem_append_right _ h)
set_option maxHeartbeats 4000000 in
set_option maxRecDepth 100000 in
theorem c_X10_arc_no (l : Launch) (G : jG) (hst : l.stackTraces = false) (x0 xs po ro cr gp nu wk : Nat) (cn : Int32) (cx cy r : Int64) (fo tw : Int32) (hP : ¬ ((inC cx.toInt ∧ inC cy.toInt) ∧ (1 ≤ r.toInt ∧ r.toInt ≤ 4611686018427387904) ∧ (0 ≤ fo.toInt ∧ fo.toInt < 8) ∧ (0 ≤ tw.toInt ∧ tw.toInt < 8))) : CtX l yX10_arc wsX10_arc rm_X10_arc_no G [.ref x0, .long cx, .long cy, .long r, .int fo, .int tw] [(x0, .inr (9, [.ref xs, .int cn, .ref po, .ref ro, .ref cr, .ref gp, .ref nu, .ref wk]))] eA (S := Unit) (fun _ => True) (fun _ => [(x0, .inr (9, [.ref xs, .int cn, .ref po, .ref ro, .ref cr, .ref gp, .ref nu, .ref wk]))]) := by
  refine c_introX (cc := cX10_arc) (maxL := 9) (ret := (some .int)) (by decide) rfl (Nat.le_of_ble_eq_true rfl) (fun _ => by simp only [List.map_cons, List.map_nil]) ?_
  intro p e s m args below meth c Q A hQ X XF hlk htb
  change J p l e rm_X10_arc_no s m args below meth c Q G A 9 0 0 0 [(0, .ref x0), (1, .long cx), (3, .long cy), (5, .long r), (7, .int fo), (8, .int tw)] [] [(x0, .inr (9, [.ref xs, .int cn, .ref po, .ref ro, .ref cr, .ref gp, .ref nu, .ref wk]))]
  refine j_lload_n X dX10_arc_0 rfl 1 rfl ?_
  refine j_lload_n X dX10_arc_1 rfl 2 rfl ?_
  refine j_callS X dX10_arc_2 (c_X10_isPlace l G cx cy) gX10_arc_X10_isPlace rfl hy_X10_isPlace_S ⟨Nat.le_of_ble_eq_true rfl, Nat.le_of_ble_eq_true rfl⟩ [] rfl (by decide) rfl rfl (Nat.le_of_ble_eq_true rfl) ⟨Nat.le_of_ble_eq_true rfl, Nat.le_of_ble_eq_true rfl⟩ ?_
  rintro _ ⟨⟩ rfl
  change J p l e rm_X10_arc_no s m args below meth c Q G A 9 0 0 5 [(0, .ref x0), (1, .long cx), (3, .long cy), (5, .long r), (7, .int fo), (8, .int tw)] [.int (bI (inC cx.toInt ∧ inC cy.toInt))] [(x0, .inr (9, [.ref xs, .int cn, .ref po, .ref ro, .ref cr, .ref gp, .ref nu, .ref wk]))]
  refine j_if_ne (tgt := 18) X dX10_arc_5 (by decide) (fun c_5 => ?_) (fun c_5 => ?_)
  · skip
    rw [bI_0, Classical.not_not] at c_5
    refine j_lload X dX10_arc_18 3 rfl ?_
    refine j_lconst (v := 1) X dX10_arc_20 rfl ?_
    refine j_lcmp X dX10_arc_21 ?_
    refine j_if_lt (tgt := 34) X dX10_arc_22 (by decide) (fun c_22 => ?_) (fun c_22 => ?_)
    · skip
      first | simp only [cmp_eq, cmp_lt, cmp_ge, cmp_gt, cmp_le, lT0, lT1] at c_22 | simp only [Int32.le_iff_toInt_le, Int32.lt_iff_toInt_lt, ← Int32.toInt_inj, iT0, iT1, iT2, iT3, iT4, iT5, iT6, iT7, iT8, iT9, iT10, iT11, iT12, iT13, iT14, iT15, iT16, iT19, iT20, iT31, iT32, iT42, iT64, iT200, iT318, iT319, iT1000, iTm1, iTm2] at c_22
      subst hQ
      exact j_throwS (cls := eA) (text := "no such \x72") (names := ["java/lang/RuntimeException", "java/lang/Exception"]) X rfl hst XF hlk htb dX10_arc_34 dX10_arc_37 dX10_arc_38 dX10_arc_40 dX10_arc_43 (by decide +kernel) (by decide +kernel) ta_X10_arc_65.1 ta_X10_arc_65.2 (by decide +kernel) (by decide +kernel) tb_X10_arc_69 tc_69 td_69 (Nat.le_of_ble_eq_true rfl) (Nat.le_of_ble_eq_true rfl) (Nat.le_of_ble_eq_true rfl) (Nat.le_of_ble_eq_true rfl) () trivial rfl
    · skip
      first | simp only [cmp_eq, cmp_lt, cmp_ge, cmp_gt, cmp_le, lT0, lT1] at c_22 | simp only [Int32.le_iff_toInt_le, Int32.lt_iff_toInt_lt, ← Int32.toInt_inj, iT0, iT1, iT2, iT3, iT4, iT5, iT6, iT7, iT8, iT9, iT10, iT11, iT12, iT13, iT14, iT15, iT16, iT19, iT20, iT31, iT32, iT42, iT64, iT200, iT318, iT319, iT1000, iTm1, iTm2] at c_22
      refine j_lload X dX10_arc_25 3 rfl ?_
      refine j_ldc2 (v := 4611686018427387904) X dX10_arc_27 k_X10_arc_90 ?_
      refine j_lcmp X dX10_arc_30 ?_
      refine j_if_le (tgt := 44) X dX10_arc_31 (by decide) (fun c_31 => ?_) (fun c_31 => ?_)
      · skip
        first | simp only [cmp_eq, cmp_lt, cmp_ge, cmp_gt, cmp_le, lT0, lT1] at c_31 | simp only [Int32.le_iff_toInt_le, Int32.lt_iff_toInt_lt, ← Int32.toInt_inj, iT0, iT1, iT2, iT3, iT4, iT5, iT6, iT7, iT8, iT9, iT10, iT11, iT12, iT13, iT14, iT15, iT16, iT19, iT20, iT31, iT32, iT42, iT64, iT200, iT318, iT319, iT1000, iTm1, iTm2] at c_31
        rw [show (4611686018427387904 : Int64).toInt = 4611686018427387904 from rfl] at c_31
        refine j_iload X dX10_arc_44 4 rfl ?_
        refine j_callS X dX10_arc_46 (c_X10_isDirection l G fo) gX10_arc_X10_isDirection rfl hy_X10_isDirection_S ⟨Nat.le_of_ble_eq_true rfl, Nat.le_of_ble_eq_true rfl⟩ [] rfl (by decide) rfl rfl (Nat.le_of_ble_eq_true rfl) ⟨Nat.le_of_ble_eq_true rfl, Nat.le_of_ble_eq_true rfl⟩ ?_
        rintro _ ⟨⟩ rfl
        change J p l e rm_X10_arc_no s m args below meth c Q G A 9 0 0 49 [(0, .ref x0), (1, .long cx), (3, .long cy), (5, .long r), (7, .int fo), (8, .int tw)] [.int (bI (0 ≤ fo.toInt ∧ fo.toInt < 8))] [(x0, .inr (9, [.ref xs, .int cn, .ref po, .ref ro, .ref cr, .ref gp, .ref nu, .ref wk]))]
        refine j_if_eq (tgt := 60) X dX10_arc_49 (by decide) (fun c_49 => ?_) (fun c_49 => ?_)
        · skip
          rw [bI_0] at c_49
          subst hQ
          exact j_throwS (cls := eA) (text := "no such direction") (names := ["java/lang/RuntimeException", "java/lang/Exception"]) X rfl hst XF hlk htb dX10_arc_60 dX10_arc_63 dX10_arc_64 dX10_arc_66 dX10_arc_69 (by decide +kernel) (by decide +kernel) ta_X10_arc_65.1 ta_X10_arc_65.2 (by decide +kernel) (by decide +kernel) tb_X10_arc_69 tc_69 td_69 (Nat.le_of_ble_eq_true rfl) (Nat.le_of_ble_eq_true rfl) (Nat.le_of_ble_eq_true rfl) (Nat.le_of_ble_eq_true rfl) () trivial rfl
        · skip
          rw [bI_0, Classical.not_not] at c_49
          refine j_iload X dX10_arc_52 5 rfl ?_
          refine j_callS X dX10_arc_54 (c_X10_isDirection l G tw) gX10_arc_X10_isDirection rfl hy_X10_isDirection_S ⟨Nat.le_of_ble_eq_true rfl, Nat.le_of_ble_eq_true rfl⟩ [] rfl (by decide) rfl rfl (Nat.le_of_ble_eq_true rfl) ⟨Nat.le_of_ble_eq_true rfl, Nat.le_of_ble_eq_true rfl⟩ ?_
          rintro _ ⟨⟩ rfl
          change J p l e rm_X10_arc_no s m args below meth c Q G A 9 0 0 57 [(0, .ref x0), (1, .long cx), (3, .long cy), (5, .long r), (7, .int fo), (8, .int tw)] [.int (bI (0 ≤ tw.toInt ∧ tw.toInt < 8))] [(x0, .inr (9, [.ref xs, .int cn, .ref po, .ref ro, .ref cr, .ref gp, .ref nu, .ref wk]))]
          refine j_if_ne (tgt := 70) X dX10_arc_57 (by decide) (fun c_57 => ?_) (fun c_57 => ?_)
          · skip
            rw [bI_0, Classical.not_not] at c_57
            exfalso; omega
          · skip
            rw [bI_0] at c_57
            subst hQ
            exact j_throwS (cls := eA) (text := "no such direction") (names := ["java/lang/RuntimeException", "java/lang/Exception"]) X rfl hst XF hlk htb dX10_arc_60 dX10_arc_63 dX10_arc_64 dX10_arc_66 dX10_arc_69 (by decide +kernel) (by decide +kernel) ta_X10_arc_65.1 ta_X10_arc_65.2 (by decide +kernel) (by decide +kernel) tb_X10_arc_69 tc_69 td_69 (Nat.le_of_ble_eq_true rfl) (Nat.le_of_ble_eq_true rfl) (Nat.le_of_ble_eq_true rfl) (Nat.le_of_ble_eq_true rfl) () trivial rfl
      · skip
        first | simp only [cmp_eq, cmp_lt, cmp_ge, cmp_gt, cmp_le, lT0, lT1] at c_31 | simp only [Int32.le_iff_toInt_le, Int32.lt_iff_toInt_lt, ← Int32.toInt_inj, iT0, iT1, iT2, iT3, iT4, iT5, iT6, iT7, iT8, iT9, iT10, iT11, iT12, iT13, iT14, iT15, iT16, iT19, iT20, iT31, iT32, iT42, iT64, iT200, iT318, iT319, iT1000, iTm1, iTm2] at c_31
        rw [show (4611686018427387904 : Int64).toInt = 4611686018427387904 from rfl] at c_31
        subst hQ
        exact j_throwS (cls := eA) (text := "no such \x72") (names := ["java/lang/RuntimeException", "java/lang/Exception"]) X rfl hst XF hlk htb dX10_arc_34 dX10_arc_37 dX10_arc_38 dX10_arc_40 dX10_arc_43 (by decide +kernel) (by decide +kernel) ta_X10_arc_65.1 ta_X10_arc_65.2 (by decide +kernel) (by decide +kernel) tb_X10_arc_69 tc_69 td_69 (Nat.le_of_ble_eq_true rfl) (Nat.le_of_ble_eq_true rfl) (Nat.le_of_ble_eq_true rfl) (Nat.le_of_ble_eq_true rfl) () trivial rfl
  · skip
    rw [bI_0] at c_5
    subst hQ
    exact j_throwS (cls := eA) (text := "no place") (names := ["java/lang/RuntimeException", "java/lang/Exception"]) X rfl hst XF hlk htb dX10_arc_8 dX10_arc_11 dX10_arc_12 dX10_arc_14 dX10_arc_17 (by decide +kernel) (by decide +kernel) ta_X10_arc_65.1 ta_X10_arc_65.2 (by decide +kernel) (by decide +kernel) tb_X10_arc_69 tc_69 td_69 (Nat.le_of_ble_eq_true rfl) (Nat.le_of_ble_eq_true rfl) (Nat.le_of_ble_eq_true rfl) (Nat.le_of_ble_eq_true rfl) () trivial rfl

