abbrev rm_X10_isPlace : Room := { frames := 0, cells := 0, slots := 0, locals := 0 }
theorem k_X10_isPlace_225 : Cond.constantLong RX10 225 (-1099511627776) ∈ wsX10_isPlace := by decide +kernel
theorem k_X10_isPlace_227 : Cond.constantLong RX10 227 (1099511627776) ∈ wsX10_isPlace := by decide +kernel
set_option maxHeartbeats 4000000 in
set_option maxRecDepth 100000 in
theorem c_X10_isPlace (l : Launch) (G : jG) (x y : Int64) : Ct l yX10_isPlace wsX10_isPlace rm_X10_isPlace G [.long x, .long y] [] (S := Unit) (fun r _ => r = some (.int (bI (inC x.toInt ∧ inC y.toInt)))) (fun _ => []) (fun _ => []) := by
  refine c_intro (cc := cX10_isPlace) (maxL := 4) (ret := (some .boolean)) (by decide) rfl (Nat.le_of_ble_eq_true rfl) (fun _ => by simp only [List.map_cons, List.map_nil]) ?_
  intro p e s m args below meth c Q A X hr hin E
  change J p l e rm_X10_isPlace s m args below meth c Q G A 4 0 0 0 [(0, .long x), (2, .long y)] [] []
  refine j_lload_n X dX10_isPlace_0 rfl 0 rfl ?_
  refine j_ldc2 (v := (-1099511627776)) X dX10_isPlace_1 k_X10_isPlace_225 ?_
  refine j_lcmp X dX10_isPlace_4 ?_
  refine j_if_lt (tgt := 36) X dX10_isPlace_5 (by decide) (fun c_5 => ?_) (fun c_5 => ?_)
  · skip
    first | simp only [bI_0, Decidable.not_not, sg_mul, sg_e0, sg_l0, sg_g0, sg_le0, sg_ge0, cmp_eq, cmp_lt, cmp_ge, cmp_gt, cmp_le, lT0, lT1] at c_5 | simp only [Int32.le_iff_toInt_le, Int32.lt_iff_toInt_lt, ← Int32.toInt_inj, iT0, iT1, iT2, iT3, iT4, iT5, iT6, iT7, iT8, iT9, iT10, iT11, iT12, iT13, iT14, iT15, iT16, iT19, iT20, iT31, iT32, iT42, iT64, iT200, iT318, iT319, iT1000, iTm1, iTm2] at c_5 | skip
    rw [show (-1099511627776 : Int64).toInt = -1099511627776 from rfl] at c_5
    refine j_iconst (v := 0) X dX10_isPlace_36 rfl ?_
    exact E.2.1 37 _ 0 () _ dX10_isPlace_37 (by rw [bI_f (by omega)]) hr rfl
  · skip
    first | simp only [bI_0, Decidable.not_not, sg_mul, sg_e0, sg_l0, sg_g0, sg_le0, sg_ge0, cmp_eq, cmp_lt, cmp_ge, cmp_gt, cmp_le, lT0, lT1] at c_5 | simp only [Int32.le_iff_toInt_le, Int32.lt_iff_toInt_lt, ← Int32.toInt_inj, iT0, iT1, iT2, iT3, iT4, iT5, iT6, iT7, iT8, iT9, iT10, iT11, iT12, iT13, iT14, iT15, iT16, iT19, iT20, iT31, iT32, iT42, iT64, iT200, iT318, iT319, iT1000, iTm1, iTm2] at c_5 | skip
    rw [show (-1099511627776 : Int64).toInt = -1099511627776 from rfl] at c_5
    refine j_lload_n X dX10_isPlace_8 rfl 0 rfl ?_
    refine j_ldc2 (v := 1099511627776) X dX10_isPlace_9 k_X10_isPlace_227 ?_
    refine j_lcmp X dX10_isPlace_12 ?_
    refine j_if_gt (tgt := 36) X dX10_isPlace_13 (by decide) (fun c_13 => ?_) (fun c_13 => ?_)
    · skip
      first | simp only [bI_0, Decidable.not_not, sg_mul, sg_e0, sg_l0, sg_g0, sg_le0, sg_ge0, cmp_eq, cmp_lt, cmp_ge, cmp_gt, cmp_le, lT0, lT1] at c_13 | simp only [Int32.le_iff_toInt_le, Int32.lt_iff_toInt_lt, ← Int32.toInt_inj, iT0, iT1, iT2, iT3, iT4, iT5, iT6, iT7, iT8, iT9, iT10, iT11, iT12, iT13, iT14, iT15, iT16, iT19, iT20, iT31, iT32, iT42, iT64, iT200, iT318, iT319, iT1000, iTm1, iTm2] at c_13 | skip
      rw [show (1099511627776 : Int64).toInt = 1099511627776 from rfl] at c_13
      refine j_iconst (v := 0) X dX10_isPlace_36 rfl ?_
      exact E.2.1 37 _ 0 () _ dX10_isPlace_37 (by rw [bI_f (by omega)]) hr rfl
    · skip
      first | simp only [bI_0, Decidable.not_not, sg_mul, sg_e0, sg_l0, sg_g0, sg_le0, sg_ge0, cmp_eq, cmp_lt, cmp_ge, cmp_gt, cmp_le, lT0, lT1] at c_13 | simp only [Int32.le_iff_toInt_le, Int32.lt_iff_toInt_lt, ← Int32.toInt_inj, iT0, iT1, iT2, iT3, iT4, iT5, iT6, iT7, iT8, iT9, iT10, iT11, iT12, iT13, iT14, iT15, iT16, iT19, iT20, iT31, iT32, iT42, iT64, iT200, iT318, iT319, iT1000, iTm1, iTm2] at c_13 | skip
      rw [show (1099511627776 : Int64).toInt = 1099511627776 from rfl] at c_13
      refine j_lload_n X dX10_isPlace_16 rfl 1 rfl ?_
      refine j_ldc2 (v := (-1099511627776)) X dX10_isPlace_17 k_X10_isPlace_225 ?_
      refine j_lcmp X dX10_isPlace_20 ?_
      refine j_if_lt (tgt := 36) X dX10_isPlace_21 (by decide) (fun c_21 => ?_) (fun c_21 => ?_)
      · skip
        first | simp only [bI_0, Decidable.not_not, sg_mul, sg_e0, sg_l0, sg_g0, sg_le0, sg_ge0, cmp_eq, cmp_lt, cmp_ge, cmp_gt, cmp_le, lT0, lT1] at c_21 | simp only [Int32.le_iff_toInt_le, Int32.lt_iff_toInt_lt, ← Int32.toInt_inj, iT0, iT1, iT2, iT3, iT4, iT5, iT6, iT7, iT8, iT9, iT10, iT11, iT12, iT13, iT14, iT15, iT16, iT19, iT20, iT31, iT32, iT42, iT64, iT200, iT318, iT319, iT1000, iTm1, iTm2] at c_21 | skip
        rw [show (-1099511627776 : Int64).toInt = -1099511627776 from rfl] at c_21
        refine j_iconst (v := 0) X dX10_isPlace_36 rfl ?_
        exact E.2.1 37 _ 0 () _ dX10_isPlace_37 (by rw [bI_f (by omega)]) hr rfl
      · skip
        first | simp only [bI_0, Decidable.not_not, sg_mul, sg_e0, sg_l0, sg_g0, sg_le0, sg_ge0, cmp_eq, cmp_lt, cmp_ge, cmp_gt, cmp_le, lT0, lT1] at c_21 | simp only [Int32.le_iff_toInt_le, Int32.lt_iff_toInt_lt, ← Int32.toInt_inj, iT0, iT1, iT2, iT3, iT4, iT5, iT6, iT7, iT8, iT9, iT10, iT11, iT12, iT13, iT14, iT15, iT16, iT19, iT20, iT31, iT32, iT42, iT64, iT200, iT318, iT319, iT1000, iTm1, iTm2] at c_21 | skip
        rw [show (-1099511627776 : Int64).toInt = -1099511627776 from rfl] at c_21
        refine j_lload_n X dX10_isPlace_24 rfl 1 rfl ?_
        refine j_ldc2 (v := 1099511627776) X dX10_isPlace_25 k_X10_isPlace_227 ?_
        refine j_lcmp X dX10_isPlace_28 ?_
        refine j_if_gt (tgt := 36) X dX10_isPlace_29 (by decide) (fun c_29 => ?_) (fun c_29 => ?_)
        · skip
          first | simp only [bI_0, Decidable.not_not, sg_mul, sg_e0, sg_l0, sg_g0, sg_le0, sg_ge0, cmp_eq, cmp_lt, cmp_ge, cmp_gt, cmp_le, lT0, lT1] at c_29 | simp only [Int32.le_iff_toInt_le, Int32.lt_iff_toInt_lt, ← Int32.toInt_inj, iT0, iT1, iT2, iT3, iT4, iT5, iT6, iT7, iT8, iT9, iT10, iT11, iT12, iT13, iT14, iT15, iT16, iT19, iT20, iT31, iT32, iT42, iT64, iT200, iT318, iT319, iT1000, iTm1, iTm2] at c_29 | skip
          rw [show (1099511627776 : Int64).toInt = 1099511627776 from rfl] at c_29
          refine j_iconst (v := 0) X dX10_isPlace_36 rfl ?_
          exact E.2.1 37 _ 0 () _ dX10_isPlace_37 (by rw [bI_f (by omega)]) hr rfl
        · skip
          first | simp only [bI_0, Decidable.not_not, sg_mul, sg_e0, sg_l0, sg_g0, sg_le0, sg_ge0, cmp_eq, cmp_lt, cmp_ge, cmp_gt, cmp_le, lT0, lT1] at c_29 | simp only [Int32.le_iff_toInt_le, Int32.lt_iff_toInt_lt, ← Int32.toInt_inj, iT0, iT1, iT2, iT3, iT4, iT5, iT6, iT7, iT8, iT9, iT10, iT11, iT12, iT13, iT14, iT15, iT16, iT19, iT20, iT31, iT32, iT42, iT64, iT200, iT318, iT319, iT1000, iTm1, iTm2] at c_29 | skip
          rw [show (1099511627776 : Int64).toInt = 1099511627776 from rfl] at c_29
          refine j_iconst (v := 1) X dX10_isPlace_32 rfl ?_
          refine j_goto (tgt := 37) X dX10_isPlace_33 (by decide) ?_
          exact E.2.1 37 _ 1 () _ dX10_isPlace_37 (by rw [bI_t (by omega)]) hr rfl

theorem hy_X10_isPlace_S : yX10_isPlace.cls ≠ "java/lang/invoke/MethodHandle" ∧ yX10_isPlace.cls ≠ "java/lang/invoke/VarHandle" ∧ (parseMethodDescriptor yX10_isPlace.desc).map (fun d => d.parameters.length) = some 2 := by decide +kernel
abbrev rm_X10_isDirection : Room := { frames := 0, cells := 0, slots := 0, locals := 0 }
set_option maxHeartbeats 4000000 in
set_option maxRecDepth 100000 in
theorem c_X10_isDirection (l : Launch) (G : jG) (x : Int32) : Ct l yX10_isDirection wsX10_isDirection rm_X10_isDirection G [.int x] [] (S := Unit) (fun r _ => r = some (.int (bI (0 ≤ x.toInt ∧ x.toInt < 8)))) (fun _ => []) (fun _ => []) := by
  refine c_intro (cc := cX10_isDirection) (maxL := 1) (ret := (some .boolean)) (by decide) rfl (Nat.le_of_ble_eq_true rfl) (fun _ => by simp only [List.map_cons, List.map_nil]) ?_
  intro p e s m args below meth c Q A X hr hin E
  change J p l e rm_X10_isDirection s m args below meth c Q G A 1 0 0 0 [(0, .int x)] [] []
  refine j_iload_n X dX10_isDirection_0 rfl 0 rfl ?_
  refine j_if_lt (tgt := 14) X dX10_isDirection_1 (by decide) (fun c_1 => ?_) (fun c_1 => ?_)
  · skip
    first | simp only [bI_0, Decidable.not_not, sg_mul, sg_e0, sg_l0, sg_g0, sg_le0, sg_ge0, cmp_eq, cmp_lt, cmp_ge, cmp_gt, cmp_le, lT0, lT1] at c_1 | simp only [Int32.le_iff_toInt_le, Int32.lt_iff_toInt_lt, ← Int32.toInt_inj, iT0, iT1, iT2, iT3, iT4, iT5, iT6, iT7, iT8, iT9, iT10, iT11, iT12, iT13, iT14, iT15, iT16, iT19, iT20, iT31, iT32, iT42, iT64, iT200, iT318, iT319, iT1000, iTm1, iTm2] at c_1 | skip
    refine j_iconst (v := 0) X dX10_isDirection_14 rfl ?_
    exact E.2.1 15 _ 0 () _ dX10_isDirection_15 (by rw [bI_f (by omega)]) hr rfl
  · skip
    first | simp only [bI_0, Decidable.not_not, sg_mul, sg_e0, sg_l0, sg_g0, sg_le0, sg_ge0, cmp_eq, cmp_lt, cmp_ge, cmp_gt, cmp_le, lT0, lT1] at c_1 | simp only [Int32.le_iff_toInt_le, Int32.lt_iff_toInt_lt, ← Int32.toInt_inj, iT0, iT1, iT2, iT3, iT4, iT5, iT6, iT7, iT8, iT9, iT10, iT11, iT12, iT13, iT14, iT15, iT16, iT19, iT20, iT31, iT32, iT42, iT64, iT200, iT318, iT319, iT1000, iTm1, iTm2] at c_1 | skip
    refine j_iload_n X dX10_isDirection_4 rfl 0 rfl ?_
    refine j_bipush (v := 8) X dX10_isDirection_5 (by decide) ?_
    refine j_icmp_ge (tgt := 14) X dX10_isDirection_7 (by decide) (fun c_7 => ?_) (fun c_7 => ?_)
    · skip
      first | simp only [bI_0, Decidable.not_not, sg_mul, sg_e0, sg_l0, sg_g0, sg_le0, sg_ge0, cmp_eq, cmp_lt, cmp_ge, cmp_gt, cmp_le, lT0, lT1] at c_7 | simp only [Int32.le_iff_toInt_le, Int32.lt_iff_toInt_lt, ← Int32.toInt_inj, iT0, iT1, iT2, iT3, iT4, iT5, iT6, iT7, iT8, iT9, iT10, iT11, iT12, iT13, iT14, iT15, iT16, iT19, iT20, iT31, iT32, iT42, iT64, iT200, iT318, iT319, iT1000, iTm1, iTm2] at c_7 | skip
      refine j_iconst (v := 0) X dX10_isDirection_14 rfl ?_
      exact E.2.1 15 _ 0 () _ dX10_isDirection_15 (by rw [bI_f (by omega)]) hr rfl
    · skip
      first | simp only [bI_0, Decidable.not_not, sg_mul, sg_e0, sg_l0, sg_g0, sg_le0, sg_ge0, cmp_eq, cmp_lt, cmp_ge, cmp_gt, cmp_le, lT0, lT1] at c_7 | simp only [Int32.le_iff_toInt_le, Int32.lt_iff_toInt_lt, ← Int32.toInt_inj, iT0, iT1, iT2, iT3, iT4, iT5, iT6, iT7, iT8, iT9, iT10, iT11, iT12, iT13, iT14, iT15, iT16, iT19, iT20, iT31, iT32, iT42, iT64, iT200, iT318, iT319, iT1000, iTm1, iTm2] at c_7 | skip
      refine j_iconst (v := 1) X dX10_isDirection_10 rfl ?_
      refine j_goto (tgt := 15) X dX10_isDirection_11 (by decide) ?_
      exact E.2.1 15 _ 1 () _ dX10_isDirection_15 (by rw [bI_t (by omega)]) hr rfl

theorem hy_X10_isDirection_S : yX10_isDirection.cls ≠ "java/lang/invoke/MethodHandle" ∧ yX10_isDirection.cls ≠ "java/lang/invoke/VarHandle" ∧ (parseMethodDescriptor yX10_isDirection.desc).map (fun d => d.parameters.length) = some 1 := by decide +kernel
abbrev rm_X10_isRounding : Room := { frames := 0, cells := 0, slots := 0, locals := 0 }
set_option maxHeartbeats 4000000 in
set_option maxRecDepth 100000 in
theorem c_X10_isRounding (l : Launch) (G : jG) (x : Int32) : Ct l yX10_isRounding wsX10_isRounding rm_X10_isRounding G [.int x] [] (S := Unit) (fun r _ => r = some (.int (bI (0 ≤ x.toInt ∧ x.toInt ≤ 2)))) (fun _ => []) (fun _ => []) := by
  refine c_intro (cc := cX10_isRounding) (maxL := 1) (ret := (some .boolean)) (by decide) rfl (Nat.le_of_ble_eq_true rfl) (fun _ => by simp only [List.map_cons, List.map_nil]) ?_
  intro p e s m args below meth c Q A X hr hin E
  change J p l e rm_X10_isRounding s m args below meth c Q G A 1 0 0 0 [(0, .int x)] [] []
  refine j_iload_n X dX10_isRounding_0 rfl 0 rfl ?_
  refine j_if_eq (tgt := 14) X dX10_isRounding_1 (by decide) (fun c_1 => ?_) (fun c_1 => ?_)
  · skip
    first | simp only [bI_0, Decidable.not_not, sg_mul, sg_e0, sg_l0, sg_g0, sg_le0, sg_ge0, cmp_eq, cmp_lt, cmp_ge, cmp_gt, cmp_le, lT0, lT1] at c_1 | simp only [Int32.le_iff_toInt_le, Int32.lt_iff_toInt_lt, ← Int32.toInt_inj, iT0, iT1, iT2, iT3, iT4, iT5, iT6, iT7, iT8, iT9, iT10, iT11, iT12, iT13, iT14, iT15, iT16, iT19, iT20, iT31, iT32, iT42, iT64, iT200, iT318, iT319, iT1000, iTm1, iTm2] at c_1 | skip
    refine j_iconst (v := 1) X dX10_isRounding_14 rfl ?_
    refine j_goto (tgt := 19) X dX10_isRounding_15 (by decide) ?_
    exact E.2.1 19 _ 1 () _ dX10_isRounding_19 (by rw [bI_t (by omega)]) hr rfl
  · skip
    first | simp only [bI_0, Decidable.not_not, sg_mul, sg_e0, sg_l0, sg_g0, sg_le0, sg_ge0, cmp_eq, cmp_lt, cmp_ge, cmp_gt, cmp_le, lT0, lT1] at c_1 | simp only [Int32.le_iff_toInt_le, Int32.lt_iff_toInt_lt, ← Int32.toInt_inj, iT0, iT1, iT2, iT3, iT4, iT5, iT6, iT7, iT8, iT9, iT10, iT11, iT12, iT13, iT14, iT15, iT16, iT19, iT20, iT31, iT32, iT42, iT64, iT200, iT318, iT319, iT1000, iTm1, iTm2] at c_1 | skip
    refine j_iload_n X dX10_isRounding_4 rfl 0 rfl ?_
    refine j_iconst (v := 1) X dX10_isRounding_5 rfl ?_
    refine j_icmp_eq (tgt := 14) X dX10_isRounding_6 (by decide) (fun c_6 => ?_) (fun c_6 => ?_)
    · skip
      first | simp only [bI_0, Decidable.not_not, sg_mul, sg_e0, sg_l0, sg_g0, sg_le0, sg_ge0, cmp_eq, cmp_lt, cmp_ge, cmp_gt, cmp_le, lT0, lT1] at c_6 | simp only [Int32.le_iff_toInt_le, Int32.lt_iff_toInt_lt, ← Int32.toInt_inj, iT0, iT1, iT2, iT3, iT4, iT5, iT6, iT7, iT8, iT9, iT10, iT11, iT12, iT13, iT14, iT15, iT16, iT19, iT20, iT31, iT32, iT42, iT64, iT200, iT318, iT319, iT1000, iTm1, iTm2] at c_6 | skip
      refine j_iconst (v := 1) X dX10_isRounding_14 rfl ?_
      refine j_goto (tgt := 19) X dX10_isRounding_15 (by decide) ?_
      exact E.2.1 19 _ 1 () _ dX10_isRounding_19 (by rw [bI_t (by omega)]) hr rfl
    · skip
      first | simp only [bI_0, Decidable.not_not, sg_mul, sg_e0, sg_l0, sg_g0, sg_le0, sg_ge0, cmp_eq, cmp_lt, cmp_ge, cmp_gt, cmp_le, lT0, lT1] at c_6 | simp only [Int32.le_iff_toInt_le, Int32.lt_iff_toInt_lt, ← Int32.toInt_inj, iT0, iT1, iT2, iT3, iT4, iT5, iT6, iT7, iT8, iT9, iT10, iT11, iT12, iT13, iT14, iT15, iT16, iT19, iT20, iT31, iT32, iT42, iT64, iT200, iT318, iT319, iT1000, iTm1, iTm2] at c_6 | skip
      refine j_iload_n X dX10_isRounding_9 rfl 0 rfl ?_
      refine j_iconst (v := 2) X dX10_isRounding_10 rfl ?_
      refine j_icmp_ne (tgt := 18) X dX10_isRounding_11 (by decide) (fun c_11 => ?_) (fun c_11 => ?_)
      · skip
        first | simp only [bI_0, Decidable.not_not, sg_mul, sg_e0, sg_l0, sg_g0, sg_le0, sg_ge0, cmp_eq, cmp_lt, cmp_ge, cmp_gt, cmp_le, lT0, lT1] at c_11 | simp only [Int32.le_iff_toInt_le, Int32.lt_iff_toInt_lt, ← Int32.toInt_inj, iT0, iT1, iT2, iT3, iT4, iT5, iT6, iT7, iT8, iT9, iT10, iT11, iT12, iT13, iT14, iT15, iT16, iT19, iT20, iT31, iT32, iT42, iT64, iT200, iT318, iT319, iT1000, iTm1, iTm2] at c_11 | skip
        refine j_iconst (v := 0) X dX10_isRounding_18 rfl ?_
        exact E.2.1 19 _ 0 () _ dX10_isRounding_19 (by rw [bI_f (by omega)]) hr rfl
      · skip
        first | simp only [bI_0, Decidable.not_not, sg_mul, sg_e0, sg_l0, sg_g0, sg_le0, sg_ge0, cmp_eq, cmp_lt, cmp_ge, cmp_gt, cmp_le, lT0, lT1] at c_11 | simp only [Int32.le_iff_toInt_le, Int32.lt_iff_toInt_lt, ← Int32.toInt_inj, iT0, iT1, iT2, iT3, iT4, iT5, iT6, iT7, iT8, iT9, iT10, iT11, iT12, iT13, iT14, iT15, iT16, iT19, iT20, iT31, iT32, iT42, iT64, iT200, iT318, iT319, iT1000, iTm1, iTm2] at c_11 | skip
        refine j_iconst (v := 1) X dX10_isRounding_14 rfl ?_
        refine j_goto (tgt := 19) X dX10_isRounding_15 (by decide) ?_
        exact E.2.1 19 _ 1 () _ dX10_isRounding_19 (by rw [bI_t (by omega)]) hr rfl

theorem hy_X10_isRounding_S : yX10_isRounding.cls ≠ "java/lang/invoke/MethodHandle" ∧ yX10_isRounding.cls ≠ "java/lang/invoke/VarHandle" ∧ (parseMethodDescriptor yX10_isRounding.desc).map (fun d => d.parameters.length) = some 1 := by decide +kernel
abbrev rm_X10_wholeRoot : Room := { frames := 0, cells := 0, slots := 0, locals := 0 }
theorem k_X10_wholeRoot_229 : Cond.constantLong RX10 229 (3037000499) ∈ wsX10_wholeRoot := by decide +kernel
set_option maxHeartbeats 4000000 in
set_option maxRecDepth 100000 in
theorem c_X10_wholeRoot (l : Launch) (G : jG) (v : Int64) (hv : 0 ≤ v.toInt) : Ct l yX10_wholeRoot wsX10_wholeRoot rm_X10_wholeRoot G [.long v] [] (S := Int64) (fun x (u : Int64) => x = some (.long u) ∧ rtR v.toInt u.toInt ∧ u.toInt ≤ 3037000499) (fun _ => []) (fun _ => []) := by
  refine c_intro (cc := cX10_wholeRoot) (maxL := 7) (ret := (some .long)) (by decide) rfl (Nat.le_of_ble_eq_true rfl) (fun _ => by simp only [List.map_cons, List.map_nil]) ?_
  intro p e s m args below meth c Q A X hr hin E
  change J p l e rm_X10_wholeRoot s m args below meth c Q G A 7 0 0 0 [(0, .long v)] [] []
  refine j_lconst (v := 0) X dX10_wholeRoot_0 rfl ?_
  refine j_lstore_n (L' := [(2, .long 0), (0, .long v)]) X dX10_wholeRoot_1 rfl (by decide) rfl ?_
  refine j_bipush (v := 31) X dX10_wholeRoot_2 (by decide) ?_
  refine j_istore (L' := [(4, .int 31), (2, .long 0), (0, .long v)]) X dX10_wholeRoot_4 (by decide) rfl ?_
  have loop : ∀ (d : Nat) (k : Nat) (t : Int32) (r : Int64) (hk : k ≤ 32) (ht : t.toInt = (k : Int) - 1) (hrr : 0 ≤ r.toInt ∧ r.toInt ≤ 3037000499) (hl : r.toInt * r.toInt ≤ v.toInt) (hh : v.toInt < (r.toInt + 2 ^ k) * (r.toInt + 2 ^ k)), k < d → J p l e rm_X10_wholeRoot s m args below meth c Q G A 7 0 0 6 [(0, .long v), (2, .long r), (4, .int t)] [] [] := by
    intro d
    induction d with
    | zero => intro k t r hk ht hrr hl hh hd0; exact absurd hd0 (Nat.not_lt_zero _)
    | succ d ih =>
      intro k t r hk ht hrr hl hh hd0
      refine j_iload X dX10_wholeRoot_6 2 rfl ?_
      refine j_if_lt (tgt := 47) X dX10_wholeRoot_8 (by decide) (fun c_8 => ?_) (fun c_8 => ?_)
      · skip
        first | simp only [cmp_eq, cmp_lt, cmp_ge, cmp_gt, cmp_le, lT0, lT1] at c_8 | simp only [Int32.le_iff_toInt_le, Int32.lt_iff_toInt_lt, ← Int32.toInt_inj, iT0, iT1, iT2, iT3, iT4, iT5, iT6, iT7, iT8, iT9, iT10, iT11, iT12, iT13, iT14, iT15, iT16, iT19, iT20, iT31, iT32, iT42, iT64, iT200, iT318, iT319, iT1000, iTm1, iTm2] at c_8
        have hk0 : k = 0 := by omega
        subst hk0
        refine j_lload_n X dX10_wholeRoot_47 rfl 1 rfl ?_
        exact E.2.2 48 _ r r dX10_wholeRoot_48 (⟨rfl, wr_e hrr.1 hl hh, hrr.2⟩) hr
      · skip
        first | simp only [cmp_eq, cmp_lt, cmp_ge, cmp_gt, cmp_le, lT0, lT1] at c_8 | simp only [Int32.le_iff_toInt_le, Int32.lt_iff_toInt_lt, ← Int32.toInt_inj, iT0, iT1, iT2, iT3, iT4, iT5, iT6, iT7, iT8, iT9, iT10, iT11, iT12, iT13, iT14, iT15, iT16, iT19, iT20, iT31, iT32, iT42, iT64, iT200, iT318, iT319, iT1000, iTm1, iTm2] at c_8
        obtain ⟨k, rfl⟩ : ∃ k1, k = k1 + 1 := ⟨k - 1, by omega⟩
        have ht1 : t.toInt = (k : Int) := by omega
        refine j_lload_n X dX10_wholeRoot_11 rfl 1 rfl ?_
        refine j_lconst (v := 1) X dX10_wholeRoot_12 rfl ?_
        refine j_iload X dX10_wholeRoot_13 2 rfl ?_
        obtain ⟨x_1, ex_1⟩ : ∃ z9 : Int64, 1 <<< (t.toInt64 &&& 63) = z9 := ⟨_, rfl⟩
        refine j_lshl (v := x_1) X dX10_wholeRoot_15 ex_1 ?_
        refine j_ladd X dX10_wholeRoot_16 ?_
        refine j_topl (fun x_2 ex_2 => ?_)
        refine j_lstore (L' := [(5, .long x_2), (0, .long v), (2, .long r), (4, .int t)]) X dX10_wholeRoot_17 (by decide) rfl ?_
        refine j_lload X dX10_wholeRoot_19 0 rfl ?_
        refine j_ldc2 (v := 3037000499) X dX10_wholeRoot_21 k_X10_wholeRoot_229 ?_
        refine j_lcmp X dX10_wholeRoot_24 ?_
        refine j_if_gt (tgt := 41) X dX10_wholeRoot_25 (by decide) (fun c_25 => ?_) (fun c_25 => ?_)
        · skip
          first | simp only [cmp_eq, cmp_lt, cmp_ge, cmp_gt, cmp_le, lT0, lT1] at c_25 | simp only [Int32.le_iff_toInt_le, Int32.lt_iff_toInt_lt, ← Int32.toInt_inj, iT0, iT1, iT2, iT3, iT4, iT5, iT6, iT7, iT8, iT9, iT10, iT11, iT12, iT13, iT14, iT15, iT16, iT19, iT20, iT31, iT32, iT42, iT64, iT200, iT318, iT319, iT1000, iTm1, iTm2] at c_25
          rw [show (3037000499 : Int64).toInt = 3037000499 from rfl] at c_25
          have hy9 : x_2.toInt = r.toInt + 2 ^ k := wr_n hrr (by omega) (rd_sh ht1 (by omega) ex_1) ex_2
          have hp9 := rd_p k
          have hup : v.toInt < x_2.toInt * x_2.toInt := wr_big (by omega)
          obtain ⟨x_3, ex_3⟩ : ∃ y9 : Int32, y9 = t + (-1) := ⟨_, rfl⟩
          refine j_iinc (v := x_3) (L' := [(4, .int x_3), (5, .long x_2), (0, .long v), (2, .long r)]) X dX10_wholeRoot_41 3 rfl (by rw [ex_3]; rfl) (by decide) rfl ?_
          refine j_goto (tgt := 6) X dX10_wholeRoot_44 (by decide) ?_
          refine j_sub [2, 3, 0] rfl ?_
          exact ih k x_3 r (by omega) (by rw [x_dec ht (by omega) ex_3]; omega) hrr hl (by rw [← hy9]; exact hup) (by omega)
        · skip
          first | simp only [cmp_eq, cmp_lt, cmp_ge, cmp_gt, cmp_le, lT0, lT1] at c_25 | simp only [Int32.le_iff_toInt_le, Int32.lt_iff_toInt_lt, ← Int32.toInt_inj, iT0, iT1, iT2, iT3, iT4, iT5, iT6, iT7, iT8, iT9, iT10, iT11, iT12, iT13, iT14, iT15, iT16, iT19, iT20, iT31, iT32, iT42, iT64, iT200, iT318, iT319, iT1000, iTm1, iTm2] at c_25
          rw [show (3037000499 : Int64).toInt = 3037000499 from rfl] at c_25
          have hy9 : x_2.toInt = r.toInt + 2 ^ k := wr_n hrr (by omega) (rd_sh ht1 (by omega) ex_1) ex_2
          have hp9 := rd_p k
          refine j_lload X dX10_wholeRoot_28 0 rfl ?_
          refine j_lload X dX10_wholeRoot_30 0 rfl ?_
          refine j_lmul X dX10_wholeRoot_32 ?_
          refine j_lload_n X dX10_wholeRoot_33 rfl 1 rfl ?_
          refine j_lcmp X dX10_wholeRoot_34 ?_
          refine j_if_gt (tgt := 41) X dX10_wholeRoot_35 (by decide) (fun c_35 => ?_) (fun c_35 => ?_)
          · skip
            first | simp only [cmp_eq, cmp_lt, cmp_ge, cmp_gt, cmp_le, lT0, lT1] at c_35 | simp only [Int32.le_iff_toInt_le, Int32.lt_iff_toInt_lt, ← Int32.toInt_inj, iT0, iT1, iT2, iT3, iT4, iT5, iT6, iT7, iT8, iT9, iT10, iT11, iT12, iT13, iT14, iT15, iT16, iT19, iT20, iT31, iT32, iT42, iT64, iT200, iT318, iT319, iT1000, iTm1, iTm2] at c_35
            rw [wr_m (y := x_2) ⟨by omega, by omega⟩ rfl] at c_35
            have hup : v.toInt < x_2.toInt * x_2.toInt := by omega
            obtain ⟨x_4, ex_4⟩ : ∃ y9 : Int32, y9 = t + (-1) := ⟨_, rfl⟩
            refine j_iinc (v := x_4) (L' := [(4, .int x_4), (5, .long x_2), (0, .long v), (2, .long r)]) X dX10_wholeRoot_41 3 rfl (by rw [ex_4]; rfl) (by decide) rfl ?_
            refine j_goto (tgt := 6) X dX10_wholeRoot_44 (by decide) ?_
            refine j_sub [2, 3, 0] rfl ?_
            exact ih k x_4 r (by omega) (by rw [x_dec ht (by omega) ex_4]; omega) hrr hl (by rw [← hy9]; exact hup) (by omega)
          · skip
            first | simp only [cmp_eq, cmp_lt, cmp_ge, cmp_gt, cmp_le, lT0, lT1] at c_35 | simp only [Int32.le_iff_toInt_le, Int32.lt_iff_toInt_lt, ← Int32.toInt_inj, iT0, iT1, iT2, iT3, iT4, iT5, iT6, iT7, iT8, iT9, iT10, iT11, iT12, iT13, iT14, iT15, iT16, iT19, iT20, iT31, iT32, iT42, iT64, iT200, iT318, iT319, iT1000, iTm1, iTm2] at c_35
            rw [wr_m (y := x_2) ⟨by omega, by omega⟩ rfl] at c_35
            have hlo9 : x_2.toInt * x_2.toInt ≤ v.toInt := by omega
            refine j_lload X dX10_wholeRoot_38 0 rfl ?_
            refine j_lstore_n (L' := [(2, .long x_2), (5, .long x_2), (0, .long v), (4, .int t)]) X dX10_wholeRoot_40 rfl (by decide) rfl ?_
            obtain ⟨x_5, ex_5⟩ : ∃ y9 : Int32, y9 = t + (-1) := ⟨_, rfl⟩
            refine j_iinc (v := x_5) (L' := [(4, .int x_5), (2, .long x_2), (5, .long x_2), (0, .long v)]) X dX10_wholeRoot_41 3 rfl (by rw [ex_5]; rfl) (by decide) rfl ?_
            refine j_goto (tgt := 6) X dX10_wholeRoot_44 (by decide) ?_
            refine j_sub [3, 1, 0] rfl ?_
            exact ih k x_5 x_2 (by omega) (by rw [x_dec ht (by omega) ex_5]; omega) ⟨by omega, by omega⟩ hlo9 (by rw [hy9, Int.add_assoc, ← wr_2]; exact hh) (by omega)
  refine j_sub [2, 1, 0] rfl ?_
  exact loop 33 32 31 0 (by omega) rfl (by rw [lT0]; decide) (by rw [lT0]; omega) (by rw [lT0]; exact wr_0 hv) (by omega)

theorem hy_X10_wholeRoot_S : yX10_wholeRoot.cls ≠ "java/lang/invoke/MethodHandle" ∧ yX10_wholeRoot.cls ≠ "java/lang/invoke/VarHandle" ∧ (parseMethodDescriptor yX10_wholeRoot.desc).map (fun d => d.parameters.length) = some 1 := by decide +kernel
