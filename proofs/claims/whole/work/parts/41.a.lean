abbrev rm_X11_isCoordinate : Room := { frames := 0, cells := 0, slots := 0, locals := 0 }
theorem k_X11_isCoordinate_52 : Cond.constantLong RX11 52 (-1099511627776) ∈ wsX11_isCoordinate := by decide +kernel
theorem k_X11_isCoordinate_54 : Cond.constantLong RX11 54 (1099511627776) ∈ wsX11_isCoordinate := by decide +kernel
set_option maxHeartbeats 4000000 in
set_option maxRecDepth 100000 in
theorem c_X11_isCoordinate (l : Launch) (G : jG) (v : Int64) : Ct l yX11_isCoordinate wsX11_isCoordinate rm_X11_isCoordinate G [.long v] [] (S := Unit) (fun r _ => r = some (.int (bI (inC v.toInt)))) (fun _ => []) (fun _ => []) := by
  refine c_intro (cc := cX11_isCoordinate) (maxL := 2) (ret := (some .boolean)) (by decide) rfl (Nat.le_of_ble_eq_true rfl) (fun _ => by simp only [List.map_cons, List.map_nil]) ?_
  intro p e s m args below meth c Q A X hr hin E
  change J p l e rm_X11_isCoordinate s m args below meth c Q G A 2 0 0 0 [(0, .long v)] [] []
  refine j_lload_n X dX11_isCoordinate_0 rfl 0 rfl ?_
  refine j_ldc2 (v := (-1099511627776)) X dX11_isCoordinate_1 k_X11_isCoordinate_52 ?_
  refine j_lcmp X dX11_isCoordinate_4 ?_
  refine j_if_lt (tgt := 20) X dX11_isCoordinate_5 (by decide) (fun c_5 => ?_) (fun c_5 => ?_)
  · skip
    first | simp only [bI_0, Decidable.not_not, sg_mul, sg_e0, sg_l0, sg_g0, sg_le0, sg_ge0, cmp_eq, cmp_lt, cmp_ge, cmp_gt, cmp_le, lT0, lT1] at c_5 | simp only [Int32.le_iff_toInt_le, Int32.lt_iff_toInt_lt, ← Int32.toInt_inj, iT0, iT1, iT2, iT3, iT4, iT5, iT6, iT7, iT8, iT9, iT10, iT11, iT12, iT13, iT14, iT15, iT16, iT19, iT20, iT31, iT32, iT42, iT64, iT200, iT318, iT319, iT1000, iTm1, iTm2] at c_5 | skip
    rw [show (-1099511627776 : Int64).toInt = -1099511627776 from rfl] at c_5
    refine j_iconst (v := 0) X dX11_isCoordinate_20 rfl ?_
    exact E.2.1 21 _ 0 () _ dX11_isCoordinate_21 (by rw [bI_f (by omega)]) hr rfl
  · skip
    first | simp only [bI_0, Decidable.not_not, sg_mul, sg_e0, sg_l0, sg_g0, sg_le0, sg_ge0, cmp_eq, cmp_lt, cmp_ge, cmp_gt, cmp_le, lT0, lT1] at c_5 | simp only [Int32.le_iff_toInt_le, Int32.lt_iff_toInt_lt, ← Int32.toInt_inj, iT0, iT1, iT2, iT3, iT4, iT5, iT6, iT7, iT8, iT9, iT10, iT11, iT12, iT13, iT14, iT15, iT16, iT19, iT20, iT31, iT32, iT42, iT64, iT200, iT318, iT319, iT1000, iTm1, iTm2] at c_5 | skip
    rw [show (-1099511627776 : Int64).toInt = -1099511627776 from rfl] at c_5
    refine j_lload_n X dX11_isCoordinate_8 rfl 0 rfl ?_
    refine j_ldc2 (v := 1099511627776) X dX11_isCoordinate_9 k_X11_isCoordinate_54 ?_
    refine j_lcmp X dX11_isCoordinate_12 ?_
    refine j_if_gt (tgt := 20) X dX11_isCoordinate_13 (by decide) (fun c_13 => ?_) (fun c_13 => ?_)
    · skip
      first | simp only [bI_0, Decidable.not_not, sg_mul, sg_e0, sg_l0, sg_g0, sg_le0, sg_ge0, cmp_eq, cmp_lt, cmp_ge, cmp_gt, cmp_le, lT0, lT1] at c_13 | simp only [Int32.le_iff_toInt_le, Int32.lt_iff_toInt_lt, ← Int32.toInt_inj, iT0, iT1, iT2, iT3, iT4, iT5, iT6, iT7, iT8, iT9, iT10, iT11, iT12, iT13, iT14, iT15, iT16, iT19, iT20, iT31, iT32, iT42, iT64, iT200, iT318, iT319, iT1000, iTm1, iTm2] at c_13 | skip
      rw [show (1099511627776 : Int64).toInt = 1099511627776 from rfl] at c_13
      refine j_iconst (v := 0) X dX11_isCoordinate_20 rfl ?_
      exact E.2.1 21 _ 0 () _ dX11_isCoordinate_21 (by rw [bI_f (by omega)]) hr rfl
    · skip
      first | simp only [bI_0, Decidable.not_not, sg_mul, sg_e0, sg_l0, sg_g0, sg_le0, sg_ge0, cmp_eq, cmp_lt, cmp_ge, cmp_gt, cmp_le, lT0, lT1] at c_13 | simp only [Int32.le_iff_toInt_le, Int32.lt_iff_toInt_lt, ← Int32.toInt_inj, iT0, iT1, iT2, iT3, iT4, iT5, iT6, iT7, iT8, iT9, iT10, iT11, iT12, iT13, iT14, iT15, iT16, iT19, iT20, iT31, iT32, iT42, iT64, iT200, iT318, iT319, iT1000, iTm1, iTm2] at c_13 | skip
      rw [show (1099511627776 : Int64).toInt = 1099511627776 from rfl] at c_13
      refine j_iconst (v := 1) X dX11_isCoordinate_16 rfl ?_
      refine j_goto (tgt := 21) X dX11_isCoordinate_17 (by decide) ?_
      exact E.2.1 21 _ 1 () _ dX11_isCoordinate_21 (by rw [bI_t (by omega)]) hr rfl

theorem hy_X11_isCoordinate_S : yX11_isCoordinate.cls ≠ "java/lang/invoke/MethodHandle" ∧ yX11_isCoordinate.cls ≠ "java/lang/invoke/VarHandle" ∧ (parseMethodDescriptor yX11_isCoordinate.desc).map (fun d => d.parameters.length) = some 1 := by decide +kernel
abbrev rm_X11_isPlace : Room := { frames := 1, cells := 0, slots := 0, locals := 21 }
set_option maxHeartbeats 4000000 in
set_option maxRecDepth 100000 in
theorem c_X11_isPlace (l : Launch) (G : jG) (x y : Int64) : Ct l yX11_isPlace wsX11_isPlace rm_X11_isPlace G [.long x, .long y] [] (S := Unit) (fun r _ => r = some (.int (bI (inC x.toInt ∧ inC y.toInt)))) (fun _ => []) (fun _ => []) := by
  refine c_intro (cc := cX11_isPlace) (maxL := 4) (ret := (some .boolean)) (by decide) rfl (Nat.le_of_ble_eq_true rfl) (fun _ => by simp only [List.map_cons, List.map_nil]) ?_
  intro p e s m args below meth c Q A X hr hin E
  change J p l e rm_X11_isPlace s m args below meth c Q G A 4 0 0 0 [(0, .long x), (2, .long y)] [] []
  refine j_lload_n X dX11_isPlace_0 rfl 0 rfl ?_
  refine j_callS X dX11_isPlace_1 (c_X11_isCoordinate l G x) gX11_isPlace_X11_isCoordinate rfl hy_X11_isCoordinate_S ⟨Nat.le_of_ble_eq_true rfl, Nat.le_of_ble_eq_true rfl⟩ [] rfl (by decide) rfl rfl (Nat.le_of_ble_eq_true rfl) ⟨Nat.le_of_ble_eq_true rfl, Nat.le_of_ble_eq_true rfl⟩ ?_
  rintro _ ⟨⟩ rfl
  change J p l e rm_X11_isPlace s m args below meth c Q G A 4 0 0 4 [(0, .long x), (2, .long y)] [.int (bI (inC x.toInt))] []
  refine j_if_eq (tgt := 18) X dX11_isPlace_4 (by decide) (fun c_4 => ?_) (fun c_4 => ?_)
  · skip
    first | simp only [bI_0, Decidable.not_not, sg_mul, sg_e0, sg_l0, sg_g0, sg_le0, sg_ge0, cmp_eq, cmp_lt, cmp_ge, cmp_gt, cmp_le, lT0, lT1] at c_4 | simp only [Int32.le_iff_toInt_le, Int32.lt_iff_toInt_lt, ← Int32.toInt_inj, iT0, iT1, iT2, iT3, iT4, iT5, iT6, iT7, iT8, iT9, iT10, iT11, iT12, iT13, iT14, iT15, iT16, iT19, iT20, iT31, iT32, iT42, iT64, iT200, iT318, iT319, iT1000, iTm1, iTm2] at c_4 | skip
    refine j_iconst (v := 0) X dX11_isPlace_18 rfl ?_
    exact E.2.1 19 _ 0 () _ dX11_isPlace_19 (by rw [bI_f (by omega)]) hr rfl
  · skip
    first | simp only [bI_0, Decidable.not_not, sg_mul, sg_e0, sg_l0, sg_g0, sg_le0, sg_ge0, cmp_eq, cmp_lt, cmp_ge, cmp_gt, cmp_le, lT0, lT1] at c_4 | simp only [Int32.le_iff_toInt_le, Int32.lt_iff_toInt_lt, ← Int32.toInt_inj, iT0, iT1, iT2, iT3, iT4, iT5, iT6, iT7, iT8, iT9, iT10, iT11, iT12, iT13, iT14, iT15, iT16, iT19, iT20, iT31, iT32, iT42, iT64, iT200, iT318, iT319, iT1000, iTm1, iTm2] at c_4 | skip
    refine j_lload_n X dX11_isPlace_7 rfl 1 rfl ?_
    refine j_callS X dX11_isPlace_8 (c_X11_isCoordinate l G y) gX11_isPlace_X11_isCoordinate rfl hy_X11_isCoordinate_S ⟨Nat.le_of_ble_eq_true rfl, Nat.le_of_ble_eq_true rfl⟩ [] rfl (by decide) rfl rfl (Nat.le_of_ble_eq_true rfl) ⟨Nat.le_of_ble_eq_true rfl, Nat.le_of_ble_eq_true rfl⟩ ?_
    rintro _ ⟨⟩ rfl
    change J p l e rm_X11_isPlace s m args below meth c Q G A 4 0 0 11 [(0, .long x), (2, .long y)] [.int (bI (inC y.toInt))] []
    refine j_if_eq (tgt := 18) X dX11_isPlace_11 (by decide) (fun c_11 => ?_) (fun c_11 => ?_)
    · skip
      first | simp only [bI_0, Decidable.not_not, sg_mul, sg_e0, sg_l0, sg_g0, sg_le0, sg_ge0, cmp_eq, cmp_lt, cmp_ge, cmp_gt, cmp_le, lT0, lT1] at c_11 | simp only [Int32.le_iff_toInt_le, Int32.lt_iff_toInt_lt, ← Int32.toInt_inj, iT0, iT1, iT2, iT3, iT4, iT5, iT6, iT7, iT8, iT9, iT10, iT11, iT12, iT13, iT14, iT15, iT16, iT19, iT20, iT31, iT32, iT42, iT64, iT200, iT318, iT319, iT1000, iTm1, iTm2] at c_11 | skip
      refine j_iconst (v := 0) X dX11_isPlace_18 rfl ?_
      exact E.2.1 19 _ 0 () _ dX11_isPlace_19 (by rw [bI_f (by omega)]) hr rfl
    · skip
      first | simp only [bI_0, Decidable.not_not, sg_mul, sg_e0, sg_l0, sg_g0, sg_le0, sg_ge0, cmp_eq, cmp_lt, cmp_ge, cmp_gt, cmp_le, lT0, lT1] at c_11 | simp only [Int32.le_iff_toInt_le, Int32.lt_iff_toInt_lt, ← Int32.toInt_inj, iT0, iT1, iT2, iT3, iT4, iT5, iT6, iT7, iT8, iT9, iT10, iT11, iT12, iT13, iT14, iT15, iT16, iT19, iT20, iT31, iT32, iT42, iT64, iT200, iT318, iT319, iT1000, iTm1, iTm2] at c_11 | skip
      refine j_iconst (v := 1) X dX11_isPlace_14 rfl ?_
      refine j_goto (tgt := 19) X dX11_isPlace_15 (by decide) ?_
      exact E.2.1 19 _ 1 () _ dX11_isPlace_19 (by rw [bI_t (by omega)]) hr rfl

theorem hy_X11_isPlace_S : yX11_isPlace.cls ≠ "java/lang/invoke/MethodHandle" ∧ yX11_isPlace.cls ≠ "java/lang/invoke/VarHandle" ∧ (parseMethodDescriptor yX11_isPlace.desc).map (fun d => d.parameters.length) = some 2 := by decide +kernel
abbrev rm_X11_between : Room := { frames := 0, cells := 0, slots := 0, locals := 0 }
set_option maxHeartbeats 4000000 in
set_option maxRecDepth 100000 in
theorem c_X11_between (l : Launch) (G : jG) (v a b : Int64) : Ct l yX11_between wsX11_between rm_X11_between G [.long v, .long a, .long b] [] (S := Unit) (fun r _ => r = some (.int (bI (bw v.toInt a.toInt b.toInt)))) (fun _ => []) (fun _ => []) := by
  refine c_intro (cc := cX11_between) (maxL := 6) (ret := (some .boolean)) (by decide) rfl (Nat.le_of_ble_eq_true rfl) (fun _ => by simp only [List.map_cons, List.map_nil]) ?_
  intro p e s m args below meth c Q A X hr hin E
  change J p l e rm_X11_between s m args below meth c Q G A 6 0 0 0 [(0, .long v), (2, .long a), (4, .long b)] [] []
  refine j_lload_n X dX11_between_0 rfl 1 rfl ?_
  refine j_lload X dX11_between_1 2 rfl ?_
  refine j_lcmp X dX11_between_3 ?_
  refine j_if_gt (tgt := 28) X dX11_between_4 (by decide) (fun c_4 => ?_) (fun c_4 => ?_)
  · skip
    first | simp only [bI_0, Decidable.not_not, sg_mul, sg_e0, sg_l0, sg_g0, sg_le0, sg_ge0, cmp_eq, cmp_lt, cmp_ge, cmp_gt, cmp_le, lT0, lT1] at c_4 | simp only [Int32.le_iff_toInt_le, Int32.lt_iff_toInt_lt, ← Int32.toInt_inj, iT0, iT1, iT2, iT3, iT4, iT5, iT6, iT7, iT8, iT9, iT10, iT11, iT12, iT13, iT14, iT15, iT16, iT19, iT20, iT31, iT32, iT42, iT64, iT200, iT318, iT319, iT1000, iTm1, iTm2] at c_4 | skip
    refine j_lload_n X dX11_between_28 rfl 0 rfl ?_
    refine j_lload X dX11_between_29 2 rfl ?_
    refine j_lcmp X dX11_between_31 ?_
    refine j_if_lt (tgt := 45) X dX11_between_32 (by decide) (fun c_32 => ?_) (fun c_32 => ?_)
    · skip
      first | simp only [bI_0, Decidable.not_not, sg_mul, sg_e0, sg_l0, sg_g0, sg_le0, sg_ge0, cmp_eq, cmp_lt, cmp_ge, cmp_gt, cmp_le, lT0, lT1] at c_32 | simp only [Int32.le_iff_toInt_le, Int32.lt_iff_toInt_lt, ← Int32.toInt_inj, iT0, iT1, iT2, iT3, iT4, iT5, iT6, iT7, iT8, iT9, iT10, iT11, iT12, iT13, iT14, iT15, iT16, iT19, iT20, iT31, iT32, iT42, iT64, iT200, iT318, iT319, iT1000, iTm1, iTm2] at c_32 | skip
      refine j_iconst (v := 0) X dX11_between_45 rfl ?_
      exact E.2.1 46 _ 0 () _ dX11_between_46 (by rw [bI_f (by omega)]) hr rfl
    · skip
      first | simp only [bI_0, Decidable.not_not, sg_mul, sg_e0, sg_l0, sg_g0, sg_le0, sg_ge0, cmp_eq, cmp_lt, cmp_ge, cmp_gt, cmp_le, lT0, lT1] at c_32 | simp only [Int32.le_iff_toInt_le, Int32.lt_iff_toInt_lt, ← Int32.toInt_inj, iT0, iT1, iT2, iT3, iT4, iT5, iT6, iT7, iT8, iT9, iT10, iT11, iT12, iT13, iT14, iT15, iT16, iT19, iT20, iT31, iT32, iT42, iT64, iT200, iT318, iT319, iT1000, iTm1, iTm2] at c_32 | skip
      refine j_lload_n X dX11_between_35 rfl 0 rfl ?_
      refine j_lload_n X dX11_between_36 rfl 1 rfl ?_
      refine j_lcmp X dX11_between_37 ?_
      refine j_if_gt (tgt := 45) X dX11_between_38 (by decide) (fun c_38 => ?_) (fun c_38 => ?_)
      · skip
        first | simp only [bI_0, Decidable.not_not, sg_mul, sg_e0, sg_l0, sg_g0, sg_le0, sg_ge0, cmp_eq, cmp_lt, cmp_ge, cmp_gt, cmp_le, lT0, lT1] at c_38 | simp only [Int32.le_iff_toInt_le, Int32.lt_iff_toInt_lt, ← Int32.toInt_inj, iT0, iT1, iT2, iT3, iT4, iT5, iT6, iT7, iT8, iT9, iT10, iT11, iT12, iT13, iT14, iT15, iT16, iT19, iT20, iT31, iT32, iT42, iT64, iT200, iT318, iT319, iT1000, iTm1, iTm2] at c_38 | skip
        refine j_iconst (v := 0) X dX11_between_45 rfl ?_
        exact E.2.1 46 _ 0 () _ dX11_between_46 (by rw [bI_f (by omega)]) hr rfl
      · skip
        first | simp only [bI_0, Decidable.not_not, sg_mul, sg_e0, sg_l0, sg_g0, sg_le0, sg_ge0, cmp_eq, cmp_lt, cmp_ge, cmp_gt, cmp_le, lT0, lT1] at c_38 | simp only [Int32.le_iff_toInt_le, Int32.lt_iff_toInt_lt, ← Int32.toInt_inj, iT0, iT1, iT2, iT3, iT4, iT5, iT6, iT7, iT8, iT9, iT10, iT11, iT12, iT13, iT14, iT15, iT16, iT19, iT20, iT31, iT32, iT42, iT64, iT200, iT318, iT319, iT1000, iTm1, iTm2] at c_38 | skip
        refine j_iconst (v := 1) X dX11_between_41 rfl ?_
        refine j_goto (tgt := 46) X dX11_between_42 (by decide) ?_
        exact E.2.1 46 _ 1 () _ dX11_between_46 (by rw [bI_t (by omega)]) hr rfl
  · skip
    first | simp only [bI_0, Decidable.not_not, sg_mul, sg_e0, sg_l0, sg_g0, sg_le0, sg_ge0, cmp_eq, cmp_lt, cmp_ge, cmp_gt, cmp_le, lT0, lT1] at c_4 | simp only [Int32.le_iff_toInt_le, Int32.lt_iff_toInt_lt, ← Int32.toInt_inj, iT0, iT1, iT2, iT3, iT4, iT5, iT6, iT7, iT8, iT9, iT10, iT11, iT12, iT13, iT14, iT15, iT16, iT19, iT20, iT31, iT32, iT42, iT64, iT200, iT318, iT319, iT1000, iTm1, iTm2] at c_4 | skip
    refine j_lload_n X dX11_between_7 rfl 0 rfl ?_
    refine j_lload_n X dX11_between_8 rfl 1 rfl ?_
    refine j_lcmp X dX11_between_9 ?_
    refine j_if_lt (tgt := 24) X dX11_between_10 (by decide) (fun c_10 => ?_) (fun c_10 => ?_)
    · skip
      first | simp only [bI_0, Decidable.not_not, sg_mul, sg_e0, sg_l0, sg_g0, sg_le0, sg_ge0, cmp_eq, cmp_lt, cmp_ge, cmp_gt, cmp_le, lT0, lT1] at c_10 | simp only [Int32.le_iff_toInt_le, Int32.lt_iff_toInt_lt, ← Int32.toInt_inj, iT0, iT1, iT2, iT3, iT4, iT5, iT6, iT7, iT8, iT9, iT10, iT11, iT12, iT13, iT14, iT15, iT16, iT19, iT20, iT31, iT32, iT42, iT64, iT200, iT318, iT319, iT1000, iTm1, iTm2] at c_10 | skip
      refine j_iconst (v := 0) X dX11_between_24 rfl ?_
      refine j_goto (tgt := 46) X dX11_between_25 (by decide) ?_
      exact E.2.1 46 _ 0 () _ dX11_between_46 (by rw [bI_f (by omega)]) hr rfl
    · skip
      first | simp only [bI_0, Decidable.not_not, sg_mul, sg_e0, sg_l0, sg_g0, sg_le0, sg_ge0, cmp_eq, cmp_lt, cmp_ge, cmp_gt, cmp_le, lT0, lT1] at c_10 | simp only [Int32.le_iff_toInt_le, Int32.lt_iff_toInt_lt, ← Int32.toInt_inj, iT0, iT1, iT2, iT3, iT4, iT5, iT6, iT7, iT8, iT9, iT10, iT11, iT12, iT13, iT14, iT15, iT16, iT19, iT20, iT31, iT32, iT42, iT64, iT200, iT318, iT319, iT1000, iTm1, iTm2] at c_10 | skip
      refine j_lload_n X dX11_between_13 rfl 0 rfl ?_
      refine j_lload X dX11_between_14 2 rfl ?_
      refine j_lcmp X dX11_between_16 ?_
      refine j_if_gt (tgt := 24) X dX11_between_17 (by decide) (fun c_17 => ?_) (fun c_17 => ?_)
      · skip
        first | simp only [bI_0, Decidable.not_not, sg_mul, sg_e0, sg_l0, sg_g0, sg_le0, sg_ge0, cmp_eq, cmp_lt, cmp_ge, cmp_gt, cmp_le, lT0, lT1] at c_17 | simp only [Int32.le_iff_toInt_le, Int32.lt_iff_toInt_lt, ← Int32.toInt_inj, iT0, iT1, iT2, iT3, iT4, iT5, iT6, iT7, iT8, iT9, iT10, iT11, iT12, iT13, iT14, iT15, iT16, iT19, iT20, iT31, iT32, iT42, iT64, iT200, iT318, iT319, iT1000, iTm1, iTm2] at c_17 | skip
        refine j_iconst (v := 0) X dX11_between_24 rfl ?_
        refine j_goto (tgt := 46) X dX11_between_25 (by decide) ?_
        exact E.2.1 46 _ 0 () _ dX11_between_46 (by rw [bI_f (by omega)]) hr rfl
      · skip
        first | simp only [bI_0, Decidable.not_not, sg_mul, sg_e0, sg_l0, sg_g0, sg_le0, sg_ge0, cmp_eq, cmp_lt, cmp_ge, cmp_gt, cmp_le, lT0, lT1] at c_17 | simp only [Int32.le_iff_toInt_le, Int32.lt_iff_toInt_lt, ← Int32.toInt_inj, iT0, iT1, iT2, iT3, iT4, iT5, iT6, iT7, iT8, iT9, iT10, iT11, iT12, iT13, iT14, iT15, iT16, iT19, iT20, iT31, iT32, iT42, iT64, iT200, iT318, iT319, iT1000, iTm1, iTm2] at c_17 | skip
        refine j_iconst (v := 1) X dX11_between_20 rfl ?_
        refine j_goto (tgt := 46) X dX11_between_21 (by decide) ?_
        exact E.2.1 46 _ 1 () _ dX11_between_46 (by rw [bI_t (by omega)]) hr rfl

theorem hy_X11_between_S : yX11_between.cls ≠ "java/lang/invoke/MethodHandle" ∧ yX11_between.cls ≠ "java/lang/invoke/VarHandle" ∧ (parseMethodDescriptor yX11_between.desc).map (fun d => d.parameters.length) = some 3 := by decide +kernel
abbrev rm_X11_side : Room := { frames := 0, cells := 0, slots := 0, locals := 0 }
set_option maxHeartbeats 4000000 in
set_option maxRecDepth 100000 in
theorem c_X11_side (l : Launch) (G : jG) (v : Int64) : Ct l yX11_side wsX11_side rm_X11_side G [.long v] [] (S := Unit) (fun r _ => r = some (.int (sg v.toInt))) (fun _ => []) (fun _ => []) := by
  refine c_intro (cc := cX11_side) (maxL := 2) (ret := (some .int)) (by decide) rfl (Nat.le_of_ble_eq_true rfl) (fun _ => by simp only [List.map_cons, List.map_nil]) ?_
  intro p e s m args below meth c Q A X hr hin E
  change J p l e rm_X11_side s m args below meth c Q G A 2 0 0 0 [(0, .long v)] [] []
  refine j_lload_n X dX11_side_0 rfl 0 rfl ?_
  refine j_lconst (v := 0) X dX11_side_1 rfl ?_
  refine j_lcmp X dX11_side_2 ?_
  refine j_if_ge (tgt := 10) X dX11_side_3 (by decide) (fun c_3 => ?_) (fun c_3 => ?_)
  · skip
    first | simp only [bI_0, Decidable.not_not, sg_mul, sg_e0, sg_l0, sg_g0, sg_le0, sg_ge0, cmp_eq, cmp_lt, cmp_ge, cmp_gt, cmp_le, lT0, lT1] at c_3 | simp only [Int32.le_iff_toInt_le, Int32.lt_iff_toInt_lt, ← Int32.toInt_inj, iT0, iT1, iT2, iT3, iT4, iT5, iT6, iT7, iT8, iT9, iT10, iT11, iT12, iT13, iT14, iT15, iT16, iT19, iT20, iT31, iT32, iT42, iT64, iT200, iT318, iT319, iT1000, iTm1, iTm2] at c_3 | skip
    refine j_lload_n X dX11_side_10 rfl 0 rfl ?_
    refine j_lconst (v := 0) X dX11_side_11 rfl ?_
    refine j_lcmp X dX11_side_12 ?_
    refine j_if_le (tgt := 20) X dX11_side_13 (by decide) (fun c_13 => ?_) (fun c_13 => ?_)
    · skip
      first | simp only [bI_0, Decidable.not_not, sg_mul, sg_e0, sg_l0, sg_g0, sg_le0, sg_ge0, cmp_eq, cmp_lt, cmp_ge, cmp_gt, cmp_le, lT0, lT1] at c_13 | simp only [Int32.le_iff_toInt_le, Int32.lt_iff_toInt_lt, ← Int32.toInt_inj, iT0, iT1, iT2, iT3, iT4, iT5, iT6, iT7, iT8, iT9, iT10, iT11, iT12, iT13, iT14, iT15, iT16, iT19, iT20, iT31, iT32, iT42, iT64, iT200, iT318, iT319, iT1000, iTm1, iTm2] at c_13 | skip
      refine j_iconst (v := 0) X dX11_side_20 rfl ?_
      exact E.2.1 21 _ 0 () _ dX11_side_21 (by rw [sg_zero (by omega)]) hr rfl
    · skip
      first | simp only [bI_0, Decidable.not_not, sg_mul, sg_e0, sg_l0, sg_g0, sg_le0, sg_ge0, cmp_eq, cmp_lt, cmp_ge, cmp_gt, cmp_le, lT0, lT1] at c_13 | simp only [Int32.le_iff_toInt_le, Int32.lt_iff_toInt_lt, ← Int32.toInt_inj, iT0, iT1, iT2, iT3, iT4, iT5, iT6, iT7, iT8, iT9, iT10, iT11, iT12, iT13, iT14, iT15, iT16, iT19, iT20, iT31, iT32, iT42, iT64, iT200, iT318, iT319, iT1000, iTm1, iTm2] at c_13 | skip
      refine j_iconst (v := 1) X dX11_side_16 rfl ?_
      refine j_goto (tgt := 21) X dX11_side_17 (by decide) ?_
      exact E.2.1 21 _ 1 () _ dX11_side_21 (by rw [sg_pos (by omega)]) hr rfl
  · skip
    first | simp only [bI_0, Decidable.not_not, sg_mul, sg_e0, sg_l0, sg_g0, sg_le0, sg_ge0, cmp_eq, cmp_lt, cmp_ge, cmp_gt, cmp_le, lT0, lT1] at c_3 | simp only [Int32.le_iff_toInt_le, Int32.lt_iff_toInt_lt, ← Int32.toInt_inj, iT0, iT1, iT2, iT3, iT4, iT5, iT6, iT7, iT8, iT9, iT10, iT11, iT12, iT13, iT14, iT15, iT16, iT19, iT20, iT31, iT32, iT42, iT64, iT200, iT318, iT319, iT1000, iTm1, iTm2] at c_3 | skip
    refine j_iconst (v := (-1)) X dX11_side_6 rfl ?_
    refine j_goto (tgt := 21) X dX11_side_7 (by decide) ?_
    exact E.2.1 21 _ (-1) () _ dX11_side_21 (by rw [sg_neg (by omega)]) hr rfl

theorem hy_X11_side_S : yX11_side.cls ≠ "java/lang/invoke/MethodHandle" ∧ yX11_side.cls ≠ "java/lang/invoke/VarHandle" ∧ (parseMethodDescriptor yX11_side.desc).map (fun d => d.parameters.length) = some 1 := by decide +kernel
abbrev rm_X11_thrown : Room := { frames := 0, cells := 0, slots := 0, locals := 0 }
theorem in_X11_thrown_X11 : ∀ w ∈ u_ws RX11 TX11 19, w ∈ wsX11_thrown := by decide +kernel
theorem fl_X11_thrown_48 : Cond.fieldLink RX11 48 (TX11 0).1 (TX11 0).2.1 (TX11 0).2.2.1 ∈ wsX11_thrown := by decide +kernel
set_option maxHeartbeats 4000000 in
set_option maxRecDepth 100000 in
theorem c_X11_thrown (l : Launch) (G : jG) (q : Nat → Nat) (t n co cr po : Int32) (tx ty : Int64) : Ct l yX11_thrown wsX11_thrown rm_X11_thrown G [.ref (q 0)] [(q 0, .inr (10, mF t n q co cr po tx ty))] (S := Unit) (fun r _ => r = some (.int t)) (fun _ => [(q 0, .inr (10, mF t n q co cr po tx ty))]) (fun _ => []) := by
  refine c_intro (cc := cX11_thrown) (maxL := 1) (ret := (some .int)) (by decide) rfl (Nat.le_of_ble_eq_true rfl) (fun _ => by simp only [List.map_cons, List.map_nil]) ?_
  intro p e s m args below meth c Q A X hr hin E
  change J p l e rm_X11_thrown s m args below meth c Q G A 1 0 0 0 [(0, .ref (q 0))] [] [(q 0, .inr (10, mF t n q co cr po tx ty))]
  refine j_aload_n X dX11_thrown_0 rfl 0 rfl ?_
  refine j_get (v := .int t) X dX11_thrown_1 0 rfl 0 rfl in_X11_thrown_X11 (by decide) fl_X11_thrown_48 rfl ?_
  exact E.2.1 4 _ t () _ dX11_thrown_4 rfl hr rfl

theorem hy_X11_thrown_V : yX11_thrown.cls = RX11 ∧ yX11_thrown.cls ≠ "java/lang/invoke/MethodHandle" ∧ yX11_thrown.cls ≠ "java/lang/invoke/VarHandle" ∧ (parseMethodDescriptor yX11_thrown.desc).map (fun d => d.parameters.length) = some 0 := by decide +kernel
abbrev rm_X11_isShape : Room := { frames := 0, cells := 0, slots := 0, locals := 0 }
theorem in_X11_isShape_X11 : ∀ w ∈ u_ws RX11 TX11 19, w ∈ wsX11_isShape := by decide +kernel
theorem fl_X11_isShape_109 : Cond.fieldLink RX11 109 (TX11 1).1 (TX11 1).2.1 (TX11 1).2.2.1 ∈ wsX11_isShape := by decide +kernel
set_option maxHeartbeats 4000000 in
set_option maxRecDepth 100000 in
theorem c_X11_isShape (l : Launch) (G : jG) (q : Nat → Nat) (t n co cr po : Int32) (tx ty : Int64) (x : Int32) : Ct l yX11_isShape wsX11_isShape rm_X11_isShape G [.ref (q 0), .int x] [(q 0, .inr (10, mF t n q co cr po tx ty))] (S := Unit) (fun r _ => r = some (.int (bI (0 ≤ x.toInt ∧ x.toInt < n.toInt)))) (fun _ => [(q 0, .inr (10, mF t n q co cr po tx ty))]) (fun _ => []) := by
  refine c_intro (cc := cX11_isShape) (maxL := 2) (ret := (some .boolean)) (by decide) rfl (Nat.le_of_ble_eq_true rfl) (fun _ => by simp only [List.map_cons, List.map_nil]) ?_
  intro p e s m args below meth c Q A X hr hin E
  change J p l e rm_X11_isShape s m args below meth c Q G A 2 0 0 0 [(0, .ref (q 0)), (1, .int x)] [] [(q 0, .inr (10, mF t n q co cr po tx ty))]
  refine j_iload_n X dX11_isShape_0 rfl 1 rfl ?_
  refine j_if_lt (tgt := 16) X dX11_isShape_1 (by decide) (fun c_1 => ?_) (fun c_1 => ?_)
  · skip
    first | simp only [bI_0, Decidable.not_not, sg_mul, sg_e0, sg_l0, sg_g0, sg_le0, sg_ge0, cmp_eq, cmp_lt, cmp_ge, cmp_gt, cmp_le, lT0, lT1] at c_1 | simp only [Int32.le_iff_toInt_le, Int32.lt_iff_toInt_lt, ← Int32.toInt_inj, iT0, iT1, iT2, iT3, iT4, iT5, iT6, iT7, iT8, iT9, iT10, iT11, iT12, iT13, iT14, iT15, iT16, iT19, iT20, iT31, iT32, iT42, iT64, iT200, iT318, iT319, iT1000, iTm1, iTm2] at c_1 | skip
    refine j_iconst (v := 0) X dX11_isShape_16 rfl ?_
    exact E.2.1 17 _ 0 () _ dX11_isShape_17 (by rw [bI_f (by omega)]) hr rfl
  · skip
    first | simp only [bI_0, Decidable.not_not, sg_mul, sg_e0, sg_l0, sg_g0, sg_le0, sg_ge0, cmp_eq, cmp_lt, cmp_ge, cmp_gt, cmp_le, lT0, lT1] at c_1 | simp only [Int32.le_iff_toInt_le, Int32.lt_iff_toInt_lt, ← Int32.toInt_inj, iT0, iT1, iT2, iT3, iT4, iT5, iT6, iT7, iT8, iT9, iT10, iT11, iT12, iT13, iT14, iT15, iT16, iT19, iT20, iT31, iT32, iT42, iT64, iT200, iT318, iT319, iT1000, iTm1, iTm2] at c_1 | skip
    refine j_iload_n X dX11_isShape_4 rfl 1 rfl ?_
    refine j_aload_n X dX11_isShape_5 rfl 0 rfl ?_
    refine j_get (v := .int n) X dX11_isShape_6 0 rfl 1 rfl in_X11_isShape_X11 (by decide) fl_X11_isShape_109 rfl ?_
    refine j_icmp_ge (tgt := 16) X dX11_isShape_9 (by decide) (fun c_9 => ?_) (fun c_9 => ?_)
    · skip
      first | simp only [bI_0, Decidable.not_not, sg_mul, sg_e0, sg_l0, sg_g0, sg_le0, sg_ge0, cmp_eq, cmp_lt, cmp_ge, cmp_gt, cmp_le, lT0, lT1] at c_9 | simp only [Int32.le_iff_toInt_le, Int32.lt_iff_toInt_lt, ← Int32.toInt_inj, iT0, iT1, iT2, iT3, iT4, iT5, iT6, iT7, iT8, iT9, iT10, iT11, iT12, iT13, iT14, iT15, iT16, iT19, iT20, iT31, iT32, iT42, iT64, iT200, iT318, iT319, iT1000, iTm1, iTm2] at c_9 | skip
      refine j_iconst (v := 0) X dX11_isShape_16 rfl ?_
      exact E.2.1 17 _ 0 () _ dX11_isShape_17 (by rw [bI_f (by omega)]) hr rfl
    · skip
      first | simp only [bI_0, Decidable.not_not, sg_mul, sg_e0, sg_l0, sg_g0, sg_le0, sg_ge0, cmp_eq, cmp_lt, cmp_ge, cmp_gt, cmp_le, lT0, lT1] at c_9 | simp only [Int32.le_iff_toInt_le, Int32.lt_iff_toInt_lt, ← Int32.toInt_inj, iT0, iT1, iT2, iT3, iT4, iT5, iT6, iT7, iT8, iT9, iT10, iT11, iT12, iT13, iT14, iT15, iT16, iT19, iT20, iT31, iT32, iT42, iT64, iT200, iT318, iT319, iT1000, iTm1, iTm2] at c_9 | skip
      refine j_iconst (v := 1) X dX11_isShape_12 rfl ?_
      refine j_goto (tgt := 17) X dX11_isShape_13 (by decide) ?_
      exact E.2.1 17 _ 1 () _ dX11_isShape_17 (by rw [bI_t (by omega)]) hr rfl

theorem hy_X11_isShape_V : yX11_isShape.cls = RX11 ∧ yX11_isShape.cls ≠ "java/lang/invoke/MethodHandle" ∧ yX11_isShape.cls ≠ "java/lang/invoke/VarHandle" ∧ (parseMethodDescriptor yX11_isShape.desc).map (fun d => d.parameters.length) = some 1 := by decide +kernel
abbrev rm_X11_position : Room := { frames := 0, cells := 0, slots := 0, locals := 0 }
set_option maxHeartbeats 4000000 in
set_option maxRecDepth 100000 in
theorem c_X11_position (l : Launch) (G : jG) (x y ls mo : Int32) : Ct l yX11_position wsX11_position rm_X11_position G [.int x, .int y, .int ls, .int mo] [] (S := Unit) (fun r _ => r = some (.int (posn x y ls mo))) (fun _ => []) (fun _ => []) := by
  refine c_intro (cc := cX11_position) (maxL := 4) (ret := (some .int)) (by decide) rfl (Nat.le_of_ble_eq_true rfl) (fun _ => by simp only [List.map_cons, List.map_nil]) ?_
  intro p e s m args below meth c Q A X hr hin E
  change J p l e rm_X11_position s m args below meth c Q G A 4 0 0 0 [(0, .int x), (1, .int y), (2, .int ls), (3, .int mo)] [] []
  refine j_iload_n X dX11_position_0 rfl 1 rfl ?_
  refine j_if_ne (tgt := 15) X dX11_position_1 (by decide) (fun c_1 => ?_) (fun c_1 => ?_)
  · skip
    refine j_iload_n X dX11_position_15 rfl 0 rfl ?_
    refine j_if_ne (tgt := 30) X dX11_position_16 (by decide) (fun c_16 => ?_) (fun c_16 => ?_)
    · skip
      refine j_iload_n X dX11_position_30 rfl 0 rfl ?_
      refine j_if_le (tgt := 49) X dX11_position_31 (by decide) (fun c_31 => ?_) (fun c_31 => ?_)
      · skip
        refine j_iload_n X dX11_position_49 rfl 1 rfl ?_
        refine j_if_le (tgt := 60) X dX11_position_50 (by decide) (fun c_50 => ?_) (fun c_50 => ?_)
        · skip
          refine j_bipush (v := 10) X dX11_position_60 (by decide) ?_
          refine j_iload_n X dX11_position_62 rfl 2 rfl ?_
          refine j_iadd X dX11_position_63 ?_
          exact E.2.1 64 _ (10 + ls) () _ dX11_position_64 (by unfold posn; simp only [*, if_true, if_false, ite_true, ite_false, reduceIte]) hr rfl
        · skip
          refine j_bipush (v := 6) X dX11_position_53 (by decide) ?_
          refine j_iload_n X dX11_position_55 rfl 3 rfl ?_
          refine j_isub X dX11_position_56 ?_
          refine j_goto (tgt := 64) X dX11_position_57 (by decide) ?_
          exact E.2.1 64 _ (6 - mo) () _ dX11_position_64 (by unfold posn; simp only [*, if_true, if_false, ite_true, ite_false, reduceIte]) hr rfl
      · skip
        refine j_iload_n X dX11_position_34 rfl 1 rfl ?_
        refine j_if_le (tgt := 44) X dX11_position_35 (by decide) (fun c_35 => ?_) (fun c_35 => ?_)
        · skip
          refine j_bipush (v := 14) X dX11_position_44 (by decide) ?_
          refine j_iload_n X dX11_position_46 rfl 3 rfl ?_
          refine j_iadd X dX11_position_47 ?_
          exact E.2.1 48 _ (14 + mo) () _ dX11_position_48 (by unfold posn; simp only [*, if_true, if_false, ite_true, ite_false, reduceIte]) hr rfl
        · skip
          refine j_iconst (v := 2) X dX11_position_38 rfl ?_
          refine j_iload_n X dX11_position_39 rfl 2 rfl ?_
          refine j_isub X dX11_position_40 ?_
          refine j_goto (tgt := 48) X dX11_position_41 (by decide) ?_
          exact E.2.1 48 _ (2 - ls) () _ dX11_position_48 (by unfold posn; simp only [*, if_true, if_false, ite_true, ite_false, reduceIte]) hr rfl
    · skip
      refine j_iload_n X dX11_position_19 rfl 1 rfl ?_
      refine j_if_le (tgt := 27) X dX11_position_20 (by decide) (fun c_20 => ?_) (fun c_20 => ?_)
      · skip
        refine j_bipush (v := 12) X dX11_position_27 (by decide) ?_
        exact E.2.1 29 _ 12 () _ dX11_position_29 (by unfold posn; simp only [*, if_true, if_false, ite_true, ite_false, reduceIte]) hr rfl
      · skip
        refine j_iconst (v := 4) X dX11_position_23 rfl ?_
        refine j_goto (tgt := 29) X dX11_position_24 (by decide) ?_
        exact E.2.1 29 _ 4 () _ dX11_position_29 (by unfold posn; simp only [*, if_true, if_false, ite_true, ite_false, reduceIte]) hr rfl
  · skip
    refine j_iload_n X dX11_position_4 rfl 0 rfl ?_
    refine j_if_le (tgt := 12) X dX11_position_5 (by decide) (fun c_5 => ?_) (fun c_5 => ?_)
    · skip
      refine j_bipush (v := 8) X dX11_position_12 (by decide) ?_
      exact E.2.1 14 _ 8 () _ dX11_position_14 (by unfold posn; simp only [*, if_true, if_false, ite_true, ite_false, reduceIte]) hr rfl
    · skip
      refine j_iconst (v := 0) X dX11_position_8 rfl ?_
      refine j_goto (tgt := 14) X dX11_position_9 (by decide) ?_
      exact E.2.1 14 _ 0 () _ dX11_position_14 (by unfold posn; simp only [*, if_true, if_false, ite_true, ite_false, reduceIte]) hr rfl

theorem hy_X11_position_S : yX11_position.cls ≠ "java/lang/invoke/MethodHandle" ∧ yX11_position.cls ≠ "java/lang/invoke/VarHandle" ∧ (parseMethodDescriptor yX11_position.desc).map (fun d => d.parameters.length) = some 4 := by decide +kernel
