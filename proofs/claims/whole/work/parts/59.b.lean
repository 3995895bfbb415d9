abbrev rm_X7_holds : Room := { frames := 3, cells := 0, slots := 0, locals := 96 }
theorem in_X7_holds_X7 : ∀ w ∈ u_ws RX7 TX7 6, w ∈ wsX7_holds := by decide +kernel
theorem fl_X7_holds_7 : Cond.fieldLink RX7 7 (TX7 0).1 (TX7 0).2.1 (TX7 0).2.2.1 ∈ wsX7_holds := by decide +kernel
theorem fl_X7_holds_16 : Cond.fieldLink RX7 16 (TX7 2).1 (TX7 2).2.1 (TX7 2).2.2.1 ∈ wsX7_holds := by decide +kernel
theorem mm_X7_holds_28 : (Cond.methodLink RX7 28 Lib.MathLoose.min_long.x ∈ wsX7_holds) ∧ (Cond.static Lib.MathLoose.min_long.x ∈ wsX7_holds) ∧ (Cond.initialized "java/lang/Math" ∈ wsX7_holds) ∧ (Cond.code Lib.MathLoose.min_long.x Lib.MathLoose.min_long.code 4 (some .long) ∈ wsX7_holds) := by decide +kernel
theorem mm_X7_holds_34 : (Cond.methodLink RX7 34 Lib.MathLoose.max_long.x ∈ wsX7_holds) ∧ (Cond.static Lib.MathLoose.max_long.x ∈ wsX7_holds) ∧ (Cond.initialized "java/lang/Math" ∈ wsX7_holds) ∧ (Cond.code Lib.MathLoose.max_long.x Lib.MathLoose.max_long.code 4 (some .long) ∈ wsX7_holds) := by decide +kernel
theorem fl_X7_holds_13 : Cond.fieldLink RX7 13 (TX7 1).1 (TX7 1).2.1 (TX7 1).2.2.1 ∈ wsX7_holds := by decide +kernel
theorem fl_X7_holds_19 : Cond.fieldLink RX7 19 (TX7 3).1 (TX7 3).2.1 (TX7 3).2.2.1 ∈ wsX7_holds := by decide +kernel
theorem fl_X7_holds_22 : Cond.fieldLink RX7 22 (TX7 4).1 (TX7 4).2.1 (TX7 4).2.2.1 ∈ wsX7_holds := by decide +kernel
theorem fl_X7_holds_25 : Cond.fieldLink RX7 25 (TX7 5).1 (TX7 5).2.1 (TX7 5).2.2.1 ∈ wsX7_holds := by decide +kernel
set_option maxHeartbeats 4000000 in
set_option maxRecDepth 100000 in
theorem c_X7_holds (l : Launch) (G : jG) (s0 : Nat) (sax say sbx sby sdx sdy : Int64) (hs : sgH sax say sbx sby sdx sdy) (w aw : Nat) (f : Nat → Int64) (x y : Int64) (hx : inC x.toInt) (hy : inC y.toInt) : Ct l yX7_holds wsX7_holds rm_X7_holds G [.ref s0, .long x, .long y, .ref w] [(s0, .inr (7, [.long sax, .long say, .long sbx, .long sby, .long sdx, .long sdy])), (w, .inr (8, [.ref aw])), (aw, aJ G 8 f)] (S := Nat → Int64) (fun r _ => r = some (.int (bI (onS sax.toInt say.toInt sbx.toInt sby.toInt x.toInt y.toInt)))) (fun u => [(s0, .inr (7, [.long sax, .long say, .long sbx, .long sby, .long sdx, .long sdy])), (w, .inr (8, [.ref aw])), (aw, aJ G 8 u)]) (fun _ => []) := by
  refine c_intro (cc := cX7_holds) (maxL := 6) (ret := (some .boolean)) (by decide) rfl (Nat.le_of_ble_eq_true rfl) (fun _ => by simp only [List.map_cons, List.map_nil]) ?_
  intro p e s m args below meth c Q A X hr hin E
  change J p l e rm_X7_holds s m args below meth c Q G A 6 0 0 0 [(0, .ref s0), (1, .long x), (3, .long y), (5, .ref w)] [] [(s0, .inr (7, [.long sax, .long say, .long sbx, .long sby, .long sdx, .long sdy])), (w, .inr (8, [.ref aw])), (aw, aJ G 8 f)]
  refine j_lload_n X dX7_holds_0 rfl 1 rfl ?_
  refine j_aload_n X dX7_holds_1 rfl 0 rfl ?_
  refine j_get (v := .long sax) X dX7_holds_2 0 rfl 0 rfl in_X7_holds_X7 (by decide) fl_X7_holds_7 rfl ?_
  refine j_aload_n X dX7_holds_5 rfl 0 rfl ?_
  refine j_get (v := .long sbx) X dX7_holds_6 0 rfl 2 rfl in_X7_holds_X7 (by decide) fl_X7_holds_16 rfl ?_
  refine j_mmin X dX7_holds_9 mm_X7_holds_28.1 mm_X7_holds_28.2.1 mm_X7_holds_28.2.2.1 mm_X7_holds_28.2.2.2 (Nat.le_of_ble_eq_true rfl) (Nat.le_of_ble_eq_true rfl) (Nat.le_of_ble_eq_true rfl) (Nat.le_of_ble_eq_true rfl) ?_
  refine j_topl (fun x_1 ex_1 => ?_)
  have hx_1 := mmin_T ex_1
  refine j_lcmp X dX7_holds_12 ?_
  refine j_if_lt (tgt := 32) X dX7_holds_13 (by decide) (fun c_13 => ?_) (fun c_13 => ?_)
  · skip
    first | simp only [cmp_eq, cmp_lt, cmp_ge, cmp_gt, cmp_le, lT0, lT1] at c_13 | simp only [Int32.le_iff_toInt_le, Int32.lt_iff_toInt_lt, ← Int32.toInt_inj, iT0, iT1, iT2, iT3, iT4, iT5, iT6, iT7, iT8, iT9, iT10, iT11, iT12, iT13, iT14, iT15, iT16, iT19, iT20, iT31, iT32, iT42, iT64, iT200, iT318, iT319, iT1000, iTm1, iTm2] at c_13
    refine j_iconst (v := 0) X dX7_holds_32 rfl ?_
    exact E.2.1 33 _ 0 (f) _ dX7_holds_33 (by rw [bI_f (fun h => by have := h.1.1; omega)]) hr rfl
  · skip
    first | simp only [cmp_eq, cmp_lt, cmp_ge, cmp_gt, cmp_le, lT0, lT1] at c_13 | simp only [Int32.le_iff_toInt_le, Int32.lt_iff_toInt_lt, ← Int32.toInt_inj, iT0, iT1, iT2, iT3, iT4, iT5, iT6, iT7, iT8, iT9, iT10, iT11, iT12, iT13, iT14, iT15, iT16, iT19, iT20, iT31, iT32, iT42, iT64, iT200, iT318, iT319, iT1000, iTm1, iTm2] at c_13
    refine j_lload_n X dX7_holds_16 rfl 1 rfl ?_
    refine j_aload_n X dX7_holds_17 rfl 0 rfl ?_
    refine j_get (v := .long sax) X dX7_holds_18 0 rfl 0 rfl in_X7_holds_X7 (by decide) fl_X7_holds_7 rfl ?_
    refine j_aload_n X dX7_holds_21 rfl 0 rfl ?_
    refine j_get (v := .long sbx) X dX7_holds_22 0 rfl 2 rfl in_X7_holds_X7 (by decide) fl_X7_holds_16 rfl ?_
    refine j_mmax X dX7_holds_25 mm_X7_holds_34.1 mm_X7_holds_34.2.1 mm_X7_holds_34.2.2.1 mm_X7_holds_34.2.2.2 (Nat.le_of_ble_eq_true rfl) (Nat.le_of_ble_eq_true rfl) (Nat.le_of_ble_eq_true rfl) (Nat.le_of_ble_eq_true rfl) ?_
    refine j_topl (fun x_2 ex_2 => ?_)
    have hx_2 := mmax_T ex_2
    refine j_lcmp X dX7_holds_28 ?_
    refine j_if_le (tgt := 34) X dX7_holds_29 (by decide) (fun c_29 => ?_) (fun c_29 => ?_)
    · skip
      first | simp only [cmp_eq, cmp_lt, cmp_ge, cmp_gt, cmp_le, lT0, lT1] at c_29 | simp only [Int32.le_iff_toInt_le, Int32.lt_iff_toInt_lt, ← Int32.toInt_inj, iT0, iT1, iT2, iT3, iT4, iT5, iT6, iT7, iT8, iT9, iT10, iT11, iT12, iT13, iT14, iT15, iT16, iT19, iT20, iT31, iT32, iT42, iT64, iT200, iT318, iT319, iT1000, iTm1, iTm2] at c_29
      refine j_lload_n X dX7_holds_34 rfl 2 rfl ?_
      refine j_aload_n X dX7_holds_35 rfl 0 rfl ?_
      refine j_get (v := .long say) X dX7_holds_36 0 rfl 1 rfl in_X7_holds_X7 (by decide) fl_X7_holds_13 rfl ?_
      refine j_aload_n X dX7_holds_39 rfl 0 rfl ?_
      refine j_get (v := .long sby) X dX7_holds_40 0 rfl 3 rfl in_X7_holds_X7 (by decide) fl_X7_holds_19 rfl ?_
      refine j_mmin X dX7_holds_43 mm_X7_holds_28.1 mm_X7_holds_28.2.1 mm_X7_holds_28.2.2.1 mm_X7_holds_28.2.2.2 (Nat.le_of_ble_eq_true rfl) (Nat.le_of_ble_eq_true rfl) (Nat.le_of_ble_eq_true rfl) (Nat.le_of_ble_eq_true rfl) ?_
      refine j_topl (fun x_3 ex_3 => ?_)
      have hx_3 := mmin_T ex_3
      refine j_lcmp X dX7_holds_46 ?_
      refine j_if_lt (tgt := 66) X dX7_holds_47 (by decide) (fun c_47 => ?_) (fun c_47 => ?_)
      · skip
        first | simp only [cmp_eq, cmp_lt, cmp_ge, cmp_gt, cmp_le, lT0, lT1] at c_47 | simp only [Int32.le_iff_toInt_le, Int32.lt_iff_toInt_lt, ← Int32.toInt_inj, iT0, iT1, iT2, iT3, iT4, iT5, iT6, iT7, iT8, iT9, iT10, iT11, iT12, iT13, iT14, iT15, iT16, iT19, iT20, iT31, iT32, iT42, iT64, iT200, iT318, iT319, iT1000, iTm1, iTm2] at c_47
        refine j_iconst (v := 0) X dX7_holds_66 rfl ?_
        exact E.2.1 67 _ 0 (f) _ dX7_holds_67 (by rw [bI_f (fun h => by have := h.1.2; omega)]) hr rfl
      · skip
        first | simp only [cmp_eq, cmp_lt, cmp_ge, cmp_gt, cmp_le, lT0, lT1] at c_47 | simp only [Int32.le_iff_toInt_le, Int32.lt_iff_toInt_lt, ← Int32.toInt_inj, iT0, iT1, iT2, iT3, iT4, iT5, iT6, iT7, iT8, iT9, iT10, iT11, iT12, iT13, iT14, iT15, iT16, iT19, iT20, iT31, iT32, iT42, iT64, iT200, iT318, iT319, iT1000, iTm1, iTm2] at c_47
        refine j_lload_n X dX7_holds_50 rfl 2 rfl ?_
        refine j_aload_n X dX7_holds_51 rfl 0 rfl ?_
        refine j_get (v := .long say) X dX7_holds_52 0 rfl 1 rfl in_X7_holds_X7 (by decide) fl_X7_holds_13 rfl ?_
        refine j_aload_n X dX7_holds_55 rfl 0 rfl ?_
        refine j_get (v := .long sby) X dX7_holds_56 0 rfl 3 rfl in_X7_holds_X7 (by decide) fl_X7_holds_19 rfl ?_
        refine j_mmax X dX7_holds_59 mm_X7_holds_34.1 mm_X7_holds_34.2.1 mm_X7_holds_34.2.2.1 mm_X7_holds_34.2.2.2 (Nat.le_of_ble_eq_true rfl) (Nat.le_of_ble_eq_true rfl) (Nat.le_of_ble_eq_true rfl) (Nat.le_of_ble_eq_true rfl) ?_
        refine j_topl (fun x_4 ex_4 => ?_)
        have hx_4 := mmax_T ex_4
        refine j_lcmp X dX7_holds_62 ?_
        refine j_if_le (tgt := 68) X dX7_holds_63 (by decide) (fun c_63 => ?_) (fun c_63 => ?_)
        · skip
          first | simp only [cmp_eq, cmp_lt, cmp_ge, cmp_gt, cmp_le, lT0, lT1] at c_63 | simp only [Int32.le_iff_toInt_le, Int32.lt_iff_toInt_lt, ← Int32.toInt_inj, iT0, iT1, iT2, iT3, iT4, iT5, iT6, iT7, iT8, iT9, iT10, iT11, iT12, iT13, iT14, iT15, iT16, iT19, iT20, iT31, iT32, iT42, iT64, iT200, iT318, iT319, iT1000, iTm1, iTm2] at c_63
          refine j_aload X dX7_holds_68 3 rfl ?_
          refine j_aload_n X dX7_holds_70 rfl 0 rfl ?_
          refine j_get (v := .long sdx) X dX7_holds_71 0 rfl 4 rfl in_X7_holds_X7 (by decide) fl_X7_holds_22 rfl ?_
          refine j_aload_n X dX7_holds_74 rfl 0 rfl ?_
          refine j_get (v := .long sdy) X dX7_holds_75 0 rfl 5 rfl in_X7_holds_X7 (by decide) fl_X7_holds_25 rfl ?_
          refine j_lload_n X dX7_holds_78 rfl 1 rfl ?_
          refine j_aload_n X dX7_holds_79 rfl 0 rfl ?_
          refine j_get (v := .long sax) X dX7_holds_80 0 rfl 0 rfl in_X7_holds_X7 (by decide) fl_X7_holds_7 rfl ?_
          refine j_lsub X dX7_holds_83 ?_
          refine j_lload_n X dX7_holds_84 rfl 2 rfl ?_
          refine j_aload_n X dX7_holds_85 rfl 0 rfl ?_
          refine j_get (v := .long say) X dX7_holds_86 0 rfl 1 rfl in_X7_holds_X7 (by decide) fl_X7_holds_13 rfl ?_
          refine j_lsub X dX7_holds_89 ?_
          refine j_callV X dX7_holds_90 (c_X9_setToCross l G w aw f sdx sdy (x - sax) (y - say) (sg_dl hs)) gX7_holds_X9_setToCross rfl hy_X9_setToCross_V ⟨Nat.le_of_ble_eq_true rfl, Nat.le_of_ble_eq_true rfl⟩ 0 rfl rfl [1, 2] rfl (by decide) rfl rfl (Nat.le_of_ble_eq_true rfl) ⟨Nat.le_of_ble_eq_true rfl, Nat.le_of_ble_eq_true rfl⟩ ?_
          rintro _ ⟨⟩ rfl
          change J p l e rm_X7_holds s m args below meth c Q G A 6 0 0 93 [(0, .ref s0), (1, .long x), (3, .long y), (5, .ref w)] [] [(s0, .inr (7, [.long sax, .long say, .long sbx, .long sby, .long sdx, .long sdy])), (w, .inr (8, [.ref aw])), (aw, aJ G 8 (dg (sdx.toInt * (y - say).toInt - sdy.toInt * (x - sax).toInt)))]
          rw [show (sdx.toInt * (y - say).toInt - sdy.toInt * (x - sax).toInt) = tn sax.toInt say.toInt sbx.toInt sby.toInt x.toInt y.toInt from (cr_t hs hx hy)]
          refine j_aload X dX7_holds_93 3 rfl ?_
          refine j_callV X dX7_holds_95 (c_X9_sign l G w aw (tn sax.toInt say.toInt sbx.toInt sby.toInt x.toInt y.toInt) (cr_b hs hx hy)) gX7_holds_X9_sign rfl hy_X9_sign_V ⟨Nat.le_of_ble_eq_true rfl, Nat.le_of_ble_eq_true rfl⟩ 0 rfl rfl [1, 2] rfl (by decide) rfl rfl (Nat.le_of_ble_eq_true rfl) ⟨Nat.le_of_ble_eq_true rfl, Nat.le_of_ble_eq_true rfl⟩ ?_
          rintro _ ⟨⟩ rfl
          change J p l e rm_X7_holds s m args below meth c Q G A 6 0 0 98 [(0, .ref s0), (1, .long x), (3, .long y), (5, .ref w)] [.int (sg (tn sax.toInt say.toInt sbx.toInt sby.toInt x.toInt y.toInt))] [(s0, .inr (7, [.long sax, .long say, .long sbx, .long sby, .long sdx, .long sdy])), (w, .inr (8, [.ref aw])), (aw, aJ G 8 (dg (tn sax.toInt say.toInt sbx.toInt sby.toInt x.toInt y.toInt)))]
          refine j_if_ne (tgt := 105) X dX7_holds_98 (by decide) (fun c_98 => ?_) (fun c_98 => ?_)
          · skip
            rw [sg_e0] at c_98
            refine j_iconst (v := 0) X dX7_holds_105 rfl ?_
            exact E.2.1 106 _ 0 (dg (tn sax.toInt say.toInt sbx.toInt sby.toInt x.toInt y.toInt)) _ dX7_holds_106 (by rw [bI_f (fun h => c_98 h.2)]) hr rfl
          · skip
            rw [sg_e0] at c_98
            refine j_iconst (v := 1) X dX7_holds_101 rfl ?_
            refine j_goto (tgt := 106) X dX7_holds_102 (by decide) ?_
            exact E.2.1 106 _ 1 (dg (tn sax.toInt say.toInt sbx.toInt sby.toInt x.toInt y.toInt)) _ dX7_holds_106 (by rw [bI_t ⟨⟨by omega, by omega⟩, c_98⟩]) hr rfl
        · skip
          first | simp only [cmp_eq, cmp_lt, cmp_ge, cmp_gt, cmp_le, lT0, lT1] at c_63 | simp only [Int32.le_iff_toInt_le, Int32.lt_iff_toInt_lt, ← Int32.toInt_inj, iT0, iT1, iT2, iT3, iT4, iT5, iT6, iT7, iT8, iT9, iT10, iT11, iT12, iT13, iT14, iT15, iT16, iT19, iT20, iT31, iT32, iT42, iT64, iT200, iT318, iT319, iT1000, iTm1, iTm2] at c_63
          refine j_iconst (v := 0) X dX7_holds_66 rfl ?_
          exact E.2.1 67 _ 0 (f) _ dX7_holds_67 (by rw [bI_f (fun h => by have := h.1.2; omega)]) hr rfl
    · skip
      first | simp only [cmp_eq, cmp_lt, cmp_ge, cmp_gt, cmp_le, lT0, lT1] at c_29 | simp only [Int32.le_iff_toInt_le, Int32.lt_iff_toInt_lt, ← Int32.toInt_inj, iT0, iT1, iT2, iT3, iT4, iT5, iT6, iT7, iT8, iT9, iT10, iT11, iT12, iT13, iT14, iT15, iT16, iT19, iT20, iT31, iT32, iT42, iT64, iT200, iT318, iT319, iT1000, iTm1, iTm2] at c_29
      refine j_iconst (v := 0) X dX7_holds_32 rfl ?_
      exact E.2.1 33 _ 0 (f) _ dX7_holds_33 (by rw [bI_f (fun h => by have := h.1.1; omega)]) hr rfl

theorem hy_X7_holds_V : yX7_holds.cls = RX7 ∧ yX7_holds.cls ≠ "java/lang/invoke/MethodHandle" ∧ yX7_holds.cls ≠ "java/lang/invoke/VarHandle" ∧ (parseMethodDescriptor yX7_holds.desc).map (fun d => d.parameters.length) = some 3 := by decide +kernel
