abbrev rm_X10_distance_1 : Room := { frames := 6, cells := 1, slots := 6, locals := 90 }
theorem ta_X10_distance_109 : (Cond.classLink RX10 109 eB ∈ wsX10_distance) ∧ (Cond.initialized eB ∈ wsX10_distance) := by decide +kernel
theorem tb_X10_distance_113 : ∀ w ∈ (vx_atS RX10 113 eB ["java/lang/RuntimeException", "java/lang/Exception"]).filter goodWord, w ∈ wsX10_distance := fun w h => List.mem_cons_of_mem _ (List.mem_append_left _ (List.mem_append_right _ h))
set_option maxHeartbeats 4000000 in
set_option maxRecDepth 100000 in
theorem c_X10_distance_1 (l : Launch) (G : jG) (hst : l.stackTraces = false) (x0 xs po ro cr gp nu wk : Nat) (f : Nat → Option Nat) (N : Nat) (gN : N ≤ 200) (x1 x2 pa li : Int32) (hP : ¬ ((0 ≤ x1.toInt ∧ x1.toInt < N) ∧ (0 ≤ x2.toInt ∧ x2.toInt < N) ∧ (0 ≤ pa.toInt ∧ pa.toInt < 2) ∧ (0 ≤ li.toInt ∧ li.toInt < 6))) : CtX l yX10_distance wsX10_distance rm_X10_distance_1 G [.ref x0, .int x1, .int x2, .int pa, .int li] [(x0, .inr (9, [.ref xs, .int (nI N), .ref po, .ref ro, .ref cr, .ref gp, .ref nu, .ref wk])), (xs, aS G 200 f)] eB (S := Unit) (fun _ => True) (fun _ => [(x0, .inr (9, [.ref xs, .int (nI N), .ref po, .ref ro, .ref cr, .ref gp, .ref nu, .ref wk])), (xs, aS G 200 f)]) := by
  refine c_introX (cc := cX10_distance) (maxL := 9) (ret := (some .long)) (by decide) rfl (Nat.le_of_ble_eq_true rfl) (fun _ => by simp only [List.map_cons, List.map_nil]) ?_
  intro p e s m args below meth c Q A hQ X XF hlk htb
  change J p l e rm_X10_distance_1 s m args below meth c Q G A 9 0 0 0 [(0, .ref x0), (1, .int x1), (2, .int x2), (3, .int pa), (4, .int li)] [] [(x0, .inr (9, [.ref xs, .int (nI N), .ref po, .ref ro, .ref cr, .ref gp, .ref nu, .ref wk])), (xs, aS G 200 f)]
  rcases h1 : shO f N x1 with _ | q1 <;> rcases h2 : shO f N x2 with _ | q2
  · skip
    refine j_aload_n X dX10_distance_0 rfl 0 rfl ?_
    refine j_iload_n X dX10_distance_1 rfl 1 rfl ?_
    refine j_callV X dX10_distance_2 (c_X10_shapeOf l G x0 xs po ro cr gp nu wk f N gN x1 none h1) gX10_distance_X10_shapeOf rfl hy_X10_shapeOf_V ⟨Nat.le_of_ble_eq_true rfl, Nat.le_of_ble_eq_true rfl⟩ 0 rfl rfl [0, 1] rfl (by decide) rfl rfl (Nat.le_of_ble_eq_true rfl) ⟨Nat.le_of_ble_eq_true rfl, Nat.le_of_ble_eq_true rfl⟩ ?_
    rintro _ ⟨⟩ rfl
    change J p l e rm_X10_distance_1 s m args below meth c Q G A 9 0 0 5 [(0, .ref x0), (1, .int x1), (2, .int x2), (3, .int pa), (4, .int li)] [.null] [(x0, .inr (9, [.ref xs, .int (nI N), .ref po, .ref ro, .ref cr, .ref gp, .ref nu, .ref wk])), (xs, aS G 200 f)]
    refine j_astoreN (L' := [(5, .null), (0, .ref x0), (1, .int x1), (2, .int x2), (3, .int pa), (4, .int li)]) X dX10_distance_5 (by decide) rfl ?_
    refine j_aload_n X dX10_distance_7 rfl 1 rfl ?_
    refine j_iload_n X dX10_distance_8 rfl 3 rfl ?_
    refine j_callV X dX10_distance_9 (c_X10_shapeOf l G x0 xs po ro cr gp nu wk f N gN x2 none h2) gX10_distance_X10_shapeOf rfl hy_X10_shapeOf_V ⟨Nat.le_of_ble_eq_true rfl, Nat.le_of_ble_eq_true rfl⟩ 0 rfl rfl [0, 1] rfl (by decide) rfl rfl (Nat.le_of_ble_eq_true rfl) ⟨Nat.le_of_ble_eq_true rfl, Nat.le_of_ble_eq_true rfl⟩ ?_
    rintro _ ⟨⟩ rfl
    change J p l e rm_X10_distance_1 s m args below meth c Q G A 9 0 0 12 [(5, .null), (0, .ref x0), (1, .int x1), (2, .int x2), (3, .int pa), (4, .int li)] [.null] [(x0, .inr (9, [.ref xs, .int (nI N), .ref po, .ref ro, .ref cr, .ref gp, .ref nu, .ref wk])), (xs, aS G 200 f)]
    refine j_astoreN (L' := [(6, .null), (5, .null), (0, .ref x0), (1, .int x1), (2, .int x2), (3, .int pa), (4, .int li)]) X dX10_distance_12 (by decide) rfl ?_
    refine j_aloadN X dX10_distance_14 1 rfl ?_
    refine j_ifnullN (tgt := 24) X dX10_distance_16 (by decide) ?_
    subst hQ
    exact j_throwS (cls := eB) (text := "no such shape") (names := ["java/lang/RuntimeException", "java/lang/Exception"]) X rfl hst XF hlk htb dX10_distance_24 dX10_distance_27 dX10_distance_28 dX10_distance_30 dX10_distance_33 (by decide +kernel) (by decide +kernel) ta_X10_distance_109.1 ta_X10_distance_109.2 (by decide +kernel) (by decide +kernel) tb_X10_distance_113 tc_113 td_113 (Nat.le_of_ble_eq_true rfl) (Nat.le_of_ble_eq_true rfl) (Nat.le_of_ble_eq_true rfl) (Nat.le_of_ble_eq_true rfl) () trivial rfl
  · skip
    refine j_aload_n X dX10_distance_0 rfl 0 rfl ?_
    refine j_iload_n X dX10_distance_1 rfl 1 rfl ?_
    refine j_callV X dX10_distance_2 (c_X10_shapeOf l G x0 xs po ro cr gp nu wk f N gN x1 none h1) gX10_distance_X10_shapeOf rfl hy_X10_shapeOf_V ⟨Nat.le_of_ble_eq_true rfl, Nat.le_of_ble_eq_true rfl⟩ 0 rfl rfl [0, 1] rfl (by decide) rfl rfl (Nat.le_of_ble_eq_true rfl) ⟨Nat.le_of_ble_eq_true rfl, Nat.le_of_ble_eq_true rfl⟩ ?_
    rintro _ ⟨⟩ rfl
    change J p l e rm_X10_distance_1 s m args below meth c Q G A 9 0 0 5 [(0, .ref x0), (1, .int x1), (2, .int x2), (3, .int pa), (4, .int li)] [.null] [(x0, .inr (9, [.ref xs, .int (nI N), .ref po, .ref ro, .ref cr, .ref gp, .ref nu, .ref wk])), (xs, aS G 200 f)]
    refine j_astoreN (L' := [(5, .null), (0, .ref x0), (1, .int x1), (2, .int x2), (3, .int pa), (4, .int li)]) X dX10_distance_5 (by decide) rfl ?_
    refine j_aload_n X dX10_distance_7 rfl 1 rfl ?_
    refine j_iload_n X dX10_distance_8 rfl 3 rfl ?_
    refine j_callV X dX10_distance_9 (c_X10_shapeOf l G x0 xs po ro cr gp nu wk f N gN x2 (some q2) h2) gX10_distance_X10_shapeOf rfl hy_X10_shapeOf_V ⟨Nat.le_of_ble_eq_true rfl, Nat.le_of_ble_eq_true rfl⟩ 0 rfl rfl [0, 1] rfl (by decide) rfl rfl (Nat.le_of_ble_eq_true rfl) ⟨Nat.le_of_ble_eq_true rfl, Nat.le_of_ble_eq_true rfl⟩ ?_
    rintro _ ⟨⟩ rfl
    change J p l e rm_X10_distance_1 s m args below meth c Q G A 9 0 0 12 [(5, .null), (0, .ref x0), (1, .int x1), (2, .int x2), (3, .int pa), (4, .int li)] [.ref q2] [(x0, .inr (9, [.ref xs, .int (nI N), .ref po, .ref ro, .ref cr, .ref gp, .ref nu, .ref wk])), (xs, aS G 200 f)]
    refine j_astore (L' := [(6, .ref q2), (5, .null), (0, .ref x0), (1, .int x1), (2, .int x2), (3, .int pa), (4, .int li)]) X dX10_distance_12 (by decide) rfl ?_
    refine j_aloadN X dX10_distance_14 1 rfl ?_
    refine j_ifnullN (tgt := 24) X dX10_distance_16 (by decide) ?_
    subst hQ
    exact j_throwS (cls := eB) (text := "no such shape") (names := ["java/lang/RuntimeException", "java/lang/Exception"]) X rfl hst XF hlk htb dX10_distance_24 dX10_distance_27 dX10_distance_28 dX10_distance_30 dX10_distance_33 (by decide +kernel) (by decide +kernel) ta_X10_distance_109.1 ta_X10_distance_109.2 (by decide +kernel) (by decide +kernel) tb_X10_distance_113 tc_113 td_113 (Nat.le_of_ble_eq_true rfl) (Nat.le_of_ble_eq_true rfl) (Nat.le_of_ble_eq_true rfl) (Nat.le_of_ble_eq_true rfl) () trivial rfl
  · skip
    refine j_aload_n X dX10_distance_0 rfl 0 rfl ?_
    refine j_iload_n X dX10_distance_1 rfl 1 rfl ?_
    refine j_callV X dX10_distance_2 (c_X10_shapeOf l G x0 xs po ro cr gp nu wk f N gN x1 (some q1) h1) gX10_distance_X10_shapeOf rfl hy_X10_shapeOf_V ⟨Nat.le_of_ble_eq_true rfl, Nat.le_of_ble_eq_true rfl⟩ 0 rfl rfl [0, 1] rfl (by decide) rfl rfl (Nat.le_of_ble_eq_true rfl) ⟨Nat.le_of_ble_eq_true rfl, Nat.le_of_ble_eq_true rfl⟩ ?_
    rintro _ ⟨⟩ rfl
    change J p l e rm_X10_distance_1 s m args below meth c Q G A 9 0 0 5 [(0, .ref x0), (1, .int x1), (2, .int x2), (3, .int pa), (4, .int li)] [.ref q1] [(x0, .inr (9, [.ref xs, .int (nI N), .ref po, .ref ro, .ref cr, .ref gp, .ref nu, .ref wk])), (xs, aS G 200 f)]
    refine j_astore (L' := [(5, .ref q1), (0, .ref x0), (1, .int x1), (2, .int x2), (3, .int pa), (4, .int li)]) X dX10_distance_5 (by decide) rfl ?_
    refine j_aload_n X dX10_distance_7 rfl 1 rfl ?_
    refine j_iload_n X dX10_distance_8 rfl 3 rfl ?_
    refine j_callV X dX10_distance_9 (c_X10_shapeOf l G x0 xs po ro cr gp nu wk f N gN x2 none h2) gX10_distance_X10_shapeOf rfl hy_X10_shapeOf_V ⟨Nat.le_of_ble_eq_true rfl, Nat.le_of_ble_eq_true rfl⟩ 0 rfl rfl [0, 1] rfl (by decide) rfl rfl (Nat.le_of_ble_eq_true rfl) ⟨Nat.le_of_ble_eq_true rfl, Nat.le_of_ble_eq_true rfl⟩ ?_
    rintro _ ⟨⟩ rfl
    change J p l e rm_X10_distance_1 s m args below meth c Q G A 9 0 0 12 [(5, .ref q1), (0, .ref x0), (1, .int x1), (2, .int x2), (3, .int pa), (4, .int li)] [.null] [(x0, .inr (9, [.ref xs, .int (nI N), .ref po, .ref ro, .ref cr, .ref gp, .ref nu, .ref wk])), (xs, aS G 200 f)]
    refine j_astoreN (L' := [(6, .null), (5, .ref q1), (0, .ref x0), (1, .int x1), (2, .int x2), (3, .int pa), (4, .int li)]) X dX10_distance_12 (by decide) rfl ?_
    refine j_aload X dX10_distance_14 1 rfl ?_
    refine j_ifnull X dX10_distance_16 ?_
    refine j_aloadN X dX10_distance_19 0 rfl ?_
    refine j_ifnonnullN X dX10_distance_21 ?_
    subst hQ
    exact j_throwS (cls := eB) (text := "no such shape") (names := ["java/lang/RuntimeException", "java/lang/Exception"]) X rfl hst XF hlk htb dX10_distance_24 dX10_distance_27 dX10_distance_28 dX10_distance_30 dX10_distance_33 (by decide +kernel) (by decide +kernel) ta_X10_distance_109.1 ta_X10_distance_109.2 (by decide +kernel) (by decide +kernel) tb_X10_distance_113 tc_113 td_113 (Nat.le_of_ble_eq_true rfl) (Nat.le_of_ble_eq_true rfl) (Nat.le_of_ble_eq_true rfl) (Nat.le_of_ble_eq_true rfl) () trivial rfl
  · skip
    refine j_aload_n X dX10_distance_0 rfl 0 rfl ?_
    refine j_iload_n X dX10_distance_1 rfl 1 rfl ?_
    refine j_callV X dX10_distance_2 (c_X10_shapeOf l G x0 xs po ro cr gp nu wk f N gN x1 (some q1) h1) gX10_distance_X10_shapeOf rfl hy_X10_shapeOf_V ⟨Nat.le_of_ble_eq_true rfl, Nat.le_of_ble_eq_true rfl⟩ 0 rfl rfl [0, 1] rfl (by decide) rfl rfl (Nat.le_of_ble_eq_true rfl) ⟨Nat.le_of_ble_eq_true rfl, Nat.le_of_ble_eq_true rfl⟩ ?_
    rintro _ ⟨⟩ rfl
    change J p l e rm_X10_distance_1 s m args below meth c Q G A 9 0 0 5 [(0, .ref x0), (1, .int x1), (2, .int x2), (3, .int pa), (4, .int li)] [.ref q1] [(x0, .inr (9, [.ref xs, .int (nI N), .ref po, .ref ro, .ref cr, .ref gp, .ref nu, .ref wk])), (xs, aS G 200 f)]
    refine j_astore (L' := [(5, .ref q1), (0, .ref x0), (1, .int x1), (2, .int x2), (3, .int pa), (4, .int li)]) X dX10_distance_5 (by decide) rfl ?_
    refine j_aload_n X dX10_distance_7 rfl 1 rfl ?_
    refine j_iload_n X dX10_distance_8 rfl 3 rfl ?_
    refine j_callV X dX10_distance_9 (c_X10_shapeOf l G x0 xs po ro cr gp nu wk f N gN x2 (some q2) h2) gX10_distance_X10_shapeOf rfl hy_X10_shapeOf_V ⟨Nat.le_of_ble_eq_true rfl, Nat.le_of_ble_eq_true rfl⟩ 0 rfl rfl [0, 1] rfl (by decide) rfl rfl (Nat.le_of_ble_eq_true rfl) ⟨Nat.le_of_ble_eq_true rfl, Nat.le_of_ble_eq_true rfl⟩ ?_
    rintro _ ⟨⟩ rfl
    change J p l e rm_X10_distance_1 s m args below meth c Q G A 9 0 0 12 [(5, .ref q1), (0, .ref x0), (1, .int x1), (2, .int x2), (3, .int pa), (4, .int li)] [.ref q2] [(x0, .inr (9, [.ref xs, .int (nI N), .ref po, .ref ro, .ref cr, .ref gp, .ref nu, .ref wk])), (xs, aS G 200 f)]
    refine j_astore (L' := [(6, .ref q2), (5, .ref q1), (0, .ref x0), (1, .int x1), (2, .int x2), (3, .int pa), (4, .int li)]) X dX10_distance_12 (by decide) rfl ?_
    refine j_aload X dX10_distance_14 1 rfl ?_
    refine j_ifnull X dX10_distance_16 ?_
    refine j_aload X dX10_distance_19 0 rfl ?_
    refine j_ifnonnull (tgt := 34) X dX10_distance_21 (by decide) ?_
    refine j_iload_n X dX10_distance_34 rfl 5 rfl ?_
    refine j_if_lt (tgt := 55) X dX10_distance_35 (by decide) (fun c_35 => ?_) (fun c_35 => ?_)
    · skip
      first | simp only [cmp_eq, cmp_lt, cmp_ge, cmp_gt, cmp_le, lT0, lT1] at c_35 | simp only [Int32.le_iff_toInt_le, Int32.lt_iff_toInt_lt, ← Int32.toInt_inj, iT0, iT1, iT2, iT3, iT4, iT5, iT6, iT7, iT8, iT9, iT10, iT11, iT12, iT13, iT14, iT15, iT16, iT19, iT20, iT31, iT32, iT42, iT64, iT200, iT318, iT319, iT1000, iTm1, iTm2] at c_35
      subst hQ
      exact j_throwS (cls := eB) (text := "no such part or limb") (names := ["java/lang/RuntimeException", "java/lang/Exception"]) X rfl hst XF hlk htb dX10_distance_55 dX10_distance_58 dX10_distance_59 dX10_distance_61 dX10_distance_64 (by decide +kernel) (by decide +kernel) ta_X10_distance_109.1 ta_X10_distance_109.2 (by decide +kernel) (by decide +kernel) tb_X10_distance_113 tc_113 td_113 (Nat.le_of_ble_eq_true rfl) (Nat.le_of_ble_eq_true rfl) (Nat.le_of_ble_eq_true rfl) (Nat.le_of_ble_eq_true rfl) () trivial rfl
    · skip
      first | simp only [cmp_eq, cmp_lt, cmp_ge, cmp_gt, cmp_le, lT0, lT1] at c_35 | simp only [Int32.le_iff_toInt_le, Int32.lt_iff_toInt_lt, ← Int32.toInt_inj, iT0, iT1, iT2, iT3, iT4, iT5, iT6, iT7, iT8, iT9, iT10, iT11, iT12, iT13, iT14, iT15, iT16, iT19, iT20, iT31, iT32, iT42, iT64, iT200, iT318, iT319, iT1000, iTm1, iTm2] at c_35
      refine j_iload_n X dX10_distance_38 rfl 5 rfl ?_
      refine j_iconst (v := 1) X dX10_distance_39 rfl ?_
      refine j_icmp_gt (tgt := 55) X dX10_distance_40 (by decide) (fun c_40 => ?_) (fun c_40 => ?_)
      · skip
        first | simp only [cmp_eq, cmp_lt, cmp_ge, cmp_gt, cmp_le, lT0, lT1] at c_40 | simp only [Int32.le_iff_toInt_le, Int32.lt_iff_toInt_lt, ← Int32.toInt_inj, iT0, iT1, iT2, iT3, iT4, iT5, iT6, iT7, iT8, iT9, iT10, iT11, iT12, iT13, iT14, iT15, iT16, iT19, iT20, iT31, iT32, iT42, iT64, iT200, iT318, iT319, iT1000, iTm1, iTm2] at c_40
        subst hQ
        exact j_throwS (cls := eB) (text := "no such part or limb") (names := ["java/lang/RuntimeException", "java/lang/Exception"]) X rfl hst XF hlk htb dX10_distance_55 dX10_distance_58 dX10_distance_59 dX10_distance_61 dX10_distance_64 (by decide +kernel) (by decide +kernel) ta_X10_distance_109.1 ta_X10_distance_109.2 (by decide +kernel) (by decide +kernel) tb_X10_distance_113 tc_113 td_113 (Nat.le_of_ble_eq_true rfl) (Nat.le_of_ble_eq_true rfl) (Nat.le_of_ble_eq_true rfl) (Nat.le_of_ble_eq_true rfl) () trivial rfl
      · skip
        first | simp only [cmp_eq, cmp_lt, cmp_ge, cmp_gt, cmp_le, lT0, lT1] at c_40 | simp only [Int32.le_iff_toInt_le, Int32.lt_iff_toInt_lt, ← Int32.toInt_inj, iT0, iT1, iT2, iT3, iT4, iT5, iT6, iT7, iT8, iT9, iT10, iT11, iT12, iT13, iT14, iT15, iT16, iT19, iT20, iT31, iT32, iT42, iT64, iT200, iT318, iT319, iT1000, iTm1, iTm2] at c_40
        refine j_iload X dX10_distance_43 6 rfl ?_
        refine j_if_lt (tgt := 55) X dX10_distance_45 (by decide) (fun c_45 => ?_) (fun c_45 => ?_)
        · skip
          first | simp only [cmp_eq, cmp_lt, cmp_ge, cmp_gt, cmp_le, lT0, lT1] at c_45 | simp only [Int32.le_iff_toInt_le, Int32.lt_iff_toInt_lt, ← Int32.toInt_inj, iT0, iT1, iT2, iT3, iT4, iT5, iT6, iT7, iT8, iT9, iT10, iT11, iT12, iT13, iT14, iT15, iT16, iT19, iT20, iT31, iT32, iT42, iT64, iT200, iT318, iT319, iT1000, iTm1, iTm2] at c_45
          subst hQ
          exact j_throwS (cls := eB) (text := "no such part or limb") (names := ["java/lang/RuntimeException", "java/lang/Exception"]) X rfl hst XF hlk htb dX10_distance_55 dX10_distance_58 dX10_distance_59 dX10_distance_61 dX10_distance_64 (by decide +kernel) (by decide +kernel) ta_X10_distance_109.1 ta_X10_distance_109.2 (by decide +kernel) (by decide +kernel) tb_X10_distance_113 tc_113 td_113 (Nat.le_of_ble_eq_true rfl) (Nat.le_of_ble_eq_true rfl) (Nat.le_of_ble_eq_true rfl) (Nat.le_of_ble_eq_true rfl) () trivial rfl
        · skip
          first | simp only [cmp_eq, cmp_lt, cmp_ge, cmp_gt, cmp_le, lT0, lT1] at c_45 | simp only [Int32.le_iff_toInt_le, Int32.lt_iff_toInt_lt, ← Int32.toInt_inj, iT0, iT1, iT2, iT3, iT4, iT5, iT6, iT7, iT8, iT9, iT10, iT11, iT12, iT13, iT14, iT15, iT16, iT19, iT20, iT31, iT32, iT42, iT64, iT200, iT318, iT319, iT1000, iTm1, iTm2] at c_45
          refine j_iload X dX10_distance_48 6 rfl ?_
          refine j_bipush (v := 6) X dX10_distance_50 (by decide) ?_
          refine j_icmp_lt (tgt := 65) X dX10_distance_52 (by decide) (fun c_52 => ?_) (fun c_52 => ?_)
          · skip
            first | simp only [cmp_eq, cmp_lt, cmp_ge, cmp_gt, cmp_le, lT0, lT1] at c_52 | simp only [Int32.le_iff_toInt_le, Int32.lt_iff_toInt_lt, ← Int32.toInt_inj, iT0, iT1, iT2, iT3, iT4, iT5, iT6, iT7, iT8, iT9, iT10, iT11, iT12, iT13, iT14, iT15, iT16, iT19, iT20, iT31, iT32, iT42, iT64, iT200, iT318, iT319, iT1000, iTm1, iTm2] at c_52
            have := shO_s h1; have := shO_s h2; exfalso; omega
          · skip
            first | simp only [cmp_eq, cmp_lt, cmp_ge, cmp_gt, cmp_le, lT0, lT1] at c_52 | simp only [Int32.le_iff_toInt_le, Int32.lt_iff_toInt_lt, ← Int32.toInt_inj, iT0, iT1, iT2, iT3, iT4, iT5, iT6, iT7, iT8, iT9, iT10, iT11, iT12, iT13, iT14, iT15, iT16, iT19, iT20, iT31, iT32, iT42, iT64, iT200, iT318, iT319, iT1000, iTm1, iTm2] at c_52
            subst hQ
            exact j_throwS (cls := eB) (text := "no such part or limb") (names := ["java/lang/RuntimeException", "java/lang/Exception"]) X rfl hst XF hlk htb dX10_distance_55 dX10_distance_58 dX10_distance_59 dX10_distance_61 dX10_distance_64 (by decide +kernel) (by decide +kernel) ta_X10_distance_109.1 ta_X10_distance_109.2 (by decide +kernel) (by decide +kernel) tb_X10_distance_113 tc_113 td_113 (Nat.le_of_ble_eq_true rfl) (Nat.le_of_ble_eq_true rfl) (Nat.le_of_ble_eq_true rfl) (Nat.le_of_ble_eq_true rfl) () trivial rfl

abbrev rm_X10_distance_2a : Room := { frames := 6, cells := 1, slots := 6, locals := 90 }
theorem cl_X10_distance_82 : Cond.classLink RX10 82 RX7 ∈ wsX10_distance := by decide +kernel
theorem ta_X10_distance_65 : (Cond.classLink RX10 65 eA ∈ wsX10_distance) ∧ (Cond.initialized eA ∈ wsX10_distance) := by decide +kernel
theorem tb_X10_distance_69 : ∀ w ∈ (vx_atS RX10 69 eA ["java/lang/RuntimeException", "java/lang/Exception"]).filter goodWord, w ∈ wsX10_distance := fun w h => List.mem_cons_of_mem _ (List.mem_append_right _ h)
set_option maxHeartbeats 4000000 in
set_option maxRecDepth 100000 in
theorem c_X10_distance_2a (l : Launch) (G : jG) (hst : l.stackTraces = false) (x0 xs po ro cr gp nu wk : Nat) (f : Nat → Option Nat) (N : Nat) (gN : N ≤ 200) (x1 x2 pa li : Int32) (p0 : Nat) (pcx pcy pr : Int64) (pf pt : Int32) (hp : arH pcx pcy pr pf pt) (q2 : Nat) (hf1 : shO f N x1 = some p0) (hf2 : shO f N x2 = some q2) (hP : (0 ≤ pa.toInt ∧ pa.toInt < 2) ∧ (0 ≤ li.toInt ∧ li.toInt < 6)) : CtX l yX10_distance wsX10_distance rm_X10_distance_2a G [.ref x0, .int x1, .int x2, .int pa, .int li] [(x0, .inr (9, [.ref xs, .int (nI N), .ref po, .ref ro, .ref cr, .ref gp, .ref nu, .ref wk])), (xs, aS G 200 f), (p0, .inr (0, [.long pcx, .long pcy, .long pr, .int pf, .int pt]))] eA (S := Unit) (fun _ => True) (fun _ => [(x0, .inr (9, [.ref xs, .int (nI N), .ref po, .ref ro, .ref cr, .ref gp, .ref nu, .ref wk])), (xs, aS G 200 f), (p0, .inr (0, [.long pcx, .long pcy, .long pr, .int pf, .int pt]))]) := by
  refine c_introX (cc := cX10_distance) (maxL := 9) (ret := (some .long)) (by decide) rfl (Nat.le_of_ble_eq_true rfl) (fun _ => by simp only [List.map_cons, List.map_nil]) ?_
  intro p e s m args below meth c Q A hQ X XF hlk htb
  change J p l e rm_X10_distance_2a s m args below meth c Q G A 9 0 0 0 [(0, .ref x0), (1, .int x1), (2, .int x2), (3, .int pa), (4, .int li)] [] [(x0, .inr (9, [.ref xs, .int (nI N), .ref po, .ref ro, .ref cr, .ref gp, .ref nu, .ref wk])), (xs, aS G 200 f), (p0, .inr (0, [.long pcx, .long pcy, .long pr, .int pf, .int pt]))]
  refine j_aload_n X dX10_distance_0 rfl 0 rfl ?_
  refine j_iload_n X dX10_distance_1 rfl 1 rfl ?_
  refine j_callV X dX10_distance_2 (c_X10_shapeOf l G x0 xs po ro cr gp nu wk f N gN x1 (some p0) hf1) gX10_distance_X10_shapeOf rfl hy_X10_shapeOf_V ⟨Nat.le_of_ble_eq_true rfl, Nat.le_of_ble_eq_true rfl⟩ 0 rfl rfl [0, 1] rfl (by decide) rfl rfl (Nat.le_of_ble_eq_true rfl) ⟨Nat.le_of_ble_eq_true rfl, Nat.le_of_ble_eq_true rfl⟩ ?_
  rintro _ ⟨⟩ rfl
  change J p l e rm_X10_distance_2a s m args below meth c Q G A 9 0 0 5 [(0, .ref x0), (1, .int x1), (2, .int x2), (3, .int pa), (4, .int li)] [.ref p0] [(x0, .inr (9, [.ref xs, .int (nI N), .ref po, .ref ro, .ref cr, .ref gp, .ref nu, .ref wk])), (xs, aS G 200 f), (p0, .inr (0, [.long pcx, .long pcy, .long pr, .int pf, .int pt]))]
  refine j_astore (L' := [(5, .ref p0), (0, .ref x0), (1, .int x1), (2, .int x2), (3, .int pa), (4, .int li)]) X dX10_distance_5 (by decide) rfl ?_
  refine j_aload_n X dX10_distance_7 rfl 1 rfl ?_
  refine j_iload_n X dX10_distance_8 rfl 3 rfl ?_
  refine j_callV X dX10_distance_9 (c_X10_shapeOf l G x0 xs po ro cr gp nu wk f N gN x2 (some q2) hf2) gX10_distance_X10_shapeOf rfl hy_X10_shapeOf_V ⟨Nat.le_of_ble_eq_true rfl, Nat.le_of_ble_eq_true rfl⟩ 0 rfl rfl [0, 1] rfl (by decide) rfl rfl (Nat.le_of_ble_eq_true rfl) ⟨Nat.le_of_ble_eq_true rfl, Nat.le_of_ble_eq_true rfl⟩ ?_
  rintro _ ⟨⟩ rfl
  change J p l e rm_X10_distance_2a s m args below meth c Q G A 9 0 0 12 [(5, .ref p0), (0, .ref x0), (1, .int x1), (2, .int x2), (3, .int pa), (4, .int li)] [.ref q2] [(x0, .inr (9, [.ref xs, .int (nI N), .ref po, .ref ro, .ref cr, .ref gp, .ref nu, .ref wk])), (xs, aS G 200 f), (p0, .inr (0, [.long pcx, .long pcy, .long pr, .int pf, .int pt]))]
  refine j_astore (L' := [(6, .ref q2), (5, .ref p0), (0, .ref x0), (1, .int x1), (2, .int x2), (3, .int pa), (4, .int li)]) X dX10_distance_12 (by decide) rfl ?_
  refine j_aload X dX10_distance_14 1 rfl ?_
  refine j_ifnull X dX10_distance_16 ?_
  refine j_aload X dX10_distance_19 0 rfl ?_
  refine j_ifnonnull (tgt := 34) X dX10_distance_21 (by decide) ?_
  refine j_iload_n X dX10_distance_34 rfl 5 rfl ?_
  refine j_if_lt (tgt := 55) X dX10_distance_35 (by decide) (fun c_35 => ?_) (fun c_35 => ?_)
  · skip
    first | simp only [cmp_eq, cmp_lt, cmp_ge, cmp_gt, cmp_le, lT0, lT1] at c_35 | simp only [Int32.le_iff_toInt_le, Int32.lt_iff_toInt_lt, ← Int32.toInt_inj, iT0, iT1, iT2, iT3, iT4, iT5, iT6, iT7, iT8, iT9, iT10, iT11, iT12, iT13, iT14, iT15, iT16, iT19, iT20, iT31, iT32, iT42, iT64, iT200, iT318, iT319, iT1000, iTm1, iTm2] at c_35
    exfalso; omega
  · skip
    first | simp only [cmp_eq, cmp_lt, cmp_ge, cmp_gt, cmp_le, lT0, lT1] at c_35 | simp only [Int32.le_iff_toInt_le, Int32.lt_iff_toInt_lt, ← Int32.toInt_inj, iT0, iT1, iT2, iT3, iT4, iT5, iT6, iT7, iT8, iT9, iT10, iT11, iT12, iT13, iT14, iT15, iT16, iT19, iT20, iT31, iT32, iT42, iT64, iT200, iT318, iT319, iT1000, iTm1, iTm2] at c_35
    refine j_iload_n X dX10_distance_38 rfl 5 rfl ?_
    refine j_iconst (v := 1) X dX10_distance_39 rfl ?_
    refine j_icmp_gt (tgt := 55) X dX10_distance_40 (by decide) (fun c_40 => ?_) (fun c_40 => ?_)
    · skip
      first | simp only [cmp_eq, cmp_lt, cmp_ge, cmp_gt, cmp_le, lT0, lT1] at c_40 | simp only [Int32.le_iff_toInt_le, Int32.lt_iff_toInt_lt, ← Int32.toInt_inj, iT0, iT1, iT2, iT3, iT4, iT5, iT6, iT7, iT8, iT9, iT10, iT11, iT12, iT13, iT14, iT15, iT16, iT19, iT20, iT31, iT32, iT42, iT64, iT200, iT318, iT319, iT1000, iTm1, iTm2] at c_40
      exfalso; omega
    · skip
      first | simp only [cmp_eq, cmp_lt, cmp_ge, cmp_gt, cmp_le, lT0, lT1] at c_40 | simp only [Int32.le_iff_toInt_le, Int32.lt_iff_toInt_lt, ← Int32.toInt_inj, iT0, iT1, iT2, iT3, iT4, iT5, iT6, iT7, iT8, iT9, iT10, iT11, iT12, iT13, iT14, iT15, iT16, iT19, iT20, iT31, iT32, iT42, iT64, iT200, iT318, iT319, iT1000, iTm1, iTm2] at c_40
      refine j_iload X dX10_distance_43 6 rfl ?_
      refine j_if_lt (tgt := 55) X dX10_distance_45 (by decide) (fun c_45 => ?_) (fun c_45 => ?_)
      · skip
        first | simp only [cmp_eq, cmp_lt, cmp_ge, cmp_gt, cmp_le, lT0, lT1] at c_45 | simp only [Int32.le_iff_toInt_le, Int32.lt_iff_toInt_lt, ← Int32.toInt_inj, iT0, iT1, iT2, iT3, iT4, iT5, iT6, iT7, iT8, iT9, iT10, iT11, iT12, iT13, iT14, iT15, iT16, iT19, iT20, iT31, iT32, iT42, iT64, iT200, iT318, iT319, iT1000, iTm1, iTm2] at c_45
        exfalso; omega
      · skip
        first | simp only [cmp_eq, cmp_lt, cmp_ge, cmp_gt, cmp_le, lT0, lT1] at c_45 | simp only [Int32.le_iff_toInt_le, Int32.lt_iff_toInt_lt, ← Int32.toInt_inj, iT0, iT1, iT2, iT3, iT4, iT5, iT6, iT7, iT8, iT9, iT10, iT11, iT12, iT13, iT14, iT15, iT16, iT19, iT20, iT31, iT32, iT42, iT64, iT200, iT318, iT319, iT1000, iTm1, iTm2] at c_45
        refine j_iload X dX10_distance_48 6 rfl ?_
        refine j_bipush (v := 6) X dX10_distance_50 (by decide) ?_
        refine j_icmp_lt (tgt := 65) X dX10_distance_52 (by decide) (fun c_52 => ?_) (fun c_52 => ?_)
        · skip
          first | simp only [cmp_eq, cmp_lt, cmp_ge, cmp_gt, cmp_le, lT0, lT1] at c_52 | simp only [Int32.le_iff_toInt_le, Int32.lt_iff_toInt_lt, ← Int32.toInt_inj, iT0, iT1, iT2, iT3, iT4, iT5, iT6, iT7, iT8, iT9, iT10, iT11, iT12, iT13, iT14, iT15, iT16, iT19, iT20, iT31, iT32, iT42, iT64, iT200, iT318, iT319, iT1000, iTm1, iTm2] at c_52
          refine j_aload X dX10_distance_65 1 rfl ?_
          refine j_instN X dX10_distance_67 2 rfl rfl cl_X10_distance_82 (XF.2.2.2.2.1 (RX0, RX7) (by decide +kernel)) ?_
          refine j_if_eq (tgt := 138) X dX10_distance_70 (by decide) (fun _ => ?_) (fun c9 => absurd c9 (by decide))
          subst hQ
          exact j_throwS (cls := eA) (text := "one is an arc") (names := ["java/lang/RuntimeException", "java/lang/Exception"]) X rfl hst XF hlk htb dX10_distance_138 dX10_distance_141 dX10_distance_142 dX10_distance_144 dX10_distance_147 (by decide +kernel) (by decide +kernel) ta_X10_distance_65.1 ta_X10_distance_65.2 (by decide +kernel) (by decide +kernel) tb_X10_distance_69 tc_69 td_69 (Nat.le_of_ble_eq_true rfl) (Nat.le_of_ble_eq_true rfl) (Nat.le_of_ble_eq_true rfl) (Nat.le_of_ble_eq_true rfl) () trivial rfl
        · skip
          first | simp only [cmp_eq, cmp_lt, cmp_ge, cmp_gt, cmp_le, lT0, lT1] at c_52 | simp only [Int32.le_iff_toInt_le, Int32.lt_iff_toInt_lt, ← Int32.toInt_inj, iT0, iT1, iT2, iT3, iT4, iT5, iT6, iT7, iT8, iT9, iT10, iT11, iT12, iT13, iT14, iT15, iT16, iT19, iT20, iT31, iT32, iT42, iT64, iT200, iT318, iT319, iT1000, iTm1, iTm2] at c_52
          exfalso; omega

abbrev rm_X10_distance_2b : Room := { frames := 6, cells := 1, slots := 6, locals := 90 }
set_option maxHeartbeats 4000000 in
set_option maxRecDepth 100000 in
theorem c_X10_distance_2b (l : Launch) (G : jG) (hst : l.stackTraces = false) (x0 xs po ro cr gp nu wk : Nat) (f : Nat → Option Nat) (N : Nat) (gN : N ≤ 200) (x1 x2 pa li : Int32) (s0 : Nat) (sax say sbx sby sdx sdy : Int64) (hs : sgH sax say sbx sby sdx sdy) (p0 : Nat) (pcx pcy pr : Int64) (pf pt : Int32) (hp : arH pcx pcy pr pf pt) (hf1 : shO f N x1 = some s0) (hf2 : shO f N x2 = some p0) (hP : (0 ≤ pa.toInt ∧ pa.toInt < 2) ∧ (0 ≤ li.toInt ∧ li.toInt < 6)) : CtX l yX10_distance wsX10_distance rm_X10_distance_2b G [.ref x0, .int x1, .int x2, .int pa, .int li] [(x0, .inr (9, [.ref xs, .int (nI N), .ref po, .ref ro, .ref cr, .ref gp, .ref nu, .ref wk])), (xs, aS G 200 f), (s0, .inr (7, [.long sax, .long say, .long sbx, .long sby, .long sdx, .long sdy])), (p0, .inr (0, [.long pcx, .long pcy, .long pr, .int pf, .int pt]))] eA (S := Unit) (fun _ => True) (fun _ => [(x0, .inr (9, [.ref xs, .int (nI N), .ref po, .ref ro, .ref cr, .ref gp, .ref nu, .ref wk])), (xs, aS G 200 f), (s0, .inr (7, [.long sax, .long say, .long sbx, .long sby, .long sdx, .long sdy])), (p0, .inr (0, [.long pcx, .long pcy, .long pr, .int pf, .int pt]))]) := by
  refine c_introX (cc := cX10_distance) (maxL := 9) (ret := (some .long)) (by decide) rfl (Nat.le_of_ble_eq_true rfl) (fun _ => by simp only [List.map_cons, List.map_nil]) ?_
  intro p e s m args below meth c Q A hQ X XF hlk htb
  change J p l e rm_X10_distance_2b s m args below meth c Q G A 9 0 0 0 [(0, .ref x0), (1, .int x1), (2, .int x2), (3, .int pa), (4, .int li)] [] [(x0, .inr (9, [.ref xs, .int (nI N), .ref po, .ref ro, .ref cr, .ref gp, .ref nu, .ref wk])), (xs, aS G 200 f), (s0, .inr (7, [.long sax, .long say, .long sbx, .long sby, .long sdx, .long sdy])), (p0, .inr (0, [.long pcx, .long pcy, .long pr, .int pf, .int pt]))]
  refine j_aload_n X dX10_distance_0 rfl 0 rfl ?_
  refine j_iload_n X dX10_distance_1 rfl 1 rfl ?_
  refine j_callV X dX10_distance_2 (c_X10_shapeOf l G x0 xs po ro cr gp nu wk f N gN x1 (some s0) hf1) gX10_distance_X10_shapeOf rfl hy_X10_shapeOf_V ⟨Nat.le_of_ble_eq_true rfl, Nat.le_of_ble_eq_true rfl⟩ 0 rfl rfl [0, 1] rfl (by decide) rfl rfl (Nat.le_of_ble_eq_true rfl) ⟨Nat.le_of_ble_eq_true rfl, Nat.le_of_ble_eq_true rfl⟩ ?_
  rintro _ ⟨⟩ rfl
  change J p l e rm_X10_distance_2b s m args below meth c Q G A 9 0 0 5 [(0, .ref x0), (1, .int x1), (2, .int x2), (3, .int pa), (4, .int li)] [.ref s0] [(x0, .inr (9, [.ref xs, .int (nI N), .ref po, .ref ro, .ref cr, .ref gp, .ref nu, .ref wk])), (xs, aS G 200 f), (s0, .inr (7, [.long sax, .long say, .long sbx, .long sby, .long sdx, .long sdy])), (p0, .inr (0, [.long pcx, .long pcy, .long pr, .int pf, .int pt]))]
  refine j_astore (L' := [(5, .ref s0), (0, .ref x0), (1, .int x1), (2, .int x2), (3, .int pa), (4, .int li)]) X dX10_distance_5 (by decide) rfl ?_
  refine j_aload_n X dX10_distance_7 rfl 1 rfl ?_
  refine j_iload_n X dX10_distance_8 rfl 3 rfl ?_
  refine j_callV X dX10_distance_9 (c_X10_shapeOf l G x0 xs po ro cr gp nu wk f N gN x2 (some p0) hf2) gX10_distance_X10_shapeOf rfl hy_X10_shapeOf_V ⟨Nat.le_of_ble_eq_true rfl, Nat.le_of_ble_eq_true rfl⟩ 0 rfl rfl [0, 1] rfl (by decide) rfl rfl (Nat.le_of_ble_eq_true rfl) ⟨Nat.le_of_ble_eq_true rfl, Nat.le_of_ble_eq_true rfl⟩ ?_
  rintro _ ⟨⟩ rfl
  change J p l e rm_X10_distance_2b s m args below meth c Q G A 9 0 0 12 [(5, .ref s0), (0, .ref x0), (1, .int x1), (2, .int x2), (3, .int pa), (4, .int li)] [.ref p0] [(x0, .inr (9, [.ref xs, .int (nI N), .ref po, .ref ro, .ref cr, .ref gp, .ref nu, .ref wk])), (xs, aS G 200 f), (s0, .inr (7, [.long sax, .long say, .long sbx, .long sby, .long sdx, .long sdy])), (p0, .inr (0, [.long pcx, .long pcy, .long pr, .int pf, .int pt]))]
  refine j_astore (L' := [(6, .ref p0), (5, .ref s0), (0, .ref x0), (1, .int x1), (2, .int x2), (3, .int pa), (4, .int li)]) X dX10_distance_12 (by decide) rfl ?_
  refine j_aload X dX10_distance_14 1 rfl ?_
  refine j_ifnull X dX10_distance_16 ?_
  refine j_aload X dX10_distance_19 0 rfl ?_
  refine j_ifnonnull (tgt := 34) X dX10_distance_21 (by decide) ?_
  refine j_iload_n X dX10_distance_34 rfl 5 rfl ?_
  refine j_if_lt (tgt := 55) X dX10_distance_35 (by decide) (fun c_35 => ?_) (fun c_35 => ?_)
  · skip
    first | simp only [cmp_eq, cmp_lt, cmp_ge, cmp_gt, cmp_le, lT0, lT1] at c_35 | simp only [Int32.le_iff_toInt_le, Int32.lt_iff_toInt_lt, ← Int32.toInt_inj, iT0, iT1, iT2, iT3, iT4, iT5, iT6, iT7, iT8, iT9, iT10, iT11, iT12, iT13, iT14, iT15, iT16, iT19, iT20, iT31, iT32, iT42, iT64, iT200, iT318, iT319, iT1000, iTm1, iTm2] at c_35
    exfalso; omega
  · skip
    first | simp only [cmp_eq, cmp_lt, cmp_ge, cmp_gt, cmp_le, lT0, lT1] at c_35 | simp only [Int32.le_iff_toInt_le, Int32.lt_iff_toInt_lt, ← Int32.toInt_inj, iT0, iT1, iT2, iT3, iT4, iT5, iT6, iT7, iT8, iT9, iT10, iT11, iT12, iT13, iT14, iT15, iT16, iT19, iT20, iT31, iT32, iT42, iT64, iT200, iT318, iT319, iT1000, iTm1, iTm2] at c_35
    refine j_iload_n X dX10_distance_38 rfl 5 rfl ?_
    refine j_iconst (v := 1) X dX10_distance_39 rfl ?_
    refine j_icmp_gt (tgt := 55) X dX10_distance_40 (by decide) (fun c_40 => ?_) (fun c_40 => ?_)
    · skip
      first | simp only [cmp_eq, cmp_lt, cmp_ge, cmp_gt, cmp_le, lT0, lT1] at c_40 | simp only [Int32.le_iff_toInt_le, Int32.lt_iff_toInt_lt, ← Int32.toInt_inj, iT0, iT1, iT2, iT3, iT4, iT5, iT6, iT7, iT8, iT9, iT10, iT11, iT12, iT13, iT14, iT15, iT16, iT19, iT20, iT31, iT32, iT42, iT64, iT200, iT318, iT319, iT1000, iTm1, iTm2] at c_40
      exfalso; omega
    · skip
      first | simp only [cmp_eq, cmp_lt, cmp_ge, cmp_gt, cmp_le, lT0, lT1] at c_40 | simp only [Int32.le_iff_toInt_le, Int32.lt_iff_toInt_lt, ← Int32.toInt_inj, iT0, iT1, iT2, iT3, iT4, iT5, iT6, iT7, iT8, iT9, iT10, iT11, iT12, iT13, iT14, iT15, iT16, iT19, iT20, iT31, iT32, iT42, iT64, iT200, iT318, iT319, iT1000, iTm1, iTm2] at c_40
      refine j_iload X dX10_distance_43 6 rfl ?_
      refine j_if_lt (tgt := 55) X dX10_distance_45 (by decide) (fun c_45 => ?_) (fun c_45 => ?_)
      · skip
        first | simp only [cmp_eq, cmp_lt, cmp_ge, cmp_gt, cmp_le, lT0, lT1] at c_45 | simp only [Int32.le_iff_toInt_le, Int32.lt_iff_toInt_lt, ← Int32.toInt_inj, iT0, iT1, iT2, iT3, iT4, iT5, iT6, iT7, iT8, iT9, iT10, iT11, iT12, iT13, iT14, iT15, iT16, iT19, iT20, iT31, iT32, iT42, iT64, iT200, iT318, iT319, iT1000, iTm1, iTm2] at c_45
        exfalso; omega
      · skip
        first | simp only [cmp_eq, cmp_lt, cmp_ge, cmp_gt, cmp_le, lT0, lT1] at c_45 | simp only [Int32.le_iff_toInt_le, Int32.lt_iff_toInt_lt, ← Int32.toInt_inj, iT0, iT1, iT2, iT3, iT4, iT5, iT6, iT7, iT8, iT9, iT10, iT11, iT12, iT13, iT14, iT15, iT16, iT19, iT20, iT31, iT32, iT42, iT64, iT200, iT318, iT319, iT1000, iTm1, iTm2] at c_45
        refine j_iload X dX10_distance_48 6 rfl ?_
        refine j_bipush (v := 6) X dX10_distance_50 (by decide) ?_
        refine j_icmp_lt (tgt := 65) X dX10_distance_52 (by decide) (fun c_52 => ?_) (fun c_52 => ?_)
        · skip
          first | simp only [cmp_eq, cmp_lt, cmp_ge, cmp_gt, cmp_le, lT0, lT1] at c_52 | simp only [Int32.le_iff_toInt_le, Int32.lt_iff_toInt_lt, ← Int32.toInt_inj, iT0, iT1, iT2, iT3, iT4, iT5, iT6, iT7, iT8, iT9, iT10, iT11, iT12, iT13, iT14, iT15, iT16, iT19, iT20, iT31, iT32, iT42, iT64, iT200, iT318, iT319, iT1000, iTm1, iTm2] at c_52
          refine j_aload X dX10_distance_65 1 rfl ?_
          refine j_inst X dX10_distance_67 2 rfl rfl cl_X10_distance_82 ?_
          refine j_if_eq (tgt := 138) X dX10_distance_70 (by decide) (fun c9 => absurd c9 (by decide)) (fun _ => ?_)
          refine j_aload X dX10_distance_73 1 rfl ?_
          refine j_cast X dX10_distance_75 2 rfl rfl cl_X10_distance_82 ?_
          refine j_astore (L' := [(7, .ref s0), (6, .ref p0), (5, .ref s0), (0, .ref x0), (1, .int x1), (2, .int x2), (3, .int pa), (4, .int li)]) X dX10_distance_78 (by decide) rfl ?_
          refine j_aload X dX10_distance_80 1 rfl ?_
          refine j_instN X dX10_distance_82 3 rfl rfl cl_X10_distance_82 (XF.2.2.2.2.1 (RX0, RX7) (by decide +kernel)) ?_
          refine j_if_eq (tgt := 138) X dX10_distance_85 (by decide) (fun _ => ?_) (fun c9 => absurd c9 (by decide))
          subst hQ
          exact j_throwS (cls := eA) (text := "one is an arc") (names := ["java/lang/RuntimeException", "java/lang/Exception"]) X rfl hst XF hlk htb dX10_distance_138 dX10_distance_141 dX10_distance_142 dX10_distance_144 dX10_distance_147 (by decide +kernel) (by decide +kernel) ta_X10_distance_65.1 ta_X10_distance_65.2 (by decide +kernel) (by decide +kernel) tb_X10_distance_69 tc_69 td_69 (Nat.le_of_ble_eq_true rfl) (Nat.le_of_ble_eq_true rfl) (Nat.le_of_ble_eq_true rfl) (Nat.le_of_ble_eq_true rfl) () trivial rfl
        · skip
          first | simp only [cmp_eq, cmp_lt, cmp_ge, cmp_gt, cmp_le, lT0, lT1] at c_52 | simp only [Int32.le_iff_toInt_le, Int32.lt_iff_toInt_lt, ← Int32.toInt_inj, iT0, iT1, iT2, iT3, iT4, iT5, iT6, iT7, iT8, iT9, iT10, iT11, iT12, iT13, iT14, iT15, iT16, iT19, iT20, iT31, iT32, iT42, iT64, iT200, iT318, iT319, iT1000, iTm1, iTm2] at c_52
          exfalso; omega

abbrev rm_X10_distance : Room := { frames := 7, cells := 0, slots := 0, locals := 172 }
theorem in_X10_distance_X10 : ∀ w ∈ u_ws RX10 TX10 8, w ∈ wsX10_distance := by decide +kernel
theorem fl_X10_distance_39 : Cond.fieldLink RX10 39 (TX10 5).1 (TX10 5).2.1 (TX10 5).2.2.1 ∈ wsX10_distance := by decide +kernel
theorem in_X10_distance_X2 : ∀ w ∈ u_ws RX2 TX2 10, w ∈ wsX10_distance := by decide +kernel
theorem fl_X10_distance_127 : Cond.fieldLink RX10 127 (TX2 1).1 (TX2 1).2.1 (TX2 1).2.2.1 ∈ wsX10_distance := by decide +kernel
theorem fl_X10_distance_120 : Cond.fieldLink RX10 120 (TX2 0).1 (TX2 0).2.1 (TX2 0).2.2.1 ∈ wsX10_distance := by decide +kernel
set_option maxHeartbeats 4000000 in
set_option maxRecDepth 100000 in
theorem c_X10_distance_0 (l : Launch) (G : jG) (x0 xs po ro cr gp nu wk : Nat) (f : Nat → Option Nat) (N : Nat) (gN : N ≤ 200) (x1 x2 pa li : Int32) (ab be na nb le ri qu sh aab abe ana anb ale ari aqu ash : Nat) (me mw : Option Nat) (fna fnb fle fri fqu fsh : Nat → Int64) (A0 B0 : Int) (s0 : Nat) (sax say sbx sby sdx sdy : Int64) (hs : sgH sax say sbx sby sdx sdy) (t0 : Nat) (tax tay tbx tby tdx tdy : Int64) (ht : sgH tax tay tbx tby tdx tdy) (hf1 : shO f N x1 = some s0) (hf2 : shO f N x2 = some t0) (hP : (0 ≤ pa.toInt ∧ pa.toInt < 2) ∧ (0 ≤ li.toInt ∧ li.toInt < 6)) (hinv : me = some s0 → mw = some t0 → A0 = gpA sax.toInt say.toInt sbx.toInt sby.toInt tax.toInt tay.toInt tbx.toInt tby.toInt ∧ B0 = gpB sax.toInt say.toInt sbx.toInt sby.toInt tax.toInt tay.toInt tbx.toInt tby.toInt) : Cf l yX10_distance wsX10_distance rm_X10_distance G [.ref x0, .int x1, .int x2, .int pa, .int li] [(x0, .inr (9, [.ref xs, .int (nI N), .ref po, .ref ro, .ref cr, .ref gp, .ref nu, .ref wk])), (xs, aS G 200 f), (gp, .inr (2, [.ref ab, .ref be, .ref na, .ref nb, .ref le, .ref ri, .ref qu, .ref sh, va_rf (me), va_rf (mw)])), (ab, .inr (8, [.ref aab])), (aab, aJ G 8 (dg A0)), (be, .inr (8, [.ref abe])), (abe, aJ G 8 (dg B0)), (na, .inr (8, [.ref ana])), (ana, aJ G 8 fna), (nb, .inr (8, [.ref anb])), (anb, aJ G 8 fnb), (le, .inr (8, [.ref ale])), (ale, aJ G 8 fle), (ri, .inr (8, [.ref ari])), (ari, aJ G 8 fri), (qu, .inr (8, [.ref aqu])), (aqu, aJ G 8 fqu), (sh, .inr (8, [.ref ash])), (ash, aJ G 8 fsh), (s0, .inr (7, [.long sax, .long say, .long sbx, .long sby, .long sdx, .long sdy])), (t0, .inr (7, [.long tax, .long tay, .long tbx, .long tby, .long tdx, .long tdy]))] (S := Int × Int × (Nat → Int64) × (Nat → Int64) × (Nat → Int64) × (Nat → Int64) × (Nat → Int64) × (Nat → Int64)) (fun r u => u.1 = gpA sax.toInt say.toInt sbx.toInt sby.toInt tax.toInt tay.toInt tbx.toInt tby.toInt ∧ u.2.1 = gpB sax.toInt say.toInt sbx.toInt sby.toInt tax.toInt tay.toInt tbx.toInt tby.toInt ∧ r = some (.long (dg (if pa.toInt = 0 then u.1 else u.2.1) li.toInt.toNat))) (fun u => [(x0, .inr (9, [.ref xs, .int (nI N), .ref po, .ref ro, .ref cr, .ref gp, .ref nu, .ref wk])), (xs, aS G 200 f), (gp, .inr (2, [.ref ab, .ref be, .ref na, .ref nb, .ref le, .ref ri, .ref qu, .ref sh, va_rf (some s0), va_rf (some t0)])), (ab, .inr (8, [.ref aab])), (aab, aJ G 8 (dg u.1)), (be, .inr (8, [.ref abe])), (abe, aJ G 8 (dg u.2.1)), (na, .inr (8, [.ref ana])), (ana, aJ G 8 u.2.2.1), (nb, .inr (8, [.ref anb])), (anb, aJ G 8 u.2.2.2.1), (le, .inr (8, [.ref ale])), (ale, aJ G 8 u.2.2.2.2.1), (ri, .inr (8, [.ref ari])), (ari, aJ G 8 u.2.2.2.2.2.1), (qu, .inr (8, [.ref aqu])), (aqu, aJ G 8 u.2.2.2.2.2.2.1), (sh, .inr (8, [.ref ash])), (ash, aJ G 8 u.2.2.2.2.2.2.2), (s0, .inr (7, [.long sax, .long say, .long sbx, .long sby, .long sdx, .long sdy])), (t0, .inr (7, [.long tax, .long tay, .long tbx, .long tby, .long tdx, .long tdy]))]) (fun _ => []) := by
  refine cf_intro (cc := cX10_distance) (maxL := 9) (ret := (some .long)) (by decide) rfl (Nat.le_of_ble_eq_true rfl) (fun _ => by simp only [List.map_cons, List.map_nil]) ?_
  intro p e s m args below meth c Q A X XF hr hin E
  change J p l e rm_X10_distance s m args below meth c Q G A 9 0 0 0 [(0, .ref x0), (1, .int x1), (2, .int x2), (3, .int pa), (4, .int li)] [] [(x0, .inr (9, [.ref xs, .int (nI N), .ref po, .ref ro, .ref cr, .ref gp, .ref nu, .ref wk])), (xs, aS G 200 f), (gp, .inr (2, [.ref ab, .ref be, .ref na, .ref nb, .ref le, .ref ri, .ref qu, .ref sh, va_rf (me), va_rf (mw)])), (ab, .inr (8, [.ref aab])), (aab, aJ G 8 (dg A0)), (be, .inr (8, [.ref abe])), (abe, aJ G 8 (dg B0)), (na, .inr (8, [.ref ana])), (ana, aJ G 8 fna), (nb, .inr (8, [.ref anb])), (anb, aJ G 8 fnb), (le, .inr (8, [.ref ale])), (ale, aJ G 8 fle), (ri, .inr (8, [.ref ari])), (ari, aJ G 8 fri), (qu, .inr (8, [.ref aqu])), (aqu, aJ G 8 fqu), (sh, .inr (8, [.ref ash])), (ash, aJ G 8 fsh), (s0, .inr (7, [.long sax, .long say, .long sbx, .long sby, .long sdx, .long sdy])), (t0, .inr (7, [.long tax, .long tay, .long tbx, .long tby, .long tdx, .long tdy]))]
  refine j_aload_n X dX10_distance_0 rfl 0 rfl ?_
  refine j_iload_n X dX10_distance_1 rfl 1 rfl ?_
  refine j_callV X dX10_distance_2 (c_X10_shapeOf l G x0 xs po ro cr gp nu wk f N gN x1 (some s0) hf1) gX10_distance_X10_shapeOf rfl hy_X10_shapeOf_V ⟨Nat.le_of_ble_eq_true rfl, Nat.le_of_ble_eq_true rfl⟩ 0 rfl rfl [0, 1] rfl (by decide) rfl rfl (Nat.le_of_ble_eq_true rfl) ⟨Nat.le_of_ble_eq_true rfl, Nat.le_of_ble_eq_true rfl⟩ ?_
  rintro _ ⟨⟩ rfl
  change J p l e rm_X10_distance s m args below meth c Q G A 9 0 0 5 [(0, .ref x0), (1, .int x1), (2, .int x2), (3, .int pa), (4, .int li)] [.ref s0] [(x0, .inr (9, [.ref xs, .int (nI N), .ref po, .ref ro, .ref cr, .ref gp, .ref nu, .ref wk])), (xs, aS G 200 f), (gp, .inr (2, [.ref ab, .ref be, .ref na, .ref nb, .ref le, .ref ri, .ref qu, .ref sh, va_rf (me), va_rf (mw)])), (ab, .inr (8, [.ref aab])), (aab, aJ G 8 (dg A0)), (be, .inr (8, [.ref abe])), (abe, aJ G 8 (dg B0)), (na, .inr (8, [.ref ana])), (ana, aJ G 8 fna), (nb, .inr (8, [.ref anb])), (anb, aJ G 8 fnb), (le, .inr (8, [.ref ale])), (ale, aJ G 8 fle), (ri, .inr (8, [.ref ari])), (ari, aJ G 8 fri), (qu, .inr (8, [.ref aqu])), (aqu, aJ G 8 fqu), (sh, .inr (8, [.ref ash])), (ash, aJ G 8 fsh), (s0, .inr (7, [.long sax, .long say, .long sbx, .long sby, .long sdx, .long sdy])), (t0, .inr (7, [.long tax, .long tay, .long tbx, .long tby, .long tdx, .long tdy]))]
  refine j_astore (L' := [(5, .ref s0), (0, .ref x0), (1, .int x1), (2, .int x2), (3, .int pa), (4, .int li)]) X dX10_distance_5 (by decide) rfl ?_
  refine j_aload_n X dX10_distance_7 rfl 1 rfl ?_
  refine j_iload_n X dX10_distance_8 rfl 3 rfl ?_
  refine j_callV X dX10_distance_9 (c_X10_shapeOf l G x0 xs po ro cr gp nu wk f N gN x2 (some t0) hf2) gX10_distance_X10_shapeOf rfl hy_X10_shapeOf_V ⟨Nat.le_of_ble_eq_true rfl, Nat.le_of_ble_eq_true rfl⟩ 0 rfl rfl [0, 1] rfl (by decide) rfl rfl (Nat.le_of_ble_eq_true rfl) ⟨Nat.le_of_ble_eq_true rfl, Nat.le_of_ble_eq_true rfl⟩ ?_
  rintro _ ⟨⟩ rfl
  change J p l e rm_X10_distance s m args below meth c Q G A 9 0 0 12 [(5, .ref s0), (0, .ref x0), (1, .int x1), (2, .int x2), (3, .int pa), (4, .int li)] [.ref t0] [(x0, .inr (9, [.ref xs, .int (nI N), .ref po, .ref ro, .ref cr, .ref gp, .ref nu, .ref wk])), (xs, aS G 200 f), (gp, .inr (2, [.ref ab, .ref be, .ref na, .ref nb, .ref le, .ref ri, .ref qu, .ref sh, va_rf (me), va_rf (mw)])), (ab, .inr (8, [.ref aab])), (aab, aJ G 8 (dg A0)), (be, .inr (8, [.ref abe])), (abe, aJ G 8 (dg B0)), (na, .inr (8, [.ref ana])), (ana, aJ G 8 fna), (nb, .inr (8, [.ref anb])), (anb, aJ G 8 fnb), (le, .inr (8, [.ref ale])), (ale, aJ G 8 fle), (ri, .inr (8, [.ref ari])), (ari, aJ G 8 fri), (qu, .inr (8, [.ref aqu])), (aqu, aJ G 8 fqu), (sh, .inr (8, [.ref ash])), (ash, aJ G 8 fsh), (s0, .inr (7, [.long sax, .long say, .long sbx, .long sby, .long sdx, .long sdy])), (t0, .inr (7, [.long tax, .long tay, .long tbx, .long tby, .long tdx, .long tdy]))]
  refine j_astore (L' := [(6, .ref t0), (5, .ref s0), (0, .ref x0), (1, .int x1), (2, .int x2), (3, .int pa), (4, .int li)]) X dX10_distance_12 (by decide) rfl ?_
  refine j_aload X dX10_distance_14 1 rfl ?_
  refine j_ifnull X dX10_distance_16 ?_
  refine j_aload X dX10_distance_19 0 rfl ?_
  refine j_ifnonnull (tgt := 34) X dX10_distance_21 (by decide) ?_
  refine j_iload_n X dX10_distance_34 rfl 5 rfl ?_
  refine j_if_lt (tgt := 55) X dX10_distance_35 (by decide) (fun c_35 => ?_) (fun c_35 => ?_)
  · skip
    first | simp only [cmp_eq, cmp_lt, cmp_ge, cmp_gt, cmp_le, lT0, lT1] at c_35 | simp only [Int32.le_iff_toInt_le, Int32.lt_iff_toInt_lt, ← Int32.toInt_inj, iT0, iT1, iT2, iT3, iT4, iT5, iT6, iT7, iT8, iT9, iT10, iT11, iT12, iT13, iT14, iT15, iT16, iT19, iT20, iT31, iT32, iT42, iT64, iT200, iT318, iT319, iT1000, iTm1, iTm2] at c_35
    exfalso; omega
  · skip
    first | simp only [cmp_eq, cmp_lt, cmp_ge, cmp_gt, cmp_le, lT0, lT1] at c_35 | simp only [Int32.le_iff_toInt_le, Int32.lt_iff_toInt_lt, ← Int32.toInt_inj, iT0, iT1, iT2, iT3, iT4, iT5, iT6, iT7, iT8, iT9, iT10, iT11, iT12, iT13, iT14, iT15, iT16, iT19, iT20, iT31, iT32, iT42, iT64, iT200, iT318, iT319, iT1000, iTm1, iTm2] at c_35
    refine j_iload_n X dX10_distance_38 rfl 5 rfl ?_
    refine j_iconst (v := 1) X dX10_distance_39 rfl ?_
    refine j_icmp_gt (tgt := 55) X dX10_distance_40 (by decide) (fun c_40 => ?_) (fun c_40 => ?_)
    · skip
      first | simp only [cmp_eq, cmp_lt, cmp_ge, cmp_gt, cmp_le, lT0, lT1] at c_40 | simp only [Int32.le_iff_toInt_le, Int32.lt_iff_toInt_lt, ← Int32.toInt_inj, iT0, iT1, iT2, iT3, iT4, iT5, iT6, iT7, iT8, iT9, iT10, iT11, iT12, iT13, iT14, iT15, iT16, iT19, iT20, iT31, iT32, iT42, iT64, iT200, iT318, iT319, iT1000, iTm1, iTm2] at c_40
      exfalso; omega
    · skip
      first | simp only [cmp_eq, cmp_lt, cmp_ge, cmp_gt, cmp_le, lT0, lT1] at c_40 | simp only [Int32.le_iff_toInt_le, Int32.lt_iff_toInt_lt, ← Int32.toInt_inj, iT0, iT1, iT2, iT3, iT4, iT5, iT6, iT7, iT8, iT9, iT10, iT11, iT12, iT13, iT14, iT15, iT16, iT19, iT20, iT31, iT32, iT42, iT64, iT200, iT318, iT319, iT1000, iTm1, iTm2] at c_40
      refine j_iload X dX10_distance_43 6 rfl ?_
      refine j_if_lt (tgt := 55) X dX10_distance_45 (by decide) (fun c_45 => ?_) (fun c_45 => ?_)
      · skip
        first | simp only [cmp_eq, cmp_lt, cmp_ge, cmp_gt, cmp_le, lT0, lT1] at c_45 | simp only [Int32.le_iff_toInt_le, Int32.lt_iff_toInt_lt, ← Int32.toInt_inj, iT0, iT1, iT2, iT3, iT4, iT5, iT6, iT7, iT8, iT9, iT10, iT11, iT12, iT13, iT14, iT15, iT16, iT19, iT20, iT31, iT32, iT42, iT64, iT200, iT318, iT319, iT1000, iTm1, iTm2] at c_45
        exfalso; omega
      · skip
        first | simp only [cmp_eq, cmp_lt, cmp_ge, cmp_gt, cmp_le, lT0, lT1] at c_45 | simp only [Int32.le_iff_toInt_le, Int32.lt_iff_toInt_lt, ← Int32.toInt_inj, iT0, iT1, iT2, iT3, iT4, iT5, iT6, iT7, iT8, iT9, iT10, iT11, iT12, iT13, iT14, iT15, iT16, iT19, iT20, iT31, iT32, iT42, iT64, iT200, iT318, iT319, iT1000, iTm1, iTm2] at c_45
        refine j_iload X dX10_distance_48 6 rfl ?_
        refine j_bipush (v := 6) X dX10_distance_50 (by decide) ?_
        refine j_icmp_lt (tgt := 65) X dX10_distance_52 (by decide) (fun c_52 => ?_) (fun c_52 => ?_)
        · skip
          first | simp only [cmp_eq, cmp_lt, cmp_ge, cmp_gt, cmp_le, lT0, lT1] at c_52 | simp only [Int32.le_iff_toInt_le, Int32.lt_iff_toInt_lt, ← Int32.toInt_inj, iT0, iT1, iT2, iT3, iT4, iT5, iT6, iT7, iT8, iT9, iT10, iT11, iT12, iT13, iT14, iT15, iT16, iT19, iT20, iT31, iT32, iT42, iT64, iT200, iT318, iT319, iT1000, iTm1, iTm2] at c_52
          refine j_aload X dX10_distance_65 1 rfl ?_
          refine j_inst X dX10_distance_67 19 rfl rfl cl_X10_distance_82 ?_
          refine j_if_eq (tgt := 138) X dX10_distance_70 (by decide) (fun c9 => absurd c9 (by decide)) (fun _ => ?_)
          refine j_aload X dX10_distance_73 1 rfl ?_
          refine j_cast X dX10_distance_75 19 rfl rfl cl_X10_distance_82 ?_
          refine j_astore (L' := [(7, .ref s0), (6, .ref t0), (5, .ref s0), (0, .ref x0), (1, .int x1), (2, .int x2), (3, .int pa), (4, .int li)]) X dX10_distance_78 (by decide) rfl ?_
          refine j_aload X dX10_distance_80 1 rfl ?_
          refine j_inst X dX10_distance_82 20 rfl rfl cl_X10_distance_82 ?_
          refine j_if_eq (tgt := 138) X dX10_distance_85 (by decide) (fun c9 => absurd c9 (by decide)) (fun _ => ?_)
          refine j_aload X dX10_distance_88 1 rfl ?_
          refine j_cast X dX10_distance_90 20 rfl rfl cl_X10_distance_82 ?_
          refine j_astore (L' := [(8, .ref t0), (7, .ref s0), (6, .ref t0), (5, .ref s0), (0, .ref x0), (1, .int x1), (2, .int x2), (3, .int pa), (4, .int li)]) X dX10_distance_93 (by decide) rfl ?_
          refine j_aload_n X dX10_distance_95 rfl 4 rfl ?_
          refine j_get (v := .ref gp) X dX10_distance_96 0 rfl 5 rfl in_X10_distance_X10 (by decide) fl_X10_distance_39 rfl ?_
          refine j_aload X dX10_distance_99 1 rfl ?_
          refine j_aload X dX10_distance_101 0 rfl ?_
          refine j_pick (ws' := [(gp, .inr (2, [.ref ab, .ref be, .ref na, .ref nb, .ref le, .ref ri, .ref qu, .ref sh, va_rf (me), va_rf (mw)])), (ab, .inr (8, [.ref aab])), (aab, aJ G 8 (dg A0)), (be, .inr (8, [.ref abe])), (abe, aJ G 8 (dg B0)), (na, .inr (8, [.ref ana])), (ana, aJ G 8 fna), (nb, .inr (8, [.ref anb])), (anb, aJ G 8 fnb), (le, .inr (8, [.ref ale])), (ale, aJ G 8 fle), (ri, .inr (8, [.ref ari])), (ari, aJ G 8 fri), (qu, .inr (8, [.ref aqu])), (aqu, aJ G 8 fqu), (sh, .inr (8, [.ref ash])), (ash, aJ G 8 fsh), (s0, .inr (7, [.long sax, .long say, .long sbx, .long sby, .long sdx, .long sdy])), (t0, .inr (7, [.long tax, .long tay, .long tbx, .long tby, .long tdx, .long tdy])), (x0, .inr (9, [.ref xs, .int (nI N), .ref po, .ref ro, .ref cr, .ref gp, .ref nu, .ref wk])), (xs, aS G 200 f)]) [2, 3, 4, 5, 6, 7, 8, 9, 10, 11, 12, 13, 14, 15, 16, 17, 18, 19, 20, 0, 1] rfl (by decide) ?_
          refine j_callVP X dX10_distance_103 (c_X2_measure l G gp ab be na nb le ri qu sh aab abe ana anb ale ari aqu ash me mw fna fnb fle fri fqu fsh A0 B0 s0 sax say sbx sby sdx sdy hs t0 tax tay tbx tby tdx tdy ht hinv) gX10_distance_X2_measure rfl hy_X2_measure_V ⟨Nat.le_of_ble_eq_true rfl, Nat.le_of_ble_eq_true rfl⟩ 0 rfl rfl [(x0, .inr (9, [.ref xs, .int (nI N), .ref po, .ref ro, .ref cr, .ref gp, .ref nu, .ref wk])), (xs, aS G 200 f)] rfl rfl rfl (Nat.le_of_ble_eq_true rfl) ⟨Nat.le_of_ble_eq_true rfl, Nat.le_of_ble_eq_true rfl⟩ ?_
          rintro _ ⟨u_1, u_2, u_3, u_4, u_5, u_6, u_7, u_8⟩ ⟨rfl, hA9, hB9⟩
          change J p l e rm_X10_distance s m args below meth c Q G A 9 0 0 106 [(8, .ref t0), (7, .ref s0), (6, .ref t0), (5, .ref s0), (0, .ref x0), (1, .int x1), (2, .int x2), (3, .int pa), (4, .int li)] [] [(gp, .inr (2, [.ref ab, .ref be, .ref na, .ref nb, .ref le, .ref ri, .ref qu, .ref sh, va_rf (some s0), va_rf (some t0)])), (ab, .inr (8, [.ref aab])), (aab, aJ G 8 (dg u_1)), (be, .inr (8, [.ref abe])), (abe, aJ G 8 (dg u_2)), (na, .inr (8, [.ref ana])), (ana, aJ G 8 u_3), (nb, .inr (8, [.ref anb])), (anb, aJ G 8 u_4), (le, .inr (8, [.ref ale])), (ale, aJ G 8 u_5), (ri, .inr (8, [.ref ari])), (ari, aJ G 8 u_6), (qu, .inr (8, [.ref aqu])), (aqu, aJ G 8 u_7), (sh, .inr (8, [.ref ash])), (ash, aJ G 8 u_8), (s0, .inr (7, [.long sax, .long say, .long sbx, .long sby, .long sdx, .long sdy])), (t0, .inr (7, [.long tax, .long tay, .long tbx, .long tby, .long tdx, .long tdy])), (x0, .inr (9, [.ref xs, .int (nI N), .ref po, .ref ro, .ref cr, .ref gp, .ref nu, .ref wk])), (xs, aS G 200 f)]
          refine j_iload_n X dX10_distance_106 rfl 7 rfl ?_
          refine j_if_ne (tgt := 125) X dX10_distance_107 (by decide) (fun c_107 => ?_) (fun c_107 => ?_)
          · skip
            first | simp only [cmp_eq, cmp_lt, cmp_ge, cmp_gt, cmp_le, lT0, lT1] at c_107 | simp only [Int32.le_iff_toInt_le, Int32.lt_iff_toInt_lt, ← Int32.toInt_inj, iT0, iT1, iT2, iT3, iT4, iT5, iT6, iT7, iT8, iT9, iT10, iT11, iT12, iT13, iT14, iT15, iT16, iT19, iT20, iT31, iT32, iT42, iT64, iT200, iT318, iT319, iT1000, iTm1, iTm2] at c_107
            refine j_aload_n X dX10_distance_125 rfl 4 rfl ?_
            refine j_get (v := .ref gp) X dX10_distance_126 19 rfl 5 rfl in_X10_distance_X10 (by decide) fl_X10_distance_39 rfl ?_
            refine j_get (v := .ref be) X dX10_distance_129 0 rfl 1 rfl in_X10_distance_X2 (by decide) fl_X10_distance_127 rfl ?_
            refine j_iload X dX10_distance_132 8 rfl ?_
            refine j_callV X dX10_distance_134 (c_X9_limb l G be abe (dg u_2) li) gX10_distance_X9_limb rfl hy_X9_limb_V ⟨Nat.le_of_ble_eq_true rfl, Nat.le_of_ble_eq_true rfl⟩ 0 rfl rfl [3, 4] rfl (by decide) rfl rfl (Nat.le_of_ble_eq_true rfl) ⟨Nat.le_of_ble_eq_true rfl, Nat.le_of_ble_eq_true rfl⟩ ?_
            rintro _ ⟨⟩ rfl
            change J p l e rm_X10_distance s m args below meth c Q G A 9 0 0 137 [(8, .ref t0), (7, .ref s0), (6, .ref t0), (5, .ref s0), (0, .ref x0), (1, .int x1), (2, .int x2), (3, .int pa), (4, .int li)] [.long (if 0 ≤ li.toInt ∧ li.toInt < 8 then (dg u_2) li.toInt.toNat else 0)] [(gp, .inr (2, [.ref ab, .ref be, .ref na, .ref nb, .ref le, .ref ri, .ref qu, .ref sh, va_rf (some s0), va_rf (some t0)])), (ab, .inr (8, [.ref aab])), (aab, aJ G 8 (dg u_1)), (be, .inr (8, [.ref abe])), (abe, aJ G 8 (dg u_2)), (na, .inr (8, [.ref ana])), (ana, aJ G 8 u_3), (nb, .inr (8, [.ref anb])), (anb, aJ G 8 u_4), (le, .inr (8, [.ref ale])), (ale, aJ G 8 u_5), (ri, .inr (8, [.ref ari])), (ari, aJ G 8 u_6), (qu, .inr (8, [.ref aqu])), (aqu, aJ G 8 u_7), (sh, .inr (8, [.ref ash])), (ash, aJ G 8 u_8), (s0, .inr (7, [.long sax, .long say, .long sbx, .long sby, .long sdx, .long sdy])), (t0, .inr (7, [.long tax, .long tay, .long tbx, .long tby, .long tdx, .long tdy])), (x0, .inr (9, [.ref xs, .int (nI N), .ref po, .ref ro, .ref cr, .ref gp, .ref nu, .ref wk])), (xs, aS G 200 f)]
            refine j_topl (fun r_9 er_9 => ?_)
            refine j_pick (ws' := [(x0, .inr (9, [.ref xs, .int (nI N), .ref po, .ref ro, .ref cr, .ref gp, .ref nu, .ref wk])), (xs, aS G 200 f), (gp, .inr (2, [.ref ab, .ref be, .ref na, .ref nb, .ref le, .ref ri, .ref qu, .ref sh, va_rf (some s0), va_rf (some t0)])), (ab, .inr (8, [.ref aab])), (aab, aJ G 8 (dg u_1)), (be, .inr (8, [.ref abe])), (abe, aJ G 8 (dg u_2)), (na, .inr (8, [.ref ana])), (ana, aJ G 8 u_3), (nb, .inr (8, [.ref anb])), (anb, aJ G 8 u_4), (le, .inr (8, [.ref ale])), (ale, aJ G 8 u_5), (ri, .inr (8, [.ref ari])), (ari, aJ G 8 u_6), (qu, .inr (8, [.ref aqu])), (aqu, aJ G 8 u_7), (sh, .inr (8, [.ref ash])), (ash, aJ G 8 u_8), (s0, .inr (7, [.long sax, .long say, .long sbx, .long sby, .long sdx, .long sdy])), (t0, .inr (7, [.long tax, .long tay, .long tbx, .long tby, .long tdx, .long tdy]))]) [19, 20, 0, 1, 2, 3, 4, 5, 6, 7, 8, 9, 10, 11, 12, 13, 14, 15, 16, 17, 18] rfl (by decide) ?_
            exact E.2.2 137 _ r_9 (u_1, u_2, u_3, u_4, u_5, u_6, u_7, u_8) dX10_distance_137 (⟨hA9, hB9, by rw [er_9, if_pos (by omega), if_neg c_107]⟩) hr
          · skip
            first | simp only [cmp_eq, cmp_lt, cmp_ge, cmp_gt, cmp_le, lT0, lT1] at c_107 | simp only [Int32.le_iff_toInt_le, Int32.lt_iff_toInt_lt, ← Int32.toInt_inj, iT0, iT1, iT2, iT3, iT4, iT5, iT6, iT7, iT8, iT9, iT10, iT11, iT12, iT13, iT14, iT15, iT16, iT19, iT20, iT31, iT32, iT42, iT64, iT200, iT318, iT319, iT1000, iTm1, iTm2] at c_107
            refine j_aload_n X dX10_distance_110 rfl 4 rfl ?_
            refine j_get (v := .ref gp) X dX10_distance_111 19 rfl 5 rfl in_X10_distance_X10 (by decide) fl_X10_distance_39 rfl ?_
            refine j_get (v := .ref ab) X dX10_distance_114 0 rfl 0 rfl in_X10_distance_X2 (by decide) fl_X10_distance_120 rfl ?_
            refine j_iload X dX10_distance_117 8 rfl ?_
            refine j_callV X dX10_distance_119 (c_X9_limb l G ab aab (dg u_1) li) gX10_distance_X9_limb rfl hy_X9_limb_V ⟨Nat.le_of_ble_eq_true rfl, Nat.le_of_ble_eq_true rfl⟩ 0 rfl rfl [1, 2] rfl (by decide) rfl rfl (Nat.le_of_ble_eq_true rfl) ⟨Nat.le_of_ble_eq_true rfl, Nat.le_of_ble_eq_true rfl⟩ ?_
            rintro _ ⟨⟩ rfl
            change J p l e rm_X10_distance s m args below meth c Q G A 9 0 0 122 [(8, .ref t0), (7, .ref s0), (6, .ref t0), (5, .ref s0), (0, .ref x0), (1, .int x1), (2, .int x2), (3, .int pa), (4, .int li)] [.long (if 0 ≤ li.toInt ∧ li.toInt < 8 then (dg u_1) li.toInt.toNat else 0)] [(gp, .inr (2, [.ref ab, .ref be, .ref na, .ref nb, .ref le, .ref ri, .ref qu, .ref sh, va_rf (some s0), va_rf (some t0)])), (ab, .inr (8, [.ref aab])), (aab, aJ G 8 (dg u_1)), (be, .inr (8, [.ref abe])), (abe, aJ G 8 (dg u_2)), (na, .inr (8, [.ref ana])), (ana, aJ G 8 u_3), (nb, .inr (8, [.ref anb])), (anb, aJ G 8 u_4), (le, .inr (8, [.ref ale])), (ale, aJ G 8 u_5), (ri, .inr (8, [.ref ari])), (ari, aJ G 8 u_6), (qu, .inr (8, [.ref aqu])), (aqu, aJ G 8 u_7), (sh, .inr (8, [.ref ash])), (ash, aJ G 8 u_8), (s0, .inr (7, [.long sax, .long say, .long sbx, .long sby, .long sdx, .long sdy])), (t0, .inr (7, [.long tax, .long tay, .long tbx, .long tby, .long tdx, .long tdy])), (x0, .inr (9, [.ref xs, .int (nI N), .ref po, .ref ro, .ref cr, .ref gp, .ref nu, .ref wk])), (xs, aS G 200 f)]
            refine j_topl (fun r_10 er_10 => ?_)
            refine j_goto (tgt := 137) X dX10_distance_122 (by decide) ?_
            refine j_pick (ws' := [(x0, .inr (9, [.ref xs, .int (nI N), .ref po, .ref ro, .ref cr, .ref gp, .ref nu, .ref wk])), (xs, aS G 200 f), (gp, .inr (2, [.ref ab, .ref be, .ref na, .ref nb, .ref le, .ref ri, .ref qu, .ref sh, va_rf (some s0), va_rf (some t0)])), (ab, .inr (8, [.ref aab])), (aab, aJ G 8 (dg u_1)), (be, .inr (8, [.ref abe])), (abe, aJ G 8 (dg u_2)), (na, .inr (8, [.ref ana])), (ana, aJ G 8 u_3), (nb, .inr (8, [.ref anb])), (anb, aJ G 8 u_4), (le, .inr (8, [.ref ale])), (ale, aJ G 8 u_5), (ri, .inr (8, [.ref ari])), (ari, aJ G 8 u_6), (qu, .inr (8, [.ref aqu])), (aqu, aJ G 8 u_7), (sh, .inr (8, [.ref ash])), (ash, aJ G 8 u_8), (s0, .inr (7, [.long sax, .long say, .long sbx, .long sby, .long sdx, .long sdy])), (t0, .inr (7, [.long tax, .long tay, .long tbx, .long tby, .long tdx, .long tdy]))]) [19, 20, 0, 1, 2, 3, 4, 5, 6, 7, 8, 9, 10, 11, 12, 13, 14, 15, 16, 17, 18] rfl (by decide) ?_
            exact E.2.2 137 _ r_10 (u_1, u_2, u_3, u_4, u_5, u_6, u_7, u_8) dX10_distance_137 (⟨hA9, hB9, by rw [er_10, if_pos (by omega), if_pos c_107]⟩) hr
        · skip
          first | simp only [cmp_eq, cmp_lt, cmp_ge, cmp_gt, cmp_le, lT0, lT1] at c_52 | simp only [Int32.le_iff_toInt_le, Int32.lt_iff_toInt_lt, ← Int32.toInt_inj, iT0, iT1, iT2, iT3, iT4, iT5, iT6, iT7, iT8, iT9, iT10, iT11, iT12, iT13, iT14, iT15, iT16, iT19, iT20, iT31, iT32, iT42, iT64, iT200, iT318, iT319, iT1000, iTm1, iTm2] at c_52
          exfalso; omega

theorem hy_X10_distance_V : yX10_distance.cls = RX10 ∧ yX10_distance.cls ≠ "java/lang/invoke/MethodHandle" ∧ yX10_distance.cls ≠ "java/lang/invoke/VarHandle" ∧ (parseMethodDescriptor yX10_distance.desc).map (fun d => d.parameters.length) = some 4 := by decide +kernel
set_option maxHeartbeats 4000000 in
set_option maxRecDepth 100000 in
theorem c_X10_distance_0s (l : Launch) (G : jG) (x0 xs po ro cr gp nu wk : Nat) (f : Nat → Option Nat) (N : Nat) (gN : N ≤ 200) (x1 x2 pa li : Int32) (ab be na nb le ri qu sh aab abe ana anb ale ari aqu ash : Nat) (me mw : Option Nat) (fna fnb fle fri fqu fsh : Nat → Int64) (A0 B0 : Int) (s0 : Nat) (sax say sbx sby sdx sdy : Int64) (hs : sgH sax say sbx sby sdx sdy) (hf1 : shO f N x1 = some s0) (hf2 : shO f N x2 = some s0) (hP : (0 ≤ pa.toInt ∧ pa.toInt < 2) ∧ (0 ≤ li.toInt ∧ li.toInt < 6)) (hinv : me = some s0 → mw = some s0 → A0 = gpA sax.toInt say.toInt sbx.toInt sby.toInt sax.toInt say.toInt sbx.toInt sby.toInt ∧ B0 = gpB sax.toInt say.toInt sbx.toInt sby.toInt sax.toInt say.toInt sbx.toInt sby.toInt) : Cf l yX10_distance wsX10_distance rm_X10_distance G [.ref x0, .int x1, .int x2, .int pa, .int li] [(x0, .inr (9, [.ref xs, .int (nI N), .ref po, .ref ro, .ref cr, .ref gp, .ref nu, .ref wk])), (xs, aS G 200 f), (gp, .inr (2, [.ref ab, .ref be, .ref na, .ref nb, .ref le, .ref ri, .ref qu, .ref sh, va_rf (me), va_rf (mw)])), (ab, .inr (8, [.ref aab])), (aab, aJ G 8 (dg A0)), (be, .inr (8, [.ref abe])), (abe, aJ G 8 (dg B0)), (na, .inr (8, [.ref ana])), (ana, aJ G 8 fna), (nb, .inr (8, [.ref anb])), (anb, aJ G 8 fnb), (le, .inr (8, [.ref ale])), (ale, aJ G 8 fle), (ri, .inr (8, [.ref ari])), (ari, aJ G 8 fri), (qu, .inr (8, [.ref aqu])), (aqu, aJ G 8 fqu), (sh, .inr (8, [.ref ash])), (ash, aJ G 8 fsh), (s0, .inr (7, [.long sax, .long say, .long sbx, .long sby, .long sdx, .long sdy]))] (S := Int × Int × (Nat → Int64) × (Nat → Int64) × (Nat → Int64) × (Nat → Int64) × (Nat → Int64) × (Nat → Int64)) (fun r u => u.1 = gpA sax.toInt say.toInt sbx.toInt sby.toInt sax.toInt say.toInt sbx.toInt sby.toInt ∧ u.2.1 = gpB sax.toInt say.toInt sbx.toInt sby.toInt sax.toInt say.toInt sbx.toInt sby.toInt ∧ r = some (.long (dg (if pa.toInt = 0 then u.1 else u.2.1) li.toInt.toNat))) (fun u => [(x0, .inr (9, [.ref xs, .int (nI N), .ref po, .ref ro, .ref cr, .ref gp, .ref nu, .ref wk])), (xs, aS G 200 f), (gp, .inr (2, [.ref ab, .ref be, .ref na, .ref nb, .ref le, .ref ri, .ref qu, .ref sh, va_rf (some s0), va_rf (some s0)])), (ab, .inr (8, [.ref aab])), (aab, aJ G 8 (dg u.1)), (be, .inr (8, [.ref abe])), (abe, aJ G 8 (dg u.2.1)), (na, .inr (8, [.ref ana])), (ana, aJ G 8 u.2.2.1), (nb, .inr (8, [.ref anb])), (anb, aJ G 8 u.2.2.2.1), (le, .inr (8, [.ref ale])), (ale, aJ G 8 u.2.2.2.2.1), (ri, .inr (8, [.ref ari])), (ari, aJ G 8 u.2.2.2.2.2.1), (qu, .inr (8, [.ref aqu])), (aqu, aJ G 8 u.2.2.2.2.2.2.1), (sh, .inr (8, [.ref ash])), (ash, aJ G 8 u.2.2.2.2.2.2.2), (s0, .inr (7, [.long sax, .long say, .long sbx, .long sby, .long sdx, .long sdy]))]) (fun _ => []) := by
  refine cf_intro (cc := cX10_distance) (maxL := 9) (ret := (some .long)) (by decide) rfl (Nat.le_of_ble_eq_true rfl) (fun _ => by simp only [List.map_cons, List.map_nil]) ?_
  intro p e s m args below meth c Q A X XF hr hin E
  change J p l e rm_X10_distance s m args below meth c Q G A 9 0 0 0 [(0, .ref x0), (1, .int x1), (2, .int x2), (3, .int pa), (4, .int li)] [] [(x0, .inr (9, [.ref xs, .int (nI N), .ref po, .ref ro, .ref cr, .ref gp, .ref nu, .ref wk])), (xs, aS G 200 f), (gp, .inr (2, [.ref ab, .ref be, .ref na, .ref nb, .ref le, .ref ri, .ref qu, .ref sh, va_rf (me), va_rf (mw)])), (ab, .inr (8, [.ref aab])), (aab, aJ G 8 (dg A0)), (be, .inr (8, [.ref abe])), (abe, aJ G 8 (dg B0)), (na, .inr (8, [.ref ana])), (ana, aJ G 8 fna), (nb, .inr (8, [.ref anb])), (anb, aJ G 8 fnb), (le, .inr (8, [.ref ale])), (ale, aJ G 8 fle), (ri, .inr (8, [.ref ari])), (ari, aJ G 8 fri), (qu, .inr (8, [.ref aqu])), (aqu, aJ G 8 fqu), (sh, .inr (8, [.ref ash])), (ash, aJ G 8 fsh), (s0, .inr (7, [.long sax, .long say, .long sbx, .long sby, .long sdx, .long sdy]))]
  refine j_aload_n X dX10_distance_0 rfl 0 rfl ?_
  refine j_iload_n X dX10_distance_1 rfl 1 rfl ?_
  refine j_callV X dX10_distance_2 (c_X10_shapeOf l G x0 xs po ro cr gp nu wk f N gN x1 (some s0) hf1) gX10_distance_X10_shapeOf rfl hy_X10_shapeOf_V ⟨Nat.le_of_ble_eq_true rfl, Nat.le_of_ble_eq_true rfl⟩ 0 rfl rfl [0, 1] rfl (by decide) rfl rfl (Nat.le_of_ble_eq_true rfl) ⟨Nat.le_of_ble_eq_true rfl, Nat.le_of_ble_eq_true rfl⟩ ?_
  rintro _ ⟨⟩ rfl
  change J p l e rm_X10_distance s m args below meth c Q G A 9 0 0 5 [(0, .ref x0), (1, .int x1), (2, .int x2), (3, .int pa), (4, .int li)] [.ref s0] [(x0, .inr (9, [.ref xs, .int (nI N), .ref po, .ref ro, .ref cr, .ref gp, .ref nu, .ref wk])), (xs, aS G 200 f), (gp, .inr (2, [.ref ab, .ref be, .ref na, .ref nb, .ref le, .ref ri, .ref qu, .ref sh, va_rf (me), va_rf (mw)])), (ab, .inr (8, [.ref aab])), (aab, aJ G 8 (dg A0)), (be, .inr (8, [.ref abe])), (abe, aJ G 8 (dg B0)), (na, .inr (8, [.ref ana])), (ana, aJ G 8 fna), (nb, .inr (8, [.ref anb])), (anb, aJ G 8 fnb), (le, .inr (8, [.ref ale])), (ale, aJ G 8 fle), (ri, .inr (8, [.ref ari])), (ari, aJ G 8 fri), (qu, .inr (8, [.ref aqu])), (aqu, aJ G 8 fqu), (sh, .inr (8, [.ref ash])), (ash, aJ G 8 fsh), (s0, .inr (7, [.long sax, .long say, .long sbx, .long sby, .long sdx, .long sdy]))]
  refine j_astore (L' := [(5, .ref s0), (0, .ref x0), (1, .int x1), (2, .int x2), (3, .int pa), (4, .int li)]) X dX10_distance_5 (by decide) rfl ?_
  refine j_aload_n X dX10_distance_7 rfl 1 rfl ?_
  refine j_iload_n X dX10_distance_8 rfl 3 rfl ?_
  refine j_callV X dX10_distance_9 (c_X10_shapeOf l G x0 xs po ro cr gp nu wk f N gN x2 (some s0) hf2) gX10_distance_X10_shapeOf rfl hy_X10_shapeOf_V ⟨Nat.le_of_ble_eq_true rfl, Nat.le_of_ble_eq_true rfl⟩ 0 rfl rfl [0, 1] rfl (by decide) rfl rfl (Nat.le_of_ble_eq_true rfl) ⟨Nat.le_of_ble_eq_true rfl, Nat.le_of_ble_eq_true rfl⟩ ?_
  rintro _ ⟨⟩ rfl
  change J p l e rm_X10_distance s m args below meth c Q G A 9 0 0 12 [(5, .ref s0), (0, .ref x0), (1, .int x1), (2, .int x2), (3, .int pa), (4, .int li)] [.ref s0] [(x0, .inr (9, [.ref xs, .int (nI N), .ref po, .ref ro, .ref cr, .ref gp, .ref nu, .ref wk])), (xs, aS G 200 f), (gp, .inr (2, [.ref ab, .ref be, .ref na, .ref nb, .ref le, .ref ri, .ref qu, .ref sh, va_rf (me), va_rf (mw)])), (ab, .inr (8, [.ref aab])), (aab, aJ G 8 (dg A0)), (be, .inr (8, [.ref abe])), (abe, aJ G 8 (dg B0)), (na, .inr (8, [.ref ana])), (ana, aJ G 8 fna), (nb, .inr (8, [.ref anb])), (anb, aJ G 8 fnb), (le, .inr (8, [.ref ale])), (ale, aJ G 8 fle), (ri, .inr (8, [.ref ari])), (ari, aJ G 8 fri), (qu, .inr (8, [.ref aqu])), (aqu, aJ G 8 fqu), (sh, .inr (8, [.ref ash])), (ash, aJ G 8 fsh), (s0, .inr (7, [.long sax, .long say, .long sbx, .long sby, .long sdx, .long sdy]))]
  refine j_astore (L' := [(6, .ref s0), (5, .ref s0), (0, .ref x0), (1, .int x1), (2, .int x2), (3, .int pa), (4, .int li)]) X dX10_distance_12 (by decide) rfl ?_
  refine j_aload X dX10_distance_14 1 rfl ?_
  refine j_ifnull X dX10_distance_16 ?_
  refine j_aload X dX10_distance_19 0 rfl ?_
  refine j_ifnonnull (tgt := 34) X dX10_distance_21 (by decide) ?_
  refine j_iload_n X dX10_distance_34 rfl 5 rfl ?_
  refine j_if_lt (tgt := 55) X dX10_distance_35 (by decide) (fun c_35 => ?_) (fun c_35 => ?_)
  · skip
    first | simp only [cmp_eq, cmp_lt, cmp_ge, cmp_gt, cmp_le, lT0, lT1] at c_35 | simp only [Int32.le_iff_toInt_le, Int32.lt_iff_toInt_lt, ← Int32.toInt_inj, iT0, iT1, iT2, iT3, iT4, iT5, iT6, iT7, iT8, iT9, iT10, iT11, iT12, iT13, iT14, iT15, iT16, iT19, iT20, iT31, iT32, iT42, iT64, iT200, iT318, iT319, iT1000, iTm1, iTm2] at c_35
    exfalso; omega
  · skip
    first | simp only [cmp_eq, cmp_lt, cmp_ge, cmp_gt, cmp_le, lT0, lT1] at c_35 | simp only [Int32.le_iff_toInt_le, Int32.lt_iff_toInt_lt, ← Int32.toInt_inj, iT0, iT1, iT2, iT3, iT4, iT5, iT6, iT7, iT8, iT9, iT10, iT11, iT12, iT13, iT14, iT15, iT16, iT19, iT20, iT31, iT32, iT42, iT64, iT200, iT318, iT319, iT1000, iTm1, iTm2] at c_35
    refine j_iload_n X dX10_distance_38 rfl 5 rfl ?_
    refine j_iconst (v := 1) X dX10_distance_39 rfl ?_
    refine j_icmp_gt (tgt := 55) X dX10_distance_40 (by decide) (fun c_40 => ?_) (fun c_40 => ?_)
    · skip
      first | simp only [cmp_eq, cmp_lt, cmp_ge, cmp_gt, cmp_le, lT0, lT1] at c_40 | simp only [Int32.le_iff_toInt_le, Int32.lt_iff_toInt_lt, ← Int32.toInt_inj, iT0, iT1, iT2, iT3, iT4, iT5, iT6, iT7, iT8, iT9, iT10, iT11, iT12, iT13, iT14, iT15, iT16, iT19, iT20, iT31, iT32, iT42, iT64, iT200, iT318, iT319, iT1000, iTm1, iTm2] at c_40
      exfalso; omega
    · skip
      first | simp only [cmp_eq, cmp_lt, cmp_ge, cmp_gt, cmp_le, lT0, lT1] at c_40 | simp only [Int32.le_iff_toInt_le, Int32.lt_iff_toInt_lt, ← Int32.toInt_inj, iT0, iT1, iT2, iT3, iT4, iT5, iT6, iT7, iT8, iT9, iT10, iT11, iT12, iT13, iT14, iT15, iT16, iT19, iT20, iT31, iT32, iT42, iT64, iT200, iT318, iT319, iT1000, iTm1, iTm2] at c_40
      refine j_iload X dX10_distance_43 6 rfl ?_
      refine j_if_lt (tgt := 55) X dX10_distance_45 (by decide) (fun c_45 => ?_) (fun c_45 => ?_)
      · skip
        first | simp only [cmp_eq, cmp_lt, cmp_ge, cmp_gt, cmp_le, lT0, lT1] at c_45 | simp only [Int32.le_iff_toInt_le, Int32.lt_iff_toInt_lt, ← Int32.toInt_inj, iT0, iT1, iT2, iT3, iT4, iT5, iT6, iT7, iT8, iT9, iT10, iT11, iT12, iT13, iT14, iT15, iT16, iT19, iT20, iT31, iT32, iT42, iT64, iT200, iT318, iT319, iT1000, iTm1, iTm2] at c_45
        exfalso; omega
      · skip
        first | simp only [cmp_eq, cmp_lt, cmp_ge, cmp_gt, cmp_le, lT0, lT1] at c_45 | simp only [Int32.le_iff_toInt_le, Int32.lt_iff_toInt_lt, ← Int32.toInt_inj, iT0, iT1, iT2, iT3, iT4, iT5, iT6, iT7, iT8, iT9, iT10, iT11, iT12, iT13, iT14, iT15, iT16, iT19, iT20, iT31, iT32, iT42, iT64, iT200, iT318, iT319, iT1000, iTm1, iTm2] at c_45
        refine j_iload X dX10_distance_48 6 rfl ?_
        refine j_bipush (v := 6) X dX10_distance_50 (by decide) ?_
        refine j_icmp_lt (tgt := 65) X dX10_distance_52 (by decide) (fun c_52 => ?_) (fun c_52 => ?_)
        · skip
          first | simp only [cmp_eq, cmp_lt, cmp_ge, cmp_gt, cmp_le, lT0, lT1] at c_52 | simp only [Int32.le_iff_toInt_le, Int32.lt_iff_toInt_lt, ← Int32.toInt_inj, iT0, iT1, iT2, iT3, iT4, iT5, iT6, iT7, iT8, iT9, iT10, iT11, iT12, iT13, iT14, iT15, iT16, iT19, iT20, iT31, iT32, iT42, iT64, iT200, iT318, iT319, iT1000, iTm1, iTm2] at c_52
          refine j_aload X dX10_distance_65 1 rfl ?_
          refine j_inst X dX10_distance_67 19 rfl rfl cl_X10_distance_82 ?_
          refine j_if_eq (tgt := 138) X dX10_distance_70 (by decide) (fun c9 => absurd c9 (by decide)) (fun _ => ?_)
          refine j_aload X dX10_distance_73 1 rfl ?_
          refine j_cast X dX10_distance_75 19 rfl rfl cl_X10_distance_82 ?_
          refine j_astore (L' := [(7, .ref s0), (6, .ref s0), (5, .ref s0), (0, .ref x0), (1, .int x1), (2, .int x2), (3, .int pa), (4, .int li)]) X dX10_distance_78 (by decide) rfl ?_
          refine j_aload X dX10_distance_80 1 rfl ?_
          refine j_inst X dX10_distance_82 19 rfl rfl cl_X10_distance_82 ?_
          refine j_if_eq (tgt := 138) X dX10_distance_85 (by decide) (fun c9 => absurd c9 (by decide)) (fun _ => ?_)
          refine j_aload X dX10_distance_88 1 rfl ?_
          refine j_cast X dX10_distance_90 19 rfl rfl cl_X10_distance_82 ?_
          refine j_astore (L' := [(8, .ref s0), (7, .ref s0), (6, .ref s0), (5, .ref s0), (0, .ref x0), (1, .int x1), (2, .int x2), (3, .int pa), (4, .int li)]) X dX10_distance_93 (by decide) rfl ?_
          refine j_aload_n X dX10_distance_95 rfl 4 rfl ?_
          refine j_get (v := .ref gp) X dX10_distance_96 0 rfl 5 rfl in_X10_distance_X10 (by decide) fl_X10_distance_39 rfl ?_
          refine j_aload X dX10_distance_99 1 rfl ?_
          refine j_aload X dX10_distance_101 0 rfl ?_
          refine j_pick (ws' := [(gp, .inr (2, [.ref ab, .ref be, .ref na, .ref nb, .ref le, .ref ri, .ref qu, .ref sh, va_rf (me), va_rf (mw)])), (ab, .inr (8, [.ref aab])), (aab, aJ G 8 (dg A0)), (be, .inr (8, [.ref abe])), (abe, aJ G 8 (dg B0)), (na, .inr (8, [.ref ana])), (ana, aJ G 8 fna), (nb, .inr (8, [.ref anb])), (anb, aJ G 8 fnb), (le, .inr (8, [.ref ale])), (ale, aJ G 8 fle), (ri, .inr (8, [.ref ari])), (ari, aJ G 8 fri), (qu, .inr (8, [.ref aqu])), (aqu, aJ G 8 fqu), (sh, .inr (8, [.ref ash])), (ash, aJ G 8 fsh), (s0, .inr (7, [.long sax, .long say, .long sbx, .long sby, .long sdx, .long sdy])), (x0, .inr (9, [.ref xs, .int (nI N), .ref po, .ref ro, .ref cr, .ref gp, .ref nu, .ref wk])), (xs, aS G 200 f)]) [2, 3, 4, 5, 6, 7, 8, 9, 10, 11, 12, 13, 14, 15, 16, 17, 18, 19, 0, 1] rfl (by decide) ?_
          refine j_callVP X dX10_distance_103 (c_X2_measure_s l G gp ab be na nb le ri qu sh aab abe ana anb ale ari aqu ash me mw fna fnb fle fri fqu fsh A0 B0 s0 sax say sbx sby sdx sdy hs hinv) gX10_distance_X2_measure rfl hy_X2_measure_V ⟨Nat.le_of_ble_eq_true rfl, Nat.le_of_ble_eq_true rfl⟩ 0 rfl rfl [(x0, .inr (9, [.ref xs, .int (nI N), .ref po, .ref ro, .ref cr, .ref gp, .ref nu, .ref wk])), (xs, aS G 200 f)] rfl rfl rfl (Nat.le_of_ble_eq_true rfl) ⟨Nat.le_of_ble_eq_true rfl, Nat.le_of_ble_eq_true rfl⟩ ?_
          rintro _ ⟨u_1, u_2, u_3, u_4, u_5, u_6, u_7, u_8⟩ ⟨rfl, hA9, hB9⟩
          change J p l e rm_X10_distance s m args below meth c Q G A 9 0 0 106 [(8, .ref s0), (7, .ref s0), (6, .ref s0), (5, .ref s0), (0, .ref x0), (1, .int x1), (2, .int x2), (3, .int pa), (4, .int li)] [] [(gp, .inr (2, [.ref ab, .ref be, .ref na, .ref nb, .ref le, .ref ri, .ref qu, .ref sh, va_rf (some s0), va_rf (some s0)])), (ab, .inr (8, [.ref aab])), (aab, aJ G 8 (dg u_1)), (be, .inr (8, [.ref abe])), (abe, aJ G 8 (dg u_2)), (na, .inr (8, [.ref ana])), (ana, aJ G 8 u_3), (nb, .inr (8, [.ref anb])), (anb, aJ G 8 u_4), (le, .inr (8, [.ref ale])), (ale, aJ G 8 u_5), (ri, .inr (8, [.ref ari])), (ari, aJ G 8 u_6), (qu, .inr (8, [.ref aqu])), (aqu, aJ G 8 u_7), (sh, .inr (8, [.ref ash])), (ash, aJ G 8 u_8), (s0, .inr (7, [.long sax, .long say, .long sbx, .long sby, .long sdx, .long sdy])), (x0, .inr (9, [.ref xs, .int (nI N), .ref po, .ref ro, .ref cr, .ref gp, .ref nu, .ref wk])), (xs, aS G 200 f)]
          refine j_iload_n X dX10_distance_106 rfl 7 rfl ?_
          refine j_if_ne (tgt := 125) X dX10_distance_107 (by decide) (fun c_107 => ?_) (fun c_107 => ?_)
          · skip
            first | simp only [cmp_eq, cmp_lt, cmp_ge, cmp_gt, cmp_le, lT0, lT1] at c_107 | simp only [Int32.le_iff_toInt_le, Int32.lt_iff_toInt_lt, ← Int32.toInt_inj, iT0, iT1, iT2, iT3, iT4, iT5, iT6, iT7, iT8, iT9, iT10, iT11, iT12, iT13, iT14, iT15, iT16, iT19, iT20, iT31, iT32, iT42, iT64, iT200, iT318, iT319, iT1000, iTm1, iTm2] at c_107
            refine j_aload_n X dX10_distance_125 rfl 4 rfl ?_
            refine j_get (v := .ref gp) X dX10_distance_126 18 rfl 5 rfl in_X10_distance_X10 (by decide) fl_X10_distance_39 rfl ?_
            refine j_get (v := .ref be) X dX10_distance_129 0 rfl 1 rfl in_X10_distance_X2 (by decide) fl_X10_distance_127 rfl ?_
            refine j_iload X dX10_distance_132 8 rfl ?_
            refine j_callV X dX10_distance_134 (c_X9_limb l G be abe (dg u_2) li) gX10_distance_X9_limb rfl hy_X9_limb_V ⟨Nat.le_of_ble_eq_true rfl, Nat.le_of_ble_eq_true rfl⟩ 0 rfl rfl [3, 4] rfl (by decide) rfl rfl (Nat.le_of_ble_eq_true rfl) ⟨Nat.le_of_ble_eq_true rfl, Nat.le_of_ble_eq_true rfl⟩ ?_
            rintro _ ⟨⟩ rfl
            change J p l e rm_X10_distance s m args below meth c Q G A 9 0 0 137 [(8, .ref s0), (7, .ref s0), (6, .ref s0), (5, .ref s0), (0, .ref x0), (1, .int x1), (2, .int x2), (3, .int pa), (4, .int li)] [.long (if 0 ≤ li.toInt ∧ li.toInt < 8 then (dg u_2) li.toInt.toNat else 0)] [(gp, .inr (2, [.ref ab, .ref be, .ref na, .ref nb, .ref le, .ref ri, .ref qu, .ref sh, va_rf (some s0), va_rf (some s0)])), (ab, .inr (8, [.ref aab])), (aab, aJ G 8 (dg u_1)), (be, .inr (8, [.ref abe])), (abe, aJ G 8 (dg u_2)), (na, .inr (8, [.ref ana])), (ana, aJ G 8 u_3), (nb, .inr (8, [.ref anb])), (anb, aJ G 8 u_4), (le, .inr (8, [.ref ale])), (ale, aJ G 8 u_5), (ri, .inr (8, [.ref ari])), (ari, aJ G 8 u_6), (qu, .inr (8, [.ref aqu])), (aqu, aJ G 8 u_7), (sh, .inr (8, [.ref ash])), (ash, aJ G 8 u_8), (s0, .inr (7, [.long sax, .long say, .long sbx, .long sby, .long sdx, .long sdy])), (x0, .inr (9, [.ref xs, .int (nI N), .ref po, .ref ro, .ref cr, .ref gp, .ref nu, .ref wk])), (xs, aS G 200 f)]
            refine j_topl (fun r_9 er_9 => ?_)
            refine j_pick (ws' := [(x0, .inr (9, [.ref xs, .int (nI N), .ref po, .ref ro, .ref cr, .ref gp, .ref nu, .ref wk])), (xs, aS G 200 f), (gp, .inr (2, [.ref ab, .ref be, .ref na, .ref nb, .ref le, .ref ri, .ref qu, .ref sh, va_rf (some s0), va_rf (some s0)])), (ab, .inr (8, [.ref aab])), (aab, aJ G 8 (dg u_1)), (be, .inr (8, [.ref abe])), (abe, aJ G 8 (dg u_2)), (na, .inr (8, [.ref ana])), (ana, aJ G 8 u_3), (nb, .inr (8, [.ref anb])), (anb, aJ G 8 u_4), (le, .inr (8, [.ref ale])), (ale, aJ G 8 u_5), (ri, .inr (8, [.ref ari])), (ari, aJ G 8 u_6), (qu, .inr (8, [.ref aqu])), (aqu, aJ G 8 u_7), (sh, .inr (8, [.ref ash])), (ash, aJ G 8 u_8), (s0, .inr (7, [.long sax, .long say, .long sbx, .long sby, .long sdx, .long sdy]))]) [18, 19, 0, 1, 2, 3, 4, 5, 6, 7, 8, 9, 10, 11, 12, 13, 14, 15, 16, 17] rfl (by decide) ?_
            exact E.2.2 137 _ r_9 (u_1, u_2, u_3, u_4, u_5, u_6, u_7, u_8) dX10_distance_137 (⟨hA9, hB9, by rw [er_9, if_pos (by omega), if_neg c_107]⟩) hr
          · skip
            first | simp only [cmp_eq, cmp_lt, cmp_ge, cmp_gt, cmp_le, lT0, lT1] at c_107 | simp only [Int32.le_iff_toInt_le, Int32.lt_iff_toInt_lt, ← Int32.toInt_inj, iT0, iT1, iT2, iT3, iT4, iT5, iT6, iT7, iT8, iT9, iT10, iT11, iT12, iT13, iT14, iT15, iT16, iT19, iT20, iT31, iT32, iT42, iT64, iT200, iT318, iT319, iT1000, iTm1, iTm2] at c_107
            refine j_aload_n X dX10_distance_110 rfl 4 rfl ?_
            refine j_get (v := .ref gp) X dX10_distance_111 18 rfl 5 rfl in_X10_distance_X10 (by decide) fl_X10_distance_39 rfl ?_
            refine j_get (v := .ref ab) X dX10_distance_114 0 rfl 0 rfl in_X10_distance_X2 (by decide) fl_X10_distance_120 rfl ?_
            refine j_iload X dX10_distance_117 8 rfl ?_
            refine j_callV X dX10_distance_119 (c_X9_limb l G ab aab (dg u_1) li) gX10_distance_X9_limb rfl hy_X9_limb_V ⟨Nat.le_of_ble_eq_true rfl, Nat.le_of_ble_eq_true rfl⟩ 0 rfl rfl [1, 2] rfl (by decide) rfl rfl (Nat.le_of_ble_eq_true rfl) ⟨Nat.le_of_ble_eq_true rfl, Nat.le_of_ble_eq_true rfl⟩ ?_
            rintro _ ⟨⟩ rfl
            change J p l e rm_X10_distance s m args below meth c Q G A 9 0 0 122 [(8, .ref s0), (7, .ref s0), (6, .ref s0), (5, .ref s0), (0, .ref x0), (1, .int x1), (2, .int x2), (3, .int pa), (4, .int li)] [.long (if 0 ≤ li.toInt ∧ li.toInt < 8 then (dg u_1) li.toInt.toNat else 0)] [(gp, .inr (2, [.ref ab, .ref be, .ref na, .ref nb, .ref le, .ref ri, .ref qu, .ref sh, va_rf (some s0), va_rf (some s0)])), (ab, .inr (8, [.ref aab])), (aab, aJ G 8 (dg u_1)), (be, .inr (8, [.ref abe])), (abe, aJ G 8 (dg u_2)), (na, .inr (8, [.ref ana])), (ana, aJ G 8 u_3), (nb, .inr (8, [.ref anb])), (anb, aJ G 8 u_4), (le, .inr (8, [.ref ale])), (ale, aJ G 8 u_5), (ri, .inr (8, [.ref ari])), (ari, aJ G 8 u_6), (qu, .inr (8, [.ref aqu])), (aqu, aJ G 8 u_7), (sh, .inr (8, [.ref ash])), (ash, aJ G 8 u_8), (s0, .inr (7, [.long sax, .long say, .long sbx, .long sby, .long sdx, .long sdy])), (x0, .inr (9, [.ref xs, .int (nI N), .ref po, .ref ro, .ref cr, .ref gp, .ref nu, .ref wk])), (xs, aS G 200 f)]
            refine j_topl (fun r_10 er_10 => ?_)
            refine j_goto (tgt := 137) X dX10_distance_122 (by decide) ?_
            refine j_pick (ws' := [(x0, .inr (9, [.ref xs, .int (nI N), .ref po, .ref ro, .ref cr, .ref gp, .ref nu, .ref wk])), (xs, aS G 200 f), (gp, .inr (2, [.ref ab, .ref be, .ref na, .ref nb, .ref le, .ref ri, .ref qu, .ref sh, va_rf (some s0), va_rf (some s0)])), (ab, .inr (8, [.ref aab])), (aab, aJ G 8 (dg u_1)), (be, .inr (8, [.ref abe])), (abe, aJ G 8 (dg u_2)), (na, .inr (8, [.ref ana])), (ana, aJ G 8 u_3), (nb, .inr (8, [.ref anb])), (anb, aJ G 8 u_4), (le, .inr (8, [.ref ale])), (ale, aJ G 8 u_5), (ri, .inr (8, [.ref ari])), (ari, aJ G 8 u_6), (qu, .inr (8, [.ref aqu])), (aqu, aJ G 8 u_7), (sh, .inr (8, [.ref ash])), (ash, aJ G 8 u_8), (s0, .inr (7, [.long sax, .long say, .long sbx, .long sby, .long sdx, .long sdy]))]) [18, 19, 0, 1, 2, 3, 4, 5, 6, 7, 8, 9, 10, 11, 12, 13, 14, 15, 16, 17] rfl (by decide) ?_
            exact E.2.2 137 _ r_10 (u_1, u_2, u_3, u_4, u_5, u_6, u_7, u_8) dX10_distance_137 (⟨hA9, hB9, by rw [er_10, if_pos (by omega), if_pos c_107]⟩) hr
        · skip
          first | simp only [cmp_eq, cmp_lt, cmp_ge, cmp_gt, cmp_le, lT0, lT1] at c_52 | simp only [Int32.le_iff_toInt_le, Int32.lt_iff_toInt_lt, ← Int32.toInt_inj, iT0, iT1, iT2, iT3, iT4, iT5, iT6, iT7, iT8, iT9, iT10, iT11, iT12, iT13, iT14, iT15, iT16, iT19, iT20, iT31, iT32, iT42, iT64, iT200, iT318, iT319, iT1000, iTm1, iTm2] at c_52
          exfalso; omega

