abbrev rm_X10_cross_1 : Room := { frames := 6, cells := 1, slots := 6, locals := 90 }
theorem in_X10_cross_X10 : ∀ w ∈ u_ws RX10 TX10 8, w ∈ wsX10_cross := by decide +kernel
theorem fl_X10_cross_32 : Cond.fieldLink RX10 32 (TX10 4).1 (TX10 4).2.1 (TX10 4).2.2.1 ∈ wsX10_cross := by decide +kernel
theorem ta_X10_cross_109 : (Cond.classLink RX10 109 eB ∈ wsX10_cross) ∧ (Cond.initialized eB ∈ wsX10_cross) := by decide +kernel
theorem tb_X10_cross_113 : ∀ w ∈ (vx_atS RX10 113 eB ["java/lang/RuntimeException", "java/lang/Exception"]).filter goodWord, w ∈ wsX10_cross := fun w h => List.mem_cons_of_mem _ (List.mem_append_left _ (List.mem_append_right _ h))
set_option maxHeartbeats 4000000 in
set_option maxRecDepth 100000 in
theorem c_X10_cross_1 (l : Launch) (G : jG) (hst : l.stackTraces = false) (x0 xs po ro cr gp nu wk : Nat) (f : Nat → Option Nat) (N : Nat) (gN : N ≤ 200) (x1 x2 : Int32) (c1 c2 c3 c4 c5 c6 c7 c8 c9 c10 : Nat) (md ct : Int32) (bsx bsy : Int64) (hP : ¬ ((0 ≤ x1.toInt ∧ x1.toInt < N) ∧ (0 ≤ x2.toInt ∧ x2.toInt < N))) : CtX l yX10_cross wsX10_cross rm_X10_cross_1 G [.ref x0, .int x1, .int x2] [(x0, .inr (9, [.ref xs, .int (nI N), .ref po, .ref ro, .ref cr, .ref gp, .ref nu, .ref wk])), (xs, aS G 200 f), (cr, .inr (1, [.ref c1, .int md, .int ct, .long bsx, .long bsy, .ref c2, .ref c3, .ref c4, .ref c5, .ref c6, .ref c7, .ref c8, .ref c9, .ref c10]))] eB (S := Unit) (fun _ => True) (fun _ => [(x0, .inr (9, [.ref xs, .int (nI N), .ref po, .ref ro, .ref cr, .ref gp, .ref nu, .ref wk])), (xs, aS G 200 f), (cr, .inr (1, [.ref c1, .int 0, .int 0, .long bsx, .long bsy, .ref c2, .ref c3, .ref c4, .ref c5, .ref c6, .ref c7, .ref c8, .ref c9, .ref c10]))]) := by
  refine c_introX (cc := cX10_cross) (maxL := 13) (ret := (some .int)) (by decide) rfl (Nat.le_of_ble_eq_true rfl) (fun _ => by simp only [List.map_cons, List.map_nil]) ?_
  intro p e s m args below meth c Q A hQ X XF hlk htb
  change J p l e rm_X10_cross_1 s m args below meth c Q G A 13 0 0 0 [(0, .ref x0), (1, .int x1), (2, .int x2)] [] [(x0, .inr (9, [.ref xs, .int (nI N), .ref po, .ref ro, .ref cr, .ref gp, .ref nu, .ref wk])), (xs, aS G 200 f), (cr, .inr (1, [.ref c1, .int md, .int ct, .long bsx, .long bsy, .ref c2, .ref c3, .ref c4, .ref c5, .ref c6, .ref c7, .ref c8, .ref c9, .ref c10]))]
  rcases h1 : shO f N x1 with _ | q1 <;> rcases h2 : shO f N x2 with _ | q2
  · skip
    refine j_aload_n X dX10_cross_0 rfl 0 rfl ?_
    refine j_get (v := .ref cr) X dX10_cross_1 0 rfl 4 rfl in_X10_cross_X10 (by decide) fl_X10_cross_32 rfl ?_
    refine j_callV X dX10_cross_4 (c_X1_forget l G cr c1 c2 c3 c4 c5 c6 c7 c8 c9 c10 md ct bsx bsy) gX10_cross_X1_forget rfl hy_X1_forget_V ⟨Nat.le_of_ble_eq_true rfl, Nat.le_of_ble_eq_true rfl⟩ 0 rfl rfl [2] rfl (by decide) rfl rfl (Nat.le_of_ble_eq_true rfl) ⟨Nat.le_of_ble_eq_true rfl, Nat.le_of_ble_eq_true rfl⟩ ?_
    rintro _ ⟨⟩ rfl
    change J p l e rm_X10_cross_1 s m args below meth c Q G A 13 0 0 7 [(0, .ref x0), (1, .int x1), (2, .int x2)] [] [(x0, .inr (9, [.ref xs, .int (nI N), .ref po, .ref ro, .ref cr, .ref gp, .ref nu, .ref wk])), (xs, aS G 200 f), (cr, .inr (1, [.ref c1, .int 0, .int 0, .long bsx, .long bsy, .ref c2, .ref c3, .ref c4, .ref c5, .ref c6, .ref c7, .ref c8, .ref c9, .ref c10]))]
    refine j_aload_n X dX10_cross_7 rfl 0 rfl ?_
    refine j_iload_n X dX10_cross_8 rfl 1 rfl ?_
    refine j_callV X dX10_cross_9 (c_X10_shapeOf l G x0 xs po ro cr gp nu wk f N gN x1 none h1) gX10_cross_X10_shapeOf rfl hy_X10_shapeOf_V ⟨Nat.le_of_ble_eq_true rfl, Nat.le_of_ble_eq_true rfl⟩ 0 rfl rfl [0, 1] rfl (by decide) rfl rfl (Nat.le_of_ble_eq_true rfl) ⟨Nat.le_of_ble_eq_true rfl, Nat.le_of_ble_eq_true rfl⟩ ?_
    rintro _ ⟨⟩ rfl
    change J p l e rm_X10_cross_1 s m args below meth c Q G A 13 0 0 12 [(0, .ref x0), (1, .int x1), (2, .int x2)] [.null] [(x0, .inr (9, [.ref xs, .int (nI N), .ref po, .ref ro, .ref cr, .ref gp, .ref nu, .ref wk])), (xs, aS G 200 f), (cr, .inr (1, [.ref c1, .int 0, .int 0, .long bsx, .long bsy, .ref c2, .ref c3, .ref c4, .ref c5, .ref c6, .ref c7, .ref c8, .ref c9, .ref c10]))]
    refine j_astore_nN (L' := [(3, .null), (0, .ref x0), (1, .int x1), (2, .int x2)]) X dX10_cross_12 rfl (by decide) rfl ?_
    refine j_aload_n X dX10_cross_13 rfl 1 rfl ?_
    refine j_iload_n X dX10_cross_14 rfl 3 rfl ?_
    refine j_callV X dX10_cross_15 (c_X10_shapeOf l G x0 xs po ro cr gp nu wk f N gN x2 none h2) gX10_cross_X10_shapeOf rfl hy_X10_shapeOf_V ⟨Nat.le_of_ble_eq_true rfl, Nat.le_of_ble_eq_true rfl⟩ 0 rfl rfl [0, 1] rfl (by decide) rfl rfl (Nat.le_of_ble_eq_true rfl) ⟨Nat.le_of_ble_eq_true rfl, Nat.le_of_ble_eq_true rfl⟩ ?_
    rintro _ ⟨⟩ rfl
    change J p l e rm_X10_cross_1 s m args below meth c Q G A 13 0 0 18 [(3, .null), (0, .ref x0), (1, .int x1), (2, .int x2)] [.null] [(x0, .inr (9, [.ref xs, .int (nI N), .ref po, .ref ro, .ref cr, .ref gp, .ref nu, .ref wk])), (xs, aS G 200 f), (cr, .inr (1, [.ref c1, .int 0, .int 0, .long bsx, .long bsy, .ref c2, .ref c3, .ref c4, .ref c5, .ref c6, .ref c7, .ref c8, .ref c9, .ref c10]))]
    refine j_astoreN (L' := [(4, .null), (3, .null), (0, .ref x0), (1, .int x1), (2, .int x2)]) X dX10_cross_18 (by decide) rfl ?_
    refine j_aload_nN X dX10_cross_20 rfl 1 rfl ?_
    refine j_ifnullN (tgt := 29) X dX10_cross_21 (by decide) ?_
    subst hQ
    exact j_throwS (cls := eB) (text := "no such shape") (names := ["java/lang/RuntimeException", "java/lang/Exception"]) X rfl hst XF hlk htb dX10_cross_29 dX10_cross_32 dX10_cross_33 dX10_cross_35 dX10_cross_38 (by decide +kernel) (by decide +kernel) ta_X10_cross_109.1 ta_X10_cross_109.2 (by decide +kernel) (by decide +kernel) tb_X10_cross_113 tc_113 td_113 (Nat.le_of_ble_eq_true rfl) (Nat.le_of_ble_eq_true rfl) (Nat.le_of_ble_eq_true rfl) (Nat.le_of_ble_eq_true rfl) () trivial rfl
  · skip
    refine j_aload_n X dX10_cross_0 rfl 0 rfl ?_
    refine j_get (v := .ref cr) X dX10_cross_1 0 rfl 4 rfl in_X10_cross_X10 (by decide) fl_X10_cross_32 rfl ?_
    refine j_callV X dX10_cross_4 (c_X1_forget l G cr c1 c2 c3 c4 c5 c6 c7 c8 c9 c10 md ct bsx bsy) gX10_cross_X1_forget rfl hy_X1_forget_V ⟨Nat.le_of_ble_eq_true rfl, Nat.le_of_ble_eq_true rfl⟩ 0 rfl rfl [2] rfl (by decide) rfl rfl (Nat.le_of_ble_eq_true rfl) ⟨Nat.le_of_ble_eq_true rfl, Nat.le_of_ble_eq_true rfl⟩ ?_
    rintro _ ⟨⟩ rfl
    change J p l e rm_X10_cross_1 s m args below meth c Q G A 13 0 0 7 [(0, .ref x0), (1, .int x1), (2, .int x2)] [] [(x0, .inr (9, [.ref xs, .int (nI N), .ref po, .ref ro, .ref cr, .ref gp, .ref nu, .ref wk])), (xs, aS G 200 f), (cr, .inr (1, [.ref c1, .int 0, .int 0, .long bsx, .long bsy, .ref c2, .ref c3, .ref c4, .ref c5, .ref c6, .ref c7, .ref c8, .ref c9, .ref c10]))]
    refine j_aload_n X dX10_cross_7 rfl 0 rfl ?_
    refine j_iload_n X dX10_cross_8 rfl 1 rfl ?_
    refine j_callV X dX10_cross_9 (c_X10_shapeOf l G x0 xs po ro cr gp nu wk f N gN x1 none h1) gX10_cross_X10_shapeOf rfl hy_X10_shapeOf_V ⟨Nat.le_of_ble_eq_true rfl, Nat.le_of_ble_eq_true rfl⟩ 0 rfl rfl [0, 1] rfl (by decide) rfl rfl (Nat.le_of_ble_eq_true rfl) ⟨Nat.le_of_ble_eq_true rfl, Nat.le_of_ble_eq_true rfl⟩ ?_
    rintro _ ⟨⟩ rfl
    change J p l e rm_X10_cross_1 s m args below meth c Q G A 13 0 0 12 [(0, .ref x0), (1, .int x1), (2, .int x2)] [.null] [(x0, .inr (9, [.ref xs, .int (nI N), .ref po, .ref ro, .ref cr, .ref gp, .ref nu, .ref wk])), (xs, aS G 200 f), (cr, .inr (1, [.ref c1, .int 0, .int 0, .long bsx, .long bsy, .ref c2, .ref c3, .ref c4, .ref c5, .ref c6, .ref c7, .ref c8, .ref c9, .ref c10]))]
    refine j_astore_nN (L' := [(3, .null), (0, .ref x0), (1, .int x1), (2, .int x2)]) X dX10_cross_12 rfl (by decide) rfl ?_
    refine j_aload_n X dX10_cross_13 rfl 1 rfl ?_
    refine j_iload_n X dX10_cross_14 rfl 3 rfl ?_
    refine j_callV X dX10_cross_15 (c_X10_shapeOf l G x0 xs po ro cr gp nu wk f N gN x2 (some q2) h2) gX10_cross_X10_shapeOf rfl hy_X10_shapeOf_V ⟨Nat.le_of_ble_eq_true rfl, Nat.le_of_ble_eq_true rfl⟩ 0 rfl rfl [0, 1] rfl (by decide) rfl rfl (Nat.le_of_ble_eq_true rfl) ⟨Nat.le_of_ble_eq_true rfl, Nat.le_of_ble_eq_true rfl⟩ ?_
    rintro _ ⟨⟩ rfl
    change J p l e rm_X10_cross_1 s m args below meth c Q G A 13 0 0 18 [(3, .null), (0, .ref x0), (1, .int x1), (2, .int x2)] [.ref q2] [(x0, .inr (9, [.ref xs, .int (nI N), .ref po, .ref ro, .ref cr, .ref gp, .ref nu, .ref wk])), (xs, aS G 200 f), (cr, .inr (1, [.ref c1, .int 0, .int 0, .long bsx, .long bsy, .ref c2, .ref c3, .ref c4, .ref c5, .ref c6, .ref c7, .ref c8, .ref c9, .ref c10]))]
    refine j_astore (L' := [(4, .ref q2), (3, .null), (0, .ref x0), (1, .int x1), (2, .int x2)]) X dX10_cross_18 (by decide) rfl ?_
    refine j_aload_nN X dX10_cross_20 rfl 1 rfl ?_
    refine j_ifnullN (tgt := 29) X dX10_cross_21 (by decide) ?_
    subst hQ
    exact j_throwS (cls := eB) (text := "no such shape") (names := ["java/lang/RuntimeException", "java/lang/Exception"]) X rfl hst XF hlk htb dX10_cross_29 dX10_cross_32 dX10_cross_33 dX10_cross_35 dX10_cross_38 (by decide +kernel) (by decide +kernel) ta_X10_cross_109.1 ta_X10_cross_109.2 (by decide +kernel) (by decide +kernel) tb_X10_cross_113 tc_113 td_113 (Nat.le_of_ble_eq_true rfl) (Nat.le_of_ble_eq_true rfl) (Nat.le_of_ble_eq_true rfl) (Nat.le_of_ble_eq_true rfl) () trivial rfl
  · skip
    refine j_aload_n X dX10_cross_0 rfl 0 rfl ?_
    refine j_get (v := .ref cr) X dX10_cross_1 0 rfl 4 rfl in_X10_cross_X10 (by decide) fl_X10_cross_32 rfl ?_
    refine j_callV X dX10_cross_4 (c_X1_forget l G cr c1 c2 c3 c4 c5 c6 c7 c8 c9 c10 md ct bsx bsy) gX10_cross_X1_forget rfl hy_X1_forget_V ⟨Nat.le_of_ble_eq_true rfl, Nat.le_of_ble_eq_true rfl⟩ 0 rfl rfl [2] rfl (by decide) rfl rfl (Nat.le_of_ble_eq_true rfl) ⟨Nat.le_of_ble_eq_true rfl, Nat.le_of_ble_eq_true rfl⟩ ?_
    rintro _ ⟨⟩ rfl
    change J p l e rm_X10_cross_1 s m args below meth c Q G A 13 0 0 7 [(0, .ref x0), (1, .int x1), (2, .int x2)] [] [(x0, .inr (9, [.ref xs, .int (nI N), .ref po, .ref ro, .ref cr, .ref gp, .ref nu, .ref wk])), (xs, aS G 200 f), (cr, .inr (1, [.ref c1, .int 0, .int 0, .long bsx, .long bsy, .ref c2, .ref c3, .ref c4, .ref c5, .ref c6, .ref c7, .ref c8, .ref c9, .ref c10]))]
    refine j_aload_n X dX10_cross_7 rfl 0 rfl ?_
    refine j_iload_n X dX10_cross_8 rfl 1 rfl ?_
    refine j_callV X dX10_cross_9 (c_X10_shapeOf l G x0 xs po ro cr gp nu wk f N gN x1 (some q1) h1) gX10_cross_X10_shapeOf rfl hy_X10_shapeOf_V ⟨Nat.le_of_ble_eq_true rfl, Nat.le_of_ble_eq_true rfl⟩ 0 rfl rfl [0, 1] rfl (by decide) rfl rfl (Nat.le_of_ble_eq_true rfl) ⟨Nat.le_of_ble_eq_true rfl, Nat.le_of_ble_eq_true rfl⟩ ?_
    rintro _ ⟨⟩ rfl
    change J p l e rm_X10_cross_1 s m args below meth c Q G A 13 0 0 12 [(0, .ref x0), (1, .int x1), (2, .int x2)] [.ref q1] [(x0, .inr (9, [.ref xs, .int (nI N), .ref po, .ref ro, .ref cr, .ref gp, .ref nu, .ref wk])), (xs, aS G 200 f), (cr, .inr (1, [.ref c1, .int 0, .int 0, .long bsx, .long bsy, .ref c2, .ref c3, .ref c4, .ref c5, .ref c6, .ref c7, .ref c8, .ref c9, .ref c10]))]
    refine j_astore_n (L' := [(3, .ref q1), (0, .ref x0), (1, .int x1), (2, .int x2)]) X dX10_cross_12 rfl (by decide) rfl ?_
    refine j_aload_n X dX10_cross_13 rfl 1 rfl ?_
    refine j_iload_n X dX10_cross_14 rfl 3 rfl ?_
    refine j_callV X dX10_cross_15 (c_X10_shapeOf l G x0 xs po ro cr gp nu wk f N gN x2 none h2) gX10_cross_X10_shapeOf rfl hy_X10_shapeOf_V ⟨Nat.le_of_ble_eq_true rfl, Nat.le_of_ble_eq_true rfl⟩ 0 rfl rfl [0, 1] rfl (by decide) rfl rfl (Nat.le_of_ble_eq_true rfl) ⟨Nat.le_of_ble_eq_true rfl, Nat.le_of_ble_eq_true rfl⟩ ?_
    rintro _ ⟨⟩ rfl
    change J p l e rm_X10_cross_1 s m args below meth c Q G A 13 0 0 18 [(3, .ref q1), (0, .ref x0), (1, .int x1), (2, .int x2)] [.null] [(x0, .inr (9, [.ref xs, .int (nI N), .ref po, .ref ro, .ref cr, .ref gp, .ref nu, .ref wk])), (xs, aS G 200 f), (cr, .inr (1, [.ref c1, .int 0, .int 0, .long bsx, .long bsy, .ref c2, .ref c3, .ref c4, .ref c5, .ref c6, .ref c7, .ref c8, .ref c9, .ref c10]))]
    refine j_astoreN (L' := [(4, .null), (3, .ref q1), (0, .ref x0), (1, .int x1), (2, .int x2)]) X dX10_cross_18 (by decide) rfl ?_
    refine j_aload_n X dX10_cross_20 rfl 1 rfl ?_
    refine j_ifnull X dX10_cross_21 ?_
    refine j_aloadN X dX10_cross_24 0 rfl ?_
    refine j_ifnonnullN X dX10_cross_26 ?_
    subst hQ
    exact j_throwS (cls := eB) (text := "no such shape") (names := ["java/lang/RuntimeException", "java/lang/Exception"]) X rfl hst XF hlk htb dX10_cross_29 dX10_cross_32 dX10_cross_33 dX10_cross_35 dX10_cross_38 (by decide +kernel) (by decide +kernel) ta_X10_cross_109.1 ta_X10_cross_109.2 (by decide +kernel) (by decide +kernel) tb_X10_cross_113 tc_113 td_113 (Nat.le_of_ble_eq_true rfl) (Nat.le_of_ble_eq_true rfl) (Nat.le_of_ble_eq_true rfl) (Nat.le_of_ble_eq_true rfl) () trivial rfl
  · skip
    refine j_aload_n X dX10_cross_0 rfl 0 rfl ?_
    refine j_get (v := .ref cr) X dX10_cross_1 0 rfl 4 rfl in_X10_cross_X10 (by decide) fl_X10_cross_32 rfl ?_
    refine j_callV X dX10_cross_4 (c_X1_forget l G cr c1 c2 c3 c4 c5 c6 c7 c8 c9 c10 md ct bsx bsy) gX10_cross_X1_forget rfl hy_X1_forget_V ⟨Nat.le_of_ble_eq_true rfl, Nat.le_of_ble_eq_true rfl⟩ 0 rfl rfl [2] rfl (by decide) rfl rfl (Nat.le_of_ble_eq_true rfl) ⟨Nat.le_of_ble_eq_true rfl, Nat.le_of_ble_eq_true rfl⟩ ?_
    rintro _ ⟨⟩ rfl
    change J p l e rm_X10_cross_1 s m args below meth c Q G A 13 0 0 7 [(0, .ref x0), (1, .int x1), (2, .int x2)] [] [(x0, .inr (9, [.ref xs, .int (nI N), .ref po, .ref ro, .ref cr, .ref gp, .ref nu, .ref wk])), (xs, aS G 200 f), (cr, .inr (1, [.ref c1, .int 0, .int 0, .long bsx, .long bsy, .ref c2, .ref c3, .ref c4, .ref c5, .ref c6, .ref c7, .ref c8, .ref c9, .ref c10]))]
    refine j_aload_n X dX10_cross_7 rfl 0 rfl ?_
    refine j_iload_n X dX10_cross_8 rfl 1 rfl ?_
    refine j_callV X dX10_cross_9 (c_X10_shapeOf l G x0 xs po ro cr gp nu wk f N gN x1 (some q1) h1) gX10_cross_X10_shapeOf rfl hy_X10_shapeOf_V ⟨Nat.le_of_ble_eq_true rfl, Nat.le_of_ble_eq_true rfl⟩ 0 rfl rfl [0, 1] rfl (by decide) rfl rfl (Nat.le_of_ble_eq_true rfl) ⟨Nat.le_of_ble_eq_true rfl, Nat.le_of_ble_eq_true rfl⟩ ?_
    rintro _ ⟨⟩ rfl
    change J p l e rm_X10_cross_1 s m args below meth c Q G A 13 0 0 12 [(0, .ref x0), (1, .int x1), (2, .int x2)] [.ref q1] [(x0, .inr (9, [.ref xs, .int (nI N), .ref po, .ref ro, .ref cr, .ref gp, .ref nu, .ref wk])), (xs, aS G 200 f), (cr, .inr (1, [.ref c1, .int 0, .int 0, .long bsx, .long bsy, .ref c2, .ref c3, .ref c4, .ref c5, .ref c6, .ref c7, .ref c8, .ref c9, .ref c10]))]
    refine j_astore_n (L' := [(3, .ref q1), (0, .ref x0), (1, .int x1), (2, .int x2)]) X dX10_cross_12 rfl (by decide) rfl ?_
    refine j_aload_n X dX10_cross_13 rfl 1 rfl ?_
    refine j_iload_n X dX10_cross_14 rfl 3 rfl ?_
    refine j_callV X dX10_cross_15 (c_X10_shapeOf l G x0 xs po ro cr gp nu wk f N gN x2 (some q2) h2) gX10_cross_X10_shapeOf rfl hy_X10_shapeOf_V ⟨Nat.le_of_ble_eq_true rfl, Nat.le_of_ble_eq_true rfl⟩ 0 rfl rfl [0, 1] rfl (by decide) rfl rfl (Nat.le_of_ble_eq_true rfl) ⟨Nat.le_of_ble_eq_true rfl, Nat.le_of_ble_eq_true rfl⟩ ?_
    rintro _ ⟨⟩ rfl
    change J p l e rm_X10_cross_1 s m args below meth c Q G A 13 0 0 18 [(3, .ref q1), (0, .ref x0), (1, .int x1), (2, .int x2)] [.ref q2] [(x0, .inr (9, [.ref xs, .int (nI N), .ref po, .ref ro, .ref cr, .ref gp, .ref nu, .ref wk])), (xs, aS G 200 f), (cr, .inr (1, [.ref c1, .int 0, .int 0, .long bsx, .long bsy, .ref c2, .ref c3, .ref c4, .ref c5, .ref c6, .ref c7, .ref c8, .ref c9, .ref c10]))]
    refine j_astore (L' := [(4, .ref q2), (3, .ref q1), (0, .ref x0), (1, .int x1), (2, .int x2)]) X dX10_cross_18 (by decide) rfl ?_
    refine j_aload_n X dX10_cross_20 rfl 1 rfl ?_
    refine j_ifnull X dX10_cross_21 ?_
    refine j_aload X dX10_cross_24 0 rfl ?_
    refine j_ifnonnull (tgt := 39) X dX10_cross_26 (by decide) ?_
    have := shO_s h1; have := shO_s h2; exfalso; omega

