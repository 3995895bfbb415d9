abbrev rm_X4_forget : Room := { frames := 1, cells := 0, slots := 0, locals := 25 }
theorem in_X4_forget_X4 : ∀ w ∈ u_ws RX4 TX4 6, w ∈ wsX4_forget := by decide +kernel
theorem fl_X4_forget_16 : Cond.fieldLink RX4 16 (TX4 0).1 (TX4 0).2.1 (TX4 0).2.2.1 ∈ wsX4_forget := by decide +kernel
theorem fl_X4_forget_20 : Cond.fieldLink RX4 20 (TX4 1).1 (TX4 1).2.1 (TX4 1).2.2.1 ∈ wsX4_forget := by decide +kernel
theorem fl_X4_forget_24 : Cond.fieldLink RX4 24 (TX4 2).1 (TX4 2).2.1 (TX4 2).2.2.1 ∈ wsX4_forget := by decide +kernel
theorem fl_X4_forget_27 : Cond.fieldLink RX4 27 (TX4 3).1 (TX4 3).2.1 (TX4 3).2.2.1 ∈ wsX4_forget := by decide +kernel
theorem fl_X4_forget_30 : Cond.fieldLink RX4 30 (TX4 4).1 (TX4 4).2.1 (TX4 4).2.2.1 ∈ wsX4_forget := by decide +kernel
theorem fl_X4_forget_10 : Cond.fieldLink RX4 10 (TX4 5).1 (TX4 5).2.1 (TX4 5).2.2.1 ∈ wsX4_forget := by decide +kernel
set_option maxHeartbeats 4000000 in
set_option maxRecDepth 100000 in
theorem c_X4_forget (l : Launch) (G : jG) (o su asu : Nat) (fx fy lx ly : Int64) (ct : Int32) (f : Nat → Int64) : Ct l yX4_forget wsX4_forget rm_X4_forget G [.ref o] [(o, .inr (4, [.int ct, .long fx, .long fy, .long lx, .long ly, .ref su])), (su, .inr (8, [.ref asu])), (asu, aJ G 8 f)] (S := Unit) (fun r _ => r = none) (fun _ => [(o, .inr (4, [.int 0, .long 0, .long 0, .long 0, .long 0, .ref su])), (su, .inr (8, [.ref asu])), (asu, aJ G 8 (dg 0))]) (fun _ => []) := by
  refine c_intro (cc := cX4_forget) (maxL := 1) (ret := none) (by decide) rfl (Nat.le_of_ble_eq_true rfl) (fun _ => by simp only [List.map_cons, List.map_nil]) ?_
  intro p e s m args below meth c Q A X hr hin E
  change J p l e rm_X4_forget s m args below meth c Q G A 1 0 0 0 [(0, .ref o)] [] [(o, .inr (4, [.int ct, .long fx, .long fy, .long lx, .long ly, .ref su])), (su, .inr (8, [.ref asu])), (asu, aJ G 8 f)]
  refine j_aload_n X dX4_forget_0 rfl 0 rfl ?_
  refine j_iconst (v := 0) X dX4_forget_1 rfl ?_
  refine j_put (ws' := [(o, .inr (4, [.int 0, .long fx, .long fy, .long lx, .long ly, .ref su])), (su, .inr (8, [.ref asu])), (asu, aJ G 8 f)]) X dX4_forget_2 0 rfl 0 rfl in_X4_forget_X4 tyX4 tyX4_ok nmX4 (by decide) fl_X4_forget_16 rfl rfl rfl rfl (Nat.le_of_ble_eq_true rfl) rfl ?_
  refine j_aload_n X dX4_forget_5 rfl 0 rfl ?_
  refine j_lconst (v := 0) X dX4_forget_6 rfl ?_
  refine j_put (ws' := [(o, .inr (4, [.int 0, .long 0, .long fy, .long lx, .long ly, .ref su])), (su, .inr (8, [.ref asu])), (asu, aJ G 8 f)]) X dX4_forget_7 0 rfl 1 rfl in_X4_forget_X4 tyX4 tyX4_ok nmX4 (by decide) fl_X4_forget_20 rfl rfl rfl rfl (Nat.le_of_ble_eq_true rfl) rfl ?_
  refine j_aload_n X dX4_forget_10 rfl 0 rfl ?_
  refine j_lconst (v := 0) X dX4_forget_11 rfl ?_
  refine j_put (ws' := [(o, .inr (4, [.int 0, .long 0, .long 0, .long lx, .long ly, .ref su])), (su, .inr (8, [.ref asu])), (asu, aJ G 8 f)]) X dX4_forget_12 0 rfl 2 rfl in_X4_forget_X4 tyX4 tyX4_ok nmX4 (by decide) fl_X4_forget_24 rfl rfl rfl rfl (Nat.le_of_ble_eq_true rfl) rfl ?_
  refine j_aload_n X dX4_forget_15 rfl 0 rfl ?_
  refine j_lconst (v := 0) X dX4_forget_16 rfl ?_
  refine j_put (ws' := [(o, .inr (4, [.int 0, .long 0, .long 0, .long 0, .long ly, .ref su])), (su, .inr (8, [.ref asu])), (asu, aJ G 8 f)]) X dX4_forget_17 0 rfl 3 rfl in_X4_forget_X4 tyX4 tyX4_ok nmX4 (by decide) fl_X4_forget_27 rfl rfl rfl rfl (Nat.le_of_ble_eq_true rfl) rfl ?_
  refine j_aload_n X dX4_forget_20 rfl 0 rfl ?_
  refine j_lconst (v := 0) X dX4_forget_21 rfl ?_
  refine j_put (ws' := [(o, .inr (4, [.int 0, .long 0, .long 0, .long 0, .long 0, .ref su])), (su, .inr (8, [.ref asu])), (asu, aJ G 8 f)]) X dX4_forget_22 0 rfl 4 rfl in_X4_forget_X4 tyX4 tyX4_ok nmX4 (by decide) fl_X4_forget_30 rfl rfl rfl rfl (Nat.le_of_ble_eq_true rfl) rfl ?_
  refine j_aload_n X dX4_forget_25 rfl 0 rfl ?_
  refine j_get (v := .ref su) X dX4_forget_26 0 rfl 5 rfl in_X4_forget_X4 (by decide) fl_X4_forget_10 rfl ?_
  refine j_lconst (v := 0) X dX4_forget_29 rfl ?_
  refine j_callV X dX4_forget_30 (c_X9_setTo l G su asu f 0) gX4_forget_X9_setTo rfl hy_X9_setTo_V ⟨Nat.le_of_ble_eq_true rfl, Nat.le_of_ble_eq_true rfl⟩ 0 rfl rfl [1, 2] rfl (by decide) rfl rfl (Nat.le_of_ble_eq_true rfl) ⟨Nat.le_of_ble_eq_true rfl, Nat.le_of_ble_eq_true rfl⟩ ?_
  rintro _ ⟨⟩ rfl
  change J p l e rm_X4_forget s m args below meth c Q G A 1 0 0 33 [(0, .ref o)] [] [(o, .inr (4, [.int 0, .long 0, .long 0, .long 0, .long 0, .ref su])), (su, .inr (8, [.ref asu])), (asu, aJ G 8 (dg 0))]
  exact E.1 33 _ () dX4_forget_33 rfl hr

theorem hy_X4_forget_V : yX4_forget.cls = RX4 ∧ yX4_forget.cls ≠ "java/lang/invoke/MethodHandle" ∧ yX4_forget.cls ≠ "java/lang/invoke/VarHandle" ∧ (parseMethodDescriptor yX4_forget.desc).map (fun d => d.parameters.length) = some 0 := by decide +kernel
abbrev rm_X4_add : Room := { frames := 3, cells := 0, slots := 0, locals := 96 }
theorem in_X4_add_X4 : ∀ w ∈ u_ws RX4 TX4 6, w ∈ wsX4_add := by decide +kernel
theorem fl_X4_add_16 : Cond.fieldLink RX4 16 (TX4 0).1 (TX4 0).2.1 (TX4 0).2.2.1 ∈ wsX4_add := by decide +kernel
theorem fl_X4_add_20 : Cond.fieldLink RX4 20 (TX4 1).1 (TX4 1).2.1 (TX4 1).2.2.1 ∈ wsX4_add := by decide +kernel
theorem fl_X4_add_24 : Cond.fieldLink RX4 24 (TX4 2).1 (TX4 2).2.1 (TX4 2).2.2.1 ∈ wsX4_add := by decide +kernel
theorem fl_X4_add_27 : Cond.fieldLink RX4 27 (TX4 3).1 (TX4 3).2.1 (TX4 3).2.2.1 ∈ wsX4_add := by decide +kernel
theorem fl_X4_add_30 : Cond.fieldLink RX4 30 (TX4 4).1 (TX4 4).2.1 (TX4 4).2.2.1 ∈ wsX4_add := by decide +kernel
set_option maxHeartbeats 4000000 in
set_option maxRecDepth 100000 in
theorem c_X4_add_0 (l : Launch) (G : jG) (o su asu : Nat) (fx fy lx ly : Int64) (S1 : Int) (px py : Int64) : Ct l yX4_add wsX4_add rm_X4_add G [.ref o, .long px, .long py] [(o, .inr (4, [.int 0, .long fx, .long fy, .long lx, .long ly, .ref su])), (su, .inr (8, [.ref asu])), (asu, aJ G 8 (dg S1))] (S := Unit) (fun r _ => r = none) (fun _ => [(o, .inr (4, [.int 1, .long px, .long py, .long px, .long py, .ref su])), (su, .inr (8, [.ref asu])), (asu, aJ G 8 (dg S1))]) (fun _ => []) := by
  refine c_intro (cc := cX4_add) (maxL := 5) (ret := none) (by decide) rfl (Nat.le_of_ble_eq_true rfl) (fun _ => by simp only [List.map_cons, List.map_nil]) ?_
  intro p e s m args below meth c Q A X hr hin E
  change J p l e rm_X4_add s m args below meth c Q G A 5 0 0 0 [(0, .ref o), (1, .long px), (3, .long py)] [] [(o, .inr (4, [.int 0, .long fx, .long fy, .long lx, .long ly, .ref su])), (su, .inr (8, [.ref asu])), (asu, aJ G 8 (dg S1))]
  refine j_aload_n X dX4_add_0 rfl 0 rfl ?_
  refine j_get (v := .int 0) X dX4_add_1 0 rfl 0 rfl in_X4_add_X4 (by decide) fl_X4_add_16 rfl ?_
  refine j_if_ne (tgt := 20) X dX4_add_4 (by decide) (fun c9 => absurd c9 (by decide)) (fun _ => ?_)
  refine j_aload_n X dX4_add_7 rfl 0 rfl ?_
  refine j_lload_n X dX4_add_8 rfl 1 rfl ?_
  refine j_put (ws' := [(o, .inr (4, [.int 0, .long px, .long fy, .long lx, .long ly, .ref su])), (su, .inr (8, [.ref asu])), (asu, aJ G 8 (dg S1))]) X dX4_add_9 0 rfl 1 rfl in_X4_add_X4 tyX4 tyX4_ok nmX4 (by decide) fl_X4_add_20 rfl rfl rfl rfl (Nat.le_of_ble_eq_true rfl) rfl ?_
  refine j_aload_n X dX4_add_12 rfl 0 rfl ?_
  refine j_lload_n X dX4_add_13 rfl 2 rfl ?_
  refine j_put (ws' := [(o, .inr (4, [.int 0, .long px, .long py, .long lx, .long ly, .ref su])), (su, .inr (8, [.ref asu])), (asu, aJ G 8 (dg S1))]) X dX4_add_14 0 rfl 2 rfl in_X4_add_X4 tyX4 tyX4_ok nmX4 (by decide) fl_X4_add_24 rfl rfl rfl rfl (Nat.le_of_ble_eq_true rfl) rfl ?_
  refine j_goto (tgt := 37) X dX4_add_17 (by decide) ?_
  refine j_aload_n X dX4_add_37 rfl 0 rfl ?_
  refine j_lload_n X dX4_add_38 rfl 1 rfl ?_
  refine j_put (ws' := [(o, .inr (4, [.int 0, .long px, .long py, .long px, .long ly, .ref su])), (su, .inr (8, [.ref asu])), (asu, aJ G 8 (dg S1))]) X dX4_add_39 0 rfl 3 rfl in_X4_add_X4 tyX4 tyX4_ok nmX4 (by decide) fl_X4_add_27 rfl rfl rfl rfl (Nat.le_of_ble_eq_true rfl) rfl ?_
  refine j_aload_n X dX4_add_42 rfl 0 rfl ?_
  refine j_lload_n X dX4_add_43 rfl 2 rfl ?_
  refine j_put (ws' := [(o, .inr (4, [.int 0, .long px, .long py, .long px, .long py, .ref su])), (su, .inr (8, [.ref asu])), (asu, aJ G 8 (dg S1))]) X dX4_add_44 0 rfl 4 rfl in_X4_add_X4 tyX4 tyX4_ok nmX4 (by decide) fl_X4_add_30 rfl rfl rfl rfl (Nat.le_of_ble_eq_true rfl) rfl ?_
  refine j_aload_n X dX4_add_47 rfl 0 rfl ?_
  refine j_dup X dX4_add_48 rfl ?_
  refine j_get (v := .int 0) X dX4_add_49 0 rfl 0 rfl in_X4_add_X4 (by decide) fl_X4_add_16 rfl ?_
  refine j_iconst (v := 1) X dX4_add_52 rfl ?_
  refine j_iadd X dX4_add_53 ?_
  rw [show (0 : Int32) + 1 = 1 from by decide]
  refine j_put (ws' := [(o, .inr (4, [.int 1, .long px, .long py, .long px, .long py, .ref su])), (su, .inr (8, [.ref asu])), (asu, aJ G 8 (dg S1))]) X dX4_add_54 0 rfl 0 rfl in_X4_add_X4 tyX4 tyX4_ok nmX4 (by decide) fl_X4_add_16 rfl rfl rfl rfl (Nat.le_of_ble_eq_true rfl) rfl ?_
  exact E.1 57 _ () dX4_add_57 rfl hr

theorem hy_X4_add_V : yX4_add.cls = RX4 ∧ yX4_add.cls ≠ "java/lang/invoke/MethodHandle" ∧ yX4_add.cls ≠ "java/lang/invoke/VarHandle" ∧ (parseMethodDescriptor yX4_add.desc).map (fun d => d.parameters.length) = some 2 := by decide +kernel
theorem fl_X4_add_10 : Cond.fieldLink RX4 10 (TX4 5).1 (TX4 5).2.1 (TX4 5).2.2.1 ∈ wsX4_add := by decide +kernel
set_option maxHeartbeats 4000000 in
set_option maxRecDepth 100000 in
theorem c_X4_add_n (l : Launch) (G : jG) (o su asu : Nat) (fx fy lx ly : Int64) (S1 : Int) (px py : Int64) (C : Nat) (hC : 0 < C ∧ C < 200) (hly : inC ly.toInt) : Ct l yX4_add wsX4_add rm_X4_add G [.ref o, .long px, .long py] [(o, .inr (4, [.int (nI C), .long fx, .long fy, .long lx, .long ly, .ref su])), (su, .inr (8, [.ref asu])), (asu, aJ G 8 (dg S1))] (S := Unit) (fun r _ => r = none) (fun _ => [(o, .inr (4, [.int (nI (C + 1)), .long fx, .long fy, .long px, .long py, .ref su])), (su, .inr (8, [.ref asu])), (asu, aJ G 8 (dg (S1 + (lx.toInt * py.toInt - ly.toInt * px.toInt))))]) (fun _ => []) := by
  refine c_intro (cc := cX4_add) (maxL := 5) (ret := none) (by decide) rfl (Nat.le_of_ble_eq_true rfl) (fun _ => by simp only [List.map_cons, List.map_nil]) ?_
  intro p e s m args below meth c Q A X hr hin E
  change J p l e rm_X4_add s m args below meth c Q G A 5 0 0 0 [(0, .ref o), (1, .long px), (3, .long py)] [] [(o, .inr (4, [.int (nI C), .long fx, .long fy, .long lx, .long ly, .ref su])), (su, .inr (8, [.ref asu])), (asu, aJ G 8 (dg S1))]
  refine j_aload_n X dX4_add_0 rfl 0 rfl ?_
  refine j_get (v := .int (nI C)) X dX4_add_1 0 rfl 0 rfl in_X4_add_X4 (by decide) fl_X4_add_16 rfl ?_
  refine j_if_ne (tgt := 20) X dX4_add_4 (by decide) (fun c_4 => ?_) (fun c_4 => ?_)
  · skip
    refine j_aload_n X dX4_add_20 rfl 0 rfl ?_
    refine j_get (v := .ref su) X dX4_add_21 0 rfl 5 rfl in_X4_add_X4 (by decide) fl_X4_add_10 rfl ?_
    refine j_aload_n X dX4_add_24 rfl 0 rfl ?_
    refine j_get (v := .long lx) X dX4_add_25 0 rfl 3 rfl in_X4_add_X4 (by decide) fl_X4_add_27 rfl ?_
    refine j_aload_n X dX4_add_28 rfl 0 rfl ?_
    refine j_get (v := .long ly) X dX4_add_29 0 rfl 4 rfl in_X4_add_X4 (by decide) fl_X4_add_30 rfl ?_
    refine j_lload_n X dX4_add_32 rfl 1 rfl ?_
    refine j_lload_n X dX4_add_33 rfl 2 rfl ?_
    refine j_callV X dX4_add_34 (c_X9_addCross l G su asu S1 lx ly px py (by omega)) gX4_add_X9_addCross rfl hy_X9_addCross_V ⟨Nat.le_of_ble_eq_true rfl, Nat.le_of_ble_eq_true rfl⟩ 0 rfl rfl [1, 2] rfl (by decide) rfl rfl (Nat.le_of_ble_eq_true rfl) ⟨Nat.le_of_ble_eq_true rfl, Nat.le_of_ble_eq_true rfl⟩ ?_
    rintro _ ⟨⟩ rfl
    change J p l e rm_X4_add s m args below meth c Q G A 5 0 0 37 [(0, .ref o), (1, .long px), (3, .long py)] [] [(o, .inr (4, [.int (nI C), .long fx, .long fy, .long lx, .long ly, .ref su])), (su, .inr (8, [.ref asu])), (asu, aJ G 8 (dg (S1 + (lx.toInt * py.toInt - ly.toInt * px.toInt))))]
    refine j_aload_n X dX4_add_37 rfl 0 rfl ?_
    refine j_lload_n X dX4_add_38 rfl 1 rfl ?_
    refine j_put (ws' := [(o, .inr (4, [.int (nI C), .long fx, .long fy, .long px, .long ly, .ref su])), (su, .inr (8, [.ref asu])), (asu, aJ G 8 (dg (S1 + (lx.toInt * py.toInt - ly.toInt * px.toInt))))]) X dX4_add_39 0 rfl 3 rfl in_X4_add_X4 tyX4 tyX4_ok nmX4 (by decide) fl_X4_add_27 rfl rfl rfl rfl (Nat.le_of_ble_eq_true rfl) rfl ?_
    refine j_aload_n X dX4_add_42 rfl 0 rfl ?_
    refine j_lload_n X dX4_add_43 rfl 2 rfl ?_
    refine j_put (ws' := [(o, .inr (4, [.int (nI C), .long fx, .long fy, .long px, .long py, .ref su])), (su, .inr (8, [.ref asu])), (asu, aJ G 8 (dg (S1 + (lx.toInt * py.toInt - ly.toInt * px.toInt))))]) X dX4_add_44 0 rfl 4 rfl in_X4_add_X4 tyX4 tyX4_ok nmX4 (by decide) fl_X4_add_30 rfl rfl rfl rfl (Nat.le_of_ble_eq_true rfl) rfl ?_
    refine j_aload_n X dX4_add_47 rfl 0 rfl ?_
    refine j_dup X dX4_add_48 rfl ?_
    refine j_get (v := .int (nI C)) X dX4_add_49 0 rfl 0 rfl in_X4_add_X4 (by decide) fl_X4_add_16 rfl ?_
    refine j_iconst (v := 1) X dX4_add_52 rfl ?_
    refine j_iadd X dX4_add_53 ?_
    rw [nI_s (by omega)]
    refine j_put (ws' := [(o, .inr (4, [.int (nI (C + 1)), .long fx, .long fy, .long px, .long py, .ref su])), (su, .inr (8, [.ref asu])), (asu, aJ G 8 (dg (S1 + (lx.toInt * py.toInt - ly.toInt * px.toInt))))]) X dX4_add_54 0 rfl 0 rfl in_X4_add_X4 tyX4 tyX4_ok nmX4 (by decide) fl_X4_add_16 rfl rfl rfl rfl (Nat.le_of_ble_eq_true rfl) rfl ?_
    exact E.1 57 _ () dX4_add_57 rfl hr
  · skip
    exact absurd c_4 (nI_ne0 hC.1 (by omega))

abbrev rm_X4_measureTwice : Room := { frames := 3, cells := 0, slots := 0, locals := 96 }
theorem in_X4_measureTwice_X4 : ∀ w ∈ u_ws RX4 TX4 6, w ∈ wsX4_measureTwice := by decide +kernel
theorem fl_X4_measureTwice_10 : Cond.fieldLink RX4 10 (TX4 5).1 (TX4 5).2.1 (TX4 5).2.2.1 ∈ wsX4_measureTwice := by decide +kernel
theorem fl_X4_measureTwice_27 : Cond.fieldLink RX4 27 (TX4 3).1 (TX4 3).2.1 (TX4 3).2.2.1 ∈ wsX4_measureTwice := by decide +kernel
theorem fl_X4_measureTwice_30 : Cond.fieldLink RX4 30 (TX4 4).1 (TX4 4).2.1 (TX4 4).2.2.1 ∈ wsX4_measureTwice := by decide +kernel
theorem fl_X4_measureTwice_20 : Cond.fieldLink RX4 20 (TX4 1).1 (TX4 1).2.1 (TX4 1).2.2.1 ∈ wsX4_measureTwice := by decide +kernel
theorem fl_X4_measureTwice_24 : Cond.fieldLink RX4 24 (TX4 2).1 (TX4 2).2.1 (TX4 2).2.2.1 ∈ wsX4_measureTwice := by decide +kernel
set_option maxHeartbeats 4000000 in
set_option maxRecDepth 100000 in
theorem c_X4_measureTwice (l : Launch) (G : jG) (o su asu : Nat) (fx fy lx ly : Int64) (w aw : Nat) (f : Nat → Int64) (ct : Int32) (S1 : Int) (hly : -9223372036854775808 < ly.toInt) : Ct l yX4_measureTwice wsX4_measureTwice rm_X4_measureTwice G [.ref o, .ref w] [(o, .inr (4, [.int ct, .long fx, .long fy, .long lx, .long ly, .ref su])), (su, .inr (8, [.ref asu])), (asu, aJ G 8 (dg S1)), (w, .inr (8, [.ref aw])), (aw, aJ G 8 f)] (S := Unit) (fun r _ => r = none) (fun _ => [(o, .inr (4, [.int ct, .long fx, .long fy, .long lx, .long ly, .ref su])), (su, .inr (8, [.ref asu])), (asu, aJ G 8 (dg S1)), (w, .inr (8, [.ref aw])), (aw, aJ G 8 (dg (S1 + (lx.toInt * fy.toInt - ly.toInt * fx.toInt))))]) (fun _ => []) := by
  refine c_intro (cc := cX4_measureTwice) (maxL := 2) (ret := none) (by decide) rfl (Nat.le_of_ble_eq_true rfl) (fun _ => by simp only [List.map_cons, List.map_nil]) ?_
  intro p e s m args below meth c Q A X hr hin E
  change J p l e rm_X4_measureTwice s m args below meth c Q G A 2 0 0 0 [(0, .ref o), (1, .ref w)] [] [(o, .inr (4, [.int ct, .long fx, .long fy, .long lx, .long ly, .ref su])), (su, .inr (8, [.ref asu])), (asu, aJ G 8 (dg S1)), (w, .inr (8, [.ref aw])), (aw, aJ G 8 f)]
  refine j_aload_n X dX4_measureTwice_0 rfl 1 rfl ?_
  refine j_aload_n X dX4_measureTwice_1 rfl 0 rfl ?_
  refine j_get (v := .ref su) X dX4_measureTwice_2 0 rfl 5 rfl in_X4_measureTwice_X4 (by decide) fl_X4_measureTwice_10 rfl ?_
  refine j_callV X dX4_measureTwice_5 (c_X9_setTo_ l G w aw su asu f S1) gX4_measureTwice_X9_setTo_ rfl hy_X9_setTo__V ⟨Nat.le_of_ble_eq_true rfl, Nat.le_of_ble_eq_true rfl⟩ 0 rfl rfl [3, 4, 1, 2] rfl (by decide) rfl rfl (Nat.le_of_ble_eq_true rfl) ⟨Nat.le_of_ble_eq_true rfl, Nat.le_of_ble_eq_true rfl⟩ ?_
  rintro _ ⟨⟩ rfl
  change J p l e rm_X4_measureTwice s m args below meth c Q G A 2 0 0 8 [(0, .ref o), (1, .ref w)] [] [(o, .inr (4, [.int ct, .long fx, .long fy, .long lx, .long ly, .ref su])), (su, .inr (8, [.ref asu])), (asu, aJ G 8 (dg S1)), (w, .inr (8, [.ref aw])), (aw, aJ G 8 (dg S1))]
  refine j_aload_n X dX4_measureTwice_8 rfl 1 rfl ?_
  refine j_aload_n X dX4_measureTwice_9 rfl 0 rfl ?_
  refine j_get (v := .long lx) X dX4_measureTwice_10 0 rfl 3 rfl in_X4_measureTwice_X4 (by decide) fl_X4_measureTwice_27 rfl ?_
  refine j_aload_n X dX4_measureTwice_13 rfl 0 rfl ?_
  refine j_get (v := .long ly) X dX4_measureTwice_14 0 rfl 4 rfl in_X4_measureTwice_X4 (by decide) fl_X4_measureTwice_30 rfl ?_
  refine j_aload_n X dX4_measureTwice_17 rfl 0 rfl ?_
  refine j_get (v := .long fx) X dX4_measureTwice_18 0 rfl 1 rfl in_X4_measureTwice_X4 (by decide) fl_X4_measureTwice_20 rfl ?_
  refine j_aload_n X dX4_measureTwice_21 rfl 0 rfl ?_
  refine j_get (v := .long fy) X dX4_measureTwice_22 0 rfl 2 rfl in_X4_measureTwice_X4 (by decide) fl_X4_measureTwice_24 rfl ?_
  refine j_callV X dX4_measureTwice_25 (c_X9_addCross l G w aw S1 lx ly fx fy hly) gX4_measureTwice_X9_addCross rfl hy_X9_addCross_V ⟨Nat.le_of_ble_eq_true rfl, Nat.le_of_ble_eq_true rfl⟩ 0 rfl rfl [3, 4] rfl (by decide) rfl rfl (Nat.le_of_ble_eq_true rfl) ⟨Nat.le_of_ble_eq_true rfl, Nat.le_of_ble_eq_true rfl⟩ ?_
  rintro _ ⟨⟩ rfl
  change J p l e rm_X4_measureTwice s m args below meth c Q G A 2 0 0 28 [(0, .ref o), (1, .ref w)] [] [(o, .inr (4, [.int ct, .long fx, .long fy, .long lx, .long ly, .ref su])), (su, .inr (8, [.ref asu])), (asu, aJ G 8 (dg S1)), (w, .inr (8, [.ref aw])), (aw, aJ G 8 (dg (S1 + (lx.toInt * fy.toInt - ly.toInt * fx.toInt))))]
  exact E.1 28 _ () dX4_measureTwice_28 rfl hr

theorem hy_X4_measureTwice_V : yX4_measureTwice.cls = RX4 ∧ yX4_measureTwice.cls ≠ "java/lang/invoke/MethodHandle" ∧ yX4_measureTwice.cls ≠ "java/lang/invoke/VarHandle" ∧ (parseMethodDescriptor yX4_measureTwice.desc).map (fun d => d.parameters.length) = some 1 := by decide +kernel
abbrev rm_X7_holds : Room := { frames := 4, cells := 0, slots := 0, locals := 124 }
theorem in_X7_holds_X7 : ∀ w ∈ u_ws RX7 TX7 6, w ∈ wsX7_holds := by decide +kernel
theorem fl_X7_holds_7 : Cond.fieldLink RX7 7 (TX7 0).1 (TX7 0).2.1 (TX7 0).2.2.1 ∈ wsX7_holds := by decide +kernel
theorem fl_X7_holds_16 : Cond.fieldLink RX7 16 (TX7 2).1 (TX7 2).2.1 (TX7 2).2.2.1 ∈ wsX7_holds := by decide +kernel
theorem mm_X7_holds_28 : (Cond.methodLink RX7 28 Lib.MathLoose.min_long.x ∈ wsX7_holds) ∧ (Cond.static Lib.MathLoose.min_long.x ∈ wsX7_holds) ∧ (Cond.initialized "java/lang/Math" ∈ wsX7_holds) ∧ (Cond.code Lib.MathLoose.min_long.x Lib.MathLoose.min_long.code 4 (some .long) ∈ wsX7_holds) := by decide +kernel
theorem mm_X7_holds_34 : (Cond.methodLink RX7 34 Lib.MathLoose.max_long.x ∈ wsX7_holds) ∧ (Cond.static Lib.MathLoose.max_long.x ∈ wsX7_holds) ∧ (Cond.initialized "java/lang/Math" ∈ wsX7_holds) ∧ (Cond.code Lib.MathLoose.max_long.x Lib.MathLoose.max_long.code 4 (some .long) ∈ wsX7_holds) := by decide +kernel
theorem fl_X7_holds_13 : Cond.fieldLink RX7 13 (TX7 1).1 (TX7 1).2.1 (TX7 1).2.2.1 ∈ wsX7_holds := by decide +kernel
theorem fl_X7_holds_19 : Cond.fieldLink RX7 19 (TX7 3).1 (TX7 3).2.1 (TX7 3).2.2.1 ∈ wsX7_holds := by decide +kernel
theorem fl_X7_holds_22 : Cond.fieldLink RX7 22 (TX7 4).1 (TX7 4).2.1 (TX7 4).2.2.1 ∈ wsX7_holds := by decide +kernel
theorem fl_X7_holds_25 : Cond.fieldLink RX7 25 (TX7 5).1 (TX7 5).2.1 (TX7 5).2.2.1 ∈ wsX7_holds := by decide +kernel
set_option maxHeartbeats 4000000 in
set_option maxRecDepth 100000 in
theorem c_X7_holds (l : Launch) (G : jG) (s0 : Nat) (sax say sbx sby sdx sdy : Int64) (hs : sgH sax say sbx sby sdx sdy) (w aw : Nat) (f : Nat → Int64) (x y : Int64) (hx : inC x.toInt) (hy : inC y.toInt) : Ct l yX7_holds wsX7_holds rm_X7_holds G [.ref s0, .long x, .long y, .ref w] [(s0, .inr (7, [.long sax, .long say, .long sbx, .long sby, .long sdx, .long sdy])), (w, .inr (8, [.ref aw])), (aw, aJ G 8 f)] (S := Nat → Int64) (fun r _ => r = some (.int (bI (onS sax.toInt say.toInt sbx.toInt sby.toInt x.toInt y.toInt)))) (fun u => [(s0, .inr (7, [.long sax, .long say, .long sbx, .long sby, .long sdx, .long sdy])), (w, .inr (8, [.ref aw])), (aw, aJ G 8 u)]) (fun _ => []) := by
  refine c_intro (cc := cX7_holds) (maxL := 6) (ret := (some .boolean)) (by decide) rfl (Nat.le_of_ble_eq_true rfl) (fun _ => by simp only [List.map_cons, List.map_nil]) ?_
  intro p e s m args below meth c Q A X hr hin E
  change J p l e rm_X7_holds s m args below meth c Q G A 6 0 0 0 [(0, .ref s0), (1, .long x), (3, .long y), (5, .ref w)] [] [(s0, .inr (7, [.long sax, .long say, .long sbx, .long sby, .long sdx, .long sdy])), (w, .inr (8, [.ref aw])), (aw, aJ G 8 f)]
  refine j_lload_n X dX7_holds_0 rfl 1 rfl ?_
  refine j_aload_n X dX7_holds_1 rfl 0 rfl ?_
  refine j_get (v := .long sax) X dX7_holds_2 0 rfl 0 rfl in_X7_holds_X7 (by decide) fl_X7_holds_7 rfl ?_
  refine j_aload_n X dX7_holds_5 rfl 0 rfl ?_
  refine j_get (v := .long sbx) X dX7_holds_6 0 rfl 2 rfl in_X7_holds_X7 (by decide) fl_X7_holds_16 rfl ?_
  refine j_mmin X dX7_holds_9 mm_X7_holds_28.1 mm_X7_holds_28.2.1 mm_X7_holds_28.2.2.1 mm_X7_holds_28.2.2.2 (Nat.le_of_ble_eq_true rfl) (Nat.le_of_ble_eq_true rfl) (Nat.le_of_ble_eq_true rfl) (Nat.le_of_ble_eq_true rfl) ?_
  refine j_topl (fun x_1 ex_1 => ?_)
  have hx_1 := mmmin_T ex_1
  refine j_lcmp X dX7_holds_12 ?_
  refine j_if_lt (tgt := 32) X dX7_holds_13 (by decide) (fun c_13 => ?_) (fun c_13 => ?_)
  · skip
    first | simp only [cmp_eq, cmp_lt, cmp_ge, cmp_gt, cmp_le, lT0, lT1] at c_13 | simp only [Int32.le_iff_toInt_le, Int32.lt_iff_toInt_lt, ← Int32.toInt_inj, iT0, iT1, iT2, iT3, iT4, iT5, iT6, iT7, iT8, iT9, iT10, iT11, iT12, iT13, iT14, iT15, iT16, iT19, iT20, iT31, iT32, iT42, iT64, iT200, iT318, iT319, iT1000, iTm1, iTm2] at c_13
    refine j_iconst (v := 0) X dX7_holds_32 rfl ?_
    exact E.2.1 33 _ 0 (f) _ dX7_holds_33 (by rw [bI_f (fun h => by have := h.1.1; omega)]) hr rfl
  · skip
    first | simp only [cmp_eq, cmp_lt, cmp_ge, cmp_gt, cmp_le, lT0, lT1] at c_13 | simp only [Int32.le_iff_toInt_le, Int32.lt_iff_toInt_lt, ← Int32.toInt_inj, iT0, iT1, iT2, iT3, iT4, iT5, iT6, iT7, iT8, iT9, iT10, iT11, iT12, iT13, iT14, iT15, iT16, iT19, iT20, iT31, iT32, iT42, iT64, iT200, iT318, iT319, iT1000, iTm1, iTm2] at c_13
    refine j_lload_n X dX7_holds_16 rfl 1 rfl ?_
    refine j_aload_n X dX7_holds_17 rfl 0 rfl ?_
    refine j_get (v := .long sax) X dX7_holds_18 0 rfl 0 rfl in_X7_holds_X7 (by decide) fl_X7_holds_7 rfl ?_
    refine j_aload_n X dX7_holds_21 rfl 0 rfl ?_
    refine j_get (v := .long sbx) X dX7_holds_22 0 rfl 2 rfl in_X7_holds_X7 (by decide) fl_X7_holds_16 rfl ?_
    refine j_mmax X dX7_holds_25 mm_X7_holds_34.1 mm_X7_holds_34.2.1 mm_X7_holds_34.2.2.1 mm_X7_holds_34.2.2.2 (Nat.le_of_ble_eq_true rfl) (Nat.le_of_ble_eq_true rfl) (Nat.le_of_ble_eq_true rfl) (Nat.le_of_ble_eq_true rfl) ?_
    refine j_topl (fun x_2 ex_2 => ?_)
    have hx_2 := mmmax_T ex_2
    refine j_lcmp X dX7_holds_28 ?_
    refine j_if_le (tgt := 34) X dX7_holds_29 (by decide) (fun c_29 => ?_) (fun c_29 => ?_)
    · skip
      first | simp only [cmp_eq, cmp_lt, cmp_ge, cmp_gt, cmp_le, lT0, lT1] at c_29 | simp only [Int32.le_iff_toInt_le, Int32.lt_iff_toInt_lt, ← Int32.toInt_inj, iT0, iT1, iT2, iT3, iT4, iT5, iT6, iT7, iT8, iT9, iT10, iT11, iT12, iT13, iT14, iT15, iT16, iT19, iT20, iT31, iT32, iT42, iT64, iT200, iT318, iT319, iT1000, iTm1, iTm2] at c_29
      refine j_lload_n X dX7_holds_34 rfl 2 rfl ?_
      refine j_aload_n X dX7_holds_35 rfl 0 rfl ?_
      refine j_get (v := .long say) X dX7_holds_36 0 rfl 1 rfl in_X7_holds_X7 (by decide) fl_X7_holds_13 rfl ?_
      refine j_aload_n X dX7_holds_39 rfl 0 rfl ?_
      refine j_get (v := .long sby) X dX7_holds_40 0 rfl 3 rfl in_X7_holds_X7 (by decide) fl_X7_holds_19 rfl ?_
      refine j_mmin X dX7_holds_43 mm_X7_holds_28.1 mm_X7_holds_28.2.1 mm_X7_holds_28.2.2.1 mm_X7_holds_28.2.2.2 (Nat.le_of_ble_eq_true rfl) (Nat.le_of_ble_eq_true rfl) (Nat.le_of_ble_eq_true rfl) (Nat.le_of_ble_eq_true rfl) ?_
      refine j_topl (fun x_3 ex_3 => ?_)
      have hx_3 := mmmin_T ex_3
      refine j_lcmp X dX7_holds_46 ?_
      refine j_if_lt (tgt := 66) X dX7_holds_47 (by decide) (fun c_47 => ?_) (fun c_47 => ?_)
      · skip
        first | simp only [cmp_eq, cmp_lt, cmp_ge, cmp_gt, cmp_le, lT0, lT1] at c_47 | simp only [Int32.le_iff_toInt_le, Int32.lt_iff_toInt_lt, ← Int32.toInt_inj, iT0, iT1, iT2, iT3, iT4, iT5, iT6, iT7, iT8, iT9, iT10, iT11, iT12, iT13, iT14, iT15, iT16, iT19, iT20, iT31, iT32, iT42, iT64, iT200, iT318, iT319, iT1000, iTm1, iTm2] at c_47
        refine j_iconst (v := 0) X dX7_holds_66 rfl ?_
        exact E.2.1 67 _ 0 (f) _ dX7_holds_67 (by rw [bI_f (fun h => by have := h.1.2; omega)]) hr rfl
      · skip
        first | simp only [cmp_eq, cmp_lt, cmp_ge, cmp_gt, cmp_le, lT0, lT1] at c_47 | simp only [Int32.le_iff_toInt_le, Int32.lt_iff_toInt_lt, ← Int32.toInt_inj, iT0, iT1, iT2, iT3, iT4, iT5, iT6, iT7, iT8, iT9, iT10, iT11, iT12, iT13, iT14, iT15, iT16, iT19, iT20, iT31, iT32, iT42, iT64, iT200, iT318, iT319, iT1000, iTm1, iTm2] at c_47
        refine j_lload_n X dX7_holds_50 rfl 2 rfl ?_
        refine j_aload_n X dX7_holds_51 rfl 0 rfl ?_
        refine j_get (v := .long say) X dX7_holds_52 0 rfl 1 rfl in_X7_holds_X7 (by decide) fl_X7_holds_13 rfl ?_
        refine j_aload_n X dX7_holds_55 rfl 0 rfl ?_
        refine j_get (v := .long sby) X dX7_holds_56 0 rfl 3 rfl in_X7_holds_X7 (by decide) fl_X7_holds_19 rfl ?_
        refine j_mmax X dX7_holds_59 mm_X7_holds_34.1 mm_X7_holds_34.2.1 mm_X7_holds_34.2.2.1 mm_X7_holds_34.2.2.2 (Nat.le_of_ble_eq_true rfl) (Nat.le_of_ble_eq_true rfl) (Nat.le_of_ble_eq_true rfl) (Nat.le_of_ble_eq_true rfl) ?_
        refine j_topl (fun x_4 ex_4 => ?_)
        have hx_4 := mmmax_T ex_4
        refine j_lcmp X dX7_holds_62 ?_
        refine j_if_le (tgt := 68) X dX7_holds_63 (by decide) (fun c_63 => ?_) (fun c_63 => ?_)
        · skip
          first | simp only [cmp_eq, cmp_lt, cmp_ge, cmp_gt, cmp_le, lT0, lT1] at c_63 | simp only [Int32.le_iff_toInt_le, Int32.lt_iff_toInt_lt, ← Int32.toInt_inj, iT0, iT1, iT2, iT3, iT4, iT5, iT6, iT7, iT8, iT9, iT10, iT11, iT12, iT13, iT14, iT15, iT16, iT19, iT20, iT31, iT32, iT42, iT64, iT200, iT318, iT319, iT1000, iTm1, iTm2] at c_63
          refine j_aload X dX7_holds_68 3 rfl ?_
          refine j_aload_n X dX7_holds_70 rfl 0 rfl ?_
          refine j_get (v := .long sdx) X dX7_holds_71 0 rfl 4 rfl in_X7_holds_X7 (by decide) fl_X7_holds_22 rfl ?_
          refine j_aload_n X dX7_holds_74 rfl 0 rfl ?_
          refine j_get (v := .long sdy) X dX7_holds_75 0 rfl 5 rfl in_X7_holds_X7 (by decide) fl_X7_holds_25 rfl ?_
          refine j_lload_n X dX7_holds_78 rfl 1 rfl ?_
          refine j_aload_n X dX7_holds_79 rfl 0 rfl ?_
          refine j_get (v := .long sax) X dX7_holds_80 0 rfl 0 rfl in_X7_holds_X7 (by decide) fl_X7_holds_7 rfl ?_
          refine j_lsub X dX7_holds_83 ?_
          refine j_lload_n X dX7_holds_84 rfl 2 rfl ?_
          refine j_aload_n X dX7_holds_85 rfl 0 rfl ?_
          refine j_get (v := .long say) X dX7_holds_86 0 rfl 1 rfl in_X7_holds_X7 (by decide) fl_X7_holds_13 rfl ?_
          refine j_lsub X dX7_holds_89 ?_
          refine j_callV X dX7_holds_90 (c_X9_setToCross l G w aw f sdx sdy (x - sax) (y - say) (sg_dl hs)) gX7_holds_X9_setToCross rfl hy_X9_setToCross_V ⟨Nat.le_of_ble_eq_true rfl, Nat.le_of_ble_eq_true rfl⟩ 0 rfl rfl [1, 2] rfl (by decide) rfl rfl (Nat.le_of_ble_eq_true rfl) ⟨Nat.le_of_ble_eq_true rfl, Nat.le_of_ble_eq_true rfl⟩ ?_
          rintro _ ⟨⟩ rfl
          change J p l e rm_X7_holds s m args below meth c Q G A 6 0 0 93 [(0, .ref s0), (1, .long x), (3, .long y), (5, .ref w)] [] [(s0, .inr (7, [.long sax, .long say, .long sbx, .long sby, .long sdx, .long sdy])), (w, .inr (8, [.ref aw])), (aw, aJ G 8 (dg (sdx.toInt * (y - say).toInt - sdy.toInt * (x - sax).toInt)))]
          rw [show (sdx.toInt * (y - say).toInt - sdy.toInt * (x - sax).toInt) = tn sax.toInt say.toInt sbx.toInt sby.toInt x.toInt y.toInt from (cr_t hs hx hy)]
          refine j_aload X dX7_holds_93 3 rfl ?_
          refine j_callV X dX7_holds_95 (c_X9_sign l G w aw (tn sax.toInt say.toInt sbx.toInt sby.toInt x.toInt y.toInt) (cr_b hs hx hy)) gX7_holds_X9_sign rfl hy_X9_sign_V ⟨Nat.le_of_ble_eq_true rfl, Nat.le_of_ble_eq_true rfl⟩ 0 rfl rfl [1, 2] rfl (by decide) rfl rfl (Nat.le_of_ble_eq_true rfl) ⟨Nat.le_of_ble_eq_true rfl, Nat.le_of_ble_eq_true rfl⟩ ?_
          rintro _ ⟨⟩ rfl
          change J p l e rm_X7_holds s m args below meth c Q G A 6 0 0 98 [(0, .ref s0), (1, .long x), (3, .long y), (5, .ref w)] [.int (sg (tn sax.toInt say.toInt sbx.toInt sby.toInt x.toInt y.toInt))] [(s0, .inr (7, [.long sax, .long say, .long sbx, .long sby, .long sdx, .long sdy])), (w, .inr (8, [.ref aw])), (aw, aJ G 8 (dg (tn sax.toInt say.toInt sbx.toInt sby.toInt x.toInt y.toInt)))]
          refine j_if_ne (tgt := 105) X dX7_holds_98 (by decide) (fun c_98 => ?_) (fun c_98 => ?_)
          · skip
            rw [sg_e0] at c_98
            refine j_iconst (v := 0) X dX7_holds_105 rfl ?_
            exact E.2.1 106 _ 0 (dg (tn sax.toInt say.toInt sbx.toInt sby.toInt x.toInt y.toInt)) _ dX7_holds_106 (by rw [bI_f (fun h => c_98 h.2)]) hr rfl
          · skip
            rw [sg_e0] at c_98
            refine j_iconst (v := 1) X dX7_holds_101 rfl ?_
            refine j_goto (tgt := 106) X dX7_holds_102 (by decide) ?_
            exact E.2.1 106 _ 1 (dg (tn sax.toInt say.toInt sbx.toInt sby.toInt x.toInt y.toInt)) _ dX7_holds_106 (by rw [bI_t ⟨⟨by omega, by omega⟩, c_98⟩]) hr rfl
        · skip
          first | simp only [cmp_eq, cmp_lt, cmp_ge, cmp_gt, cmp_le, lT0, lT1] at c_63 | simp only [Int32.le_iff_toInt_le, Int32.lt_iff_toInt_lt, ← Int32.toInt_inj, iT0, iT1, iT2, iT3, iT4, iT5, iT6, iT7, iT8, iT9, iT10, iT11, iT12, iT13, iT14, iT15, iT16, iT19, iT20, iT31, iT32, iT42, iT64, iT200, iT318, iT319, iT1000, iTm1, iTm2] at c_63
          refine j_iconst (v := 0) X dX7_holds_66 rfl ?_
          exact E.2.1 67 _ 0 (f) _ dX7_holds_67 (by rw [bI_f (fun h => by have := h.1.2; omega)]) hr rfl
    · skip
      first | simp only [cmp_eq, cmp_lt, cmp_ge, cmp_gt, cmp_le, lT0, lT1] at c_29 | simp only [Int32.le_iff_toInt_le, Int32.lt_iff_toInt_lt, ← Int32.toInt_inj, iT0, iT1, iT2, iT3, iT4, iT5, iT6, iT7, iT8, iT9, iT10, iT11, iT12, iT13, iT14, iT15, iT16, iT19, iT20, iT31, iT32, iT42, iT64, iT200, iT318, iT319, iT1000, iTm1, iTm2] at c_29
      refine j_iconst (v := 0) X dX7_holds_32 rfl ?_
      exact E.2.1 33 _ 0 (f) _ dX7_holds_33 (by rw [bI_f (fun h => by have := h.1.1; omega)]) hr rfl

theorem hy_X7_holds_V : yX7_holds.cls = RX7 ∧ yX7_holds.cls ≠ "java/lang/invoke/MethodHandle" ∧ yX7_holds.cls ≠ "java/lang/invoke/VarHandle" ∧ (parseMethodDescriptor yX7_holds.desc).map (fun d => d.parameters.length) = some 3 := by decide +kernel
abbrev rm_X7_along : Room := { frames := 0, cells := 0, slots := 0, locals := 0 }
theorem in_X7_along_X7 : ∀ w ∈ u_ws RX7 TX7 6, w ∈ wsX7_along := by decide +kernel
theorem fl_X7_along_22 : Cond.fieldLink RX7 22 (TX7 4).1 (TX7 4).2.1 (TX7 4).2.2.1 ∈ wsX7_along := by decide +kernel
set_option maxHeartbeats 4000000 in
set_option maxRecDepth 100000 in
theorem c_X7_along (l : Launch) (G : jG) (s0 : Nat) (sax say sbx sby sdx sdy : Int64) (hs : sgH sax say sbx sby sdx sdy) (x y : Int64) : Ct l yX7_along wsX7_along rm_X7_along G [.ref s0, .long x, .long y] [(s0, .inr (7, [.long sax, .long say, .long sbx, .long sby, .long sdx, .long sdy]))] (S := Unit) (fun r _ => r = some (.long (if sdx.toInt = 0 then y else x))) (fun _ => [(s0, .inr (7, [.long sax, .long say, .long sbx, .long sby, .long sdx, .long sdy]))]) (fun _ => []) := by
  refine c_intro (cc := cX7_along) (maxL := 5) (ret := (some .long)) (by decide) rfl (Nat.le_of_ble_eq_true rfl) (fun _ => by simp only [List.map_cons, List.map_nil]) ?_
  intro p e s m args below meth c Q A X hr hin E
  change J p l e rm_X7_along s m args below meth c Q G A 5 0 0 0 [(0, .ref s0), (1, .long x), (3, .long y)] [] [(s0, .inr (7, [.long sax, .long say, .long sbx, .long sby, .long sdx, .long sdy]))]
  refine j_aload_n X dX7_along_0 rfl 0 rfl ?_
  refine j_get (v := .long sdx) X dX7_along_1 0 rfl 4 rfl in_X7_along_X7 (by decide) fl_X7_along_22 rfl ?_
  refine j_lconst (v := 0) X dX7_along_4 rfl ?_
  refine j_lcmp X dX7_along_5 ?_
  refine j_if_eq (tgt := 13) X dX7_along_6 (by decide) (fun c_6 => ?_) (fun c_6 => ?_)
  · skip
    first | simp only [cmp_eq, cmp_lt, cmp_ge, cmp_gt, cmp_le, lT0, lT1] at c_6 | simp only [Int32.le_iff_toInt_le, Int32.lt_iff_toInt_lt, ← Int32.toInt_inj, iT0, iT1, iT2, iT3, iT4, iT5, iT6, iT7, iT8, iT9, iT10, iT11, iT12, iT13, iT14, iT15, iT16, iT19, iT20, iT31, iT32, iT42, iT64, iT200, iT318, iT319, iT1000, iTm1, iTm2] at c_6
    refine j_lload_n X dX7_along_13 rfl 2 rfl ?_
    exact E.2.2 14 _ y () dX7_along_14 (by rw [if_pos c_6]) hr
  · skip
    first | simp only [cmp_eq, cmp_lt, cmp_ge, cmp_gt, cmp_le, lT0, lT1] at c_6 | simp only [Int32.le_iff_toInt_le, Int32.lt_iff_toInt_lt, ← Int32.toInt_inj, iT0, iT1, iT2, iT3, iT4, iT5, iT6, iT7, iT8, iT9, iT10, iT11, iT12, iT13, iT14, iT15, iT16, iT19, iT20, iT31, iT32, iT42, iT64, iT200, iT318, iT319, iT1000, iTm1, iTm2] at c_6
    refine j_lload_n X dX7_along_9 rfl 1 rfl ?_
    refine j_goto (tgt := 14) X dX7_along_10 (by decide) ?_
    exact E.2.2 14 _ x () dX7_along_14 (by rw [if_neg c_6]) hr

theorem hy_X7_along_V : yX7_along.cls = RX7 ∧ yX7_along.cls ≠ "java/lang/invoke/MethodHandle" ∧ yX7_along.cls ≠ "java/lang/invoke/VarHandle" ∧ (parseMethodDescriptor yX7_along.desc).map (fun d => d.parameters.length) = some 2 := by decide +kernel
abbrev rm_X0_reaches : Room := { frames := 0, cells := 0, slots := 0, locals := 0 }
theorem in_X0_reaches_X0 : ∀ w ∈ u_ws RX0 TX0 5, w ∈ wsX0_reaches := by decide +kernel
theorem fl_X0_reaches_19 : Cond.fieldLink RX0 19 (TX0 3).1 (TX0 3).2.1 (TX0 3).2.2.1 ∈ wsX0_reaches := by decide +kernel
theorem fl_X0_reaches_23 : Cond.fieldLink RX0 23 (TX0 4).1 (TX0 4).2.1 (TX0 4).2.2.1 ∈ wsX0_reaches := by decide +kernel
set_option maxHeartbeats 4000000 in
set_option maxRecDepth 100000 in
theorem c_X0_reaches (l : Launch) (G : jG) (p0 : Nat) (pcx pcy pr : Int64) (pf pt : Int32) (hp : arH pcx pcy pr pf pt) (x y d sm : Int32) (hc : rcC x y d sm) : Ct l yX0_reaches wsX0_reaches rm_X0_reaches G [.ref p0, .int x, .int y, .int d, .int sm] [(p0, .inr (0, [.long pcx, .long pcy, .long pr, .int pf, .int pt]))] (S := Unit) (fun r _ => r = some (.int (bI (trn pf.toInt pt.toInt (posn x y d sm).toInt)))) (fun _ => [(p0, .inr (0, [.long pcx, .long pcy, .long pr, .int pf, .int pt]))]) (fun _ => []) := by
  refine c_intro (cc := cX0_reaches) (maxL := 8) (ret := (some .boolean)) (by decide) rfl (Nat.le_of_ble_eq_true rfl) (fun _ => by simp only [List.map_cons, List.map_nil]) ?_
  intro p e s m args below meth c Q A X hr hin E
  change J p l e rm_X0_reaches s m args below meth c Q G A 8 0 0 0 [(0, .ref p0), (1, .int x), (2, .int y), (3, .int d), (4, .int sm)] [] [(p0, .inr (0, [.long pcx, .long pcy, .long pr, .int pf, .int pt]))]
  refine j_aload_n X dX0_reaches_0 rfl 0 rfl ?_
  refine j_get (v := .int pf) X dX0_reaches_1 0 rfl 3 rfl in_X0_reaches_X0 (by decide) fl_X0_reaches_19 rfl ?_
  refine j_aload_n X dX0_reaches_4 rfl 0 rfl ?_
  refine j_get (v := .int pt) X dX0_reaches_5 0 rfl 4 rfl in_X0_reaches_X0 (by decide) fl_X0_reaches_23 rfl ?_
  refine j_icmp_ne (tgt := 13) X dX0_reaches_8 (by decide) (fun c_8 => ?_) (fun c_8 => ?_)
  · skip
    refine j_iload_n X dX0_reaches_13 rfl 2 rfl ?_
    refine j_if_lt (tgt := 25) X dX0_reaches_14 (by decide) (fun c_14 => ?_) (fun c_14 => ?_)
    · skip
      refine j_iconst (v := 1) X dX0_reaches_25 rfl ?_
      refine j_goto (tgt := 30) X dX0_reaches_26 (by decide) ?_
      refine j_istore (L' := [(5, .int 1), (0, .ref p0), (1, .int x), (2, .int y), (3, .int d), (4, .int sm)]) X dX0_reaches_30 (by decide) rfl ?_
      refine j_iload X dX0_reaches_32 0 rfl ?_
      refine j_if_eq (tgt := 41) X dX0_reaches_34 (by decide) (fun c9 => absurd c9 (by decide)) (fun _ => ?_)
      refine j_iconst (v := (-1)) X dX0_reaches_37 rfl ?_
      refine j_goto (tgt := 42) X dX0_reaches_38 (by decide) ?_
      refine j_istore (L' := [(6, .int (-1)), (5, .int 1), (0, .ref p0), (1, .int x), (2, .int y), (3, .int d), (4, .int sm)]) X dX0_reaches_42 (by decide) rfl ?_
      refine j_iload X dX0_reaches_44 1 rfl ?_
      refine j_if_eq (tgt := 54) X dX0_reaches_46 (by decide) (fun c9 => absurd c9 (by decide)) (fun _ => ?_)
      refine j_bipush (v := 8) X dX0_reaches_49 (by decide) ?_
      refine j_goto (tgt := 55) X dX0_reaches_51 (by decide) ?_
      refine j_iload_n X dX0_reaches_55 rfl 4 rfl ?_
      refine j_if_ne (tgt := 63) X dX0_reaches_56 (by decide) (fun c_56 => ?_) (fun c_56 => ?_)
      · skip
        refine j_iconst (v := 1) X dX0_reaches_63 rfl ?_
        refine j_iadd X dX0_reaches_64 ?_
        rw [show (8 : Int32) + 1 = 9 from by decide]
        refine j_iconst (v := 3) X dX0_reaches_65 rfl ?_
        refine j_iadd X dX0_reaches_66 ?_
        rw [show (9 : Int32) + 3 = 12 from by decide]
        refine j_iload X dX0_reaches_67 0 rfl ?_
        refine j_iload_n X dX0_reaches_69 rfl 5 rfl ?_
        refine j_iload_n X dX0_reaches_70 rfl 3 rfl ?_
        refine j_iadd X dX0_reaches_71 ?_
        refine j_iload X dX0_reaches_72 6 rfl ?_
        refine j_iadd X dX0_reaches_74 ?_
        refine j_imul X dX0_reaches_75 ?_
        refine j_isub X dX0_reaches_76 ?_
        rw [show 12 - ((-1) * ((d + x) + sm)) = posn x y d sm from rc_1 hc c_14 rfl]
        refine j_topi (fun x_1 ex_1 => ?_)
        refine j_istore (L' := [(7, .int x_1), (6, .int (-1)), (5, .int 1), (0, .ref p0), (1, .int x), (2, .int y), (3, .int d), (4, .int sm)]) X dX0_reaches_77 (by decide) rfl ?_
        refine j_iload X dX0_reaches_79 0 rfl ?_
        refine j_iconst (v := 2) X dX0_reaches_81 rfl ?_
        refine j_aload_n X dX0_reaches_82 rfl 3 rfl ?_
        refine j_get (v := .int pf) X dX0_reaches_83 0 rfl 3 rfl in_X0_reaches_X0 (by decide) fl_X0_reaches_19 rfl ?_
        refine j_imul X dX0_reaches_86 ?_
        refine j_isub X dX0_reaches_87 ?_
        refine j_bipush (v := 15) X dX0_reaches_88 (by decide) ?_
        refine j_iand X dX0_reaches_90 ?_
        refine j_iconst (v := 2) X dX0_reaches_91 rfl ?_
        refine j_aload_n X dX0_reaches_92 rfl 3 rfl ?_
        refine j_get (v := .int pt) X dX0_reaches_93 0 rfl 4 rfl in_X0_reaches_X0 (by decide) fl_X0_reaches_23 rfl ?_
        refine j_imul X dX0_reaches_96 ?_
        refine j_iconst (v := 2) X dX0_reaches_97 rfl ?_
        refine j_aload_n X dX0_reaches_98 rfl 3 rfl ?_
        refine j_get (v := .int pf) X dX0_reaches_99 0 rfl 3 rfl in_X0_reaches_X0 (by decide) fl_X0_reaches_19 rfl ?_
        refine j_imul X dX0_reaches_102 ?_
        refine j_isub X dX0_reaches_103 ?_
        refine j_bipush (v := 15) X dX0_reaches_104 (by decide) ?_
        refine j_iand X dX0_reaches_106 ?_
        refine j_icmp_gt (tgt := 114) X dX0_reaches_107 (by decide) (fun c_107 => ?_) (fun c_107 => ?_)
        · skip
          have hpp : x_1 = posn x y d sm := ex_1
          obtain ⟨q1, q2⟩ := rc_e (rc_r hc) hp.2.2.1 hp.2.2.2
          rw [hpp, Int32.lt_iff_toInt_lt, q1, q2] at c_107
          refine j_iconst (v := 0) X dX0_reaches_114 rfl ?_
          exact E.2.1 115 _ 0 () _ dX0_reaches_115 (by rw [bI_f (fun h => h.elim (fun h => c_8 (Int32.toInt_inj.mp h)) (fun h => by omega))]) hr rfl
        · skip
          have hpp : x_1 = posn x y d sm := ex_1
          obtain ⟨q1, q2⟩ := rc_e (rc_r hc) hp.2.2.1 hp.2.2.2
          rw [hpp, Int32.lt_iff_toInt_lt, q1, q2] at c_107
          refine j_iconst (v := 1) X dX0_reaches_110 rfl ?_
          refine j_goto (tgt := 115) X dX0_reaches_111 (by decide) ?_
          exact E.2.1 115 _ 1 () _ dX0_reaches_115 (by rw [bI_t (Or.inr (by omega))]) hr rfl
      · skip
        exact absurd c_14 (by rw [c_56]; decide)
    · skip
      refine j_iload_n X dX0_reaches_17 rfl 2 rfl ?_
      refine j_if_ne (tgt := 29) X dX0_reaches_18 (by decide) (fun c_18 => ?_) (fun c_18 => ?_)
      · skip
        refine j_iconst (v := 0) X dX0_reaches_29 rfl ?_
        refine j_istore (L' := [(5, .int 0), (0, .ref p0), (1, .int x), (2, .int y), (3, .int d), (4, .int sm)]) X dX0_reaches_30 (by decide) rfl ?_
        refine j_iload X dX0_reaches_32 0 rfl ?_
        refine j_if_eq (tgt := 41) X dX0_reaches_34 (by decide) (fun _ => ?_) (fun c9 => absurd c9 (by decide))
        refine j_iconst (v := 1) X dX0_reaches_41 rfl ?_
        refine j_istore (L' := [(6, .int 1), (5, .int 0), (0, .ref p0), (1, .int x), (2, .int y), (3, .int d), (4, .int sm)]) X dX0_reaches_42 (by decide) rfl ?_
        refine j_iload X dX0_reaches_44 1 rfl ?_
        refine j_if_eq (tgt := 54) X dX0_reaches_46 (by decide) (fun _ => ?_) (fun c9 => absurd c9 (by decide))
        refine j_iconst (v := 0) X dX0_reaches_54 rfl ?_
        refine j_iload_n X dX0_reaches_55 rfl 4 rfl ?_
        refine j_if_ne (tgt := 63) X dX0_reaches_56 (by decide) (fun c_56 => ?_) (fun c_56 => ?_)
        · skip
          refine j_iconst (v := 1) X dX0_reaches_63 rfl ?_
          refine j_iadd X dX0_reaches_64 ?_
          rw [show (0 : Int32) + 1 = 1 from by decide]
          refine j_iconst (v := 3) X dX0_reaches_65 rfl ?_
          refine j_iadd X dX0_reaches_66 ?_
          rw [show (1 : Int32) + 3 = 4 from by decide]
          refine j_iload X dX0_reaches_67 0 rfl ?_
          refine j_iload_n X dX0_reaches_69 rfl 5 rfl ?_
          refine j_iload_n X dX0_reaches_70 rfl 3 rfl ?_
          refine j_iadd X dX0_reaches_71 ?_
          refine j_iload X dX0_reaches_72 6 rfl ?_
          refine j_iadd X dX0_reaches_74 ?_
          refine j_imul X dX0_reaches_75 ?_
          refine j_isub X dX0_reaches_76 ?_
          rw [show 4 - (1 * ((d + x) + sm)) = posn x y d sm from rc_4 hc c_14 c_18 rfl]
          refine j_topi (fun x_2 ex_2 => ?_)
          refine j_istore (L' := [(7, .int x_2), (6, .int 1), (5, .int 0), (0, .ref p0), (1, .int x), (2, .int y), (3, .int d), (4, .int sm)]) X dX0_reaches_77 (by decide) rfl ?_
          refine j_iload X dX0_reaches_79 0 rfl ?_
          refine j_iconst (v := 2) X dX0_reaches_81 rfl ?_
          refine j_aload_n X dX0_reaches_82 rfl 3 rfl ?_
          refine j_get (v := .int pf) X dX0_reaches_83 0 rfl 3 rfl in_X0_reaches_X0 (by decide) fl_X0_reaches_19 rfl ?_
          refine j_imul X dX0_reaches_86 ?_
          refine j_isub X dX0_reaches_87 ?_
          refine j_bipush (v := 15) X dX0_reaches_88 (by decide) ?_
          refine j_iand X dX0_reaches_90 ?_
          refine j_iconst (v := 2) X dX0_reaches_91 rfl ?_
          refine j_aload_n X dX0_reaches_92 rfl 3 rfl ?_
          refine j_get (v := .int pt) X dX0_reaches_93 0 rfl 4 rfl in_X0_reaches_X0 (by decide) fl_X0_reaches_23 rfl ?_
          refine j_imul X dX0_reaches_96 ?_
          refine j_iconst (v := 2) X dX0_reaches_97 rfl ?_
          refine j_aload_n X dX0_reaches_98 rfl 3 rfl ?_
          refine j_get (v := .int pf) X dX0_reaches_99 0 rfl 3 rfl in_X0_reaches_X0 (by decide) fl_X0_reaches_19 rfl ?_
          refine j_imul X dX0_reaches_102 ?_
          refine j_isub X dX0_reaches_103 ?_
          refine j_bipush (v := 15) X dX0_reaches_104 (by decide) ?_
          refine j_iand X dX0_reaches_106 ?_
          refine j_icmp_gt (tgt := 114) X dX0_reaches_107 (by decide) (fun c_107 => ?_) (fun c_107 => ?_)
          · skip
            have hpp : x_2 = posn x y d sm := ex_2
            obtain ⟨q1, q2⟩ := rc_e (rc_r hc) hp.2.2.1 hp.2.2.2
            rw [hpp, Int32.lt_iff_toInt_lt, q1, q2] at c_107
            refine j_iconst (v := 0) X dX0_reaches_114 rfl ?_
            exact E.2.1 115 _ 0 () _ dX0_reaches_115 (by rw [bI_f (fun h => h.elim (fun h => c_8 (Int32.toInt_inj.mp h)) (fun h => by omega))]) hr rfl
          · skip
            have hpp : x_2 = posn x y d sm := ex_2
            obtain ⟨q1, q2⟩ := rc_e (rc_r hc) hp.2.2.1 hp.2.2.2
            rw [hpp, Int32.lt_iff_toInt_lt, q1, q2] at c_107
            refine j_iconst (v := 1) X dX0_reaches_110 rfl ?_
            refine j_goto (tgt := 115) X dX0_reaches_111 (by decide) ?_
            exact E.2.1 115 _ 1 () _ dX0_reaches_115 (by rw [bI_t (Or.inr (by omega))]) hr rfl
        · skip
          exact absurd c_56 c_18
      · skip
        refine j_iload_n X dX0_reaches_21 rfl 1 rfl ?_
        refine j_if_ge (tgt := 29) X dX0_reaches_22 (by decide) (fun c_22 => ?_) (fun c_22 => ?_)
        · skip
          refine j_iconst (v := 0) X dX0_reaches_29 rfl ?_
          refine j_istore (L' := [(5, .int 0), (0, .ref p0), (1, .int x), (2, .int y), (3, .int d), (4, .int sm)]) X dX0_reaches_30 (by decide) rfl ?_
          refine j_iload X dX0_reaches_32 0 rfl ?_
          refine j_if_eq (tgt := 41) X dX0_reaches_34 (by decide) (fun _ => ?_) (fun c9 => absurd c9 (by decide))
          refine j_iconst (v := 1) X dX0_reaches_41 rfl ?_
          refine j_istore (L' := [(6, .int 1), (5, .int 0), (0, .ref p0), (1, .int x), (2, .int y), (3, .int d), (4, .int sm)]) X dX0_reaches_42 (by decide) rfl ?_
          refine j_iload X dX0_reaches_44 1 rfl ?_
          refine j_if_eq (tgt := 54) X dX0_reaches_46 (by decide) (fun _ => ?_) (fun c9 => absurd c9 (by decide))
          refine j_iconst (v := 0) X dX0_reaches_54 rfl ?_
          refine j_iload_n X dX0_reaches_55 rfl 4 rfl ?_
          refine j_if_ne (tgt := 63) X dX0_reaches_56 (by decide) (fun c_56 => ?_) (fun c_56 => ?_)
          · skip
            exact absurd c_18 c_56
          · skip
            refine j_iconst (v := 0) X dX0_reaches_59 rfl ?_
            refine j_goto (tgt := 64) X dX0_reaches_60 (by decide) ?_
            refine j_iadd X dX0_reaches_64 ?_
            rw [show (0 : Int32) + 0 = 0 from by decide]
            refine j_iconst (v := 3) X dX0_reaches_65 rfl ?_
            refine j_iadd X dX0_reaches_66 ?_
            rw [show (0 : Int32) + 3 = 3 from by decide]
            refine j_iload X dX0_reaches_67 0 rfl ?_
            refine j_iload_n X dX0_reaches_69 rfl 5 rfl ?_
            refine j_iload_n X dX0_reaches_70 rfl 3 rfl ?_
            refine j_iadd X dX0_reaches_71 ?_
            refine j_iload X dX0_reaches_72 6 rfl ?_
            refine j_iadd X dX0_reaches_74 ?_
            refine j_imul X dX0_reaches_75 ?_
            refine j_isub X dX0_reaches_76 ?_
            rw [show 3 - (1 * ((d + x) + sm)) = posn x y d sm from rc_3 hc c_18 c_22 rfl]
            refine j_topi (fun x_3 ex_3 => ?_)
            refine j_istore (L' := [(7, .int x_3), (6, .int 1), (5, .int 0), (0, .ref p0), (1, .int x), (2, .int y), (3, .int d), (4, .int sm)]) X dX0_reaches_77 (by decide) rfl ?_
            refine j_iload X dX0_reaches_79 0 rfl ?_
            refine j_iconst (v := 2) X dX0_reaches_81 rfl ?_
            refine j_aload_n X dX0_reaches_82 rfl 3 rfl ?_
            refine j_get (v := .int pf) X dX0_reaches_83 0 rfl 3 rfl in_X0_reaches_X0 (by decide) fl_X0_reaches_19 rfl ?_
            refine j_imul X dX0_reaches_86 ?_
            refine j_isub X dX0_reaches_87 ?_
            refine j_bipush (v := 15) X dX0_reaches_88 (by decide) ?_
            refine j_iand X dX0_reaches_90 ?_
            refine j_iconst (v := 2) X dX0_reaches_91 rfl ?_
            refine j_aload_n X dX0_reaches_92 rfl 3 rfl ?_
            refine j_get (v := .int pt) X dX0_reaches_93 0 rfl 4 rfl in_X0_reaches_X0 (by decide) fl_X0_reaches_23 rfl ?_
            refine j_imul X dX0_reaches_96 ?_
            refine j_iconst (v := 2) X dX0_reaches_97 rfl ?_
            refine j_aload_n X dX0_reaches_98 rfl 3 rfl ?_
            refine j_get (v := .int pf) X dX0_reaches_99 0 rfl 3 rfl in_X0_reaches_X0 (by decide) fl_X0_reaches_19 rfl ?_
            refine j_imul X dX0_reaches_102 ?_
            refine j_isub X dX0_reaches_103 ?_
            refine j_bipush (v := 15) X dX0_reaches_104 (by decide) ?_
            refine j_iand X dX0_reaches_106 ?_
            refine j_icmp_gt (tgt := 114) X dX0_reaches_107 (by decide) (fun c_107 => ?_) (fun c_107 => ?_)
            · skip
              have hpp : x_3 = posn x y d sm := ex_3
              obtain ⟨q1, q2⟩ := rc_e (rc_r hc) hp.2.2.1 hp.2.2.2
              rw [hpp, Int32.lt_iff_toInt_lt, q1, q2] at c_107
              refine j_iconst (v := 0) X dX0_reaches_114 rfl ?_
              exact E.2.1 115 _ 0 () _ dX0_reaches_115 (by rw [bI_f (fun h => h.elim (fun h => c_8 (Int32.toInt_inj.mp h)) (fun h => by omega))]) hr rfl
            · skip
              have hpp : x_3 = posn x y d sm := ex_3
              obtain ⟨q1, q2⟩ := rc_e (rc_r hc) hp.2.2.1 hp.2.2.2
              rw [hpp, Int32.lt_iff_toInt_lt, q1, q2] at c_107
              refine j_iconst (v := 1) X dX0_reaches_110 rfl ?_
              refine j_goto (tgt := 115) X dX0_reaches_111 (by decide) ?_
              exact E.2.1 115 _ 1 () _ dX0_reaches_115 (by rw [bI_t (Or.inr (by omega))]) hr rfl
        · skip
          rw [Int32.not_le] at c_22
          refine j_iconst (v := 1) X dX0_reaches_25 rfl ?_
          refine j_goto (tgt := 30) X dX0_reaches_26 (by decide) ?_
          refine j_istore (L' := [(5, .int 1), (0, .ref p0), (1, .int x), (2, .int y), (3, .int d), (4, .int sm)]) X dX0_reaches_30 (by decide) rfl ?_
          refine j_iload X dX0_reaches_32 0 rfl ?_
          refine j_if_eq (tgt := 41) X dX0_reaches_34 (by decide) (fun c9 => absurd c9 (by decide)) (fun _ => ?_)
          refine j_iconst (v := (-1)) X dX0_reaches_37 rfl ?_
          refine j_goto (tgt := 42) X dX0_reaches_38 (by decide) ?_
          refine j_istore (L' := [(6, .int (-1)), (5, .int 1), (0, .ref p0), (1, .int x), (2, .int y), (3, .int d), (4, .int sm)]) X dX0_reaches_42 (by decide) rfl ?_
          refine j_iload X dX0_reaches_44 1 rfl ?_
          refine j_if_eq (tgt := 54) X dX0_reaches_46 (by decide) (fun c9 => absurd c9 (by decide)) (fun _ => ?_)
          refine j_bipush (v := 8) X dX0_reaches_49 (by decide) ?_
          refine j_goto (tgt := 55) X dX0_reaches_51 (by decide) ?_
          refine j_iload_n X dX0_reaches_55 rfl 4 rfl ?_
          refine j_if_ne (tgt := 63) X dX0_reaches_56 (by decide) (fun c_56 => ?_) (fun c_56 => ?_)
          · skip
            exact absurd c_18 c_56
          · skip
            refine j_iconst (v := 0) X dX0_reaches_59 rfl ?_
            refine j_goto (tgt := 64) X dX0_reaches_60 (by decide) ?_
            refine j_iadd X dX0_reaches_64 ?_
            rw [show (8 : Int32) + 0 = 8 from by decide]
            refine j_iconst (v := 3) X dX0_reaches_65 rfl ?_
            refine j_iadd X dX0_reaches_66 ?_
            rw [show (8 : Int32) + 3 = 11 from by decide]
            refine j_iload X dX0_reaches_67 0 rfl ?_
            refine j_iload_n X dX0_reaches_69 rfl 5 rfl ?_
            refine j_iload_n X dX0_reaches_70 rfl 3 rfl ?_
            refine j_iadd X dX0_reaches_71 ?_
            refine j_iload X dX0_reaches_72 6 rfl ?_
            refine j_iadd X dX0_reaches_74 ?_
            refine j_imul X dX0_reaches_75 ?_
            refine j_isub X dX0_reaches_76 ?_
            rw [show 11 - ((-1) * ((d + x) + sm)) = posn x y d sm from rc_2 hc c_18 c_22 rfl]
            refine j_topi (fun x_4 ex_4 => ?_)
            refine j_istore (L' := [(7, .int x_4), (6, .int (-1)), (5, .int 1), (0, .ref p0), (1, .int x), (2, .int y), (3, .int d), (4, .int sm)]) X dX0_reaches_77 (by decide) rfl ?_
            refine j_iload X dX0_reaches_79 0 rfl ?_
            refine j_iconst (v := 2) X dX0_reaches_81 rfl ?_
            refine j_aload_n X dX0_reaches_82 rfl 3 rfl ?_
            refine j_get (v := .int pf) X dX0_reaches_83 0 rfl 3 rfl in_X0_reaches_X0 (by decide) fl_X0_reaches_19 rfl ?_
            refine j_imul X dX0_reaches_86 ?_
            refine j_isub X dX0_reaches_87 ?_
            refine j_bipush (v := 15) X dX0_reaches_88 (by decide) ?_
            refine j_iand X dX0_reaches_90 ?_
            refine j_iconst (v := 2) X dX0_reaches_91 rfl ?_
            refine j_aload_n X dX0_reaches_92 rfl 3 rfl ?_
            refine j_get (v := .int pt) X dX0_reaches_93 0 rfl 4 rfl in_X0_reaches_X0 (by decide) fl_X0_reaches_23 rfl ?_
            refine j_imul X dX0_reaches_96 ?_
            refine j_iconst (v := 2) X dX0_reaches_97 rfl ?_
            refine j_aload_n X dX0_reaches_98 rfl 3 rfl ?_
            refine j_get (v := .int pf) X dX0_reaches_99 0 rfl 3 rfl in_X0_reaches_X0 (by decide) fl_X0_reaches_19 rfl ?_
            refine j_imul X dX0_reaches_102 ?_
            refine j_isub X dX0_reaches_103 ?_
            refine j_bipush (v := 15) X dX0_reaches_104 (by decide) ?_
            refine j_iand X dX0_reaches_106 ?_
            refine j_icmp_gt (tgt := 114) X dX0_reaches_107 (by decide) (fun c_107 => ?_) (fun c_107 => ?_)
            · skip
              have hpp : x_4 = posn x y d sm := ex_4
              obtain ⟨q1, q2⟩ := rc_e (rc_r hc) hp.2.2.1 hp.2.2.2
              rw [hpp, Int32.lt_iff_toInt_lt, q1, q2] at c_107
              refine j_iconst (v := 0) X dX0_reaches_114 rfl ?_
              exact E.2.1 115 _ 0 () _ dX0_reaches_115 (by rw [bI_f (fun h => h.elim (fun h => c_8 (Int32.toInt_inj.mp h)) (fun h => by omega))]) hr rfl
            · skip
              have hpp : x_4 = posn x y d sm := ex_4
              obtain ⟨q1, q2⟩ := rc_e (rc_r hc) hp.2.2.1 hp.2.2.2
              rw [hpp, Int32.lt_iff_toInt_lt, q1, q2] at c_107
              refine j_iconst (v := 1) X dX0_reaches_110 rfl ?_
              refine j_goto (tgt := 115) X dX0_reaches_111 (by decide) ?_
              exact E.2.1 115 _ 1 () _ dX0_reaches_115 (by rw [bI_t (Or.inr (by omega))]) hr rfl
  · skip
    refine j_iconst (v := 1) X dX0_reaches_11 rfl ?_
    exact E.2.1 12 _ 1 () _ dX0_reaches_12 (by rw [bI_t (Or.inl (by rw [c_8]))]) hr rfl

theorem hy_X0_reaches_V : yX0_reaches.cls = RX0 ∧ yX0_reaches.cls ≠ "java/lang/invoke/MethodHandle" ∧ yX0_reaches.cls ≠ "java/lang/invoke/VarHandle" ∧ (parseMethodDescriptor yX0_reaches.desc).map (fun d => d.parameters.length) = some 4 := by decide +kernel
abbrev rm_X0_holds : Room := { frames := 3, cells := 0, slots := 0, locals := 96 }
theorem in_X0_holds_X0 : ∀ w ∈ u_ws RX0 TX0 5, w ∈ wsX0_holds := by decide +kernel
theorem fl_X0_holds_7 : Cond.fieldLink RX0 7 (TX0 0).1 (TX0 0).2.1 (TX0 0).2.2.1 ∈ wsX0_holds := by decide +kernel
theorem fl_X0_holds_13 : Cond.fieldLink RX0 13 (TX0 1).1 (TX0 1).2.1 (TX0 1).2.2.1 ∈ wsX0_holds := by decide +kernel
theorem fl_X0_holds_16 : Cond.fieldLink RX0 16 (TX0 2).1 (TX0 2).2.1 (TX0 2).2.2.1 ∈ wsX0_holds := by decide +kernel
theorem k_X0_holds_32 : Cond.constantLong RX0 32 (-1) ∈ wsX0_holds := by decide +kernel
set_option maxHeartbeats 4000000 in
set_option maxRecDepth 100000 in
theorem c_X0_holds (l : Launch) (G : jG) (p0 : Nat) (pcx pcy pr : Int64) (pf pt : Int32) (hp : arH pcx pcy pr pf pt) (w aw : Nat) (f : Nat → Int64) (x y : Int64) (hx : inC x.toInt) (hy : inC y.toInt) : Ct l yX0_holds wsX0_holds rm_X0_holds G [.ref p0, .long x, .long y, .ref w] [(p0, .inr (0, [.long pcx, .long pcy, .long pr, .int pf, .int pt])), (w, .inr (8, [.ref aw])), (aw, aJ G 8 f)] (S := Nat → Int64) (fun r _ => r = some (.int (bI (onA pcx.toInt pcy.toInt pr.toInt pf.toInt pt.toInt x.toInt y.toInt)))) (fun u => [(p0, .inr (0, [.long pcx, .long pcy, .long pr, .int pf, .int pt])), (w, .inr (8, [.ref aw])), (aw, aJ G 8 u)]) (fun _ => []) := by
  refine c_intro (cc := cX0_holds) (maxL := 10) (ret := (some .boolean)) (by decide) rfl (Nat.le_of_ble_eq_true rfl) (fun _ => by simp only [List.map_cons, List.map_nil]) ?_
  intro p e s m args below meth c Q A X hr hin E
  change J p l e rm_X0_holds s m args below meth c Q G A 10 0 0 0 [(0, .ref p0), (1, .long x), (3, .long y), (5, .ref w)] [] [(p0, .inr (0, [.long pcx, .long pcy, .long pr, .int pf, .int pt])), (w, .inr (8, [.ref aw])), (aw, aJ G 8 f)]
  refine j_lload_n X dX0_holds_0 rfl 1 rfl ?_
  refine j_aload_n X dX0_holds_1 rfl 0 rfl ?_
  refine j_get (v := .long pcx) X dX0_holds_2 0 rfl 0 rfl in_X0_holds_X0 (by decide) fl_X0_holds_7 rfl ?_
  refine j_lsub X dX0_holds_5 ?_
  refine j_topl (fun x_1 ex_1 => ?_)
  refine j_lstore (L' := [(6, .long x_1), (0, .ref p0), (1, .long x), (3, .long y), (5, .ref w)]) X dX0_holds_6 (by decide) rfl ?_
  refine j_lload_n X dX0_holds_8 rfl 3 rfl ?_
  refine j_aload_n X dX0_holds_9 rfl 1 rfl ?_
  refine j_get (v := .long pcy) X dX0_holds_10 0 rfl 1 rfl in_X0_holds_X0 (by decide) fl_X0_holds_13 rfl ?_
  refine j_lsub X dX0_holds_13 ?_
  refine j_topl (fun x_2 ex_2 => ?_)
  refine j_lstore (L' := [(8, .long x_2), (6, .long x_1), (0, .ref p0), (1, .long x), (3, .long y), (5, .ref w)]) X dX0_holds_14 (by decide) rfl ?_
  have hu : x_1.toInt = x.toInt - pcx.toInt := by rw [ex_1]; exact l_sC hx hp.1.1
  have hv : x_2.toInt = y.toInt - pcy.toInt := by rw [ex_2]; exact l_sC hy hp.1.2
  refine j_aload X dX0_holds_16 5 rfl ?_
  refine j_lload X dX0_holds_18 1 rfl ?_
  refine j_lload X dX0_holds_20 0 rfl ?_
  refine j_lload X dX0_holds_22 1 rfl ?_
  refine j_lload X dX0_holds_24 0 rfl ?_
  refine j_callV X dX0_holds_26 (c_X9_setToDot l G w aw f x_1 x_2 x_1 x_2) gX0_holds_X9_setToDot rfl hy_X9_setToDot_V ⟨Nat.le_of_ble_eq_true rfl, Nat.le_of_ble_eq_true rfl⟩ 0 rfl rfl [1, 2] rfl (by decide) rfl rfl (Nat.le_of_ble_eq_true rfl) ⟨Nat.le_of_ble_eq_true rfl, Nat.le_of_ble_eq_true rfl⟩ ?_
  rintro _ ⟨⟩ rfl
  change J p l e rm_X0_holds s m args below meth c Q G A 10 0 0 29 [(8, .long x_2), (6, .long x_1), (0, .ref p0), (1, .long x), (3, .long y), (5, .ref w)] [] [(p0, .inr (0, [.long pcx, .long pcy, .long pr, .int pf, .int pt])), (w, .inr (8, [.ref aw])), (aw, aJ G 8 (dg (x_1.toInt * x_1.toInt + x_2.toInt * x_2.toInt)))]
  refine j_aload X dX0_holds_29 5 rfl ?_
  refine j_aload_n X dX0_holds_31 rfl 2 rfl ?_
  refine j_get (v := .long pr) X dX0_holds_32 0 rfl 2 rfl in_X0_holds_X0 (by decide) fl_X0_holds_16 rfl ?_
  refine j_ldc2 (v := (-1)) X dX0_holds_35 k_X0_holds_32 ?_
  refine j_callV X dX0_holds_38 (c_X9_addProduct l G w aw (x_1.toInt * x_1.toInt + x_2.toInt * x_2.toInt) pr (-1)) gX0_holds_X9_addProduct rfl hy_X9_addProduct_V ⟨Nat.le_of_ble_eq_true rfl, Nat.le_of_ble_eq_true rfl⟩ 0 rfl rfl [1, 2] rfl (by decide) rfl rfl (Nat.le_of_ble_eq_true rfl) ⟨Nat.le_of_ble_eq_true rfl, Nat.le_of_ble_eq_true rfl⟩ ?_
  rintro _ ⟨⟩ rfl
  change J p l e rm_X0_holds s m args below meth c Q G A 10 0 0 41 [(8, .long x_2), (6, .long x_1), (0, .ref p0), (1, .long x), (3, .long y), (5, .ref w)] [] [(p0, .inr (0, [.long pcx, .long pcy, .long pr, .int pf, .int pt])), (w, .inr (8, [.ref aw])), (aw, aJ G 8 (dg ((x_1.toInt * x_1.toInt + x_2.toInt * x_2.toInt) + pr.toInt * (-1))))]
  rw [show ((x_1.toInt * x_1.toInt + x_2.toInt * x_2.toInt) + pr.toInt * (-1)) = (x.toInt - pcx.toInt) * (x.toInt - pcx.toInt) + (y.toInt - pcy.toInt) * (y.toInt - pcy.toInt) + pr.toInt * -1 from (by rw [hu, hv])]
  refine j_aload X dX0_holds_41 5 rfl ?_
  refine j_callV X dX0_holds_43 (c_X9_sign l G w aw ((x.toInt - pcx.toInt) * (x.toInt - pcx.toInt) + (y.toInt - pcy.toInt) * (y.toInt - pcy.toInt) + pr.toInt * -1) (sgnB (ar_S hx hy hp.1.1 hp.1.2 hp.2.1) (by decide))) gX0_holds_X9_sign rfl hy_X9_sign_V ⟨Nat.le_of_ble_eq_true rfl, Nat.le_of_ble_eq_true rfl⟩ 0 rfl rfl [1, 2] rfl (by decide) rfl rfl (Nat.le_of_ble_eq_true rfl) ⟨Nat.le_of_ble_eq_true rfl, Nat.le_of_ble_eq_true rfl⟩ ?_
  rintro _ ⟨⟩ rfl
  change J p l e rm_X0_holds s m args below meth c Q G A 10 0 0 46 [(8, .long x_2), (6, .long x_1), (0, .ref p0), (1, .long x), (3, .long y), (5, .ref w)] [.int (sg ((x.toInt - pcx.toInt) * (x.toInt - pcx.toInt) + (y.toInt - pcy.toInt) * (y.toInt - pcy.toInt) + pr.toInt * -1))] [(p0, .inr (0, [.long pcx, .long pcy, .long pr, .int pf, .int pt])), (w, .inr (8, [.ref aw])), (aw, aJ G 8 (dg ((x.toInt - pcx.toInt) * (x.toInt - pcx.toInt) + (y.toInt - pcy.toInt) * (y.toInt - pcy.toInt) + pr.toInt * -1)))]
  refine j_if_ne (tgt := 86) X dX0_holds_46 (by decide) (fun c_46 => ?_) (fun c_46 => ?_)
  · skip
    rw [sg_e0] at c_46
    refine j_iconst (v := 0) X dX0_holds_86 rfl ?_
    exact E.2.1 87 _ 0 (dg ((x.toInt - pcx.toInt) * (x.toInt - pcx.toInt) + (y.toInt - pcy.toInt) * (y.toInt - pcy.toInt) + pr.toInt * -1)) _ dX0_holds_87 (by rw [bI_f (fun h => c_46 (by have := h.1; omega))]) hr rfl
  · skip
    rw [sg_e0] at c_46
    refine j_aload_n X dX0_holds_49 rfl 2 rfl ?_
    refine j_lload X dX0_holds_50 1 rfl ?_
    refine j_callS X dX0_holds_52 (c_J13_signum_95d88 l G x_1) gX0_holds_J13_signum_95d88 rfl hy_J13_signum_95d88_S ⟨Nat.le_of_ble_eq_true rfl, Nat.le_of_ble_eq_true rfl⟩ [] rfl (by decide) rfl rfl (Nat.le_of_ble_eq_true rfl) ⟨Nat.le_of_ble_eq_true rfl, Nat.le_of_ble_eq_true rfl⟩ ?_
    rintro _ ⟨⟩ rfl
    change J p l e rm_X0_holds s m args below meth c Q G A 10 0 0 55 [(8, .long x_2), (6, .long x_1), (0, .ref p0), (1, .long x), (3, .long y), (5, .ref w)] [.int (sg x_1.toInt), .ref p0] [(p0, .inr (0, [.long pcx, .long pcy, .long pr, .int pf, .int pt])), (w, .inr (8, [.ref aw])), (aw, aJ G 8 (dg ((x.toInt - pcx.toInt) * (x.toInt - pcx.toInt) + (y.toInt - pcy.toInt) * (y.toInt - pcy.toInt) + pr.toInt * -1)))]
    refine j_lload X dX0_holds_55 0 rfl ?_
    refine j_callS X dX0_holds_57 (c_J13_signum_95d88 l G x_2) gX0_holds_J13_signum_95d88 rfl hy_J13_signum_95d88_S ⟨Nat.le_of_ble_eq_true rfl, Nat.le_of_ble_eq_true rfl⟩ [] rfl (by decide) rfl rfl (Nat.le_of_ble_eq_true rfl) ⟨Nat.le_of_ble_eq_true rfl, Nat.le_of_ble_eq_true rfl⟩ ?_
    rintro _ ⟨⟩ rfl
    change J p l e rm_X0_holds s m args below meth c Q G A 10 0 0 60 [(8, .long x_2), (6, .long x_1), (0, .ref p0), (1, .long x), (3, .long y), (5, .ref w)] [.int (sg x_2.toInt), .int (sg x_1.toInt), .ref p0] [(p0, .inr (0, [.long pcx, .long pcy, .long pr, .int pf, .int pt])), (w, .inr (8, [.ref aw])), (aw, aJ G 8 (dg ((x.toInt - pcx.toInt) * (x.toInt - pcx.toInt) + (y.toInt - pcy.toInt) * (y.toInt - pcy.toInt) + pr.toInt * -1)))]
    refine j_lload X dX0_holds_60 1 rfl ?_
    refine j_lload X dX0_holds_62 0 rfl ?_
    refine j_lsub X dX0_holds_64 ?_
    refine j_callS X dX0_holds_65 (c_J13_signum_95d88 l G (x_1 - x_2)) gX0_holds_J13_signum_95d88 rfl hy_J13_signum_95d88_S ⟨Nat.le_of_ble_eq_true rfl, Nat.le_of_ble_eq_true rfl⟩ [] rfl (by decide) rfl rfl (Nat.le_of_ble_eq_true rfl) ⟨Nat.le_of_ble_eq_true rfl, Nat.le_of_ble_eq_true rfl⟩ ?_
    rintro _ ⟨⟩ rfl
    change J p l e rm_X0_holds s m args below meth c Q G A 10 0 0 68 [(8, .long x_2), (6, .long x_1), (0, .ref p0), (1, .long x), (3, .long y), (5, .ref w)] [.int (sg (x_1 - x_2).toInt), .int (sg x_2.toInt), .int (sg x_1.toInt), .ref p0] [(p0, .inr (0, [.long pcx, .long pcy, .long pr, .int pf, .int pt])), (w, .inr (8, [.ref aw])), (aw, aJ G 8 (dg ((x.toInt - pcx.toInt) * (x.toInt - pcx.toInt) + (y.toInt - pcy.toInt) * (y.toInt - pcy.toInt) + pr.toInt * -1)))]
    refine j_lload X dX0_holds_68 1 rfl ?_
    refine j_lload X dX0_holds_70 0 rfl ?_
    refine j_ladd X dX0_holds_72 ?_
    refine j_callS X dX0_holds_73 (c_J13_signum_95d88 l G (x_1 + x_2)) gX0_holds_J13_signum_95d88 rfl hy_J13_signum_95d88_S ⟨Nat.le_of_ble_eq_true rfl, Nat.le_of_ble_eq_true rfl⟩ [] rfl (by decide) rfl rfl (Nat.le_of_ble_eq_true rfl) ⟨Nat.le_of_ble_eq_true rfl, Nat.le_of_ble_eq_true rfl⟩ ?_
    rintro _ ⟨⟩ rfl
    change J p l e rm_X0_holds s m args below meth c Q G A 10 0 0 76 [(8, .long x_2), (6, .long x_1), (0, .ref p0), (1, .long x), (3, .long y), (5, .ref w)] [.int (sg (x_1 + x_2).toInt), .int (sg (x_1 - x_2).toInt), .int (sg x_2.toInt), .int (sg x_1.toInt), .ref p0] [(p0, .inr (0, [.long pcx, .long pcy, .long pr, .int pf, .int pt])), (w, .inr (8, [.ref aw])), (aw, aJ G 8 (dg ((x.toInt - pcx.toInt) * (x.toInt - pcx.toInt) + (y.toInt - pcy.toInt) * (y.toInt - pcy.toInt) + pr.toInt * -1)))]
    have h12 : (x_1 - x_2).toInt = (x.toInt - pcx.toInt) - (y.toInt - pcy.toInt) := by rw [l_sub] <;> rw [hu, hv] <;> omega
    have h13 : (x_1 + x_2).toInt = (x.toInt - pcx.toInt) + (y.toInt - pcy.toInt) := by rw [l_add] <;> rw [hu, hv] <;> omega
    rw [hu, hv, h12, h13]
    refine j_callV X dX0_holds_76 (c_X0_reaches l G p0 pcx pcy pr pf pt hp (sg (x.toInt - pcx.toInt)) (sg (y.toInt - pcy.toInt)) (sg ((x.toInt - pcx.toInt) - (y.toInt - pcy.toInt))) (sg ((x.toInt - pcx.toInt) + (y.toInt - pcy.toInt))) (rc_sg (fun q => by rw [q.1, q.2] at c_46; omega))) gX0_holds_X0_reaches rfl hy_X0_reaches_V ⟨Nat.le_of_ble_eq_true rfl, Nat.le_of_ble_eq_true rfl⟩ 0 rfl rfl [0] rfl (by decide) rfl rfl (Nat.le_of_ble_eq_true rfl) ⟨Nat.le_of_ble_eq_true rfl, Nat.le_of_ble_eq_true rfl⟩ ?_
    rintro _ ⟨⟩ rfl
    change J p l e rm_X0_holds s m args below meth c Q G A 10 0 0 79 [(8, .long x_2), (6, .long x_1), (0, .ref p0), (1, .long x), (3, .long y), (5, .ref w)] [.int (bI (trn pf.toInt pt.toInt (posn (sg (x.toInt - pcx.toInt)) (sg (y.toInt - pcy.toInt)) (sg ((x.toInt - pcx.toInt) - (y.toInt - pcy.toInt))) (sg ((x.toInt - pcx.toInt) + (y.toInt - pcy.toInt)))).toInt))] [(p0, .inr (0, [.long pcx, .long pcy, .long pr, .int pf, .int pt])), (w, .inr (8, [.ref aw])), (aw, aJ G 8 (dg ((x.toInt - pcx.toInt) * (x.toInt - pcx.toInt) + (y.toInt - pcy.toInt) * (y.toInt - pcy.toInt) + pr.toInt * -1)))]
    refine j_if_eq (tgt := 86) X dX0_holds_79 (by decide) (fun c_79 => ?_) (fun c_79 => ?_)
    · skip
      rw [bI_0] at c_79
      refine j_iconst (v := 0) X dX0_holds_86 rfl ?_
      exact E.2.1 87 _ 0 (dg ((x.toInt - pcx.toInt) * (x.toInt - pcx.toInt) + (y.toInt - pcy.toInt) * (y.toInt - pcy.toInt) + pr.toInt * -1)) _ dX0_holds_87 (by rw [bI_f (fun h => c_79 h.2)]) hr rfl
    · skip
      rw [bI_0, Decidable.not_not] at c_79
      refine j_iconst (v := 1) X dX0_holds_82 rfl ?_
      refine j_goto (tgt := 87) X dX0_holds_83 (by decide) ?_
      exact E.2.1 87 _ 1 (dg ((x.toInt - pcx.toInt) * (x.toInt - pcx.toInt) + (y.toInt - pcy.toInt) * (y.toInt - pcy.toInt) + pr.toInt * -1)) _ dX0_holds_87 (by rw [bI_t ⟨by omega, c_79⟩]) hr rfl

theorem hy_X0_holds_V : yX0_holds.cls = RX0 ∧ yX0_holds.cls ≠ "java/lang/invoke/MethodHandle" ∧ yX0_holds.cls ≠ "java/lang/invoke/VarHandle" ∧ (parseMethodDescriptor yX0_holds.desc).map (fun d => d.parameters.length) = some 3 := by decide +kernel
