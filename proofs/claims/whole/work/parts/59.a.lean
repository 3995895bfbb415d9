abbrev rm_X4_forget : Room := { frames := 1, cells := 0, slots := 0, locals := 25 }
theorem in_X4_forget_X4 : ∀ w ∈ u_ws RX4 TX4 6, w ∈ wsX4_forget := by decide +kernel
theorem fl_X4_forget_16 : Cond.fieldLink RX4 16 (TX4 0).1 (TX4 0).2.1 (TX4 0).2.2.1 ∈ wsX4_forget := by decide +kernel
theorem fl_X4_forget_20 : Cond.fieldLink RX4 20 (TX4 1).1 (TX4 1).2.1 (TX4 1).2.2.1 ∈ wsX4_forget := by decide +kernel
theorem fl_X4_forget_24 : Cond.fieldLink RX4 24 (TX4 2).1 (TX4 2).2.1 (TX4 2).2.2.1 ∈ wsX4_forget := by decide +kernel
theorem fl_X4_forget_27 : Cond.fieldLink RX4 27 (TX4 3).1 (TX4 3).2.1 (TX4 3).2.2.1 ∈ wsX4_forget := by decide +kernel
theorem fl_X4_forget_30 : Cond.fieldLink RX4 30 (TX4 4).1 (TX4 4).2.1 (TX4 4).2.2.1 ∈ wsX4_forget := by decide +kernel
theorem fl_X4_forget_10 : Cond.fieldLink RX4 10 (TX4 5).1 (TX4 5).2.1 (TX4 5).2.2.1 ∈ wsX4_forget := by decide +kernel
set_option maxHeartbeats 4000000 in
set_option maxRecDepth 100000 in
theorem c_X4_forget (l : Launch) (G : jG) (o su asu : Nat) (fx fy lx ly : Int64) (ct : Int32) (f : Nat → Int64) : Ct l yX4_forget wsX4_forget rm_X4_forget G [.ref o] [(o, .inr (4, [.int ct, .long fx, .long fy, .long lx, .long ly, .ref su])), (su, .inr (8, [.ref asu])), (asu, aJ G 8 f)] (S := Unit) (fun r _ => r = none) (fun _ => [(o, .inr (4, [.int 0, .long 0, .long 0, .long 0, .long 0, .ref su])), (su, .inr (8, [.ref asu])), (asu, aJ G 8 (dg 0))]) (fun _ => []) := by
  refine c_intro (cc := cX4_forget) (maxL := 1) (ret := none) (by decide) rfl (Nat.le_of_ble_eq_true rfl) (fun _ => by simp only [List.map_cons, List.map_nil]) ?_
  intro p e s m args below meth c Q A X hr hin E
  change J p l e rm_X4_forget s m args below meth c Q G A 1 0 0 0 [(0, .ref o)] [] [(o, .inr (4, [.int ct, .long fx, .long fy, .long lx, .long ly, .ref su])), (su, .inr (8, [.ref asu])), (asu, aJ G 8 f)]
  refine j_aload_n X dX4_forget_0 rfl 0 rfl ?_
  refine j_iconst (v := 0) X dX4_forget_1 rfl ?_
  refine j_put (ws' := [(o, .inr (4, [.int 0, .long fx, .long fy, .long lx, .long ly, .ref su])), (su, .inr (8, [.ref asu])), (asu, aJ G 8 f)]) X dX4_forget_2 0 rfl 0 rfl in_X4_forget_X4 tyX4 tyX4_ok nmX4 (by decide) fl_X4_forget_16 rfl rfl rfl rfl (Nat.le_of_ble_eq_true rfl) rfl ?_
  refine j_aload_n X dX4_forget_5 rfl 0 rfl ?_
  refine j_lconst (v := 0) X dX4_forget_6 rfl ?_
  refine j_put (ws' := [(o, .inr (4, [.int 0, .long 0, .long fy, .long lx, .long ly, .ref su])), (su, .inr (8, [.ref asu])), (asu, aJ G 8 f)]) X dX4_forget_7 0 rfl 1 rfl in_X4_forget_X4 tyX4 tyX4_ok nmX4 (by decide) fl_X4_forget_20 rfl rfl rfl rfl (Nat.le_of_ble_eq_true rfl) rfl ?_
  refine j_aload_n X dX4_forget_10 rfl 0 rfl ?_
  refine j_lconst (v := 0) X dX4_forget_11 rfl ?_
  refine j_put (ws' := [(o, .inr (4, [.int 0, .long 0, .long 0, .long lx, .long ly, .ref su])), (su, .inr (8, [.ref asu])), (asu, aJ G 8 f)]) X dX4_forget_12 0 rfl 2 rfl in_X4_forget_X4 tyX4 tyX4_ok nmX4 (by decide) fl_X4_forget_24 rfl rfl rfl rfl (Nat.le_of_ble_eq_true rfl) rfl ?_
  refine j_aload_n X dX4_forget_15 rfl 0 rfl ?_
  refine j_lconst (v := 0) X dX4_forget_16 rfl ?_
  refine j_put (ws' := [(o, .inr (4, [.int 0, .long 0, .long 0, .long 0, .long ly, .ref su])), (su, .inr (8, [.ref asu])), (asu, aJ G 8 f)]) X dX4_forget_17 0 rfl 3 rfl in_X4_forget_X4 tyX4 tyX4_ok nmX4 (by decide) fl_X4_forget_27 rfl rfl rfl rfl (Nat.le_of_ble_eq_true rfl) rfl ?_
  refine j_aload_n X dX4_forget_20 rfl 0 rfl ?_
  refine j_lconst (v := 0) X dX4_forget_21 rfl ?_
  refine j_put (ws' := [(o, .inr (4, [.int 0, .long 0, .long 0, .long 0, .long 0, .ref su])), (su, .inr (8, [.ref asu])), (asu, aJ G 8 f)]) X dX4_forget_22 0 rfl 4 rfl in_X4_forget_X4 tyX4 tyX4_ok nmX4 (by decide) fl_X4_forget_30 rfl rfl rfl rfl (Nat.le_of_ble_eq_true rfl) rfl ?_
  refine j_aload_n X dX4_forget_25 rfl 0 rfl ?_
  refine j_get (v := .ref su) X dX4_forget_26 0 rfl 5 rfl in_X4_forget_X4 (by decide) fl_X4_forget_10 rfl ?_
  refine j_lconst (v := 0) X dX4_forget_29 rfl ?_
  refine j_callV X dX4_forget_30 (c_X9_setTo l G su asu f 0) gX4_forget_X9_setTo rfl hy_X9_setTo_V ⟨Nat.le_of_ble_eq_true rfl, Nat.le_of_ble_eq_true rfl⟩ 0 rfl rfl [1, 2] rfl (by decide) rfl rfl (Nat.le_of_ble_eq_true rfl) ⟨Nat.le_of_ble_eq_true rfl, Nat.le_of_ble_eq_true rfl⟩ ?_
  rintro _ ⟨⟩ rfl
  change J p l e rm_X4_forget s m args below meth c Q G A 1 0 0 33 [(0, .ref o)] [] [(o, .inr (4, [.int 0, .long 0, .long 0, .long 0, .long 0, .ref su])), (su, .inr (8, [.ref asu])), (asu, aJ G 8 (dg 0))]
  exact E.1 33 _ () dX4_forget_33 rfl hr

theorem hy_X4_forget_V : yX4_forget.cls = RX4 ∧ yX4_forget.cls ≠ "java/lang/invoke/MethodHandle" ∧ yX4_forget.cls ≠ "java/lang/invoke/VarHandle" ∧ (parseMethodDescriptor yX4_forget.desc).map (fun d => d.parameters.length) = some 0 := by decide +kernel
abbrev rm_X4_add : Room := { frames := 3, cells := 0, slots := 0, locals := 96 }
theorem in_X4_add_X4 : ∀ w ∈ u_ws RX4 TX4 6, w ∈ wsX4_add := by decide +kernel
theorem fl_X4_add_16 : Cond.fieldLink RX4 16 (TX4 0).1 (TX4 0).2.1 (TX4 0).2.2.1 ∈ wsX4_add := by decide +kernel
theorem fl_X4_add_20 : Cond.fieldLink RX4 20 (TX4 1).1 (TX4 1).2.1 (TX4 1).2.2.1 ∈ wsX4_add := by decide +kernel
theorem fl_X4_add_24 : Cond.fieldLink RX4 24 (TX4 2).1 (TX4 2).2.1 (TX4 2).2.2.1 ∈ wsX4_add := by decide +kernel
theorem fl_X4_add_27 : Cond.fieldLink RX4 27 (TX4 3).1 (TX4 3).2.1 (TX4 3).2.2.1 ∈ wsX4_add := by decide +kernel
theorem fl_X4_add_30 : Cond.fieldLink RX4 30 (TX4 4).1 (TX4 4).2.1 (TX4 4).2.2.1 ∈ wsX4_add := by decide +kernel
set_option maxHeartbeats 4000000 in
set_option maxRecDepth 100000 in
theorem c_X4_add_0 (l : Launch) (G : jG) (o su asu : Nat) (fx fy lx ly : Int64) (S1 : Int) (px py : Int64) : Ct l yX4_add wsX4_add rm_X4_add G [.ref o, .long px, .long py] [(o, .inr (4, [.int 0, .long fx, .long fy, .long lx, .long ly, .ref su])), (su, .inr (8, [.ref asu])), (asu, aJ G 8 (dg S1))] (S := Unit) (fun r _ => r = none) (fun _ => [(o, .inr (4, [.int 1, .long px, .long py, .long px, .long py, .ref su])), (su, .inr (8, [.ref asu])), (asu, aJ G 8 (dg S1))]) (fun _ => []) := by
  refine c_intro (cc := cX4_add) (maxL := 5) (ret := none) (by decide) rfl (Nat.le_of_ble_eq_true rfl) (fun _ => by simp only [List.map_cons, List.map_nil]) ?_
  intro p e s m args below meth c Q A X hr hin E
  change J p l e rm_X4_add s m args below meth c Q G A 5 0 0 0 [(0, .ref o), (1, .long px), (3, .long py)] [] [(o, .inr (4, [.int 0, .long fx, .long fy, .long lx, .long ly, .ref su])), (su, .inr (8, [.ref asu])), (asu, aJ G 8 (dg S1))]
  refine j_aload_n X dX4_add_0 rfl 0 rfl ?_
  refine j_get (v := .int 0) X dX4_add_1 0 rfl 0 rfl in_X4_add_X4 (by decide) fl_X4_add_16 rfl ?_
  refine j_if_ne (tgt := 20) X dX4_add_4 (by decide) (fun c9 => absurd c9 (by decide)) (fun _ => ?_)
  refine j_aload_n X dX4_add_7 rfl 0 rfl ?_
  refine j_lload_n X dX4_add_8 rfl 1 rfl ?_
  refine j_put (ws' := [(o, .inr (4, [.int 0, .long px, .long fy, .long lx, .long ly, .ref su])), (su, .inr (8, [.ref asu])), (asu, aJ G 8 (dg S1))]) X dX4_add_9 0 rfl 1 rfl in_X4_add_X4 tyX4 tyX4_ok nmX4 (by decide) fl_X4_add_20 rfl rfl rfl rfl (Nat.le_of_ble_eq_true rfl) rfl ?_
  refine j_aload_n X dX4_add_12 rfl 0 rfl ?_
  refine j_lload_n X dX4_add_13 rfl 2 rfl ?_
  refine j_put (ws' := [(o, .inr (4, [.int 0, .long px, .long py, .long lx, .long ly, .ref su])), (su, .inr (8, [.ref asu])), (asu, aJ G 8 (dg S1))]) X dX4_add_14 0 rfl 2 rfl in_X4_add_X4 tyX4 tyX4_ok nmX4 (by decide) fl_X4_add_24 rfl rfl rfl rfl (Nat.le_of_ble_eq_true rfl) rfl ?_
  refine j_goto (tgt := 37) X dX4_add_17 (by decide) ?_
  refine j_aload_n X dX4_add_37 rfl 0 rfl ?_
  refine j_lload_n X dX4_add_38 rfl 1 rfl ?_
  refine j_put (ws' := [(o, .inr (4, [.int 0, .long px, .long py, .long px, .long ly, .ref su])), (su, .inr (8, [.ref asu])), (asu, aJ G 8 (dg S1))]) X dX4_add_39 0 rfl 3 rfl in_X4_add_X4 tyX4 tyX4_ok nmX4 (by decide) fl_X4_add_27 rfl rfl rfl rfl (Nat.le_of_ble_eq_true rfl) rfl ?_
  refine j_aload_n X dX4_add_42 rfl 0 rfl ?_
  refine j_lload_n X dX4_add_43 rfl 2 rfl ?_
  refine j_put (ws' := [(o, .inr (4, [.int 0, .long px, .long py, .long px, .long py, .ref su])), (su, .inr (8, [.ref asu])), (asu, aJ G 8 (dg S1))]) X dX4_add_44 0 rfl 4 rfl in_X4_add_X4 tyX4 tyX4_ok nmX4 (by decide) fl_X4_add_30 rfl rfl rfl rfl (Nat.le_of_ble_eq_true rfl) rfl ?_
  refine j_aload_n X dX4_add_47 rfl 0 rfl ?_
  refine j_dup X dX4_add_48 rfl ?_
  refine j_get (v := .int 0) X dX4_add_49 0 rfl 0 rfl in_X4_add_X4 (by decide) fl_X4_add_16 rfl ?_
  refine j_iconst (v := 1) X dX4_add_52 rfl ?_
  refine j_iadd X dX4_add_53 ?_
  rw [show (0 : Int32) + 1 = 1 from by decide]
  refine j_put (ws' := [(o, .inr (4, [.int 1, .long px, .long py, .long px, .long py, .ref su])), (su, .inr (8, [.ref asu])), (asu, aJ G 8 (dg S1))]) X dX4_add_54 0 rfl 0 rfl in_X4_add_X4 tyX4 tyX4_ok nmX4 (by decide) fl_X4_add_16 rfl rfl rfl rfl (Nat.le_of_ble_eq_true rfl) rfl ?_
  exact E.1 57 _ () dX4_add_57 rfl hr

theorem hy_X4_add_V : yX4_add.cls = RX4 ∧ yX4_add.cls ≠ "java/lang/invoke/MethodHandle" ∧ yX4_add.cls ≠ "java/lang/invoke/VarHandle" ∧ (parseMethodDescriptor yX4_add.desc).map (fun d => d.parameters.length) = some 2 := by decide +kernel
theorem fl_X4_add_10 : Cond.fieldLink RX4 10 (TX4 5).1 (TX4 5).2.1 (TX4 5).2.2.1 ∈ wsX4_add := by decide +kernel
set_option maxHeartbeats 4000000 in
set_option maxRecDepth 100000 in
theorem c_X4_add_n (l : Launch) (G : jG) (o su asu : Nat) (fx fy lx ly : Int64) (S1 : Int) (px py : Int64) (C : Nat) (hC : 0 < C ∧ C < 200) (hly : inC ly.toInt) : Ct l yX4_add wsX4_add rm_X4_add G [.ref o, .long px, .long py] [(o, .inr (4, [.int (nI C), .long fx, .long fy, .long lx, .long ly, .ref su])), (su, .inr (8, [.ref asu])), (asu, aJ G 8 (dg S1))] (S := Unit) (fun r _ => r = none) (fun _ => [(o, .inr (4, [.int (nI (C + 1)), .long fx, .long fy, .long px, .long py, .ref su])), (su, .inr (8, [.ref asu])), (asu, aJ G 8 (dg (S1 + (lx.toInt * py.toInt - ly.toInt * px.toInt))))]) (fun _ => []) := by
  refine c_intro (cc := cX4_add) (maxL := 5) (ret := none) (by decide) rfl (Nat.le_of_ble_eq_true rfl) (fun _ => by simp only [List.map_cons, List.map_nil]) ?_
  intro p e s m args below meth c Q A X hr hin E
  change J p l e rm_X4_add s m args below meth c Q G A 5 0 0 0 [(0, .ref o), (1, .long px), (3, .long py)] [] [(o, .inr (4, [.int (nI C), .long fx, .long fy, .long lx, .long ly, .ref su])), (su, .inr (8, [.ref asu])), (asu, aJ G 8 (dg S1))]
  refine j_aload_n X dX4_add_0 rfl 0 rfl ?_
  refine j_get (v := .int (nI C)) X dX4_add_1 0 rfl 0 rfl in_X4_add_X4 (by decide) fl_X4_add_16 rfl ?_
  refine j_if_ne (tgt := 20) X dX4_add_4 (by decide) (fun c_4 => ?_) (fun c_4 => ?_)
  · skip
    refine j_aload_n X dX4_add_20 rfl 0 rfl ?_
    refine j_get (v := .ref su) X dX4_add_21 0 rfl 5 rfl in_X4_add_X4 (by decide) fl_X4_add_10 rfl ?_
    refine j_aload_n X dX4_add_24 rfl 0 rfl ?_
    refine j_get (v := .long lx) X dX4_add_25 0 rfl 3 rfl in_X4_add_X4 (by decide) fl_X4_add_27 rfl ?_
    refine j_aload_n X dX4_add_28 rfl 0 rfl ?_
    refine j_get (v := .long ly) X dX4_add_29 0 rfl 4 rfl in_X4_add_X4 (by decide) fl_X4_add_30 rfl ?_
    refine j_lload_n X dX4_add_32 rfl 1 rfl ?_
    refine j_lload_n X dX4_add_33 rfl 2 rfl ?_
    refine j_callV X dX4_add_34 (c_X9_addCross l G su asu S1 lx ly px py (by omega)) gX4_add_X9_addCross rfl hy_X9_addCross_V ⟨Nat.le_of_ble_eq_true rfl, Nat.le_of_ble_eq_true rfl⟩ 0 rfl rfl [1, 2] rfl (by decide) rfl rfl (Nat.le_of_ble_eq_true rfl) ⟨Nat.le_of_ble_eq_true rfl, Nat.le_of_ble_eq_true rfl⟩ ?_
    rintro _ ⟨⟩ rfl
    change J p l e rm_X4_add s m args below meth c Q G A 5 0 0 37 [(0, .ref o), (1, .long px), (3, .long py)] [] [(o, .inr (4, [.int (nI C), .long fx, .long fy, .long lx, .long ly, .ref su])), (su, .inr (8, [.ref asu])), (asu, aJ G 8 (dg (S1 + (lx.toInt * py.toInt - ly.toInt * px.toInt))))]
    refine j_aload_n X dX4_add_37 rfl 0 rfl ?_
    refine j_lload_n X dX4_add_38 rfl 1 rfl ?_
    refine j_put (ws' := [(o, .inr (4, [.int (nI C), .long fx, .long fy, .long px, .long ly, .ref su])), (su, .inr (8, [.ref asu])), (asu, aJ G 8 (dg (S1 + (lx.toInt * py.toInt - ly.toInt * px.toInt))))]) X dX4_add_39 0 rfl 3 rfl in_X4_add_X4 tyX4 tyX4_ok nmX4 (by decide) fl_X4_add_27 rfl rfl rfl rfl (Nat.le_of_ble_eq_true rfl) rfl ?_
    refine j_aload_n X dX4_add_42 rfl 0 rfl ?_
    refine j_lload_n X dX4_add_43 rfl 2 rfl ?_
    refine j_put (ws' := [(o, .inr (4, [.int (nI C), .long fx, .long fy, .long px, .long py, .ref su])), (su, .inr (8, [.ref asu])), (asu, aJ G 8 (dg (S1 + (lx.toInt * py.toInt - ly.toInt * px.toInt))))]) X dX4_add_44 0 rfl 4 rfl in_X4_add_X4 tyX4 tyX4_ok nmX4 (by decide) fl_X4_add_30 rfl rfl rfl rfl (Nat.le_of_ble_eq_true rfl) rfl ?_
    refine j_aload_n X dX4_add_47 rfl 0 rfl ?_
    refine j_dup X dX4_add_48 rfl ?_
    refine j_get (v := .int (nI C)) X dX4_add_49 0 rfl 0 rfl in_X4_add_X4 (by decide) fl_X4_add_16 rfl ?_
    refine j_iconst (v := 1) X dX4_add_52 rfl ?_
    refine j_iadd X dX4_add_53 ?_
    rw [nI_s (by omega)]
    refine j_put (ws' := [(o, .inr (4, [.int (nI (C + 1)), .long fx, .long fy, .long px, .long py, .ref su])), (su, .inr (8, [.ref asu])), (asu, aJ G 8 (dg (S1 + (lx.toInt * py.toInt - ly.toInt * px.toInt))))]) X dX4_add_54 0 rfl 0 rfl in_X4_add_X4 tyX4 tyX4_ok nmX4 (by decide) fl_X4_add_16 rfl rfl rfl rfl (Nat.le_of_ble_eq_true rfl) rfl ?_
    exact E.1 57 _ () dX4_add_57 rfl hr
  · skip
    exact absurd c_4 (nI_ne0 hC.1 (by omega))

abbrev rm_X4_measureTwice : Room := { frames := 3, cells := 0, slots := 0, locals := 96 }
theorem in_X4_measureTwice_X4 : ∀ w ∈ u_ws RX4 TX4 6, w ∈ wsX4_measureTwice := by decide +kernel
theorem fl_X4_measureTwice_10 : Cond.fieldLink RX4 10 (TX4 5).1 (TX4 5).2.1 (TX4 5).2.2.1 ∈ wsX4_measureTwice := by decide +kernel
theorem fl_X4_measureTwice_27 : Cond.fieldLink RX4 27 (TX4 3).1 (TX4 3).2.1 (TX4 3).2.2.1 ∈ wsX4_measureTwice := by decide +kernel
theorem fl_X4_measureTwice_30 : Cond.fieldLink RX4 30 (TX4 4).1 (TX4 4).2.1 (TX4 4).2.2.1 ∈ wsX4_measureTwice := by decide +kernel
theorem fl_X4_measureTwice_20 : Cond.fieldLink RX4 20 (TX4 1).1 (TX4 1).2.1 (TX4 1).2.2.1 ∈ wsX4_measureTwice := by decide +kernel
theorem fl_X4_measureTwice_24 : Cond.fieldLink RX4 24 (TX4 2).1 (TX4 2).2.1 (TX4 2).2.2.1 ∈ wsX4_measureTwice := by decide +kernel
set_option maxHeartbeats 4000000 in
set_option maxRecDepth 100000 in
theorem c_X4_measureTwice (l : Launch) (G : jG) (o su asu : Nat) (fx fy lx ly : Int64) (w aw : Nat) (f : Nat → Int64) (ct : Int32) (S1 : Int) (hly : -9223372036854775808 < ly.toInt) : Ct l yX4_measureTwice wsX4_measureTwice rm_X4_measureTwice G [.ref o, .ref w] [(o, .inr (4, [.int ct, .long fx, .long fy, .long lx, .long ly, .ref su])), (su, .inr (8, [.ref asu])), (asu, aJ G 8 (dg S1)), (w, .inr (8, [.ref aw])), (aw, aJ G 8 f)] (S := Unit) (fun r _ => r = none) (fun _ => [(o, .inr (4, [.int ct, .long fx, .long fy, .long lx, .long ly, .ref su])), (su, .inr (8, [.ref asu])), (asu, aJ G 8 (dg S1)), (w, .inr (8, [.ref aw])), (aw, aJ G 8 (dg (S1 + (lx.toInt * fy.toInt - ly.toInt * fx.toInt))))]) (fun _ => []) := by
  refine c_intro (cc := cX4_measureTwice) (maxL := 2) (ret := none) (by decide) rfl (Nat.le_of_ble_eq_true rfl) (fun _ => by simp only [List.map_cons, List.map_nil]) ?_
  intro p e s m args below meth c Q A X hr hin E
  change J p l e rm_X4_measureTwice s m args below meth c Q G A 2 0 0 0 [(0, .ref o), (1, .ref w)] [] [(o, .inr (4, [.int ct, .long fx, .long fy, .long lx, .long ly, .ref su])), (su, .inr (8, [.ref asu])), (asu, aJ G 8 (dg S1)), (w, .inr (8, [.ref aw])), (aw, aJ G 8 f)]
  refine j_aload_n X dX4_measureTwice_0 rfl 1 rfl ?_
  refine j_aload_n X dX4_measureTwice_1 rfl 0 rfl ?_
  refine j_get (v := .ref su) X dX4_measureTwice_2 0 rfl 5 rfl in_X4_measureTwice_X4 (by decide) fl_X4_measureTwice_10 rfl ?_
  refine j_callV X dX4_measureTwice_5 (c_X9_setTo_ l G w aw su asu f S1) gX4_measureTwice_X9_setTo_ rfl hy_X9_setTo__V ⟨Nat.le_of_ble_eq_true rfl, Nat.le_of_ble_eq_true rfl⟩ 0 rfl rfl [3, 4, 1, 2] rfl (by decide) rfl rfl (Nat.le_of_ble_eq_true rfl) ⟨Nat.le_of_ble_eq_true rfl, Nat.le_of_ble_eq_true rfl⟩ ?_
  rintro _ ⟨⟩ rfl
  change J p l e rm_X4_measureTwice s m args below meth c Q G A 2 0 0 8 [(0, .ref o), (1, .ref w)] [] [(o, .inr (4, [.int ct, .long fx, .long fy, .long lx, .long ly, .ref su])), (su, .inr (8, [.ref asu])), (asu, aJ G 8 (dg S1)), (w, .inr (8, [.ref aw])), (aw, aJ G 8 (dg S1))]
  refine j_aload_n X dX4_measureTwice_8 rfl 1 rfl ?_
  refine j_aload_n X dX4_measureTwice_9 rfl 0 rfl ?_
  refine j_get (v := .long lx) X dX4_measureTwice_10 0 rfl 3 rfl in_X4_measureTwice_X4 (by decide) fl_X4_measureTwice_27 rfl ?_
  refine j_aload_n X dX4_measureTwice_13 rfl 0 rfl ?_
  refine j_get (v := .long ly) X dX4_measureTwice_14 0 rfl 4 rfl in_X4_measureTwice_X4 (by decide) fl_X4_measureTwice_30 rfl ?_
  refine j_aload_n X dX4_measureTwice_17 rfl 0 rfl ?_
  refine j_get (v := .long fx) X dX4_measureTwice_18 0 rfl 1 rfl in_X4_measureTwice_X4 (by decide) fl_X4_measureTwice_20 rfl ?_
  refine j_aload_n X dX4_measureTwice_21 rfl 0 rfl ?_
  refine j_get (v := .long fy) X dX4_measureTwice_22 0 rfl 2 rfl in_X4_measureTwice_X4 (by decide) fl_X4_measureTwice_24 rfl ?_
  refine j_callV X dX4_measureTwice_25 (c_X9_addCross l G w aw S1 lx ly fx fy hly) gX4_measureTwice_X9_addCross rfl hy_X9_addCross_V ⟨Nat.le_of_ble_eq_true rfl, Nat.le_of_ble_eq_true rfl⟩ 0 rfl rfl [3, 4] rfl (by decide) rfl rfl (Nat.le_of_ble_eq_true rfl) ⟨Nat.le_of_ble_eq_true rfl, Nat.le_of_ble_eq_true rfl⟩ ?_
  rintro _ ⟨⟩ rfl
  change J p l e rm_X4_measureTwice s m args below meth c Q G A 2 0 0 28 [(0, .ref o), (1, .ref w)] [] [(o, .inr (4, [.int ct, .long fx, .long fy, .long lx, .long ly, .ref su])), (su, .inr (8, [.ref asu])), (asu, aJ G 8 (dg S1)), (w, .inr (8, [.ref aw])), (aw, aJ G 8 (dg (S1 + (lx.toInt * fy.toInt - ly.toInt * fx.toInt))))]
  exact E.1 28 _ () dX4_measureTwice_28 rfl hr

theorem hy_X4_measureTwice_V : yX4_measureTwice.cls = RX4 ∧ yX4_measureTwice.cls ≠ "java/lang/invoke/MethodHandle" ∧ yX4_measureTwice.cls ≠ "java/lang/invoke/VarHandle" ∧ (parseMethodDescriptor yX4_measureTwice.desc).map (fun d => d.parameters.length) = some 1 := by decide +kernel
