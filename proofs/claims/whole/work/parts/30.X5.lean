abbrev rm_J13_signum_95d88 : Room := { frames := 0, cells := 0, slots := 0, locals := 0 }
set_option maxHeartbeats 4000000 in
set_option maxRecDepth 100000 in
theorem c_J13_signum_95d88 (l : Launch) (G : jG) (v : Int64) : Ct l yJ13_signum_95d88 wsJ13_signum_95d88 rm_J13_signum_95d88 G [.long v] [] (S := Unit) (fun r _ => r = some (.int (sg v.toInt))) (fun _ => []) (fun _ => []) := by
  refine c_intro (cc := cJ13_signum_95d88) (maxL := 2) (ret := (some .int)) (by decide) rfl (Nat.le_of_ble_eq_true rfl) (fun _ => by simp only [List.map_cons, List.map_nil]) ?_
  intro p e s m args below meth c Q A X hr hin E
  change J p l e rm_J13_signum_95d88 s m args below meth c Q G A 2 0 0 0 [(0, .long v)] [] []
  refine j_lload_n X dJ13_signum_95d88_0 rfl 0 rfl ?_
  refine j_bipush (v := 63) X dJ13_signum_95d88_1 (by decide) ?_
  obtain ⟨x_1, ex_1⟩ : ∃ z9 : Int64, v >>> ((63 : Int32).toInt64 &&& 63) = z9 := ⟨_, rfl⟩
  refine j_lshr (v := x_1) X dJ13_signum_95d88_3 ex_1 ?_
  refine j_lload_n X dJ13_signum_95d88_4 rfl 0 rfl ?_
  refine j_lneg X dJ13_signum_95d88_5 ?_
  refine j_bipush (v := 63) X dJ13_signum_95d88_6 (by decide) ?_
  obtain ⟨x_2, ex_2⟩ : ∃ z9 : Int64, ((-v).toUInt64 >>> ((63 : Int32).toInt64.toUInt64 &&& Int64.toUInt64 63)).toInt64 = z9 := ⟨_, rfl⟩
  refine j_lushr (v := x_2) X dJ13_signum_95d88_8 ex_2 ?_
  refine j_lor X dJ13_signum_95d88_9 ?_
  refine j_l2i X dJ13_signum_95d88_10 rfl ?_
  exact E.2.1 11 _ ((x_1 ||| x_2).toInt32) () _ dJ13_signum_95d88_11 (by rw [sgn_l ex_1 ex_2]) hr rfl

theorem hy_J13_signum_95d88_S : yJ13_signum_95d88.cls ≠ "java/lang/invoke/MethodHandle" ∧ yJ13_signum_95d88.cls ≠ "java/lang/invoke/VarHandle" ∧ (parseMethodDescriptor yJ13_signum_95d88.desc).map (fun d => d.parameters.length) = some 1 := by decide +kernel
abbrev rm_X5_setTo : Room := { frames := 2, cells := 0, slots := 0, locals := 39 }
theorem in_X5_setTo_X5 : ∀ w ∈ u_ws RX5 TX5 5, w ∈ wsX5_setTo := by decide +kernel
theorem fl_X5_setTo_10 : Cond.fieldLink RX5 10 (TX5 0).1 (TX5 0).2.1 (TX5 0).2.2.1 ∈ wsX5_setTo := by decide +kernel
theorem fl_X5_setTo_16 : Cond.fieldLink RX5 16 (TX5 1).1 (TX5 1).2.1 (TX5 1).2.2.1 ∈ wsX5_setTo := by decide +kernel
theorem fl_X5_setTo_26 : Cond.fieldLink RX5 26 (TX5 2).1 (TX5 2).2.1 (TX5 2).2.2.1 ∈ wsX5_setTo := by decide +kernel
theorem fl_X5_setTo_30 : Cond.fieldLink RX5 30 (TX5 3).1 (TX5 3).2.1 (TX5 3).2.2.1 ∈ wsX5_setTo := by decide +kernel
set_option maxHeartbeats 4000000 in
set_option maxRecDepth 100000 in
theorem c_X5_setTo (l : Launch) (G : jG) (r w1 a1 w2 a2 w3 o v1 b1 v2 b2 v3 : Nat) (f1 f2 : Nat → Int64) (side si2 : Int32) (fac fa2 : Int64) (P Q2 : Int) : Ct l yX5_setTo wsX5_setTo rm_X5_setTo G [.ref r, .ref o] [(r, .inr (5, [.ref w1, .ref w2, .int side, .long fac, .ref w3])), (w1, .inr (8, [.ref a1])), (a1, aJ G 8 f1), (w2, .inr (8, [.ref a2])), (a2, aJ G 8 f2), (o, .inr (5, [.ref v1, .ref v2, .int si2, .long fa2, .ref v3])), (v1, .inr (8, [.ref b1])), (b1, aJ G 8 (dg P)), (v2, .inr (8, [.ref b2])), (b2, aJ G 8 (dg Q2))] (S := Unit) (fun x _ => x = none) (fun _ => [(r, .inr (5, [.ref w1, .ref w2, .int si2, .long fa2, .ref w3])), (w1, .inr (8, [.ref a1])), (a1, aJ G 8 (dg P)), (w2, .inr (8, [.ref a2])), (a2, aJ G 8 (dg Q2)), (o, .inr (5, [.ref v1, .ref v2, .int si2, .long fa2, .ref v3])), (v1, .inr (8, [.ref b1])), (b1, aJ G 8 (dg P)), (v2, .inr (8, [.ref b2])), (b2, aJ G 8 (dg Q2))]) (fun _ => []) := by
  refine c_intro (cc := cX5_setTo) (maxL := 2) (ret := none) (by decide) rfl (Nat.le_of_ble_eq_true rfl) (fun _ => by simp only [List.map_cons, List.map_nil]) ?_
  intro p e s m args below meth c Q A X hr hin E
  change J p l e rm_X5_setTo s m args below meth c Q G A 2 0 0 0 [(0, .ref r), (1, .ref o)] [] [(r, .inr (5, [.ref w1, .ref w2, .int side, .long fac, .ref w3])), (w1, .inr (8, [.ref a1])), (a1, aJ G 8 f1), (w2, .inr (8, [.ref a2])), (a2, aJ G 8 f2), (o, .inr (5, [.ref v1, .ref v2, .int si2, .long fa2, .ref v3])), (v1, .inr (8, [.ref b1])), (b1, aJ G 8 (dg P)), (v2, .inr (8, [.ref b2])), (b2, aJ G 8 (dg Q2))]
  refine j_aload_n X dX5_setTo_0 rfl 0 rfl ?_
  refine j_get (v := .ref w1) X dX5_setTo_1 0 rfl 0 rfl in_X5_setTo_X5 (by decide) fl_X5_setTo_10 rfl ?_
  refine j_aload_n X dX5_setTo_4 rfl 1 rfl ?_
  refine j_get (v := .ref v1) X dX5_setTo_5 5 rfl 0 rfl in_X5_setTo_X5 (by decide) fl_X5_setTo_10 rfl ?_
  refine j_callV X dX5_setTo_8 (c_X9_setTo_ l G w1 a1 v1 b1 f1 P) gX5_setTo_X9_setTo_ rfl hy_X9_setTo__V ⟨Nat.le_of_ble_eq_true rfl, Nat.le_of_ble_eq_true rfl⟩ 0 rfl rfl [1, 2, 6, 7] rfl (by decide) rfl rfl (Nat.le_of_ble_eq_true rfl) ⟨Nat.le_of_ble_eq_true rfl, Nat.le_of_ble_eq_true rfl⟩ ?_
  rintro _ ⟨⟩ rfl
  change J p l e rm_X5_setTo s m args below meth c Q G A 2 0 0 11 [(0, .ref r), (1, .ref o)] [] [(r, .inr (5, [.ref w1, .ref w2, .int side, .long fac, .ref w3])), (w1, .inr (8, [.ref a1])), (a1, aJ G 8 (dg P)), (w2, .inr (8, [.ref a2])), (a2, aJ G 8 f2), (o, .inr (5, [.ref v1, .ref v2, .int si2, .long fa2, .ref v3])), (v1, .inr (8, [.ref b1])), (b1, aJ G 8 (dg P)), (v2, .inr (8, [.ref b2])), (b2, aJ G 8 (dg Q2))]
  refine j_aload_n X dX5_setTo_11 rfl 0 rfl ?_
  refine j_get (v := .ref w2) X dX5_setTo_12 0 rfl 1 rfl in_X5_setTo_X5 (by decide) fl_X5_setTo_16 rfl ?_
  refine j_aload_n X dX5_setTo_15 rfl 1 rfl ?_
  refine j_get (v := .ref v2) X dX5_setTo_16 5 rfl 1 rfl in_X5_setTo_X5 (by decide) fl_X5_setTo_16 rfl ?_
  refine j_callV X dX5_setTo_19 (c_X9_setTo_ l G w2 a2 v2 b2 f2 Q2) gX5_setTo_X9_setTo_ rfl hy_X9_setTo__V ⟨Nat.le_of_ble_eq_true rfl, Nat.le_of_ble_eq_true rfl⟩ 0 rfl rfl [3, 4, 8, 9] rfl (by decide) rfl rfl (Nat.le_of_ble_eq_true rfl) ⟨Nat.le_of_ble_eq_true rfl, Nat.le_of_ble_eq_true rfl⟩ ?_
  rintro _ ⟨⟩ rfl
  change J p l e rm_X5_setTo s m args below meth c Q G A 2 0 0 22 [(0, .ref r), (1, .ref o)] [] [(r, .inr (5, [.ref w1, .ref w2, .int side, .long fac, .ref w3])), (w1, .inr (8, [.ref a1])), (a1, aJ G 8 (dg P)), (w2, .inr (8, [.ref a2])), (a2, aJ G 8 (dg Q2)), (o, .inr (5, [.ref v1, .ref v2, .int si2, .long fa2, .ref v3])), (v1, .inr (8, [.ref b1])), (b1, aJ G 8 (dg P)), (v2, .inr (8, [.ref b2])), (b2, aJ G 8 (dg Q2))]
  refine j_aload_n X dX5_setTo_22 rfl 0 rfl ?_
  refine j_aload_n X dX5_setTo_23 rfl 1 rfl ?_
  refine j_get (v := .int si2) X dX5_setTo_24 5 rfl 2 rfl in_X5_setTo_X5 (by decide) fl_X5_setTo_26 rfl ?_
  refine j_put (ws' := [(r, .inr (5, [.ref w1, .ref w2, .int si2, .long fac, .ref w3])), (w1, .inr (8, [.ref a1])), (a1, aJ G 8 (dg P)), (w2, .inr (8, [.ref a2])), (a2, aJ G 8 (dg Q2)), (o, .inr (5, [.ref v1, .ref v2, .int si2, .long fa2, .ref v3])), (v1, .inr (8, [.ref b1])), (b1, aJ G 8 (dg P)), (v2, .inr (8, [.ref b2])), (b2, aJ G 8 (dg Q2))]) X dX5_setTo_27 0 rfl 2 rfl in_X5_setTo_X5 tyX5 tyX5_ok nmX5 (by decide) fl_X5_setTo_26 rfl rfl rfl rfl (Nat.le_of_ble_eq_true rfl) rfl ?_
  refine j_aload_n X dX5_setTo_30 rfl 0 rfl ?_
  refine j_aload_n X dX5_setTo_31 rfl 1 rfl ?_
  refine j_get (v := .long fa2) X dX5_setTo_32 5 rfl 3 rfl in_X5_setTo_X5 (by decide) fl_X5_setTo_30 rfl ?_
  refine j_put (ws' := [(r, .inr (5, [.ref w1, .ref w2, .int si2, .long fa2, .ref w3])), (w1, .inr (8, [.ref a1])), (a1, aJ G 8 (dg P)), (w2, .inr (8, [.ref a2])), (a2, aJ G 8 (dg Q2)), (o, .inr (5, [.ref v1, .ref v2, .int si2, .long fa2, .ref v3])), (v1, .inr (8, [.ref b1])), (b1, aJ G 8 (dg P)), (v2, .inr (8, [.ref b2])), (b2, aJ G 8 (dg Q2))]) X dX5_setTo_35 0 rfl 3 rfl in_X5_setTo_X5 tyX5 tyX5_ok nmX5 (by decide) fl_X5_setTo_30 rfl rfl rfl rfl (Nat.le_of_ble_eq_true rfl) rfl ?_
  exact E.1 38 _ () dX5_setTo_38 rfl hr

theorem hy_X5_setTo_V : yX5_setTo.cls = RX5 ∧ yX5_setTo.cls ≠ "java/lang/invoke/MethodHandle" ∧ yX5_setTo.cls ≠ "java/lang/invoke/VarHandle" ∧ (parseMethodDescriptor yX5_setTo.desc).map (fun d => d.parameters.length) = some 1 := by decide +kernel
abbrev rm_X5_setRoot : Room := { frames := 2, cells := 0, slots := 0, locals := 68 }
theorem in_X5_setRoot_X5 : ∀ w ∈ u_ws RX5 TX5 5, w ∈ wsX5_setRoot := by decide +kernel
theorem fl_X5_setRoot_30 : Cond.fieldLink RX5 30 (TX5 3).1 (TX5 3).2.1 (TX5 3).2.2.1 ∈ wsX5_setRoot := by decide +kernel
theorem fl_X5_setRoot_26 : Cond.fieldLink RX5 26 (TX5 2).1 (TX5 2).2.1 (TX5 2).2.2.1 ∈ wsX5_setRoot := by decide +kernel
theorem fl_X5_setRoot_19 : Cond.fieldLink RX5 19 (TX5 4).1 (TX5 4).2.1 (TX5 4).2.2.1 ∈ wsX5_setRoot := by decide +kernel
theorem fl_X5_setRoot_16 : Cond.fieldLink RX5 16 (TX5 1).1 (TX5 1).2.1 (TX5 1).2.2.1 ∈ wsX5_setRoot := by decide +kernel
set_option maxHeartbeats 4000000 in
set_option maxRecDepth 100000 in
theorem c_X5_setRoot (l : Launch) (G : jG) (r w1 w2 a2 w3 a3 v b : Nat) (f2 f3 : Nat → Int64) (side : Int32) (fac fx : Int64) (R0 : Int) (hR0 : -57896044618658097711785492504343953926634992332820282019728792003956564819968 ≤ R0 ∧ R0 < 57896044618658097711785492504343953926634992332820282019728792003956564819968) : Ct l yX5_setRoot wsX5_setRoot rm_X5_setRoot G [.ref r, .long fx, .ref v] [(r, .inr (5, [.ref w1, .ref w2, .int side, .long fac, .ref w3])), (w2, .inr (8, [.ref a2])), (a2, aJ G 8 f2), (w3, .inr (8, [.ref a3])), (a3, aJ G 8 f3), (v, .inr (8, [.ref b])), (b, aJ G 8 (dg R0))] (S := Unit) (fun x _ => x = none) (fun _ => [(r, .inr (5, [.ref w1, .ref w2, .int (sg fx.toInt * sg R0), .long fx, .ref w3])), (w2, .inr (8, [.ref a2])), (a2, aJ G 8 (dg (fx.toInt * fx.toInt * R0))), (w3, .inr (8, [.ref a3])), (a3, aJ G 8 (dg (fx.toInt * fx.toInt))), (v, .inr (8, [.ref b])), (b, aJ G 8 (dg R0))]) (fun _ => []) := by
  refine c_intro (cc := cX5_setRoot) (maxL := 4) (ret := none) (by decide) rfl (Nat.le_of_ble_eq_true rfl) (fun _ => by simp only [List.map_cons, List.map_nil]) ?_
  intro p e s m args below meth c Q A X hr hin E
  change J p l e rm_X5_setRoot s m args below meth c Q G A 4 0 0 0 [(0, .ref r), (1, .long fx), (3, .ref v)] [] [(r, .inr (5, [.ref w1, .ref w2, .int side, .long fac, .ref w3])), (w2, .inr (8, [.ref a2])), (a2, aJ G 8 f2), (w3, .inr (8, [.ref a3])), (a3, aJ G 8 f3), (v, .inr (8, [.ref b])), (b, aJ G 8 (dg R0))]
  refine j_aload_n X dX5_setRoot_0 rfl 0 rfl ?_
  refine j_lload_n X dX5_setRoot_1 rfl 1 rfl ?_
  refine j_put (ws' := [(r, .inr (5, [.ref w1, .ref w2, .int side, .long fx, .ref w3])), (w2, .inr (8, [.ref a2])), (a2, aJ G 8 f2), (w3, .inr (8, [.ref a3])), (a3, aJ G 8 f3), (v, .inr (8, [.ref b])), (b, aJ G 8 (dg R0))]) X dX5_setRoot_2 0 rfl 3 rfl in_X5_setRoot_X5 tyX5 tyX5_ok nmX5 (by decide) fl_X5_setRoot_30 rfl rfl rfl rfl (Nat.le_of_ble_eq_true rfl) rfl ?_
  refine j_aload_n X dX5_setRoot_5 rfl 0 rfl ?_
  refine j_lload_n X dX5_setRoot_6 rfl 1 rfl ?_
  refine j_callS X dX5_setRoot_7 (c_J13_signum_95d88 l G fx) gX5_setRoot_J13_signum_95d88 rfl hy_J13_signum_95d88_S ⟨Nat.le_of_ble_eq_true rfl, Nat.le_of_ble_eq_true rfl⟩ [] rfl (by decide) rfl rfl (Nat.le_of_ble_eq_true rfl) ⟨Nat.le_of_ble_eq_true rfl, Nat.le_of_ble_eq_true rfl⟩ ?_
  rintro _ ⟨⟩ rfl
  change J p l e rm_X5_setRoot s m args below meth c Q G A 4 0 0 10 [(0, .ref r), (1, .long fx), (3, .ref v)] [.int (sg fx.toInt), .ref r] [(r, .inr (5, [.ref w1, .ref w2, .int side, .long fx, .ref w3])), (w2, .inr (8, [.ref a2])), (a2, aJ G 8 f2), (w3, .inr (8, [.ref a3])), (a3, aJ G 8 f3), (v, .inr (8, [.ref b])), (b, aJ G 8 (dg R0))]
  refine j_aload_n X dX5_setRoot_10 rfl 2 rfl ?_
  refine j_callV X dX5_setRoot_11 (c_X9_sign l G v b R0 hR0) gX5_setRoot_X9_sign rfl hy_X9_sign_V ⟨Nat.le_of_ble_eq_true rfl, Nat.le_of_ble_eq_true rfl⟩ 0 rfl rfl [5, 6] rfl (by decide) rfl rfl (Nat.le_of_ble_eq_true rfl) ⟨Nat.le_of_ble_eq_true rfl, Nat.le_of_ble_eq_true rfl⟩ ?_
  rintro _ ⟨⟩ rfl
  change J p l e rm_X5_setRoot s m args below meth c Q G A 4 0 0 14 [(0, .ref r), (1, .long fx), (3, .ref v)] [.int (sg R0), .int (sg fx.toInt), .ref r] [(r, .inr (5, [.ref w1, .ref w2, .int side, .long fx, .ref w3])), (w2, .inr (8, [.ref a2])), (a2, aJ G 8 f2), (w3, .inr (8, [.ref a3])), (a3, aJ G 8 f3), (v, .inr (8, [.ref b])), (b, aJ G 8 (dg R0))]
  refine j_imul X dX5_setRoot_14 ?_
  refine j_put (ws' := [(r, .inr (5, [.ref w1, .ref w2, .int ((sg fx.toInt) * (sg R0)), .long fx, .ref w3])), (w2, .inr (8, [.ref a2])), (a2, aJ G 8 f2), (w3, .inr (8, [.ref a3])), (a3, aJ G 8 f3), (v, .inr (8, [.ref b])), (b, aJ G 8 (dg R0))]) X dX5_setRoot_15 0 rfl 2 rfl in_X5_setRoot_X5 tyX5 tyX5_ok nmX5 (by decide) fl_X5_setRoot_26 rfl rfl rfl rfl (Nat.le_of_ble_eq_true rfl) rfl ?_
  refine j_aload_n X dX5_setRoot_18 rfl 0 rfl ?_
  refine j_get (v := .ref w3) X dX5_setRoot_19 0 rfl 4 rfl in_X5_setRoot_X5 (by decide) fl_X5_setRoot_19 rfl ?_
  refine j_lconst (v := 0) X dX5_setRoot_22 rfl ?_
  refine j_callV X dX5_setRoot_23 (c_X9_setTo l G w3 a3 f3 0) gX5_setRoot_X9_setTo rfl hy_X9_setTo_V ⟨Nat.le_of_ble_eq_true rfl, Nat.le_of_ble_eq_true rfl⟩ 0 rfl rfl [3, 4] rfl (by decide) rfl rfl (Nat.le_of_ble_eq_true rfl) ⟨Nat.le_of_ble_eq_true rfl, Nat.le_of_ble_eq_true rfl⟩ ?_
  rintro _ ⟨⟩ rfl
  change J p l e rm_X5_setRoot s m args below meth c Q G A 4 0 0 26 [(0, .ref r), (1, .long fx), (3, .ref v)] [] [(r, .inr (5, [.ref w1, .ref w2, .int ((sg fx.toInt) * (sg R0)), .long fx, .ref w3])), (w2, .inr (8, [.ref a2])), (a2, aJ G 8 f2), (w3, .inr (8, [.ref a3])), (a3, aJ G 8 (dg 0)), (v, .inr (8, [.ref b])), (b, aJ G 8 (dg R0))]
  refine j_aload_n X dX5_setRoot_26 rfl 0 rfl ?_
  refine j_get (v := .ref w3) X dX5_setRoot_27 0 rfl 4 rfl in_X5_setRoot_X5 (by decide) fl_X5_setRoot_19 rfl ?_
  refine j_lload_n X dX5_setRoot_30 rfl 1 rfl ?_
  refine j_lload_n X dX5_setRoot_31 rfl 1 rfl ?_
  refine j_callV X dX5_setRoot_32 (c_X9_addProduct l G w3 a3 0 fx fx) gX5_setRoot_X9_addProduct rfl hy_X9_addProduct_V ⟨Nat.le_of_ble_eq_true rfl, Nat.le_of_ble_eq_true rfl⟩ 0 rfl rfl [3, 4] rfl (by decide) rfl rfl (Nat.le_of_ble_eq_true rfl) ⟨Nat.le_of_ble_eq_true rfl, Nat.le_of_ble_eq_true rfl⟩ ?_
  rintro _ ⟨⟩ rfl
  change J p l e rm_X5_setRoot s m args below meth c Q G A 4 0 0 35 [(0, .ref r), (1, .long fx), (3, .ref v)] [] [(r, .inr (5, [.ref w1, .ref w2, .int ((sg fx.toInt) * (sg R0)), .long fx, .ref w3])), (w2, .inr (8, [.ref a2])), (a2, aJ G 8 f2), (w3, .inr (8, [.ref a3])), (a3, aJ G 8 (dg (0 + fx.toInt * fx.toInt))), (v, .inr (8, [.ref b])), (b, aJ G 8 (dg R0))]
  refine j_aload_n X dX5_setRoot_35 rfl 0 rfl ?_
  refine j_get (v := .ref w2) X dX5_setRoot_36 0 rfl 1 rfl in_X5_setRoot_X5 (by decide) fl_X5_setRoot_16 rfl ?_
  refine j_aload_n X dX5_setRoot_39 rfl 0 rfl ?_
  refine j_get (v := .ref w3) X dX5_setRoot_40 0 rfl 4 rfl in_X5_setRoot_X5 (by decide) fl_X5_setRoot_19 rfl ?_
  refine j_aload_n X dX5_setRoot_43 rfl 2 rfl ?_
  refine j_callV X dX5_setRoot_44 (c_X9_setToProduct l G w2 a2 w3 a3 v b f2 (0 + fx.toInt * fx.toInt) R0) gX5_setRoot_X9_setToProduct rfl hy_X9_setToProduct_V ⟨Nat.le_of_ble_eq_true rfl, Nat.le_of_ble_eq_true rfl⟩ 0 rfl rfl [1, 2, 3, 4, 5, 6] rfl (by decide) rfl rfl (Nat.le_of_ble_eq_true rfl) ⟨Nat.le_of_ble_eq_true rfl, Nat.le_of_ble_eq_true rfl⟩ ?_
  rintro _ ⟨⟩ rfl
  change J p l e rm_X5_setRoot s m args below meth c Q G A 4 0 0 47 [(0, .ref r), (1, .long fx), (3, .ref v)] [] [(r, .inr (5, [.ref w1, .ref w2, .int ((sg fx.toInt) * (sg R0)), .long fx, .ref w3])), (w2, .inr (8, [.ref a2])), (a2, aJ G 8 (dg ((0 + fx.toInt * fx.toInt) * R0))), (w3, .inr (8, [.ref a3])), (a3, aJ G 8 (dg (0 + fx.toInt * fx.toInt))), (v, .inr (8, [.ref b])), (b, aJ G 8 (dg R0))]
  rw [Int.zero_add]
  exact E.1 47 _ () dX5_setRoot_47 rfl hr

theorem hy_X5_setRoot_V : yX5_setRoot.cls = RX5 ∧ yX5_setRoot.cls ≠ "java/lang/invoke/MethodHandle" ∧ yX5_setRoot.cls ≠ "java/lang/invoke/VarHandle" ∧ (parseMethodDescriptor yX5_setRoot.desc).map (fun d => d.parameters.length) = some 2 := by decide +kernel
abbrev rm_X6_sign : Room := { frames := 2, cells := 0, slots := 0, locals := 55 }
theorem in_X6_sign_X5 : ∀ w ∈ u_ws RX5 TX5 5, w ∈ wsX6_sign := by decide +kernel
theorem fl_X6_sign_31 : Cond.fieldLink RX6 31 (TX5 0).1 (TX5 0).2.1 (TX5 0).2.2.1 ∈ wsX6_sign := by decide +kernel
theorem fl_X6_sign_38 : Cond.fieldLink RX6 38 (TX5 2).1 (TX5 2).2.1 (TX5 2).2.2.1 ∈ wsX6_sign := by decide +kernel
theorem in_X6_sign_X6 : ∀ w ∈ u_ws RX6 TX6 4, w ∈ wsX6_sign := by decide +kernel
theorem fl_X6_sign_12 : Cond.fieldLink RX6 12 (TX6 0).1 (TX6 0).2.1 (TX6 0).2.2.1 ∈ wsX6_sign := by decide +kernel
theorem fl_X6_sign_18 : Cond.fieldLink RX6 18 (TX6 1).1 (TX6 1).2.1 (TX6 1).2.2.1 ∈ wsX6_sign := by decide +kernel
theorem fl_X6_sign_53 : Cond.fieldLink RX6 53 (TX5 1).1 (TX5 1).2.1 (TX5 1).2.2.1 ∈ wsX6_sign := by decide +kernel
set_option maxHeartbeats 4000000 in
set_option maxRecDepth 100000 in
theorem c_X6_sign (l : Launch) (G : jG) (o s1 b1 s2 b2 rr stp v w1 a1 w2 a2 w3 : Nat) (f1 f2 : Nat → Int64) (side : Int32) (fac : Int64) (P Q2 : Int) (hP : -340282366920938463463374607431768211455 ≤ P ∧ P ≤ 340282366920938463463374607431768211455) (hQ : 0 ≤ Q2 ∧ Q2 < 115792089237316195423570985008687907853269984665640564039457584007913129639936) : Ct l yX6_sign wsX6_sign rm_X6_sign G [.ref o, .ref v] [(o, .inr (6, [.ref s1, .ref s2, .ref rr, .ref stp])), (s1, .inr (8, [.ref b1])), (b1, aJ G 8 f1), (s2, .inr (8, [.ref b2])), (b2, aJ G 8 f2), (v, .inr (5, [.ref w1, .ref w2, .int side, .long fac, .ref w3])), (w1, .inr (8, [.ref a1])), (a1, aJ G 8 (dg P)), (w2, .inr (8, [.ref a2])), (a2, aJ G 8 (dg Q2))] (S := (Nat → Int64) × (Nat → Int64)) (fun x _ => x = some (.int (cs P side Q2))) (fun u => [(o, .inr (6, [.ref s1, .ref s2, .ref rr, .ref stp])), (s1, .inr (8, [.ref b1])), (b1, aJ G 8 u.1), (s2, .inr (8, [.ref b2])), (b2, aJ G 8 u.2), (v, .inr (5, [.ref w1, .ref w2, .int side, .long fac, .ref w3])), (w1, .inr (8, [.ref a1])), (a1, aJ G 8 (dg P)), (w2, .inr (8, [.ref a2])), (a2, aJ G 8 (dg Q2))]) (fun _ => []) := by
  refine c_intro (cc := cX6_sign) (maxL := 3) (ret := (some .int)) (by decide) rfl (Nat.le_of_ble_eq_true rfl) (fun _ => by simp only [List.map_cons, List.map_nil]) ?_
  intro p e s m args below meth c Q A X hr hin E
  change J p l e rm_X6_sign s m args below meth c Q G A 3 0 0 0 [(0, .ref o), (1, .ref v)] [] [(o, .inr (6, [.ref s1, .ref s2, .ref rr, .ref stp])), (s1, .inr (8, [.ref b1])), (b1, aJ G 8 f1), (s2, .inr (8, [.ref b2])), (b2, aJ G 8 f2), (v, .inr (5, [.ref w1, .ref w2, .int side, .long fac, .ref w3])), (w1, .inr (8, [.ref a1])), (a1, aJ G 8 (dg P)), (w2, .inr (8, [.ref a2])), (a2, aJ G 8 (dg Q2))]
  have hPs : -57896044618658097711785492504343953926634992332820282019728792003956564819968 ≤ P ∧ P < 57896044618658097711785492504343953926634992332820282019728792003956564819968 := by omega
  have hPP := cs_sq hP
  refine j_aload_n X dX6_sign_0 rfl 1 rfl ?_
  refine j_get (v := .ref w1) X dX6_sign_1 5 rfl 0 rfl in_X6_sign_X5 (by decide) fl_X6_sign_31 rfl ?_
  refine j_callV X dX6_sign_4 (c_X9_sign l G w1 a1 P hPs) gX6_sign_X9_sign rfl hy_X9_sign_V ⟨Nat.le_of_ble_eq_true rfl, Nat.le_of_ble_eq_true rfl⟩ 0 rfl rfl [6, 7] rfl (by decide) rfl rfl (Nat.le_of_ble_eq_true rfl) ⟨Nat.le_of_ble_eq_true rfl, Nat.le_of_ble_eq_true rfl⟩ ?_
  rintro _ ⟨⟩ rfl
  change J p l e rm_X6_sign s m args below meth c Q G A 3 0 0 7 [(0, .ref o), (1, .ref v)] [.int (sg P)] [(o, .inr (6, [.ref s1, .ref s2, .ref rr, .ref stp])), (s1, .inr (8, [.ref b1])), (b1, aJ G 8 f1), (s2, .inr (8, [.ref b2])), (b2, aJ G 8 f2), (v, .inr (5, [.ref w1, .ref w2, .int side, .long fac, .ref w3])), (w1, .inr (8, [.ref a1])), (a1, aJ G 8 (dg P)), (w2, .inr (8, [.ref a2])), (a2, aJ G 8 (dg Q2))]
  refine j_topi (fun x_1 ex_1 => ?_)
  refine j_istore_n (L' := [(2, .int x_1), (0, .ref o), (1, .ref v)]) X dX6_sign_7 rfl (by decide) rfl ?_
  refine j_aload_n X dX6_sign_8 rfl 2 rfl ?_
  refine j_get (v := .int side) X dX6_sign_9 5 rfl 2 rfl in_X6_sign_X5 (by decide) fl_X6_sign_38 rfl ?_
  refine j_if_eq (tgt := 23) X dX6_sign_12 (by decide) (fun c_12 => ?_) (fun c_12 => ?_)
  · skip
    refine j_iload_n X dX6_sign_23 rfl 0 rfl ?_
    exact E.2.1 24 _ x_1 (f1, f2) _ dX6_sign_24 (by subst ex_1; unfold cs; rw [if_pos (Or.inl c_12)]) hr rfl
  · skip
    refine j_iload_n X dX6_sign_15 rfl 0 rfl ?_
    refine j_aload_n X dX6_sign_16 rfl 2 rfl ?_
    refine j_get (v := .int side) X dX6_sign_17 5 rfl 2 rfl in_X6_sign_X5 (by decide) fl_X6_sign_38 rfl ?_
    refine j_icmp_ne (tgt := 25) X dX6_sign_20 (by decide) (fun c_20 => ?_) (fun c_20 => ?_)
    · skip
      have h1n : ¬ (side = 0 ∨ sg P = side) := by intro h; rcases h with h | h; exact c_12 h; exact c_20 (by rw [ex_1]; exact h)
      refine j_iload_n X dX6_sign_25 rfl 0 rfl ?_
      refine j_if_ne (tgt := 34) X dX6_sign_26 (by decide) (fun c_26 => ?_) (fun c_26 => ?_)
      · skip
        refine j_aload_n X dX6_sign_34 rfl 1 rfl ?_
        refine j_get (v := .ref s1) X dX6_sign_35 0 rfl 0 rfl in_X6_sign_X6 (by decide) fl_X6_sign_12 rfl ?_
        refine j_aload_n X dX6_sign_38 rfl 2 rfl ?_
        refine j_get (v := .ref w1) X dX6_sign_39 5 rfl 0 rfl in_X6_sign_X5 (by decide) fl_X6_sign_31 rfl ?_
        refine j_callV X dX6_sign_42 (c_X9_setTo_ l G s1 b1 w1 a1 f1 P) gX6_sign_X9_setTo_ rfl hy_X9_setTo__V ⟨Nat.le_of_ble_eq_true rfl, Nat.le_of_ble_eq_true rfl⟩ 0 rfl rfl [1, 2, 6, 7] rfl (by decide) rfl rfl (Nat.le_of_ble_eq_true rfl) ⟨Nat.le_of_ble_eq_true rfl, Nat.le_of_ble_eq_true rfl⟩ ?_
        rintro _ ⟨⟩ rfl
        change J p l e rm_X6_sign s m args below meth c Q G A 3 0 0 45 [(2, .int x_1), (0, .ref o), (1, .ref v)] [] [(o, .inr (6, [.ref s1, .ref s2, .ref rr, .ref stp])), (s1, .inr (8, [.ref b1])), (b1, aJ G 8 (dg P)), (s2, .inr (8, [.ref b2])), (b2, aJ G 8 f2), (v, .inr (5, [.ref w1, .ref w2, .int side, .long fac, .ref w3])), (w1, .inr (8, [.ref a1])), (a1, aJ G 8 (dg P)), (w2, .inr (8, [.ref a2])), (a2, aJ G 8 (dg Q2))]
        refine j_iload_n X dX6_sign_45 rfl 0 rfl ?_
        refine j_if_ge (tgt := 56) X dX6_sign_46 (by decide) (fun c_46 => ?_) (fun c_46 => ?_)
        · skip
          refine j_aload_n X dX6_sign_56 rfl 1 rfl ?_
          refine j_get (v := .ref s2) X dX6_sign_57 0 rfl 1 rfl in_X6_sign_X6 (by decide) fl_X6_sign_18 rfl ?_
          refine j_aload_n X dX6_sign_60 rfl 1 rfl ?_
          refine j_get (v := .ref s1) X dX6_sign_61 0 rfl 0 rfl in_X6_sign_X6 (by decide) fl_X6_sign_12 rfl ?_
          refine j_aload_n X dX6_sign_64 rfl 1 rfl ?_
          refine j_get (v := .ref s1) X dX6_sign_65 0 rfl 0 rfl in_X6_sign_X6 (by decide) fl_X6_sign_12 rfl ?_
          refine j_callV X dX6_sign_68 (c_X9_setToProduct_s l G s2 b2 s1 b1 f2 P) gX6_sign_X9_setToProduct rfl hy_X9_setToProduct_V ⟨Nat.le_of_ble_eq_true rfl, Nat.le_of_ble_eq_true rfl⟩ 0 rfl rfl [3, 4, 1, 2] rfl (by decide) rfl rfl (Nat.le_of_ble_eq_true rfl) ⟨Nat.le_of_ble_eq_true rfl, Nat.le_of_ble_eq_true rfl⟩ ?_
          rintro _ ⟨⟩ rfl
          change J p l e rm_X6_sign s m args below meth c Q G A 3 0 0 71 [(2, .int x_1), (0, .ref o), (1, .ref v)] [] [(o, .inr (6, [.ref s1, .ref s2, .ref rr, .ref stp])), (s1, .inr (8, [.ref b1])), (b1, aJ G 8 (dg P)), (s2, .inr (8, [.ref b2])), (b2, aJ G 8 (dg (P * P))), (v, .inr (5, [.ref w1, .ref w2, .int side, .long fac, .ref w3])), (w1, .inr (8, [.ref a1])), (a1, aJ G 8 (dg P)), (w2, .inr (8, [.ref a2])), (a2, aJ G 8 (dg Q2))]
          refine j_iload_n X dX6_sign_71 rfl 0 rfl ?_
          refine j_aload_n X dX6_sign_72 rfl 1 rfl ?_
          refine j_get (v := .ref s2) X dX6_sign_73 0 rfl 1 rfl in_X6_sign_X6 (by decide) fl_X6_sign_18 rfl ?_
          refine j_aload_n X dX6_sign_76 rfl 2 rfl ?_
          refine j_get (v := .ref w2) X dX6_sign_77 5 rfl 1 rfl in_X6_sign_X5 (by decide) fl_X6_sign_53 rfl ?_
          refine j_callV X dX6_sign_80 (c_X9_against l G s2 b2 w2 a2 (P * P) Q2 hPP hQ) gX6_sign_X9_against rfl hy_X9_against_V ⟨Nat.le_of_ble_eq_true rfl, Nat.le_of_ble_eq_true rfl⟩ 0 rfl rfl [3, 4, 8, 9] rfl (by decide) rfl rfl (Nat.le_of_ble_eq_true rfl) ⟨Nat.le_of_ble_eq_true rfl, Nat.le_of_ble_eq_true rfl⟩ ?_
          rintro _ ⟨⟩ rfl
          change J p l e rm_X6_sign s m args below meth c Q G A 3 0 0 83 [(2, .int x_1), (0, .ref o), (1, .ref v)] [.int (sg ((P * P) - Q2)), .int x_1] [(o, .inr (6, [.ref s1, .ref s2, .ref rr, .ref stp])), (s1, .inr (8, [.ref b1])), (b1, aJ G 8 (dg P)), (s2, .inr (8, [.ref b2])), (b2, aJ G 8 (dg (P * P))), (v, .inr (5, [.ref w1, .ref w2, .int side, .long fac, .ref w3])), (w1, .inr (8, [.ref a1])), (a1, aJ G 8 (dg P)), (w2, .inr (8, [.ref a2])), (a2, aJ G 8 (dg Q2))]
          refine j_imul X dX6_sign_83 ?_
          exact E.2.1 84 _ (x_1 * (sg ((P * P) - Q2))) (dg P, dg (P * P)) _ dX6_sign_84 (by subst ex_1; unfold cs; rw [if_neg h1n, if_neg c_26]) hr rfl
        · skip
          refine j_aload_n X dX6_sign_49 rfl 1 rfl ?_
          refine j_get (v := .ref s1) X dX6_sign_50 0 rfl 0 rfl in_X6_sign_X6 (by decide) fl_X6_sign_12 rfl ?_
          refine j_callV X dX6_sign_53 (c_X9_negate l G s1 b1 P) gX6_sign_X9_negate rfl hy_X9_negate_V ⟨Nat.le_of_ble_eq_true rfl, Nat.le_of_ble_eq_true rfl⟩ 0 rfl rfl [1, 2] rfl (by decide) rfl rfl (Nat.le_of_ble_eq_true rfl) ⟨Nat.le_of_ble_eq_true rfl, Nat.le_of_ble_eq_true rfl⟩ ?_
          rintro _ ⟨⟩ rfl
          change J p l e rm_X6_sign s m args below meth c Q G A 3 0 0 56 [(2, .int x_1), (0, .ref o), (1, .ref v)] [] [(o, .inr (6, [.ref s1, .ref s2, .ref rr, .ref stp])), (s1, .inr (8, [.ref b1])), (b1, aJ G 8 (dg (-P))), (s2, .inr (8, [.ref b2])), (b2, aJ G 8 f2), (v, .inr (5, [.ref w1, .ref w2, .int side, .long fac, .ref w3])), (w1, .inr (8, [.ref a1])), (a1, aJ G 8 (dg P)), (w2, .inr (8, [.ref a2])), (a2, aJ G 8 (dg Q2))]
          refine j_aload_n X dX6_sign_56 rfl 1 rfl ?_
          refine j_get (v := .ref s2) X dX6_sign_57 0 rfl 1 rfl in_X6_sign_X6 (by decide) fl_X6_sign_18 rfl ?_
          refine j_aload_n X dX6_sign_60 rfl 1 rfl ?_
          refine j_get (v := .ref s1) X dX6_sign_61 0 rfl 0 rfl in_X6_sign_X6 (by decide) fl_X6_sign_12 rfl ?_
          refine j_aload_n X dX6_sign_64 rfl 1 rfl ?_
          refine j_get (v := .ref s1) X dX6_sign_65 0 rfl 0 rfl in_X6_sign_X6 (by decide) fl_X6_sign_12 rfl ?_
          refine j_callV X dX6_sign_68 (c_X9_setToProduct_s l G s2 b2 s1 b1 f2 (-P)) gX6_sign_X9_setToProduct rfl hy_X9_setToProduct_V ⟨Nat.le_of_ble_eq_true rfl, Nat.le_of_ble_eq_true rfl⟩ 0 rfl rfl [3, 4, 1, 2] rfl (by decide) rfl rfl (Nat.le_of_ble_eq_true rfl) ⟨Nat.le_of_ble_eq_true rfl, Nat.le_of_ble_eq_true rfl⟩ ?_
          rintro _ ⟨⟩ rfl
          change J p l e rm_X6_sign s m args below meth c Q G A 3 0 0 71 [(2, .int x_1), (0, .ref o), (1, .ref v)] [] [(o, .inr (6, [.ref s1, .ref s2, .ref rr, .ref stp])), (s1, .inr (8, [.ref b1])), (b1, aJ G 8 (dg (-P))), (s2, .inr (8, [.ref b2])), (b2, aJ G 8 (dg ((-P) * (-P)))), (v, .inr (5, [.ref w1, .ref w2, .int side, .long fac, .ref w3])), (w1, .inr (8, [.ref a1])), (a1, aJ G 8 (dg P)), (w2, .inr (8, [.ref a2])), (a2, aJ G 8 (dg Q2))]
          refine j_iload_n X dX6_sign_71 rfl 0 rfl ?_
          refine j_aload_n X dX6_sign_72 rfl 1 rfl ?_
          refine j_get (v := .ref s2) X dX6_sign_73 0 rfl 1 rfl in_X6_sign_X6 (by decide) fl_X6_sign_18 rfl ?_
          refine j_aload_n X dX6_sign_76 rfl 2 rfl ?_
          refine j_get (v := .ref w2) X dX6_sign_77 5 rfl 1 rfl in_X6_sign_X5 (by decide) fl_X6_sign_53 rfl ?_
          refine j_callV X dX6_sign_80 (c_X9_against l G s2 b2 w2 a2 ((-P) * (-P)) Q2 (by rw [Int.neg_mul_neg]; exact hPP) hQ) gX6_sign_X9_against rfl hy_X9_against_V ⟨Nat.le_of_ble_eq_true rfl, Nat.le_of_ble_eq_true rfl⟩ 0 rfl rfl [3, 4, 8, 9] rfl (by decide) rfl rfl (Nat.le_of_ble_eq_true rfl) ⟨Nat.le_of_ble_eq_true rfl, Nat.le_of_ble_eq_true rfl⟩ ?_
          rintro _ ⟨⟩ rfl
          change J p l e rm_X6_sign s m args below meth c Q G A 3 0 0 83 [(2, .int x_1), (0, .ref o), (1, .ref v)] [.int (sg (((-P) * (-P)) - Q2)), .int x_1] [(o, .inr (6, [.ref s1, .ref s2, .ref rr, .ref stp])), (s1, .inr (8, [.ref b1])), (b1, aJ G 8 (dg (-P))), (s2, .inr (8, [.ref b2])), (b2, aJ G 8 (dg ((-P) * (-P)))), (v, .inr (5, [.ref w1, .ref w2, .int side, .long fac, .ref w3])), (w1, .inr (8, [.ref a1])), (a1, aJ G 8 (dg P)), (w2, .inr (8, [.ref a2])), (a2, aJ G 8 (dg Q2))]
          refine j_imul X dX6_sign_83 ?_
          exact E.2.1 84 _ (x_1 * (sg (((-P) * (-P)) - Q2))) (dg (-P), dg ((-P) * (-P))) _ dX6_sign_84 (by subst ex_1; unfold cs; rw [if_neg h1n, if_neg c_26]; rw [Int.neg_mul_neg]) hr rfl
      · skip
        refine j_aload_n X dX6_sign_29 rfl 2 rfl ?_
        refine j_get (v := .int side) X dX6_sign_30 5 rfl 2 rfl in_X6_sign_X5 (by decide) fl_X6_sign_38 rfl ?_
        exact E.2.1 33 _ side (f1, f2) _ dX6_sign_33 (by subst ex_1; unfold cs; rw [if_neg h1n, if_pos c_26]) hr rfl
    · skip
      refine j_iload_n X dX6_sign_23 rfl 0 rfl ?_
      exact E.2.1 24 _ x_1 (f1, f2) _ dX6_sign_24 (by subst ex_1; unfold cs; rw [if_pos (Or.inr c_20)]) hr rfl

theorem hy_X6_sign_V : yX6_sign.cls = RX6 ∧ yX6_sign.cls ≠ "java/lang/invoke/MethodHandle" ∧ yX6_sign.cls ≠ "java/lang/invoke/VarHandle" ∧ (parseMethodDescriptor yX6_sign.desc).map (fun d => d.parameters.length) = some 1 := by decide +kernel
