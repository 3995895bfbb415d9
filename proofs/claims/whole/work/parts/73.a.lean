abbrev rm_X8_init : Room := { frames := 1, cells := 0, slots := 0, locals := 20 }
theorem oi_X8_init : (Cond.methodLink RX8 1 objectInit ∈ wsX8_init) ∧ (Cond.instanceMethod objectInit ∈ wsX8_init) ∧ (Cond.code objectInit ⟨#[0xb1]⟩ 1 none ∈ wsX8_init) := ⟨by decide +kernel, by decide +kernel, List.mem_of_getElem? (i := 3) rfl⟩
set_option maxHeartbeats 4000000 in
set_option maxRecDepth 100000 in
theorem c_X8_init (l : Launch) (G : jG) (o : Nat) : Cf l yX8_init wsX8_init rm_X8_init G [.ref o] [] (S := Unit) (fun r _ => r = none) (fun _ => []) (fun _ => []) := by
  refine cf_intro (cc := cX8_init) (maxL := 1) (ret := none) (by decide) rfl (Nat.le_of_ble_eq_true rfl) (fun _ => by simp only [List.map_cons, List.map_nil]) ?_
  intro p e s m args below meth c Q A X XF hr hin E
  change J p l e rm_X8_init s m args below meth c Q G A 1 0 0 0 [(0, .ref o)] [] []
  refine j_aload_n X dX8_init_0 rfl 0 rfl ?_
  refine j_objI X dX8_init_1 oi_X8_init.1 oi_X8_init.2.1 oi_X8_init.2.2 (Nat.le_of_ble_eq_true rfl) (Nat.le_of_ble_eq_true rfl) ?_
  exact E.1 4 _ () dX8_init_4 rfl hr

theorem hi_X8_init : yX8_init.cls ≠ "java/lang/invoke/MethodHandle" ∧ yX8_init.cls ≠ "java/lang/invoke/VarHandle" ∧ (parseMethodDescriptor yX8_init.desc).map (fun d => d.parameters.length) = some 0 := by decide +kernel
abbrev rm_X9_init : Room := { frames := 1, cells := 1, slots := 8, locals := 20 }
theorem oi_X9_init : (Cond.methodLink RX9 1 objectInit ∈ wsX9_init) ∧ (Cond.instanceMethod objectInit ∈ wsX9_init) ∧ (Cond.code objectInit ⟨#[0xb1]⟩ 1 none ∈ wsX9_init) := ⟨by decide +kernel, by decide +kernel, List.mem_of_getElem? (i := 3) rfl⟩
theorem na_X9_init_long : Cond.arrayClass .long ∈ wsX9_init := by decide +kernel
theorem in_X9_init_X9 : ∀ w ∈ u_ws RX9 TX9 1, w ∈ wsX9_init := by decide +kernel
theorem fl_X9_init_9 : Cond.fieldLink RX9 9 (TX9 0).1 (TX9 0).2.1 (TX9 0).2.2.1 ∈ wsX9_init := by decide +kernel
set_option maxHeartbeats 4000000 in
set_option maxRecDepth 100000 in
theorem c_X9_init (l : Launch) (G : jG) (o : Nat) : Cf l yX9_init wsX9_init rm_X9_init G [.ref o] [(o, .inr (8, [.null]))] (S := Nat) (fun r _ => r = none) (fun a => [(o, .inr (8, [.ref a]))]) (fun a => [(a, aJ G 8 (dg 0))]) := by
  refine cf_intro (cc := cX9_init) (maxL := 1) (ret := none) (by decide) rfl (Nat.le_of_ble_eq_true rfl) (fun _ => by simp only [List.map_cons, List.map_nil]) ?_
  intro p e s m args below meth c Q A X XF hr hin E
  change J p l e rm_X9_init s m args below meth c Q G A 1 0 0 0 [(0, .ref o)] [] [(o, .inr (8, [.null]))]
  refine j_aload_n X dX9_init_0 rfl 0 rfl ?_
  refine j_objI X dX9_init_1 oi_X9_init.1 oi_X9_init.2.1 oi_X9_init.2.2 (Nat.le_of_ble_eq_true rfl) (Nat.le_of_ble_eq_true rfl) ?_
  refine j_aload_n X dX9_init_4 rfl 0 rfl ?_
  refine j_bipush (v := 8) X dX9_init_5 (by decide) ?_
  refine j_newJ (N' := 8) X dX9_init_7 na_X9_init_long (by decide) (by decide) (by decide) (Nat.le_of_ble_eq_true rfl) (Nat.le_of_ble_eq_true rfl) (fun q_1 => ?_)
  change J p l e rm_X9_init s m args below meth c Q G A 1 1 8 9 [(0, .ref o)] [.ref q_1, .ref o] [(o, .inr (8, [.null])), (q_1, aJ G 8 (fun _ => 0))]
  refine j_putF (ws' := [(o, .inr (8, [.ref q_1])), (q_1, aJ G 8 (fun _ => 0))]) X hin dX9_init_9 0 rfl 0 rfl in_X9_init_X9 tyX9 tyX9_ok nmX9 (by decide) fl_X9_init_9 rfl rfl rfl rfl rfl (Nat.le_of_ble_eq_true rfl) rfl ?_
  refine j_setJ (g := dg 0) 1 rfl (fun j _ => (dg_00 j).symm) rfl ?_
  exact E.1 12 _ q_1 dX9_init_12 rfl hr

theorem hi_X9_init : yX9_init.cls ≠ "java/lang/invoke/MethodHandle" ∧ yX9_init.cls ≠ "java/lang/invoke/VarHandle" ∧ (parseMethodDescriptor yX9_init.desc).map (fun d => d.parameters.length) = some 0 := by decide +kernel
abbrev rm_X5_init : Room := { frames := 2, cells := 6, slots := 27, locals := 40 }
theorem oi_X5_init : (Cond.methodLink RX5 1 objectInit ∈ wsX5_init) ∧ (Cond.instanceMethod objectInit ∈ wsX5_init) ∧ (Cond.code objectInit ⟨#[0xb1]⟩ 1 none ∈ wsX5_init) := ⟨by decide +kernel, by decide +kernel, List.mem_of_getElem? (i := 3) rfl⟩
theorem df_X9 : ∀ j, j < 1 → defaultValue (tyX9 j) = vp_V [.null] j := fun j hj => by rcases (show j = 0 by omega) with rfl <;> rfl
theorem nw_X5_init_7 : (Cond.classLink RX5 7 RX9 ∈ wsX5_init) ∧ (Cond.instantiable RX9 1 ∈ wsX5_init) ∧ (Cond.initialized RX9 ∈ wsX5_init) := by decide +kernel
theorem in_X5_init_X9 : ∀ w ∈ u_ws RX9 TX9 1, w ∈ wsX5_init := by decide +kernel
theorem ii_X5_init_X9_init : (Cond.initialized yX9_init.cls ∈ wsX5_init) ∧ (Cond.instanceMethod yX9_init ∈ wsX5_init) := by decide +kernel
theorem in_X5_init_X5 : ∀ w ∈ u_ws RX5 TX5 5, w ∈ wsX5_init := by decide +kernel
theorem fl_X5_init_10 : Cond.fieldLink RX5 10 (TX5 0).1 (TX5 0).2.1 (TX5 0).2.2.1 ∈ wsX5_init := by decide +kernel
theorem fl_X5_init_16 : Cond.fieldLink RX5 16 (TX5 1).1 (TX5 1).2.1 (TX5 1).2.2.1 ∈ wsX5_init := by decide +kernel
theorem fl_X5_init_19 : Cond.fieldLink RX5 19 (TX5 4).1 (TX5 4).2.1 (TX5 4).2.2.1 ∈ wsX5_init := by decide +kernel
set_option maxHeartbeats 4000000 in
set_option maxRecDepth 100000 in
theorem c_X5_init (l : Launch) (G : jG) (o : Nat) : Cf l yX5_init wsX5_init rm_X5_init G [.ref o] [(o, .inr (5, [.null, .null, .int 0, .long 0, .null]))] (S := Nat → Nat) (fun r _ => r = none) (fun u => [(o, .inr (5, [.ref (u 1), .ref (u 3), .int 0, .long 0, .ref (u 5)]))]) (fun u => [((u 1), .inr (8, [.ref (u 2)])), ((u 2), aJ G 8 (dg 0)), ((u 3), .inr (8, [.ref (u 4)])), ((u 4), aJ G 8 (dg 0)), ((u 5), .inr (8, [.ref (u 6)])), ((u 6), aJ G 8 (dg 0))]) := by
  refine cf_intro (cc := cX5_init) (maxL := 1) (ret := none) (by decide) rfl (Nat.le_of_ble_eq_true rfl) (fun _ => by simp only [List.map_cons, List.map_nil]) ?_
  intro p e s m args below meth c Q A X XF hr hin E
  change J p l e rm_X5_init s m args below meth c Q G A 1 0 0 0 [(0, .ref o)] [] [(o, .inr (5, [.null, .null, .int 0, .long 0, .null]))]
  refine j_aload_n X dX5_init_0 rfl 0 rfl ?_
  refine j_objI X dX5_init_1 oi_X5_init.1 oi_X5_init.2.1 oi_X5_init.2.2 (Nat.le_of_ble_eq_true rfl) (Nat.le_of_ble_eq_true rfl) ?_
  refine j_aload_n X dX5_init_4 rfl 0 rfl ?_
  refine j_new (ci := 8) (fs := [.null]) X dX5_init_5 in_X5_init_X9 tyX9 tyX9_ok nw_X5_init_7.1 nw_X5_init_7.2.1 nw_X5_init_7.2.2 rfl df_X9 (Nat.le_of_ble_eq_true rfl) (Nat.le_of_ble_eq_true rfl) (fun q_1 => ?_)
  change J p l e rm_X5_init s m args below meth c Q G A 1 1 1 8 [(0, .ref o)] [.ref q_1, .ref o] [(o, .inr (5, [.null, .null, .int 0, .long 0, .null])), (q_1, .inr (8, [.null]))]
  refine j_dup X dX5_init_8 rfl ?_
  refine j_callIN (host := RX10) X XF dX5_init_9 (c_X9_init l G q_1) gX5_init_X9_init_n9 rfl (by decide +kernel) ii_X5_init_X9_init.1 ii_X5_init_X9_init.2 rfl hi_X9_init ⟨Nat.le_of_ble_eq_true rfl, Nat.le_of_ble_eq_true rfl⟩ [1] rfl (by decide) rfl (Nat.le_of_ble_eq_true rfl) ⟨Nat.le_of_ble_eq_true rfl, Nat.le_of_ble_eq_true rfl⟩ ?_
  rintro _ a_2 rfl
  change J p l e rm_X5_init s m args below meth c Q G A 1 2 9 12 [(0, .ref o)] [.ref q_1, .ref o] [(o, .inr (5, [.null, .null, .int 0, .long 0, .null])), (q_1, .inr (8, [.ref a_2])), (a_2, aJ G 8 (dg 0))]
  refine j_putF (ws' := [(o, .inr (5, [.ref q_1, .null, .int 0, .long 0, .null])), (q_1, .inr (8, [.ref a_2])), (a_2, aJ G 8 (dg 0))]) X hin dX5_init_12 0 rfl 0 rfl in_X5_init_X5 tyX5 tyX5_ok nmX5 (by decide) fl_X5_init_10 rfl rfl rfl rfl rfl (Nat.le_of_ble_eq_true rfl) rfl ?_
  refine j_aload_n X dX5_init_15 rfl 0 rfl ?_
  refine j_new (ci := 8) (fs := [.null]) X dX5_init_16 in_X5_init_X9 tyX9 tyX9_ok nw_X5_init_7.1 nw_X5_init_7.2.1 nw_X5_init_7.2.2 rfl df_X9 (Nat.le_of_ble_eq_true rfl) (Nat.le_of_ble_eq_true rfl) (fun q_3 => ?_)
  change J p l e rm_X5_init s m args below meth c Q G A 1 3 10 19 [(0, .ref o)] [.ref q_3, .ref o] [(o, .inr (5, [.ref q_1, .null, .int 0, .long 0, .null])), (q_1, .inr (8, [.ref a_2])), (a_2, aJ G 8 (dg 0)), (q_3, .inr (8, [.null]))]
  refine j_dup X dX5_init_19 rfl ?_
  refine j_callIN (host := RX10) X XF dX5_init_20 (c_X9_init l G q_3) gX5_init_X9_init_n9 rfl (by decide +kernel) ii_X5_init_X9_init.1 ii_X5_init_X9_init.2 rfl hi_X9_init ⟨Nat.le_of_ble_eq_true rfl, Nat.le_of_ble_eq_true rfl⟩ [3] rfl (by decide) rfl (Nat.le_of_ble_eq_true rfl) ⟨Nat.le_of_ble_eq_true rfl, Nat.le_of_ble_eq_true rfl⟩ ?_
  rintro _ a_4 rfl
  change J p l e rm_X5_init s m args below meth c Q G A 1 4 18 23 [(0, .ref o)] [.ref q_3, .ref o] [(o, .inr (5, [.ref q_1, .null, .int 0, .long 0, .null])), (q_1, .inr (8, [.ref a_2])), (a_2, aJ G 8 (dg 0)), (q_3, .inr (8, [.ref a_4])), (a_4, aJ G 8 (dg 0))]
  refine j_putF (ws' := [(o, .inr (5, [.ref q_1, .ref q_3, .int 0, .long 0, .null])), (q_1, .inr (8, [.ref a_2])), (a_2, aJ G 8 (dg 0)), (q_3, .inr (8, [.ref a_4])), (a_4, aJ G 8 (dg 0))]) X hin dX5_init_23 0 rfl 1 rfl in_X5_init_X5 tyX5 tyX5_ok nmX5 (by decide) fl_X5_init_16 rfl rfl rfl rfl rfl (Nat.le_of_ble_eq_true rfl) rfl ?_
  refine j_aload_n X dX5_init_26 rfl 0 rfl ?_
  refine j_new (ci := 8) (fs := [.null]) X dX5_init_27 in_X5_init_X9 tyX9 tyX9_ok nw_X5_init_7.1 nw_X5_init_7.2.1 nw_X5_init_7.2.2 rfl df_X9 (Nat.le_of_ble_eq_true rfl) (Nat.le_of_ble_eq_true rfl) (fun q_5 => ?_)
  change J p l e rm_X5_init s m args below meth c Q G A 1 5 19 30 [(0, .ref o)] [.ref q_5, .ref o] [(o, .inr (5, [.ref q_1, .ref q_3, .int 0, .long 0, .null])), (q_1, .inr (8, [.ref a_2])), (a_2, aJ G 8 (dg 0)), (q_3, .inr (8, [.ref a_4])), (a_4, aJ G 8 (dg 0)), (q_5, .inr (8, [.null]))]
  refine j_dup X dX5_init_30 rfl ?_
  refine j_callIN (host := RX10) X XF dX5_init_31 (c_X9_init l G q_5) gX5_init_X9_init_n9 rfl (by decide +kernel) ii_X5_init_X9_init.1 ii_X5_init_X9_init.2 rfl hi_X9_init ⟨Nat.le_of_ble_eq_true rfl, Nat.le_of_ble_eq_true rfl⟩ [5] rfl (by decide) rfl (Nat.le_of_ble_eq_true rfl) ⟨Nat.le_of_ble_eq_true rfl, Nat.le_of_ble_eq_true rfl⟩ ?_
  rintro _ a_6 rfl
  change J p l e rm_X5_init s m args below meth c Q G A 1 6 27 34 [(0, .ref o)] [.ref q_5, .ref o] [(o, .inr (5, [.ref q_1, .ref q_3, .int 0, .long 0, .null])), (q_1, .inr (8, [.ref a_2])), (a_2, aJ G 8 (dg 0)), (q_3, .inr (8, [.ref a_4])), (a_4, aJ G 8 (dg 0)), (q_5, .inr (8, [.ref a_6])), (a_6, aJ G 8 (dg 0))]
  refine j_putF (ws' := [(o, .inr (5, [.ref q_1, .ref q_3, .int 0, .long 0, .ref q_5])), (q_1, .inr (8, [.ref a_2])), (a_2, aJ G 8 (dg 0)), (q_3, .inr (8, [.ref a_4])), (a_4, aJ G 8 (dg 0)), (q_5, .inr (8, [.ref a_6])), (a_6, aJ G 8 (dg 0))]) X hin dX5_init_34 0 rfl 4 rfl in_X5_init_X5 tyX5 tyX5_ok nmX5 (by decide) fl_X5_init_19 rfl rfl rfl rfl rfl (Nat.le_of_ble_eq_true rfl) rfl ?_
  exact E.1 37 _ (fun k => List.getD [0, q_1, a_2, q_3, a_4, q_5, a_6] k 0) dX5_init_37 rfl hr

theorem hi_X5_init : yX5_init.cls ≠ "java/lang/invoke/MethodHandle" ∧ yX5_init.cls ≠ "java/lang/invoke/VarHandle" ∧ (parseMethodDescriptor yX5_init.desc).map (fun d => d.parameters.length) = some 0 := by decide +kernel
abbrev rm_X3_init : Room := { frames := 3, cells := 14, slots := 64, locals := 60 }
theorem oi_X3_init : (Cond.methodLink RX3 1 objectInit ∈ wsX3_init) ∧ (Cond.instanceMethod objectInit ∈ wsX3_init) ∧ (Cond.code objectInit ⟨#[0xb1]⟩ 1 none ∈ wsX3_init) := ⟨by decide +kernel, by decide +kernel, List.mem_of_getElem? (i := 3) rfl⟩
theorem df_X5 : ∀ j, j < 5 → defaultValue (tyX5 j) = vp_V [.null, .null, .int 0, .long 0, .null] j := fun j hj => by rcases (show j = 0 ∨ j = 1 ∨ j = 2 ∨ j = 3 ∨ j = 4 by omega) with rfl | rfl | rfl | rfl | rfl <;> rfl
theorem nw_X3_init_7 : (Cond.classLink RX3 7 RX5 ∈ wsX3_init) ∧ (Cond.instantiable RX5 5 ∈ wsX3_init) ∧ (Cond.initialized RX5 ∈ wsX3_init) := by decide +kernel
theorem in_X3_init_X5 : ∀ w ∈ u_ws RX5 TX5 5, w ∈ wsX3_init := by decide +kernel
theorem ii_X3_init_X5_init : (Cond.initialized yX5_init.cls ∈ wsX3_init) ∧ (Cond.instanceMethod yX5_init ∈ wsX3_init) := by decide +kernel
theorem in_X3_init_X3 : ∀ w ∈ u_ws RX3 TX3 2, w ∈ wsX3_init := by decide +kernel
theorem fl_X3_init_10 : Cond.fieldLink RX3 10 (TX3 0).1 (TX3 0).2.1 (TX3 0).2.2.1 ∈ wsX3_init := by decide +kernel
theorem fl_X3_init_16 : Cond.fieldLink RX3 16 (TX3 1).1 (TX3 1).2.1 (TX3 1).2.2.1 ∈ wsX3_init := by decide +kernel
set_option maxHeartbeats 4000000 in
set_option maxRecDepth 100000 in
theorem c_X3_init (l : Launch) (G : jG) (o : Nat) : Cf l yX3_init wsX3_init rm_X3_init G [.ref o] [(o, .inr (3, [.null, .null]))] (S := Nat → Nat) (fun r _ => r = none) (fun u => [(o, .inr (3, [.ref (u 1), .ref (u 8)]))]) (fun u => [((u 1), .inr (5, [.ref (u 2), .ref (u 4), .int 0, .long 0, .ref (u 6)])), ((u 2), .inr (8, [.ref (u 3)])), ((u 3), aJ G 8 (dg 0)), ((u 4), .inr (8, [.ref (u 5)])), ((u 5), aJ G 8 (dg 0)), ((u 6), .inr (8, [.ref (u 7)])), ((u 7), aJ G 8 (dg 0)), ((u 8), .inr (5, [.ref (u 9), .ref (u 11), .int 0, .long 0, .ref (u 13)])), ((u 9), .inr (8, [.ref (u 10)])), ((u 10), aJ G 8 (dg 0)), ((u 11), .inr (8, [.ref (u 12)])), ((u 12), aJ G 8 (dg 0)), ((u 13), .inr (8, [.ref (u 14)])), ((u 14), aJ G 8 (dg 0))]) := by
  refine cf_intro (cc := cX3_init) (maxL := 1) (ret := none) (by decide) rfl (Nat.le_of_ble_eq_true rfl) (fun _ => by simp only [List.map_cons, List.map_nil]) ?_
  intro p e s m args below meth c Q A X XF hr hin E
  change J p l e rm_X3_init s m args below meth c Q G A 1 0 0 0 [(0, .ref o)] [] [(o, .inr (3, [.null, .null]))]
  refine j_aload_n X dX3_init_0 rfl 0 rfl ?_
  refine j_objI X dX3_init_1 oi_X3_init.1 oi_X3_init.2.1 oi_X3_init.2.2 (Nat.le_of_ble_eq_true rfl) (Nat.le_of_ble_eq_true rfl) ?_
  refine j_aload_n X dX3_init_4 rfl 0 rfl ?_
  refine j_new (ci := 5) (fs := [.null, .null, .int 0, .long 0, .null]) X dX3_init_5 in_X3_init_X5 tyX5 tyX5_ok nw_X3_init_7.1 nw_X3_init_7.2.1 nw_X3_init_7.2.2 rfl df_X5 (Nat.le_of_ble_eq_true rfl) (Nat.le_of_ble_eq_true rfl) (fun q_1 => ?_)
  change J p l e rm_X3_init s m args below meth c Q G A 1 1 5 8 [(0, .ref o)] [.ref q_1, .ref o] [(o, .inr (3, [.null, .null])), (q_1, .inr (5, [.null, .null, .int 0, .long 0, .null]))]
  refine j_dup X dX3_init_8 rfl ?_
  refine j_callIN (host := RX10) X XF dX3_init_9 (c_X5_init l G q_1) gX3_init_X5_init_n9 rfl (by decide +kernel) ii_X3_init_X5_init.1 ii_X3_init_X5_init.2 rfl hi_X5_init ⟨Nat.le_of_ble_eq_true rfl, Nat.le_of_ble_eq_true rfl⟩ [1] rfl (by decide) rfl (Nat.le_of_ble_eq_true rfl) ⟨Nat.le_of_ble_eq_true rfl, Nat.le_of_ble_eq_true rfl⟩ ?_
  rintro _ u_2 rfl
  change J p l e rm_X3_init s m args below meth c Q G A 1 7 32 12 [(0, .ref o)] [.ref q_1, .ref o] [(o, .inr (3, [.null, .null])), (q_1, .inr (5, [.ref (u_2 1), .ref (u_2 3), .int 0, .long 0, .ref (u_2 5)])), ((u_2 1), .inr (8, [.ref (u_2 2)])), ((u_2 2), aJ G 8 (dg 0)), ((u_2 3), .inr (8, [.ref (u_2 4)])), ((u_2 4), aJ G 8 (dg 0)), ((u_2 5), .inr (8, [.ref (u_2 6)])), ((u_2 6), aJ G 8 (dg 0))]
  refine j_putF (ws' := [(o, .inr (3, [.ref q_1, .null])), (q_1, .inr (5, [.ref (u_2 1), .ref (u_2 3), .int 0, .long 0, .ref (u_2 5)])), ((u_2 1), .inr (8, [.ref (u_2 2)])), ((u_2 2), aJ G 8 (dg 0)), ((u_2 3), .inr (8, [.ref (u_2 4)])), ((u_2 4), aJ G 8 (dg 0)), ((u_2 5), .inr (8, [.ref (u_2 6)])), ((u_2 6), aJ G 8 (dg 0))]) X hin dX3_init_12 0 rfl 0 rfl in_X3_init_X3 tyX3 tyX3_ok nmX3 (by decide) fl_X3_init_10 rfl rfl rfl rfl rfl (Nat.le_of_ble_eq_true rfl) rfl ?_
  refine j_aload_n X dX3_init_15 rfl 0 rfl ?_
  refine j_new (ci := 5) (fs := [.null, .null, .int 0, .long 0, .null]) X dX3_init_16 in_X3_init_X5 tyX5 tyX5_ok nw_X3_init_7.1 nw_X3_init_7.2.1 nw_X3_init_7.2.2 rfl df_X5 (Nat.le_of_ble_eq_true rfl) (Nat.le_of_ble_eq_true rfl) (fun q_3 => ?_)
  change J p l e rm_X3_init s m args below meth c Q G A 1 8 37 19 [(0, .ref o)] [.ref q_3, .ref o] [(o, .inr (3, [.ref q_1, .null])), (q_1, .inr (5, [.ref (u_2 1), .ref (u_2 3), .int 0, .long 0, .ref (u_2 5)])), ((u_2 1), .inr (8, [.ref (u_2 2)])), ((u_2 2), aJ G 8 (dg 0)), ((u_2 3), .inr (8, [.ref (u_2 4)])), ((u_2 4), aJ G 8 (dg 0)), ((u_2 5), .inr (8, [.ref (u_2 6)])), ((u_2 6), aJ G 8 (dg 0)), (q_3, .inr (5, [.null, .null, .int 0, .long 0, .null]))]
  refine j_dup X dX3_init_19 rfl ?_
  refine j_callIN (host := RX10) X XF dX3_init_20 (c_X5_init l G q_3) gX3_init_X5_init_n9 rfl (by decide +kernel) ii_X3_init_X5_init.1 ii_X3_init_X5_init.2 rfl hi_X5_init ⟨Nat.le_of_ble_eq_true rfl, Nat.le_of_ble_eq_true rfl⟩ [8] rfl (by decide) rfl (Nat.le_of_ble_eq_true rfl) ⟨Nat.le_of_ble_eq_true rfl, Nat.le_of_ble_eq_true rfl⟩ ?_
  rintro _ u_4 rfl
  change J p l e rm_X3_init s m args below meth c Q G A 1 14 64 23 [(0, .ref o)] [.ref q_3, .ref o] [(o, .inr (3, [.ref q_1, .null])), (q_1, .inr (5, [.ref (u_2 1), .ref (u_2 3), .int 0, .long 0, .ref (u_2 5)])), ((u_2 1), .inr (8, [.ref (u_2 2)])), ((u_2 2), aJ G 8 (dg 0)), ((u_2 3), .inr (8, [.ref (u_2 4)])), ((u_2 4), aJ G 8 (dg 0)), ((u_2 5), .inr (8, [.ref (u_2 6)])), ((u_2 6), aJ G 8 (dg 0)), (q_3, .inr (5, [.ref (u_4 1), .ref (u_4 3), .int 0, .long 0, .ref (u_4 5)])), ((u_4 1), .inr (8, [.ref (u_4 2)])), ((u_4 2), aJ G 8 (dg 0)), ((u_4 3), .inr (8, [.ref (u_4 4)])), ((u_4 4), aJ G 8 (dg 0)), ((u_4 5), .inr (8, [.ref (u_4 6)])), ((u_4 6), aJ G 8 (dg 0))]
  refine j_putF (ws' := [(o, .inr (3, [.ref q_1, .ref q_3])), (q_1, .inr (5, [.ref (u_2 1), .ref (u_2 3), .int 0, .long 0, .ref (u_2 5)])), ((u_2 1), .inr (8, [.ref (u_2 2)])), ((u_2 2), aJ G 8 (dg 0)), ((u_2 3), .inr (8, [.ref (u_2 4)])), ((u_2 4), aJ G 8 (dg 0)), ((u_2 5), .inr (8, [.ref (u_2 6)])), ((u_2 6), aJ G 8 (dg 0)), (q_3, .inr (5, [.ref (u_4 1), .ref (u_4 3), .int 0, .long 0, .ref (u_4 5)])), ((u_4 1), .inr (8, [.ref (u_4 2)])), ((u_4 2), aJ G 8 (dg 0)), ((u_4 3), .inr (8, [.ref (u_4 4)])), ((u_4 4), aJ G 8 (dg 0)), ((u_4 5), .inr (8, [.ref (u_4 6)])), ((u_4 6), aJ G 8 (dg 0))]) X hin dX3_init_23 0 rfl 1 rfl in_X3_init_X3 tyX3 tyX3_ok nmX3 (by decide) fl_X3_init_16 rfl rfl rfl rfl rfl (Nat.le_of_ble_eq_true rfl) rfl ?_
  exact E.1 26 _ (fun k => List.getD [0, q_1, (u_2 1), (u_2 2), (u_2 3), (u_2 4), (u_2 5), (u_2 6), q_3, (u_4 1), (u_4 2), (u_4 3), (u_4 4), (u_4 5), (u_4 6)] k 0) dX3_init_26 rfl hr

theorem hi_X3_init : yX3_init.cls ≠ "java/lang/invoke/MethodHandle" ∧ yX3_init.cls ≠ "java/lang/invoke/VarHandle" ∧ (parseMethodDescriptor yX3_init.desc).map (fun d => d.parameters.length) = some 0 := by decide +kernel
abbrev rm_X6_init : Room := { frames := 3, cells := 13, slots := 59, locals := 60 }
theorem oi_X6_init : (Cond.methodLink RX6 3 objectInit ∈ wsX6_init) ∧ (Cond.instanceMethod objectInit ∈ wsX6_init) ∧ (Cond.code objectInit ⟨#[0xb1]⟩ 1 none ∈ wsX6_init) := ⟨by decide +kernel, by decide +kernel, List.mem_of_getElem? (i := 3) rfl⟩
theorem nw_X6_init_9 : (Cond.classLink RX6 9 RX9 ∈ wsX6_init) ∧ (Cond.instantiable RX9 1 ∈ wsX6_init) ∧ (Cond.initialized RX9 ∈ wsX6_init) := by decide +kernel
theorem in_X6_init_X9 : ∀ w ∈ u_ws RX9 TX9 1, w ∈ wsX6_init := by decide +kernel
theorem ii_X6_init_X9_init : (Cond.initialized yX9_init.cls ∈ wsX6_init) ∧ (Cond.instanceMethod yX9_init ∈ wsX6_init) := by decide +kernel
theorem in_X6_init_X6 : ∀ w ∈ u_ws RX6 TX6 4, w ∈ wsX6_init := by decide +kernel
theorem fl_X6_init_12 : Cond.fieldLink RX6 12 (TX6 0).1 (TX6 0).2.1 (TX6 0).2.2.1 ∈ wsX6_init := by decide +kernel
theorem fl_X6_init_18 : Cond.fieldLink RX6 18 (TX6 1).1 (TX6 1).2.1 (TX6 1).2.2.1 ∈ wsX6_init := by decide +kernel
theorem nw_X6_init_21 : (Cond.classLink RX6 21 RX5 ∈ wsX6_init) ∧ (Cond.instantiable RX5 5 ∈ wsX6_init) ∧ (Cond.initialized RX5 ∈ wsX6_init) := by decide +kernel
theorem in_X6_init_X5 : ∀ w ∈ u_ws RX5 TX5 5, w ∈ wsX6_init := by decide +kernel
theorem ii_X6_init_X5_init : (Cond.initialized yX5_init.cls ∈ wsX6_init) ∧ (Cond.instanceMethod yX5_init ∈ wsX6_init) := by decide +kernel
theorem fl_X6_init_24 : Cond.fieldLink RX6 24 (TX6 2).1 (TX6 2).2.1 (TX6 2).2.2.1 ∈ wsX6_init := by decide +kernel
theorem fl_X6_init_28 : Cond.fieldLink RX6 28 (TX6 3).1 (TX6 3).2.1 (TX6 3).2.2.1 ∈ wsX6_init := by decide +kernel
set_option maxHeartbeats 4000000 in
set_option maxRecDepth 100000 in
theorem c_X6_init (l : Launch) (G : jG) (o : Nat) : Cf l yX6_init wsX6_init rm_X6_init G [.ref o] [(o, .inr (6, [.null, .null, .null, .null]))] (S := Nat → Nat) (fun r _ => r = none) (fun u => [(o, .inr (6, [.ref (u 1), .ref (u 3), .ref (u 5), .ref (u 12)]))]) (fun u => [((u 1), .inr (8, [.ref (u 2)])), ((u 2), aJ G 8 (dg 0)), ((u 3), .inr (8, [.ref (u 4)])), ((u 4), aJ G 8 (dg 0)), ((u 5), .inr (5, [.ref (u 6), .ref (u 8), .int 0, .long 0, .ref (u 10)])), ((u 6), .inr (8, [.ref (u 7)])), ((u 7), aJ G 8 (dg 0)), ((u 8), .inr (8, [.ref (u 9)])), ((u 9), aJ G 8 (dg 0)), ((u 10), .inr (8, [.ref (u 11)])), ((u 11), aJ G 8 (dg 0)), ((u 12), .inr (8, [.ref (u 13)])), ((u 13), aJ G 8 (dg 0))]) := by
  refine cf_intro (cc := cX6_init) (maxL := 1) (ret := none) (by decide) rfl (Nat.le_of_ble_eq_true rfl) (fun _ => by simp only [List.map_cons, List.map_nil]) ?_
  intro p e s m args below meth c Q A X XF hr hin E
  change J p l e rm_X6_init s m args below meth c Q G A 1 0 0 0 [(0, .ref o)] [] [(o, .inr (6, [.null, .null, .null, .null]))]
  refine j_aload_n X dX6_init_0 rfl 0 rfl ?_
  refine j_objI X dX6_init_1 oi_X6_init.1 oi_X6_init.2.1 oi_X6_init.2.2 (Nat.le_of_ble_eq_true rfl) (Nat.le_of_ble_eq_true rfl) ?_
  refine j_aload_n X dX6_init_4 rfl 0 rfl ?_
  refine j_new (ci := 8) (fs := [.null]) X dX6_init_5 in_X6_init_X9 tyX9 tyX9_ok nw_X6_init_9.1 nw_X6_init_9.2.1 nw_X6_init_9.2.2 rfl df_X9 (Nat.le_of_ble_eq_true rfl) (Nat.le_of_ble_eq_true rfl) (fun q_1 => ?_)
  change J p l e rm_X6_init s m args below meth c Q G A 1 1 1 8 [(0, .ref o)] [.ref q_1, .ref o] [(o, .inr (6, [.null, .null, .null, .null])), (q_1, .inr (8, [.null]))]
  refine j_dup X dX6_init_8 rfl ?_
  refine j_callIN (host := RX10) X XF dX6_init_9 (c_X9_init l G q_1) gX6_init_X9_init_n11 rfl (by decide +kernel) ii_X6_init_X9_init.1 ii_X6_init_X9_init.2 rfl hi_X9_init ⟨Nat.le_of_ble_eq_true rfl, Nat.le_of_ble_eq_true rfl⟩ [1] rfl (by decide) rfl (Nat.le_of_ble_eq_true rfl) ⟨Nat.le_of_ble_eq_true rfl, Nat.le_of_ble_eq_true rfl⟩ ?_
  rintro _ a_2 rfl
  change J p l e rm_X6_init s m args below meth c Q G A 1 2 9 12 [(0, .ref o)] [.ref q_1, .ref o] [(o, .inr (6, [.null, .null, .null, .null])), (q_1, .inr (8, [.ref a_2])), (a_2, aJ G 8 (dg 0))]
  refine j_putF (ws' := [(o, .inr (6, [.ref q_1, .null, .null, .null])), (q_1, .inr (8, [.ref a_2])), (a_2, aJ G 8 (dg 0))]) X hin dX6_init_12 0 rfl 0 rfl in_X6_init_X6 tyX6 tyX6_ok nmX6 (by decide) fl_X6_init_12 rfl rfl rfl rfl rfl (Nat.le_of_ble_eq_true rfl) rfl ?_
  refine j_aload_n X dX6_init_15 rfl 0 rfl ?_
  refine j_new (ci := 8) (fs := [.null]) X dX6_init_16 in_X6_init_X9 tyX9 tyX9_ok nw_X6_init_9.1 nw_X6_init_9.2.1 nw_X6_init_9.2.2 rfl df_X9 (Nat.le_of_ble_eq_true rfl) (Nat.le_of_ble_eq_true rfl) (fun q_3 => ?_)
  change J p l e rm_X6_init s m args below meth c Q G A 1 3 10 19 [(0, .ref o)] [.ref q_3, .ref o] [(o, .inr (6, [.ref q_1, .null, .null, .null])), (q_1, .inr (8, [.ref a_2])), (a_2, aJ G 8 (dg 0)), (q_3, .inr (8, [.null]))]
  refine j_dup X dX6_init_19 rfl ?_
  refine j_callIN (host := RX10) X XF dX6_init_20 (c_X9_init l G q_3) gX6_init_X9_init_n11 rfl (by decide +kernel) ii_X6_init_X9_init.1 ii_X6_init_X9_init.2 rfl hi_X9_init ⟨Nat.le_of_ble_eq_true rfl, Nat.le_of_ble_eq_true rfl⟩ [3] rfl (by decide) rfl (Nat.le_of_ble_eq_true rfl) ⟨Nat.le_of_ble_eq_true rfl, Nat.le_of_ble_eq_true rfl⟩ ?_
  rintro _ a_4 rfl
  change J p l e rm_X6_init s m args below meth c Q G A 1 4 18 23 [(0, .ref o)] [.ref q_3, .ref o] [(o, .inr (6, [.ref q_1, .null, .null, .null])), (q_1, .inr (8, [.ref a_2])), (a_2, aJ G 8 (dg 0)), (q_3, .inr (8, [.ref a_4])), (a_4, aJ G 8 (dg 0))]
  refine j_putF (ws' := [(o, .inr (6, [.ref q_1, .ref q_3, .null, .null])), (q_1, .inr (8, [.ref a_2])), (a_2, aJ G 8 (dg 0)), (q_3, .inr (8, [.ref a_4])), (a_4, aJ G 8 (dg 0))]) X hin dX6_init_23 0 rfl 1 rfl in_X6_init_X6 tyX6 tyX6_ok nmX6 (by decide) fl_X6_init_18 rfl rfl rfl rfl rfl (Nat.le_of_ble_eq_true rfl) rfl ?_
  refine j_aload_n X dX6_init_26 rfl 0 rfl ?_
  refine j_new (ci := 5) (fs := [.null, .null, .int 0, .long 0, .null]) X dX6_init_27 in_X6_init_X5 tyX5 tyX5_ok nw_X6_init_21.1 nw_X6_init_21.2.1 nw_X6_init_21.2.2 rfl df_X5 (Nat.le_of_ble_eq_true rfl) (Nat.le_of_ble_eq_true rfl) (fun q_5 => ?_)
  change J p l e rm_X6_init s m args below meth c Q G A 1 5 23 30 [(0, .ref o)] [.ref q_5, .ref o] [(o, .inr (6, [.ref q_1, .ref q_3, .null, .null])), (q_1, .inr (8, [.ref a_2])), (a_2, aJ G 8 (dg 0)), (q_3, .inr (8, [.ref a_4])), (a_4, aJ G 8 (dg 0)), (q_5, .inr (5, [.null, .null, .int 0, .long 0, .null]))]
  refine j_dup X dX6_init_30 rfl ?_
  refine j_callIN (host := RX10) X XF dX6_init_31 (c_X5_init l G q_5) gX6_init_X5_init_n23 rfl (by decide +kernel) ii_X6_init_X5_init.1 ii_X6_init_X5_init.2 rfl hi_X5_init ⟨Nat.le_of_ble_eq_true rfl, Nat.le_of_ble_eq_true rfl⟩ [5] rfl (by decide) rfl (Nat.le_of_ble_eq_true rfl) ⟨Nat.le_of_ble_eq_true rfl, Nat.le_of_ble_eq_true rfl⟩ ?_
  rintro _ u_6 rfl
  change J p l e rm_X6_init s m args below meth c Q G A 1 11 50 34 [(0, .ref o)] [.ref q_5, .ref o] [(o, .inr (6, [.ref q_1, .ref q_3, .null, .null])), (q_1, .inr (8, [.ref a_2])), (a_2, aJ G 8 (dg 0)), (q_3, .inr (8, [.ref a_4])), (a_4, aJ G 8 (dg 0)), (q_5, .inr (5, [.ref (u_6 1), .ref (u_6 3), .int 0, .long 0, .ref (u_6 5)])), ((u_6 1), .inr (8, [.ref (u_6 2)])), ((u_6 2), aJ G 8 (dg 0)), ((u_6 3), .inr (8, [.ref (u_6 4)])), ((u_6 4), aJ G 8 (dg 0)), ((u_6 5), .inr (8, [.ref (u_6 6)])), ((u_6 6), aJ G 8 (dg 0))]
  refine j_putF (ws' := [(o, .inr (6, [.ref q_1, .ref q_3, .ref q_5, .null])), (q_1, .inr (8, [.ref a_2])), (a_2, aJ G 8 (dg 0)), (q_3, .inr (8, [.ref a_4])), (a_4, aJ G 8 (dg 0)), (q_5, .inr (5, [.ref (u_6 1), .ref (u_6 3), .int 0, .long 0, .ref (u_6 5)])), ((u_6 1), .inr (8, [.ref (u_6 2)])), ((u_6 2), aJ G 8 (dg 0)), ((u_6 3), .inr (8, [.ref (u_6 4)])), ((u_6 4), aJ G 8 (dg 0)), ((u_6 5), .inr (8, [.ref (u_6 6)])), ((u_6 6), aJ G 8 (dg 0))]) X hin dX6_init_34 0 rfl 2 rfl in_X6_init_X6 tyX6 tyX6_ok nmX6 (by decide) fl_X6_init_24 rfl rfl rfl rfl rfl (Nat.le_of_ble_eq_true rfl) rfl ?_
  refine j_aload_n X dX6_init_37 rfl 0 rfl ?_
  refine j_new (ci := 8) (fs := [.null]) X dX6_init_38 in_X6_init_X9 tyX9 tyX9_ok nw_X6_init_9.1 nw_X6_init_9.2.1 nw_X6_init_9.2.2 rfl df_X9 (Nat.le_of_ble_eq_true rfl) (Nat.le_of_ble_eq_true rfl) (fun q_7 => ?_)
  change J p l e rm_X6_init s m args below meth c Q G A 1 12 51 41 [(0, .ref o)] [.ref q_7, .ref o] [(o, .inr (6, [.ref q_1, .ref q_3, .ref q_5, .null])), (q_1, .inr (8, [.ref a_2])), (a_2, aJ G 8 (dg 0)), (q_3, .inr (8, [.ref a_4])), (a_4, aJ G 8 (dg 0)), (q_5, .inr (5, [.ref (u_6 1), .ref (u_6 3), .int 0, .long 0, .ref (u_6 5)])), ((u_6 1), .inr (8, [.ref (u_6 2)])), ((u_6 2), aJ G 8 (dg 0)), ((u_6 3), .inr (8, [.ref (u_6 4)])), ((u_6 4), aJ G 8 (dg 0)), ((u_6 5), .inr (8, [.ref (u_6 6)])), ((u_6 6), aJ G 8 (dg 0)), (q_7, .inr (8, [.null]))]
  refine j_dup X dX6_init_41 rfl ?_
  refine j_callIN (host := RX10) X XF dX6_init_42 (c_X9_init l G q_7) gX6_init_X9_init_n11 rfl (by decide +kernel) ii_X6_init_X9_init.1 ii_X6_init_X9_init.2 rfl hi_X9_init ⟨Nat.le_of_ble_eq_true rfl, Nat.le_of_ble_eq_true rfl⟩ [12] rfl (by decide) rfl (Nat.le_of_ble_eq_true rfl) ⟨Nat.le_of_ble_eq_true rfl, Nat.le_of_ble_eq_true rfl⟩ ?_
  rintro _ a_8 rfl
  change J p l e rm_X6_init s m args below meth c Q G A 1 13 59 45 [(0, .ref o)] [.ref q_7, .ref o] [(o, .inr (6, [.ref q_1, .ref q_3, .ref q_5, .null])), (q_1, .inr (8, [.ref a_2])), (a_2, aJ G 8 (dg 0)), (q_3, .inr (8, [.ref a_4])), (a_4, aJ G 8 (dg 0)), (q_5, .inr (5, [.ref (u_6 1), .ref (u_6 3), .int 0, .long 0, .ref (u_6 5)])), ((u_6 1), .inr (8, [.ref (u_6 2)])), ((u_6 2), aJ G 8 (dg 0)), ((u_6 3), .inr (8, [.ref (u_6 4)])), ((u_6 4), aJ G 8 (dg 0)), ((u_6 5), .inr (8, [.ref (u_6 6)])), ((u_6 6), aJ G 8 (dg 0)), (q_7, .inr (8, [.ref a_8])), (a_8, aJ G 8 (dg 0))]
  refine j_putF (ws' := [(o, .inr (6, [.ref q_1, .ref q_3, .ref q_5, .ref q_7])), (q_1, .inr (8, [.ref a_2])), (a_2, aJ G 8 (dg 0)), (q_3, .inr (8, [.ref a_4])), (a_4, aJ G 8 (dg 0)), (q_5, .inr (5, [.ref (u_6 1), .ref (u_6 3), .int 0, .long 0, .ref (u_6 5)])), ((u_6 1), .inr (8, [.ref (u_6 2)])), ((u_6 2), aJ G 8 (dg 0)), ((u_6 3), .inr (8, [.ref (u_6 4)])), ((u_6 4), aJ G 8 (dg 0)), ((u_6 5), .inr (8, [.ref (u_6 6)])), ((u_6 6), aJ G 8 (dg 0)), (q_7, .inr (8, [.ref a_8])), (a_8, aJ G 8 (dg 0))]) X hin dX6_init_45 0 rfl 3 rfl in_X6_init_X6 tyX6 tyX6_ok nmX6 (by decide) fl_X6_init_28 rfl rfl rfl rfl rfl (Nat.le_of_ble_eq_true rfl) rfl ?_
  exact E.1 48 _ (fun k => List.getD [0, q_1, a_2, q_3, a_4, q_5, (u_6 1), (u_6 2), (u_6 3), (u_6 4), (u_6 5), (u_6 6), q_7, a_8] k 0) dX6_init_48 rfl hr

theorem hi_X6_init : yX6_init.cls ≠ "java/lang/invoke/MethodHandle" ∧ yX6_init.cls ≠ "java/lang/invoke/VarHandle" ∧ (parseMethodDescriptor yX6_init.desc).map (fun d => d.parameters.length) = some 0 := by decide +kernel
abbrev rm_X4_init : Room := { frames := 2, cells := 2, slots := 9, locals := 40 }
theorem oi_X4_init : (Cond.methodLink RX4 1 objectInit ∈ wsX4_init) ∧ (Cond.instanceMethod objectInit ∈ wsX4_init) ∧ (Cond.code objectInit ⟨#[0xb1]⟩ 1 none ∈ wsX4_init) := ⟨by decide +kernel, by decide +kernel, List.mem_of_getElem? (i := 3) rfl⟩
theorem nw_X4_init_7 : (Cond.classLink RX4 7 RX9 ∈ wsX4_init) ∧ (Cond.instantiable RX9 1 ∈ wsX4_init) ∧ (Cond.initialized RX9 ∈ wsX4_init) := by decide +kernel
theorem in_X4_init_X9 : ∀ w ∈ u_ws RX9 TX9 1, w ∈ wsX4_init := by decide +kernel
theorem ii_X4_init_X9_init : (Cond.initialized yX9_init.cls ∈ wsX4_init) ∧ (Cond.instanceMethod yX9_init ∈ wsX4_init) := by decide +kernel
theorem in_X4_init_X4 : ∀ w ∈ u_ws RX4 TX4 6, w ∈ wsX4_init := by decide +kernel
theorem fl_X4_init_10 : Cond.fieldLink RX4 10 (TX4 5).1 (TX4 5).2.1 (TX4 5).2.2.1 ∈ wsX4_init := by decide +kernel
set_option maxHeartbeats 4000000 in
set_option maxRecDepth 100000 in
theorem c_X4_init (l : Launch) (G : jG) (o : Nat) : Cf l yX4_init wsX4_init rm_X4_init G [.ref o] [(o, .inr (4, [.int 0, .long 0, .long 0, .long 0, .long 0, .null]))] (S := Nat → Nat) (fun r _ => r = none) (fun u => [(o, .inr (4, [.int 0, .long 0, .long 0, .long 0, .long 0, .ref (u 1)]))]) (fun u => [((u 1), .inr (8, [.ref (u 2)])), ((u 2), aJ G 8 (dg 0))]) := by
  refine cf_intro (cc := cX4_init) (maxL := 1) (ret := none) (by decide) rfl (Nat.le_of_ble_eq_true rfl) (fun _ => by simp only [List.map_cons, List.map_nil]) ?_
  intro p e s m args below meth c Q A X XF hr hin E
  change J p l e rm_X4_init s m args below meth c Q G A 1 0 0 0 [(0, .ref o)] [] [(o, .inr (4, [.int 0, .long 0, .long 0, .long 0, .long 0, .null]))]
  refine j_aload_n X dX4_init_0 rfl 0 rfl ?_
  refine j_objI X dX4_init_1 oi_X4_init.1 oi_X4_init.2.1 oi_X4_init.2.2 (Nat.le_of_ble_eq_true rfl) (Nat.le_of_ble_eq_true rfl) ?_
  refine j_aload_n X dX4_init_4 rfl 0 rfl ?_
  refine j_new (ci := 8) (fs := [.null]) X dX4_init_5 in_X4_init_X9 tyX9 tyX9_ok nw_X4_init_7.1 nw_X4_init_7.2.1 nw_X4_init_7.2.2 rfl df_X9 (Nat.le_of_ble_eq_true rfl) (Nat.le_of_ble_eq_true rfl) (fun q_1 => ?_)
  change J p l e rm_X4_init s m args below meth c Q G A 1 1 1 8 [(0, .ref o)] [.ref q_1, .ref o] [(o, .inr (4, [.int 0, .long 0, .long 0, .long 0, .long 0, .null])), (q_1, .inr (8, [.null]))]
  refine j_dup X dX4_init_8 rfl ?_
  refine j_callIN (host := RX10) X XF dX4_init_9 (c_X9_init l G q_1) gX4_init_X9_init_n9 rfl (by decide +kernel) ii_X4_init_X9_init.1 ii_X4_init_X9_init.2 rfl hi_X9_init ⟨Nat.le_of_ble_eq_true rfl, Nat.le_of_ble_eq_true rfl⟩ [1] rfl (by decide) rfl (Nat.le_of_ble_eq_true rfl) ⟨Nat.le_of_ble_eq_true rfl, Nat.le_of_ble_eq_true rfl⟩ ?_
  rintro _ a_2 rfl
  change J p l e rm_X4_init s m args below meth c Q G A 1 2 9 12 [(0, .ref o)] [.ref q_1, .ref o] [(o, .inr (4, [.int 0, .long 0, .long 0, .long 0, .long 0, .null])), (q_1, .inr (8, [.ref a_2])), (a_2, aJ G 8 (dg 0))]
  refine j_putF (ws' := [(o, .inr (4, [.int 0, .long 0, .long 0, .long 0, .long 0, .ref q_1])), (q_1, .inr (8, [.ref a_2])), (a_2, aJ G 8 (dg 0))]) X hin dX4_init_12 0 rfl 5 rfl in_X4_init_X4 tyX4 tyX4_ok nmX4 (by decide) fl_X4_init_10 rfl rfl rfl rfl rfl (Nat.le_of_ble_eq_true rfl) rfl ?_
  exact E.1 15 _ (fun k => List.getD [0, q_1, a_2] k 0) dX4_init_15 rfl hr

theorem hi_X4_init : yX4_init.cls ≠ "java/lang/invoke/MethodHandle" ∧ yX4_init.cls ≠ "java/lang/invoke/VarHandle" ∧ (parseMethodDescriptor yX4_init.desc).map (fun d => d.parameters.length) = some 0 := by decide +kernel
abbrev rm_X2_init : Room := { frames := 2, cells := 16, slots := 72, locals := 40 }
theorem oi_X2_init : (Cond.methodLink RX2 1 objectInit ∈ wsX2_init) ∧ (Cond.instanceMethod objectInit ∈ wsX2_init) ∧ (Cond.code objectInit ⟨#[0xb1]⟩ 1 none ∈ wsX2_init) := ⟨by decide +kernel, by decide +kernel, List.mem_of_getElem? (i := 3) rfl⟩
theorem nw_X2_init_7 : (Cond.classLink RX2 7 RX9 ∈ wsX2_init) ∧ (Cond.instantiable RX9 1 ∈ wsX2_init) ∧ (Cond.initialized RX9 ∈ wsX2_init) := by decide +kernel
theorem in_X2_init_X9 : ∀ w ∈ u_ws RX9 TX9 1, w ∈ wsX2_init := by decide +kernel
theorem ii_X2_init_X9_init : (Cond.initialized yX9_init.cls ∈ wsX2_init) ∧ (Cond.instanceMethod yX9_init ∈ wsX2_init) := by decide +kernel
theorem in_X2_init_X2 : ∀ w ∈ u_ws RX2 TX2 10, w ∈ wsX2_init := by decide +kernel
theorem fl_X2_init_10 : Cond.fieldLink RX2 10 (TX2 0).1 (TX2 0).2.1 (TX2 0).2.2.1 ∈ wsX2_init := by decide +kernel
theorem fl_X2_init_16 : Cond.fieldLink RX2 16 (TX2 1).1 (TX2 1).2.1 (TX2 1).2.2.1 ∈ wsX2_init := by decide +kernel
theorem fl_X2_init_19 : Cond.fieldLink RX2 19 (TX2 2).1 (TX2 2).2.1 (TX2 2).2.2.1 ∈ wsX2_init := by decide +kernel
theorem fl_X2_init_22 : Cond.fieldLink RX2 22 (TX2 3).1 (TX2 3).2.1 (TX2 3).2.2.1 ∈ wsX2_init := by decide +kernel
theorem fl_X2_init_25 : Cond.fieldLink RX2 25 (TX2 4).1 (TX2 4).2.1 (TX2 4).2.2.1 ∈ wsX2_init := by decide +kernel
theorem fl_X2_init_28 : Cond.fieldLink RX2 28 (TX2 5).1 (TX2 5).2.1 (TX2 5).2.2.1 ∈ wsX2_init := by decide +kernel
theorem fl_X2_init_31 : Cond.fieldLink RX2 31 (TX2 6).1 (TX2 6).2.1 (TX2 6).2.2.1 ∈ wsX2_init := by decide +kernel
theorem fl_X2_init_34 : Cond.fieldLink RX2 34 (TX2 7).1 (TX2 7).2.1 (TX2 7).2.2.1 ∈ wsX2_init := by decide +kernel
set_option maxHeartbeats 4000000 in
set_option maxRecDepth 100000 in
theorem c_X2_init (l : Launch) (G : jG) (o : Nat) : Cf l yX2_init wsX2_init rm_X2_init G [.ref o] [(o, .inr (2, [.null, .null, .null, .null, .null, .null, .null, .null, .null, .null]))] (S := Nat → Nat) (fun r _ => r = none) (fun u => [(o, .inr (2, [.ref (u 1), .ref (u 3), .ref (u 5), .ref (u 7), .ref (u 9), .ref (u 11), .ref (u 13), .ref (u 15), .null, .null]))]) (fun u => [((u 1), .inr (8, [.ref (u 2)])), ((u 2), aJ G 8 (dg 0)), ((u 3), .inr (8, [.ref (u 4)])), ((u 4), aJ G 8 (dg 0)), ((u 5), .inr (8, [.ref (u 6)])), ((u 6), aJ G 8 (dg 0)), ((u 7), .inr (8, [.ref (u 8)])), ((u 8), aJ G 8 (dg 0)), ((u 9), .inr (8, [.ref (u 10)])), ((u 10), aJ G 8 (dg 0)), ((u 11), .inr (8, [.ref (u 12)])), ((u 12), aJ G 8 (dg 0)), ((u 13), .inr (8, [.ref (u 14)])), ((u 14), aJ G 8 (dg 0)), ((u 15), .inr (8, [.ref (u 16)])), ((u 16), aJ G 8 (dg 0))]) := by
  refine cf_intro (cc := cX2_init) (maxL := 1) (ret := none) (by decide) rfl (Nat.le_of_ble_eq_true rfl) (fun _ => by simp only [List.map_cons, List.map_nil]) ?_
  intro p e s m args below meth c Q A X XF hr hin E
  change J p l e rm_X2_init s m args below meth c Q G A 1 0 0 0 [(0, .ref o)] [] [(o, .inr (2, [.null, .null, .null, .null, .null, .null, .null, .null, .null, .null]))]
  refine j_aload_n X dX2_init_0 rfl 0 rfl ?_
  refine j_objI X dX2_init_1 oi_X2_init.1 oi_X2_init.2.1 oi_X2_init.2.2 (Nat.le_of_ble_eq_true rfl) (Nat.le_of_ble_eq_true rfl) ?_
  refine j_aload_n X dX2_init_4 rfl 0 rfl ?_
  refine j_new (ci := 8) (fs := [.null]) X dX2_init_5 in_X2_init_X9 tyX9 tyX9_ok nw_X2_init_7.1 nw_X2_init_7.2.1 nw_X2_init_7.2.2 rfl df_X9 (Nat.le_of_ble_eq_true rfl) (Nat.le_of_ble_eq_true rfl) (fun q_1 => ?_)
  change J p l e rm_X2_init s m args below meth c Q G A 1 1 1 8 [(0, .ref o)] [.ref q_1, .ref o] [(o, .inr (2, [.null, .null, .null, .null, .null, .null, .null, .null, .null, .null])), (q_1, .inr (8, [.null]))]
  refine j_dup X dX2_init_8 rfl ?_
  refine j_callIN (host := RX10) X XF dX2_init_9 (c_X9_init l G q_1) gX2_init_X9_init_n9 rfl (by decide +kernel) ii_X2_init_X9_init.1 ii_X2_init_X9_init.2 rfl hi_X9_init ⟨Nat.le_of_ble_eq_true rfl, Nat.le_of_ble_eq_true rfl⟩ [1] rfl (by decide) rfl (Nat.le_of_ble_eq_true rfl) ⟨Nat.le_of_ble_eq_true rfl, Nat.le_of_ble_eq_true rfl⟩ ?_
  rintro _ a_2 rfl
  change J p l e rm_X2_init s m args below meth c Q G A 1 2 9 12 [(0, .ref o)] [.ref q_1, .ref o] [(o, .inr (2, [.null, .null, .null, .null, .null, .null, .null, .null, .null, .null])), (q_1, .inr (8, [.ref a_2])), (a_2, aJ G 8 (dg 0))]
  refine j_putF (ws' := [(o, .inr (2, [.ref q_1, .null, .null, .null, .null, .null, .null, .null, .null, .null])), (q_1, .inr (8, [.ref a_2])), (a_2, aJ G 8 (dg 0))]) X hin dX2_init_12 0 rfl 0 rfl in_X2_init_X2 tyX2 tyX2_ok nmX2 (by decide) fl_X2_init_10 rfl rfl rfl rfl rfl (Nat.le_of_ble_eq_true rfl) rfl ?_
  refine j_aload_n X dX2_init_15 rfl 0 rfl ?_
  refine j_new (ci := 8) (fs := [.null]) X dX2_init_16 in_X2_init_X9 tyX9 tyX9_ok nw_X2_init_7.1 nw_X2_init_7.2.1 nw_X2_init_7.2.2 rfl df_X9 (Nat.le_of_ble_eq_true rfl) (Nat.le_of_ble_eq_true rfl) (fun q_3 => ?_)
  change J p l e rm_X2_init s m args below meth c Q G A 1 3 10 19 [(0, .ref o)] [.ref q_3, .ref o] [(o, .inr (2, [.ref q_1, .null, .null, .null, .null, .null, .null, .null, .null, .null])), (q_1, .inr (8, [.ref a_2])), (a_2, aJ G 8 (dg 0)), (q_3, .inr (8, [.null]))]
  refine j_dup X dX2_init_19 rfl ?_
  refine j_callIN (host := RX10) X XF dX2_init_20 (c_X9_init l G q_3) gX2_init_X9_init_n9 rfl (by decide +kernel) ii_X2_init_X9_init.1 ii_X2_init_X9_init.2 rfl hi_X9_init ⟨Nat.le_of_ble_eq_true rfl, Nat.le_of_ble_eq_true rfl⟩ [3] rfl (by decide) rfl (Nat.le_of_ble_eq_true rfl) ⟨Nat.le_of_ble_eq_true rfl, Nat.le_of_ble_eq_true rfl⟩ ?_
  rintro _ a_4 rfl
  change J p l e rm_X2_init s m args below meth c Q G A 1 4 18 23 [(0, .ref o)] [.ref q_3, .ref o] [(o, .inr (2, [.ref q_1, .null, .null, .null, .null, .null, .null, .null, .null, .null])), (q_1, .inr (8, [.ref a_2])), (a_2, aJ G 8 (dg 0)), (q_3, .inr (8, [.ref a_4])), (a_4, aJ G 8 (dg 0))]
  refine j_putF (ws' := [(o, .inr (2, [.ref q_1, .ref q_3, .null, .null, .null, .null, .null, .null, .null, .null])), (q_1, .inr (8, [.ref a_2])), (a_2, aJ G 8 (dg 0)), (q_3, .inr (8, [.ref a_4])), (a_4, aJ G 8 (dg 0))]) X hin dX2_init_23 0 rfl 1 rfl in_X2_init_X2 tyX2 tyX2_ok nmX2 (by decide) fl_X2_init_16 rfl rfl rfl rfl rfl (Nat.le_of_ble_eq_true rfl) rfl ?_
  refine j_aload_n X dX2_init_26 rfl 0 rfl ?_
  refine j_new (ci := 8) (fs := [.null]) X dX2_init_27 in_X2_init_X9 tyX9 tyX9_ok nw_X2_init_7.1 nw_X2_init_7.2.1 nw_X2_init_7.2.2 rfl df_X9 (Nat.le_of_ble_eq_true rfl) (Nat.le_of_ble_eq_true rfl) (fun q_5 => ?_)
  change J p l e rm_X2_init s m args below meth c Q G A 1 5 19 30 [(0, .ref o)] [.ref q_5, .ref o] [(o, .inr (2, [.ref q_1, .ref q_3, .null, .null, .null, .null, .null, .null, .null, .null])), (q_1, .inr (8, [.ref a_2])), (a_2, aJ G 8 (dg 0)), (q_3, .inr (8, [.ref a_4])), (a_4, aJ G 8 (dg 0)), (q_5, .inr (8, [.null]))]
  refine j_dup X dX2_init_30 rfl ?_
  refine j_callIN (host := RX10) X XF dX2_init_31 (c_X9_init l G q_5) gX2_init_X9_init_n9 rfl (by decide +kernel) ii_X2_init_X9_init.1 ii_X2_init_X9_init.2 rfl hi_X9_init ⟨Nat.le_of_ble_eq_true rfl, Nat.le_of_ble_eq_true rfl⟩ [5] rfl (by decide) rfl (Nat.le_of_ble_eq_true rfl) ⟨Nat.le_of_ble_eq_true rfl, Nat.le_of_ble_eq_true rfl⟩ ?_
  rintro _ a_6 rfl
  change J p l e rm_X2_init s m args below meth c Q G A 1 6 27 34 [(0, .ref o)] [.ref q_5, .ref o] [(o, .inr (2, [.ref q_1, .ref q_3, .null, .null, .null, .null, .null, .null, .null, .null])), (q_1, .inr (8, [.ref a_2])), (a_2, aJ G 8 (dg 0)), (q_3, .inr (8, [.ref a_4])), (a_4, aJ G 8 (dg 0)), (q_5, .inr (8, [.ref a_6])), (a_6, aJ G 8 (dg 0))]
  refine j_putF (ws' := [(o, .inr (2, [.ref q_1, .ref q_3, .ref q_5, .null, .null, .null, .null, .null, .null, .null])), (q_1, .inr (8, [.ref a_2])), (a_2, aJ G 8 (dg 0)), (q_3, .inr (8, [.ref a_4])), (a_4, aJ G 8 (dg 0)), (q_5, .inr (8, [.ref a_6])), (a_6, aJ G 8 (dg 0))]) X hin dX2_init_34 0 rfl 2 rfl in_X2_init_X2 tyX2 tyX2_ok nmX2 (by decide) fl_X2_init_19 rfl rfl rfl rfl rfl (Nat.le_of_ble_eq_true rfl) rfl ?_
  refine j_aload_n X dX2_init_37 rfl 0 rfl ?_
  refine j_new (ci := 8) (fs := [.null]) X dX2_init_38 in_X2_init_X9 tyX9 tyX9_ok nw_X2_init_7.1 nw_X2_init_7.2.1 nw_X2_init_7.2.2 rfl df_X9 (Nat.le_of_ble_eq_true rfl) (Nat.le_of_ble_eq_true rfl) (fun q_7 => ?_)
  change J p l e rm_X2_init s m args below meth c Q G A 1 7 28 41 [(0, .ref o)] [.ref q_7, .ref o] [(o, .inr (2, [.ref q_1, .ref q_3, .ref q_5, .null, .null, .null, .null, .null, .null, .null])), (q_1, .inr (8, [.ref a_2])), (a_2, aJ G 8 (dg 0)), (q_3, .inr (8, [.ref a_4])), (a_4, aJ G 8 (dg 0)), (q_5, .inr (8, [.ref a_6])), (a_6, aJ G 8 (dg 0)), (q_7, .inr (8, [.null]))]
  refine j_dup X dX2_init_41 rfl ?_
  refine j_callIN (host := RX10) X XF dX2_init_42 (c_X9_init l G q_7) gX2_init_X9_init_n9 rfl (by decide +kernel) ii_X2_init_X9_init.1 ii_X2_init_X9_init.2 rfl hi_X9_init ⟨Nat.le_of_ble_eq_true rfl, Nat.le_of_ble_eq_true rfl⟩ [7] rfl (by decide) rfl (Nat.le_of_ble_eq_true rfl) ⟨Nat.le_of_ble_eq_true rfl, Nat.le_of_ble_eq_true rfl⟩ ?_
  rintro _ a_8 rfl
  change J p l e rm_X2_init s m args below meth c Q G A 1 8 36 45 [(0, .ref o)] [.ref q_7, .ref o] [(o, .inr (2, [.ref q_1, .ref q_3, .ref q_5, .null, .null, .null, .null, .null, .null, .null])), (q_1, .inr (8, [.ref a_2])), (a_2, aJ G 8 (dg 0)), (q_3, .inr (8, [.ref a_4])), (a_4, aJ G 8 (dg 0)), (q_5, .inr (8, [.ref a_6])), (a_6, aJ G 8 (dg 0)), (q_7, .inr (8, [.ref a_8])), (a_8, aJ G 8 (dg 0))]
  refine j_putF (ws' := [(o, .inr (2, [.ref q_1, .ref q_3, .ref q_5, .ref q_7, .null, .null, .null, .null, .null, .null])), (q_1, .inr (8, [.ref a_2])), (a_2, aJ G 8 (dg 0)), (q_3, .inr (8, [.ref a_4])), (a_4, aJ G 8 (dg 0)), (q_5, .inr (8, [.ref a_6])), (a_6, aJ G 8 (dg 0)), (q_7, .inr (8, [.ref a_8])), (a_8, aJ G 8 (dg 0))]) X hin dX2_init_45 0 rfl 3 rfl in_X2_init_X2 tyX2 tyX2_ok nmX2 (by decide) fl_X2_init_22 rfl rfl rfl rfl rfl (Nat.le_of_ble_eq_true rfl) rfl ?_
  refine j_aload_n X dX2_init_48 rfl 0 rfl ?_
  refine j_new (ci := 8) (fs := [.null]) X dX2_init_49 in_X2_init_X9 tyX9 tyX9_ok nw_X2_init_7.1 nw_X2_init_7.2.1 nw_X2_init_7.2.2 rfl df_X9 (Nat.le_of_ble_eq_true rfl) (Nat.le_of_ble_eq_true rfl) (fun q_9 => ?_)
  change J p l e rm_X2_init s m args below meth c Q G A 1 9 37 52 [(0, .ref o)] [.ref q_9, .ref o] [(o, .inr (2, [.ref q_1, .ref q_3, .ref q_5, .ref q_7, .null, .null, .null, .null, .null, .null])), (q_1, .inr (8, [.ref a_2])), (a_2, aJ G 8 (dg 0)), (q_3, .inr (8, [.ref a_4])), (a_4, aJ G 8 (dg 0)), (q_5, .inr (8, [.ref a_6])), (a_6, aJ G 8 (dg 0)), (q_7, .inr (8, [.ref a_8])), (a_8, aJ G 8 (dg 0)), (q_9, .inr (8, [.null]))]
  refine j_dup X dX2_init_52 rfl ?_
  refine j_callIN (host := RX10) X XF dX2_init_53 (c_X9_init l G q_9) gX2_init_X9_init_n9 rfl (by decide +kernel) ii_X2_init_X9_init.1 ii_X2_init_X9_init.2 rfl hi_X9_init ⟨Nat.le_of_ble_eq_true rfl, Nat.le_of_ble_eq_true rfl⟩ [9] rfl (by decide) rfl (Nat.le_of_ble_eq_true rfl) ⟨Nat.le_of_ble_eq_true rfl, Nat.le_of_ble_eq_true rfl⟩ ?_
  rintro _ a_10 rfl
  change J p l e rm_X2_init s m args below meth c Q G A 1 10 45 56 [(0, .ref o)] [.ref q_9, .ref o] [(o, .inr (2, [.ref q_1, .ref q_3, .ref q_5, .ref q_7, .null, .null, .null, .null, .null, .null])), (q_1, .inr (8, [.ref a_2])), (a_2, aJ G 8 (dg 0)), (q_3, .inr (8, [.ref a_4])), (a_4, aJ G 8 (dg 0)), (q_5, .inr (8, [.ref a_6])), (a_6, aJ G 8 (dg 0)), (q_7, .inr (8, [.ref a_8])), (a_8, aJ G 8 (dg 0)), (q_9, .inr (8, [.ref a_10])), (a_10, aJ G 8 (dg 0))]
  refine j_putF (ws' := [(o, .inr (2, [.ref q_1, .ref q_3, .ref q_5, .ref q_7, .ref q_9, .null, .null, .null, .null, .null])), (q_1, .inr (8, [.ref a_2])), (a_2, aJ G 8 (dg 0)), (q_3, .inr (8, [.ref a_4])), (a_4, aJ G 8 (dg 0)), (q_5, .inr (8, [.ref a_6])), (a_6, aJ G 8 (dg 0)), (q_7, .inr (8, [.ref a_8])), (a_8, aJ G 8 (dg 0)), (q_9, .inr (8, [.ref a_10])), (a_10, aJ G 8 (dg 0))]) X hin dX2_init_56 0 rfl 4 rfl in_X2_init_X2 tyX2 tyX2_ok nmX2 (by decide) fl_X2_init_25 rfl rfl rfl rfl rfl (Nat.le_of_ble_eq_true rfl) rfl ?_
  refine j_aload_n X dX2_init_59 rfl 0 rfl ?_
  refine j_new (ci := 8) (fs := [.null]) X dX2_init_60 in_X2_init_X9 tyX9 tyX9_ok nw_X2_init_7.1 nw_X2_init_7.2.1 nw_X2_init_7.2.2 rfl df_X9 (Nat.le_of_ble_eq_true rfl) (Nat.le_of_ble_eq_true rfl) (fun q_11 => ?_)
  change J p l e rm_X2_init s m args below meth c Q G A 1 11 46 63 [(0, .ref o)] [.ref q_11, .ref o] [(o, .inr (2, [.ref q_1, .ref q_3, .ref q_5, .ref q_7, .ref q_9, .null, .null, .null, .null, .null])), (q_1, .inr (8, [.ref a_2])), (a_2, aJ G 8 (dg 0)), (q_3, .inr (8, [.ref a_4])), (a_4, aJ G 8 (dg 0)), (q_5, .inr (8, [.ref a_6])), (a_6, aJ G 8 (dg 0)), (q_7, .inr (8, [.ref a_8])), (a_8, aJ G 8 (dg 0)), (q_9, .inr (8, [.ref a_10])), (a_10, aJ G 8 (dg 0)), (q_11, .inr (8, [.null]))]
  refine j_dup X dX2_init_63 rfl ?_
  refine j_callIN (host := RX10) X XF dX2_init_64 (c_X9_init l G q_11) gX2_init_X9_init_n9 rfl (by decide +kernel) ii_X2_init_X9_init.1 ii_X2_init_X9_init.2 rfl hi_X9_init ⟨Nat.le_of_ble_eq_true rfl, Nat.le_of_ble_eq_true rfl⟩ [11] rfl (by decide) rfl (Nat.le_of_ble_eq_true rfl) ⟨Nat.le_of_ble_eq_true rfl, Nat.le_of_ble_eq_true rfl⟩ ?_
  rintro _ a_12 rfl
  change J p l e rm_X2_init s m args below meth c Q G A 1 12 54 67 [(0, .ref o)] [.ref q_11, .ref o] [(o, .inr (2, [.ref q_1, .ref q_3, .ref q_5, .ref q_7, .ref q_9, .null, .null, .null, .null, .null])), (q_1, .inr (8, [.ref a_2])), (a_2, aJ G 8 (dg 0)), (q_3, .inr (8, [.ref a_4])), (a_4, aJ G 8 (dg 0)), (q_5, .inr (8, [.ref a_6])), (a_6, aJ G 8 (dg 0)), (q_7, .inr (8, [.ref a_8])), (a_8, aJ G 8 (dg 0)), (q_9, .inr (8, [.ref a_10])), (a_10, aJ G 8 (dg 0)), (q_11, .inr (8, [.ref a_12])), (a_12, aJ G 8 (dg 0))]
  refine j_putF (ws' := [(o, .inr (2, [.ref q_1, .ref q_3, .ref q_5, .ref q_7, .ref q_9, .ref q_11, .null, .null, .null, .null])), (q_1, .inr (8, [.ref a_2])), (a_2, aJ G 8 (dg 0)), (q_3, .inr (8, [.ref a_4])), (a_4, aJ G 8 (dg 0)), (q_5, .inr (8, [.ref a_6])), (a_6, aJ G 8 (dg 0)), (q_7, .inr (8, [.ref a_8])), (a_8, aJ G 8 (dg 0)), (q_9, .inr (8, [.ref a_10])), (a_10, aJ G 8 (dg 0)), (q_11, .inr (8, [.ref a_12])), (a_12, aJ G 8 (dg 0))]) X hin dX2_init_67 0 rfl 5 rfl in_X2_init_X2 tyX2 tyX2_ok nmX2 (by decide) fl_X2_init_28 rfl rfl rfl rfl rfl (Nat.le_of_ble_eq_true rfl) rfl ?_
  refine j_aload_n X dX2_init_70 rfl 0 rfl ?_
  refine j_new (ci := 8) (fs := [.null]) X dX2_init_71 in_X2_init_X9 tyX9 tyX9_ok nw_X2_init_7.1 nw_X2_init_7.2.1 nw_X2_init_7.2.2 rfl df_X9 (Nat.le_of_ble_eq_true rfl) (Nat.le_of_ble_eq_true rfl) (fun q_13 => ?_)
  change J p l e rm_X2_init s m args below meth c Q G A 1 13 55 74 [(0, .ref o)] [.ref q_13, .ref o] [(o, .inr (2, [.ref q_1, .ref q_3, .ref q_5, .ref q_7, .ref q_9, .ref q_11, .null, .null, .null, .null])), (q_1, .inr (8, [.ref a_2])), (a_2, aJ G 8 (dg 0)), (q_3, .inr (8, [.ref a_4])), (a_4, aJ G 8 (dg 0)), (q_5, .inr (8, [.ref a_6])), (a_6, aJ G 8 (dg 0)), (q_7, .inr (8, [.ref a_8])), (a_8, aJ G 8 (dg 0)), (q_9, .inr (8, [.ref a_10])), (a_10, aJ G 8 (dg 0)), (q_11, .inr (8, [.ref a_12])), (a_12, aJ G 8 (dg 0)), (q_13, .inr (8, [.null]))]
  refine j_dup X dX2_init_74 rfl ?_
  refine j_callIN (host := RX10) X XF dX2_init_75 (c_X9_init l G q_13) gX2_init_X9_init_n9 rfl (by decide +kernel) ii_X2_init_X9_init.1 ii_X2_init_X9_init.2 rfl hi_X9_init ⟨Nat.le_of_ble_eq_true rfl, Nat.le_of_ble_eq_true rfl⟩ [13] rfl (by decide) rfl (Nat.le_of_ble_eq_true rfl) ⟨Nat.le_of_ble_eq_true rfl, Nat.le_of_ble_eq_true rfl⟩ ?_
  rintro _ a_14 rfl
  change J p l e rm_X2_init s m args below meth c Q G A 1 14 63 78 [(0, .ref o)] [.ref q_13, .ref o] [(o, .inr (2, [.ref q_1, .ref q_3, .ref q_5, .ref q_7, .ref q_9, .ref q_11, .null, .null, .null, .null])), (q_1, .inr (8, [.ref a_2])), (a_2, aJ G 8 (dg 0)), (q_3, .inr (8, [.ref a_4])), (a_4, aJ G 8 (dg 0)), (q_5, .inr (8, [.ref a_6])), (a_6, aJ G 8 (dg 0)), (q_7, .inr (8, [.ref a_8])), (a_8, aJ G 8 (dg 0)), (q_9, .inr (8, [.ref a_10])), (a_10, aJ G 8 (dg 0)), (q_11, .inr (8, [.ref a_12])), (a_12, aJ G 8 (dg 0)), (q_13, .inr (8, [.ref a_14])), (a_14, aJ G 8 (dg 0))]
  refine j_putF (ws' := [(o, .inr (2, [.ref q_1, .ref q_3, .ref q_5, .ref q_7, .ref q_9, .ref q_11, .ref q_13, .null, .null, .null])), (q_1, .inr (8, [.ref a_2])), (a_2, aJ G 8 (dg 0)), (q_3, .inr (8, [.ref a_4])), (a_4, aJ G 8 (dg 0)), (q_5, .inr (8, [.ref a_6])), (a_6, aJ G 8 (dg 0)), (q_7, .inr (8, [.ref a_8])), (a_8, aJ G 8 (dg 0)), (q_9, .inr (8, [.ref a_10])), (a_10, aJ G 8 (dg 0)), (q_11, .inr (8, [.ref a_12])), (a_12, aJ G 8 (dg 0)), (q_13, .inr (8, [.ref a_14])), (a_14, aJ G 8 (dg 0))]) X hin dX2_init_78 0 rfl 6 rfl in_X2_init_X2 tyX2 tyX2_ok nmX2 (by decide) fl_X2_init_31 rfl rfl rfl rfl rfl (Nat.le_of_ble_eq_true rfl) rfl ?_
  refine j_aload_n X dX2_init_81 rfl 0 rfl ?_
  refine j_new (ci := 8) (fs := [.null]) X dX2_init_82 in_X2_init_X9 tyX9 tyX9_ok nw_X2_init_7.1 nw_X2_init_7.2.1 nw_X2_init_7.2.2 rfl df_X9 (Nat.le_of_ble_eq_true rfl) (Nat.le_of_ble_eq_true rfl) (fun q_15 => ?_)
  change J p l e rm_X2_init s m args below meth c Q G A 1 15 64 85 [(0, .ref o)] [.ref q_15, .ref o] [(o, .inr (2, [.ref q_1, .ref q_3, .ref q_5, .ref q_7, .ref q_9, .ref q_11, .ref q_13, .null, .null, .null])), (q_1, .inr (8, [.ref a_2])), (a_2, aJ G 8 (dg 0)), (q_3, .inr (8, [.ref a_4])), (a_4, aJ G 8 (dg 0)), (q_5, .inr (8, [.ref a_6])), (a_6, aJ G 8 (dg 0)), (q_7, .inr (8, [.ref a_8])), (a_8, aJ G 8 (dg 0)), (q_9, .inr (8, [.ref a_10])), (a_10, aJ G 8 (dg 0)), (q_11, .inr (8, [.ref a_12])), (a_12, aJ G 8 (dg 0)), (q_13, .inr (8, [.ref a_14])), (a_14, aJ G 8 (dg 0)), (q_15, .inr (8, [.null]))]
  refine j_dup X dX2_init_85 rfl ?_
  refine j_callIN (host := RX10) X XF dX2_init_86 (c_X9_init l G q_15) gX2_init_X9_init_n9 rfl (by decide +kernel) ii_X2_init_X9_init.1 ii_X2_init_X9_init.2 rfl hi_X9_init ⟨Nat.le_of_ble_eq_true rfl, Nat.le_of_ble_eq_true rfl⟩ [15] rfl (by decide) rfl (Nat.le_of_ble_eq_true rfl) ⟨Nat.le_of_ble_eq_true rfl, Nat.le_of_ble_eq_true rfl⟩ ?_
  rintro _ a_16 rfl
  change J p l e rm_X2_init s m args below meth c Q G A 1 16 72 89 [(0, .ref o)] [.ref q_15, .ref o] [(o, .inr (2, [.ref q_1, .ref q_3, .ref q_5, .ref q_7, .ref q_9, .ref q_11, .ref q_13, .null, .null, .null])), (q_1, .inr (8, [.ref a_2])), (a_2, aJ G 8 (dg 0)), (q_3, .inr (8, [.ref a_4])), (a_4, aJ G 8 (dg 0)), (q_5, .inr (8, [.ref a_6])), (a_6, aJ G 8 (dg 0)), (q_7, .inr (8, [.ref a_8])), (a_8, aJ G 8 (dg 0)), (q_9, .inr (8, [.ref a_10])), (a_10, aJ G 8 (dg 0)), (q_11, .inr (8, [.ref a_12])), (a_12, aJ G 8 (dg 0)), (q_13, .inr (8, [.ref a_14])), (a_14, aJ G 8 (dg 0)), (q_15, .inr (8, [.ref a_16])), (a_16, aJ G 8 (dg 0))]
  refine j_putF (ws' := [(o, .inr (2, [.ref q_1, .ref q_3, .ref q_5, .ref q_7, .ref q_9, .ref q_11, .ref q_13, .ref q_15, .null, .null])), (q_1, .inr (8, [.ref a_2])), (a_2, aJ G 8 (dg 0)), (q_3, .inr (8, [.ref a_4])), (a_4, aJ G 8 (dg 0)), (q_5, .inr (8, [.ref a_6])), (a_6, aJ G 8 (dg 0)), (q_7, .inr (8, [.ref a_8])), (a_8, aJ G 8 (dg 0)), (q_9, .inr (8, [.ref a_10])), (a_10, aJ G 8 (dg 0)), (q_11, .inr (8, [.ref a_12])), (a_12, aJ G 8 (dg 0)), (q_13, .inr (8, [.ref a_14])), (a_14, aJ G 8 (dg 0)), (q_15, .inr (8, [.ref a_16])), (a_16, aJ G 8 (dg 0))]) X hin dX2_init_89 0 rfl 7 rfl in_X2_init_X2 tyX2 tyX2_ok nmX2 (by decide) fl_X2_init_34 rfl rfl rfl rfl rfl (Nat.le_of_ble_eq_true rfl) rfl ?_
  exact E.1 92 _ (fun k => List.getD [0, q_1, a_2, q_3, a_4, q_5, a_6, q_7, a_8, q_9, a_10, q_11, a_12, q_13, a_14, q_15, a_16] k 0) dX2_init_92 rfl hr

theorem hi_X2_init : yX2_init.cls ≠ "java/lang/invoke/MethodHandle" ∧ yX2_init.cls ≠ "java/lang/invoke/VarHandle" ∧ (parseMethodDescriptor yX2_init.desc).map (fun d => d.parameters.length) = some 0 := by decide +kernel
