abbrev rm_X0_init : Room := { frames := 2, cells := 0, slots := 0, locals := 40 }
theorem ii_X0_init_X8_init : (Cond.initialized yX8_init.cls ∈ wsX0_init) ∧ (Cond.instanceMethod yX8_init ∈ wsX0_init) := by decide +kernel
theorem in_X0_init_X0 : ∀ w ∈ u_ws RX0 TX0 5, w ∈ wsX0_init := by decide +kernel
theorem fl_X0_init_7 : Cond.fieldLink RX0 7 (TX0 0).1 (TX0 0).2.1 (TX0 0).2.2.1 ∈ wsX0_init := by decide +kernel
theorem fl_X0_init_13 : Cond.fieldLink RX0 13 (TX0 1).1 (TX0 1).2.1 (TX0 1).2.2.1 ∈ wsX0_init := by decide +kernel
theorem fl_X0_init_16 : Cond.fieldLink RX0 16 (TX0 2).1 (TX0 2).2.1 (TX0 2).2.2.1 ∈ wsX0_init := by decide +kernel
theorem fl_X0_init_19 : Cond.fieldLink RX0 19 (TX0 3).1 (TX0 3).2.1 (TX0 3).2.2.1 ∈ wsX0_init := by decide +kernel
theorem fl_X0_init_23 : Cond.fieldLink RX0 23 (TX0 4).1 (TX0 4).2.1 (TX0 4).2.2.1 ∈ wsX0_init := by decide +kernel
set_option maxHeartbeats 4000000 in
set_option maxRecDepth 100000 in
theorem c_X0_init (l : Launch) (G : jG) (o : Nat) (cx cy r : Int64) (f t : Int32) : Cf l yX0_init wsX0_init rm_X0_init G [.ref o, .long cx, .long cy, .long r, .int f, .int t] [(o, .inr (0, [.long 0, .long 0, .long 0, .int 0, .int 0]))] (S := Unit) (fun r _ => r = none) (fun _ => [(o, .inr (0, [.long cx, .long cy, .long r, .int f, .int t]))]) (fun _ => []) := by
  refine cf_intro (cc := cX0_init) (maxL := 9) (ret := none) (by decide) rfl (Nat.le_of_ble_eq_true rfl) (fun _ => by simp only [List.map_cons, List.map_nil]) ?_
  intro p e s m args below meth c Q A X XF hr hin E
  change J p l e rm_X0_init s m args below meth c Q G A 9 0 0 0 [(0, .ref o), (1, .long cx), (3, .long cy), (5, .long r), (7, .int f), (8, .int t)] [] [(o, .inr (0, [.long 0, .long 0, .long 0, .int 0, .int 0]))]
  refine j_aload_n X dX0_init_0 rfl 0 rfl ?_
  refine j_callIN (host := RX10) X XF dX0_init_1 (c_X8_init l G o) gX0_init_X8_init_n1 rfl (by decide +kernel) ii_X0_init_X8_init.1 ii_X0_init_X8_init.2 rfl hi_X8_init ⟨Nat.le_of_ble_eq_true rfl, Nat.le_of_ble_eq_true rfl⟩ [] rfl (by decide) rfl (Nat.le_of_ble_eq_true rfl) ⟨Nat.le_of_ble_eq_true rfl, Nat.le_of_ble_eq_true rfl⟩ ?_
  rintro _ ⟨⟩ rfl
  change J p l e rm_X0_init s m args below meth c Q G A 9 0 0 4 [(0, .ref o), (1, .long cx), (3, .long cy), (5, .long r), (7, .int f), (8, .int t)] [] [(o, .inr (0, [.long 0, .long 0, .long 0, .int 0, .int 0]))]
  refine j_aload_n X dX0_init_4 rfl 0 rfl ?_
  refine j_lload_n X dX0_init_5 rfl 1 rfl ?_
  refine j_putF (ws' := [(o, .inr (0, [.long cx, .long 0, .long 0, .int 0, .int 0]))]) X hin dX0_init_6 0 rfl 0 rfl in_X0_init_X0 tyX0 tyX0_ok nmX0 (by decide) fl_X0_init_7 rfl rfl rfl rfl rfl (Nat.le_of_ble_eq_true rfl) rfl ?_
  refine j_aload_n X dX0_init_9 rfl 0 rfl ?_
  refine j_lload_n X dX0_init_10 rfl 2 rfl ?_
  refine j_putF (ws' := [(o, .inr (0, [.long cx, .long cy, .long 0, .int 0, .int 0]))]) X hin dX0_init_11 0 rfl 1 rfl in_X0_init_X0 tyX0 tyX0_ok nmX0 (by decide) fl_X0_init_13 rfl rfl rfl rfl rfl (Nat.le_of_ble_eq_true rfl) rfl ?_
  refine j_aload_n X dX0_init_14 rfl 0 rfl ?_
  refine j_lload X dX0_init_15 3 rfl ?_
  refine j_putF (ws' := [(o, .inr (0, [.long cx, .long cy, .long r, .int 0, .int 0]))]) X hin dX0_init_17 0 rfl 2 rfl in_X0_init_X0 tyX0 tyX0_ok nmX0 (by decide) fl_X0_init_16 rfl rfl rfl rfl rfl (Nat.le_of_ble_eq_true rfl) rfl ?_
  refine j_aload_n X dX0_init_20 rfl 0 rfl ?_
  refine j_iload X dX0_init_21 4 rfl ?_
  refine j_putF (ws' := [(o, .inr (0, [.long cx, .long cy, .long r, .int f, .int 0]))]) X hin dX0_init_23 0 rfl 3 rfl in_X0_init_X0 tyX0 tyX0_ok nmX0 (by decide) fl_X0_init_19 rfl rfl rfl rfl rfl (Nat.le_of_ble_eq_true rfl) rfl ?_
  refine j_aload_n X dX0_init_26 rfl 0 rfl ?_
  refine j_iload X dX0_init_27 5 rfl ?_
  refine j_putF (ws' := [(o, .inr (0, [.long cx, .long cy, .long r, .int f, .int t]))]) X hin dX0_init_29 0 rfl 4 rfl in_X0_init_X0 tyX0 tyX0_ok nmX0 (by decide) fl_X0_init_23 rfl rfl rfl rfl rfl (Nat.le_of_ble_eq_true rfl) rfl ?_
  exact E.1 32 _ () dX0_init_32 rfl hr

theorem hi_X0_init : yX0_init.cls ≠ "java/lang/invoke/MethodHandle" ∧ yX0_init.cls ≠ "java/lang/invoke/VarHandle" ∧ (parseMethodDescriptor yX0_init.desc).map (fun d => d.parameters.length) = some 5 := by decide +kernel
abbrev rm_X7_init : Room := { frames := 2, cells := 0, slots := 0, locals := 40 }
theorem ii_X7_init_X8_init : (Cond.initialized yX8_init.cls ∈ wsX7_init) ∧ (Cond.instanceMethod yX8_init ∈ wsX7_init) := by decide +kernel
theorem in_X7_init_X7 : ∀ w ∈ u_ws RX7 TX7 6, w ∈ wsX7_init := by decide +kernel
theorem fl_X7_init_7 : Cond.fieldLink RX7 7 (TX7 0).1 (TX7 0).2.1 (TX7 0).2.2.1 ∈ wsX7_init := by decide +kernel
theorem fl_X7_init_13 : Cond.fieldLink RX7 13 (TX7 1).1 (TX7 1).2.1 (TX7 1).2.2.1 ∈ wsX7_init := by decide +kernel
theorem fl_X7_init_16 : Cond.fieldLink RX7 16 (TX7 2).1 (TX7 2).2.1 (TX7 2).2.2.1 ∈ wsX7_init := by decide +kernel
theorem fl_X7_init_19 : Cond.fieldLink RX7 19 (TX7 3).1 (TX7 3).2.1 (TX7 3).2.2.1 ∈ wsX7_init := by decide +kernel
theorem fl_X7_init_22 : Cond.fieldLink RX7 22 (TX7 4).1 (TX7 4).2.1 (TX7 4).2.2.1 ∈ wsX7_init := by decide +kernel
theorem fl_X7_init_25 : Cond.fieldLink RX7 25 (TX7 5).1 (TX7 5).2.1 (TX7 5).2.2.1 ∈ wsX7_init := by decide +kernel
set_option maxHeartbeats 4000000 in
set_option maxRecDepth 100000 in
theorem c_X7_init (l : Launch) (G : jG) (o : Nat) (ax ay bx by1 dx dy : Int64) (hdx : dx = bx - ax) (hdy : dy = by1 - ay) : Cf l yX7_init wsX7_init rm_X7_init G [.ref o, .long ax, .long ay, .long bx, .long by1] [(o, .inr (7, [.long 0, .long 0, .long 0, .long 0, .long 0, .long 0]))] (S := Unit) (fun r _ => r = none) (fun _ => [(o, .inr (7, [.long ax, .long ay, .long bx, .long by1, .long dx, .long dy]))]) (fun _ => []) := by
  refine cf_intro (cc := cX7_init) (maxL := 9) (ret := none) (by decide) rfl (Nat.le_of_ble_eq_true rfl) (fun _ => by simp only [List.map_cons, List.map_nil]) ?_
  intro p e s m args below meth c Q A X XF hr hin E
  change J p l e rm_X7_init s m args below meth c Q G A 9 0 0 0 [(0, .ref o), (1, .long ax), (3, .long ay), (5, .long bx), (7, .long by1)] [] [(o, .inr (7, [.long 0, .long 0, .long 0, .long 0, .long 0, .long 0]))]
  refine j_aload_n X dX7_init_0 rfl 0 rfl ?_
  refine j_callIN (host := RX10) X XF dX7_init_1 (c_X8_init l G o) gX7_init_X8_init_n1 rfl (by decide +kernel) ii_X7_init_X8_init.1 ii_X7_init_X8_init.2 rfl hi_X8_init ⟨Nat.le_of_ble_eq_true rfl, Nat.le_of_ble_eq_true rfl⟩ [] rfl (by decide) rfl (Nat.le_of_ble_eq_true rfl) ⟨Nat.le_of_ble_eq_true rfl, Nat.le_of_ble_eq_true rfl⟩ ?_
  rintro _ ⟨⟩ rfl
  change J p l e rm_X7_init s m args below meth c Q G A 9 0 0 4 [(0, .ref o), (1, .long ax), (3, .long ay), (5, .long bx), (7, .long by1)] [] [(o, .inr (7, [.long 0, .long 0, .long 0, .long 0, .long 0, .long 0]))]
  refine j_aload_n X dX7_init_4 rfl 0 rfl ?_
  refine j_lload_n X dX7_init_5 rfl 1 rfl ?_
  refine j_putF (ws' := [(o, .inr (7, [.long ax, .long 0, .long 0, .long 0, .long 0, .long 0]))]) X hin dX7_init_6 0 rfl 0 rfl in_X7_init_X7 tyX7 tyX7_ok nmX7 (by decide) fl_X7_init_7 rfl rfl rfl rfl rfl (Nat.le_of_ble_eq_true rfl) rfl ?_
  refine j_aload_n X dX7_init_9 rfl 0 rfl ?_
  refine j_lload_n X dX7_init_10 rfl 2 rfl ?_
  refine j_putF (ws' := [(o, .inr (7, [.long ax, .long ay, .long 0, .long 0, .long 0, .long 0]))]) X hin dX7_init_11 0 rfl 1 rfl in_X7_init_X7 tyX7 tyX7_ok nmX7 (by decide) fl_X7_init_13 rfl rfl rfl rfl rfl (Nat.le_of_ble_eq_true rfl) rfl ?_
  refine j_aload_n X dX7_init_14 rfl 0 rfl ?_
  refine j_lload X dX7_init_15 3 rfl ?_
  refine j_putF (ws' := [(o, .inr (7, [.long ax, .long ay, .long bx, .long 0, .long 0, .long 0]))]) X hin dX7_init_17 0 rfl 2 rfl in_X7_init_X7 tyX7 tyX7_ok nmX7 (by decide) fl_X7_init_16 rfl rfl rfl rfl rfl (Nat.le_of_ble_eq_true rfl) rfl ?_
  refine j_aload_n X dX7_init_20 rfl 0 rfl ?_
  refine j_lload X dX7_init_21 4 rfl ?_
  refine j_putF (ws' := [(o, .inr (7, [.long ax, .long ay, .long bx, .long by1, .long 0, .long 0]))]) X hin dX7_init_23 0 rfl 3 rfl in_X7_init_X7 tyX7 tyX7_ok nmX7 (by decide) fl_X7_init_19 rfl rfl rfl rfl rfl (Nat.le_of_ble_eq_true rfl) rfl ?_
  refine j_aload_n X dX7_init_26 rfl 0 rfl ?_
  refine j_lload X dX7_init_27 3 rfl ?_
  refine j_lload_n X dX7_init_29 rfl 1 rfl ?_
  refine j_lsub X dX7_init_30 ?_
  rw [← hdx]
  refine j_putF (ws' := [(o, .inr (7, [.long ax, .long ay, .long bx, .long by1, .long dx, .long 0]))]) X hin dX7_init_31 0 rfl 4 rfl in_X7_init_X7 tyX7 tyX7_ok nmX7 (by decide) fl_X7_init_22 rfl rfl rfl rfl rfl (Nat.le_of_ble_eq_true rfl) rfl ?_
  refine j_aload_n X dX7_init_34 rfl 0 rfl ?_
  refine j_lload X dX7_init_35 4 rfl ?_
  refine j_lload_n X dX7_init_37 rfl 2 rfl ?_
  refine j_lsub X dX7_init_38 ?_
  rw [← hdy]
  refine j_putF (ws' := [(o, .inr (7, [.long ax, .long ay, .long bx, .long by1, .long dx, .long dy]))]) X hin dX7_init_39 0 rfl 5 rfl in_X7_init_X7 tyX7 tyX7_ok nmX7 (by decide) fl_X7_init_25 rfl rfl rfl rfl rfl (Nat.le_of_ble_eq_true rfl) rfl ?_
  exact E.1 42 _ () dX7_init_42 rfl hr

theorem hi_X7_init : yX7_init.cls ≠ "java/lang/invoke/MethodHandle" ∧ yX7_init.cls ≠ "java/lang/invoke/VarHandle" ∧ (parseMethodDescriptor yX7_init.desc).map (fun d => d.parameters.length) = some 4 := by decide +kernel
abbrev rm_X11_init : Room := { frames := 1, cells := 12, slots := 2138, locals := 20 }
theorem oi_X11_init : (Cond.methodLink RX11 1 objectInit ∈ wsX11_init) ∧ (Cond.instanceMethod objectInit ∈ wsX11_init) ∧ (Cond.code objectInit ⟨#[0xb1]⟩ 1 none ∈ wsX11_init) := ⟨by decide +kernel, by decide +kernel, List.mem_of_getElem? (i := 3) rfl⟩
theorem na_X11_init_boolean : Cond.arrayClass .boolean ∈ wsX11_init := by decide +kernel
theorem in_X11_init_X11 : ∀ w ∈ u_ws RX11 TX11 19, w ∈ wsX11_init := by decide +kernel
theorem fl_X11_init_7 : Cond.fieldLink RX11 7 (TX11 2).1 (TX11 2).2.1 (TX11 2).2.2.1 ∈ wsX11_init := by decide +kernel
theorem na_X11_init_long : Cond.arrayClass .long ∈ wsX11_init := by decide +kernel
theorem fl_X11_init_13 : Cond.fieldLink RX11 13 (TX11 3).1 (TX11 3).2.1 (TX11 3).2.2.1 ∈ wsX11_init := by decide +kernel
theorem fl_X11_init_17 : Cond.fieldLink RX11 17 (TX11 4).1 (TX11 4).2.1 (TX11 4).2.2.1 ∈ wsX11_init := by decide +kernel
theorem fl_X11_init_20 : Cond.fieldLink RX11 20 (TX11 5).1 (TX11 5).2.1 (TX11 5).2.2.1 ∈ wsX11_init := by decide +kernel
theorem fl_X11_init_23 : Cond.fieldLink RX11 23 (TX11 6).1 (TX11 6).2.1 (TX11 6).2.2.1 ∈ wsX11_init := by decide +kernel
theorem na_X11_init_int : Cond.arrayClass .int ∈ wsX11_init := by decide +kernel
theorem fl_X11_init_26 : Cond.fieldLink RX11 26 (TX11 7).1 (TX11 7).2.1 (TX11 7).2.2.1 ∈ wsX11_init := by decide +kernel
theorem fl_X11_init_30 : Cond.fieldLink RX11 30 (TX11 8).1 (TX11 8).2.1 (TX11 8).2.2.1 ∈ wsX11_init := by decide +kernel
theorem fl_X11_init_33 : Cond.fieldLink RX11 33 (TX11 10).1 (TX11 10).2.1 (TX11 10).2.2.1 ∈ wsX11_init := by decide +kernel
theorem fl_X11_init_36 : Cond.fieldLink RX11 36 (TX11 11).1 (TX11 11).2.1 (TX11 11).2.2.1 ∈ wsX11_init := by decide +kernel
theorem fl_X11_init_39 : Cond.fieldLink RX11 39 (TX11 12).1 (TX11 12).2.1 (TX11 12).2.2.1 ∈ wsX11_init := by decide +kernel
theorem fl_X11_init_42 : Cond.fieldLink RX11 42 (TX11 13).1 (TX11 13).2.1 (TX11 13).2.2.1 ∈ wsX11_init := by decide +kernel
theorem fl_X11_init_45 : Cond.fieldLink RX11 45 (TX11 16).1 (TX11 16).2.1 (TX11 16).2.2.1 ∈ wsX11_init := by decide +kernel
set_option maxHeartbeats 4000000 in
set_option maxRecDepth 100000 in
theorem c_X11_init (l : Launch) (G : jG) (o : Nat) : Cf l yX11_init wsX11_init rm_X11_init G [.ref o] [(o, .inr (10, [.int 0, .int 0, .null, .null, .null, .null, .null, .null, .null, .int 0, .null, .null, .null, .null, .int 0, .int 0, .null, .long 0, .long 0]))] (S := Nat → Nat) (fun r _ => r = none) (fun q => [(o, .inr (10, [.int 0, .int 0, .ref (q 1), .ref (q 2), .ref (q 3), .ref (q 4), .ref (q 5), .ref (q 6), .ref (q 7), .int 0, .ref (q 8), .ref (q 9), .ref (q 10), .ref (q 11), .int 0, .int 0, .ref (q 12), .long 0, .long 0]))]) (fun q => [((q 1), aZ G 200 (fun _ => 0)), ((q 2), aJ G 200 (fun _ => 0)), ((q 3), aJ G 200 (fun _ => 0)), ((q 4), aJ G 200 (fun _ => 0)), ((q 5), aJ G 200 (fun _ => 0)), ((q 6), aI G 200 (fun _ => 0)), ((q 7), aI G 200 (fun _ => 0)), ((q 8), aJ G 200 (fun _ => 0)), ((q 9), aJ G 200 (fun _ => 0)), ((q 10), aI G 320 (fun _ => 0)), ((q 11), aZ G 16 (fun _ => 0)), ((q 12), aI G 2 (fun _ => 0))]) := by
  refine cf_intro (cc := cX11_init) (maxL := 1) (ret := none) (by decide) rfl (Nat.le_of_ble_eq_true rfl) (fun _ => by simp only [List.map_cons, List.map_nil]) ?_
  intro p e s m args below meth c Q A X XF hr hin E
  change J p l e rm_X11_init s m args below meth c Q G A 1 0 0 0 [(0, .ref o)] [] [(o, .inr (10, [.int 0, .int 0, .null, .null, .null, .null, .null, .null, .null, .int 0, .null, .null, .null, .null, .int 0, .int 0, .null, .long 0, .long 0]))]
  refine j_aload_n X dX11_init_0 rfl 0 rfl ?_
  refine j_objI X dX11_init_1 oi_X11_init.1 oi_X11_init.2.1 oi_X11_init.2.2 (Nat.le_of_ble_eq_true rfl) (Nat.le_of_ble_eq_true rfl) ?_
  refine j_aload_n X dX11_init_4 rfl 0 rfl ?_
  refine j_sipush (v := 200) X dX11_init_5 (by decide) ?_
  refine j_newZ (N' := 200) X dX11_init_8 na_X11_init_boolean (by decide) (by decide) (by decide) (Nat.le_of_ble_eq_true rfl) (Nat.le_of_ble_eq_true rfl) (fun q_1 => ?_)
  change J p l e rm_X11_init s m args below meth c Q G A 1 1 200 10 [(0, .ref o)] [.ref q_1, .ref o] [(o, .inr (10, [.int 0, .int 0, .null, .null, .null, .null, .null, .null, .null, .int 0, .null, .null, .null, .null, .int 0, .int 0, .null, .long 0, .long 0])), (q_1, aZ G 200 (fun _ => 0))]
  refine j_putF (ws' := [(o, .inr (10, [.int 0, .int 0, .ref q_1, .null, .null, .null, .null, .null, .null, .int 0, .null, .null, .null, .null, .int 0, .int 0, .null, .long 0, .long 0])), (q_1, aZ G 200 (fun _ => 0))]) X hin dX11_init_10 0 rfl 2 rfl in_X11_init_X11 tyX11 tyX11_ok nmX11 (by decide) fl_X11_init_7 rfl rfl rfl rfl rfl (Nat.le_of_ble_eq_true rfl) rfl ?_
  refine j_aload_n X dX11_init_13 rfl 0 rfl ?_
  refine j_sipush (v := 200) X dX11_init_14 (by decide) ?_
  refine j_newJ (N' := 200) X dX11_init_17 na_X11_init_long (by decide) (by decide) (by decide) (Nat.le_of_ble_eq_true rfl) (Nat.le_of_ble_eq_true rfl) (fun q_2 => ?_)
  change J p l e rm_X11_init s m args below meth c Q G A 1 2 400 19 [(0, .ref o)] [.ref q_2, .ref o] [(o, .inr (10, [.int 0, .int 0, .ref q_1, .null, .null, .null, .null, .null, .null, .int 0, .null, .null, .null, .null, .int 0, .int 0, .null, .long 0, .long 0])), (q_1, aZ G 200 (fun _ => 0)), (q_2, aJ G 200 (fun _ => 0))]
  refine j_putF (ws' := [(o, .inr (10, [.int 0, .int 0, .ref q_1, .ref q_2, .null, .null, .null, .null, .null, .int 0, .null, .null, .null, .null, .int 0, .int 0, .null, .long 0, .long 0])), (q_1, aZ G 200 (fun _ => 0)), (q_2, aJ G 200 (fun _ => 0))]) X hin dX11_init_19 0 rfl 3 rfl in_X11_init_X11 tyX11 tyX11_ok nmX11 (by decide) fl_X11_init_13 rfl rfl rfl rfl rfl (Nat.le_of_ble_eq_true rfl) rfl ?_
  refine j_aload_n X dX11_init_22 rfl 0 rfl ?_
  refine j_sipush (v := 200) X dX11_init_23 (by decide) ?_
  refine j_newJ (N' := 200) X dX11_init_26 na_X11_init_long (by decide) (by decide) (by decide) (Nat.le_of_ble_eq_true rfl) (Nat.le_of_ble_eq_true rfl) (fun q_3 => ?_)
  change J p l e rm_X11_init s m args below meth c Q G A 1 3 600 28 [(0, .ref o)] [.ref q_3, .ref o] [(o, .inr (10, [.int 0, .int 0, .ref q_1, .ref q_2, .null, .null, .null, .null, .null, .int 0, .null, .null, .null, .null, .int 0, .int 0, .null, .long 0, .long 0])), (q_1, aZ G 200 (fun _ => 0)), (q_2, aJ G 200 (fun _ => 0)), (q_3, aJ G 200 (fun _ => 0))]
  refine j_putF (ws' := [(o, .inr (10, [.int 0, .int 0, .ref q_1, .ref q_2, .ref q_3, .null, .null, .null, .null, .int 0, .null, .null, .null, .null, .int 0, .int 0, .null, .long 0, .long 0])), (q_1, aZ G 200 (fun _ => 0)), (q_2, aJ G 200 (fun _ => 0)), (q_3, aJ G 200 (fun _ => 0))]) X hin dX11_init_28 0 rfl 4 rfl in_X11_init_X11 tyX11 tyX11_ok nmX11 (by decide) fl_X11_init_17 rfl rfl rfl rfl rfl (Nat.le_of_ble_eq_true rfl) rfl ?_
  refine j_aload_n X dX11_init_31 rfl 0 rfl ?_
  refine j_sipush (v := 200) X dX11_init_32 (by decide) ?_
  refine j_newJ (N' := 200) X dX11_init_35 na_X11_init_long (by decide) (by decide) (by decide) (Nat.le_of_ble_eq_true rfl) (Nat.le_of_ble_eq_true rfl) (fun q_4 => ?_)
  change J p l e rm_X11_init s m args below meth c Q G A 1 4 800 37 [(0, .ref o)] [.ref q_4, .ref o] [(o, .inr (10, [.int 0, .int 0, .ref q_1, .ref q_2, .ref q_3, .null, .null, .null, .null, .int 0, .null, .null, .null, .null, .int 0, .int 0, .null, .long 0, .long 0])), (q_1, aZ G 200 (fun _ => 0)), (q_2, aJ G 200 (fun _ => 0)), (q_3, aJ G 200 (fun _ => 0)), (q_4, aJ G 200 (fun _ => 0))]
  refine j_putF (ws' := [(o, .inr (10, [.int 0, .int 0, .ref q_1, .ref q_2, .ref q_3, .ref q_4, .null, .null, .null, .int 0, .null, .null, .null, .null, .int 0, .int 0, .null, .long 0, .long 0])), (q_1, aZ G 200 (fun _ => 0)), (q_2, aJ G 200 (fun _ => 0)), (q_3, aJ G 200 (fun _ => 0)), (q_4, aJ G 200 (fun _ => 0))]) X hin dX11_init_37 0 rfl 5 rfl in_X11_init_X11 tyX11 tyX11_ok nmX11 (by decide) fl_X11_init_20 rfl rfl rfl rfl rfl (Nat.le_of_ble_eq_true rfl) rfl ?_
  refine j_aload_n X dX11_init_40 rfl 0 rfl ?_
  refine j_sipush (v := 200) X dX11_init_41 (by decide) ?_
  refine j_newJ (N' := 200) X dX11_init_44 na_X11_init_long (by decide) (by decide) (by decide) (Nat.le_of_ble_eq_true rfl) (Nat.le_of_ble_eq_true rfl) (fun q_5 => ?_)
  change J p l e rm_X11_init s m args below meth c Q G A 1 5 1000 46 [(0, .ref o)] [.ref q_5, .ref o] [(o, .inr (10, [.int 0, .int 0, .ref q_1, .ref q_2, .ref q_3, .ref q_4, .null, .null, .null, .int 0, .null, .null, .null, .null, .int 0, .int 0, .null, .long 0, .long 0])), (q_1, aZ G 200 (fun _ => 0)), (q_2, aJ G 200 (fun _ => 0)), (q_3, aJ G 200 (fun _ => 0)), (q_4, aJ G 200 (fun _ => 0)), (q_5, aJ G 200 (fun _ => 0))]
  refine j_putF (ws' := [(o, .inr (10, [.int 0, .int 0, .ref q_1, .ref q_2, .ref q_3, .ref q_4, .ref q_5, .null, .null, .int 0, .null, .null, .null, .null, .int 0, .int 0, .null, .long 0, .long 0])), (q_1, aZ G 200 (fun _ => 0)), (q_2, aJ G 200 (fun _ => 0)), (q_3, aJ G 200 (fun _ => 0)), (q_4, aJ G 200 (fun _ => 0)), (q_5, aJ G 200 (fun _ => 0))]) X hin dX11_init_46 0 rfl 6 rfl in_X11_init_X11 tyX11 tyX11_ok nmX11 (by decide) fl_X11_init_23 rfl rfl rfl rfl rfl (Nat.le_of_ble_eq_true rfl) rfl ?_
  refine j_aload_n X dX11_init_49 rfl 0 rfl ?_
  refine j_sipush (v := 200) X dX11_init_50 (by decide) ?_
  refine j_newI (N' := 200) X dX11_init_53 na_X11_init_int (by decide) (by decide) (by decide) (Nat.le_of_ble_eq_true rfl) (Nat.le_of_ble_eq_true rfl) (fun q_6 => ?_)
  change J p l e rm_X11_init s m args below meth c Q G A 1 6 1200 55 [(0, .ref o)] [.ref q_6, .ref o] [(o, .inr (10, [.int 0, .int 0, .ref q_1, .ref q_2, .ref q_3, .ref q_4, .ref q_5, .null, .null, .int 0, .null, .null, .null, .null, .int 0, .int 0, .null, .long 0, .long 0])), (q_1, aZ G 200 (fun _ => 0)), (q_2, aJ G 200 (fun _ => 0)), (q_3, aJ G 200 (fun _ => 0)), (q_4, aJ G 200 (fun _ => 0)), (q_5, aJ G 200 (fun _ => 0)), (q_6, aI G 200 (fun _ => 0))]
  refine j_putF (ws' := [(o, .inr (10, [.int 0, .int 0, .ref q_1, .ref q_2, .ref q_3, .ref q_4, .ref q_5, .ref q_6, .null, .int 0, .null, .null, .null, .null, .int 0, .int 0, .null, .long 0, .long 0])), (q_1, aZ G 200 (fun _ => 0)), (q_2, aJ G 200 (fun _ => 0)), (q_3, aJ G 200 (fun _ => 0)), (q_4, aJ G 200 (fun _ => 0)), (q_5, aJ G 200 (fun _ => 0)), (q_6, aI G 200 (fun _ => 0))]) X hin dX11_init_55 0 rfl 7 rfl in_X11_init_X11 tyX11 tyX11_ok nmX11 (by decide) fl_X11_init_26 rfl rfl rfl rfl rfl (Nat.le_of_ble_eq_true rfl) rfl ?_
  refine j_aload_n X dX11_init_58 rfl 0 rfl ?_
  refine j_sipush (v := 200) X dX11_init_59 (by decide) ?_
  refine j_newI (N' := 200) X dX11_init_62 na_X11_init_int (by decide) (by decide) (by decide) (Nat.le_of_ble_eq_true rfl) (Nat.le_of_ble_eq_true rfl) (fun q_7 => ?_)
  change J p l e rm_X11_init s m args below meth c Q G A 1 7 1400 64 [(0, .ref o)] [.ref q_7, .ref o] [(o, .inr (10, [.int 0, .int 0, .ref q_1, .ref q_2, .ref q_3, .ref q_4, .ref q_5, .ref q_6, .null, .int 0, .null, .null, .null, .null, .int 0, .int 0, .null, .long 0, .long 0])), (q_1, aZ G 200 (fun _ => 0)), (q_2, aJ G 200 (fun _ => 0)), (q_3, aJ G 200 (fun _ => 0)), (q_4, aJ G 200 (fun _ => 0)), (q_5, aJ G 200 (fun _ => 0)), (q_6, aI G 200 (fun _ => 0)), (q_7, aI G 200 (fun _ => 0))]
  refine j_putF (ws' := [(o, .inr (10, [.int 0, .int 0, .ref q_1, .ref q_2, .ref q_3, .ref q_4, .ref q_5, .ref q_6, .ref q_7, .int 0, .null, .null, .null, .null, .int 0, .int 0, .null, .long 0, .long 0])), (q_1, aZ G 200 (fun _ => 0)), (q_2, aJ G 200 (fun _ => 0)), (q_3, aJ G 200 (fun _ => 0)), (q_4, aJ G 200 (fun _ => 0)), (q_5, aJ G 200 (fun _ => 0)), (q_6, aI G 200 (fun _ => 0)), (q_7, aI G 200 (fun _ => 0))]) X hin dX11_init_64 0 rfl 8 rfl in_X11_init_X11 tyX11 tyX11_ok nmX11 (by decide) fl_X11_init_30 rfl rfl rfl rfl rfl (Nat.le_of_ble_eq_true rfl) rfl ?_
  refine j_aload_n X dX11_init_67 rfl 0 rfl ?_
  refine j_sipush (v := 200) X dX11_init_68 (by decide) ?_
  refine j_newJ (N' := 200) X dX11_init_71 na_X11_init_long (by decide) (by decide) (by decide) (Nat.le_of_ble_eq_true rfl) (Nat.le_of_ble_eq_true rfl) (fun q_8 => ?_)
  change J p l e rm_X11_init s m args below meth c Q G A 1 8 1600 73 [(0, .ref o)] [.ref q_8, .ref o] [(o, .inr (10, [.int 0, .int 0, .ref q_1, .ref q_2, .ref q_3, .ref q_4, .ref q_5, .ref q_6, .ref q_7, .int 0, .null, .null, .null, .null, .int 0, .int 0, .null, .long 0, .long 0])), (q_1, aZ G 200 (fun _ => 0)), (q_2, aJ G 200 (fun _ => 0)), (q_3, aJ G 200 (fun _ => 0)), (q_4, aJ G 200 (fun _ => 0)), (q_5, aJ G 200 (fun _ => 0)), (q_6, aI G 200 (fun _ => 0)), (q_7, aI G 200 (fun _ => 0)), (q_8, aJ G 200 (fun _ => 0))]
  refine j_putF (ws' := [(o, .inr (10, [.int 0, .int 0, .ref q_1, .ref q_2, .ref q_3, .ref q_4, .ref q_5, .ref q_6, .ref q_7, .int 0, .ref q_8, .null, .null, .null, .int 0, .int 0, .null, .long 0, .long 0])), (q_1, aZ G 200 (fun _ => 0)), (q_2, aJ G 200 (fun _ => 0)), (q_3, aJ G 200 (fun _ => 0)), (q_4, aJ G 200 (fun _ => 0)), (q_5, aJ G 200 (fun _ => 0)), (q_6, aI G 200 (fun _ => 0)), (q_7, aI G 200 (fun _ => 0)), (q_8, aJ G 200 (fun _ => 0))]) X hin dX11_init_73 0 rfl 10 rfl in_X11_init_X11 tyX11 tyX11_ok nmX11 (by decide) fl_X11_init_33 rfl rfl rfl rfl rfl (Nat.le_of_ble_eq_true rfl) rfl ?_
  refine j_aload_n X dX11_init_76 rfl 0 rfl ?_
  refine j_sipush (v := 200) X dX11_init_77 (by decide) ?_
  refine j_newJ (N' := 200) X dX11_init_80 na_X11_init_long (by decide) (by decide) (by decide) (Nat.le_of_ble_eq_true rfl) (Nat.le_of_ble_eq_true rfl) (fun q_9 => ?_)
  change J p l e rm_X11_init s m args below meth c Q G A 1 9 1800 82 [(0, .ref o)] [.ref q_9, .ref o] [(o, .inr (10, [.int 0, .int 0, .ref q_1, .ref q_2, .ref q_3, .ref q_4, .ref q_5, .ref q_6, .ref q_7, .int 0, .ref q_8, .null, .null, .null, .int 0, .int 0, .null, .long 0, .long 0])), (q_1, aZ G 200 (fun _ => 0)), (q_2, aJ G 200 (fun _ => 0)), (q_3, aJ G 200 (fun _ => 0)), (q_4, aJ G 200 (fun _ => 0)), (q_5, aJ G 200 (fun _ => 0)), (q_6, aI G 200 (fun _ => 0)), (q_7, aI G 200 (fun _ => 0)), (q_8, aJ G 200 (fun _ => 0)), (q_9, aJ G 200 (fun _ => 0))]
  refine j_putF (ws' := [(o, .inr (10, [.int 0, .int 0, .ref q_1, .ref q_2, .ref q_3, .ref q_4, .ref q_5, .ref q_6, .ref q_7, .int 0, .ref q_8, .ref q_9, .null, .null, .int 0, .int 0, .null, .long 0, .long 0])), (q_1, aZ G 200 (fun _ => 0)), (q_2, aJ G 200 (fun _ => 0)), (q_3, aJ G 200 (fun _ => 0)), (q_4, aJ G 200 (fun _ => 0)), (q_5, aJ G 200 (fun _ => 0)), (q_6, aI G 200 (fun _ => 0)), (q_7, aI G 200 (fun _ => 0)), (q_8, aJ G 200 (fun _ => 0)), (q_9, aJ G 200 (fun _ => 0))]) X hin dX11_init_82 0 rfl 11 rfl in_X11_init_X11 tyX11 tyX11_ok nmX11 (by decide) fl_X11_init_36 rfl rfl rfl rfl rfl (Nat.le_of_ble_eq_true rfl) rfl ?_
  refine j_aload_n X dX11_init_85 rfl 0 rfl ?_
  refine j_sipush (v := 320) X dX11_init_86 (by decide) ?_
  refine j_newI (N' := 320) X dX11_init_89 na_X11_init_int (by decide) (by decide) (by decide) (Nat.le_of_ble_eq_true rfl) (Nat.le_of_ble_eq_true rfl) (fun q_10 => ?_)
  change J p l e rm_X11_init s m args below meth c Q G A 1 10 2120 91 [(0, .ref o)] [.ref q_10, .ref o] [(o, .inr (10, [.int 0, .int 0, .ref q_1, .ref q_2, .ref q_3, .ref q_4, .ref q_5, .ref q_6, .ref q_7, .int 0, .ref q_8, .ref q_9, .null, .null, .int 0, .int 0, .null, .long 0, .long 0])), (q_1, aZ G 200 (fun _ => 0)), (q_2, aJ G 200 (fun _ => 0)), (q_3, aJ G 200 (fun _ => 0)), (q_4, aJ G 200 (fun _ => 0)), (q_5, aJ G 200 (fun _ => 0)), (q_6, aI G 200 (fun _ => 0)), (q_7, aI G 200 (fun _ => 0)), (q_8, aJ G 200 (fun _ => 0)), (q_9, aJ G 200 (fun _ => 0)), (q_10, aI G 320 (fun _ => 0))]
  refine j_putF (ws' := [(o, .inr (10, [.int 0, .int 0, .ref q_1, .ref q_2, .ref q_3, .ref q_4, .ref q_5, .ref q_6, .ref q_7, .int 0, .ref q_8, .ref q_9, .ref q_10, .null, .int 0, .int 0, .null, .long 0, .long 0])), (q_1, aZ G 200 (fun _ => 0)), (q_2, aJ G 200 (fun _ => 0)), (q_3, aJ G 200 (fun _ => 0)), (q_4, aJ G 200 (fun _ => 0)), (q_5, aJ G 200 (fun _ => 0)), (q_6, aI G 200 (fun _ => 0)), (q_7, aI G 200 (fun _ => 0)), (q_8, aJ G 200 (fun _ => 0)), (q_9, aJ G 200 (fun _ => 0)), (q_10, aI G 320 (fun _ => 0))]) X hin dX11_init_91 0 rfl 12 rfl in_X11_init_X11 tyX11 tyX11_ok nmX11 (by decide) fl_X11_init_39 rfl rfl rfl rfl rfl (Nat.le_of_ble_eq_true rfl) rfl ?_
  refine j_aload_n X dX11_init_94 rfl 0 rfl ?_
  refine j_bipush (v := 16) X dX11_init_95 (by decide) ?_
  refine j_newZ (N' := 16) X dX11_init_97 na_X11_init_boolean (by decide) (by decide) (by decide) (Nat.le_of_ble_eq_true rfl) (Nat.le_of_ble_eq_true rfl) (fun q_11 => ?_)
  change J p l e rm_X11_init s m args below meth c Q G A 1 11 2136 99 [(0, .ref o)] [.ref q_11, .ref o] [(o, .inr (10, [.int 0, .int 0, .ref q_1, .ref q_2, .ref q_3, .ref q_4, .ref q_5, .ref q_6, .ref q_7, .int 0, .ref q_8, .ref q_9, .ref q_10, .null, .int 0, .int 0, .null, .long 0, .long 0])), (q_1, aZ G 200 (fun _ => 0)), (q_2, aJ G 200 (fun _ => 0)), (q_3, aJ G 200 (fun _ => 0)), (q_4, aJ G 200 (fun _ => 0)), (q_5, aJ G 200 (fun _ => 0)), (q_6, aI G 200 (fun _ => 0)), (q_7, aI G 200 (fun _ => 0)), (q_8, aJ G 200 (fun _ => 0)), (q_9, aJ G 200 (fun _ => 0)), (q_10, aI G 320 (fun _ => 0)), (q_11, aZ G 16 (fun _ => 0))]
  refine j_putF (ws' := [(o, .inr (10, [.int 0, .int 0, .ref q_1, .ref q_2, .ref q_3, .ref q_4, .ref q_5, .ref q_6, .ref q_7, .int 0, .ref q_8, .ref q_9, .ref q_10, .ref q_11, .int 0, .int 0, .null, .long 0, .long 0])), (q_1, aZ G 200 (fun _ => 0)), (q_2, aJ G 200 (fun _ => 0)), (q_3, aJ G 200 (fun _ => 0)), (q_4, aJ G 200 (fun _ => 0)), (q_5, aJ G 200 (fun _ => 0)), (q_6, aI G 200 (fun _ => 0)), (q_7, aI G 200 (fun _ => 0)), (q_8, aJ G 200 (fun _ => 0)), (q_9, aJ G 200 (fun _ => 0)), (q_10, aI G 320 (fun _ => 0)), (q_11, aZ G 16 (fun _ => 0))]) X hin dX11_init_99 0 rfl 13 rfl in_X11_init_X11 tyX11 tyX11_ok nmX11 (by decide) fl_X11_init_42 rfl rfl rfl rfl rfl (Nat.le_of_ble_eq_true rfl) rfl ?_
  refine j_aload_n X dX11_init_102 rfl 0 rfl ?_
  refine j_iconst (v := 2) X dX11_init_103 rfl ?_
  refine j_newI (N' := 2) X dX11_init_104 na_X11_init_int (by decide) (by decide) (by decide) (Nat.le_of_ble_eq_true rfl) (Nat.le_of_ble_eq_true rfl) (fun q_12 => ?_)
  change J p l e rm_X11_init s m args below meth c Q G A 1 12 2138 106 [(0, .ref o)] [.ref q_12, .ref o] [(o, .inr (10, [.int 0, .int 0, .ref q_1, .ref q_2, .ref q_3, .ref q_4, .ref q_5, .ref q_6, .ref q_7, .int 0, .ref q_8, .ref q_9, .ref q_10, .ref q_11, .int 0, .int 0, .null, .long 0, .long 0])), (q_1, aZ G 200 (fun _ => 0)), (q_2, aJ G 200 (fun _ => 0)), (q_3, aJ G 200 (fun _ => 0)), (q_4, aJ G 200 (fun _ => 0)), (q_5, aJ G 200 (fun _ => 0)), (q_6, aI G 200 (fun _ => 0)), (q_7, aI G 200 (fun _ => 0)), (q_8, aJ G 200 (fun _ => 0)), (q_9, aJ G 200 (fun _ => 0)), (q_10, aI G 320 (fun _ => 0)), (q_11, aZ G 16 (fun _ => 0)), (q_12, aI G 2 (fun _ => 0))]
  refine j_putF (ws' := [(o, .inr (10, [.int 0, .int 0, .ref q_1, .ref q_2, .ref q_3, .ref q_4, .ref q_5, .ref q_6, .ref q_7, .int 0, .ref q_8, .ref q_9, .ref q_10, .ref q_11, .int 0, .int 0, .ref q_12, .long 0, .long 0])), (q_1, aZ G 200 (fun _ => 0)), (q_2, aJ G 200 (fun _ => 0)), (q_3, aJ G 200 (fun _ => 0)), (q_4, aJ G 200 (fun _ => 0)), (q_5, aJ G 200 (fun _ => 0)), (q_6, aI G 200 (fun _ => 0)), (q_7, aI G 200 (fun _ => 0)), (q_8, aJ G 200 (fun _ => 0)), (q_9, aJ G 200 (fun _ => 0)), (q_10, aI G 320 (fun _ => 0)), (q_11, aZ G 16 (fun _ => 0)), (q_12, aI G 2 (fun _ => 0))]) X hin dX11_init_106 0 rfl 16 rfl in_X11_init_X11 tyX11 tyX11_ok nmX11 (by decide) fl_X11_init_45 rfl rfl rfl rfl rfl (Nat.le_of_ble_eq_true rfl) rfl ?_
  exact E.1 109 _ (fun k => List.getD [o, q_1, q_2, q_3, q_4, q_5, q_6, q_7, q_8, q_9, q_10, q_11, q_12] k 0) dX11_init_109 rfl hr

theorem hi_X11_init : yX11_init.cls ≠ "java/lang/invoke/MethodHandle" ∧ yX11_init.cls ≠ "java/lang/invoke/VarHandle" ∧ (parseMethodDescriptor yX11_init.desc).map (fun d => d.parameters.length) = some 0 := by decide +kernel
