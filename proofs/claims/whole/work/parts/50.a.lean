abbrev rm_X11_pointWith : Room := { frames := 0, cells := 0, slots := 0, locals := 0 }
theorem in_X11_pointWith_X11 : ∀ w ∈ u_ws RX11 TX11 19, w ∈ wsX11_pointWith := by decide +kernel
theorem fl_X11_pointWith_45 : Cond.fieldLink RX11 45 (TX11 16).1 (TX11 16).2.1 (TX11 16).2.2.1 ∈ wsX11_pointWith := by decide +kernel
theorem fl_X11_pointWith_173 : Cond.fieldLink RX11 173 (TX11 15).1 (TX11 15).2.1 (TX11 15).2.2.1 ∈ wsX11_pointWith := by decide +kernel
set_option maxHeartbeats 4000000 in
set_option maxRecDepth 100000 in
theorem c_X11_pointWith_0 (l : Launch) (G : jG) (q : Nat → Nat) (t n co cr : Int32) (tx ty : Int64) (sig : Nat → Int32) (k : Int32) : Ct l yX11_pointWith wsX11_pointWith rm_X11_pointWith G [.ref (q 0), .int k] [(q 0, .inr (10, mF t n q co cr 0 tx ty)), (q 12, aI G 2 sig)] (S := Unit) (fun r _ => r = none) (fun _ => [(q 0, .inr (10, mF t n q co cr 1 tx ty)), (q 12, aI G 2 (upd sig 0 k))]) (fun _ => []) := by
  refine c_intro (cc := cX11_pointWith) (maxL := 2) (ret := none) (by decide) rfl (Nat.le_of_ble_eq_true rfl) (fun _ => by simp only [List.map_cons, List.map_nil]) ?_
  intro p e s m args below meth c Q A X hr hin E
  change J p l e rm_X11_pointWith s m args below meth c Q G A 2 0 0 0 [(0, .ref (q 0)), (1, .int k)] [] [(q 0, .inr (10, mF t n q co cr 0 tx ty)), (q 12, aI G 2 sig)]
  refine j_aload_n X dX11_pointWith_0 rfl 0 rfl ?_
  refine j_get (v := .ref (q 12)) X dX11_pointWith_1 0 rfl 16 rfl in_X11_pointWith_X11 (by decide) fl_X11_pointWith_45 rfl ?_
  refine j_aload_n X dX11_pointWith_4 rfl 0 rfl ?_
  refine j_get (v := .int 0) X dX11_pointWith_5 0 rfl 15 rfl in_X11_pointWith_X11 (by decide) fl_X11_pointWith_173 rfl ?_
  refine j_iload_n X dX11_pointWith_8 rfl 1 rfl ?_
  refine j_iast (ws' := [(q 0, .inr (10, mF t n q co cr 0 tx ty)), (q 12, aI G 2 (upd sig 0 k))]) X dX11_pointWith_9 1 rfl 0 rfl (by decide) (by decide) rfl ?_
  refine j_aload_n X dX11_pointWith_10 rfl 0 rfl ?_
  refine j_dup X dX11_pointWith_11 rfl ?_
  refine j_get (v := .int 0) X dX11_pointWith_12 0 rfl 15 rfl in_X11_pointWith_X11 (by decide) fl_X11_pointWith_173 rfl ?_
  refine j_iconst (v := 1) X dX11_pointWith_15 rfl ?_
  refine j_iadd X dX11_pointWith_16 ?_
  rw [show (0 : Int32) + 1 = 1 from by decide]
  refine j_put (ws' := [(q 0, .inr (10, mF t n q co cr 1 tx ty)), (q 12, aI G 2 (upd sig 0 k))]) X dX11_pointWith_17 0 rfl 15 rfl in_X11_pointWith_X11 tyX11 tyX11_ok nmX11 (by decide) fl_X11_pointWith_173 rfl rfl rfl rfl (Nat.le_of_ble_eq_true rfl) rfl ?_
  exact E.1 20 _ () dX11_pointWith_20 rfl hr

theorem hy_X11_pointWith_V : yX11_pointWith.cls = RX11 ∧ yX11_pointWith.cls ≠ "java/lang/invoke/MethodHandle" ∧ yX11_pointWith.cls ≠ "java/lang/invoke/VarHandle" ∧ (parseMethodDescriptor yX11_pointWith.desc).map (fun d => d.parameters.length) = some 1 := by decide +kernel
set_option maxHeartbeats 4000000 in
set_option maxRecDepth 100000 in
theorem c_X11_pointWith_1 (l : Launch) (G : jG) (q : Nat → Nat) (t n co cr : Int32) (tx ty : Int64) (sig : Nat → Int32) (k : Int32) : Ct l yX11_pointWith wsX11_pointWith rm_X11_pointWith G [.ref (q 0), .int k] [(q 0, .inr (10, mF t n q co cr 1 tx ty)), (q 12, aI G 2 sig)] (S := Unit) (fun r _ => r = none) (fun _ => [(q 0, .inr (10, mF t n q co cr 2 tx ty)), (q 12, aI G 2 (upd sig 1 k))]) (fun _ => []) := by
  refine c_intro (cc := cX11_pointWith) (maxL := 2) (ret := none) (by decide) rfl (Nat.le_of_ble_eq_true rfl) (fun _ => by simp only [List.map_cons, List.map_nil]) ?_
  intro p e s m args below meth c Q A X hr hin E
  change J p l e rm_X11_pointWith s m args below meth c Q G A 2 0 0 0 [(0, .ref (q 0)), (1, .int k)] [] [(q 0, .inr (10, mF t n q co cr 1 tx ty)), (q 12, aI G 2 sig)]
  refine j_aload_n X dX11_pointWith_0 rfl 0 rfl ?_
  refine j_get (v := .ref (q 12)) X dX11_pointWith_1 0 rfl 16 rfl in_X11_pointWith_X11 (by decide) fl_X11_pointWith_45 rfl ?_
  refine j_aload_n X dX11_pointWith_4 rfl 0 rfl ?_
  refine j_get (v := .int 1) X dX11_pointWith_5 0 rfl 15 rfl in_X11_pointWith_X11 (by decide) fl_X11_pointWith_173 rfl ?_
  refine j_iload_n X dX11_pointWith_8 rfl 1 rfl ?_
  refine j_iast (ws' := [(q 0, .inr (10, mF t n q co cr 1 tx ty)), (q 12, aI G 2 (upd sig 1 k))]) X dX11_pointWith_9 1 rfl 1 rfl (by decide) (by decide) rfl ?_
  refine j_aload_n X dX11_pointWith_10 rfl 0 rfl ?_
  refine j_dup X dX11_pointWith_11 rfl ?_
  refine j_get (v := .int 1) X dX11_pointWith_12 0 rfl 15 rfl in_X11_pointWith_X11 (by decide) fl_X11_pointWith_173 rfl ?_
  refine j_iconst (v := 1) X dX11_pointWith_15 rfl ?_
  refine j_iadd X dX11_pointWith_16 ?_
  rw [show (1 : Int32) + 1 = 2 from by decide]
  refine j_put (ws' := [(q 0, .inr (10, mF t n q co cr 2 tx ty)), (q 12, aI G 2 (upd sig 1 k))]) X dX11_pointWith_17 0 rfl 15 rfl in_X11_pointWith_X11 tyX11 tyX11_ok nmX11 (by decide) fl_X11_pointWith_173 rfl rfl rfl rfl (Nat.le_of_ble_eq_true rfl) rfl ?_
  exact E.1 20 _ () dX11_pointWith_20 rfl hr

abbrev rm_X11_onLine : Room := { frames := 2, cells := 0, slots := 0, locals := 56 }
set_option maxHeartbeats 4000000 in
set_option maxRecDepth 100000 in
theorem c_X11_onLine_0 (l : Launch) (G : jG) (q : Nat → Nat) (t n co cr po : Int32) (tx ty : Int64) (z0 z1 z2 z3 z4 z5 z6 z7 z8 z9 z10 z11 z12 z13 z14 z15 : Int) (sf : Nat → Int32) (hS : okS [z0, z1, z2, z3, z4, z5, z6, z7, z8, z9, z10, z11, z12, z13, z14, z15] sf) (v w : Int64) (b3 : bd 84 z3) (b5 : bd 85 z5) (bv : bd 40 v.toInt) (bw1 : bd 41 w.toInt) : Ct l yX11_onLine wsX11_onLine rm_X11_onLine G [.ref (q 0), .long v, .long w, .int 0] [(q 0, .inr (10, mF t n q co cr po tx ty)), (q 10, aI G 320 (rg [z0, z1, z2, z3, z4, z5, z6, z7, z8, z9, z10, z11, z12, z13, z14, z15])), (q 11, aZ G 16 sf)] (S := Int × Int × Int × Int × (Nat → Int32)) (fun r u => r = none ∧ u.2.2.2.1 = v.toInt * z3 + w.toInt * z5 ∧ okS [u.2.2.2.1, z1, z2, z3, u.1, z5, u.2.1, z7, z8, z9, z10, z11, z12, u.2.2.1, z14, z15] u.2.2.2.2) (fun u => [(q 0, .inr (10, mF t n q co cr po tx ty)), (q 10, aI G 320 (rg [u.2.2.2.1, z1, z2, z3, u.1, z5, u.2.1, z7, z8, z9, z10, z11, z12, u.2.2.1, z14, z15])), (q 11, aZ G 16 u.2.2.2.2)]) (fun _ => []) := by
  refine c_intro (cc := cX11_onLine) (maxL := 6) (ret := none) (by decide) rfl (Nat.le_of_ble_eq_true rfl) (fun _ => by simp only [List.map_cons, List.map_nil]) ?_
  intro p e s m args below meth c Q A X hr hin E
  change J p l e rm_X11_onLine s m args below meth c Q G A 6 0 0 0 [(0, .ref (q 0)), (1, .long v), (3, .long w), (5, .int 0)] [] [(q 0, .inr (10, mF t n q co cr po tx ty)), (q 10, aI G 320 (rg [z0, z1, z2, z3, z4, z5, z6, z7, z8, z9, z10, z11, z12, z13, z14, z15])), (q 11, aZ G 16 sf)]
  refine j_aload_n X dX11_onLine_0 rfl 0 rfl ?_
  refine j_bipush (v := 13) X dX11_onLine_1 (by decide) ?_
  refine j_lload_n X dX11_onLine_3 rfl 1 rfl ?_
  obtain ⟨y_1, ey_1⟩ : ∃ zz9 : Int, zz9 = v.toInt := ⟨_, rfl⟩
  have by_1 : bd 40 y_1 := by rw [ey_1]; exact bv
  refine j_callV X dX11_onLine_4 (n_load l G q t n co cr po tx ty [z0, z1, z2, z3, z4, z5, z6, z7, z8, z9, z10, z11, z12, z13, z14, z15] sf rfl hS 13 13 rfl (by decide) v y_1 ey_1) gX11_onLine_X11_load rfl hy_X11_load_V ⟨Nat.le_of_ble_eq_true rfl, Nat.le_of_ble_eq_true rfl⟩ 0 rfl rfl [0, 1, 2] rfl (by decide) rfl rfl (Nat.le_of_ble_eq_true rfl) ⟨Nat.le_of_ble_eq_true rfl, Nat.le_of_ble_eq_true rfl⟩ ?_
  rintro _ sf_2 ⟨rfl, hS_sf_2⟩
  change J p l e rm_X11_onLine s m args below meth c Q G A 6 0 0 7 [(0, .ref (q 0)), (1, .long v), (3, .long w), (5, .int 0)] [] [(q 0, .inr (10, mF t n q co cr po tx ty)), (q 10, aI G 320 (rg [z0, z1, z2, z3, z4, z5, z6, z7, z8, z9, z10, z11, z12, y_1, z14, z15])), (q 11, aZ G 16 sf_2)]
  refine j_aload_n X dX11_onLine_7 rfl 0 rfl ?_
  refine j_iconst (v := 4) X dX11_onLine_8 rfl ?_
  refine j_bipush (v := 13) X dX11_onLine_9 (by decide) ?_
  refine j_iconst (v := 3) X dX11_onLine_11 rfl ?_
  obtain ⟨y_3, ey_3⟩ : ∃ zz9 : Int, zz9 = y_1 * z3 := ⟨_, rfl⟩
  have by_3 : bd 124 y_3 := by rw [ey_3]; exact bd_mul by_1 b3
  refine j_callV X dX11_onLine_12 (n_mul l G q t n co cr po tx ty [z0, z1, z2, z3, z4, z5, z6, z7, z8, z9, z10, z11, z12, y_1, z14, z15] sf_2 rfl hS_sf_2 4 4 rfl (by decide) 13 13 rfl (by decide) 3 3 rfl (by decide) (by decide) (by decide) y_3 ey_3) gX11_onLine_X11_multiply rfl hy_X11_multiply_V ⟨Nat.le_of_ble_eq_true rfl, Nat.le_of_ble_eq_true rfl⟩ 0 rfl rfl [0, 1, 2] rfl (by decide) rfl rfl (Nat.le_of_ble_eq_true rfl) ⟨Nat.le_of_ble_eq_true rfl, Nat.le_of_ble_eq_true rfl⟩ ?_
  rintro _ sf_4 ⟨rfl, hS_sf_4⟩
  change J p l e rm_X11_onLine s m args below meth c Q G A 6 0 0 15 [(0, .ref (q 0)), (1, .long v), (3, .long w), (5, .int 0)] [] [(q 0, .inr (10, mF t n q co cr po tx ty)), (q 10, aI G 320 (rg [z0, z1, z2, z3, y_3, z5, z6, z7, z8, z9, z10, z11, z12, y_1, z14, z15])), (q 11, aZ G 16 sf_4)]
  refine j_aload_n X dX11_onLine_15 rfl 0 rfl ?_
  refine j_bipush (v := 13) X dX11_onLine_16 (by decide) ?_
  refine j_lload_n X dX11_onLine_18 rfl 2 rfl ?_
  obtain ⟨y_5, ey_5⟩ : ∃ zz9 : Int, zz9 = w.toInt := ⟨_, rfl⟩
  have by_5 : bd 41 y_5 := by rw [ey_5]; exact bw1
  refine j_callV X dX11_onLine_19 (n_load l G q t n co cr po tx ty [z0, z1, z2, z3, y_3, z5, z6, z7, z8, z9, z10, z11, z12, y_1, z14, z15] sf_4 rfl hS_sf_4 13 13 rfl (by decide) w y_5 ey_5) gX11_onLine_X11_load rfl hy_X11_load_V ⟨Nat.le_of_ble_eq_true rfl, Nat.le_of_ble_eq_true rfl⟩ 0 rfl rfl [0, 1, 2] rfl (by decide) rfl rfl (Nat.le_of_ble_eq_true rfl) ⟨Nat.le_of_ble_eq_true rfl, Nat.le_of_ble_eq_true rfl⟩ ?_
  rintro _ sf_6 ⟨rfl, hS_sf_6⟩
  change J p l e rm_X11_onLine s m args below meth c Q G A 6 0 0 22 [(0, .ref (q 0)), (1, .long v), (3, .long w), (5, .int 0)] [] [(q 0, .inr (10, mF t n q co cr po tx ty)), (q 10, aI G 320 (rg [z0, z1, z2, z3, y_3, z5, z6, z7, z8, z9, z10, z11, z12, y_5, z14, z15])), (q 11, aZ G 16 sf_6)]
  refine j_aload_n X dX11_onLine_22 rfl 0 rfl ?_
  refine j_bipush (v := 6) X dX11_onLine_23 (by decide) ?_
  refine j_bipush (v := 13) X dX11_onLine_25 (by decide) ?_
  refine j_iconst (v := 5) X dX11_onLine_27 rfl ?_
  obtain ⟨y_7, ey_7⟩ : ∃ zz9 : Int, zz9 = y_5 * z5 := ⟨_, rfl⟩
  have by_7 : bd 126 y_7 := by rw [ey_7]; exact bd_mul by_5 b5
  refine j_callV X dX11_onLine_28 (n_mul l G q t n co cr po tx ty [z0, z1, z2, z3, y_3, z5, z6, z7, z8, z9, z10, z11, z12, y_5, z14, z15] sf_6 rfl hS_sf_6 6 6 rfl (by decide) 13 13 rfl (by decide) 5 5 rfl (by decide) (by decide) (by decide) y_7 ey_7) gX11_onLine_X11_multiply rfl hy_X11_multiply_V ⟨Nat.le_of_ble_eq_true rfl, Nat.le_of_ble_eq_true rfl⟩ 0 rfl rfl [0, 1, 2] rfl (by decide) rfl rfl (Nat.le_of_ble_eq_true rfl) ⟨Nat.le_of_ble_eq_true rfl, Nat.le_of_ble_eq_true rfl⟩ ?_
  rintro _ sf_8 ⟨rfl, hS_sf_8⟩
  change J p l e rm_X11_onLine s m args below meth c Q G A 6 0 0 31 [(0, .ref (q 0)), (1, .long v), (3, .long w), (5, .int 0)] [] [(q 0, .inr (10, mF t n q co cr po tx ty)), (q 10, aI G 320 (rg [z0, z1, z2, z3, y_3, z5, y_7, z7, z8, z9, z10, z11, z12, y_5, z14, z15])), (q 11, aZ G 16 sf_8)]
  refine j_aload_n X dX11_onLine_31 rfl 0 rfl ?_
  refine j_iload X dX11_onLine_32 3 rfl ?_
  refine j_iconst (v := 4) X dX11_onLine_34 rfl ?_
  refine j_bipush (v := 6) X dX11_onLine_35 (by decide) ?_
  refine j_iconst (v := 0) X dX11_onLine_37 rfl ?_
  obtain ⟨y_9, ey_9⟩ : ∃ zz9 : Int, zz9 = y_3 + y_7 := ⟨_, rfl⟩
  have by_9 : bd 127 y_9 := by rw [ey_9]; exact bd_add (bd_mono by_3 (by decide)) (bd_mono by_7 (by decide))
  refine j_callV X dX11_onLine_38 (n_join l G q t n co cr po tx ty [z0, z1, z2, z3, y_3, z5, y_7, z7, z8, z9, z10, z11, z12, y_5, z14, z15] sf_8 rfl hS_sf_8 0 0 rfl (by decide) 4 4 rfl (by decide) 6 6 rfl (by decide) 0 (Or.inl rfl) (by decide) (by decide) y_9 ey_9 by_3 by_7 (by decide) (by decide)) gX11_onLine_X11_join rfl hy_X11_join_V ⟨Nat.le_of_ble_eq_true rfl, Nat.le_of_ble_eq_true rfl⟩ 0 rfl rfl [0, 1, 2] rfl (by decide) rfl rfl (Nat.le_of_ble_eq_true rfl) ⟨Nat.le_of_ble_eq_true rfl, Nat.le_of_ble_eq_true rfl⟩ ?_
  rintro _ sf_10 ⟨rfl, hS_sf_10⟩
  change J p l e rm_X11_onLine s m args below meth c Q G A 6 0 0 41 [(0, .ref (q 0)), (1, .long v), (3, .long w), (5, .int 0)] [] [(q 0, .inr (10, mF t n q co cr po tx ty)), (q 10, aI G 320 (rg [y_9, z1, z2, z3, y_3, z5, y_7, z7, z8, z9, z10, z11, z12, y_5, z14, z15])), (q 11, aZ G 16 sf_10)]
  exact E.1 41 _ (y_3, y_7, y_5, y_9, sf_10) dX11_onLine_41 (⟨rfl, (by rw [ey_9, ey_3, ey_7, ey_1, ey_5]), hS_sf_10⟩) hr

theorem hy_X11_onLine_V : yX11_onLine.cls = RX11 ∧ yX11_onLine.cls ≠ "java/lang/invoke/MethodHandle" ∧ yX11_onLine.cls ≠ "java/lang/invoke/VarHandle" ∧ (parseMethodDescriptor yX11_onLine.desc).map (fun d => d.parameters.length) = some 3 := by decide +kernel
set_option maxHeartbeats 4000000 in
set_option maxRecDepth 100000 in
theorem c_X11_onLine_1 (l : Launch) (G : jG) (q : Nat → Nat) (t n co cr po : Int32) (tx ty : Int64) (z0 z1 z2 z3 z4 z5 z6 z7 z8 z9 z10 z11 z12 z13 z14 z15 : Int) (sf : Nat → Int32) (hS : okS [z0, z1, z2, z3, z4, z5, z6, z7, z8, z9, z10, z11, z12, z13, z14, z15] sf) (v w : Int64) (b3 : bd 84 z3) (b5 : bd 85 z5) (bv : bd 40 v.toInt) (bw1 : bd 41 w.toInt) : Ct l yX11_onLine wsX11_onLine rm_X11_onLine G [.ref (q 0), .long v, .long w, .int 1] [(q 0, .inr (10, mF t n q co cr po tx ty)), (q 10, aI G 320 (rg [z0, z1, z2, z3, z4, z5, z6, z7, z8, z9, z10, z11, z12, z13, z14, z15])), (q 11, aZ G 16 sf)] (S := Int × Int × Int × Int × (Nat → Int32)) (fun r u => r = none ∧ u.2.2.2.1 = v.toInt * z3 + w.toInt * z5 ∧ okS [z0, u.2.2.2.1, z2, z3, u.1, z5, u.2.1, z7, z8, z9, z10, z11, z12, u.2.2.1, z14, z15] u.2.2.2.2) (fun u => [(q 0, .inr (10, mF t n q co cr po tx ty)), (q 10, aI G 320 (rg [z0, u.2.2.2.1, z2, z3, u.1, z5, u.2.1, z7, z8, z9, z10, z11, z12, u.2.2.1, z14, z15])), (q 11, aZ G 16 u.2.2.2.2)]) (fun _ => []) := by
  refine c_intro (cc := cX11_onLine) (maxL := 6) (ret := none) (by decide) rfl (Nat.le_of_ble_eq_true rfl) (fun _ => by simp only [List.map_cons, List.map_nil]) ?_
  intro p e s m args below meth c Q A X hr hin E
  change J p l e rm_X11_onLine s m args below meth c Q G A 6 0 0 0 [(0, .ref (q 0)), (1, .long v), (3, .long w), (5, .int 1)] [] [(q 0, .inr (10, mF t n q co cr po tx ty)), (q 10, aI G 320 (rg [z0, z1, z2, z3, z4, z5, z6, z7, z8, z9, z10, z11, z12, z13, z14, z15])), (q 11, aZ G 16 sf)]
  refine j_aload_n X dX11_onLine_0 rfl 0 rfl ?_
  refine j_bipush (v := 13) X dX11_onLine_1 (by decide) ?_
  refine j_lload_n X dX11_onLine_3 rfl 1 rfl ?_
  obtain ⟨y_1, ey_1⟩ : ∃ zz9 : Int, zz9 = v.toInt := ⟨_, rfl⟩
  have by_1 : bd 40 y_1 := by rw [ey_1]; exact bv
  refine j_callV X dX11_onLine_4 (n_load l G q t n co cr po tx ty [z0, z1, z2, z3, z4, z5, z6, z7, z8, z9, z10, z11, z12, z13, z14, z15] sf rfl hS 13 13 rfl (by decide) v y_1 ey_1) gX11_onLine_X11_load rfl hy_X11_load_V ⟨Nat.le_of_ble_eq_true rfl, Nat.le_of_ble_eq_true rfl⟩ 0 rfl rfl [0, 1, 2] rfl (by decide) rfl rfl (Nat.le_of_ble_eq_true rfl) ⟨Nat.le_of_ble_eq_true rfl, Nat.le_of_ble_eq_true rfl⟩ ?_
  rintro _ sf_2 ⟨rfl, hS_sf_2⟩
  change J p l e rm_X11_onLine s m args below meth c Q G A 6 0 0 7 [(0, .ref (q 0)), (1, .long v), (3, .long w), (5, .int 1)] [] [(q 0, .inr (10, mF t n q co cr po tx ty)), (q 10, aI G 320 (rg [z0, z1, z2, z3, z4, z5, z6, z7, z8, z9, z10, z11, z12, y_1, z14, z15])), (q 11, aZ G 16 sf_2)]
  refine j_aload_n X dX11_onLine_7 rfl 0 rfl ?_
  refine j_iconst (v := 4) X dX11_onLine_8 rfl ?_
  refine j_bipush (v := 13) X dX11_onLine_9 (by decide) ?_
  refine j_iconst (v := 3) X dX11_onLine_11 rfl ?_
  obtain ⟨y_3, ey_3⟩ : ∃ zz9 : Int, zz9 = y_1 * z3 := ⟨_, rfl⟩
  have by_3 : bd 124 y_3 := by rw [ey_3]; exact bd_mul by_1 b3
  refine j_callV X dX11_onLine_12 (n_mul l G q t n co cr po tx ty [z0, z1, z2, z3, z4, z5, z6, z7, z8, z9, z10, z11, z12, y_1, z14, z15] sf_2 rfl hS_sf_2 4 4 rfl (by decide) 13 13 rfl (by decide) 3 3 rfl (by decide) (by decide) (by decide) y_3 ey_3) gX11_onLine_X11_multiply rfl hy_X11_multiply_V ⟨Nat.le_of_ble_eq_true rfl, Nat.le_of_ble_eq_true rfl⟩ 0 rfl rfl [0, 1, 2] rfl (by decide) rfl rfl (Nat.le_of_ble_eq_true rfl) ⟨Nat.le_of_ble_eq_true rfl, Nat.le_of_ble_eq_true rfl⟩ ?_
  rintro _ sf_4 ⟨rfl, hS_sf_4⟩
  change J p l e rm_X11_onLine s m args below meth c Q G A 6 0 0 15 [(0, .ref (q 0)), (1, .long v), (3, .long w), (5, .int 1)] [] [(q 0, .inr (10, mF t n q co cr po tx ty)), (q 10, aI G 320 (rg [z0, z1, z2, z3, y_3, z5, z6, z7, z8, z9, z10, z11, z12, y_1, z14, z15])), (q 11, aZ G 16 sf_4)]
  refine j_aload_n X dX11_onLine_15 rfl 0 rfl ?_
  refine j_bipush (v := 13) X dX11_onLine_16 (by decide) ?_
  refine j_lload_n X dX11_onLine_18 rfl 2 rfl ?_
  obtain ⟨y_5, ey_5⟩ : ∃ zz9 : Int, zz9 = w.toInt := ⟨_, rfl⟩
  have by_5 : bd 41 y_5 := by rw [ey_5]; exact bw1
  refine j_callV X dX11_onLine_19 (n_load l G q t n co cr po tx ty [z0, z1, z2, z3, y_3, z5, z6, z7, z8, z9, z10, z11, z12, y_1, z14, z15] sf_4 rfl hS_sf_4 13 13 rfl (by decide) w y_5 ey_5) gX11_onLine_X11_load rfl hy_X11_load_V ⟨Nat.le_of_ble_eq_true rfl, Nat.le_of_ble_eq_true rfl⟩ 0 rfl rfl [0, 1, 2] rfl (by decide) rfl rfl (Nat.le_of_ble_eq_true rfl) ⟨Nat.le_of_ble_eq_true rfl, Nat.le_of_ble_eq_true rfl⟩ ?_
  rintro _ sf_6 ⟨rfl, hS_sf_6⟩
  change J p l e rm_X11_onLine s m args below meth c Q G A 6 0 0 22 [(0, .ref (q 0)), (1, .long v), (3, .long w), (5, .int 1)] [] [(q 0, .inr (10, mF t n q co cr po tx ty)), (q 10, aI G 320 (rg [z0, z1, z2, z3, y_3, z5, z6, z7, z8, z9, z10, z11, z12, y_5, z14, z15])), (q 11, aZ G 16 sf_6)]
  refine j_aload_n X dX11_onLine_22 rfl 0 rfl ?_
  refine j_bipush (v := 6) X dX11_onLine_23 (by decide) ?_
  refine j_bipush (v := 13) X dX11_onLine_25 (by decide) ?_
  refine j_iconst (v := 5) X dX11_onLine_27 rfl ?_
  obtain ⟨y_7, ey_7⟩ : ∃ zz9 : Int, zz9 = y_5 * z5 := ⟨_, rfl⟩
  have by_7 : bd 126 y_7 := by rw [ey_7]; exact bd_mul by_5 b5
  refine j_callV X dX11_onLine_28 (n_mul l G q t n co cr po tx ty [z0, z1, z2, z3, y_3, z5, z6, z7, z8, z9, z10, z11, z12, y_5, z14, z15] sf_6 rfl hS_sf_6 6 6 rfl (by decide) 13 13 rfl (by decide) 5 5 rfl (by decide) (by decide) (by decide) y_7 ey_7) gX11_onLine_X11_multiply rfl hy_X11_multiply_V ⟨Nat.le_of_ble_eq_true rfl, Nat.le_of_ble_eq_true rfl⟩ 0 rfl rfl [0, 1, 2] rfl (by decide) rfl rfl (Nat.le_of_ble_eq_true rfl) ⟨Nat.le_of_ble_eq_true rfl, Nat.le_of_ble_eq_true rfl⟩ ?_
  rintro _ sf_8 ⟨rfl, hS_sf_8⟩
  change J p l e rm_X11_onLine s m args below meth c Q G A 6 0 0 31 [(0, .ref (q 0)), (1, .long v), (3, .long w), (5, .int 1)] [] [(q 0, .inr (10, mF t n q co cr po tx ty)), (q 10, aI G 320 (rg [z0, z1, z2, z3, y_3, z5, y_7, z7, z8, z9, z10, z11, z12, y_5, z14, z15])), (q 11, aZ G 16 sf_8)]
  refine j_aload_n X dX11_onLine_31 rfl 0 rfl ?_
  refine j_iload X dX11_onLine_32 3 rfl ?_
  refine j_iconst (v := 4) X dX11_onLine_34 rfl ?_
  refine j_bipush (v := 6) X dX11_onLine_35 (by decide) ?_
  refine j_iconst (v := 0) X dX11_onLine_37 rfl ?_
  obtain ⟨y_9, ey_9⟩ : ∃ zz9 : Int, zz9 = y_3 + y_7 := ⟨_, rfl⟩
  have by_9 : bd 127 y_9 := by rw [ey_9]; exact bd_add (bd_mono by_3 (by decide)) (bd_mono by_7 (by decide))
  refine j_callV X dX11_onLine_38 (n_join l G q t n co cr po tx ty [z0, z1, z2, z3, y_3, z5, y_7, z7, z8, z9, z10, z11, z12, y_5, z14, z15] sf_8 rfl hS_sf_8 1 1 rfl (by decide) 4 4 rfl (by decide) 6 6 rfl (by decide) 0 (Or.inl rfl) (by decide) (by decide) y_9 ey_9 by_3 by_7 (by decide) (by decide)) gX11_onLine_X11_join rfl hy_X11_join_V ⟨Nat.le_of_ble_eq_true rfl, Nat.le_of_ble_eq_true rfl⟩ 0 rfl rfl [0, 1, 2] rfl (by decide) rfl rfl (Nat.le_of_ble_eq_true rfl) ⟨Nat.le_of_ble_eq_true rfl, Nat.le_of_ble_eq_true rfl⟩ ?_
  rintro _ sf_10 ⟨rfl, hS_sf_10⟩
  change J p l e rm_X11_onLine s m args below meth c Q G A 6 0 0 41 [(0, .ref (q 0)), (1, .long v), (3, .long w), (5, .int 1)] [] [(q 0, .inr (10, mF t n q co cr po tx ty)), (q 10, aI G 320 (rg [z0, y_9, z2, z3, y_3, z5, y_7, z7, z8, z9, z10, z11, z12, y_5, z14, z15])), (q 11, aZ G 16 sf_10)]
  exact E.1 41 _ (y_3, y_7, y_5, y_9, sf_10) dX11_onLine_41 (⟨rfl, (by rw [ey_9, ey_3, ey_7, ey_1, ey_5]), hS_sf_10⟩) hr

abbrev rm_X11_isOfArc : Room := { frames := 2, cells := 0, slots := 0, locals := 56 }
theorem in_X11_isOfArc_X11 : ∀ w ∈ u_ws RX11 TX11 19, w ∈ wsX11_isOfArc := by decide +kernel
theorem fl_X11_isOfArc_13 : Cond.fieldLink RX11 13 (TX11 3).1 (TX11 3).2.1 (TX11 3).2.2.1 ∈ wsX11_isOfArc := by decide +kernel
theorem fl_X11_isOfArc_17 : Cond.fieldLink RX11 17 (TX11 4).1 (TX11 4).2.1 (TX11 4).2.2.1 ∈ wsX11_isOfArc := by decide +kernel
theorem fl_X11_isOfArc_159 : Cond.fieldLink RX11 159 (TX11 17).1 (TX11 17).2.1 (TX11 17).2.2.1 ∈ wsX11_isOfArc := by decide +kernel
theorem fl_X11_isOfArc_163 : Cond.fieldLink RX11 163 (TX11 18).1 (TX11 18).2.1 (TX11 18).2.2.1 ∈ wsX11_isOfArc := by decide +kernel
set_option maxHeartbeats 4000000 in
set_option maxRecDepth 100000 in
theorem c_X11_isOfArc_p (l : Launch) (G : jG) (q : Nat → Nat) (t n co cr po : Int32) (tx ty : Int64) (z0 z1 z2 z3 z4 z5 z6 z7 z8 z9 z10 z11 z12 z13 z14 z15 : Int) (sf : Nat → Int32) (hS : okS [z0, z1, z2, z3, z4, z5, z6, z7, z8, z9, z10, z11, z12, z13, z14, z15] sf) (f1 f2 : Nat → Int64) (fr to1 : Nat → Int32) (b : Nat) (bcb : inC (f1 b).toInt ∧ inC (f2 b).toInt) (hfb : 0 ≤ (fr b).toInt ∧ (fr b).toInt < 8) (htb : 0 ≤ (to1 b).toInt ∧ (to1 b).toInt < 8) (gb : b < 200) (b0 : bd 127 z0) (b1 : bd 127 z1) (b2 : bd 172 z2) (b3 : bd 84 z3) (hR : 0 ≤ z2) (btx : bd 41 tx.toInt) (bty : bd 41 ty.toInt) : Ct l yX11_isOfArc wsX11_isOfArc rm_X11_isOfArc G [.ref (q 0), .int (nI b), .int 1] [(q 0, .inr (10, mF t n q co cr po tx ty)), (q 2, aJ G 200 f1), (q 3, aJ G 200 f2), (q 6, aI G 200 fr), (q 7, aI G 200 to1), (q 10, aI G 320 (rg [z0, z1, z2, z3, z4, z5, z6, z7, z8, z9, z10, z11, z12, z13, z14, z15])), (q 11, aZ G 16 sf)] (S := Int × Int × Int × Int × Int × Int × Int × Int × Int × (Nat → Int32)) (fun r u => r = some (.int (bI (ofA (f1 b).toInt (f2 b).toInt (fr b).toInt (to1 b).toInt z0 z1 z2 z3 tx.toInt ty.toInt))) ∧ okS [z0, z1, z2, z3, u.1, u.2.1, u.2.2.1, u.2.2.2.1, u.2.2.2.2.1, z9, u.2.2.2.2.2.1, u.2.2.2.2.2.2.1, z12, u.2.2.2.2.2.2.2.1, z14, u.2.2.2.2.2.2.2.2.1] u.2.2.2.2.2.2.2.2.2) (fun u => [(q 0, .inr (10, mF t n q co cr po tx ty)), (q 2, aJ G 200 f1), (q 3, aJ G 200 f2), (q 6, aI G 200 fr), (q 7, aI G 200 to1), (q 10, aI G 320 (rg [z0, z1, z2, z3, u.1, u.2.1, u.2.2.1, u.2.2.2.1, u.2.2.2.2.1, z9, u.2.2.2.2.2.1, u.2.2.2.2.2.2.1, z12, u.2.2.2.2.2.2.2.1, z14, u.2.2.2.2.2.2.2.2.1])), (q 11, aZ G 16 u.2.2.2.2.2.2.2.2.2)]) (fun _ => []) := by
  refine c_intro (cc := cX11_isOfArc) (maxL := 7) (ret := (some .boolean)) (by decide) rfl (Nat.le_of_ble_eq_true rfl) (fun _ => by simp only [List.map_cons, List.map_nil]) ?_
  intro p e s m args below meth c Q A X hr hin E
  change J p l e rm_X11_isOfArc s m args below meth c Q G A 7 0 0 0 [(0, .ref (q 0)), (1, .int (nI b)), (2, .int 1)] [] [(q 0, .inr (10, mF t n q co cr po tx ty)), (q 2, aJ G 200 f1), (q 3, aJ G 200 f2), (q 6, aI G 200 fr), (q 7, aI G 200 to1), (q 10, aI G 320 (rg [z0, z1, z2, z3, z4, z5, z6, z7, z8, z9, z10, z11, z12, z13, z14, z15])), (q 11, aZ G 16 sf)]
  have btm : bd 42 (tx - ty).toInt := by rw [bl_sub btx bty (by decide) (by decide)]; exact bd_sub btx bty
  have btp : bd 42 (tx + ty).toInt := by rw [bl_add btx bty (by decide) (by decide)]; exact bd_add btx bty
  have hq0 : (((1 : Int32).toInt64) * tx).toInt = tx.toInt := sm_p _
  have bq0 : bd 42 (((1 : Int32).toInt64) * tx).toInt := by rw [hq0]; exact bd_mono btx (by decide)
  have hq1 : (((1 : Int32).toInt64) * ty).toInt = ty.toInt := sm_p _
  have bq1 : bd 42 (((1 : Int32).toInt64) * ty).toInt := by rw [hq1]; exact bd_mono bty (by decide)
  have hq2 : (((1 : Int32).toInt64) * (tx - ty)).toInt = (tx - ty).toInt := sm_p _
  have bq2 : bd 42 (((1 : Int32).toInt64) * (tx - ty)).toInt := by rw [hq2]; exact bd_mono btm (by decide)
  have hq3 : (((1 : Int32).toInt64) * (tx + ty)).toInt = (tx + ty).toInt := sm_p _
  have bq3 : bd 42 (((1 : Int32).toInt64) * (tx + ty)).toInt := by rw [hq3]; exact bd_mono btp (by decide)
  refine j_aload_n X dX11_isOfArc_0 rfl 0 rfl ?_
  refine j_bipush (v := 13) X dX11_isOfArc_1 (by decide) ?_
  refine j_aload_n X dX11_isOfArc_3 rfl 0 rfl ?_
  refine j_get (v := .ref (q 2)) X dX11_isOfArc_4 0 rfl 3 rfl in_X11_isOfArc_X11 (by decide) fl_X11_isOfArc_13 rfl ?_
  refine j_iload_n X dX11_isOfArc_7 rfl 1 rfl ?_
  refine j_lald X dX11_isOfArc_8 1 rfl b rfl gb (by decide) ?_
  obtain ⟨y_1, ey_1⟩ : ∃ zz9 : Int, zz9 = (f1 b).toInt := ⟨_, rfl⟩
  have by_1 : bd 40 y_1 := by rw [ey_1]; exact (bd_C bcb.1)
  refine j_callV X dX11_isOfArc_9 (n_load l G q t n co cr po tx ty [z0, z1, z2, z3, z4, z5, z6, z7, z8, z9, z10, z11, z12, z13, z14, z15] sf rfl hS 13 13 rfl (by decide) (f1 b) y_1 ey_1) gX11_isOfArc_X11_load rfl hy_X11_load_V ⟨Nat.le_of_ble_eq_true rfl, Nat.le_of_ble_eq_true rfl⟩ 0 rfl rfl [0, 5, 6] rfl (by decide) rfl rfl (Nat.le_of_ble_eq_true rfl) ⟨Nat.le_of_ble_eq_true rfl, Nat.le_of_ble_eq_true rfl⟩ ?_
  rintro _ sf_2 ⟨rfl, hS_sf_2⟩
  change J p l e rm_X11_isOfArc s m args below meth c Q G A 7 0 0 12 [(0, .ref (q 0)), (1, .int (nI b)), (2, .int 1)] [] [(q 0, .inr (10, mF t n q co cr po tx ty)), (q 2, aJ G 200 f1), (q 3, aJ G 200 f2), (q 6, aI G 200 fr), (q 7, aI G 200 to1), (q 10, aI G 320 (rg [z0, z1, z2, z3, z4, z5, z6, z7, z8, z9, z10, z11, z12, y_1, z14, z15])), (q 11, aZ G 16 sf_2)]
  refine j_aload_n X dX11_isOfArc_12 rfl 0 rfl ?_
  refine j_iconst (v := 4) X dX11_isOfArc_13 rfl ?_
  refine j_bipush (v := 13) X dX11_isOfArc_14 (by decide) ?_
  refine j_iconst (v := 3) X dX11_isOfArc_16 rfl ?_
  obtain ⟨y_3, ey_3⟩ : ∃ zz9 : Int, zz9 = y_1 * z3 := ⟨_, rfl⟩
  have by_3 : bd 124 y_3 := by rw [ey_3]; exact bd_mul by_1 b3
  refine j_callV X dX11_isOfArc_17 (n_mul l G q t n co cr po tx ty [z0, z1, z2, z3, z4, z5, z6, z7, z8, z9, z10, z11, z12, y_1, z14, z15] sf_2 rfl hS_sf_2 4 4 rfl (by decide) 13 13 rfl (by decide) 3 3 rfl (by decide) (by decide) (by decide) y_3 ey_3) gX11_isOfArc_X11_multiply rfl hy_X11_multiply_V ⟨Nat.le_of_ble_eq_true rfl, Nat.le_of_ble_eq_true rfl⟩ 0 rfl rfl [0, 5, 6] rfl (by decide) rfl rfl (Nat.le_of_ble_eq_true rfl) ⟨Nat.le_of_ble_eq_true rfl, Nat.le_of_ble_eq_true rfl⟩ ?_
  rintro _ sf_4 ⟨rfl, hS_sf_4⟩
  change J p l e rm_X11_isOfArc s m args below meth c Q G A 7 0 0 20 [(0, .ref (q 0)), (1, .int (nI b)), (2, .int 1)] [] [(q 0, .inr (10, mF t n q co cr po tx ty)), (q 2, aJ G 200 f1), (q 3, aJ G 200 f2), (q 6, aI G 200 fr), (q 7, aI G 200 to1), (q 10, aI G 320 (rg [z0, z1, z2, z3, y_3, z5, z6, z7, z8, z9, z10, z11, z12, y_1, z14, z15])), (q 11, aZ G 16 sf_4)]
  refine j_aload_n X dX11_isOfArc_20 rfl 0 rfl ?_
  refine j_iconst (v := 5) X dX11_isOfArc_21 rfl ?_
  refine j_iconst (v := 0) X dX11_isOfArc_22 rfl ?_
  refine j_iconst (v := 4) X dX11_isOfArc_23 rfl ?_
  refine j_iconst (v := 1) X dX11_isOfArc_24 rfl ?_
  obtain ⟨y_5, ey_5⟩ : ∃ zz9 : Int, zz9 = z0 - y_3 := ⟨_, rfl⟩
  have by_5 : bd 128 y_5 := by rw [ey_5]; exact bd_sub (bd_mono b0 (by decide)) (bd_mono by_3 (by decide))
  refine j_callV X dX11_isOfArc_25 (n_join l G q t n co cr po tx ty [z0, z1, z2, z3, y_3, z5, z6, z7, z8, z9, z10, z11, z12, y_1, z14, z15] sf_4 rfl hS_sf_4 5 5 rfl (by decide) 0 0 rfl (by decide) 4 4 rfl (by decide) 1 (Or.inr rfl) (by decide) (by decide) y_5 ey_5 b0 by_3 (by decide) (by decide)) gX11_isOfArc_X11_join rfl hy_X11_join_V ⟨Nat.le_of_ble_eq_true rfl, Nat.le_of_ble_eq_true rfl⟩ 0 rfl rfl [0, 5, 6] rfl (by decide) rfl rfl (Nat.le_of_ble_eq_true rfl) ⟨Nat.le_of_ble_eq_true rfl, Nat.le_of_ble_eq_true rfl⟩ ?_
  rintro _ sf_6 ⟨rfl, hS_sf_6⟩
  change J p l e rm_X11_isOfArc s m args below meth c Q G A 7 0 0 28 [(0, .ref (q 0)), (1, .int (nI b)), (2, .int 1)] [] [(q 0, .inr (10, mF t n q co cr po tx ty)), (q 2, aJ G 200 f1), (q 3, aJ G 200 f2), (q 6, aI G 200 fr), (q 7, aI G 200 to1), (q 10, aI G 320 (rg [z0, z1, z2, z3, y_3, y_5, z6, z7, z8, z9, z10, z11, z12, y_1, z14, z15])), (q 11, aZ G 16 sf_6)]
  refine j_aload_n X dX11_isOfArc_28 rfl 0 rfl ?_
  refine j_bipush (v := 13) X dX11_isOfArc_29 (by decide) ?_
  refine j_aload_n X dX11_isOfArc_31 rfl 0 rfl ?_
  refine j_get (v := .ref (q 3)) X dX11_isOfArc_32 0 rfl 4 rfl in_X11_isOfArc_X11 (by decide) fl_X11_isOfArc_17 rfl ?_
  refine j_iload_n X dX11_isOfArc_35 rfl 1 rfl ?_
  refine j_lald X dX11_isOfArc_36 2 rfl b rfl gb (by decide) ?_
  obtain ⟨y_7, ey_7⟩ : ∃ zz9 : Int, zz9 = (f2 b).toInt := ⟨_, rfl⟩
  have by_7 : bd 40 y_7 := by rw [ey_7]; exact (bd_C bcb.2)
  refine j_callV X dX11_isOfArc_37 (n_load l G q t n co cr po tx ty [z0, z1, z2, z3, y_3, y_5, z6, z7, z8, z9, z10, z11, z12, y_1, z14, z15] sf_6 rfl hS_sf_6 13 13 rfl (by decide) (f2 b) y_7 ey_7) gX11_isOfArc_X11_load rfl hy_X11_load_V ⟨Nat.le_of_ble_eq_true rfl, Nat.le_of_ble_eq_true rfl⟩ 0 rfl rfl [0, 5, 6] rfl (by decide) rfl rfl (Nat.le_of_ble_eq_true rfl) ⟨Nat.le_of_ble_eq_true rfl, Nat.le_of_ble_eq_true rfl⟩ ?_
  rintro _ sf_8 ⟨rfl, hS_sf_8⟩
  change J p l e rm_X11_isOfArc s m args below meth c Q G A 7 0 0 40 [(0, .ref (q 0)), (1, .int (nI b)), (2, .int 1)] [] [(q 0, .inr (10, mF t n q co cr po tx ty)), (q 2, aJ G 200 f1), (q 3, aJ G 200 f2), (q 6, aI G 200 fr), (q 7, aI G 200 to1), (q 10, aI G 320 (rg [z0, z1, z2, z3, y_3, y_5, z6, z7, z8, z9, z10, z11, z12, y_7, z14, z15])), (q 11, aZ G 16 sf_8)]
  refine j_aload_n X dX11_isOfArc_40 rfl 0 rfl ?_
  refine j_iconst (v := 4) X dX11_isOfArc_41 rfl ?_
  refine j_bipush (v := 13) X dX11_isOfArc_42 (by decide) ?_
  refine j_iconst (v := 3) X dX11_isOfArc_44 rfl ?_
  obtain ⟨y_9, ey_9⟩ : ∃ zz9 : Int, zz9 = y_7 * z3 := ⟨_, rfl⟩
  have by_9 : bd 124 y_9 := by rw [ey_9]; exact bd_mul by_7 b3
  refine j_callV X dX11_isOfArc_45 (n_mul l G q t n co cr po tx ty [z0, z1, z2, z3, y_3, y_5, z6, z7, z8, z9, z10, z11, z12, y_7, z14, z15] sf_8 rfl hS_sf_8 4 4 rfl (by decide) 13 13 rfl (by decide) 3 3 rfl (by decide) (by decide) (by decide) y_9 ey_9) gX11_isOfArc_X11_multiply rfl hy_X11_multiply_V ⟨Nat.le_of_ble_eq_true rfl, Nat.le_of_ble_eq_true rfl⟩ 0 rfl rfl [0, 5, 6] rfl (by decide) rfl rfl (Nat.le_of_ble_eq_true rfl) ⟨Nat.le_of_ble_eq_true rfl, Nat.le_of_ble_eq_true rfl⟩ ?_
  rintro _ sf_10 ⟨rfl, hS_sf_10⟩
  change J p l e rm_X11_isOfArc s m args below meth c Q G A 7 0 0 48 [(0, .ref (q 0)), (1, .int (nI b)), (2, .int 1)] [] [(q 0, .inr (10, mF t n q co cr po tx ty)), (q 2, aJ G 200 f1), (q 3, aJ G 200 f2), (q 6, aI G 200 fr), (q 7, aI G 200 to1), (q 10, aI G 320 (rg [z0, z1, z2, z3, y_9, y_5, z6, z7, z8, z9, z10, z11, z12, y_7, z14, z15])), (q 11, aZ G 16 sf_10)]
  refine j_aload_n X dX11_isOfArc_48 rfl 0 rfl ?_
  refine j_bipush (v := 6) X dX11_isOfArc_49 (by decide) ?_
  refine j_iconst (v := 1) X dX11_isOfArc_51 rfl ?_
  refine j_iconst (v := 4) X dX11_isOfArc_52 rfl ?_
  refine j_iconst (v := 1) X dX11_isOfArc_53 rfl ?_
  obtain ⟨y_11, ey_11⟩ : ∃ zz9 : Int, zz9 = z1 - y_9 := ⟨_, rfl⟩
  have by_11 : bd 128 y_11 := by rw [ey_11]; exact bd_sub (bd_mono b1 (by decide)) (bd_mono by_9 (by decide))
  refine j_callV X dX11_isOfArc_54 (n_join l G q t n co cr po tx ty [z0, z1, z2, z3, y_9, y_5, z6, z7, z8, z9, z10, z11, z12, y_7, z14, z15] sf_10 rfl hS_sf_10 6 6 rfl (by decide) 1 1 rfl (by decide) 4 4 rfl (by decide) 1 (Or.inr rfl) (by decide) (by decide) y_11 ey_11 b1 by_9 (by decide) (by decide)) gX11_isOfArc_X11_join rfl hy_X11_join_V ⟨Nat.le_of_ble_eq_true rfl, Nat.le_of_ble_eq_true rfl⟩ 0 rfl rfl [0, 5, 6] rfl (by decide) rfl rfl (Nat.le_of_ble_eq_true rfl) ⟨Nat.le_of_ble_eq_true rfl, Nat.le_of_ble_eq_true rfl⟩ ?_
  rintro _ sf_12 ⟨rfl, hS_sf_12⟩
  change J p l e rm_X11_isOfArc s m args below meth c Q G A 7 0 0 57 [(0, .ref (q 0)), (1, .int (nI b)), (2, .int 1)] [] [(q 0, .inr (10, mF t n q co cr po tx ty)), (q 2, aJ G 200 f1), (q 3, aJ G 200 f2), (q 6, aI G 200 fr), (q 7, aI G 200 to1), (q 10, aI G 320 (rg [z0, z1, z2, z3, y_9, y_5, y_11, z7, z8, z9, z10, z11, z12, y_7, z14, z15])), (q 11, aZ G 16 sf_12)]
  refine j_aload_n X dX11_isOfArc_57 rfl 0 rfl ?_
  refine j_bipush (v := 7) X dX11_isOfArc_58 (by decide) ?_
  refine j_iconst (v := 5) X dX11_isOfArc_60 rfl ?_
  refine j_bipush (v := 6) X dX11_isOfArc_61 (by decide) ?_
  refine j_iconst (v := 1) X dX11_isOfArc_63 rfl ?_
  obtain ⟨y_13, ey_13⟩ : ∃ zz9 : Int, zz9 = y_5 - y_11 := ⟨_, rfl⟩
  have by_13 : bd 129 y_13 := by rw [ey_13]; exact bd_sub (bd_mono by_5 (by decide)) (bd_mono by_11 (by decide))
  refine j_callV X dX11_isOfArc_64 (n_join l G q t n co cr po tx ty [z0, z1, z2, z3, y_9, y_5, y_11, z7, z8, z9, z10, z11, z12, y_7, z14, z15] sf_12 rfl hS_sf_12 7 7 rfl (by decide) 5 5 rfl (by decide) 6 6 rfl (by decide) 1 (Or.inr rfl) (by decide) (by decide) y_13 ey_13 by_5 by_11 (by decide) (by decide)) gX11_isOfArc_X11_join rfl hy_X11_join_V ⟨Nat.le_of_ble_eq_true rfl, Nat.le_of_ble_eq_true rfl⟩ 0 rfl rfl [0, 5, 6] rfl (by decide) rfl rfl (Nat.le_of_ble_eq_true rfl) ⟨Nat.le_of_ble_eq_true rfl, Nat.le_of_ble_eq_true rfl⟩ ?_
  rintro _ sf_14 ⟨rfl, hS_sf_14⟩
  change J p l e rm_X11_isOfArc s m args below meth c Q G A 7 0 0 67 [(0, .ref (q 0)), (1, .int (nI b)), (2, .int 1)] [] [(q 0, .inr (10, mF t n q co cr po tx ty)), (q 2, aJ G 200 f1), (q 3, aJ G 200 f2), (q 6, aI G 200 fr), (q 7, aI G 200 to1), (q 10, aI G 320 (rg [z0, z1, z2, z3, y_9, y_5, y_11, y_13, z8, z9, z10, z11, z12, y_7, z14, z15])), (q 11, aZ G 16 sf_14)]
  refine j_aload_n X dX11_isOfArc_67 rfl 0 rfl ?_
  refine j_bipush (v := 8) X dX11_isOfArc_68 (by decide) ?_
  refine j_iconst (v := 5) X dX11_isOfArc_70 rfl ?_
  refine j_bipush (v := 6) X dX11_isOfArc_71 (by decide) ?_
  refine j_iconst (v := 0) X dX11_isOfArc_73 rfl ?_
  obtain ⟨y_15, ey_15⟩ : ∃ zz9 : Int, zz9 = y_5 + y_11 := ⟨_, rfl⟩
  have by_15 : bd 129 y_15 := by rw [ey_15]; exact bd_add (bd_mono by_5 (by decide)) (bd_mono by_11 (by decide))
  refine j_callV X dX11_isOfArc_74 (n_join l G q t n co cr po tx ty [z0, z1, z2, z3, y_9, y_5, y_11, y_13, z8, z9, z10, z11, z12, y_7, z14, z15] sf_14 rfl hS_sf_14 8 8 rfl (by decide) 5 5 rfl (by decide) 6 6 rfl (by decide) 0 (Or.inl rfl) (by decide) (by decide) y_15 ey_15 by_5 by_11 (by decide) (by decide)) gX11_isOfArc_X11_join rfl hy_X11_join_V ⟨Nat.le_of_ble_eq_true rfl, Nat.le_of_ble_eq_true rfl⟩ 0 rfl rfl [0, 5, 6] rfl (by decide) rfl rfl (Nat.le_of_ble_eq_true rfl) ⟨Nat.le_of_ble_eq_true rfl, Nat.le_of_ble_eq_true rfl⟩ ?_
  rintro _ sf_16 ⟨rfl, hS_sf_16⟩
  change J p l e rm_X11_isOfArc s m args below meth c Q G A 7 0 0 77 [(0, .ref (q 0)), (1, .int (nI b)), (2, .int 1)] [] [(q 0, .inr (10, mF t n q co cr po tx ty)), (q 2, aJ G 200 f1), (q 3, aJ G 200 f2), (q 6, aI G 200 fr), (q 7, aI G 200 to1), (q 10, aI G 320 (rg [z0, z1, z2, z3, y_9, y_5, y_11, y_13, y_15, z9, z10, z11, z12, y_7, z14, z15])), (q 11, aZ G 16 sf_16)]
  refine j_aload_n X dX11_isOfArc_77 rfl 0 rfl ?_
  refine j_iconst (v := 5) X dX11_isOfArc_78 rfl ?_
  refine j_iload_n X dX11_isOfArc_79 rfl 2 rfl ?_
  refine j_i2l X dX11_isOfArc_80 rfl ?_
  refine j_aload_n X dX11_isOfArc_81 rfl 0 rfl ?_
  refine j_get (v := .long tx) X dX11_isOfArc_82 0 rfl 17 rfl in_X11_isOfArc_X11 (by decide) fl_X11_isOfArc_159 rfl ?_
  refine j_lmul X dX11_isOfArc_85 ?_
  refine j_iconst (v := 2) X dX11_isOfArc_86 rfl ?_
  refine j_callV X dX11_isOfArc_87 (c_X11_signOf_5_2 l G q t n co cr po tx ty z0 z1 z2 z3 y_9 y_5 y_11 y_13 y_15 z9 z10 z11 z12 y_7 z14 z15 sf_16 hS_sf_16 (((1 : Int32).toInt64) * tx) hR (bd_mono by_5 (by decide)) (bd_mono bq0 (by decide)) (bd_mono b2 (by decide))) gX11_isOfArc_X11_signOf rfl hy_X11_signOf_V ⟨Nat.le_of_ble_eq_true rfl, Nat.le_of_ble_eq_true rfl⟩ 0 rfl rfl [0, 5, 6] rfl (by decide) rfl rfl (Nat.le_of_ble_eq_true rfl) ⟨Nat.le_of_ble_eq_true rfl, Nat.le_of_ble_eq_true rfl⟩ ?_
  rintro _ ⟨y_18, y_19, y_20, y_21, sf_17⟩ ⟨rfl, hS_sf_17⟩
  dsimp only at hS_sf_17
  change J p l e rm_X11_isOfArc s m args below meth c Q G A 7 0 0 90 [(0, .ref (q 0)), (1, .int (nI b)), (2, .int 1)] [.int (rn y_5 (((1 : Int32).toInt64) * tx).toInt z2)] [(q 0, .inr (10, mF t n q co cr po tx ty)), (q 2, aJ G 200 f1), (q 3, aJ G 200 f2), (q 6, aI G 200 fr), (q 7, aI G 200 to1), (q 10, aI G 320 (rg [z0, z1, z2, z3, y_9, y_5, y_11, y_13, y_15, z9, y_18, y_19, z12, y_20, z14, y_21])), (q 11, aZ G 16 sf_17)]
  refine j_topi (fun x_22 ex_22 => ?_)
  refine j_istore_n (L' := [(3, .int x_22), (0, .ref (q 0)), (1, .int (nI b)), (2, .int 1)]) X dX11_isOfArc_90 rfl (by decide) rfl ?_
  refine j_aload_n X dX11_isOfArc_91 rfl 1 rfl ?_
  refine j_bipush (v := 6) X dX11_isOfArc_92 (by decide) ?_
  refine j_iload_n X dX11_isOfArc_94 rfl 3 rfl ?_
  refine j_i2l X dX11_isOfArc_95 rfl ?_
  refine j_aload_n X dX11_isOfArc_96 rfl 1 rfl ?_
  refine j_get (v := .long ty) X dX11_isOfArc_97 0 rfl 18 rfl in_X11_isOfArc_X11 (by decide) fl_X11_isOfArc_163 rfl ?_
  refine j_lmul X dX11_isOfArc_100 ?_
  refine j_iconst (v := 2) X dX11_isOfArc_101 rfl ?_
  refine j_callV X dX11_isOfArc_102 (c_X11_signOf_6_2 l G q t n co cr po tx ty z0 z1 z2 z3 y_9 y_5 y_11 y_13 y_15 z9 y_18 y_19 z12 y_20 z14 y_21 sf_17 hS_sf_17 (((1 : Int32).toInt64) * ty) hR (bd_mono by_11 (by decide)) (bd_mono bq1 (by decide)) (bd_mono b2 (by decide))) gX11_isOfArc_X11_signOf rfl hy_X11_signOf_V ⟨Nat.le_of_ble_eq_true rfl, Nat.le_of_ble_eq_true rfl⟩ 0 rfl rfl [0, 5, 6] rfl (by decide) rfl rfl (Nat.le_of_ble_eq_true rfl) ⟨Nat.le_of_ble_eq_true rfl, Nat.le_of_ble_eq_true rfl⟩ ?_
  rintro _ ⟨y_24, y_25, y_26, y_27, sf_23⟩ ⟨rfl, hS_sf_23⟩
  dsimp only at hS_sf_23
  change J p l e rm_X11_isOfArc s m args below meth c Q G A 7 0 0 105 [(3, .int x_22), (0, .ref (q 0)), (1, .int (nI b)), (2, .int 1)] [.int (rn y_11 (((1 : Int32).toInt64) * ty).toInt z2)] [(q 0, .inr (10, mF t n q co cr po tx ty)), (q 2, aJ G 200 f1), (q 3, aJ G 200 f2), (q 6, aI G 200 fr), (q 7, aI G 200 to1), (q 10, aI G 320 (rg [z0, z1, z2, z3, y_9, y_5, y_11, y_13, y_15, z9, y_24, y_25, z12, y_26, z14, y_27])), (q 11, aZ G 16 sf_23)]
  refine j_topi (fun x_28 ex_28 => ?_)
  refine j_istore (L' := [(4, .int x_28), (3, .int x_22), (0, .ref (q 0)), (1, .int (nI b)), (2, .int 1)]) X dX11_isOfArc_105 (by decide) rfl ?_
  refine j_aload_n X dX11_isOfArc_107 rfl 2 rfl ?_
  refine j_bipush (v := 7) X dX11_isOfArc_108 (by decide) ?_
  refine j_iload_n X dX11_isOfArc_110 rfl 4 rfl ?_
  refine j_i2l X dX11_isOfArc_111 rfl ?_
  refine j_aload_n X dX11_isOfArc_112 rfl 2 rfl ?_
  refine j_get (v := .long tx) X dX11_isOfArc_113 0 rfl 17 rfl in_X11_isOfArc_X11 (by decide) fl_X11_isOfArc_159 rfl ?_
  refine j_aload_n X dX11_isOfArc_116 rfl 2 rfl ?_
  refine j_get (v := .long ty) X dX11_isOfArc_117 0 rfl 18 rfl in_X11_isOfArc_X11 (by decide) fl_X11_isOfArc_163 rfl ?_
  refine j_lsub X dX11_isOfArc_120 ?_
  refine j_lmul X dX11_isOfArc_121 ?_
  refine j_iconst (v := 2) X dX11_isOfArc_122 rfl ?_
  refine j_callV X dX11_isOfArc_123 (c_X11_signOf_7_2 l G q t n co cr po tx ty z0 z1 z2 z3 y_9 y_5 y_11 y_13 y_15 z9 y_24 y_25 z12 y_26 z14 y_27 sf_23 hS_sf_23 (((1 : Int32).toInt64) * (tx - ty)) hR (bd_mono by_13 (by decide)) (bd_mono bq2 (by decide)) (bd_mono b2 (by decide))) gX11_isOfArc_X11_signOf rfl hy_X11_signOf_V ⟨Nat.le_of_ble_eq_true rfl, Nat.le_of_ble_eq_true rfl⟩ 0 rfl rfl [0, 5, 6] rfl (by decide) rfl rfl (Nat.le_of_ble_eq_true rfl) ⟨Nat.le_of_ble_eq_true rfl, Nat.le_of_ble_eq_true rfl⟩ ?_
  rintro _ ⟨y_30, y_31, y_32, y_33, sf_29⟩ ⟨rfl, hS_sf_29⟩
  dsimp only at hS_sf_29
  change J p l e rm_X11_isOfArc s m args below meth c Q G A 7 0 0 126 [(4, .int x_28), (3, .int x_22), (0, .ref (q 0)), (1, .int (nI b)), (2, .int 1)] [.int (rn y_13 (((1 : Int32).toInt64) * (tx - ty)).toInt z2)] [(q 0, .inr (10, mF t n q co cr po tx ty)), (q 2, aJ G 200 f1), (q 3, aJ G 200 f2), (q 6, aI G 200 fr), (q 7, aI G 200 to1), (q 10, aI G 320 (rg [z0, z1, z2, z3, y_9, y_5, y_11, y_13, y_15, z9, y_30, y_31, z12, y_32, z14, y_33])), (q 11, aZ G 16 sf_29)]
  refine j_topi (fun x_34 ex_34 => ?_)
  refine j_istore (L' := [(5, .int x_34), (4, .int x_28), (3, .int x_22), (0, .ref (q 0)), (1, .int (nI b)), (2, .int 1)]) X dX11_isOfArc_126 (by decide) rfl ?_
  refine j_aload_n X dX11_isOfArc_128 rfl 3 rfl ?_
  refine j_bipush (v := 8) X dX11_isOfArc_129 (by decide) ?_
  refine j_iload_n X dX11_isOfArc_131 rfl 5 rfl ?_
  refine j_i2l X dX11_isOfArc_132 rfl ?_
  refine j_aload_n X dX11_isOfArc_133 rfl 3 rfl ?_
  refine j_get (v := .long tx) X dX11_isOfArc_134 0 rfl 17 rfl in_X11_isOfArc_X11 (by decide) fl_X11_isOfArc_159 rfl ?_
  refine j_aload_n X dX11_isOfArc_137 rfl 3 rfl ?_
  refine j_get (v := .long ty) X dX11_isOfArc_138 0 rfl 18 rfl in_X11_isOfArc_X11 (by decide) fl_X11_isOfArc_163 rfl ?_
  refine j_ladd X dX11_isOfArc_141 ?_
  refine j_lmul X dX11_isOfArc_142 ?_
  refine j_iconst (v := 2) X dX11_isOfArc_143 rfl ?_
  refine j_callV X dX11_isOfArc_144 (c_X11_signOf_8_2 l G q t n co cr po tx ty z0 z1 z2 z3 y_9 y_5 y_11 y_13 y_15 z9 y_30 y_31 z12 y_32 z14 y_33 sf_29 hS_sf_29 (((1 : Int32).toInt64) * (tx + ty)) hR (bd_mono by_15 (by decide)) (bd_mono bq3 (by decide)) (bd_mono b2 (by decide))) gX11_isOfArc_X11_signOf rfl hy_X11_signOf_V ⟨Nat.le_of_ble_eq_true rfl, Nat.le_of_ble_eq_true rfl⟩ 0 rfl rfl [0, 5, 6] rfl (by decide) rfl rfl (Nat.le_of_ble_eq_true rfl) ⟨Nat.le_of_ble_eq_true rfl, Nat.le_of_ble_eq_true rfl⟩ ?_
  rintro _ ⟨y_36, y_37, y_38, y_39, sf_35⟩ ⟨rfl, hS_sf_35⟩
  dsimp only at hS_sf_35
  change J p l e rm_X11_isOfArc s m args below meth c Q G A 7 0 0 147 [(5, .int x_34), (4, .int x_28), (3, .int x_22), (0, .ref (q 0)), (1, .int (nI b)), (2, .int 1)] [.int (rn y_15 (((1 : Int32).toInt64) * (tx + ty)).toInt z2)] [(q 0, .inr (10, mF t n q co cr po tx ty)), (q 2, aJ G 200 f1), (q 3, aJ G 200 f2), (q 6, aI G 200 fr), (q 7, aI G 200 to1), (q 10, aI G 320 (rg [z0, z1, z2, z3, y_9, y_5, y_11, y_13, y_15, z9, y_36, y_37, z12, y_38, z14, y_39])), (q 11, aZ G 16 sf_35)]
  refine j_topi (fun x_40 ex_40 => ?_)
  refine j_istore (L' := [(6, .int x_40), (5, .int x_34), (4, .int x_28), (3, .int x_22), (0, .ref (q 0)), (1, .int (nI b)), (2, .int 1)]) X dX11_isOfArc_147 (by decide) rfl ?_
  refine j_aload_n X dX11_isOfArc_149 rfl 4 rfl ?_
  refine j_iload_n X dX11_isOfArc_150 rfl 5 rfl ?_
  refine j_iload_n X dX11_isOfArc_151 rfl 3 rfl ?_
  refine j_iload X dX11_isOfArc_152 2 rfl ?_
  refine j_iload X dX11_isOfArc_154 1 rfl ?_
  refine j_iload X dX11_isOfArc_156 0 rfl ?_
  refine j_callS X dX11_isOfArc_158 (c_X11_position l G x_22 x_28 x_34 x_40) gX11_isOfArc_X11_position rfl hy_X11_position_S ⟨Nat.le_of_ble_eq_true rfl, Nat.le_of_ble_eq_true rfl⟩ [] rfl (by decide) rfl rfl (Nat.le_of_ble_eq_true rfl) ⟨Nat.le_of_ble_eq_true rfl, Nat.le_of_ble_eq_true rfl⟩ ?_
  rintro _ ⟨⟩ rfl
  change J p l e rm_X11_isOfArc s m args below meth c Q G A 7 0 0 161 [(6, .int x_40), (5, .int x_34), (4, .int x_28), (3, .int x_22), (0, .ref (q 0)), (1, .int (nI b)), (2, .int 1)] [.int (posn x_22 x_28 x_34 x_40), .int (nI b), .ref (q 0)] [(q 0, .inr (10, mF t n q co cr po tx ty)), (q 2, aJ G 200 f1), (q 3, aJ G 200 f2), (q 6, aI G 200 fr), (q 7, aI G 200 to1), (q 10, aI G 320 (rg [z0, z1, z2, z3, y_9, y_5, y_11, y_13, y_15, z9, y_36, y_37, z12, y_38, z14, y_39])), (q 11, aZ G 16 sf_35)]
  refine j_callV X dX11_isOfArc_161 (c_X11_isTurned l G q t n co cr po tx ty fr to1 b gb (posn x_22 x_28 x_34 x_40) (by rw [ex_34, ex_40]; exact posn_r (rn_r _ _ _) (rn_r _ _ _)) hfb htb) gX11_isOfArc_X11_isTurned rfl hy_X11_isTurned_V ⟨Nat.le_of_ble_eq_true rfl, Nat.le_of_ble_eq_true rfl⟩ 0 rfl rfl [0, 3, 4] rfl (by decide) rfl rfl (Nat.le_of_ble_eq_true rfl) ⟨Nat.le_of_ble_eq_true rfl, Nat.le_of_ble_eq_true rfl⟩ ?_
  rintro _ ⟨⟩ rfl
  change J p l e rm_X11_isOfArc s m args below meth c Q G A 7 0 0 164 [(6, .int x_40), (5, .int x_34), (4, .int x_28), (3, .int x_22), (0, .ref (q 0)), (1, .int (nI b)), (2, .int 1)] [.int (bI (trn (fr b).toInt (to1 b).toInt (posn x_22 x_28 x_34 x_40).toInt))] [(q 0, .inr (10, mF t n q co cr po tx ty)), (q 2, aJ G 200 f1), (q 3, aJ G 200 f2), (q 6, aI G 200 fr), (q 7, aI G 200 to1), (q 10, aI G 320 (rg [z0, z1, z2, z3, y_9, y_5, y_11, y_13, y_15, z9, y_36, y_37, z12, y_38, z14, y_39])), (q 11, aZ G 16 sf_35)]
  exact E.2.1 164 _ (bI (trn (fr b).toInt (to1 b).toInt (posn x_22 x_28 x_34 x_40).toInt)) (y_9, y_5, y_11, y_13, y_15, y_36, y_37, y_38, y_39, sf_35) _ dX11_isOfArc_164 (⟨by rw [ex_22, ex_28, ex_34, ex_40, hq0, hq1, hq2, hq3, bl_sub btx bty (by decide) (by decide), bl_add btx bty (by decide) (by decide)]; rw [ey_13, ey_15, ey_5, ey_11, ey_3, ey_9, ey_1, ey_7], hS_sf_35⟩) hr (nar_I _)

theorem hy_X11_isOfArc_V : yX11_isOfArc.cls = RX11 ∧ yX11_isOfArc.cls ≠ "java/lang/invoke/MethodHandle" ∧ yX11_isOfArc.cls ≠ "java/lang/invoke/VarHandle" ∧ (parseMethodDescriptor yX11_isOfArc.desc).map (fun d => d.parameters.length) = some 2 := by decide +kernel
set_option maxHeartbeats 4000000 in
set_option maxRecDepth 100000 in
theorem c_X11_isOfArc_n (l : Launch) (G : jG) (q : Nat → Nat) (t n co cr po : Int32) (tx ty : Int64) (z0 z1 z2 z3 z4 z5 z6 z7 z8 z9 z10 z11 z12 z13 z14 z15 : Int) (sf : Nat → Int32) (hS : okS [z0, z1, z2, z3, z4, z5, z6, z7, z8, z9, z10, z11, z12, z13, z14, z15] sf) (f1 f2 : Nat → Int64) (fr to1 : Nat → Int32) (b : Nat) (bcb : inC (f1 b).toInt ∧ inC (f2 b).toInt) (hfb : 0 ≤ (fr b).toInt ∧ (fr b).toInt < 8) (htb : 0 ≤ (to1 b).toInt ∧ (to1 b).toInt < 8) (gb : b < 200) (b0 : bd 127 z0) (b1 : bd 127 z1) (b2 : bd 172 z2) (b3 : bd 84 z3) (hR : 0 ≤ z2) (btx : bd 41 tx.toInt) (bty : bd 41 ty.toInt) : Ct l yX11_isOfArc wsX11_isOfArc rm_X11_isOfArc G [.ref (q 0), .int (nI b), .int (-1)] [(q 0, .inr (10, mF t n q co cr po tx ty)), (q 2, aJ G 200 f1), (q 3, aJ G 200 f2), (q 6, aI G 200 fr), (q 7, aI G 200 to1), (q 10, aI G 320 (rg [z0, z1, z2, z3, z4, z5, z6, z7, z8, z9, z10, z11, z12, z13, z14, z15])), (q 11, aZ G 16 sf)] (S := Int × Int × Int × Int × Int × Int × Int × Int × Int × (Nat → Int32)) (fun r u => r = some (.int (bI (ofA (f1 b).toInt (f2 b).toInt (fr b).toInt (to1 b).toInt z0 z1 z2 z3 (-tx.toInt) (-ty.toInt)))) ∧ okS [z0, z1, z2, z3, u.1, u.2.1, u.2.2.1, u.2.2.2.1, u.2.2.2.2.1, z9, u.2.2.2.2.2.1, u.2.2.2.2.2.2.1, z12, u.2.2.2.2.2.2.2.1, z14, u.2.2.2.2.2.2.2.2.1] u.2.2.2.2.2.2.2.2.2) (fun u => [(q 0, .inr (10, mF t n q co cr po tx ty)), (q 2, aJ G 200 f1), (q 3, aJ G 200 f2), (q 6, aI G 200 fr), (q 7, aI G 200 to1), (q 10, aI G 320 (rg [z0, z1, z2, z3, u.1, u.2.1, u.2.2.1, u.2.2.2.1, u.2.2.2.2.1, z9, u.2.2.2.2.2.1, u.2.2.2.2.2.2.1, z12, u.2.2.2.2.2.2.2.1, z14, u.2.2.2.2.2.2.2.2.1])), (q 11, aZ G 16 u.2.2.2.2.2.2.2.2.2)]) (fun _ => []) := by
  refine c_intro (cc := cX11_isOfArc) (maxL := 7) (ret := (some .boolean)) (by decide) rfl (Nat.le_of_ble_eq_true rfl) (fun _ => by simp only [List.map_cons, List.map_nil]) ?_
  intro p e s m args below meth c Q A X hr hin E
  change J p l e rm_X11_isOfArc s m args below meth c Q G A 7 0 0 0 [(0, .ref (q 0)), (1, .int (nI b)), (2, .int (-1))] [] [(q 0, .inr (10, mF t n q co cr po tx ty)), (q 2, aJ G 200 f1), (q 3, aJ G 200 f2), (q 6, aI G 200 fr), (q 7, aI G 200 to1), (q 10, aI G 320 (rg [z0, z1, z2, z3, z4, z5, z6, z7, z8, z9, z10, z11, z12, z13, z14, z15])), (q 11, aZ G 16 sf)]
  have btm : bd 42 (tx - ty).toInt := by rw [bl_sub btx bty (by decide) (by decide)]; exact bd_sub btx bty
  have btp : bd 42 (tx + ty).toInt := by rw [bl_add btx bty (by decide) (by decide)]; exact bd_add btx bty
  have hq0 : (((-1 : Int32).toInt64) * tx).toInt = -tx.toInt := sm_n btx (by decide)
  have bq0 : bd 42 (((-1 : Int32).toInt64) * tx).toInt := by rw [hq0]; exact bd_mono (bd_neg btx) (by decide)
  have hq1 : (((-1 : Int32).toInt64) * ty).toInt = -ty.toInt := sm_n bty (by decide)
  have bq1 : bd 42 (((-1 : Int32).toInt64) * ty).toInt := by rw [hq1]; exact bd_mono (bd_neg bty) (by decide)
  have hq2 : (((-1 : Int32).toInt64) * (tx - ty)).toInt = -(tx - ty).toInt := sm_n btm (by decide)
  have bq2 : bd 42 (((-1 : Int32).toInt64) * (tx - ty)).toInt := by rw [hq2]; exact bd_mono (bd_neg btm) (by decide)
  have hq3 : (((-1 : Int32).toInt64) * (tx + ty)).toInt = -(tx + ty).toInt := sm_n btp (by decide)
  have bq3 : bd 42 (((-1 : Int32).toInt64) * (tx + ty)).toInt := by rw [hq3]; exact bd_mono (bd_neg btp) (by decide)
  refine j_aload_n X dX11_isOfArc_0 rfl 0 rfl ?_
  refine j_bipush (v := 13) X dX11_isOfArc_1 (by decide) ?_
  refine j_aload_n X dX11_isOfArc_3 rfl 0 rfl ?_
  refine j_get (v := .ref (q 2)) X dX11_isOfArc_4 0 rfl 3 rfl in_X11_isOfArc_X11 (by decide) fl_X11_isOfArc_13 rfl ?_
  refine j_iload_n X dX11_isOfArc_7 rfl 1 rfl ?_
  refine j_lald X dX11_isOfArc_8 1 rfl b rfl gb (by decide) ?_
  obtain ⟨y_1, ey_1⟩ : ∃ zz9 : Int, zz9 = (f1 b).toInt := ⟨_, rfl⟩
  have by_1 : bd 40 y_1 := by rw [ey_1]; exact (bd_C bcb.1)
  refine j_callV X dX11_isOfArc_9 (n_load l G q t n co cr po tx ty [z0, z1, z2, z3, z4, z5, z6, z7, z8, z9, z10, z11, z12, z13, z14, z15] sf rfl hS 13 13 rfl (by decide) (f1 b) y_1 ey_1) gX11_isOfArc_X11_load rfl hy_X11_load_V ⟨Nat.le_of_ble_eq_true rfl, Nat.le_of_ble_eq_true rfl⟩ 0 rfl rfl [0, 5, 6] rfl (by decide) rfl rfl (Nat.le_of_ble_eq_true rfl) ⟨Nat.le_of_ble_eq_true rfl, Nat.le_of_ble_eq_true rfl⟩ ?_
  rintro _ sf_2 ⟨rfl, hS_sf_2⟩
  change J p l e rm_X11_isOfArc s m args below meth c Q G A 7 0 0 12 [(0, .ref (q 0)), (1, .int (nI b)), (2, .int (-1))] [] [(q 0, .inr (10, mF t n q co cr po tx ty)), (q 2, aJ G 200 f1), (q 3, aJ G 200 f2), (q 6, aI G 200 fr), (q 7, aI G 200 to1), (q 10, aI G 320 (rg [z0, z1, z2, z3, z4, z5, z6, z7, z8, z9, z10, z11, z12, y_1, z14, z15])), (q 11, aZ G 16 sf_2)]
  refine j_aload_n X dX11_isOfArc_12 rfl 0 rfl ?_
  refine j_iconst (v := 4) X dX11_isOfArc_13 rfl ?_
  refine j_bipush (v := 13) X dX11_isOfArc_14 (by decide) ?_
  refine j_iconst (v := 3) X dX11_isOfArc_16 rfl ?_
  obtain ⟨y_3, ey_3⟩ : ∃ zz9 : Int, zz9 = y_1 * z3 := ⟨_, rfl⟩
  have by_3 : bd 124 y_3 := by rw [ey_3]; exact bd_mul by_1 b3
  refine j_callV X dX11_isOfArc_17 (n_mul l G q t n co cr po tx ty [z0, z1, z2, z3, z4, z5, z6, z7, z8, z9, z10, z11, z12, y_1, z14, z15] sf_2 rfl hS_sf_2 4 4 rfl (by decide) 13 13 rfl (by decide) 3 3 rfl (by decide) (by decide) (by decide) y_3 ey_3) gX11_isOfArc_X11_multiply rfl hy_X11_multiply_V ⟨Nat.le_of_ble_eq_true rfl, Nat.le_of_ble_eq_true rfl⟩ 0 rfl rfl [0, 5, 6] rfl (by decide) rfl rfl (Nat.le_of_ble_eq_true rfl) ⟨Nat.le_of_ble_eq_true rfl, Nat.le_of_ble_eq_true rfl⟩ ?_
  rintro _ sf_4 ⟨rfl, hS_sf_4⟩
  change J p l e rm_X11_isOfArc s m args below meth c Q G A 7 0 0 20 [(0, .ref (q 0)), (1, .int (nI b)), (2, .int (-1))] [] [(q 0, .inr (10, mF t n q co cr po tx ty)), (q 2, aJ G 200 f1), (q 3, aJ G 200 f2), (q 6, aI G 200 fr), (q 7, aI G 200 to1), (q 10, aI G 320 (rg [z0, z1, z2, z3, y_3, z5, z6, z7, z8, z9, z10, z11, z12, y_1, z14, z15])), (q 11, aZ G 16 sf_4)]
  refine j_aload_n X dX11_isOfArc_20 rfl 0 rfl ?_
  refine j_iconst (v := 5) X dX11_isOfArc_21 rfl ?_
  refine j_iconst (v := 0) X dX11_isOfArc_22 rfl ?_
  refine j_iconst (v := 4) X dX11_isOfArc_23 rfl ?_
  refine j_iconst (v := 1) X dX11_isOfArc_24 rfl ?_
  obtain ⟨y_5, ey_5⟩ : ∃ zz9 : Int, zz9 = z0 - y_3 := ⟨_, rfl⟩
  have by_5 : bd 128 y_5 := by rw [ey_5]; exact bd_sub (bd_mono b0 (by decide)) (bd_mono by_3 (by decide))
  refine j_callV X dX11_isOfArc_25 (n_join l G q t n co cr po tx ty [z0, z1, z2, z3, y_3, z5, z6, z7, z8, z9, z10, z11, z12, y_1, z14, z15] sf_4 rfl hS_sf_4 5 5 rfl (by decide) 0 0 rfl (by decide) 4 4 rfl (by decide) 1 (Or.inr rfl) (by decide) (by decide) y_5 ey_5 b0 by_3 (by decide) (by decide)) gX11_isOfArc_X11_join rfl hy_X11_join_V ⟨Nat.le_of_ble_eq_true rfl, Nat.le_of_ble_eq_true rfl⟩ 0 rfl rfl [0, 5, 6] rfl (by decide) rfl rfl (Nat.le_of_ble_eq_true rfl) ⟨Nat.le_of_ble_eq_true rfl, Nat.le_of_ble_eq_true rfl⟩ ?_
  rintro _ sf_6 ⟨rfl, hS_sf_6⟩
  change J p l e rm_X11_isOfArc s m args below meth c Q G A 7 0 0 28 [(0, .ref (q 0)), (1, .int (nI b)), (2, .int (-1))] [] [(q 0, .inr (10, mF t n q co cr po tx ty)), (q 2, aJ G 200 f1), (q 3, aJ G 200 f2), (q 6, aI G 200 fr), (q 7, aI G 200 to1), (q 10, aI G 320 (rg [z0, z1, z2, z3, y_3, y_5, z6, z7, z8, z9, z10, z11, z12, y_1, z14, z15])), (q 11, aZ G 16 sf_6)]
  refine j_aload_n X dX11_isOfArc_28 rfl 0 rfl ?_
  refine j_bipush (v := 13) X dX11_isOfArc_29 (by decide) ?_
  refine j_aload_n X dX11_isOfArc_31 rfl 0 rfl ?_
  refine j_get (v := .ref (q 3)) X dX11_isOfArc_32 0 rfl 4 rfl in_X11_isOfArc_X11 (by decide) fl_X11_isOfArc_17 rfl ?_
  refine j_iload_n X dX11_isOfArc_35 rfl 1 rfl ?_
  refine j_lald X dX11_isOfArc_36 2 rfl b rfl gb (by decide) ?_
  obtain ⟨y_7, ey_7⟩ : ∃ zz9 : Int, zz9 = (f2 b).toInt := ⟨_, rfl⟩
  have by_7 : bd 40 y_7 := by rw [ey_7]; exact (bd_C bcb.2)
  refine j_callV X dX11_isOfArc_37 (n_load l G q t n co cr po tx ty [z0, z1, z2, z3, y_3, y_5, z6, z7, z8, z9, z10, z11, z12, y_1, z14, z15] sf_6 rfl hS_sf_6 13 13 rfl (by decide) (f2 b) y_7 ey_7) gX11_isOfArc_X11_load rfl hy_X11_load_V ⟨Nat.le_of_ble_eq_true rfl, Nat.le_of_ble_eq_true rfl⟩ 0 rfl rfl [0, 5, 6] rfl (by decide) rfl rfl (Nat.le_of_ble_eq_true rfl) ⟨Nat.le_of_ble_eq_true rfl, Nat.le_of_ble_eq_true rfl⟩ ?_
  rintro _ sf_8 ⟨rfl, hS_sf_8⟩
  change J p l e rm_X11_isOfArc s m args below meth c Q G A 7 0 0 40 [(0, .ref (q 0)), (1, .int (nI b)), (2, .int (-1))] [] [(q 0, .inr (10, mF t n q co cr po tx ty)), (q 2, aJ G 200 f1), (q 3, aJ G 200 f2), (q 6, aI G 200 fr), (q 7, aI G 200 to1), (q 10, aI G 320 (rg [z0, z1, z2, z3, y_3, y_5, z6, z7, z8, z9, z10, z11, z12, y_7, z14, z15])), (q 11, aZ G 16 sf_8)]
  refine j_aload_n X dX11_isOfArc_40 rfl 0 rfl ?_
  refine j_iconst (v := 4) X dX11_isOfArc_41 rfl ?_
  refine j_bipush (v := 13) X dX11_isOfArc_42 (by decide) ?_
  refine j_iconst (v := 3) X dX11_isOfArc_44 rfl ?_
  obtain ⟨y_9, ey_9⟩ : ∃ zz9 : Int, zz9 = y_7 * z3 := ⟨_, rfl⟩
  have by_9 : bd 124 y_9 := by rw [ey_9]; exact bd_mul by_7 b3
  refine j_callV X dX11_isOfArc_45 (n_mul l G q t n co cr po tx ty [z0, z1, z2, z3, y_3, y_5, z6, z7, z8, z9, z10, z11, z12, y_7, z14, z15] sf_8 rfl hS_sf_8 4 4 rfl (by decide) 13 13 rfl (by decide) 3 3 rfl (by decide) (by decide) (by decide) y_9 ey_9) gX11_isOfArc_X11_multiply rfl hy_X11_multiply_V ⟨Nat.le_of_ble_eq_true rfl, Nat.le_of_ble_eq_true rfl⟩ 0 rfl rfl [0, 5, 6] rfl (by decide) rfl rfl (Nat.le_of_ble_eq_true rfl) ⟨Nat.le_of_ble_eq_true rfl, Nat.le_of_ble_eq_true rfl⟩ ?_
  rintro _ sf_10 ⟨rfl, hS_sf_10⟩
  change J p l e rm_X11_isOfArc s m args below meth c Q G A 7 0 0 48 [(0, .ref (q 0)), (1, .int (nI b)), (2, .int (-1))] [] [(q 0, .inr (10, mF t n q co cr po tx ty)), (q 2, aJ G 200 f1), (q 3, aJ G 200 f2), (q 6, aI G 200 fr), (q 7, aI G 200 to1), (q 10, aI G 320 (rg [z0, z1, z2, z3, y_9, y_5, z6, z7, z8, z9, z10, z11, z12, y_7, z14, z15])), (q 11, aZ G 16 sf_10)]
  refine j_aload_n X dX11_isOfArc_48 rfl 0 rfl ?_
  refine j_bipush (v := 6) X dX11_isOfArc_49 (by decide) ?_
  refine j_iconst (v := 1) X dX11_isOfArc_51 rfl ?_
  refine j_iconst (v := 4) X dX11_isOfArc_52 rfl ?_
  refine j_iconst (v := 1) X dX11_isOfArc_53 rfl ?_
  obtain ⟨y_11, ey_11⟩ : ∃ zz9 : Int, zz9 = z1 - y_9 := ⟨_, rfl⟩
  have by_11 : bd 128 y_11 := by rw [ey_11]; exact bd_sub (bd_mono b1 (by decide)) (bd_mono by_9 (by decide))
  refine j_callV X dX11_isOfArc_54 (n_join l G q t n co cr po tx ty [z0, z1, z2, z3, y_9, y_5, z6, z7, z8, z9, z10, z11, z12, y_7, z14, z15] sf_10 rfl hS_sf_10 6 6 rfl (by decide) 1 1 rfl (by decide) 4 4 rfl (by decide) 1 (Or.inr rfl) (by decide) (by decide) y_11 ey_11 b1 by_9 (by decide) (by decide)) gX11_isOfArc_X11_join rfl hy_X11_join_V ⟨Nat.le_of_ble_eq_true rfl, Nat.le_of_ble_eq_true rfl⟩ 0 rfl rfl [0, 5, 6] rfl (by decide) rfl rfl (Nat.le_of_ble_eq_true rfl) ⟨Nat.le_of_ble_eq_true rfl, Nat.le_of_ble_eq_true rfl⟩ ?_
  rintro _ sf_12 ⟨rfl, hS_sf_12⟩
  change J p l e rm_X11_isOfArc s m args below meth c Q G A 7 0 0 57 [(0, .ref (q 0)), (1, .int (nI b)), (2, .int (-1))] [] [(q 0, .inr (10, mF t n q co cr po tx ty)), (q 2, aJ G 200 f1), (q 3, aJ G 200 f2), (q 6, aI G 200 fr), (q 7, aI G 200 to1), (q 10, aI G 320 (rg [z0, z1, z2, z3, y_9, y_5, y_11, z7, z8, z9, z10, z11, z12, y_7, z14, z15])), (q 11, aZ G 16 sf_12)]
  refine j_aload_n X dX11_isOfArc_57 rfl 0 rfl ?_
  refine j_bipush (v := 7) X dX11_isOfArc_58 (by decide) ?_
  refine j_iconst (v := 5) X dX11_isOfArc_60 rfl ?_
  refine j_bipush (v := 6) X dX11_isOfArc_61 (by decide) ?_
  refine j_iconst (v := 1) X dX11_isOfArc_63 rfl ?_
  obtain ⟨y_13, ey_13⟩ : ∃ zz9 : Int, zz9 = y_5 - y_11 := ⟨_, rfl⟩
  have by_13 : bd 129 y_13 := by rw [ey_13]; exact bd_sub (bd_mono by_5 (by decide)) (bd_mono by_11 (by decide))
  refine j_callV X dX11_isOfArc_64 (n_join l G q t n co cr po tx ty [z0, z1, z2, z3, y_9, y_5, y_11, z7, z8, z9, z10, z11, z12, y_7, z14, z15] sf_12 rfl hS_sf_12 7 7 rfl (by decide) 5 5 rfl (by decide) 6 6 rfl (by decide) 1 (Or.inr rfl) (by decide) (by decide) y_13 ey_13 by_5 by_11 (by decide) (by decide)) gX11_isOfArc_X11_join rfl hy_X11_join_V ⟨Nat.le_of_ble_eq_true rfl, Nat.le_of_ble_eq_true rfl⟩ 0 rfl rfl [0, 5, 6] rfl (by decide) rfl rfl (Nat.le_of_ble_eq_true rfl) ⟨Nat.le_of_ble_eq_true rfl, Nat.le_of_ble_eq_true rfl⟩ ?_
  rintro _ sf_14 ⟨rfl, hS_sf_14⟩
  change J p l e rm_X11_isOfArc s m args below meth c Q G A 7 0 0 67 [(0, .ref (q 0)), (1, .int (nI b)), (2, .int (-1))] [] [(q 0, .inr (10, mF t n q co cr po tx ty)), (q 2, aJ G 200 f1), (q 3, aJ G 200 f2), (q 6, aI G 200 fr), (q 7, aI G 200 to1), (q 10, aI G 320 (rg [z0, z1, z2, z3, y_9, y_5, y_11, y_13, z8, z9, z10, z11, z12, y_7, z14, z15])), (q 11, aZ G 16 sf_14)]
  refine j_aload_n X dX11_isOfArc_67 rfl 0 rfl ?_
  refine j_bipush (v := 8) X dX11_isOfArc_68 (by decide) ?_
  refine j_iconst (v := 5) X dX11_isOfArc_70 rfl ?_
  refine j_bipush (v := 6) X dX11_isOfArc_71 (by decide) ?_
  refine j_iconst (v := 0) X dX11_isOfArc_73 rfl ?_
  obtain ⟨y_15, ey_15⟩ : ∃ zz9 : Int, zz9 = y_5 + y_11 := ⟨_, rfl⟩
  have by_15 : bd 129 y_15 := by rw [ey_15]; exact bd_add (bd_mono by_5 (by decide)) (bd_mono by_11 (by decide))
  refine j_callV X dX11_isOfArc_74 (n_join l G q t n co cr po tx ty [z0, z1, z2, z3, y_9, y_5, y_11, y_13, z8, z9, z10, z11, z12, y_7, z14, z15] sf_14 rfl hS_sf_14 8 8 rfl (by decide) 5 5 rfl (by decide) 6 6 rfl (by decide) 0 (Or.inl rfl) (by decide) (by decide) y_15 ey_15 by_5 by_11 (by decide) (by decide)) gX11_isOfArc_X11_join rfl hy_X11_join_V ⟨Nat.le_of_ble_eq_true rfl, Nat.le_of_ble_eq_true rfl⟩ 0 rfl rfl [0, 5, 6] rfl (by decide) rfl rfl (Nat.le_of_ble_eq_true rfl) ⟨Nat.le_of_ble_eq_true rfl, Nat.le_of_ble_eq_true rfl⟩ ?_
  rintro _ sf_16 ⟨rfl, hS_sf_16⟩
  change J p l e rm_X11_isOfArc s m args below meth c Q G A 7 0 0 77 [(0, .ref (q 0)), (1, .int (nI b)), (2, .int (-1))] [] [(q 0, .inr (10, mF t n q co cr po tx ty)), (q 2, aJ G 200 f1), (q 3, aJ G 200 f2), (q 6, aI G 200 fr), (q 7, aI G 200 to1), (q 10, aI G 320 (rg [z0, z1, z2, z3, y_9, y_5, y_11, y_13, y_15, z9, z10, z11, z12, y_7, z14, z15])), (q 11, aZ G 16 sf_16)]
  refine j_aload_n X dX11_isOfArc_77 rfl 0 rfl ?_
  refine j_iconst (v := 5) X dX11_isOfArc_78 rfl ?_
  refine j_iload_n X dX11_isOfArc_79 rfl 2 rfl ?_
  refine j_i2l X dX11_isOfArc_80 rfl ?_
  refine j_aload_n X dX11_isOfArc_81 rfl 0 rfl ?_
  refine j_get (v := .long tx) X dX11_isOfArc_82 0 rfl 17 rfl in_X11_isOfArc_X11 (by decide) fl_X11_isOfArc_159 rfl ?_
  refine j_lmul X dX11_isOfArc_85 ?_
  refine j_iconst (v := 2) X dX11_isOfArc_86 rfl ?_
  refine j_callV X dX11_isOfArc_87 (c_X11_signOf_5_2 l G q t n co cr po tx ty z0 z1 z2 z3 y_9 y_5 y_11 y_13 y_15 z9 z10 z11 z12 y_7 z14 z15 sf_16 hS_sf_16 (((-1 : Int32).toInt64) * tx) hR (bd_mono by_5 (by decide)) (bd_mono bq0 (by decide)) (bd_mono b2 (by decide))) gX11_isOfArc_X11_signOf rfl hy_X11_signOf_V ⟨Nat.le_of_ble_eq_true rfl, Nat.le_of_ble_eq_true rfl⟩ 0 rfl rfl [0, 5, 6] rfl (by decide) rfl rfl (Nat.le_of_ble_eq_true rfl) ⟨Nat.le_of_ble_eq_true rfl, Nat.le_of_ble_eq_true rfl⟩ ?_
  rintro _ ⟨y_18, y_19, y_20, y_21, sf_17⟩ ⟨rfl, hS_sf_17⟩
  dsimp only at hS_sf_17
  change J p l e rm_X11_isOfArc s m args below meth c Q G A 7 0 0 90 [(0, .ref (q 0)), (1, .int (nI b)), (2, .int (-1))] [.int (rn y_5 (((-1 : Int32).toInt64) * tx).toInt z2)] [(q 0, .inr (10, mF t n q co cr po tx ty)), (q 2, aJ G 200 f1), (q 3, aJ G 200 f2), (q 6, aI G 200 fr), (q 7, aI G 200 to1), (q 10, aI G 320 (rg [z0, z1, z2, z3, y_9, y_5, y_11, y_13, y_15, z9, y_18, y_19, z12, y_20, z14, y_21])), (q 11, aZ G 16 sf_17)]
  refine j_topi (fun x_22 ex_22 => ?_)
  refine j_istore_n (L' := [(3, .int x_22), (0, .ref (q 0)), (1, .int (nI b)), (2, .int (-1))]) X dX11_isOfArc_90 rfl (by decide) rfl ?_
  refine j_aload_n X dX11_isOfArc_91 rfl 1 rfl ?_
  refine j_bipush (v := 6) X dX11_isOfArc_92 (by decide) ?_
  refine j_iload_n X dX11_isOfArc_94 rfl 3 rfl ?_
  refine j_i2l X dX11_isOfArc_95 rfl ?_
  refine j_aload_n X dX11_isOfArc_96 rfl 1 rfl ?_
  refine j_get (v := .long ty) X dX11_isOfArc_97 0 rfl 18 rfl in_X11_isOfArc_X11 (by decide) fl_X11_isOfArc_163 rfl ?_
  refine j_lmul X dX11_isOfArc_100 ?_
  refine j_iconst (v := 2) X dX11_isOfArc_101 rfl ?_
  refine j_callV X dX11_isOfArc_102 (c_X11_signOf_6_2 l G q t n co cr po tx ty z0 z1 z2 z3 y_9 y_5 y_11 y_13 y_15 z9 y_18 y_19 z12 y_20 z14 y_21 sf_17 hS_sf_17 (((-1 : Int32).toInt64) * ty) hR (bd_mono by_11 (by decide)) (bd_mono bq1 (by decide)) (bd_mono b2 (by decide))) gX11_isOfArc_X11_signOf rfl hy_X11_signOf_V ⟨Nat.le_of_ble_eq_true rfl, Nat.le_of_ble_eq_true rfl⟩ 0 rfl rfl [0, 5, 6] rfl (by decide) rfl rfl (Nat.le_of_ble_eq_true rfl) ⟨Nat.le_of_ble_eq_true rfl, Nat.le_of_ble_eq_true rfl⟩ ?_
  rintro _ ⟨y_24, y_25, y_26, y_27, sf_23⟩ ⟨rfl, hS_sf_23⟩
  dsimp only at hS_sf_23
  change J p l e rm_X11_isOfArc s m args below meth c Q G A 7 0 0 105 [(3, .int x_22), (0, .ref (q 0)), (1, .int (nI b)), (2, .int (-1))] [.int (rn y_11 (((-1 : Int32).toInt64) * ty).toInt z2)] [(q 0, .inr (10, mF t n q co cr po tx ty)), (q 2, aJ G 200 f1), (q 3, aJ G 200 f2), (q 6, aI G 200 fr), (q 7, aI G 200 to1), (q 10, aI G 320 (rg [z0, z1, z2, z3, y_9, y_5, y_11, y_13, y_15, z9, y_24, y_25, z12, y_26, z14, y_27])), (q 11, aZ G 16 sf_23)]
  refine j_topi (fun x_28 ex_28 => ?_)
  refine j_istore (L' := [(4, .int x_28), (3, .int x_22), (0, .ref (q 0)), (1, .int (nI b)), (2, .int (-1))]) X dX11_isOfArc_105 (by decide) rfl ?_
  refine j_aload_n X dX11_isOfArc_107 rfl 2 rfl ?_
  refine j_bipush (v := 7) X dX11_isOfArc_108 (by decide) ?_
  refine j_iload_n X dX11_isOfArc_110 rfl 4 rfl ?_
  refine j_i2l X dX11_isOfArc_111 rfl ?_
  refine j_aload_n X dX11_isOfArc_112 rfl 2 rfl ?_
  refine j_get (v := .long tx) X dX11_isOfArc_113 0 rfl 17 rfl in_X11_isOfArc_X11 (by decide) fl_X11_isOfArc_159 rfl ?_
  refine j_aload_n X dX11_isOfArc_116 rfl 2 rfl ?_
  refine j_get (v := .long ty) X dX11_isOfArc_117 0 rfl 18 rfl in_X11_isOfArc_X11 (by decide) fl_X11_isOfArc_163 rfl ?_
  refine j_lsub X dX11_isOfArc_120 ?_
  refine j_lmul X dX11_isOfArc_121 ?_
  refine j_iconst (v := 2) X dX11_isOfArc_122 rfl ?_
  refine j_callV X dX11_isOfArc_123 (c_X11_signOf_7_2 l G q t n co cr po tx ty z0 z1 z2 z3 y_9 y_5 y_11 y_13 y_15 z9 y_24 y_25 z12 y_26 z14 y_27 sf_23 hS_sf_23 (((-1 : Int32).toInt64) * (tx - ty)) hR (bd_mono by_13 (by decide)) (bd_mono bq2 (by decide)) (bd_mono b2 (by decide))) gX11_isOfArc_X11_signOf rfl hy_X11_signOf_V ⟨Nat.le_of_ble_eq_true rfl, Nat.le_of_ble_eq_true rfl⟩ 0 rfl rfl [0, 5, 6] rfl (by decide) rfl rfl (Nat.le_of_ble_eq_true rfl) ⟨Nat.le_of_ble_eq_true rfl, Nat.le_of_ble_eq_true rfl⟩ ?_
  rintro _ ⟨y_30, y_31, y_32, y_33, sf_29⟩ ⟨rfl, hS_sf_29⟩
  dsimp only at hS_sf_29
  change J p l e rm_X11_isOfArc s m args below meth c Q G A 7 0 0 126 [(4, .int x_28), (3, .int x_22), (0, .ref (q 0)), (1, .int (nI b)), (2, .int (-1))] [.int (rn y_13 (((-1 : Int32).toInt64) * (tx - ty)).toInt z2)] [(q 0, .inr (10, mF t n q co cr po tx ty)), (q 2, aJ G 200 f1), (q 3, aJ G 200 f2), (q 6, aI G 200 fr), (q 7, aI G 200 to1), (q 10, aI G 320 (rg [z0, z1, z2, z3, y_9, y_5, y_11, y_13, y_15, z9, y_30, y_31, z12, y_32, z14, y_33])), (q 11, aZ G 16 sf_29)]
  refine j_topi (fun x_34 ex_34 => ?_)
  refine j_istore (L' := [(5, .int x_34), (4, .int x_28), (3, .int x_22), (0, .ref (q 0)), (1, .int (nI b)), (2, .int (-1))]) X dX11_isOfArc_126 (by decide) rfl ?_
  refine j_aload_n X dX11_isOfArc_128 rfl 3 rfl ?_
  refine j_bipush (v := 8) X dX11_isOfArc_129 (by decide) ?_
  refine j_iload_n X dX11_isOfArc_131 rfl 5 rfl ?_
  refine j_i2l X dX11_isOfArc_132 rfl ?_
  refine j_aload_n X dX11_isOfArc_133 rfl 3 rfl ?_
  refine j_get (v := .long tx) X dX11_isOfArc_134 0 rfl 17 rfl in_X11_isOfArc_X11 (by decide) fl_X11_isOfArc_159 rfl ?_
  refine j_aload_n X dX11_isOfArc_137 rfl 3 rfl ?_
  refine j_get (v := .long ty) X dX11_isOfArc_138 0 rfl 18 rfl in_X11_isOfArc_X11 (by decide) fl_X11_isOfArc_163 rfl ?_
  refine j_ladd X dX11_isOfArc_141 ?_
  refine j_lmul X dX11_isOfArc_142 ?_
  refine j_iconst (v := 2) X dX11_isOfArc_143 rfl ?_
  refine j_callV X dX11_isOfArc_144 (c_X11_signOf_8_2 l G q t n co cr po tx ty z0 z1 z2 z3 y_9 y_5 y_11 y_13 y_15 z9 y_30 y_31 z12 y_32 z14 y_33 sf_29 hS_sf_29 (((-1 : Int32).toInt64) * (tx + ty)) hR (bd_mono by_15 (by decide)) (bd_mono bq3 (by decide)) (bd_mono b2 (by decide))) gX11_isOfArc_X11_signOf rfl hy_X11_signOf_V ⟨Nat.le_of_ble_eq_true rfl, Nat.le_of_ble_eq_true rfl⟩ 0 rfl rfl [0, 5, 6] rfl (by decide) rfl rfl (Nat.le_of_ble_eq_true rfl) ⟨Nat.le_of_ble_eq_true rfl, Nat.le_of_ble_eq_true rfl⟩ ?_
  rintro _ ⟨y_36, y_37, y_38, y_39, sf_35⟩ ⟨rfl, hS_sf_35⟩
  dsimp only at hS_sf_35
  change J p l e rm_X11_isOfArc s m args below meth c Q G A 7 0 0 147 [(5, .int x_34), (4, .int x_28), (3, .int x_22), (0, .ref (q 0)), (1, .int (nI b)), (2, .int (-1))] [.int (rn y_15 (((-1 : Int32).toInt64) * (tx + ty)).toInt z2)] [(q 0, .inr (10, mF t n q co cr po tx ty)), (q 2, aJ G 200 f1), (q 3, aJ G 200 f2), (q 6, aI G 200 fr), (q 7, aI G 200 to1), (q 10, aI G 320 (rg [z0, z1, z2, z3, y_9, y_5, y_11, y_13, y_15, z9, y_36, y_37, z12, y_38, z14, y_39])), (q 11, aZ G 16 sf_35)]
  refine j_topi (fun x_40 ex_40 => ?_)
  refine j_istore (L' := [(6, .int x_40), (5, .int x_34), (4, .int x_28), (3, .int x_22), (0, .ref (q 0)), (1, .int (nI b)), (2, .int (-1))]) X dX11_isOfArc_147 (by decide) rfl ?_
  refine j_aload_n X dX11_isOfArc_149 rfl 4 rfl ?_
  refine j_iload_n X dX11_isOfArc_150 rfl 5 rfl ?_
  refine j_iload_n X dX11_isOfArc_151 rfl 3 rfl ?_
  refine j_iload X dX11_isOfArc_152 2 rfl ?_
  refine j_iload X dX11_isOfArc_154 1 rfl ?_
  refine j_iload X dX11_isOfArc_156 0 rfl ?_
  refine j_callS X dX11_isOfArc_158 (c_X11_position l G x_22 x_28 x_34 x_40) gX11_isOfArc_X11_position rfl hy_X11_position_S ⟨Nat.le_of_ble_eq_true rfl, Nat.le_of_ble_eq_true rfl⟩ [] rfl (by decide) rfl rfl (Nat.le_of_ble_eq_true rfl) ⟨Nat.le_of_ble_eq_true rfl, Nat.le_of_ble_eq_true rfl⟩ ?_
  rintro _ ⟨⟩ rfl
  change J p l e rm_X11_isOfArc s m args below meth c Q G A 7 0 0 161 [(6, .int x_40), (5, .int x_34), (4, .int x_28), (3, .int x_22), (0, .ref (q 0)), (1, .int (nI b)), (2, .int (-1))] [.int (posn x_22 x_28 x_34 x_40), .int (nI b), .ref (q 0)] [(q 0, .inr (10, mF t n q co cr po tx ty)), (q 2, aJ G 200 f1), (q 3, aJ G 200 f2), (q 6, aI G 200 fr), (q 7, aI G 200 to1), (q 10, aI G 320 (rg [z0, z1, z2, z3, y_9, y_5, y_11, y_13, y_15, z9, y_36, y_37, z12, y_38, z14, y_39])), (q 11, aZ G 16 sf_35)]
  refine j_callV X dX11_isOfArc_161 (c_X11_isTurned l G q t n co cr po tx ty fr to1 b gb (posn x_22 x_28 x_34 x_40) (by rw [ex_34, ex_40]; exact posn_r (rn_r _ _ _) (rn_r _ _ _)) hfb htb) gX11_isOfArc_X11_isTurned rfl hy_X11_isTurned_V ⟨Nat.le_of_ble_eq_true rfl, Nat.le_of_ble_eq_true rfl⟩ 0 rfl rfl [0, 3, 4] rfl (by decide) rfl rfl (Nat.le_of_ble_eq_true rfl) ⟨Nat.le_of_ble_eq_true rfl, Nat.le_of_ble_eq_true rfl⟩ ?_
  rintro _ ⟨⟩ rfl
  change J p l e rm_X11_isOfArc s m args below meth c Q G A 7 0 0 164 [(6, .int x_40), (5, .int x_34), (4, .int x_28), (3, .int x_22), (0, .ref (q 0)), (1, .int (nI b)), (2, .int (-1))] [.int (bI (trn (fr b).toInt (to1 b).toInt (posn x_22 x_28 x_34 x_40).toInt))] [(q 0, .inr (10, mF t n q co cr po tx ty)), (q 2, aJ G 200 f1), (q 3, aJ G 200 f2), (q 6, aI G 200 fr), (q 7, aI G 200 to1), (q 10, aI G 320 (rg [z0, z1, z2, z3, y_9, y_5, y_11, y_13, y_15, z9, y_36, y_37, z12, y_38, z14, y_39])), (q 11, aZ G 16 sf_35)]
  exact E.2.1 164 _ (bI (trn (fr b).toInt (to1 b).toInt (posn x_22 x_28 x_34 x_40).toInt)) (y_9, y_5, y_11, y_13, y_15, y_36, y_37, y_38, y_39, sf_35) _ dX11_isOfArc_164 (⟨by rw [ex_22, ex_28, ex_34, ex_40, hq0, hq1, hq2, hq3, bl_sub btx bty (by decide) (by decide), bl_add btx bty (by decide) (by decide)]; rw [show -(tx.toInt - ty.toInt) = -tx.toInt - -ty.toInt by omega, show -(tx.toInt + ty.toInt) = -tx.toInt + -ty.toInt by omega]; rw [ey_13, ey_15, ey_5, ey_11, ey_3, ey_9, ey_1, ey_7], hS_sf_35⟩) hr (nar_I _)

