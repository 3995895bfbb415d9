abbrev rm_X1_setRadicand : Room := { frames := 2, cells := 0, slots := 0, locals := 55 }
theorem in_X1_setRadicand_X1 : ∀ w ∈ u_ws RX1 TX1 14, w ∈ wsX1_setRadicand := by decide +kernel
theorem fl_X1_setRadicand_52 : Cond.fieldLink RX1 52 (TX1 13).1 (TX1 13).2.1 (TX1 13).2.2.1 ∈ wsX1_setRadicand := by decide +kernel
theorem fl_X1_setRadicand_43 : Cond.fieldLink RX1 43 (TX1 10).1 (TX1 10).2.1 (TX1 10).2.2.1 ∈ wsX1_setRadicand := by decide +kernel
theorem fl_X1_setRadicand_19 : Cond.fieldLink RX1 19 (TX1 5).1 (TX1 5).2.1 (TX1 5).2.2.1 ∈ wsX1_setRadicand := by decide +kernel
set_option maxHeartbeats 4000000 in
set_option maxRecDepth 100000 in
theorem c_X1_setRadicand (l : Launch) (G : jG) (o ro bl p1 p2 p3 en ra al asd wk : Nat) (md ct : Int32) (bsx bsy : Int64) (abl ara awk w aw : Nat) (fr fw : Nat → Int64) (r : Int64) (k : Int32) (sh : Nat) (hk : k.toInt = sh) (hs : sh < 2) (B z : Int) : Ct l yX1_setRadicand wsX1_setRadicand rm_X1_setRadicand G [.ref o, .long r, .int k, .ref w] [(o, .inr (1, [.ref ro, .int md, .int ct, .long bsx, .long bsy, .ref bl, .ref p1, .ref p2, .ref p3, .ref en, .ref ra, .ref al, .ref asd, .ref wk])), (bl, .inr (8, [.ref abl])), (abl, aJ G 8 (dg B)), (ra, .inr (8, [.ref ara])), (ara, aJ G 8 fr), (wk, .inr (8, [.ref awk])), (awk, aJ G 8 fw), (w, .inr (8, [.ref aw])), (aw, aJ G 8 (dg z))] (S := Unit) (fun r _ => r = none) (fun _ => [(o, .inr (1, [.ref ro, .int md, .int ct, .long bsx, .long bsy, .ref bl, .ref p1, .ref p2, .ref p3, .ref en, .ref ra, .ref al, .ref asd, .ref wk])), (bl, .inr (8, [.ref abl])), (abl, aJ G 8 (dg B)), (ra, .inr (8, [.ref ara])), (ara, aJ G 8 (dg (r.toInt * 2 ^ sh * B - z * z))), (wk, .inr (8, [.ref awk])), (awk, aJ G 8 (dg (z * z))), (w, .inr (8, [.ref aw])), (aw, aJ G 8 (dg z))]) (fun _ => []) := by
  refine c_intro (cc := cX1_setRadicand) (maxL := 5) (ret := none) (by decide) rfl (Nat.le_of_ble_eq_true rfl) (fun _ => by simp only [List.map_cons, List.map_nil]) ?_
  intro p e s m args below meth c Q A X hr hin E
  change J p l e rm_X1_setRadicand s m args below meth c Q G A 5 0 0 0 [(0, .ref o), (1, .long r), (3, .int k), (4, .ref w)] [] [(o, .inr (1, [.ref ro, .int md, .int ct, .long bsx, .long bsy, .ref bl, .ref p1, .ref p2, .ref p3, .ref en, .ref ra, .ref al, .ref asd, .ref wk])), (bl, .inr (8, [.ref abl])), (abl, aJ G 8 (dg B)), (ra, .inr (8, [.ref ara])), (ara, aJ G 8 fr), (wk, .inr (8, [.ref awk])), (awk, aJ G 8 fw), (w, .inr (8, [.ref aw])), (aw, aJ G 8 (dg z))]
  refine j_aload_n X dX1_setRadicand_0 rfl 0 rfl ?_
  refine j_get (v := .ref wk) X dX1_setRadicand_1 0 rfl 13 rfl in_X1_setRadicand_X1 (by decide) fl_X1_setRadicand_52 rfl ?_
  refine j_lload_n X dX1_setRadicand_4 rfl 1 rfl ?_
  refine j_callV X dX1_setRadicand_5 (c_X9_setTo l G wk awk fw r) gX1_setRadicand_X9_setTo rfl hy_X9_setTo_V ⟨Nat.le_of_ble_eq_true rfl, Nat.le_of_ble_eq_true rfl⟩ 0 rfl rfl [5, 6] rfl (by decide) rfl rfl (Nat.le_of_ble_eq_true rfl) ⟨Nat.le_of_ble_eq_true rfl, Nat.le_of_ble_eq_true rfl⟩ ?_
  rintro _ ⟨⟩ rfl
  change J p l e rm_X1_setRadicand s m args below meth c Q G A 5 0 0 8 [(0, .ref o), (1, .long r), (3, .int k), (4, .ref w)] [] [(o, .inr (1, [.ref ro, .int md, .int ct, .long bsx, .long bsy, .ref bl, .ref p1, .ref p2, .ref p3, .ref en, .ref ra, .ref al, .ref asd, .ref wk])), (bl, .inr (8, [.ref abl])), (abl, aJ G 8 (dg B)), (ra, .inr (8, [.ref ara])), (ara, aJ G 8 fr), (wk, .inr (8, [.ref awk])), (awk, aJ G 8 (dg r.toInt)), (w, .inr (8, [.ref aw])), (aw, aJ G 8 (dg z))]
  refine j_aload_n X dX1_setRadicand_8 rfl 0 rfl ?_
  refine j_get (v := .ref wk) X dX1_setRadicand_9 0 rfl 13 rfl in_X1_setRadicand_X1 (by decide) fl_X1_setRadicand_52 rfl ?_
  refine j_iload_n X dX1_setRadicand_12 rfl 2 rfl ?_
  refine j_callV X dX1_setRadicand_13 (c_X9_shiftLeft l G wk awk r.toInt k sh hk (by omega)) gX1_setRadicand_X9_shiftLeft rfl hy_X9_shiftLeft_V ⟨Nat.le_of_ble_eq_true rfl, Nat.le_of_ble_eq_true rfl⟩ 0 rfl rfl [5, 6] rfl (by decide) rfl rfl (Nat.le_of_ble_eq_true rfl) ⟨Nat.le_of_ble_eq_true rfl, Nat.le_of_ble_eq_true rfl⟩ ?_
  rintro _ ⟨⟩ rfl
  change J p l e rm_X1_setRadicand s m args below meth c Q G A 5 0 0 16 [(0, .ref o), (1, .long r), (3, .int k), (4, .ref w)] [] [(o, .inr (1, [.ref ro, .int md, .int ct, .long bsx, .long bsy, .ref bl, .ref p1, .ref p2, .ref p3, .ref en, .ref ra, .ref al, .ref asd, .ref wk])), (bl, .inr (8, [.ref abl])), (abl, aJ G 8 (dg B)), (ra, .inr (8, [.ref ara])), (ara, aJ G 8 fr), (wk, .inr (8, [.ref awk])), (awk, aJ G 8 (dg (r.toInt * 2 ^ sh))), (w, .inr (8, [.ref aw])), (aw, aJ G 8 (dg z))]
  refine j_aload_n X dX1_setRadicand_16 rfl 0 rfl ?_
  refine j_get (v := .ref ra) X dX1_setRadicand_17 0 rfl 10 rfl in_X1_setRadicand_X1 (by decide) fl_X1_setRadicand_43 rfl ?_
  refine j_aload_n X dX1_setRadicand_20 rfl 0 rfl ?_
  refine j_get (v := .ref wk) X dX1_setRadicand_21 0 rfl 13 rfl in_X1_setRadicand_X1 (by decide) fl_X1_setRadicand_52 rfl ?_
  refine j_aload_n X dX1_setRadicand_24 rfl 0 rfl ?_
  refine j_get (v := .ref bl) X dX1_setRadicand_25 0 rfl 5 rfl in_X1_setRadicand_X1 (by decide) fl_X1_setRadicand_19 rfl ?_
  refine j_callV X dX1_setRadicand_28 (c_X9_setToProduct l G ra ara wk awk bl abl fr (r.toInt * 2 ^ sh) B) gX1_setRadicand_X9_setToProduct rfl hy_X9_setToProduct_V ⟨Nat.le_of_ble_eq_true rfl, Nat.le_of_ble_eq_true rfl⟩ 0 rfl rfl [3, 4, 5, 6, 1, 2] rfl (by decide) rfl rfl (Nat.le_of_ble_eq_true rfl) ⟨Nat.le_of_ble_eq_true rfl, Nat.le_of_ble_eq_true rfl⟩ ?_
  rintro _ ⟨⟩ rfl
  change J p l e rm_X1_setRadicand s m args below meth c Q G A 5 0 0 31 [(0, .ref o), (1, .long r), (3, .int k), (4, .ref w)] [] [(o, .inr (1, [.ref ro, .int md, .int ct, .long bsx, .long bsy, .ref bl, .ref p1, .ref p2, .ref p3, .ref en, .ref ra, .ref al, .ref asd, .ref wk])), (bl, .inr (8, [.ref abl])), (abl, aJ G 8 (dg B)), (ra, .inr (8, [.ref ara])), (ara, aJ G 8 (dg ((r.toInt * 2 ^ sh) * B))), (wk, .inr (8, [.ref awk])), (awk, aJ G 8 (dg (r.toInt * 2 ^ sh))), (w, .inr (8, [.ref aw])), (aw, aJ G 8 (dg z))]
  refine j_aload_n X dX1_setRadicand_31 rfl 0 rfl ?_
  refine j_get (v := .ref wk) X dX1_setRadicand_32 0 rfl 13 rfl in_X1_setRadicand_X1 (by decide) fl_X1_setRadicand_52 rfl ?_
  refine j_aload X dX1_setRadicand_35 3 rfl ?_
  refine j_aload X dX1_setRadicand_37 3 rfl ?_
  refine j_callV X dX1_setRadicand_39 (c_X9_setToProduct_s l G wk awk w aw (dg (r.toInt * 2 ^ sh)) z) gX1_setRadicand_X9_setToProduct rfl hy_X9_setToProduct_V ⟨Nat.le_of_ble_eq_true rfl, Nat.le_of_ble_eq_true rfl⟩ 0 rfl rfl [5, 6, 7, 8] rfl (by decide) rfl rfl (Nat.le_of_ble_eq_true rfl) ⟨Nat.le_of_ble_eq_true rfl, Nat.le_of_ble_eq_true rfl⟩ ?_
  rintro _ ⟨⟩ rfl
  change J p l e rm_X1_setRadicand s m args below meth c Q G A 5 0 0 42 [(0, .ref o), (1, .long r), (3, .int k), (4, .ref w)] [] [(o, .inr (1, [.ref ro, .int md, .int ct, .long bsx, .long bsy, .ref bl, .ref p1, .ref p2, .ref p3, .ref en, .ref ra, .ref al, .ref asd, .ref wk])), (bl, .inr (8, [.ref abl])), (abl, aJ G 8 (dg B)), (ra, .inr (8, [.ref ara])), (ara, aJ G 8 (dg ((r.toInt * 2 ^ sh) * B))), (wk, .inr (8, [.ref awk])), (awk, aJ G 8 (dg (z * z))), (w, .inr (8, [.ref aw])), (aw, aJ G 8 (dg z))]
  refine j_aload_n X dX1_setRadicand_42 rfl 0 rfl ?_
  refine j_get (v := .ref ra) X dX1_setRadicand_43 0 rfl 10 rfl in_X1_setRadicand_X1 (by decide) fl_X1_setRadicand_43 rfl ?_
  refine j_aload_n X dX1_setRadicand_46 rfl 0 rfl ?_
  refine j_get (v := .ref wk) X dX1_setRadicand_47 0 rfl 13 rfl in_X1_setRadicand_X1 (by decide) fl_X1_setRadicand_52 rfl ?_
  refine j_callV X dX1_setRadicand_50 (c_X9_subtract l G ra ara wk awk ((r.toInt * 2 ^ sh) * B) (z * z)) gX1_setRadicand_X9_subtract rfl hy_X9_subtract_V ⟨Nat.le_of_ble_eq_true rfl, Nat.le_of_ble_eq_true rfl⟩ 0 rfl rfl [3, 4, 5, 6] rfl (by decide) rfl rfl (Nat.le_of_ble_eq_true rfl) ⟨Nat.le_of_ble_eq_true rfl, Nat.le_of_ble_eq_true rfl⟩ ?_
  rintro _ ⟨⟩ rfl
  change J p l e rm_X1_setRadicand s m args below meth c Q G A 5 0 0 53 [(0, .ref o), (1, .long r), (3, .int k), (4, .ref w)] [] [(o, .inr (1, [.ref ro, .int md, .int ct, .long bsx, .long bsy, .ref bl, .ref p1, .ref p2, .ref p3, .ref en, .ref ra, .ref al, .ref asd, .ref wk])), (bl, .inr (8, [.ref abl])), (abl, aJ G 8 (dg B)), (ra, .inr (8, [.ref ara])), (ara, aJ G 8 (dg (((r.toInt * 2 ^ sh) * B) - (z * z)))), (wk, .inr (8, [.ref awk])), (awk, aJ G 8 (dg (z * z))), (w, .inr (8, [.ref aw])), (aw, aJ G 8 (dg z))]
  exact E.1 53 _ () dX1_setRadicand_53 rfl hr

theorem hy_X1_setRadicand_V : yX1_setRadicand.cls = RX1 ∧ yX1_setRadicand.cls ≠ "java/lang/invoke/MethodHandle" ∧ yX1_setRadicand.cls ≠ "java/lang/invoke/VarHandle" ∧ (parseMethodDescriptor yX1_setRadicand.desc).map (fun d => d.parameters.length) = some 3 := by decide +kernel
