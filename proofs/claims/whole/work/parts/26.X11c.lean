abbrev rm_X11_products : Room := { frames := 2, cells := 0, slots := 0, locals := 56 }
set_option maxHeartbeats 4000000 in
set_option maxRecDepth 100000 in
theorem c_X11_products (l : Launch) (G : jG) (q : Nat → Nat) (t n co cr po : Int32) (tx ty : Int64) (zs : List Int) (hl : zs.length = 16) (sf : Nat → Int32) (hS : okS zs sf) (r : Int32) (dd : Nat) (hdd : r.toInt = dd) (gd2 : dd < 12) (xa xb xc xe : Int64) (ls : Int32) (hls : ls = 0 ∨ ls = 1) : Ct l yX11_products wsX11_products rm_X11_products G [.ref (q 0), .int r, .long xa, .long xb, .long xc, .long xe, .int ls] [(q 0, .inr (10, mF t n q co cr po tx ty)), (q 10, aI G 320 (rg zs)), (q 11, aZ G 16 sf)] (S := Nat → Int32) (fun r u => r = none ∧ okS (zP zs dd xa.toInt xb.toInt xc.toInt xe.toInt ls) u) (fun u => mW G q t n co cr po tx ty (zP zs dd xa.toInt xb.toInt xc.toInt xe.toInt ls) u) (fun _ => []) := by
  refine c_intro (cc := cX11_products) (maxL := 11) (ret := none) (by decide) rfl (Nat.le_of_ble_eq_true rfl) (fun _ => by simp only [List.map_cons, List.map_nil]) ?_
  intro p e s m args below meth c Q A X hr hin E
  change J p l e rm_X11_products s m args below meth c Q G A 11 0 0 0 [(0, .ref (q 0)), (1, .int r), (2, .long xa), (4, .long xb), (6, .long xc), (8, .long xe), (10, .int ls)] [] [(q 0, .inr (10, mF t n q co cr po tx ty)), (q 10, aI G 320 (rg zs)), (q 11, aZ G 16 sf)]
  have gdd : dd < 16 := by omega
  obtain ⟨z0, z1, z2, z3, z4, z5, z6, z7, z8, z9, z10, z11, z12, z13, z14, z15, rfl⟩ := l16 hl
  refine j_aload_n X dX11_products_0 rfl 0 rfl ?_
  refine j_bipush (v := 13) X dX11_products_1 (by decide) ?_
  refine j_lload_n X dX11_products_3 rfl 2 rfl ?_
  refine j_callV X dX11_products_4 (h_load l G q t n co cr po tx ty ([z0, z1, z2, z3, z4, z5, z6, z7, z8, z9, z10, z11, z12, z13, z14, z15]) sf rfl hS 13 13 rfl (by decide) xa ) gX11_products_X11_load rfl hy_X11_load_V ⟨Nat.le_of_ble_eq_true rfl, Nat.le_of_ble_eq_true rfl⟩ 0 rfl rfl [0, 1, 2] rfl (by decide) rfl rfl (Nat.le_of_ble_eq_true rfl) ⟨Nat.le_of_ble_eq_true rfl, Nat.le_of_ble_eq_true rfl⟩ ?_
  rintro _ sf_1 ⟨rfl, hS_sf_1⟩
  change J p l e rm_X11_products s m args below meth c Q G A 11 0 0 7 [(0, .ref (q 0)), (1, .int r), (2, .long xa), (4, .long xb), (6, .long xc), (8, .long xe), (10, .int ls)] [] [(q 0, .inr (10, mF t n q co cr po tx ty)), (q 10, aI G 320 (rg [z0, z1, z2, z3, z4, z5, z6, z7, z8, z9, z10, z11, z12, xa.toInt, z14, z15])), (q 11, aZ G 16 sf_1)]
  refine j_aload_n X dX11_products_7 rfl 0 rfl ?_
  refine j_bipush (v := 14) X dX11_products_8 (by decide) ?_
  refine j_lload X dX11_products_10 3 rfl ?_
  refine j_callV X dX11_products_12 (h_load l G q t n co cr po tx ty ([z0, z1, z2, z3, z4, z5, z6, z7, z8, z9, z10, z11, z12, xa.toInt, z14, z15]) sf_1 rfl hS_sf_1 14 14 rfl (by decide) xb ) gX11_products_X11_load rfl hy_X11_load_V ⟨Nat.le_of_ble_eq_true rfl, Nat.le_of_ble_eq_true rfl⟩ 0 rfl rfl [0, 1, 2] rfl (by decide) rfl rfl (Nat.le_of_ble_eq_true rfl) ⟨Nat.le_of_ble_eq_true rfl, Nat.le_of_ble_eq_true rfl⟩ ?_
  rintro _ sf_2 ⟨rfl, hS_sf_2⟩
  change J p l e rm_X11_products s m args below meth c Q G A 11 0 0 15 [(0, .ref (q 0)), (1, .int r), (2, .long xa), (4, .long xb), (6, .long xc), (8, .long xe), (10, .int ls)] [] [(q 0, .inr (10, mF t n q co cr po tx ty)), (q 10, aI G 320 (rg [z0, z1, z2, z3, z4, z5, z6, z7, z8, z9, z10, z11, z12, xa.toInt, xb.toInt, z15])), (q 11, aZ G 16 sf_2)]
  refine j_aload_n X dX11_products_15 rfl 0 rfl ?_
  refine j_bipush (v := 15) X dX11_products_16 (by decide) ?_
  refine j_bipush (v := 13) X dX11_products_18 (by decide) ?_
  refine j_bipush (v := 14) X dX11_products_20 (by decide) ?_
  refine j_callV X dX11_products_22 (h_multiply l G q t n co cr po tx ty ([z0, z1, z2, z3, z4, z5, z6, z7, z8, z9, z10, z11, z12, xa.toInt, xb.toInt, z15]) sf_2 rfl hS_sf_2 15 15 rfl (by decide) 13 13 rfl (by decide) 14 14 rfl (by decide) (by decide) (by decide)) gX11_products_X11_multiply rfl hy_X11_multiply_V ⟨Nat.le_of_ble_eq_true rfl, Nat.le_of_ble_eq_true rfl⟩ 0 rfl rfl [0, 1, 2] rfl (by decide) rfl rfl (Nat.le_of_ble_eq_true rfl) ⟨Nat.le_of_ble_eq_true rfl, Nat.le_of_ble_eq_true rfl⟩ ?_
  rintro _ sf_3 ⟨rfl, hS_sf_3⟩
  change J p l e rm_X11_products s m args below meth c Q G A 11 0 0 25 [(0, .ref (q 0)), (1, .int r), (2, .long xa), (4, .long xb), (6, .long xc), (8, .long xe), (10, .int ls)] [] [(q 0, .inr (10, mF t n q co cr po tx ty)), (q 10, aI G 320 (rg [z0, z1, z2, z3, z4, z5, z6, z7, z8, z9, z10, z11, z12, xa.toInt, xb.toInt, (xa.toInt * xb.toInt)])), (q 11, aZ G 16 sf_3)]
  refine j_aload_n X dX11_products_25 rfl 0 rfl ?_
  refine j_bipush (v := 14) X dX11_products_26 (by decide) ?_
  refine j_lload X dX11_products_28 4 rfl ?_
  refine j_callV X dX11_products_30 (h_load l G q t n co cr po tx ty ([z0, z1, z2, z3, z4, z5, z6, z7, z8, z9, z10, z11, z12, xa.toInt, xb.toInt, (xa.toInt * xb.toInt)]) sf_3 rfl hS_sf_3 14 14 rfl (by decide) xc ) gX11_products_X11_load rfl hy_X11_load_V ⟨Nat.le_of_ble_eq_true rfl, Nat.le_of_ble_eq_true rfl⟩ 0 rfl rfl [0, 1, 2] rfl (by decide) rfl rfl (Nat.le_of_ble_eq_true rfl) ⟨Nat.le_of_ble_eq_true rfl, Nat.le_of_ble_eq_true rfl⟩ ?_
  rintro _ sf_4 ⟨rfl, hS_sf_4⟩
  change J p l e rm_X11_products s m args below meth c Q G A 11 0 0 33 [(0, .ref (q 0)), (1, .int r), (2, .long xa), (4, .long xb), (6, .long xc), (8, .long xe), (10, .int ls)] [] [(q 0, .inr (10, mF t n q co cr po tx ty)), (q 10, aI G 320 (rg [z0, z1, z2, z3, z4, z5, z6, z7, z8, z9, z10, z11, z12, xa.toInt, xc.toInt, (xa.toInt * xb.toInt)])), (q 11, aZ G 16 sf_4)]
  refine j_aload_n X dX11_products_33 rfl 0 rfl ?_
  refine j_bipush (v := 13) X dX11_products_34 (by decide) ?_
  refine j_lload X dX11_products_36 5 rfl ?_
  refine j_callV X dX11_products_38 (h_load l G q t n co cr po tx ty ([z0, z1, z2, z3, z4, z5, z6, z7, z8, z9, z10, z11, z12, xa.toInt, xc.toInt, (xa.toInt * xb.toInt)]) sf_4 rfl hS_sf_4 13 13 rfl (by decide) xe ) gX11_products_X11_load rfl hy_X11_load_V ⟨Nat.le_of_ble_eq_true rfl, Nat.le_of_ble_eq_true rfl⟩ 0 rfl rfl [0, 1, 2] rfl (by decide) rfl rfl (Nat.le_of_ble_eq_true rfl) ⟨Nat.le_of_ble_eq_true rfl, Nat.le_of_ble_eq_true rfl⟩ ?_
  rintro _ sf_5 ⟨rfl, hS_sf_5⟩
  change J p l e rm_X11_products s m args below meth c Q G A 11 0 0 41 [(0, .ref (q 0)), (1, .int r), (2, .long xa), (4, .long xb), (6, .long xc), (8, .long xe), (10, .int ls)] [] [(q 0, .inr (10, mF t n q co cr po tx ty)), (q 10, aI G 320 (rg [z0, z1, z2, z3, z4, z5, z6, z7, z8, z9, z10, z11, z12, xe.toInt, xc.toInt, (xa.toInt * xb.toInt)])), (q 11, aZ G 16 sf_5)]
  refine j_aload_n X dX11_products_41 rfl 0 rfl ?_
  refine j_bipush (v := 12) X dX11_products_42 (by decide) ?_
  refine j_bipush (v := 13) X dX11_products_44 (by decide) ?_
  refine j_bipush (v := 14) X dX11_products_46 (by decide) ?_
  refine j_callV X dX11_products_48 (h_multiply l G q t n co cr po tx ty ([z0, z1, z2, z3, z4, z5, z6, z7, z8, z9, z10, z11, z12, xe.toInt, xc.toInt, (xa.toInt * xb.toInt)]) sf_5 rfl hS_sf_5 12 12 rfl (by decide) 13 13 rfl (by decide) 14 14 rfl (by decide) (by decide) (by decide)) gX11_products_X11_multiply rfl hy_X11_multiply_V ⟨Nat.le_of_ble_eq_true rfl, Nat.le_of_ble_eq_true rfl⟩ 0 rfl rfl [0, 1, 2] rfl (by decide) rfl rfl (Nat.le_of_ble_eq_true rfl) ⟨Nat.le_of_ble_eq_true rfl, Nat.le_of_ble_eq_true rfl⟩ ?_
  rintro _ sf_6 ⟨rfl, hS_sf_6⟩
  change J p l e rm_X11_products s m args below meth c Q G A 11 0 0 51 [(0, .ref (q 0)), (1, .int r), (2, .long xa), (4, .long xb), (6, .long xc), (8, .long xe), (10, .int ls)] [] [(q 0, .inr (10, mF t n q co cr po tx ty)), (q 10, aI G 320 (rg [z0, z1, z2, z3, z4, z5, z6, z7, z8, z9, z10, z11, (xe.toInt * xc.toInt), xe.toInt, xc.toInt, (xa.toInt * xb.toInt)])), (q 11, aZ G 16 sf_6)]
  refine j_aload_n X dX11_products_51 rfl 0 rfl ?_
  refine j_iload_n X dX11_products_52 rfl 1 rfl ?_
  refine j_bipush (v := 15) X dX11_products_53 (by decide) ?_
  refine j_bipush (v := 12) X dX11_products_55 (by decide) ?_
  refine j_iload X dX11_products_57 6 rfl ?_
  refine j_callV X dX11_products_59 (h_join l G q t n co cr po tx ty ([z0, z1, z2, z3, z4, z5, z6, z7, z8, z9, z10, z11, (xe.toInt * xc.toInt), xe.toInt, xc.toInt, (xa.toInt * xb.toInt)]) sf_6 rfl hS_sf_6 r dd hdd gdd 15 15 rfl (by decide) 12 12 rfl (by decide) ls hls (by omega) (by omega) (nb63 xa xb) (nb63 xe xc)) gX11_products_X11_join rfl hy_X11_join_V ⟨Nat.le_of_ble_eq_true rfl, Nat.le_of_ble_eq_true rfl⟩ 0 rfl rfl [0, 1, 2] rfl (by decide) rfl rfl (Nat.le_of_ble_eq_true rfl) ⟨Nat.le_of_ble_eq_true rfl, Nat.le_of_ble_eq_true rfl⟩ ?_
  rintro _ sf_7 ⟨rfl, hS_sf_7⟩
  change J p l e rm_X11_products s m args below meth c Q G A 11 0 0 62 [(0, .ref (q 0)), (1, .int r), (2, .long xa), (4, .long xb), (6, .long xc), (8, .long xe), (10, .int ls)] [] [(q 0, .inr (10, mF t n q co cr po tx ty)), (q 10, aI G 320 (rg ([z0, z1, z2, z3, z4, z5, z6, z7, z8, z9, z10, z11, (xe.toInt * xc.toInt), xe.toInt, xc.toInt, (xa.toInt * xb.toInt)].set dd (jn ls (xa.toInt * xb.toInt) (xe.toInt * xc.toInt))))), (q 11, aZ G 16 sf_7)]
  exact E.1 62 _ sf_7 dX11_products_62 (⟨rfl, hS_sf_7⟩) hr

theorem hy_X11_products_V : yX11_products.cls = RX11 ∧ yX11_products.cls ≠ "java/lang/invoke/MethodHandle" ∧ yX11_products.cls ≠ "java/lang/invoke/VarHandle" ∧ (parseMethodDescriptor yX11_products.desc).map (fun d => d.parameters.length) = some 6 := by decide +kernel
abbrev rm_X11_turnOf : Room := { frames := 3, cells := 0, slots := 0, locals := 86 }
set_option maxHeartbeats 4000000 in
set_option maxRecDepth 100000 in
theorem c_X11_turnOf (l : Launch) (G : jG) (q : Nat → Nat) (t n co cr po : Int32) (tx ty : Int64) (zs : List Int) (hl : zs.length = 16) (sf : Nat → Int32) (hS : okS zs sf) (ax ay bx by1 cx cy : Int64) : Ct l yX11_turnOf wsX11_turnOf rm_X11_turnOf G [.ref (q 0), .long ax, .long ay, .long bx, .long by1, .long cx, .long cy] [(q 0, .inr (10, mF t n q co cr po tx ty)), (q 10, aI G 320 (rg zs)), (q 11, aZ G 16 sf)] (S := Nat → Int32) (fun r u => r = some (.int (sg ((bx - ax).toInt * (cy - ay).toInt - (cx - ax).toInt * (by1 - ay).toInt))) ∧ okS (zP zs 4 (bx - ax).toInt (cy - ay).toInt (by1 - ay).toInt (cx - ax).toInt 1) u) (fun u => mW G q t n co cr po tx ty (zP zs 4 (bx - ax).toInt (cy - ay).toInt (by1 - ay).toInt (cx - ax).toInt 1) u) (fun _ => []) := by
  refine c_intro (cc := cX11_turnOf) (maxL := 13) (ret := (some .int)) (by decide) rfl (Nat.le_of_ble_eq_true rfl) (fun _ => by simp only [List.map_cons, List.map_nil]) ?_
  intro p e s m args below meth c Q A X hr hin E
  change J p l e rm_X11_turnOf s m args below meth c Q G A 13 0 0 0 [(0, .ref (q 0)), (1, .long ax), (3, .long ay), (5, .long bx), (7, .long by1), (9, .long cx), (11, .long cy)] [] [(q 0, .inr (10, mF t n q co cr po tx ty)), (q 10, aI G 320 (rg zs)), (q 11, aZ G 16 sf)]
  obtain ⟨z0, z1, z2, z3, z4, z5, z6, z7, z8, z9, z10, z11, z12, z13, z14, z15, rfl⟩ := l16 hl
  refine j_aload_n X dX11_turnOf_0 rfl 0 rfl ?_
  refine j_iconst (v := 4) X dX11_turnOf_1 rfl ?_
  refine j_lload X dX11_turnOf_2 3 rfl ?_
  refine j_lload_n X dX11_turnOf_4 rfl 1 rfl ?_
  refine j_lsub X dX11_turnOf_5 ?_
  refine j_lload X dX11_turnOf_6 6 rfl ?_
  refine j_lload_n X dX11_turnOf_8 rfl 2 rfl ?_
  refine j_lsub X dX11_turnOf_9 ?_
  refine j_lload X dX11_turnOf_10 4 rfl ?_
  refine j_lload_n X dX11_turnOf_12 rfl 2 rfl ?_
  refine j_lsub X dX11_turnOf_13 ?_
  refine j_lload X dX11_turnOf_14 5 rfl ?_
  refine j_lload_n X dX11_turnOf_16 rfl 1 rfl ?_
  refine j_lsub X dX11_turnOf_17 ?_
  refine j_iconst (v := 1) X dX11_turnOf_18 rfl ?_
  refine j_callV X dX11_turnOf_19 (c_X11_products l G q t n co cr po tx ty ([z0, z1, z2, z3, z4, z5, z6, z7, z8, z9, z10, z11, z12, z13, z14, z15]) rfl sf hS 4 4 rfl (by decide) (bx - ax) (cy - ay) (by1 - ay) (cx - ax) 1 (Or.inr rfl)) gX11_turnOf_X11_products rfl hy_X11_products_V ⟨Nat.le_of_ble_eq_true rfl, Nat.le_of_ble_eq_true rfl⟩ 0 rfl rfl [0, 1, 2] rfl (by decide) rfl rfl (Nat.le_of_ble_eq_true rfl) ⟨Nat.le_of_ble_eq_true rfl, Nat.le_of_ble_eq_true rfl⟩ ?_
  rintro _ sf_1 ⟨rfl, hS_sf_1⟩
  change J p l e rm_X11_turnOf s m args below meth c Q G A 13 0 0 22 [(0, .ref (q 0)), (1, .long ax), (3, .long ay), (5, .long bx), (7, .long by1), (9, .long cx), (11, .long cy)] [] [(q 0, .inr (10, mF t n q co cr po tx ty)), (q 10, aI G 320 (rg [z0, z1, z2, z3, ((((bx - ax).toInt) * ((cy - ay).toInt)) - (((cx - ax).toInt) * ((by1 - ay).toInt))), z5, z6, z7, z8, z9, z10, z11, (((cx - ax).toInt) * ((by1 - ay).toInt)), ((cx - ax).toInt), ((by1 - ay).toInt), (((bx - ax).toInt) * ((cy - ay).toInt))])), (q 11, aZ G 16 sf_1)]
  refine j_aload_n X dX11_turnOf_22 rfl 0 rfl ?_
  refine j_iconst (v := 4) X dX11_turnOf_23 rfl ?_
  refine j_callV X dX11_turnOf_24 (c_X11_sign l G q t n co cr po tx ty ([z0, z1, z2, z3, ((((bx - ax).toInt) * ((cy - ay).toInt)) - (((cx - ax).toInt) * ((by1 - ay).toInt))), z5, z6, z7, z8, z9, z10, z11, (((cx - ax).toInt) * ((by1 - ay).toInt)), ((cx - ax).toInt), ((by1 - ay).toInt), (((bx - ax).toInt) * ((cy - ay).toInt))]) rfl sf_1 4 4 rfl (by decide) (hS_sf_1 4 (by decide)) (nb64 _ _ _ _)) gX11_turnOf_X11_sign rfl hy_X11_sign_V ⟨Nat.le_of_ble_eq_true rfl, Nat.le_of_ble_eq_true rfl⟩ 0 rfl rfl [0, 1, 2] rfl (by decide) rfl rfl (Nat.le_of_ble_eq_true rfl) ⟨Nat.le_of_ble_eq_true rfl, Nat.le_of_ble_eq_true rfl⟩ ?_
  rintro _ ⟨⟩ rfl
  change J p l e rm_X11_turnOf s m args below meth c Q G A 13 0 0 27 [(0, .ref (q 0)), (1, .long ax), (3, .long ay), (5, .long bx), (7, .long by1), (9, .long cx), (11, .long cy)] [.int (sg ((((bx - ax).toInt) * ((cy - ay).toInt)) - (((cx - ax).toInt) * ((by1 - ay).toInt))))] [(q 0, .inr (10, mF t n q co cr po tx ty)), (q 10, aI G 320 (rg [z0, z1, z2, z3, ((((bx - ax).toInt) * ((cy - ay).toInt)) - (((cx - ax).toInt) * ((by1 - ay).toInt))), z5, z6, z7, z8, z9, z10, z11, (((cx - ax).toInt) * ((by1 - ay).toInt)), ((cx - ax).toInt), ((by1 - ay).toInt), (((bx - ax).toInt) * ((cy - ay).toInt))])), (q 11, aZ G 16 sf_1)]
  exact E.2.1 27 _ (sg ((((bx - ax).toInt) * ((cy - ay).toInt)) - (((cx - ax).toInt) * ((by1 - ay).toInt)))) sf_1 _ dX11_turnOf_27 (⟨rfl, hS_sf_1⟩) hr rfl

theorem hy_X11_turnOf_V : yX11_turnOf.cls = RX11 ∧ yX11_turnOf.cls ≠ "java/lang/invoke/MethodHandle" ∧ yX11_turnOf.cls ≠ "java/lang/invoke/VarHandle" ∧ (parseMethodDescriptor yX11_turnOf.desc).map (fun d => d.parameters.length) = some 6 := by decide +kernel
