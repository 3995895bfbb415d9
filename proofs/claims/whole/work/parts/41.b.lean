abbrev rm_X11_endSide : Room := { frames := 4, cells := 0, slots := 0, locals := 118 }
theorem in_X11_endSide_X11 : ∀ w ∈ u_ws RX11 TX11 19, w ∈ wsX11_endSide := by decide +kernel
theorem fl_X11_endSide_13 : Cond.fieldLink RX11 13 (TX11 3).1 (TX11 3).2.1 (TX11 3).2.2.1 ∈ wsX11_endSide := by decide +kernel
theorem fl_X11_endSide_17 : Cond.fieldLink RX11 17 (TX11 4).1 (TX11 4).2.1 (TX11 4).2.2.1 ∈ wsX11_endSide := by decide +kernel
theorem fl_X11_endSide_20 : Cond.fieldLink RX11 20 (TX11 5).1 (TX11 5).2.1 (TX11 5).2.2.1 ∈ wsX11_endSide := by decide +kernel
theorem fl_X11_endSide_23 : Cond.fieldLink RX11 23 (TX11 6).1 (TX11 6).2.1 (TX11 6).2.2.1 ∈ wsX11_endSide := by decide +kernel
set_option maxHeartbeats 4000000 in
set_option maxRecDepth 100000 in
theorem c_X11_endSide_0 (l : Launch) (G : jG) (q : Nat → Nat) (t n co cr po : Int32) (tx ty : Int64) (zs : List Int) (hl : zs.length = 16) (sf : Nat → Int32) (hS : okS zs sf) (f1 f2 f3 f4 : Nat → Int64) (a b : Nat) (ba : (inC (f1 a).toInt ∧ inC (f2 a).toInt) ∧ inC (f3 a).toInt ∧ inC (f4 a).toInt) (ga : a < 200) (bb : (inC (f1 b).toInt ∧ inC (f2 b).toInt) ∧ inC (f3 b).toInt ∧ inC (f4 b).toInt) (gb : b < 200) : Ct l yX11_endSide wsX11_endSide rm_X11_endSide G [.ref (q 0), .int (nI a), .int (nI b), .int 0] [(q 0, .inr (10, mF t n q co cr po tx ty)), (q 2, aJ G 200 f1), (q 3, aJ G 200 f2), (q 4, aJ G 200 f3), (q 5, aJ G 200 f4), (q 10, aI G 320 (rg zs)), (q 11, aZ G 16 sf)] (S := List Int × (Nat → Int32)) (fun r u => r = some (.int (sg (tn (f1 a).toInt (f2 a).toInt (f3 a).toInt (f4 a).toInt (f1 b).toInt (f2 b).toInt))) ∧ kp zs u.1 ∧ okS u.1 u.2) (fun u => [(q 0, .inr (10, mF t n q co cr po tx ty)), (q 2, aJ G 200 f1), (q 3, aJ G 200 f2), (q 4, aJ G 200 f3), (q 5, aJ G 200 f4), (q 10, aI G 320 (rg u.1)), (q 11, aZ G 16 u.2)]) (fun _ => []) := by
  refine c_intro (cc := cX11_endSide) (maxL := 4) (ret := (some .int)) (by decide) rfl (Nat.le_of_ble_eq_true rfl) (fun _ => by simp only [List.map_cons, List.map_nil]) ?_
  intro p e s m args below meth c Q A X hr hin E
  change J p l e rm_X11_endSide s m args below meth c Q G A 4 0 0 0 [(0, .ref (q 0)), (1, .int (nI a)), (2, .int (nI b)), (3, .int 0)] [] [(q 0, .inr (10, mF t n q co cr po tx ty)), (q 2, aJ G 200 f1), (q 3, aJ G 200 f2), (q 4, aJ G 200 f3), (q 5, aJ G 200 f4), (q 10, aI G 320 (rg zs)), (q 11, aZ G 16 sf)]
  obtain ⟨z0, z1, z2, z3, z4, z5, z6, z7, z8, z9, z10, z11, z12, z13, z14, z15, rfl⟩ := l16 hl
  refine j_aload_n X dX11_endSide_0 rfl 0 rfl ?_
  refine j_aload_n X dX11_endSide_1 rfl 0 rfl ?_
  refine j_get (v := .ref (q 2)) X dX11_endSide_2 0 rfl 3 rfl in_X11_endSide_X11 (by decide) fl_X11_endSide_13 rfl ?_
  refine j_iload_n X dX11_endSide_5 rfl 1 rfl ?_
  refine j_lald X dX11_endSide_6 1 rfl a rfl ga (by decide) ?_
  refine j_aload_n X dX11_endSide_7 rfl 0 rfl ?_
  refine j_get (v := .ref (q 3)) X dX11_endSide_8 0 rfl 4 rfl in_X11_endSide_X11 (by decide) fl_X11_endSide_17 rfl ?_
  refine j_iload_n X dX11_endSide_11 rfl 1 rfl ?_
  refine j_lald X dX11_endSide_12 2 rfl a rfl ga (by decide) ?_
  refine j_aload_n X dX11_endSide_13 rfl 0 rfl ?_
  refine j_get (v := .ref (q 4)) X dX11_endSide_14 0 rfl 5 rfl in_X11_endSide_X11 (by decide) fl_X11_endSide_20 rfl ?_
  refine j_iload_n X dX11_endSide_17 rfl 1 rfl ?_
  refine j_lald X dX11_endSide_18 3 rfl a rfl ga (by decide) ?_
  refine j_aload_n X dX11_endSide_19 rfl 0 rfl ?_
  refine j_get (v := .ref (q 5)) X dX11_endSide_20 0 rfl 6 rfl in_X11_endSide_X11 (by decide) fl_X11_endSide_23 rfl ?_
  refine j_iload_n X dX11_endSide_23 rfl 1 rfl ?_
  refine j_lald X dX11_endSide_24 4 rfl a rfl ga (by decide) ?_
  refine j_iload_n X dX11_endSide_25 rfl 3 rfl ?_
  refine j_if_ne (tgt := 38) X dX11_endSide_26 (by decide) (fun c9 => absurd c9 (by decide)) (fun _ => ?_)
  refine j_aload_n X dX11_endSide_29 rfl 0 rfl ?_
  refine j_get (v := .ref (q 2)) X dX11_endSide_30 0 rfl 3 rfl in_X11_endSide_X11 (by decide) fl_X11_endSide_13 rfl ?_
  refine j_iload_n X dX11_endSide_33 rfl 2 rfl ?_
  refine j_lald X dX11_endSide_34 1 rfl b rfl gb (by decide) ?_
  refine j_goto (tgt := 44) X dX11_endSide_35 (by decide) ?_
  refine j_iload_n X dX11_endSide_44 rfl 3 rfl ?_
  refine j_if_ne (tgt := 57) X dX11_endSide_45 (by decide) (fun c9 => absurd c9 (by decide)) (fun _ => ?_)
  refine j_aload_n X dX11_endSide_48 rfl 0 rfl ?_
  refine j_get (v := .ref (q 3)) X dX11_endSide_49 0 rfl 4 rfl in_X11_endSide_X11 (by decide) fl_X11_endSide_17 rfl ?_
  refine j_iload_n X dX11_endSide_52 rfl 2 rfl ?_
  refine j_lald X dX11_endSide_53 2 rfl b rfl gb (by decide) ?_
  refine j_goto (tgt := 63) X dX11_endSide_54 (by decide) ?_
  refine j_callV X dX11_endSide_63 (n_turnOf l G q t n co cr po tx ty [z0, z1, z2, z3, z4, z5, z6, z7, z8, z9, z10, z11, z12, z13, z14, z15] sf rfl hS (f1 a) (f2 a) (f3 a) (f4 a) (f1 b) (f2 b) ba.1.1 ba.1.2 ba.2.1 ba.2.2 bb.1.1 bb.1.2) gX11_endSide_X11_turnOf rfl hy_X11_turnOf_V ⟨Nat.le_of_ble_eq_true rfl, Nat.le_of_ble_eq_true rfl⟩ 0 rfl rfl [0, 5, 6] rfl (by decide) rfl rfl (Nat.le_of_ble_eq_true rfl) ⟨Nat.le_of_ble_eq_true rfl, Nat.le_of_ble_eq_true rfl⟩ ?_
  rintro _ ⟨zs_2, sf_1⟩ ⟨rfl, hk_sf_1, hS_sf_1⟩
  obtain ⟨y4_sf_1, y5_sf_1, y6_sf_1, y7_sf_1, y8_sf_1, y9_sf_1, y10_sf_1, y11_sf_1, y12_sf_1, y13_sf_1, y14_sf_1, y15_sf_1, rfl⟩ := kp_4 hk_sf_1
  change J p l e rm_X11_endSide s m args below meth c Q G A 4 0 0 66 [(0, .ref (q 0)), (1, .int (nI a)), (2, .int (nI b)), (3, .int 0)] [.int (sg (tn (f1 a).toInt (f2 a).toInt (f3 a).toInt (f4 a).toInt (f1 b).toInt (f2 b).toInt))] [(q 0, .inr (10, mF t n q co cr po tx ty)), (q 2, aJ G 200 f1), (q 3, aJ G 200 f2), (q 4, aJ G 200 f3), (q 5, aJ G 200 f4), (q 10, aI G 320 (rg [z0, z1, z2, z3, y4_sf_1, y5_sf_1, y6_sf_1, y7_sf_1, y8_sf_1, y9_sf_1, y10_sf_1, y11_sf_1, y12_sf_1, y13_sf_1, y14_sf_1, y15_sf_1])), (q 11, aZ G 16 sf_1)]
  exact E.2.1 66 _ (sg (tn (f1 a).toInt (f2 a).toInt (f3 a).toInt (f4 a).toInt (f1 b).toInt (f2 b).toInt)) ([z0, z1, z2, z3, y4_sf_1, y5_sf_1, y6_sf_1, y7_sf_1, y8_sf_1, y9_sf_1, y10_sf_1, y11_sf_1, y12_sf_1, y13_sf_1, y14_sf_1, y15_sf_1], sf_1) _ dX11_endSide_66 (⟨rfl, kp_i, hS_sf_1⟩) hr rfl

theorem hy_X11_endSide_V : yX11_endSide.cls = RX11 ∧ yX11_endSide.cls ≠ "java/lang/invoke/MethodHandle" ∧ yX11_endSide.cls ≠ "java/lang/invoke/VarHandle" ∧ (parseMethodDescriptor yX11_endSide.desc).map (fun d => d.parameters.length) = some 3 := by decide +kernel
set_option maxHeartbeats 4000000 in
set_option maxRecDepth 100000 in
theorem c_X11_endSide_1 (l : Launch) (G : jG) (q : Nat → Nat) (t n co cr po : Int32) (tx ty : Int64) (zs : List Int) (hl : zs.length = 16) (sf : Nat → Int32) (hS : okS zs sf) (f1 f2 f3 f4 : Nat → Int64) (a b : Nat) (ba : (inC (f1 a).toInt ∧ inC (f2 a).toInt) ∧ inC (f3 a).toInt ∧ inC (f4 a).toInt) (ga : a < 200) (bb : (inC (f1 b).toInt ∧ inC (f2 b).toInt) ∧ inC (f3 b).toInt ∧ inC (f4 b).toInt) (gb : b < 200) : Ct l yX11_endSide wsX11_endSide rm_X11_endSide G [.ref (q 0), .int (nI a), .int (nI b), .int 1] [(q 0, .inr (10, mF t n q co cr po tx ty)), (q 2, aJ G 200 f1), (q 3, aJ G 200 f2), (q 4, aJ G 200 f3), (q 5, aJ G 200 f4), (q 10, aI G 320 (rg zs)), (q 11, aZ G 16 sf)] (S := List Int × (Nat → Int32)) (fun r u => r = some (.int (sg (tn (f1 a).toInt (f2 a).toInt (f3 a).toInt (f4 a).toInt (f3 b).toInt (f4 b).toInt))) ∧ kp zs u.1 ∧ okS u.1 u.2) (fun u => [(q 0, .inr (10, mF t n q co cr po tx ty)), (q 2, aJ G 200 f1), (q 3, aJ G 200 f2), (q 4, aJ G 200 f3), (q 5, aJ G 200 f4), (q 10, aI G 320 (rg u.1)), (q 11, aZ G 16 u.2)]) (fun _ => []) := by
  refine c_intro (cc := cX11_endSide) (maxL := 4) (ret := (some .int)) (by decide) rfl (Nat.le_of_ble_eq_true rfl) (fun _ => by simp only [List.map_cons, List.map_nil]) ?_
  intro p e s m args below meth c Q A X hr hin E
  change J p l e rm_X11_endSide s m args below meth c Q G A 4 0 0 0 [(0, .ref (q 0)), (1, .int (nI a)), (2, .int (nI b)), (3, .int 1)] [] [(q 0, .inr (10, mF t n q co cr po tx ty)), (q 2, aJ G 200 f1), (q 3, aJ G 200 f2), (q 4, aJ G 200 f3), (q 5, aJ G 200 f4), (q 10, aI G 320 (rg zs)), (q 11, aZ G 16 sf)]
  obtain ⟨z0, z1, z2, z3, z4, z5, z6, z7, z8, z9, z10, z11, z12, z13, z14, z15, rfl⟩ := l16 hl
  refine j_aload_n X dX11_endSide_0 rfl 0 rfl ?_
  refine j_aload_n X dX11_endSide_1 rfl 0 rfl ?_
  refine j_get (v := .ref (q 2)) X dX11_endSide_2 0 rfl 3 rfl in_X11_endSide_X11 (by decide) fl_X11_endSide_13 rfl ?_
  refine j_iload_n X dX11_endSide_5 rfl 1 rfl ?_
  refine j_lald X dX11_endSide_6 1 rfl a rfl ga (by decide) ?_
  refine j_aload_n X dX11_endSide_7 rfl 0 rfl ?_
  refine j_get (v := .ref (q 3)) X dX11_endSide_8 0 rfl 4 rfl in_X11_endSide_X11 (by decide) fl_X11_endSide_17 rfl ?_
  refine j_iload_n X dX11_endSide_11 rfl 1 rfl ?_
  refine j_lald X dX11_endSide_12 2 rfl a rfl ga (by decide) ?_
  refine j_aload_n X dX11_endSide_13 rfl 0 rfl ?_
  refine j_get (v := .ref (q 4)) X dX11_endSide_14 0 rfl 5 rfl in_X11_endSide_X11 (by decide) fl_X11_endSide_20 rfl ?_
  refine j_iload_n X dX11_endSide_17 rfl 1 rfl ?_
  refine j_lald X dX11_endSide_18 3 rfl a rfl ga (by decide) ?_
  refine j_aload_n X dX11_endSide_19 rfl 0 rfl ?_
  refine j_get (v := .ref (q 5)) X dX11_endSide_20 0 rfl 6 rfl in_X11_endSide_X11 (by decide) fl_X11_endSide_23 rfl ?_
  refine j_iload_n X dX11_endSide_23 rfl 1 rfl ?_
  refine j_lald X dX11_endSide_24 4 rfl a rfl ga (by decide) ?_
  refine j_iload_n X dX11_endSide_25 rfl 3 rfl ?_
  refine j_if_ne (tgt := 38) X dX11_endSide_26 (by decide) (fun _ => ?_) (fun c9 => absurd c9 (by decide))
  refine j_aload_n X dX11_endSide_38 rfl 0 rfl ?_
  refine j_get (v := .ref (q 4)) X dX11_endSide_39 0 rfl 5 rfl in_X11_endSide_X11 (by decide) fl_X11_endSide_20 rfl ?_
  refine j_iload_n X dX11_endSide_42 rfl 2 rfl ?_
  refine j_lald X dX11_endSide_43 3 rfl b rfl gb (by decide) ?_
  refine j_iload_n X dX11_endSide_44 rfl 3 rfl ?_
  refine j_if_ne (tgt := 57) X dX11_endSide_45 (by decide) (fun _ => ?_) (fun c9 => absurd c9 (by decide))
  refine j_aload_n X dX11_endSide_57 rfl 0 rfl ?_
  refine j_get (v := .ref (q 5)) X dX11_endSide_58 0 rfl 6 rfl in_X11_endSide_X11 (by decide) fl_X11_endSide_23 rfl ?_
  refine j_iload_n X dX11_endSide_61 rfl 2 rfl ?_
  refine j_lald X dX11_endSide_62 4 rfl b rfl gb (by decide) ?_
  refine j_callV X dX11_endSide_63 (n_turnOf l G q t n co cr po tx ty [z0, z1, z2, z3, z4, z5, z6, z7, z8, z9, z10, z11, z12, z13, z14, z15] sf rfl hS (f1 a) (f2 a) (f3 a) (f4 a) (f3 b) (f4 b) ba.1.1 ba.1.2 ba.2.1 ba.2.2 bb.2.1 bb.2.2) gX11_endSide_X11_turnOf rfl hy_X11_turnOf_V ⟨Nat.le_of_ble_eq_true rfl, Nat.le_of_ble_eq_true rfl⟩ 0 rfl rfl [0, 5, 6] rfl (by decide) rfl rfl (Nat.le_of_ble_eq_true rfl) ⟨Nat.le_of_ble_eq_true rfl, Nat.le_of_ble_eq_true rfl⟩ ?_
  rintro _ ⟨zs_2, sf_1⟩ ⟨rfl, hk_sf_1, hS_sf_1⟩
  obtain ⟨y4_sf_1, y5_sf_1, y6_sf_1, y7_sf_1, y8_sf_1, y9_sf_1, y10_sf_1, y11_sf_1, y12_sf_1, y13_sf_1, y14_sf_1, y15_sf_1, rfl⟩ := kp_4 hk_sf_1
  change J p l e rm_X11_endSide s m args below meth c Q G A 4 0 0 66 [(0, .ref (q 0)), (1, .int (nI a)), (2, .int (nI b)), (3, .int 1)] [.int (sg (tn (f1 a).toInt (f2 a).toInt (f3 a).toInt (f4 a).toInt (f3 b).toInt (f4 b).toInt))] [(q 0, .inr (10, mF t n q co cr po tx ty)), (q 2, aJ G 200 f1), (q 3, aJ G 200 f2), (q 4, aJ G 200 f3), (q 5, aJ G 200 f4), (q 10, aI G 320 (rg [z0, z1, z2, z3, y4_sf_1, y5_sf_1, y6_sf_1, y7_sf_1, y8_sf_1, y9_sf_1, y10_sf_1, y11_sf_1, y12_sf_1, y13_sf_1, y14_sf_1, y15_sf_1])), (q 11, aZ G 16 sf_1)]
  exact E.2.1 66 _ (sg (tn (f1 a).toInt (f2 a).toInt (f3 a).toInt (f4 a).toInt (f3 b).toInt (f4 b).toInt)) ([z0, z1, z2, z3, y4_sf_1, y5_sf_1, y6_sf_1, y7_sf_1, y8_sf_1, y9_sf_1, y10_sf_1, y11_sf_1, y12_sf_1, y13_sf_1, y14_sf_1, y15_sf_1], sf_1) _ dX11_endSide_66 (⟨rfl, kp_i, hS_sf_1⟩) hr rfl

abbrev rm_X11_onSegment : Room := { frames := 4, cells := 0, slots := 0, locals := 118 }
theorem in_X11_onSegment_X11 : ∀ w ∈ u_ws RX11 TX11 19, w ∈ wsX11_onSegment := by decide +kernel
theorem fl_X11_onSegment_13 : Cond.fieldLink RX11 13 (TX11 3).1 (TX11 3).2.1 (TX11 3).2.2.1 ∈ wsX11_onSegment := by decide +kernel
theorem fl_X11_onSegment_20 : Cond.fieldLink RX11 20 (TX11 5).1 (TX11 5).2.1 (TX11 5).2.2.1 ∈ wsX11_onSegment := by decide +kernel
theorem fl_X11_onSegment_17 : Cond.fieldLink RX11 17 (TX11 4).1 (TX11 4).2.1 (TX11 4).2.2.1 ∈ wsX11_onSegment := by decide +kernel
theorem fl_X11_onSegment_23 : Cond.fieldLink RX11 23 (TX11 6).1 (TX11 6).2.1 (TX11 6).2.2.1 ∈ wsX11_onSegment := by decide +kernel
set_option maxHeartbeats 4000000 in
set_option maxRecDepth 100000 in
theorem c_X11_onSegment (l : Launch) (G : jG) (q : Nat → Nat) (t n co cr po : Int32) (tx ty : Int64) (zs : List Int) (hl : zs.length = 16) (sf : Nat → Int32) (hS : okS zs sf) (f1 f2 f3 f4 : Nat → Int64) (a : Nat) (ba : (inC (f1 a).toInt ∧ inC (f2 a).toInt) ∧ inC (f3 a).toInt ∧ inC (f4 a).toInt) (ga : a < 200) (x y : Int64) (bx : inC x.toInt) (by1 : inC y.toInt) : Ct l yX11_onSegment wsX11_onSegment rm_X11_onSegment G [.ref (q 0), .int (nI a), .long x, .long y] [(q 0, .inr (10, mF t n q co cr po tx ty)), (q 2, aJ G 200 f1), (q 3, aJ G 200 f2), (q 4, aJ G 200 f3), (q 5, aJ G 200 f4), (q 10, aI G 320 (rg zs)), (q 11, aZ G 16 sf)] (S := List Int × (Nat → Int32)) (fun r u => r = some (.int (bI (onS (f1 a).toInt (f2 a).toInt (f3 a).toInt (f4 a).toInt x.toInt y.toInt))) ∧ kp zs u.1 ∧ okS u.1 u.2) (fun u => [(q 0, .inr (10, mF t n q co cr po tx ty)), (q 2, aJ G 200 f1), (q 3, aJ G 200 f2), (q 4, aJ G 200 f3), (q 5, aJ G 200 f4), (q 10, aI G 320 (rg u.1)), (q 11, aZ G 16 u.2)]) (fun _ => []) := by
  refine c_intro (cc := cX11_onSegment) (maxL := 6) (ret := (some .boolean)) (by decide) rfl (Nat.le_of_ble_eq_true rfl) (fun _ => by simp only [List.map_cons, List.map_nil]) ?_
  intro p e s m args below meth c Q A X hr hin E
  change J p l e rm_X11_onSegment s m args below meth c Q G A 6 0 0 0 [(0, .ref (q 0)), (1, .int (nI a)), (2, .long x), (4, .long y)] [] [(q 0, .inr (10, mF t n q co cr po tx ty)), (q 2, aJ G 200 f1), (q 3, aJ G 200 f2), (q 4, aJ G 200 f3), (q 5, aJ G 200 f4), (q 10, aI G 320 (rg zs)), (q 11, aZ G 16 sf)]
  have by_ := by1
  obtain ⟨z0, z1, z2, z3, z4, z5, z6, z7, z8, z9, z10, z11, z12, z13, z14, z15, rfl⟩ := l16 hl
  refine j_lload_n X dX11_onSegment_0 rfl 2 rfl ?_
  refine j_aload_n X dX11_onSegment_1 rfl 0 rfl ?_
  refine j_get (v := .ref (q 2)) X dX11_onSegment_2 0 rfl 3 rfl in_X11_onSegment_X11 (by decide) fl_X11_onSegment_13 rfl ?_
  refine j_iload_n X dX11_onSegment_5 rfl 1 rfl ?_
  refine j_lald X dX11_onSegment_6 1 rfl a rfl ga (by decide) ?_
  refine j_aload_n X dX11_onSegment_7 rfl 0 rfl ?_
  refine j_get (v := .ref (q 4)) X dX11_onSegment_8 0 rfl 5 rfl in_X11_onSegment_X11 (by decide) fl_X11_onSegment_20 rfl ?_
  refine j_iload_n X dX11_onSegment_11 rfl 1 rfl ?_
  refine j_lald X dX11_onSegment_12 3 rfl a rfl ga (by decide) ?_
  refine j_callS X dX11_onSegment_13 (c_X11_between l G x (f1 a) (f3 a)) gX11_onSegment_X11_between rfl hy_X11_between_S ⟨Nat.le_of_ble_eq_true rfl, Nat.le_of_ble_eq_true rfl⟩ [] rfl (by decide) rfl rfl (Nat.le_of_ble_eq_true rfl) ⟨Nat.le_of_ble_eq_true rfl, Nat.le_of_ble_eq_true rfl⟩ ?_
  rintro _ ⟨⟩ rfl
  change J p l e rm_X11_onSegment s m args below meth c Q G A 6 0 0 16 [(0, .ref (q 0)), (1, .int (nI a)), (2, .long x), (4, .long y)] [.int (bI (bw x.toInt (f1 a).toInt (f3 a).toInt))] [(q 0, .inr (10, mF t n q co cr po tx ty)), (q 2, aJ G 200 f1), (q 3, aJ G 200 f2), (q 4, aJ G 200 f3), (q 5, aJ G 200 f4), (q 10, aI G 320 (rg [z0, z1, z2, z3, z4, z5, z6, z7, z8, z9, z10, z11, z12, z13, z14, z15])), (q 11, aZ G 16 sf)]
  refine j_if_eq (tgt := 39) X dX11_onSegment_16 (by decide) (fun c_16 => ?_) (fun c_16 => ?_)
  · skip
    first | simp only [bI_0, Decidable.not_not, sg_mul, sg_e0, sg_l0, sg_g0, sg_le0, sg_ge0, cmp_eq, cmp_lt, cmp_ge, cmp_gt, cmp_le, lT0, lT1] at c_16 | simp only [Int32.le_iff_toInt_le, Int32.lt_iff_toInt_lt, ← Int32.toInt_inj, iT0, iT1, iT2, iT3, iT4, iT5, iT6, iT7, iT8, iT9, iT10, iT11, iT12, iT13, iT14, iT15, iT16, iT19, iT20, iT31, iT32, iT42, iT64, iT200, iT318, iT319, iT1000, iTm1, iTm2] at c_16 | skip
    refine j_iconst (v := 0) X dX11_onSegment_39 rfl ?_
    exact E.2.1 40 _ 0 ([z0, z1, z2, z3, z4, z5, z6, z7, z8, z9, z10, z11, z12, z13, z14, z15], sf) _ dX11_onSegment_40 (⟨(by rw [bI_f (fun h => by first | exact absurd h.1.1 (by assumption) | exact absurd h.1.2 (by assumption) | exact absurd h.2 (by assumption))]), kp_i, hS⟩) hr rfl
  · skip
    first | simp only [bI_0, Decidable.not_not, sg_mul, sg_e0, sg_l0, sg_g0, sg_le0, sg_ge0, cmp_eq, cmp_lt, cmp_ge, cmp_gt, cmp_le, lT0, lT1] at c_16 | simp only [Int32.le_iff_toInt_le, Int32.lt_iff_toInt_lt, ← Int32.toInt_inj, iT0, iT1, iT2, iT3, iT4, iT5, iT6, iT7, iT8, iT9, iT10, iT11, iT12, iT13, iT14, iT15, iT16, iT19, iT20, iT31, iT32, iT42, iT64, iT200, iT318, iT319, iT1000, iTm1, iTm2] at c_16 | skip
    refine j_lload X dX11_onSegment_19 3 rfl ?_
    refine j_aload_n X dX11_onSegment_21 rfl 0 rfl ?_
    refine j_get (v := .ref (q 3)) X dX11_onSegment_22 0 rfl 4 rfl in_X11_onSegment_X11 (by decide) fl_X11_onSegment_17 rfl ?_
    refine j_iload_n X dX11_onSegment_25 rfl 1 rfl ?_
    refine j_lald X dX11_onSegment_26 2 rfl a rfl ga (by decide) ?_
    refine j_aload_n X dX11_onSegment_27 rfl 0 rfl ?_
    refine j_get (v := .ref (q 5)) X dX11_onSegment_28 0 rfl 6 rfl in_X11_onSegment_X11 (by decide) fl_X11_onSegment_23 rfl ?_
    refine j_iload_n X dX11_onSegment_31 rfl 1 rfl ?_
    refine j_lald X dX11_onSegment_32 4 rfl a rfl ga (by decide) ?_
    refine j_callS X dX11_onSegment_33 (c_X11_between l G y (f2 a) (f4 a)) gX11_onSegment_X11_between rfl hy_X11_between_S ⟨Nat.le_of_ble_eq_true rfl, Nat.le_of_ble_eq_true rfl⟩ [] rfl (by decide) rfl rfl (Nat.le_of_ble_eq_true rfl) ⟨Nat.le_of_ble_eq_true rfl, Nat.le_of_ble_eq_true rfl⟩ ?_
    rintro _ ⟨⟩ rfl
    change J p l e rm_X11_onSegment s m args below meth c Q G A 6 0 0 36 [(0, .ref (q 0)), (1, .int (nI a)), (2, .long x), (4, .long y)] [.int (bI (bw y.toInt (f2 a).toInt (f4 a).toInt))] [(q 0, .inr (10, mF t n q co cr po tx ty)), (q 2, aJ G 200 f1), (q 3, aJ G 200 f2), (q 4, aJ G 200 f3), (q 5, aJ G 200 f4), (q 10, aI G 320 (rg [z0, z1, z2, z3, z4, z5, z6, z7, z8, z9, z10, z11, z12, z13, z14, z15])), (q 11, aZ G 16 sf)]
    refine j_if_ne (tgt := 41) X dX11_onSegment_36 (by decide) (fun c_36 => ?_) (fun c_36 => ?_)
    · skip
      first | simp only [bI_0, Decidable.not_not, sg_mul, sg_e0, sg_l0, sg_g0, sg_le0, sg_ge0, cmp_eq, cmp_lt, cmp_ge, cmp_gt, cmp_le, lT0, lT1] at c_36 | simp only [Int32.le_iff_toInt_le, Int32.lt_iff_toInt_lt, ← Int32.toInt_inj, iT0, iT1, iT2, iT3, iT4, iT5, iT6, iT7, iT8, iT9, iT10, iT11, iT12, iT13, iT14, iT15, iT16, iT19, iT20, iT31, iT32, iT42, iT64, iT200, iT318, iT319, iT1000, iTm1, iTm2] at c_36 | skip
      refine j_aload_n X dX11_onSegment_41 rfl 0 rfl ?_
      refine j_aload_n X dX11_onSegment_42 rfl 0 rfl ?_
      refine j_get (v := .ref (q 2)) X dX11_onSegment_43 0 rfl 3 rfl in_X11_onSegment_X11 (by decide) fl_X11_onSegment_13 rfl ?_
      refine j_iload_n X dX11_onSegment_46 rfl 1 rfl ?_
      refine j_lald X dX11_onSegment_47 1 rfl a rfl ga (by decide) ?_
      refine j_aload_n X dX11_onSegment_48 rfl 0 rfl ?_
      refine j_get (v := .ref (q 3)) X dX11_onSegment_49 0 rfl 4 rfl in_X11_onSegment_X11 (by decide) fl_X11_onSegment_17 rfl ?_
      refine j_iload_n X dX11_onSegment_52 rfl 1 rfl ?_
      refine j_lald X dX11_onSegment_53 2 rfl a rfl ga (by decide) ?_
      refine j_aload_n X dX11_onSegment_54 rfl 0 rfl ?_
      refine j_get (v := .ref (q 4)) X dX11_onSegment_55 0 rfl 5 rfl in_X11_onSegment_X11 (by decide) fl_X11_onSegment_20 rfl ?_
      refine j_iload_n X dX11_onSegment_58 rfl 1 rfl ?_
      refine j_lald X dX11_onSegment_59 3 rfl a rfl ga (by decide) ?_
      refine j_aload_n X dX11_onSegment_60 rfl 0 rfl ?_
      refine j_get (v := .ref (q 5)) X dX11_onSegment_61 0 rfl 6 rfl in_X11_onSegment_X11 (by decide) fl_X11_onSegment_23 rfl ?_
      refine j_iload_n X dX11_onSegment_64 rfl 1 rfl ?_
      refine j_lald X dX11_onSegment_65 4 rfl a rfl ga (by decide) ?_
      refine j_lload_n X dX11_onSegment_66 rfl 2 rfl ?_
      refine j_lload X dX11_onSegment_67 3 rfl ?_
      refine j_callV X dX11_onSegment_69 (n_turnOf l G q t n co cr po tx ty [z0, z1, z2, z3, z4, z5, z6, z7, z8, z9, z10, z11, z12, z13, z14, z15] sf rfl hS (f1 a) (f2 a) (f3 a) (f4 a) x y ba.1.1 ba.1.2 ba.2.1 ba.2.2 bx by_) gX11_onSegment_X11_turnOf rfl hy_X11_turnOf_V ⟨Nat.le_of_ble_eq_true rfl, Nat.le_of_ble_eq_true rfl⟩ 0 rfl rfl [0, 5, 6] rfl (by decide) rfl rfl (Nat.le_of_ble_eq_true rfl) ⟨Nat.le_of_ble_eq_true rfl, Nat.le_of_ble_eq_true rfl⟩ ?_
      rintro _ ⟨zs_2, sf_1⟩ ⟨rfl, hk_sf_1, hS_sf_1⟩
      obtain ⟨y4_sf_1, y5_sf_1, y6_sf_1, y7_sf_1, y8_sf_1, y9_sf_1, y10_sf_1, y11_sf_1, y12_sf_1, y13_sf_1, y14_sf_1, y15_sf_1, rfl⟩ := kp_4 hk_sf_1
      change J p l e rm_X11_onSegment s m args below meth c Q G A 6 0 0 72 [(0, .ref (q 0)), (1, .int (nI a)), (2, .long x), (4, .long y)] [.int (sg (tn (f1 a).toInt (f2 a).toInt (f3 a).toInt (f4 a).toInt x.toInt y.toInt))] [(q 0, .inr (10, mF t n q co cr po tx ty)), (q 2, aJ G 200 f1), (q 3, aJ G 200 f2), (q 4, aJ G 200 f3), (q 5, aJ G 200 f4), (q 10, aI G 320 (rg [z0, z1, z2, z3, y4_sf_1, y5_sf_1, y6_sf_1, y7_sf_1, y8_sf_1, y9_sf_1, y10_sf_1, y11_sf_1, y12_sf_1, y13_sf_1, y14_sf_1, y15_sf_1])), (q 11, aZ G 16 sf_1)]
      refine j_if_ne (tgt := 79) X dX11_onSegment_72 (by decide) (fun c_72 => ?_) (fun c_72 => ?_)
      · skip
        first | simp only [bI_0, Decidable.not_not, sg_mul, sg_e0, sg_l0, sg_g0, sg_le0, sg_ge0, cmp_eq, cmp_lt, cmp_ge, cmp_gt, cmp_le, lT0, lT1] at c_72 | simp only [Int32.le_iff_toInt_le, Int32.lt_iff_toInt_lt, ← Int32.toInt_inj, iT0, iT1, iT2, iT3, iT4, iT5, iT6, iT7, iT8, iT9, iT10, iT11, iT12, iT13, iT14, iT15, iT16, iT19, iT20, iT31, iT32, iT42, iT64, iT200, iT318, iT319, iT1000, iTm1, iTm2] at c_72 | skip
        refine j_iconst (v := 0) X dX11_onSegment_79 rfl ?_
        exact E.2.1 80 _ 0 ([z0, z1, z2, z3, y4_sf_1, y5_sf_1, y6_sf_1, y7_sf_1, y8_sf_1, y9_sf_1, y10_sf_1, y11_sf_1, y12_sf_1, y13_sf_1, y14_sf_1, y15_sf_1], sf_1) _ dX11_onSegment_80 (⟨(by rw [bI_f (fun h => by first | exact absurd h.1.1 (by assumption) | exact absurd h.1.2 (by assumption) | exact absurd h.2 (by assumption))]), kp_i, hS_sf_1⟩) hr rfl
      · skip
        first | simp only [bI_0, Decidable.not_not, sg_mul, sg_e0, sg_l0, sg_g0, sg_le0, sg_ge0, cmp_eq, cmp_lt, cmp_ge, cmp_gt, cmp_le, lT0, lT1] at c_72 | simp only [Int32.le_iff_toInt_le, Int32.lt_iff_toInt_lt, ← Int32.toInt_inj, iT0, iT1, iT2, iT3, iT4, iT5, iT6, iT7, iT8, iT9, iT10, iT11, iT12, iT13, iT14, iT15, iT16, iT19, iT20, iT31, iT32, iT42, iT64, iT200, iT318, iT319, iT1000, iTm1, iTm2] at c_72 | skip
        refine j_iconst (v := 1) X dX11_onSegment_75 rfl ?_
        refine j_goto (tgt := 80) X dX11_onSegment_76 (by decide) ?_
        exact E.2.1 80 _ 1 ([z0, z1, z2, z3, y4_sf_1, y5_sf_1, y6_sf_1, y7_sf_1, y8_sf_1, y9_sf_1, y10_sf_1, y11_sf_1, y12_sf_1, y13_sf_1, y14_sf_1, y15_sf_1], sf_1) _ dX11_onSegment_80 (⟨(by rw [bI_t ⟨⟨by assumption, by assumption⟩, by assumption⟩]), kp_i, hS_sf_1⟩) hr rfl
    · skip
      first | simp only [bI_0, Decidable.not_not, sg_mul, sg_e0, sg_l0, sg_g0, sg_le0, sg_ge0, cmp_eq, cmp_lt, cmp_ge, cmp_gt, cmp_le, lT0, lT1] at c_36 | simp only [Int32.le_iff_toInt_le, Int32.lt_iff_toInt_lt, ← Int32.toInt_inj, iT0, iT1, iT2, iT3, iT4, iT5, iT6, iT7, iT8, iT9, iT10, iT11, iT12, iT13, iT14, iT15, iT16, iT19, iT20, iT31, iT32, iT42, iT64, iT200, iT318, iT319, iT1000, iTm1, iTm2] at c_36 | skip
      refine j_iconst (v := 0) X dX11_onSegment_39 rfl ?_
      exact E.2.1 40 _ 0 ([z0, z1, z2, z3, z4, z5, z6, z7, z8, z9, z10, z11, z12, z13, z14, z15], sf) _ dX11_onSegment_40 (⟨(by rw [bI_f (fun h => by first | exact absurd h.1.1 (by assumption) | exact absurd h.1.2 (by assumption) | exact absurd h.2 (by assumption))]), kp_i, hS⟩) hr rfl

theorem hy_X11_onSegment_V : yX11_onSegment.cls = RX11 ∧ yX11_onSegment.cls ≠ "java/lang/invoke/MethodHandle" ∧ yX11_onSegment.cls ≠ "java/lang/invoke/VarHandle" ∧ (parseMethodDescriptor yX11_onSegment.desc).map (fun d => d.parameters.length) = some 3 := by decide +kernel
abbrev rm_X11_hasEnd : Room := { frames := 5, cells := 0, slots := 0, locals := 143 }
theorem in_X11_hasEnd_X11 : ∀ w ∈ u_ws RX11 TX11 19, w ∈ wsX11_hasEnd := by decide +kernel
theorem fl_X11_hasEnd_13 : Cond.fieldLink RX11 13 (TX11 3).1 (TX11 3).2.1 (TX11 3).2.2.1 ∈ wsX11_hasEnd := by decide +kernel
theorem fl_X11_hasEnd_17 : Cond.fieldLink RX11 17 (TX11 4).1 (TX11 4).2.1 (TX11 4).2.2.1 ∈ wsX11_hasEnd := by decide +kernel
set_option maxHeartbeats 4000000 in
set_option maxRecDepth 100000 in
theorem c_X11_hasEnd_0 (l : Launch) (G : jG) (q : Nat → Nat) (t n co cr po : Int32) (tx ty : Int64) (zs : List Int) (hl : zs.length = 16) (sf : Nat → Int32) (hS : okS zs sf) (f1 f2 f3 f4 : Nat → Int64) (a b : Nat) (ba : (inC (f1 a).toInt ∧ inC (f2 a).toInt) ∧ inC (f3 a).toInt ∧ inC (f4 a).toInt) (ga : a < 200) (bb : (inC (f1 b).toInt ∧ inC (f2 b).toInt) ∧ inC (f3 b).toInt ∧ inC (f4 b).toInt) (gb : b < 200) : Ct l yX11_hasEnd wsX11_hasEnd rm_X11_hasEnd G [.ref (q 0), .int (nI a), .int (nI b), .int 0] [(q 0, .inr (10, mF t n q co cr po tx ty)), (q 2, aJ G 200 f1), (q 3, aJ G 200 f2), (q 4, aJ G 200 f3), (q 5, aJ G 200 f4), (q 10, aI G 320 (rg zs)), (q 11, aZ G 16 sf)] (S := List Int × (Nat → Int32)) (fun r u => r = some (.int (bI (onS (f1 a).toInt (f2 a).toInt (f3 a).toInt (f4 a).toInt (f1 b).toInt (f2 b).toInt))) ∧ kp zs u.1 ∧ okS u.1 u.2) (fun u => [(q 0, .inr (10, mF t n q co cr po tx ty)), (q 2, aJ G 200 f1), (q 3, aJ G 200 f2), (q 4, aJ G 200 f3), (q 5, aJ G 200 f4), (q 10, aI G 320 (rg u.1)), (q 11, aZ G 16 u.2)]) (fun _ => []) := by
  refine c_intro (cc := cX11_hasEnd) (maxL := 4) (ret := (some .boolean)) (by decide) rfl (Nat.le_of_ble_eq_true rfl) (fun _ => by simp only [List.map_cons, List.map_nil]) ?_
  intro p e s m args below meth c Q A X hr hin E
  change J p l e rm_X11_hasEnd s m args below meth c Q G A 4 0 0 0 [(0, .ref (q 0)), (1, .int (nI a)), (2, .int (nI b)), (3, .int 0)] [] [(q 0, .inr (10, mF t n q co cr po tx ty)), (q 2, aJ G 200 f1), (q 3, aJ G 200 f2), (q 4, aJ G 200 f3), (q 5, aJ G 200 f4), (q 10, aI G 320 (rg zs)), (q 11, aZ G 16 sf)]
  obtain ⟨z0, z1, z2, z3, z4, z5, z6, z7, z8, z9, z10, z11, z12, z13, z14, z15, rfl⟩ := l16 hl
  refine j_aload_n X dX11_hasEnd_0 rfl 0 rfl ?_
  refine j_iload_n X dX11_hasEnd_1 rfl 1 rfl ?_
  refine j_iload_n X dX11_hasEnd_2 rfl 3 rfl ?_
  refine j_if_ne (tgt := 15) X dX11_hasEnd_3 (by decide) (fun c9 => absurd c9 (by decide)) (fun _ => ?_)
  refine j_aload_n X dX11_hasEnd_6 rfl 0 rfl ?_
  refine j_get (v := .ref (q 2)) X dX11_hasEnd_7 0 rfl 3 rfl in_X11_hasEnd_X11 (by decide) fl_X11_hasEnd_13 rfl ?_
  refine j_iload_n X dX11_hasEnd_10 rfl 2 rfl ?_
  refine j_lald X dX11_hasEnd_11 1 rfl b rfl gb (by decide) ?_
  refine j_goto (tgt := 21) X dX11_hasEnd_12 (by decide) ?_
  refine j_iload_n X dX11_hasEnd_21 rfl 3 rfl ?_
  refine j_if_ne (tgt := 34) X dX11_hasEnd_22 (by decide) (fun c9 => absurd c9 (by decide)) (fun _ => ?_)
  refine j_aload_n X dX11_hasEnd_25 rfl 0 rfl ?_
  refine j_get (v := .ref (q 3)) X dX11_hasEnd_26 0 rfl 4 rfl in_X11_hasEnd_X11 (by decide) fl_X11_hasEnd_17 rfl ?_
  refine j_iload_n X dX11_hasEnd_29 rfl 2 rfl ?_
  refine j_lald X dX11_hasEnd_30 2 rfl b rfl gb (by decide) ?_
  refine j_goto (tgt := 40) X dX11_hasEnd_31 (by decide) ?_
  refine j_callV X dX11_hasEnd_40 (c_X11_onSegment l G q t n co cr po tx ty [z0, z1, z2, z3, z4, z5, z6, z7, z8, z9, z10, z11, z12, z13, z14, z15] rfl sf hS f1 f2 f3 f4 a ba ga (f1 b) (f2 b) bb.1.1 bb.1.2) gX11_hasEnd_X11_onSegment rfl hy_X11_onSegment_V ⟨Nat.le_of_ble_eq_true rfl, Nat.le_of_ble_eq_true rfl⟩ 0 rfl rfl [0, 1, 2, 3, 4, 5, 6] rfl (by decide) rfl rfl (Nat.le_of_ble_eq_true rfl) ⟨Nat.le_of_ble_eq_true rfl, Nat.le_of_ble_eq_true rfl⟩ ?_
  rintro _ ⟨zs_2, sf_1⟩ ⟨rfl, hk_sf_1, hS_sf_1⟩
  obtain ⟨y4_sf_1, y5_sf_1, y6_sf_1, y7_sf_1, y8_sf_1, y9_sf_1, y10_sf_1, y11_sf_1, y12_sf_1, y13_sf_1, y14_sf_1, y15_sf_1, rfl⟩ := kp_4 hk_sf_1
  change J p l e rm_X11_hasEnd s m args below meth c Q G A 4 0 0 43 [(0, .ref (q 0)), (1, .int (nI a)), (2, .int (nI b)), (3, .int 0)] [.int (bI (onS (f1 a).toInt (f2 a).toInt (f3 a).toInt (f4 a).toInt (f1 b).toInt (f2 b).toInt))] [(q 0, .inr (10, mF t n q co cr po tx ty)), (q 2, aJ G 200 f1), (q 3, aJ G 200 f2), (q 4, aJ G 200 f3), (q 5, aJ G 200 f4), (q 10, aI G 320 (rg [z0, z1, z2, z3, y4_sf_1, y5_sf_1, y6_sf_1, y7_sf_1, y8_sf_1, y9_sf_1, y10_sf_1, y11_sf_1, y12_sf_1, y13_sf_1, y14_sf_1, y15_sf_1])), (q 11, aZ G 16 sf_1)]
  exact E.2.1 43 _ (bI (onS (f1 a).toInt (f2 a).toInt (f3 a).toInt (f4 a).toInt (f1 b).toInt (f2 b).toInt)) ([z0, z1, z2, z3, y4_sf_1, y5_sf_1, y6_sf_1, y7_sf_1, y8_sf_1, y9_sf_1, y10_sf_1, y11_sf_1, y12_sf_1, y13_sf_1, y14_sf_1, y15_sf_1], sf_1) _ dX11_hasEnd_43 (⟨rfl, kp_i, hS_sf_1⟩) hr (nar_I _)

theorem hy_X11_hasEnd_V : yX11_hasEnd.cls = RX11 ∧ yX11_hasEnd.cls ≠ "java/lang/invoke/MethodHandle" ∧ yX11_hasEnd.cls ≠ "java/lang/invoke/VarHandle" ∧ (parseMethodDescriptor yX11_hasEnd.desc).map (fun d => d.parameters.length) = some 3 := by decide +kernel
theorem fl_X11_hasEnd_20 : Cond.fieldLink RX11 20 (TX11 5).1 (TX11 5).2.1 (TX11 5).2.2.1 ∈ wsX11_hasEnd := by decide +kernel
theorem fl_X11_hasEnd_23 : Cond.fieldLink RX11 23 (TX11 6).1 (TX11 6).2.1 (TX11 6).2.2.1 ∈ wsX11_hasEnd := by decide +kernel
set_option maxHeartbeats 4000000 in
set_option maxRecDepth 100000 in
theorem c_X11_hasEnd_1 (l : Launch) (G : jG) (q : Nat → Nat) (t n co cr po : Int32) (tx ty : Int64) (zs : List Int) (hl : zs.length = 16) (sf : Nat → Int32) (hS : okS zs sf) (f1 f2 f3 f4 : Nat → Int64) (a b : Nat) (ba : (inC (f1 a).toInt ∧ inC (f2 a).toInt) ∧ inC (f3 a).toInt ∧ inC (f4 a).toInt) (ga : a < 200) (bb : (inC (f1 b).toInt ∧ inC (f2 b).toInt) ∧ inC (f3 b).toInt ∧ inC (f4 b).toInt) (gb : b < 200) : Ct l yX11_hasEnd wsX11_hasEnd rm_X11_hasEnd G [.ref (q 0), .int (nI a), .int (nI b), .int 1] [(q 0, .inr (10, mF t n q co cr po tx ty)), (q 2, aJ G 200 f1), (q 3, aJ G 200 f2), (q 4, aJ G 200 f3), (q 5, aJ G 200 f4), (q 10, aI G 320 (rg zs)), (q 11, aZ G 16 sf)] (S := List Int × (Nat → Int32)) (fun r u => r = some (.int (bI (onS (f1 a).toInt (f2 a).toInt (f3 a).toInt (f4 a).toInt (f3 b).toInt (f4 b).toInt))) ∧ kp zs u.1 ∧ okS u.1 u.2) (fun u => [(q 0, .inr (10, mF t n q co cr po tx ty)), (q 2, aJ G 200 f1), (q 3, aJ G 200 f2), (q 4, aJ G 200 f3), (q 5, aJ G 200 f4), (q 10, aI G 320 (rg u.1)), (q 11, aZ G 16 u.2)]) (fun _ => []) := by
  refine c_intro (cc := cX11_hasEnd) (maxL := 4) (ret := (some .boolean)) (by decide) rfl (Nat.le_of_ble_eq_true rfl) (fun _ => by simp only [List.map_cons, List.map_nil]) ?_
  intro p e s m args below meth c Q A X hr hin E
  change J p l e rm_X11_hasEnd s m args below meth c Q G A 4 0 0 0 [(0, .ref (q 0)), (1, .int (nI a)), (2, .int (nI b)), (3, .int 1)] [] [(q 0, .inr (10, mF t n q co cr po tx ty)), (q 2, aJ G 200 f1), (q 3, aJ G 200 f2), (q 4, aJ G 200 f3), (q 5, aJ G 200 f4), (q 10, aI G 320 (rg zs)), (q 11, aZ G 16 sf)]
  obtain ⟨z0, z1, z2, z3, z4, z5, z6, z7, z8, z9, z10, z11, z12, z13, z14, z15, rfl⟩ := l16 hl
  refine j_aload_n X dX11_hasEnd_0 rfl 0 rfl ?_
  refine j_iload_n X dX11_hasEnd_1 rfl 1 rfl ?_
  refine j_iload_n X dX11_hasEnd_2 rfl 3 rfl ?_
  refine j_if_ne (tgt := 15) X dX11_hasEnd_3 (by decide) (fun _ => ?_) (fun c9 => absurd c9 (by decide))
  refine j_aload_n X dX11_hasEnd_15 rfl 0 rfl ?_
  refine j_get (v := .ref (q 4)) X dX11_hasEnd_16 0 rfl 5 rfl in_X11_hasEnd_X11 (by decide) fl_X11_hasEnd_20 rfl ?_
  refine j_iload_n X dX11_hasEnd_19 rfl 2 rfl ?_
  refine j_lald X dX11_hasEnd_20 3 rfl b rfl gb (by decide) ?_
  refine j_iload_n X dX11_hasEnd_21 rfl 3 rfl ?_
  refine j_if_ne (tgt := 34) X dX11_hasEnd_22 (by decide) (fun _ => ?_) (fun c9 => absurd c9 (by decide))
  refine j_aload_n X dX11_hasEnd_34 rfl 0 rfl ?_
  refine j_get (v := .ref (q 5)) X dX11_hasEnd_35 0 rfl 6 rfl in_X11_hasEnd_X11 (by decide) fl_X11_hasEnd_23 rfl ?_
  refine j_iload_n X dX11_hasEnd_38 rfl 2 rfl ?_
  refine j_lald X dX11_hasEnd_39 4 rfl b rfl gb (by decide) ?_
  refine j_callV X dX11_hasEnd_40 (c_X11_onSegment l G q t n co cr po tx ty [z0, z1, z2, z3, z4, z5, z6, z7, z8, z9, z10, z11, z12, z13, z14, z15] rfl sf hS f1 f2 f3 f4 a ba ga (f3 b) (f4 b) bb.2.1 bb.2.2) gX11_hasEnd_X11_onSegment rfl hy_X11_onSegment_V ⟨Nat.le_of_ble_eq_true rfl, Nat.le_of_ble_eq_true rfl⟩ 0 rfl rfl [0, 1, 2, 3, 4, 5, 6] rfl (by decide) rfl rfl (Nat.le_of_ble_eq_true rfl) ⟨Nat.le_of_ble_eq_true rfl, Nat.le_of_ble_eq_true rfl⟩ ?_
  rintro _ ⟨zs_2, sf_1⟩ ⟨rfl, hk_sf_1, hS_sf_1⟩
  obtain ⟨y4_sf_1, y5_sf_1, y6_sf_1, y7_sf_1, y8_sf_1, y9_sf_1, y10_sf_1, y11_sf_1, y12_sf_1, y13_sf_1, y14_sf_1, y15_sf_1, rfl⟩ := kp_4 hk_sf_1
  change J p l e rm_X11_hasEnd s m args below meth c Q G A 4 0 0 43 [(0, .ref (q 0)), (1, .int (nI a)), (2, .int (nI b)), (3, .int 1)] [.int (bI (onS (f1 a).toInt (f2 a).toInt (f3 a).toInt (f4 a).toInt (f3 b).toInt (f4 b).toInt))] [(q 0, .inr (10, mF t n q co cr po tx ty)), (q 2, aJ G 200 f1), (q 3, aJ G 200 f2), (q 4, aJ G 200 f3), (q 5, aJ G 200 f4), (q 10, aI G 320 (rg [z0, z1, z2, z3, y4_sf_1, y5_sf_1, y6_sf_1, y7_sf_1, y8_sf_1, y9_sf_1, y10_sf_1, y11_sf_1, y12_sf_1, y13_sf_1, y14_sf_1, y15_sf_1])), (q 11, aZ G 16 sf_1)]
  exact E.2.1 43 _ (bI (onS (f1 a).toInt (f2 a).toInt (f3 a).toInt (f4 a).toInt (f3 b).toInt (f4 b).toInt)) ([z0, z1, z2, z3, y4_sf_1, y5_sf_1, y6_sf_1, y7_sf_1, y8_sf_1, y9_sf_1, y10_sf_1, y11_sf_1, y12_sf_1, y13_sf_1, y14_sf_1, y15_sf_1], sf_1) _ dX11_hasEnd_43 (⟨rfl, kp_i, hS_sf_1⟩) hr (nar_I _)

abbrev rm_X11_meet : Room := { frames := 6, cells := 0, slots := 0, locals := 166 }
set_option maxHeartbeats 4000000 in
set_option maxRecDepth 100000 in
theorem c_X11_meet (l : Launch) (G : jG) (q : Nat → Nat) (t n co cr po : Int32) (tx ty : Int64) (zs : List Int) (hl : zs.length = 16) (sf : Nat → Int32) (hS : okS zs sf) (f1 f2 f3 f4 : Nat → Int64) (a b : Nat) (ba : (inC (f1 a).toInt ∧ inC (f2 a).toInt) ∧ inC (f3 a).toInt ∧ inC (f4 a).toInt) (ga : a < 200) (bb : (inC (f1 b).toInt ∧ inC (f2 b).toInt) ∧ inC (f3 b).toInt ∧ inC (f4 b).toInt) (gb : b < 200) : Ct l yX11_meet wsX11_meet rm_X11_meet G [.ref (q 0), .int (nI a), .int (nI b)] [(q 0, .inr (10, mF t n q co cr po tx ty)), (q 2, aJ G 200 f1), (q 3, aJ G 200 f2), (q 4, aJ G 200 f3), (q 5, aJ G 200 f4), (q 10, aI G 320 (rg zs)), (q 11, aZ G 16 sf)] (S := List Int × (Nat → Int32)) (fun r u => r = some (.int (bI (mt (f1 a).toInt (f2 a).toInt (f3 a).toInt (f4 a).toInt (f1 b).toInt (f2 b).toInt (f3 b).toInt (f4 b).toInt))) ∧ kp zs u.1 ∧ okS u.1 u.2) (fun u => [(q 0, .inr (10, mF t n q co cr po tx ty)), (q 2, aJ G 200 f1), (q 3, aJ G 200 f2), (q 4, aJ G 200 f3), (q 5, aJ G 200 f4), (q 10, aI G 320 (rg u.1)), (q 11, aZ G 16 u.2)]) (fun _ => []) := by
  refine c_intro (cc := cX11_meet) (maxL := 3) (ret := (some .boolean)) (by decide) rfl (Nat.le_of_ble_eq_true rfl) (fun _ => by simp only [List.map_cons, List.map_nil]) ?_
  intro p e s m args below meth c Q A X hr hin E
  change J p l e rm_X11_meet s m args below meth c Q G A 3 0 0 0 [(0, .ref (q 0)), (1, .int (nI a)), (2, .int (nI b))] [] [(q 0, .inr (10, mF t n q co cr po tx ty)), (q 2, aJ G 200 f1), (q 3, aJ G 200 f2), (q 4, aJ G 200 f3), (q 5, aJ G 200 f4), (q 10, aI G 320 (rg zs)), (q 11, aZ G 16 sf)]
  obtain ⟨z0, z1, z2, z3, z4, z5, z6, z7, z8, z9, z10, z11, z12, z13, z14, z15, rfl⟩ := l16 hl
  refine j_aload_n X dX11_meet_0 rfl 0 rfl ?_
  refine j_iload_n X dX11_meet_1 rfl 1 rfl ?_
  refine j_iload_n X dX11_meet_2 rfl 2 rfl ?_
  refine j_iconst (v := 0) X dX11_meet_3 rfl ?_
  refine j_callV X dX11_meet_4 (c_X11_hasEnd_0 l G q t n co cr po tx ty [z0, z1, z2, z3, z4, z5, z6, z7, z8, z9, z10, z11, z12, z13, z14, z15] rfl sf hS f1 f2 f3 f4 a b ba ga bb gb) gX11_meet_X11_hasEnd rfl hy_X11_hasEnd_V ⟨Nat.le_of_ble_eq_true rfl, Nat.le_of_ble_eq_true rfl⟩ 0 rfl rfl [0, 1, 2, 3, 4, 5, 6] rfl (by decide) rfl rfl (Nat.le_of_ble_eq_true rfl) ⟨Nat.le_of_ble_eq_true rfl, Nat.le_of_ble_eq_true rfl⟩ ?_
  rintro _ ⟨zs_2, sf_1⟩ ⟨rfl, hk_sf_1, hS_sf_1⟩
  obtain ⟨y4_sf_1, y5_sf_1, y6_sf_1, y7_sf_1, y8_sf_1, y9_sf_1, y10_sf_1, y11_sf_1, y12_sf_1, y13_sf_1, y14_sf_1, y15_sf_1, rfl⟩ := kp_4 hk_sf_1
  change J p l e rm_X11_meet s m args below meth c Q G A 3 0 0 7 [(0, .ref (q 0)), (1, .int (nI a)), (2, .int (nI b))] [.int (bI (onS (f1 a).toInt (f2 a).toInt (f3 a).toInt (f4 a).toInt (f1 b).toInt (f2 b).toInt))] [(q 0, .inr (10, mF t n q co cr po tx ty)), (q 2, aJ G 200 f1), (q 3, aJ G 200 f2), (q 4, aJ G 200 f3), (q 5, aJ G 200 f4), (q 10, aI G 320 (rg [z0, z1, z2, z3, y4_sf_1, y5_sf_1, y6_sf_1, y7_sf_1, y8_sf_1, y9_sf_1, y10_sf_1, y11_sf_1, y12_sf_1, y13_sf_1, y14_sf_1, y15_sf_1])), (q 11, aZ G 16 sf_1)]
  refine j_if_ne (tgt := 40) X dX11_meet_7 (by decide) (fun c_7 => ?_) (fun c_7 => ?_)
  · skip
    first | simp only [bI_0, Decidable.not_not, sg_mul, sg_e0, sg_l0, sg_g0, sg_le0, sg_ge0, cmp_eq, cmp_lt, cmp_ge, cmp_gt, cmp_le, lT0, lT1] at c_7 | simp only [Int32.le_iff_toInt_le, Int32.lt_iff_toInt_lt, ← Int32.toInt_inj, iT0, iT1, iT2, iT3, iT4, iT5, iT6, iT7, iT8, iT9, iT10, iT11, iT12, iT13, iT14, iT15, iT16, iT19, iT20, iT31, iT32, iT42, iT64, iT200, iT318, iT319, iT1000, iTm1, iTm2] at c_7 | skip
    refine j_iconst (v := 1) X dX11_meet_40 rfl ?_
    exact E.2.1 41 _ 1 ([z0, z1, z2, z3, y4_sf_1, y5_sf_1, y6_sf_1, y7_sf_1, y8_sf_1, y9_sf_1, y10_sf_1, y11_sf_1, y12_sf_1, y13_sf_1, y14_sf_1, y15_sf_1], sf_1) _ dX11_meet_41 (⟨(by rw [bI_t (by first | exact Or.inl (Or.inl c_7) | exact Or.inl (Or.inr (Or.inl c_17)) | exact Or.inl (Or.inr (Or.inr (Or.inl c_27))) | exact Or.inl (Or.inr (Or.inr (Or.inr c_37))) | exact Or.inr ⟨Int.not_le.mp c_57, Int.not_le.mp c_75⟩)]), kp_i, hS_sf_1⟩) hr rfl
  · skip
    first | simp only [bI_0, Decidable.not_not, sg_mul, sg_e0, sg_l0, sg_g0, sg_le0, sg_ge0, cmp_eq, cmp_lt, cmp_ge, cmp_gt, cmp_le, lT0, lT1] at c_7 | simp only [Int32.le_iff_toInt_le, Int32.lt_iff_toInt_lt, ← Int32.toInt_inj, iT0, iT1, iT2, iT3, iT4, iT5, iT6, iT7, iT8, iT9, iT10, iT11, iT12, iT13, iT14, iT15, iT16, iT19, iT20, iT31, iT32, iT42, iT64, iT200, iT318, iT319, iT1000, iTm1, iTm2] at c_7 | skip
    refine j_aload_n X dX11_meet_10 rfl 0 rfl ?_
    refine j_iload_n X dX11_meet_11 rfl 1 rfl ?_
    refine j_iload_n X dX11_meet_12 rfl 2 rfl ?_
    refine j_iconst (v := 1) X dX11_meet_13 rfl ?_
    refine j_callV X dX11_meet_14 (c_X11_hasEnd_1 l G q t n co cr po tx ty [z0, z1, z2, z3, y4_sf_1, y5_sf_1, y6_sf_1, y7_sf_1, y8_sf_1, y9_sf_1, y10_sf_1, y11_sf_1, y12_sf_1, y13_sf_1, y14_sf_1, y15_sf_1] rfl sf_1 hS_sf_1 f1 f2 f3 f4 a b ba ga bb gb) gX11_meet_X11_hasEnd rfl hy_X11_hasEnd_V ⟨Nat.le_of_ble_eq_true rfl, Nat.le_of_ble_eq_true rfl⟩ 0 rfl rfl [0, 1, 2, 3, 4, 5, 6] rfl (by decide) rfl rfl (Nat.le_of_ble_eq_true rfl) ⟨Nat.le_of_ble_eq_true rfl, Nat.le_of_ble_eq_true rfl⟩ ?_
    rintro _ ⟨zs_4, sf_3⟩ ⟨rfl, hk_sf_3, hS_sf_3⟩
    obtain ⟨y4_sf_3, y5_sf_3, y6_sf_3, y7_sf_3, y8_sf_3, y9_sf_3, y10_sf_3, y11_sf_3, y12_sf_3, y13_sf_3, y14_sf_3, y15_sf_3, rfl⟩ := kp_4 hk_sf_3
    change J p l e rm_X11_meet s m args below meth c Q G A 3 0 0 17 [(0, .ref (q 0)), (1, .int (nI a)), (2, .int (nI b))] [.int (bI (onS (f1 a).toInt (f2 a).toInt (f3 a).toInt (f4 a).toInt (f3 b).toInt (f4 b).toInt))] [(q 0, .inr (10, mF t n q co cr po tx ty)), (q 2, aJ G 200 f1), (q 3, aJ G 200 f2), (q 4, aJ G 200 f3), (q 5, aJ G 200 f4), (q 10, aI G 320 (rg [z0, z1, z2, z3, y4_sf_3, y5_sf_3, y6_sf_3, y7_sf_3, y8_sf_3, y9_sf_3, y10_sf_3, y11_sf_3, y12_sf_3, y13_sf_3, y14_sf_3, y15_sf_3])), (q 11, aZ G 16 sf_3)]
    refine j_if_ne (tgt := 40) X dX11_meet_17 (by decide) (fun c_17 => ?_) (fun c_17 => ?_)
    · skip
      first | simp only [bI_0, Decidable.not_not, sg_mul, sg_e0, sg_l0, sg_g0, sg_le0, sg_ge0, cmp_eq, cmp_lt, cmp_ge, cmp_gt, cmp_le, lT0, lT1] at c_17 | simp only [Int32.le_iff_toInt_le, Int32.lt_iff_toInt_lt, ← Int32.toInt_inj, iT0, iT1, iT2, iT3, iT4, iT5, iT6, iT7, iT8, iT9, iT10, iT11, iT12, iT13, iT14, iT15, iT16, iT19, iT20, iT31, iT32, iT42, iT64, iT200, iT318, iT319, iT1000, iTm1, iTm2] at c_17 | skip
      refine j_iconst (v := 1) X dX11_meet_40 rfl ?_
      exact E.2.1 41 _ 1 ([z0, z1, z2, z3, y4_sf_3, y5_sf_3, y6_sf_3, y7_sf_3, y8_sf_3, y9_sf_3, y10_sf_3, y11_sf_3, y12_sf_3, y13_sf_3, y14_sf_3, y15_sf_3], sf_3) _ dX11_meet_41 (⟨(by rw [bI_t (by first | exact Or.inl (Or.inl c_7) | exact Or.inl (Or.inr (Or.inl c_17)) | exact Or.inl (Or.inr (Or.inr (Or.inl c_27))) | exact Or.inl (Or.inr (Or.inr (Or.inr c_37))) | exact Or.inr ⟨Int.not_le.mp c_57, Int.not_le.mp c_75⟩)]), kp_i, hS_sf_3⟩) hr rfl
    · skip
      first | simp only [bI_0, Decidable.not_not, sg_mul, sg_e0, sg_l0, sg_g0, sg_le0, sg_ge0, cmp_eq, cmp_lt, cmp_ge, cmp_gt, cmp_le, lT0, lT1] at c_17 | simp only [Int32.le_iff_toInt_le, Int32.lt_iff_toInt_lt, ← Int32.toInt_inj, iT0, iT1, iT2, iT3, iT4, iT5, iT6, iT7, iT8, iT9, iT10, iT11, iT12, iT13, iT14, iT15, iT16, iT19, iT20, iT31, iT32, iT42, iT64, iT200, iT318, iT319, iT1000, iTm1, iTm2] at c_17 | skip
      refine j_aload_n X dX11_meet_20 rfl 0 rfl ?_
      refine j_iload_n X dX11_meet_21 rfl 2 rfl ?_
      refine j_iload_n X dX11_meet_22 rfl 1 rfl ?_
      refine j_iconst (v := 0) X dX11_meet_23 rfl ?_
      refine j_callV X dX11_meet_24 (c_X11_hasEnd_0 l G q t n co cr po tx ty [z0, z1, z2, z3, y4_sf_3, y5_sf_3, y6_sf_3, y7_sf_3, y8_sf_3, y9_sf_3, y10_sf_3, y11_sf_3, y12_sf_3, y13_sf_3, y14_sf_3, y15_sf_3] rfl sf_3 hS_sf_3 f1 f2 f3 f4 b a bb gb ba ga) gX11_meet_X11_hasEnd rfl hy_X11_hasEnd_V ⟨Nat.le_of_ble_eq_true rfl, Nat.le_of_ble_eq_true rfl⟩ 0 rfl rfl [0, 1, 2, 3, 4, 5, 6] rfl (by decide) rfl rfl (Nat.le_of_ble_eq_true rfl) ⟨Nat.le_of_ble_eq_true rfl, Nat.le_of_ble_eq_true rfl⟩ ?_
      rintro _ ⟨zs_6, sf_5⟩ ⟨rfl, hk_sf_5, hS_sf_5⟩
      obtain ⟨y4_sf_5, y5_sf_5, y6_sf_5, y7_sf_5, y8_sf_5, y9_sf_5, y10_sf_5, y11_sf_5, y12_sf_5, y13_sf_5, y14_sf_5, y15_sf_5, rfl⟩ := kp_4 hk_sf_5
      change J p l e rm_X11_meet s m args below meth c Q G A 3 0 0 27 [(0, .ref (q 0)), (1, .int (nI a)), (2, .int (nI b))] [.int (bI (onS (f1 b).toInt (f2 b).toInt (f3 b).toInt (f4 b).toInt (f1 a).toInt (f2 a).toInt))] [(q 0, .inr (10, mF t n q co cr po tx ty)), (q 2, aJ G 200 f1), (q 3, aJ G 200 f2), (q 4, aJ G 200 f3), (q 5, aJ G 200 f4), (q 10, aI G 320 (rg [z0, z1, z2, z3, y4_sf_5, y5_sf_5, y6_sf_5, y7_sf_5, y8_sf_5, y9_sf_5, y10_sf_5, y11_sf_5, y12_sf_5, y13_sf_5, y14_sf_5, y15_sf_5])), (q 11, aZ G 16 sf_5)]
      refine j_if_ne (tgt := 40) X dX11_meet_27 (by decide) (fun c_27 => ?_) (fun c_27 => ?_)
      · skip
        first | simp only [bI_0, Decidable.not_not, sg_mul, sg_e0, sg_l0, sg_g0, sg_le0, sg_ge0, cmp_eq, cmp_lt, cmp_ge, cmp_gt, cmp_le, lT0, lT1] at c_27 | simp only [Int32.le_iff_toInt_le, Int32.lt_iff_toInt_lt, ← Int32.toInt_inj, iT0, iT1, iT2, iT3, iT4, iT5, iT6, iT7, iT8, iT9, iT10, iT11, iT12, iT13, iT14, iT15, iT16, iT19, iT20, iT31, iT32, iT42, iT64, iT200, iT318, iT319, iT1000, iTm1, iTm2] at c_27 | skip
        refine j_iconst (v := 1) X dX11_meet_40 rfl ?_
        exact E.2.1 41 _ 1 ([z0, z1, z2, z3, y4_sf_5, y5_sf_5, y6_sf_5, y7_sf_5, y8_sf_5, y9_sf_5, y10_sf_5, y11_sf_5, y12_sf_5, y13_sf_5, y14_sf_5, y15_sf_5], sf_5) _ dX11_meet_41 (⟨(by rw [bI_t (by first | exact Or.inl (Or.inl c_7) | exact Or.inl (Or.inr (Or.inl c_17)) | exact Or.inl (Or.inr (Or.inr (Or.inl c_27))) | exact Or.inl (Or.inr (Or.inr (Or.inr c_37))) | exact Or.inr ⟨Int.not_le.mp c_57, Int.not_le.mp c_75⟩)]), kp_i, hS_sf_5⟩) hr rfl
      · skip
        first | simp only [bI_0, Decidable.not_not, sg_mul, sg_e0, sg_l0, sg_g0, sg_le0, sg_ge0, cmp_eq, cmp_lt, cmp_ge, cmp_gt, cmp_le, lT0, lT1] at c_27 | simp only [Int32.le_iff_toInt_le, Int32.lt_iff_toInt_lt, ← Int32.toInt_inj, iT0, iT1, iT2, iT3, iT4, iT5, iT6, iT7, iT8, iT9, iT10, iT11, iT12, iT13, iT14, iT15, iT16, iT19, iT20, iT31, iT32, iT42, iT64, iT200, iT318, iT319, iT1000, iTm1, iTm2] at c_27 | skip
        refine j_aload_n X dX11_meet_30 rfl 0 rfl ?_
        refine j_iload_n X dX11_meet_31 rfl 2 rfl ?_
        refine j_iload_n X dX11_meet_32 rfl 1 rfl ?_
        refine j_iconst (v := 1) X dX11_meet_33 rfl ?_
        refine j_callV X dX11_meet_34 (c_X11_hasEnd_1 l G q t n co cr po tx ty [z0, z1, z2, z3, y4_sf_5, y5_sf_5, y6_sf_5, y7_sf_5, y8_sf_5, y9_sf_5, y10_sf_5, y11_sf_5, y12_sf_5, y13_sf_5, y14_sf_5, y15_sf_5] rfl sf_5 hS_sf_5 f1 f2 f3 f4 b a bb gb ba ga) gX11_meet_X11_hasEnd rfl hy_X11_hasEnd_V ⟨Nat.le_of_ble_eq_true rfl, Nat.le_of_ble_eq_true rfl⟩ 0 rfl rfl [0, 1, 2, 3, 4, 5, 6] rfl (by decide) rfl rfl (Nat.le_of_ble_eq_true rfl) ⟨Nat.le_of_ble_eq_true rfl, Nat.le_of_ble_eq_true rfl⟩ ?_
        rintro _ ⟨zs_8, sf_7⟩ ⟨rfl, hk_sf_7, hS_sf_7⟩
        obtain ⟨y4_sf_7, y5_sf_7, y6_sf_7, y7_sf_7, y8_sf_7, y9_sf_7, y10_sf_7, y11_sf_7, y12_sf_7, y13_sf_7, y14_sf_7, y15_sf_7, rfl⟩ := kp_4 hk_sf_7
        change J p l e rm_X11_meet s m args below meth c Q G A 3 0 0 37 [(0, .ref (q 0)), (1, .int (nI a)), (2, .int (nI b))] [.int (bI (onS (f1 b).toInt (f2 b).toInt (f3 b).toInt (f4 b).toInt (f3 a).toInt (f4 a).toInt))] [(q 0, .inr (10, mF t n q co cr po tx ty)), (q 2, aJ G 200 f1), (q 3, aJ G 200 f2), (q 4, aJ G 200 f3), (q 5, aJ G 200 f4), (q 10, aI G 320 (rg [z0, z1, z2, z3, y4_sf_7, y5_sf_7, y6_sf_7, y7_sf_7, y8_sf_7, y9_sf_7, y10_sf_7, y11_sf_7, y12_sf_7, y13_sf_7, y14_sf_7, y15_sf_7])), (q 11, aZ G 16 sf_7)]
        refine j_if_eq (tgt := 42) X dX11_meet_37 (by decide) (fun c_37 => ?_) (fun c_37 => ?_)
        · skip
          first | simp only [bI_0, Decidable.not_not, sg_mul, sg_e0, sg_l0, sg_g0, sg_le0, sg_ge0, cmp_eq, cmp_lt, cmp_ge, cmp_gt, cmp_le, lT0, lT1] at c_37 | simp only [Int32.le_iff_toInt_le, Int32.lt_iff_toInt_lt, ← Int32.toInt_inj, iT0, iT1, iT2, iT3, iT4, iT5, iT6, iT7, iT8, iT9, iT10, iT11, iT12, iT13, iT14, iT15, iT16, iT19, iT20, iT31, iT32, iT42, iT64, iT200, iT318, iT319, iT1000, iTm1, iTm2] at c_37 | skip
          refine j_aload_n X dX11_meet_42 rfl 0 rfl ?_
          refine j_iload_n X dX11_meet_43 rfl 1 rfl ?_
          refine j_iload_n X dX11_meet_44 rfl 2 rfl ?_
          refine j_iconst (v := 0) X dX11_meet_45 rfl ?_
          refine j_callV X dX11_meet_46 (c_X11_endSide_0 l G q t n co cr po tx ty [z0, z1, z2, z3, y4_sf_7, y5_sf_7, y6_sf_7, y7_sf_7, y8_sf_7, y9_sf_7, y10_sf_7, y11_sf_7, y12_sf_7, y13_sf_7, y14_sf_7, y15_sf_7] rfl sf_7 hS_sf_7 f1 f2 f3 f4 a b ba ga bb gb) gX11_meet_X11_endSide rfl hy_X11_endSide_V ⟨Nat.le_of_ble_eq_true rfl, Nat.le_of_ble_eq_true rfl⟩ 0 rfl rfl [0, 1, 2, 3, 4, 5, 6] rfl (by decide) rfl rfl (Nat.le_of_ble_eq_true rfl) ⟨Nat.le_of_ble_eq_true rfl, Nat.le_of_ble_eq_true rfl⟩ ?_
          rintro _ ⟨zs_10, sf_9⟩ ⟨rfl, hk_sf_9, hS_sf_9⟩
          obtain ⟨y4_sf_9, y5_sf_9, y6_sf_9, y7_sf_9, y8_sf_9, y9_sf_9, y10_sf_9, y11_sf_9, y12_sf_9, y13_sf_9, y14_sf_9, y15_sf_9, rfl⟩ := kp_4 hk_sf_9
          change J p l e rm_X11_meet s m args below meth c Q G A 3 0 0 49 [(0, .ref (q 0)), (1, .int (nI a)), (2, .int (nI b))] [.int (sg (tn (f1 a).toInt (f2 a).toInt (f3 a).toInt (f4 a).toInt (f1 b).toInt (f2 b).toInt))] [(q 0, .inr (10, mF t n q co cr po tx ty)), (q 2, aJ G 200 f1), (q 3, aJ G 200 f2), (q 4, aJ G 200 f3), (q 5, aJ G 200 f4), (q 10, aI G 320 (rg [z0, z1, z2, z3, y4_sf_9, y5_sf_9, y6_sf_9, y7_sf_9, y8_sf_9, y9_sf_9, y10_sf_9, y11_sf_9, y12_sf_9, y13_sf_9, y14_sf_9, y15_sf_9])), (q 11, aZ G 16 sf_9)]
          refine j_aload_n X dX11_meet_49 rfl 0 rfl ?_
          refine j_iload_n X dX11_meet_50 rfl 1 rfl ?_
          refine j_iload_n X dX11_meet_51 rfl 2 rfl ?_
          refine j_iconst (v := 1) X dX11_meet_52 rfl ?_
          refine j_callV X dX11_meet_53 (c_X11_endSide_1 l G q t n co cr po tx ty [z0, z1, z2, z3, y4_sf_9, y5_sf_9, y6_sf_9, y7_sf_9, y8_sf_9, y9_sf_9, y10_sf_9, y11_sf_9, y12_sf_9, y13_sf_9, y14_sf_9, y15_sf_9] rfl sf_9 hS_sf_9 f1 f2 f3 f4 a b ba ga bb gb) gX11_meet_X11_endSide rfl hy_X11_endSide_V ⟨Nat.le_of_ble_eq_true rfl, Nat.le_of_ble_eq_true rfl⟩ 0 rfl rfl [0, 1, 2, 3, 4, 5, 6] rfl (by decide) rfl rfl (Nat.le_of_ble_eq_true rfl) ⟨Nat.le_of_ble_eq_true rfl, Nat.le_of_ble_eq_true rfl⟩ ?_
          rintro _ ⟨zs_12, sf_11⟩ ⟨rfl, hk_sf_11, hS_sf_11⟩
          obtain ⟨y4_sf_11, y5_sf_11, y6_sf_11, y7_sf_11, y8_sf_11, y9_sf_11, y10_sf_11, y11_sf_11, y12_sf_11, y13_sf_11, y14_sf_11, y15_sf_11, rfl⟩ := kp_4 hk_sf_11
          change J p l e rm_X11_meet s m args below meth c Q G A 3 0 0 56 [(0, .ref (q 0)), (1, .int (nI a)), (2, .int (nI b))] [.int (sg (tn (f1 a).toInt (f2 a).toInt (f3 a).toInt (f4 a).toInt (f3 b).toInt (f4 b).toInt)), .int (sg (tn (f1 a).toInt (f2 a).toInt (f3 a).toInt (f4 a).toInt (f1 b).toInt (f2 b).toInt))] [(q 0, .inr (10, mF t n q co cr po tx ty)), (q 2, aJ G 200 f1), (q 3, aJ G 200 f2), (q 4, aJ G 200 f3), (q 5, aJ G 200 f4), (q 10, aI G 320 (rg [z0, z1, z2, z3, y4_sf_11, y5_sf_11, y6_sf_11, y7_sf_11, y8_sf_11, y9_sf_11, y10_sf_11, y11_sf_11, y12_sf_11, y13_sf_11, y14_sf_11, y15_sf_11])), (q 11, aZ G 16 sf_11)]
          refine j_imul X dX11_meet_56 ?_
          refine j_if_ge (tgt := 82) X dX11_meet_57 (by decide) (fun c_57 => ?_) (fun c_57 => ?_)
          · skip
            first | simp only [bI_0, Decidable.not_not, sg_mul, sg_e0, sg_l0, sg_g0, sg_le0, sg_ge0, cmp_eq, cmp_lt, cmp_ge, cmp_gt, cmp_le, lT0, lT1] at c_57 | simp only [Int32.le_iff_toInt_le, Int32.lt_iff_toInt_lt, ← Int32.toInt_inj, iT0, iT1, iT2, iT3, iT4, iT5, iT6, iT7, iT8, iT9, iT10, iT11, iT12, iT13, iT14, iT15, iT16, iT19, iT20, iT31, iT32, iT42, iT64, iT200, iT318, iT319, iT1000, iTm1, iTm2] at c_57 | skip
            refine j_iconst (v := 0) X dX11_meet_82 rfl ?_
            exact E.2.1 83 _ 0 ([z0, z1, z2, z3, y4_sf_11, y5_sf_11, y6_sf_11, y7_sf_11, y8_sf_11, y9_sf_11, y10_sf_11, y11_sf_11, y12_sf_11, y13_sf_11, y14_sf_11, y15_sf_11], sf_11) _ dX11_meet_83 (⟨(by rw [bI_f (fun h => by rcases h with (h | h | h | h) | h; exact c_7 h; exact c_17 h; exact c_27 h; exact c_37 h; first | exact absurd h.1 (Int.not_lt.mpr c_57) | exact absurd h.2 (Int.not_lt.mpr c_75))]), kp_i, hS_sf_11⟩) hr rfl
          · skip
            first | simp only [bI_0, Decidable.not_not, sg_mul, sg_e0, sg_l0, sg_g0, sg_le0, sg_ge0, cmp_eq, cmp_lt, cmp_ge, cmp_gt, cmp_le, lT0, lT1] at c_57 | simp only [Int32.le_iff_toInt_le, Int32.lt_iff_toInt_lt, ← Int32.toInt_inj, iT0, iT1, iT2, iT3, iT4, iT5, iT6, iT7, iT8, iT9, iT10, iT11, iT12, iT13, iT14, iT15, iT16, iT19, iT20, iT31, iT32, iT42, iT64, iT200, iT318, iT319, iT1000, iTm1, iTm2] at c_57 | skip
            refine j_aload_n X dX11_meet_60 rfl 0 rfl ?_
            refine j_iload_n X dX11_meet_61 rfl 2 rfl ?_
            refine j_iload_n X dX11_meet_62 rfl 1 rfl ?_
            refine j_iconst (v := 0) X dX11_meet_63 rfl ?_
            refine j_callV X dX11_meet_64 (c_X11_endSide_0 l G q t n co cr po tx ty [z0, z1, z2, z3, y4_sf_11, y5_sf_11, y6_sf_11, y7_sf_11, y8_sf_11, y9_sf_11, y10_sf_11, y11_sf_11, y12_sf_11, y13_sf_11, y14_sf_11, y15_sf_11] rfl sf_11 hS_sf_11 f1 f2 f3 f4 b a bb gb ba ga) gX11_meet_X11_endSide rfl hy_X11_endSide_V ⟨Nat.le_of_ble_eq_true rfl, Nat.le_of_ble_eq_true rfl⟩ 0 rfl rfl [0, 1, 2, 3, 4, 5, 6] rfl (by decide) rfl rfl (Nat.le_of_ble_eq_true rfl) ⟨Nat.le_of_ble_eq_true rfl, Nat.le_of_ble_eq_true rfl⟩ ?_
            rintro _ ⟨zs_14, sf_13⟩ ⟨rfl, hk_sf_13, hS_sf_13⟩
            obtain ⟨y4_sf_13, y5_sf_13, y6_sf_13, y7_sf_13, y8_sf_13, y9_sf_13, y10_sf_13, y11_sf_13, y12_sf_13, y13_sf_13, y14_sf_13, y15_sf_13, rfl⟩ := kp_4 hk_sf_13
            change J p l e rm_X11_meet s m args below meth c Q G A 3 0 0 67 [(0, .ref (q 0)), (1, .int (nI a)), (2, .int (nI b))] [.int (sg (tn (f1 b).toInt (f2 b).toInt (f3 b).toInt (f4 b).toInt (f1 a).toInt (f2 a).toInt))] [(q 0, .inr (10, mF t n q co cr po tx ty)), (q 2, aJ G 200 f1), (q 3, aJ G 200 f2), (q 4, aJ G 200 f3), (q 5, aJ G 200 f4), (q 10, aI G 320 (rg [z0, z1, z2, z3, y4_sf_13, y5_sf_13, y6_sf_13, y7_sf_13, y8_sf_13, y9_sf_13, y10_sf_13, y11_sf_13, y12_sf_13, y13_sf_13, y14_sf_13, y15_sf_13])), (q 11, aZ G 16 sf_13)]
            refine j_aload_n X dX11_meet_67 rfl 0 rfl ?_
            refine j_iload_n X dX11_meet_68 rfl 2 rfl ?_
            refine j_iload_n X dX11_meet_69 rfl 1 rfl ?_
            refine j_iconst (v := 1) X dX11_meet_70 rfl ?_
            refine j_callV X dX11_meet_71 (c_X11_endSide_1 l G q t n co cr po tx ty [z0, z1, z2, z3, y4_sf_13, y5_sf_13, y6_sf_13, y7_sf_13, y8_sf_13, y9_sf_13, y10_sf_13, y11_sf_13, y12_sf_13, y13_sf_13, y14_sf_13, y15_sf_13] rfl sf_13 hS_sf_13 f1 f2 f3 f4 b a bb gb ba ga) gX11_meet_X11_endSide rfl hy_X11_endSide_V ⟨Nat.le_of_ble_eq_true rfl, Nat.le_of_ble_eq_true rfl⟩ 0 rfl rfl [0, 1, 2, 3, 4, 5, 6] rfl (by decide) rfl rfl (Nat.le_of_ble_eq_true rfl) ⟨Nat.le_of_ble_eq_true rfl, Nat.le_of_ble_eq_true rfl⟩ ?_
            rintro _ ⟨zs_16, sf_15⟩ ⟨rfl, hk_sf_15, hS_sf_15⟩
            obtain ⟨y4_sf_15, y5_sf_15, y6_sf_15, y7_sf_15, y8_sf_15, y9_sf_15, y10_sf_15, y11_sf_15, y12_sf_15, y13_sf_15, y14_sf_15, y15_sf_15, rfl⟩ := kp_4 hk_sf_15
            change J p l e rm_X11_meet s m args below meth c Q G A 3 0 0 74 [(0, .ref (q 0)), (1, .int (nI a)), (2, .int (nI b))] [.int (sg (tn (f1 b).toInt (f2 b).toInt (f3 b).toInt (f4 b).toInt (f3 a).toInt (f4 a).toInt)), .int (sg (tn (f1 b).toInt (f2 b).toInt (f3 b).toInt (f4 b).toInt (f1 a).toInt (f2 a).toInt))] [(q 0, .inr (10, mF t n q co cr po tx ty)), (q 2, aJ G 200 f1), (q 3, aJ G 200 f2), (q 4, aJ G 200 f3), (q 5, aJ G 200 f4), (q 10, aI G 320 (rg [z0, z1, z2, z3, y4_sf_15, y5_sf_15, y6_sf_15, y7_sf_15, y8_sf_15, y9_sf_15, y10_sf_15, y11_sf_15, y12_sf_15, y13_sf_15, y14_sf_15, y15_sf_15])), (q 11, aZ G 16 sf_15)]
            refine j_imul X dX11_meet_74 ?_
            refine j_if_ge (tgt := 82) X dX11_meet_75 (by decide) (fun c_75 => ?_) (fun c_75 => ?_)
            · skip
              first | simp only [bI_0, Decidable.not_not, sg_mul, sg_e0, sg_l0, sg_g0, sg_le0, sg_ge0, cmp_eq, cmp_lt, cmp_ge, cmp_gt, cmp_le, lT0, lT1] at c_75 | simp only [Int32.le_iff_toInt_le, Int32.lt_iff_toInt_lt, ← Int32.toInt_inj, iT0, iT1, iT2, iT3, iT4, iT5, iT6, iT7, iT8, iT9, iT10, iT11, iT12, iT13, iT14, iT15, iT16, iT19, iT20, iT31, iT32, iT42, iT64, iT200, iT318, iT319, iT1000, iTm1, iTm2] at c_75 | skip
              refine j_iconst (v := 0) X dX11_meet_82 rfl ?_
              exact E.2.1 83 _ 0 ([z0, z1, z2, z3, y4_sf_15, y5_sf_15, y6_sf_15, y7_sf_15, y8_sf_15, y9_sf_15, y10_sf_15, y11_sf_15, y12_sf_15, y13_sf_15, y14_sf_15, y15_sf_15], sf_15) _ dX11_meet_83 (⟨(by rw [bI_f (fun h => by rcases h with (h | h | h | h) | h; exact c_7 h; exact c_17 h; exact c_27 h; exact c_37 h; first | exact absurd h.1 (Int.not_lt.mpr c_57) | exact absurd h.2 (Int.not_lt.mpr c_75))]), kp_i, hS_sf_15⟩) hr rfl
            · skip
              first | simp only [bI_0, Decidable.not_not, sg_mul, sg_e0, sg_l0, sg_g0, sg_le0, sg_ge0, cmp_eq, cmp_lt, cmp_ge, cmp_gt, cmp_le, lT0, lT1] at c_75 | simp only [Int32.le_iff_toInt_le, Int32.lt_iff_toInt_lt, ← Int32.toInt_inj, iT0, iT1, iT2, iT3, iT4, iT5, iT6, iT7, iT8, iT9, iT10, iT11, iT12, iT13, iT14, iT15, iT16, iT19, iT20, iT31, iT32, iT42, iT64, iT200, iT318, iT319, iT1000, iTm1, iTm2] at c_75 | skip
              refine j_iconst (v := 1) X dX11_meet_78 rfl ?_
              refine j_goto (tgt := 83) X dX11_meet_79 (by decide) ?_
              exact E.2.1 83 _ 1 ([z0, z1, z2, z3, y4_sf_15, y5_sf_15, y6_sf_15, y7_sf_15, y8_sf_15, y9_sf_15, y10_sf_15, y11_sf_15, y12_sf_15, y13_sf_15, y14_sf_15, y15_sf_15], sf_15) _ dX11_meet_83 (⟨(by rw [bI_t (by first | exact Or.inl (Or.inl c_7) | exact Or.inl (Or.inr (Or.inl c_17)) | exact Or.inl (Or.inr (Or.inr (Or.inl c_27))) | exact Or.inl (Or.inr (Or.inr (Or.inr c_37))) | exact Or.inr ⟨Int.not_le.mp c_57, Int.not_le.mp c_75⟩)]), kp_i, hS_sf_15⟩) hr rfl
        · skip
          first | simp only [bI_0, Decidable.not_not, sg_mul, sg_e0, sg_l0, sg_g0, sg_le0, sg_ge0, cmp_eq, cmp_lt, cmp_ge, cmp_gt, cmp_le, lT0, lT1] at c_37 | simp only [Int32.le_iff_toInt_le, Int32.lt_iff_toInt_lt, ← Int32.toInt_inj, iT0, iT1, iT2, iT3, iT4, iT5, iT6, iT7, iT8, iT9, iT10, iT11, iT12, iT13, iT14, iT15, iT16, iT19, iT20, iT31, iT32, iT42, iT64, iT200, iT318, iT319, iT1000, iTm1, iTm2] at c_37 | skip
          refine j_iconst (v := 1) X dX11_meet_40 rfl ?_
          exact E.2.1 41 _ 1 ([z0, z1, z2, z3, y4_sf_7, y5_sf_7, y6_sf_7, y7_sf_7, y8_sf_7, y9_sf_7, y10_sf_7, y11_sf_7, y12_sf_7, y13_sf_7, y14_sf_7, y15_sf_7], sf_7) _ dX11_meet_41 (⟨(by rw [bI_t (by first | exact Or.inl (Or.inl c_7) | exact Or.inl (Or.inr (Or.inl c_17)) | exact Or.inl (Or.inr (Or.inr (Or.inl c_27))) | exact Or.inl (Or.inr (Or.inr (Or.inr c_37))) | exact Or.inr ⟨Int.not_le.mp c_57, Int.not_le.mp c_75⟩)]), kp_i, hS_sf_7⟩) hr rfl

theorem hy_X11_meet_V : yX11_meet.cls = RX11 ∧ yX11_meet.cls ≠ "java/lang/invoke/MethodHandle" ∧ yX11_meet.cls ≠ "java/lang/invoke/VarHandle" ∧ (parseMethodDescriptor yX11_meet.desc).map (fun d => d.parameters.length) = some 2 := by decide +kernel
