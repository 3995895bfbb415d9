abbrev rm_X6_addHalf : Room := { frames := 2, cells := 0, slots := 0, locals := 49 }
theorem in_X6_addHalf_X6 : ∀ w ∈ u_ws RX6 TX6 4, w ∈ wsX6_addHalf := by decide +kernel
theorem fl_X6_addHalf_24 : Cond.fieldLink RX6 24 (TX6 2).1 (TX6 2).2.1 (TX6 2).2.2.1 ∈ wsX6_addHalf := by decide +kernel
theorem in_X6_addHalf_X5 : ∀ w ∈ u_ws RX5 TX5 5, w ∈ wsX6_addHalf := by decide +kernel
theorem fl_X6_addHalf_31 : Cond.fieldLink RX6 31 (TX5 0).1 (TX5 0).2.1 (TX5 0).2.2.1 ∈ wsX6_addHalf := by decide +kernel
theorem fl_X6_addHalf_53 : Cond.fieldLink RX6 53 (TX5 1).1 (TX5 1).2.1 (TX5 1).2.2.1 ∈ wsX6_addHalf := by decide +kernel
theorem fl_X6_addHalf_28 : Cond.fieldLink RX6 28 (TX6 3).1 (TX6 3).2.1 (TX6 3).2.2.1 ∈ wsX6_addHalf := by decide +kernel
set_option maxHeartbeats 4000000 in
set_option maxRecDepth 100000 in
theorem c_X6_addHalf (l : Launch) (G : jG) (o s1 s2 rr stp w1 a1 w2 a2 w3 a4 bl a5 : Nat) (side : Int32) (fac : Int64) (P Q2 T B : Int) : Ct l yX6_addHalf wsX6_addHalf rm_X6_addHalf G [.ref o, .ref bl] [(o, .inr (6, [.ref s1, .ref s2, .ref rr, .ref stp])), (rr, .inr (5, [.ref w1, .ref w2, .int side, .long fac, .ref w3])), (w1, .inr (8, [.ref a1])), (a1, aJ G 8 (dg P)), (w2, .inr (8, [.ref a2])), (a2, aJ G 8 (dg Q2)), (stp, .inr (8, [.ref a4])), (a4, aJ G 8 (dg T)), (bl, .inr (8, [.ref a5])), (a5, aJ G 8 (dg B))] (S := Unit) (fun x _ => x = none) (fun _ => [(o, .inr (6, [.ref s1, .ref s2, .ref rr, .ref stp])), (rr, .inr (5, [.ref w1, .ref w2, .int side, .long fac, .ref w3])), (w1, .inr (8, [.ref a1])), (a1, aJ G 8 (dg (P * 2 ^ 1 + B))), (w2, .inr (8, [.ref a2])), (a2, aJ G 8 (dg (Q2 * 2 ^ 2))), (stp, .inr (8, [.ref a4])), (a4, aJ G 8 (dg (T * 2 ^ 1))), (bl, .inr (8, [.ref a5])), (a5, aJ G 8 (dg B))]) (fun _ => []) := by
  refine c_intro (cc := cX6_addHalf) (maxL := 2) (ret := none) (by decide) rfl (Nat.le_of_ble_eq_true rfl) (fun _ => by simp only [List.map_cons, List.map_nil]) ?_
  intro p e s m args below meth c Q A X hr hin E
  change J p l e rm_X6_addHalf s m args below meth c Q G A 2 0 0 0 [(0, .ref o), (1, .ref bl)] [] [(o, .inr (6, [.ref s1, .ref s2, .ref rr, .ref stp])), (rr, .inr (5, [.ref w1, .ref w2, .int side, .long fac, .ref w3])), (w1, .inr (8, [.ref a1])), (a1, aJ G 8 (dg P)), (w2, .inr (8, [.ref a2])), (a2, aJ G 8 (dg Q2)), (stp, .inr (8, [.ref a4])), (a4, aJ G 8 (dg T)), (bl, .inr (8, [.ref a5])), (a5, aJ G 8 (dg B))]
  refine j_aload_n X dX6_addHalf_0 rfl 0 rfl ?_
  refine j_get (v := .ref rr) X dX6_addHalf_1 0 rfl 2 rfl in_X6_addHalf_X6 (by decide) fl_X6_addHalf_24 rfl ?_
  refine j_get (v := .ref w1) X dX6_addHalf_4 1 rfl 0 rfl in_X6_addHalf_X5 (by decide) fl_X6_addHalf_31 rfl ?_
  refine j_iconst (v := 1) X dX6_addHalf_7 rfl ?_
  refine j_callV X dX6_addHalf_8 (c_X9_shiftLeft l G w1 a1 P 1 1 rfl (by decide)) gX6_addHalf_X9_shiftLeft rfl hy_X9_shiftLeft_V ⟨Nat.le_of_ble_eq_true rfl, Nat.le_of_ble_eq_true rfl⟩ 0 rfl rfl [2, 3] rfl (by decide) rfl rfl (Nat.le_of_ble_eq_true rfl) ⟨Nat.le_of_ble_eq_true rfl, Nat.le_of_ble_eq_true rfl⟩ ?_
  rintro _ ⟨⟩ rfl
  change J p l e rm_X6_addHalf s m args below meth c Q G A 2 0 0 11 [(0, .ref o), (1, .ref bl)] [] [(o, .inr (6, [.ref s1, .ref s2, .ref rr, .ref stp])), (rr, .inr (5, [.ref w1, .ref w2, .int side, .long fac, .ref w3])), (w1, .inr (8, [.ref a1])), (a1, aJ G 8 (dg (P * 2 ^ 1))), (w2, .inr (8, [.ref a2])), (a2, aJ G 8 (dg Q2)), (stp, .inr (8, [.ref a4])), (a4, aJ G 8 (dg T)), (bl, .inr (8, [.ref a5])), (a5, aJ G 8 (dg B))]
  refine j_aload_n X dX6_addHalf_11 rfl 0 rfl ?_
  refine j_get (v := .ref rr) X dX6_addHalf_12 0 rfl 2 rfl in_X6_addHalf_X6 (by decide) fl_X6_addHalf_24 rfl ?_
  refine j_get (v := .ref w1) X dX6_addHalf_15 1 rfl 0 rfl in_X6_addHalf_X5 (by decide) fl_X6_addHalf_31 rfl ?_
  refine j_aload_n X dX6_addHalf_18 rfl 1 rfl ?_
  refine j_callV X dX6_addHalf_19 (c_X9_add l G w1 a1 bl a5 (P * 2 ^ 1) B) gX6_addHalf_X9_add rfl hy_X9_add_V ⟨Nat.le_of_ble_eq_true rfl, Nat.le_of_ble_eq_true rfl⟩ 0 rfl rfl [2, 3, 8, 9] rfl (by decide) rfl rfl (Nat.le_of_ble_eq_true rfl) ⟨Nat.le_of_ble_eq_true rfl, Nat.le_of_ble_eq_true rfl⟩ ?_
  rintro _ ⟨⟩ rfl
  change J p l e rm_X6_addHalf s m args below meth c Q G A 2 0 0 22 [(0, .ref o), (1, .ref bl)] [] [(o, .inr (6, [.ref s1, .ref s2, .ref rr, .ref stp])), (rr, .inr (5, [.ref w1, .ref w2, .int side, .long fac, .ref w3])), (w1, .inr (8, [.ref a1])), (a1, aJ G 8 (dg ((P * 2 ^ 1) + B))), (w2, .inr (8, [.ref a2])), (a2, aJ G 8 (dg Q2)), (stp, .inr (8, [.ref a4])), (a4, aJ G 8 (dg T)), (bl, .inr (8, [.ref a5])), (a5, aJ G 8 (dg B))]
  refine j_aload_n X dX6_addHalf_22 rfl 0 rfl ?_
  refine j_get (v := .ref rr) X dX6_addHalf_23 0 rfl 2 rfl in_X6_addHalf_X6 (by decide) fl_X6_addHalf_24 rfl ?_
  refine j_get (v := .ref w2) X dX6_addHalf_26 1 rfl 1 rfl in_X6_addHalf_X5 (by decide) fl_X6_addHalf_53 rfl ?_
  refine j_iconst (v := 2) X dX6_addHalf_29 rfl ?_
  refine j_callV X dX6_addHalf_30 (c_X9_shiftLeft l G w2 a2 Q2 2 2 rfl (by decide)) gX6_addHalf_X9_shiftLeft rfl hy_X9_shiftLeft_V ⟨Nat.le_of_ble_eq_true rfl, Nat.le_of_ble_eq_true rfl⟩ 0 rfl rfl [4, 5] rfl (by decide) rfl rfl (Nat.le_of_ble_eq_true rfl) ⟨Nat.le_of_ble_eq_true rfl, Nat.le_of_ble_eq_true rfl⟩ ?_
  rintro _ ⟨⟩ rfl
  change J p l e rm_X6_addHalf s m args below meth c Q G A 2 0 0 33 [(0, .ref o), (1, .ref bl)] [] [(o, .inr (6, [.ref s1, .ref s2, .ref rr, .ref stp])), (rr, .inr (5, [.ref w1, .ref w2, .int side, .long fac, .ref w3])), (w1, .inr (8, [.ref a1])), (a1, aJ G 8 (dg ((P * 2 ^ 1) + B))), (w2, .inr (8, [.ref a2])), (a2, aJ G 8 (dg (Q2 * 2 ^ 2))), (stp, .inr (8, [.ref a4])), (a4, aJ G 8 (dg T)), (bl, .inr (8, [.ref a5])), (a5, aJ G 8 (dg B))]
  refine j_aload_n X dX6_addHalf_33 rfl 0 rfl ?_
  refine j_get (v := .ref stp) X dX6_addHalf_34 0 rfl 3 rfl in_X6_addHalf_X6 (by decide) fl_X6_addHalf_28 rfl ?_
  refine j_iconst (v := 1) X dX6_addHalf_37 rfl ?_
  refine j_callV X dX6_addHalf_38 (c_X9_shiftLeft l G stp a4 T 1 1 rfl (by decide)) gX6_addHalf_X9_shiftLeft rfl hy_X9_shiftLeft_V ⟨Nat.le_of_ble_eq_true rfl, Nat.le_of_ble_eq_true rfl⟩ 0 rfl rfl [6, 7] rfl (by decide) rfl rfl (Nat.le_of_ble_eq_true rfl) ⟨Nat.le_of_ble_eq_true rfl, Nat.le_of_ble_eq_true rfl⟩ ?_
  rintro _ ⟨⟩ rfl
  change J p l e rm_X6_addHalf s m args below meth c Q G A 2 0 0 41 [(0, .ref o), (1, .ref bl)] [] [(o, .inr (6, [.ref s1, .ref s2, .ref rr, .ref stp])), (rr, .inr (5, [.ref w1, .ref w2, .int side, .long fac, .ref w3])), (w1, .inr (8, [.ref a1])), (a1, aJ G 8 (dg ((P * 2 ^ 1) + B))), (w2, .inr (8, [.ref a2])), (a2, aJ G 8 (dg (Q2 * 2 ^ 2))), (stp, .inr (8, [.ref a4])), (a4, aJ G 8 (dg (T * 2 ^ 1))), (bl, .inr (8, [.ref a5])), (a5, aJ G 8 (dg B))]
  exact E.1 41 _ () dX6_addHalf_41 rfl hr

theorem hy_X6_addHalf_V : yX6_addHalf.cls = RX6 ∧ yX6_addHalf.cls ≠ "java/lang/invoke/MethodHandle" ∧ yX6_addHalf.cls ≠ "java/lang/invoke/VarHandle" ∧ (parseMethodDescriptor yX6_addHalf.desc).map (fun d => d.parameters.length) = some 1 := by decide +kernel
theorem rd_1 {r : Int64} {k : Nat} (hrr : -4398046511104 ≤ r.toInt ∧ r.toInt + 2 ^ k ≤ 4398046511104) : (r + 1).toInt = r.toInt + 1 := by
  have h := rd_p k
  rw [l_add] <;> rw [lT1] <;> omega
abbrev rm_X6_rounded : Room := { frames := 3, cells := 0, slots := 0, locals := 77 }
theorem in_X6_rounded_X6 : ∀ w ∈ u_ws RX6 TX6 4, w ∈ wsX6_rounded := by decide +kernel
theorem fl_X6_rounded_24 : Cond.fieldLink RX6 24 (TX6 2).1 (TX6 2).2.1 (TX6 2).2.2.1 ∈ wsX6_rounded := by decide +kernel
theorem fl_X6_rounded_28 : Cond.fieldLink RX6 28 (TX6 3).1 (TX6 3).2.1 (TX6 3).2.2.1 ∈ wsX6_rounded := by decide +kernel
theorem in_X6_rounded_X5 : ∀ w ∈ u_ws RX5 TX5 5, w ∈ wsX6_rounded := by decide +kernel
theorem fl_X6_rounded_31 : Cond.fieldLink RX6 31 (TX5 0).1 (TX5 0).2.1 (TX5 0).2.2.1 ∈ wsX6_rounded := by decide +kernel
theorem k_X6_rounded_73 : Cond.constantLong RX6 73 (-4398046511104) ∈ wsX6_rounded := by decide +kernel
set_option maxHeartbeats 4000000 in
set_option maxRecDepth 100000 in
theorem c_X6_rounded_0 (l : Launch) (G : jG) (o s1 b1 s2 b2 rr stp w1 a1 w2 a2 w3 a4 v v1 c1 v2 c2 v3 bl a5 : Nat) (f1 f2 h1 h2 h3 : Nat → Int64) (si0 side : Int32) (fa0 fac : Int64) (P Q2 B : Int) (hB : 0 ≤ B) (hB2 : B ≤ 38685626227668133590597632) (hPP : -170141183460469231731687303715884105727 ≤ P ∧ P ≤ 170141183460469231731687303715884105727) (hQ : 0 ≤ Q2 ∧ Q2 < 115792089237316195423570985008687907853269984665640564039457584007913129639936) (hlo : 0 ≤ (cs (P + B * 2 ^ 42) side Q2).toInt) (hhi : (cs (P + B * 2 ^ 42 - B * 8796093022208) side Q2).toInt < 0) : Ct l yX6_rounded wsX6_rounded rm_X6_rounded G [.ref o, .ref v, .ref bl, .int 0] [(o, .inr (6, [.ref s1, .ref s2, .ref rr, .ref stp])), (s1, .inr (8, [.ref b1])), (b1, aJ G 8 f1), (s2, .inr (8, [.ref b2])), (b2, aJ G 8 f2), (rr, .inr (5, [.ref w1, .ref w2, .int si0, .long fa0, .ref w3])), (w1, .inr (8, [.ref a1])), (a1, aJ G 8 h1), (w2, .inr (8, [.ref a2])), (a2, aJ G 8 h2), (stp, .inr (8, [.ref a4])), (a4, aJ G 8 h3), (v, .inr (5, [.ref v1, .ref v2, .int side, .long fac, .ref v3])), (v1, .inr (8, [.ref c1])), (c1, aJ G 8 (dg P)), (v2, .inr (8, [.ref c2])), (c2, aJ G 8 (dg Q2)), (bl, .inr (8, [.ref a5])), (a5, aJ G 8 (dg B))] (S := (Nat → Int64) × (Nat → Int64) × Int × Int) (fun x _ => ∃ r : Int64, x = some (.long r) ∧ rdR P side Q2 B r.toInt) (fun u => [(o, .inr (6, [.ref s1, .ref s2, .ref rr, .ref stp])), (s1, .inr (8, [.ref b1])), (b1, aJ G 8 u.1), (s2, .inr (8, [.ref b2])), (b2, aJ G 8 u.2.1), (rr, .inr (5, [.ref w1, .ref w2, .int side, .long fac, .ref w3])), (w1, .inr (8, [.ref a1])), (a1, aJ G 8 (dg u.2.2.1)), (w2, .inr (8, [.ref a2])), (a2, aJ G 8 (dg Q2)), (stp, .inr (8, [.ref a4])), (a4, aJ G 8 (dg u.2.2.2)), (v, .inr (5, [.ref v1, .ref v2, .int side, .long fac, .ref v3])), (v1, .inr (8, [.ref c1])), (c1, aJ G 8 (dg P)), (v2, .inr (8, [.ref c2])), (c2, aJ G 8 (dg Q2)), (bl, .inr (8, [.ref a5])), (a5, aJ G 8 (dg B))]) (fun _ => []) := by
  refine c_intro (cc := cX6_rounded) (maxL := 7) (ret := (some .long)) (by decide) rfl (Nat.le_of_ble_eq_true rfl) (fun _ => by simp only [List.map_cons, List.map_nil]) ?_
  intro p e s m args below meth c Q A X hr hin E
  change J p l e rm_X6_rounded s m args below meth c Q G A 7 0 0 0 [(0, .ref o), (1, .ref v), (2, .ref bl), (3, .int 0)] [] [(o, .inr (6, [.ref s1, .ref s2, .ref rr, .ref stp])), (s1, .inr (8, [.ref b1])), (b1, aJ G 8 f1), (s2, .inr (8, [.ref b2])), (b2, aJ G 8 f2), (rr, .inr (5, [.ref w1, .ref w2, .int si0, .long fa0, .ref w3])), (w1, .inr (8, [.ref a1])), (a1, aJ G 8 h1), (w2, .inr (8, [.ref a2])), (a2, aJ G 8 h2), (stp, .inr (8, [.ref a4])), (a4, aJ G 8 h3), (v, .inr (5, [.ref v1, .ref v2, .int side, .long fac, .ref v3])), (v1, .inr (8, [.ref c1])), (c1, aJ G 8 (dg P)), (v2, .inr (8, [.ref c2])), (c2, aJ G 8 (dg Q2)), (bl, .inr (8, [.ref a5])), (a5, aJ G 8 (dg B))]
  refine j_aload_n X dX6_rounded_0 rfl 0 rfl ?_
  refine j_get (v := .ref rr) X dX6_rounded_1 0 rfl 2 rfl in_X6_rounded_X6 (by decide) fl_X6_rounded_24 rfl ?_
  refine j_aload_n X dX6_rounded_4 rfl 1 rfl ?_
  refine j_callV X dX6_rounded_5 (c_X5_setTo l G rr w1 a1 w2 a2 w3 v v1 c1 v2 c2 v3 h1 h2 si0 side fa0 fac P Q2) gX6_rounded_X5_setTo rfl hy_X5_setTo_V ⟨Nat.le_of_ble_eq_true rfl, Nat.le_of_ble_eq_true rfl⟩ 0 rfl rfl [5, 6, 7, 8, 9, 12, 13, 14, 15, 16] rfl (by decide) rfl rfl (Nat.le_of_ble_eq_true rfl) ⟨Nat.le_of_ble_eq_true rfl, Nat.le_of_ble_eq_true rfl⟩ ?_
  rintro _ ⟨⟩ rfl
  change J p l e rm_X6_rounded s m args below meth c Q G A 7 0 0 8 [(0, .ref o), (1, .ref v), (2, .ref bl), (3, .int 0)] [] [(o, .inr (6, [.ref s1, .ref s2, .ref rr, .ref stp])), (s1, .inr (8, [.ref b1])), (b1, aJ G 8 f1), (s2, .inr (8, [.ref b2])), (b2, aJ G 8 f2), (rr, .inr (5, [.ref w1, .ref w2, .int side, .long fac, .ref w3])), (w1, .inr (8, [.ref a1])), (a1, aJ G 8 (dg P)), (w2, .inr (8, [.ref a2])), (a2, aJ G 8 (dg Q2)), (stp, .inr (8, [.ref a4])), (a4, aJ G 8 h3), (v, .inr (5, [.ref v1, .ref v2, .int side, .long fac, .ref v3])), (v1, .inr (8, [.ref c1])), (c1, aJ G 8 (dg P)), (v2, .inr (8, [.ref c2])), (c2, aJ G 8 (dg Q2)), (bl, .inr (8, [.ref a5])), (a5, aJ G 8 (dg B))]
  refine j_aload_n X dX6_rounded_8 rfl 0 rfl ?_
  refine j_get (v := .ref stp) X dX6_rounded_9 0 rfl 3 rfl in_X6_rounded_X6 (by decide) fl_X6_rounded_28 rfl ?_
  refine j_aload_n X dX6_rounded_12 rfl 2 rfl ?_
  refine j_callV X dX6_rounded_13 (c_X9_setTo_ l G stp a4 bl a5 h3 B) gX6_rounded_X9_setTo_ rfl hy_X9_setTo__V ⟨Nat.le_of_ble_eq_true rfl, Nat.le_of_ble_eq_true rfl⟩ 0 rfl rfl [10, 11, 17, 18] rfl (by decide) rfl rfl (Nat.le_of_ble_eq_true rfl) ⟨Nat.le_of_ble_eq_true rfl, Nat.le_of_ble_eq_true rfl⟩ ?_
  rintro _ ⟨⟩ rfl
  change J p l e rm_X6_rounded s m args below meth c Q G A 7 0 0 16 [(0, .ref o), (1, .ref v), (2, .ref bl), (3, .int 0)] [] [(o, .inr (6, [.ref s1, .ref s2, .ref rr, .ref stp])), (s1, .inr (8, [.ref b1])), (b1, aJ G 8 f1), (s2, .inr (8, [.ref b2])), (b2, aJ G 8 f2), (rr, .inr (5, [.ref w1, .ref w2, .int side, .long fac, .ref w3])), (w1, .inr (8, [.ref a1])), (a1, aJ G 8 (dg P)), (w2, .inr (8, [.ref a2])), (a2, aJ G 8 (dg Q2)), (stp, .inr (8, [.ref a4])), (a4, aJ G 8 (dg B)), (v, .inr (5, [.ref v1, .ref v2, .int side, .long fac, .ref v3])), (v1, .inr (8, [.ref c1])), (c1, aJ G 8 (dg P)), (v2, .inr (8, [.ref c2])), (c2, aJ G 8 (dg Q2)), (bl, .inr (8, [.ref a5])), (a5, aJ G 8 (dg B))]
  refine j_iload_n X dX6_rounded_16 rfl 3 rfl ?_
  refine j_iconst (v := 2) X dX6_rounded_17 rfl ?_
  refine j_icmp_ne (tgt := 26) X dX6_rounded_18 (by decide) (fun _ => ?_) (fun c9 => absurd c9 (by decide))
  refine j_aload_n X dX6_rounded_26 rfl 0 rfl ?_
  refine j_get (v := .ref stp) X dX6_rounded_27 0 rfl 3 rfl in_X6_rounded_X6 (by decide) fl_X6_rounded_28 rfl ?_
  refine j_bipush (v := 42) X dX6_rounded_30 (by decide) ?_
  refine j_callV X dX6_rounded_32 (c_X9_shiftLeft l G stp a4 B 42 42 rfl (by decide)) gX6_rounded_X9_shiftLeft rfl hy_X9_shiftLeft_V ⟨Nat.le_of_ble_eq_true rfl, Nat.le_of_ble_eq_true rfl⟩ 0 rfl rfl [10, 11] rfl (by decide) rfl rfl (Nat.le_of_ble_eq_true rfl) ⟨Nat.le_of_ble_eq_true rfl, Nat.le_of_ble_eq_true rfl⟩ ?_
  rintro _ ⟨⟩ rfl
  change J p l e rm_X6_rounded s m args below meth c Q G A 7 0 0 35 [(0, .ref o), (1, .ref v), (2, .ref bl), (3, .int 0)] [] [(o, .inr (6, [.ref s1, .ref s2, .ref rr, .ref stp])), (s1, .inr (8, [.ref b1])), (b1, aJ G 8 f1), (s2, .inr (8, [.ref b2])), (b2, aJ G 8 f2), (rr, .inr (5, [.ref w1, .ref w2, .int side, .long fac, .ref w3])), (w1, .inr (8, [.ref a1])), (a1, aJ G 8 (dg P)), (w2, .inr (8, [.ref a2])), (a2, aJ G 8 (dg Q2)), (stp, .inr (8, [.ref a4])), (a4, aJ G 8 (dg (B * 2 ^ 42))), (v, .inr (5, [.ref v1, .ref v2, .int side, .long fac, .ref v3])), (v1, .inr (8, [.ref c1])), (c1, aJ G 8 (dg P)), (v2, .inr (8, [.ref c2])), (c2, aJ G 8 (dg Q2)), (bl, .inr (8, [.ref a5])), (a5, aJ G 8 (dg B))]
  refine j_aload_n X dX6_rounded_35 rfl 0 rfl ?_
  refine j_get (v := .ref rr) X dX6_rounded_36 0 rfl 2 rfl in_X6_rounded_X6 (by decide) fl_X6_rounded_24 rfl ?_
  refine j_get (v := .ref w1) X dX6_rounded_39 5 rfl 0 rfl in_X6_rounded_X5 (by decide) fl_X6_rounded_31 rfl ?_
  refine j_aload_n X dX6_rounded_42 rfl 0 rfl ?_
  refine j_get (v := .ref stp) X dX6_rounded_43 0 rfl 3 rfl in_X6_rounded_X6 (by decide) fl_X6_rounded_28 rfl ?_
  refine j_callV X dX6_rounded_46 (c_X9_add l G w1 a1 stp a4 P (B * 2 ^ 42)) gX6_rounded_X9_add rfl hy_X9_add_V ⟨Nat.le_of_ble_eq_true rfl, Nat.le_of_ble_eq_true rfl⟩ 0 rfl rfl [6, 7, 10, 11] rfl (by decide) rfl rfl (Nat.le_of_ble_eq_true rfl) ⟨Nat.le_of_ble_eq_true rfl, Nat.le_of_ble_eq_true rfl⟩ ?_
  rintro _ ⟨⟩ rfl
  change J p l e rm_X6_rounded s m args below meth c Q G A 7 0 0 49 [(0, .ref o), (1, .ref v), (2, .ref bl), (3, .int 0)] [] [(o, .inr (6, [.ref s1, .ref s2, .ref rr, .ref stp])), (s1, .inr (8, [.ref b1])), (b1, aJ G 8 f1), (s2, .inr (8, [.ref b2])), (b2, aJ G 8 f2), (rr, .inr (5, [.ref w1, .ref w2, .int side, .long fac, .ref w3])), (w1, .inr (8, [.ref a1])), (a1, aJ G 8 (dg (P + (B * 2 ^ 42)))), (w2, .inr (8, [.ref a2])), (a2, aJ G 8 (dg Q2)), (stp, .inr (8, [.ref a4])), (a4, aJ G 8 (dg (B * 2 ^ 42))), (v, .inr (5, [.ref v1, .ref v2, .int side, .long fac, .ref v3])), (v1, .inr (8, [.ref c1])), (c1, aJ G 8 (dg P)), (v2, .inr (8, [.ref c2])), (c2, aJ G 8 (dg Q2)), (bl, .inr (8, [.ref a5])), (a5, aJ G 8 (dg B))]
  refine j_ldc2 (v := (-4398046511104)) X dX6_rounded_49 k_X6_rounded_73 ?_
  refine j_lstore (L' := [(4, .long (-4398046511104)), (0, .ref o), (1, .ref v), (2, .ref bl), (3, .int 0)]) X dX6_rounded_52 (by decide) rfl ?_
  refine j_bipush (v := 42) X dX6_rounded_54 (by decide) ?_
  refine j_istore (L' := [(6, .int 42), (4, .long (-4398046511104)), (0, .ref o), (1, .ref v), (2, .ref bl), (3, .int 0)]) X dX6_rounded_56 (by decide) rfl ?_
  have loop : ∀ (d : Nat) (k : Nat) (t : Int32) (r : Int64) (P1 T : Int) (g1 g2 : Nat → Int64) (hk : k ≤ 43) (ht : t.toInt = (k : Int) - 1) (hT : T = B * 2 ^ k / 2) (hP : P1 = P - r.toInt * B) (hl : 0 ≤ (cs P1 side Q2).toInt) (hh : (cs (P1 - B * 2 ^ k) side Q2).toInt < 0) (hrr : -4398046511104 ≤ r.toInt ∧ r.toInt + 2 ^ k ≤ 4398046511104), k < d → J p l e rm_X6_rounded s m args below meth c Q G A 7 0 0 58 [(0, .ref o), (1, .ref v), (2, .ref bl), (3, .int 0), (4, .long r), (6, .int t)] [] [(o, .inr (6, [.ref s1, .ref s2, .ref rr, .ref stp])), (s1, .inr (8, [.ref b1])), (b1, aJ G 8 g1), (s2, .inr (8, [.ref b2])), (b2, aJ G 8 g2), (rr, .inr (5, [.ref w1, .ref w2, .int side, .long fac, .ref w3])), (w1, .inr (8, [.ref a1])), (a1, aJ G 8 (dg P1)), (w2, .inr (8, [.ref a2])), (a2, aJ G 8 (dg Q2)), (stp, .inr (8, [.ref a4])), (a4, aJ G 8 (dg T)), (v, .inr (5, [.ref v1, .ref v2, .int side, .long fac, .ref v3])), (v1, .inr (8, [.ref c1])), (c1, aJ G 8 (dg P)), (v2, .inr (8, [.ref c2])), (c2, aJ G 8 (dg Q2)), (bl, .inr (8, [.ref a5])), (a5, aJ G 8 (dg B))] := by
    intro d
    induction d with
    | zero => intro k t r P1 T g1 g2 hk ht hT hP hl hh hrr hd0; exact absurd hd0 (Nat.not_lt_zero _)
    | succ d ih =>
      intro k t r P1 T g1 g2 hk ht hT hP hl hh hrr hd0
      refine j_iload X dX6_rounded_58 5 rfl ?_
      refine j_if_lt (tgt := 127) X dX6_rounded_60 (by decide) (fun c_60 => ?_) (fun c_60 => ?_)
      · skip
        first | simp only [cmp_eq, cmp_lt, cmp_ge, cmp_gt, cmp_le, lT0, lT1] at c_60 | simp only [Int32.le_iff_toInt_le, Int32.lt_iff_toInt_lt, ← Int32.toInt_inj, iT0, iT1, iT2, iT3, iT4, iT5, iT6, iT7, iT8, iT9, iT10, iT11, iT12, iT13, iT14, iT15, iT16, iT19, iT20, iT31, iT32, iT42, iT64, iT200, iT318, iT319, iT1000, iTm1, iTm2] at c_60
        have hk0 : k = 0 := by omega
        subst hk0
        refine j_iload_n X dX6_rounded_127 rfl 3 rfl ?_
        refine j_iconst (v := 1) X dX6_rounded_128 rfl ?_
        refine j_icmp_ne (tgt := 150) X dX6_rounded_129 (by decide) (fun _ => ?_) (fun c9 => absurd c9 (by decide))
        refine j_lload X dX6_rounded_150 4 rfl ?_
        exact E.2.2 152 _ r (g1, g2, P1, T) dX6_rounded_152 (⟨r, rfl, rd_end hP hl hh⟩) hr
      · skip
        first | simp only [cmp_eq, cmp_lt, cmp_ge, cmp_gt, cmp_le, lT0, lT1] at c_60 | simp only [Int32.le_iff_toInt_le, Int32.lt_iff_toInt_lt, ← Int32.toInt_inj, iT0, iT1, iT2, iT3, iT4, iT5, iT6, iT7, iT8, iT9, iT10, iT11, iT12, iT13, iT14, iT15, iT16, iT19, iT20, iT31, iT32, iT42, iT64, iT200, iT318, iT319, iT1000, iTm1, iTm2] at c_60
        obtain ⟨k, rfl⟩ : ∃ k1, k = k1 + 1 := ⟨k - 1, by omega⟩
        have hT1 := rd_T hT
        have ht1 : t.toInt = (k : Int) := by omega
        have hbT := rd_B hB hB2 (by omega) hT1
        refine j_aload_n X dX6_rounded_63 rfl 0 rfl ?_
        refine j_get (v := .ref rr) X dX6_rounded_64 0 rfl 2 rfl in_X6_rounded_X6 (by decide) fl_X6_rounded_24 rfl ?_
        refine j_get (v := .ref w1) X dX6_rounded_67 5 rfl 0 rfl in_X6_rounded_X5 (by decide) fl_X6_rounded_31 rfl ?_
        refine j_aload_n X dX6_rounded_70 rfl 0 rfl ?_
        refine j_get (v := .ref stp) X dX6_rounded_71 0 rfl 3 rfl in_X6_rounded_X6 (by decide) fl_X6_rounded_28 rfl ?_
        refine j_callV X dX6_rounded_74 (c_X9_subtract l G w1 a1 stp a4 P1 T) gX6_rounded_X9_subtract rfl hy_X9_subtract_V ⟨Nat.le_of_ble_eq_true rfl, Nat.le_of_ble_eq_true rfl⟩ 0 rfl rfl [6, 7, 10, 11] rfl (by decide) rfl rfl (Nat.le_of_ble_eq_true rfl) ⟨Nat.le_of_ble_eq_true rfl, Nat.le_of_ble_eq_true rfl⟩ ?_
        rintro _ ⟨⟩ rfl
        change J p l e rm_X6_rounded s m args below meth c Q G A 7 0 0 77 [(0, .ref o), (1, .ref v), (2, .ref bl), (3, .int 0), (4, .long r), (6, .int t)] [] [(o, .inr (6, [.ref s1, .ref s2, .ref rr, .ref stp])), (s1, .inr (8, [.ref b1])), (b1, aJ G 8 g1), (s2, .inr (8, [.ref b2])), (b2, aJ G 8 g2), (rr, .inr (5, [.ref w1, .ref w2, .int side, .long fac, .ref w3])), (w1, .inr (8, [.ref a1])), (a1, aJ G 8 (dg (P1 - T))), (w2, .inr (8, [.ref a2])), (a2, aJ G 8 (dg Q2)), (stp, .inr (8, [.ref a4])), (a4, aJ G 8 (dg T)), (v, .inr (5, [.ref v1, .ref v2, .int side, .long fac, .ref v3])), (v1, .inr (8, [.ref c1])), (c1, aJ G 8 (dg P)), (v2, .inr (8, [.ref c2])), (c2, aJ G 8 (dg Q2)), (bl, .inr (8, [.ref a5])), (a5, aJ G 8 (dg B))]
        refine j_aload_n X dX6_rounded_77 rfl 0 rfl ?_
        refine j_aload_n X dX6_rounded_78 rfl 0 rfl ?_
        refine j_get (v := .ref rr) X dX6_rounded_79 0 rfl 2 rfl in_X6_rounded_X6 (by decide) fl_X6_rounded_24 rfl ?_
        refine j_callV X dX6_rounded_82 (c_X6_sign l G o s1 b1 s2 b2 rr stp rr w1 a1 w2 a2 w3 g1 g2 side fac (P1 - T) Q2 (rd_bP hB hB2 hPP hP hT1 hrr) hQ) gX6_rounded_X6_sign rfl hy_X6_sign_V ⟨Nat.le_of_ble_eq_true rfl, Nat.le_of_ble_eq_true rfl⟩ 0 rfl rfl [0, 1, 2, 3, 4, 5, 6, 7, 8, 9] rfl (by decide) rfl rfl (Nat.le_of_ble_eq_true rfl) ⟨Nat.le_of_ble_eq_true rfl, Nat.le_of_ble_eq_true rfl⟩ ?_
        rintro _ ⟨g_1, g_2⟩ rfl
        change J p l e rm_X6_rounded s m args below meth c Q G A 7 0 0 85 [(0, .ref o), (1, .ref v), (2, .ref bl), (3, .int 0), (4, .long r), (6, .int t)] [.int (cs (P1 - T) side Q2)] [(o, .inr (6, [.ref s1, .ref s2, .ref rr, .ref stp])), (s1, .inr (8, [.ref b1])), (b1, aJ G 8 g_1), (s2, .inr (8, [.ref b2])), (b2, aJ G 8 g_2), (rr, .inr (5, [.ref w1, .ref w2, .int side, .long fac, .ref w3])), (w1, .inr (8, [.ref a1])), (a1, aJ G 8 (dg (P1 - T))), (w2, .inr (8, [.ref a2])), (a2, aJ G 8 (dg Q2)), (stp, .inr (8, [.ref a4])), (a4, aJ G 8 (dg T)), (v, .inr (5, [.ref v1, .ref v2, .int side, .long fac, .ref v3])), (v1, .inr (8, [.ref c1])), (c1, aJ G 8 (dg P)), (v2, .inr (8, [.ref c2])), (c2, aJ G 8 (dg Q2)), (bl, .inr (8, [.ref a5])), (a5, aJ G 8 (dg B))]
        refine j_if_lt (tgt := 100) X dX6_rounded_85 (by decide) (fun c_85 => ?_) (fun c_85 => ?_)
        · skip
          rw [Int32.lt_iff_toInt_lt, iT0] at c_85
          refine j_aload_n X dX6_rounded_100 rfl 0 rfl ?_
          refine j_get (v := .ref rr) X dX6_rounded_101 0 rfl 2 rfl in_X6_rounded_X6 (by decide) fl_X6_rounded_24 rfl ?_
          refine j_get (v := .ref w1) X dX6_rounded_104 5 rfl 0 rfl in_X6_rounded_X5 (by decide) fl_X6_rounded_31 rfl ?_
          refine j_aload_n X dX6_rounded_107 rfl 0 rfl ?_
          refine j_get (v := .ref stp) X dX6_rounded_108 0 rfl 3 rfl in_X6_rounded_X6 (by decide) fl_X6_rounded_28 rfl ?_
          refine j_callV X dX6_rounded_111 (c_X9_add l G w1 a1 stp a4 (P1 - T) T) gX6_rounded_X9_add rfl hy_X9_add_V ⟨Nat.le_of_ble_eq_true rfl, Nat.le_of_ble_eq_true rfl⟩ 0 rfl rfl [6, 7, 10, 11] rfl (by decide) rfl rfl (Nat.le_of_ble_eq_true rfl) ⟨Nat.le_of_ble_eq_true rfl, Nat.le_of_ble_eq_true rfl⟩ ?_
          rintro _ ⟨⟩ rfl
          change J p l e rm_X6_rounded s m args below meth c Q G A 7 0 0 114 [(0, .ref o), (1, .ref v), (2, .ref bl), (3, .int 0), (4, .long r), (6, .int t)] [] [(o, .inr (6, [.ref s1, .ref s2, .ref rr, .ref stp])), (s1, .inr (8, [.ref b1])), (b1, aJ G 8 g_1), (s2, .inr (8, [.ref b2])), (b2, aJ G 8 g_2), (rr, .inr (5, [.ref w1, .ref w2, .int side, .long fac, .ref w3])), (w1, .inr (8, [.ref a1])), (a1, aJ G 8 (dg ((P1 - T) + T))), (w2, .inr (8, [.ref a2])), (a2, aJ G 8 (dg Q2)), (stp, .inr (8, [.ref a4])), (a4, aJ G 8 (dg T)), (v, .inr (5, [.ref v1, .ref v2, .int side, .long fac, .ref v3])), (v1, .inr (8, [.ref c1])), (c1, aJ G 8 (dg P)), (v2, .inr (8, [.ref c2])), (c2, aJ G 8 (dg Q2)), (bl, .inr (8, [.ref a5])), (a5, aJ G 8 (dg B))]
          refine j_aload_n X dX6_rounded_114 rfl 0 rfl ?_
          refine j_get (v := .ref stp) X dX6_rounded_115 0 rfl 3 rfl in_X6_rounded_X6 (by decide) fl_X6_rounded_28 rfl ?_
          refine j_callV X dX6_rounded_118 (c_X9_halve l G stp a4 T ⟨by omega, by omega⟩) gX6_rounded_X9_halve rfl hy_X9_halve_V ⟨Nat.le_of_ble_eq_true rfl, Nat.le_of_ble_eq_true rfl⟩ 0 rfl rfl [10, 11] rfl (by decide) rfl rfl (Nat.le_of_ble_eq_true rfl) ⟨Nat.le_of_ble_eq_true rfl, Nat.le_of_ble_eq_true rfl⟩ ?_
          rintro _ ⟨⟩ rfl
          change J p l e rm_X6_rounded s m args below meth c Q G A 7 0 0 121 [(0, .ref o), (1, .ref v), (2, .ref bl), (3, .int 0), (4, .long r), (6, .int t)] [] [(o, .inr (6, [.ref s1, .ref s2, .ref rr, .ref stp])), (s1, .inr (8, [.ref b1])), (b1, aJ G 8 g_1), (s2, .inr (8, [.ref b2])), (b2, aJ G 8 g_2), (rr, .inr (5, [.ref w1, .ref w2, .int side, .long fac, .ref w3])), (w1, .inr (8, [.ref a1])), (a1, aJ G 8 (dg ((P1 - T) + T))), (w2, .inr (8, [.ref a2])), (a2, aJ G 8 (dg Q2)), (stp, .inr (8, [.ref a4])), (a4, aJ G 8 (dg (T / 2))), (v, .inr (5, [.ref v1, .ref v2, .int side, .long fac, .ref v3])), (v1, .inr (8, [.ref c1])), (c1, aJ G 8 (dg P)), (v2, .inr (8, [.ref c2])), (c2, aJ G 8 (dg Q2)), (bl, .inr (8, [.ref a5])), (a5, aJ G 8 (dg B))]
          obtain ⟨x_3, ex_3⟩ : ∃ y9 : Int32, y9 = t + (-1) := ⟨_, rfl⟩
          refine j_iinc (v := x_3) (L' := [(6, .int x_3), (0, .ref o), (1, .ref v), (2, .ref bl), (3, .int 0), (4, .long r)]) X dX6_rounded_121 5 rfl (by rw [ex_3]; rfl) (by decide) rfl ?_
          refine j_goto (tgt := 58) X dX6_rounded_124 (by decide) ?_
          refine j_sub [1, 2, 3, 4, 5, 0] rfl ?_
          exact ih k x_3 r ((P1 - T) + T) (T / 2) g_1 g_2 (by omega) (by rw [x_dec ht (by omega) ex_3]; omega) (by rw [hT1]) (by rw [Int.sub_add_cancel]; exact hP) (by rw [Int.sub_add_cancel]; exact hl) (rd_lh hT1 c_85) (rd_lr hrr) (by omega)
        · skip
          rw [Int32.lt_iff_toInt_lt, iT0, Int.not_lt] at c_85
          refine j_lload X dX6_rounded_88 4 rfl ?_
          refine j_lconst (v := 1) X dX6_rounded_90 rfl ?_
          refine j_iload X dX6_rounded_91 5 rfl ?_
          obtain ⟨x_4, ex_4⟩ : ∃ z9 : Int64, 1 <<< (t.toInt64 &&& 63) = z9 := ⟨_, rfl⟩
          refine j_lshl (v := x_4) X dX6_rounded_93 ex_4 ?_
          refine j_ladd X dX6_rounded_94 ?_
          refine j_topl (fun x_5 ex_5 => ?_)
          refine j_lstore (L' := [(4, .long x_5), (0, .ref o), (1, .ref v), (2, .ref bl), (3, .int 0), (6, .int t)]) X dX6_rounded_95 (by decide) rfl ?_
          refine j_goto (tgt := 114) X dX6_rounded_97 (by decide) ?_
          refine j_aload_n X dX6_rounded_114 rfl 1 rfl ?_
          refine j_get (v := .ref stp) X dX6_rounded_115 0 rfl 3 rfl in_X6_rounded_X6 (by decide) fl_X6_rounded_28 rfl ?_
          refine j_callV X dX6_rounded_118 (c_X9_halve l G stp a4 T ⟨by omega, by omega⟩) gX6_rounded_X9_halve rfl hy_X9_halve_V ⟨Nat.le_of_ble_eq_true rfl, Nat.le_of_ble_eq_true rfl⟩ 0 rfl rfl [10, 11] rfl (by decide) rfl rfl (Nat.le_of_ble_eq_true rfl) ⟨Nat.le_of_ble_eq_true rfl, Nat.le_of_ble_eq_true rfl⟩ ?_
          rintro _ ⟨⟩ rfl
          change J p l e rm_X6_rounded s m args below meth c Q G A 7 0 0 121 [(4, .long x_5), (0, .ref o), (1, .ref v), (2, .ref bl), (3, .int 0), (6, .int t)] [] [(o, .inr (6, [.ref s1, .ref s2, .ref rr, .ref stp])), (s1, .inr (8, [.ref b1])), (b1, aJ G 8 g_1), (s2, .inr (8, [.ref b2])), (b2, aJ G 8 g_2), (rr, .inr (5, [.ref w1, .ref w2, .int side, .long fac, .ref w3])), (w1, .inr (8, [.ref a1])), (a1, aJ G 8 (dg (P1 - T))), (w2, .inr (8, [.ref a2])), (a2, aJ G 8 (dg Q2)), (stp, .inr (8, [.ref a4])), (a4, aJ G 8 (dg (T / 2))), (v, .inr (5, [.ref v1, .ref v2, .int side, .long fac, .ref v3])), (v1, .inr (8, [.ref c1])), (c1, aJ G 8 (dg P)), (v2, .inr (8, [.ref c2])), (c2, aJ G 8 (dg Q2)), (bl, .inr (8, [.ref a5])), (a5, aJ G 8 (dg B))]
          obtain ⟨x_6, ex_6⟩ : ∃ y9 : Int32, y9 = t + (-1) := ⟨_, rfl⟩
          refine j_iinc (v := x_6) (L' := [(6, .int x_6), (4, .long x_5), (0, .ref o), (1, .ref v), (2, .ref bl), (3, .int 0)]) X dX6_rounded_121 5 rfl (by rw [ex_6]; rfl) (by decide) rfl ?_
          refine j_goto (tgt := 58) X dX6_rounded_124 (by decide) ?_
          refine j_sub [2, 3, 4, 5, 1, 0] rfl ?_
          exact ih k x_6 x_5 (P1 - T) (T / 2) g_1 g_2 (by omega) (by rw [x_dec ht (by omega) ex_6]; omega) (by rw [hT1]) (rd_uP hP hT1 (rd_x (by omega) hrr (rd_sh ht1 (by omega) ex_4) ex_5)) c_85 (rd_uh hT1 hh) (rd_ur hrr (rd_x (by omega) hrr (rd_sh ht1 (by omega) ex_4) ex_5)) (by omega)
  refine j_sub [2, 3, 4, 5, 1, 0] rfl ?_
  exact loop 44 43 42 (-4398046511104) (P + (B * 2 ^ 42)) (B * 2 ^ 42) f1 f2 (by omega) rfl (rd_0 B 42) (by rw [show ((-4398046511104) : Int64).toInt = -4398046511104 from rfl, Int.neg_mul, Int.sub_neg, Int.mul_comm 4398046511104]; rfl) hlo (by rw [show (2 : Int) ^ 43 = 8796093022208 from rfl]; exact hhi) (by rw [show ((-4398046511104) : Int64).toInt = -4398046511104 from rfl, show (2 : Int) ^ 43 = 8796093022208 from rfl]; decide) (by omega)

theorem hy_X6_rounded_V : yX6_rounded.cls = RX6 ∧ yX6_rounded.cls ≠ "java/lang/invoke/MethodHandle" ∧ yX6_rounded.cls ≠ "java/lang/invoke/VarHandle" ∧ (parseMethodDescriptor yX6_rounded.desc).map (fun d => d.parameters.length) = some 3 := by decide +kernel
set_option maxHeartbeats 4000000 in
set_option maxRecDepth 100000 in
theorem c_X6_rounded_1 (l : Launch) (G : jG) (o s1 b1 s2 b2 rr stp w1 a1 w2 a2 w3 a4 v v1 c1 v2 c2 v3 bl a5 : Nat) (f1 f2 h1 h2 h3 : Nat → Int64) (si0 side : Int32) (fa0 fac : Int64) (P Q2 B : Int) (hB : 0 ≤ B) (hB2 : B ≤ 38685626227668133590597632) (hPP : -170141183460469231731687303715884105727 ≤ P ∧ P ≤ 170141183460469231731687303715884105727) (hQ : 0 ≤ Q2 ∧ Q2 < 115792089237316195423570985008687907853269984665640564039457584007913129639936) (hlo : 0 ≤ (cs (P + B * 2 ^ 42) side Q2).toInt) (hhi : (cs (P + B * 2 ^ 42 - B * 8796093022208) side Q2).toInt < 0) : Ct l yX6_rounded wsX6_rounded rm_X6_rounded G [.ref o, .ref v, .ref bl, .int 1] [(o, .inr (6, [.ref s1, .ref s2, .ref rr, .ref stp])), (s1, .inr (8, [.ref b1])), (b1, aJ G 8 f1), (s2, .inr (8, [.ref b2])), (b2, aJ G 8 f2), (rr, .inr (5, [.ref w1, .ref w2, .int si0, .long fa0, .ref w3])), (w1, .inr (8, [.ref a1])), (a1, aJ G 8 h1), (w2, .inr (8, [.ref a2])), (a2, aJ G 8 h2), (stp, .inr (8, [.ref a4])), (a4, aJ G 8 h3), (v, .inr (5, [.ref v1, .ref v2, .int side, .long fac, .ref v3])), (v1, .inr (8, [.ref c1])), (c1, aJ G 8 (dg P)), (v2, .inr (8, [.ref c2])), (c2, aJ G 8 (dg Q2)), (bl, .inr (8, [.ref a5])), (a5, aJ G 8 (dg B))] (S := (Nat → Int64) × (Nat → Int64) × Int × Int) (fun x _ => ∃ (r : Int64) (F : Int), x = some (.long r) ∧ rdR P side Q2 B F ∧ ((cs (P - F * B) side Q2 = 0 ∧ r.toInt = F) ∨ (¬ cs (P - F * B) side Q2 = 0 ∧ r.toInt = F + 1))) (fun u => [(o, .inr (6, [.ref s1, .ref s2, .ref rr, .ref stp])), (s1, .inr (8, [.ref b1])), (b1, aJ G 8 u.1), (s2, .inr (8, [.ref b2])), (b2, aJ G 8 u.2.1), (rr, .inr (5, [.ref w1, .ref w2, .int side, .long fac, .ref w3])), (w1, .inr (8, [.ref a1])), (a1, aJ G 8 (dg u.2.2.1)), (w2, .inr (8, [.ref a2])), (a2, aJ G 8 (dg Q2)), (stp, .inr (8, [.ref a4])), (a4, aJ G 8 (dg u.2.2.2)), (v, .inr (5, [.ref v1, .ref v2, .int side, .long fac, .ref v3])), (v1, .inr (8, [.ref c1])), (c1, aJ G 8 (dg P)), (v2, .inr (8, [.ref c2])), (c2, aJ G 8 (dg Q2)), (bl, .inr (8, [.ref a5])), (a5, aJ G 8 (dg B))]) (fun _ => []) := by
  refine c_intro (cc := cX6_rounded) (maxL := 7) (ret := (some .long)) (by decide) rfl (Nat.le_of_ble_eq_true rfl) (fun _ => by simp only [List.map_cons, List.map_nil]) ?_
  intro p e s m args below meth c Q A X hr hin E
  change J p l e rm_X6_rounded s m args below meth c Q G A 7 0 0 0 [(0, .ref o), (1, .ref v), (2, .ref bl), (3, .int 1)] [] [(o, .inr (6, [.ref s1, .ref s2, .ref rr, .ref stp])), (s1, .inr (8, [.ref b1])), (b1, aJ G 8 f1), (s2, .inr (8, [.ref b2])), (b2, aJ G 8 f2), (rr, .inr (5, [.ref w1, .ref w2, .int si0, .long fa0, .ref w3])), (w1, .inr (8, [.ref a1])), (a1, aJ G 8 h1), (w2, .inr (8, [.ref a2])), (a2, aJ G 8 h2), (stp, .inr (8, [.ref a4])), (a4, aJ G 8 h3), (v, .inr (5, [.ref v1, .ref v2, .int side, .long fac, .ref v3])), (v1, .inr (8, [.ref c1])), (c1, aJ G 8 (dg P)), (v2, .inr (8, [.ref c2])), (c2, aJ G 8 (dg Q2)), (bl, .inr (8, [.ref a5])), (a5, aJ G 8 (dg B))]
  refine j_aload_n X dX6_rounded_0 rfl 0 rfl ?_
  refine j_get (v := .ref rr) X dX6_rounded_1 0 rfl 2 rfl in_X6_rounded_X6 (by decide) fl_X6_rounded_24 rfl ?_
  refine j_aload_n X dX6_rounded_4 rfl 1 rfl ?_
  refine j_callV X dX6_rounded_5 (c_X5_setTo l G rr w1 a1 w2 a2 w3 v v1 c1 v2 c2 v3 h1 h2 si0 side fa0 fac P Q2) gX6_rounded_X5_setTo rfl hy_X5_setTo_V ⟨Nat.le_of_ble_eq_true rfl, Nat.le_of_ble_eq_true rfl⟩ 0 rfl rfl [5, 6, 7, 8, 9, 12, 13, 14, 15, 16] rfl (by decide) rfl rfl (Nat.le_of_ble_eq_true rfl) ⟨Nat.le_of_ble_eq_true rfl, Nat.le_of_ble_eq_true rfl⟩ ?_
  rintro _ ⟨⟩ rfl
  change J p l e rm_X6_rounded s m args below meth c Q G A 7 0 0 8 [(0, .ref o), (1, .ref v), (2, .ref bl), (3, .int 1)] [] [(o, .inr (6, [.ref s1, .ref s2, .ref rr, .ref stp])), (s1, .inr (8, [.ref b1])), (b1, aJ G 8 f1), (s2, .inr (8, [.ref b2])), (b2, aJ G 8 f2), (rr, .inr (5, [.ref w1, .ref w2, .int side, .long fac, .ref w3])), (w1, .inr (8, [.ref a1])), (a1, aJ G 8 (dg P)), (w2, .inr (8, [.ref a2])), (a2, aJ G 8 (dg Q2)), (stp, .inr (8, [.ref a4])), (a4, aJ G 8 h3), (v, .inr (5, [.ref v1, .ref v2, .int side, .long fac, .ref v3])), (v1, .inr (8, [.ref c1])), (c1, aJ G 8 (dg P)), (v2, .inr (8, [.ref c2])), (c2, aJ G 8 (dg Q2)), (bl, .inr (8, [.ref a5])), (a5, aJ G 8 (dg B))]
  refine j_aload_n X dX6_rounded_8 rfl 0 rfl ?_
  refine j_get (v := .ref stp) X dX6_rounded_9 0 rfl 3 rfl in_X6_rounded_X6 (by decide) fl_X6_rounded_28 rfl ?_
  refine j_aload_n X dX6_rounded_12 rfl 2 rfl ?_
  refine j_callV X dX6_rounded_13 (c_X9_setTo_ l G stp a4 bl a5 h3 B) gX6_rounded_X9_setTo_ rfl hy_X9_setTo__V ⟨Nat.le_of_ble_eq_true rfl, Nat.le_of_ble_eq_true rfl⟩ 0 rfl rfl [10, 11, 17, 18] rfl (by decide) rfl rfl (Nat.le_of_ble_eq_true rfl) ⟨Nat.le_of_ble_eq_true rfl, Nat.le_of_ble_eq_true rfl⟩ ?_
  rintro _ ⟨⟩ rfl
  change J p l e rm_X6_rounded s m args below meth c Q G A 7 0 0 16 [(0, .ref o), (1, .ref v), (2, .ref bl), (3, .int 1)] [] [(o, .inr (6, [.ref s1, .ref s2, .ref rr, .ref stp])), (s1, .inr (8, [.ref b1])), (b1, aJ G 8 f1), (s2, .inr (8, [.ref b2])), (b2, aJ G 8 f2), (rr, .inr (5, [.ref w1, .ref w2, .int side, .long fac, .ref w3])), (w1, .inr (8, [.ref a1])), (a1, aJ G 8 (dg P)), (w2, .inr (8, [.ref a2])), (a2, aJ G 8 (dg Q2)), (stp, .inr (8, [.ref a4])), (a4, aJ G 8 (dg B)), (v, .inr (5, [.ref v1, .ref v2, .int side, .long fac, .ref v3])), (v1, .inr (8, [.ref c1])), (c1, aJ G 8 (dg P)), (v2, .inr (8, [.ref c2])), (c2, aJ G 8 (dg Q2)), (bl, .inr (8, [.ref a5])), (a5, aJ G 8 (dg B))]
  refine j_iload_n X dX6_rounded_16 rfl 3 rfl ?_
  refine j_iconst (v := 2) X dX6_rounded_17 rfl ?_
  refine j_icmp_ne (tgt := 26) X dX6_rounded_18 (by decide) (fun _ => ?_) (fun c9 => absurd c9 (by decide))
  refine j_aload_n X dX6_rounded_26 rfl 0 rfl ?_
  refine j_get (v := .ref stp) X dX6_rounded_27 0 rfl 3 rfl in_X6_rounded_X6 (by decide) fl_X6_rounded_28 rfl ?_
  refine j_bipush (v := 42) X dX6_rounded_30 (by decide) ?_
  refine j_callV X dX6_rounded_32 (c_X9_shiftLeft l G stp a4 B 42 42 rfl (by decide)) gX6_rounded_X9_shiftLeft rfl hy_X9_shiftLeft_V ⟨Nat.le_of_ble_eq_true rfl, Nat.le_of_ble_eq_true rfl⟩ 0 rfl rfl [10, 11] rfl (by decide) rfl rfl (Nat.le_of_ble_eq_true rfl) ⟨Nat.le_of_ble_eq_true rfl, Nat.le_of_ble_eq_true rfl⟩ ?_
  rintro _ ⟨⟩ rfl
  change J p l e rm_X6_rounded s m args below meth c Q G A 7 0 0 35 [(0, .ref o), (1, .ref v), (2, .ref bl), (3, .int 1)] [] [(o, .inr (6, [.ref s1, .ref s2, .ref rr, .ref stp])), (s1, .inr (8, [.ref b1])), (b1, aJ G 8 f1), (s2, .inr (8, [.ref b2])), (b2, aJ G 8 f2), (rr, .inr (5, [.ref w1, .ref w2, .int side, .long fac, .ref w3])), (w1, .inr (8, [.ref a1])), (a1, aJ G 8 (dg P)), (w2, .inr (8, [.ref a2])), (a2, aJ G 8 (dg Q2)), (stp, .inr (8, [.ref a4])), (a4, aJ G 8 (dg (B * 2 ^ 42))), (v, .inr (5, [.ref v1, .ref v2, .int side, .long fac, .ref v3])), (v1, .inr (8, [.ref c1])), (c1, aJ G 8 (dg P)), (v2, .inr (8, [.ref c2])), (c2, aJ G 8 (dg Q2)), (bl, .inr (8, [.ref a5])), (a5, aJ G 8 (dg B))]
  refine j_aload_n X dX6_rounded_35 rfl 0 rfl ?_
  refine j_get (v := .ref rr) X dX6_rounded_36 0 rfl 2 rfl in_X6_rounded_X6 (by decide) fl_X6_rounded_24 rfl ?_
  refine j_get (v := .ref w1) X dX6_rounded_39 5 rfl 0 rfl in_X6_rounded_X5 (by decide) fl_X6_rounded_31 rfl ?_
  refine j_aload_n X dX6_rounded_42 rfl 0 rfl ?_
  refine j_get (v := .ref stp) X dX6_rounded_43 0 rfl 3 rfl in_X6_rounded_X6 (by decide) fl_X6_rounded_28 rfl ?_
  refine j_callV X dX6_rounded_46 (c_X9_add l G w1 a1 stp a4 P (B * 2 ^ 42)) gX6_rounded_X9_add rfl hy_X9_add_V ⟨Nat.le_of_ble_eq_true rfl, Nat.le_of_ble_eq_true rfl⟩ 0 rfl rfl [6, 7, 10, 11] rfl (by decide) rfl rfl (Nat.le_of_ble_eq_true rfl) ⟨Nat.le_of_ble_eq_true rfl, Nat.le_of_ble_eq_true rfl⟩ ?_
  rintro _ ⟨⟩ rfl
  change J p l e rm_X6_rounded s m args below meth c Q G A 7 0 0 49 [(0, .ref o), (1, .ref v), (2, .ref bl), (3, .int 1)] [] [(o, .inr (6, [.ref s1, .ref s2, .ref rr, .ref stp])), (s1, .inr (8, [.ref b1])), (b1, aJ G 8 f1), (s2, .inr (8, [.ref b2])), (b2, aJ G 8 f2), (rr, .inr (5, [.ref w1, .ref w2, .int side, .long fac, .ref w3])), (w1, .inr (8, [.ref a1])), (a1, aJ G 8 (dg (P + (B * 2 ^ 42)))), (w2, .inr (8, [.ref a2])), (a2, aJ G 8 (dg Q2)), (stp, .inr (8, [.ref a4])), (a4, aJ G 8 (dg (B * 2 ^ 42))), (v, .inr (5, [.ref v1, .ref v2, .int side, .long fac, .ref v3])), (v1, .inr (8, [.ref c1])), (c1, aJ G 8 (dg P)), (v2, .inr (8, [.ref c2])), (c2, aJ G 8 (dg Q2)), (bl, .inr (8, [.ref a5])), (a5, aJ G 8 (dg B))]
  refine j_ldc2 (v := (-4398046511104)) X dX6_rounded_49 k_X6_rounded_73 ?_
  refine j_lstore (L' := [(4, .long (-4398046511104)), (0, .ref o), (1, .ref v), (2, .ref bl), (3, .int 1)]) X dX6_rounded_52 (by decide) rfl ?_
  refine j_bipush (v := 42) X dX6_rounded_54 (by decide) ?_
  refine j_istore (L' := [(6, .int 42), (4, .long (-4398046511104)), (0, .ref o), (1, .ref v), (2, .ref bl), (3, .int 1)]) X dX6_rounded_56 (by decide) rfl ?_
  have loop : ∀ (d : Nat) (k : Nat) (t : Int32) (r : Int64) (P1 T : Int) (g1 g2 : Nat → Int64) (hk : k ≤ 43) (ht : t.toInt = (k : Int) - 1) (hT : T = B * 2 ^ k / 2) (hP : P1 = P - r.toInt * B) (hl : 0 ≤ (cs P1 side Q2).toInt) (hh : (cs (P1 - B * 2 ^ k) side Q2).toInt < 0) (hrr : -4398046511104 ≤ r.toInt ∧ r.toInt + 2 ^ k ≤ 4398046511104), k < d → J p l e rm_X6_rounded s m args below meth c Q G A 7 0 0 58 [(0, .ref o), (1, .ref v), (2, .ref bl), (3, .int 1), (4, .long r), (6, .int t)] [] [(o, .inr (6, [.ref s1, .ref s2, .ref rr, .ref stp])), (s1, .inr (8, [.ref b1])), (b1, aJ G 8 g1), (s2, .inr (8, [.ref b2])), (b2, aJ G 8 g2), (rr, .inr (5, [.ref w1, .ref w2, .int side, .long fac, .ref w3])), (w1, .inr (8, [.ref a1])), (a1, aJ G 8 (dg P1)), (w2, .inr (8, [.ref a2])), (a2, aJ G 8 (dg Q2)), (stp, .inr (8, [.ref a4])), (a4, aJ G 8 (dg T)), (v, .inr (5, [.ref v1, .ref v2, .int side, .long fac, .ref v3])), (v1, .inr (8, [.ref c1])), (c1, aJ G 8 (dg P)), (v2, .inr (8, [.ref c2])), (c2, aJ G 8 (dg Q2)), (bl, .inr (8, [.ref a5])), (a5, aJ G 8 (dg B))] := by
    intro d
    induction d with
    | zero => intro k t r P1 T g1 g2 hk ht hT hP hl hh hrr hd0; exact absurd hd0 (Nat.not_lt_zero _)
    | succ d ih =>
      intro k t r P1 T g1 g2 hk ht hT hP hl hh hrr hd0
      refine j_iload X dX6_rounded_58 5 rfl ?_
      refine j_if_lt (tgt := 127) X dX6_rounded_60 (by decide) (fun c_60 => ?_) (fun c_60 => ?_)
      · skip
        first | simp only [cmp_eq, cmp_lt, cmp_ge, cmp_gt, cmp_le, lT0, lT1] at c_60 | simp only [Int32.le_iff_toInt_le, Int32.lt_iff_toInt_lt, ← Int32.toInt_inj, iT0, iT1, iT2, iT3, iT4, iT5, iT6, iT7, iT8, iT9, iT10, iT11, iT12, iT13, iT14, iT15, iT16, iT19, iT20, iT31, iT32, iT42, iT64, iT200, iT318, iT319, iT1000, iTm1, iTm2] at c_60
        have hk0 : k = 0 := by omega
        subst hk0
        refine j_iload_n X dX6_rounded_127 rfl 3 rfl ?_
        refine j_iconst (v := 1) X dX6_rounded_128 rfl ?_
        refine j_icmp_ne (tgt := 150) X dX6_rounded_129 (by decide) (fun c9 => absurd c9 (by decide)) (fun _ => ?_)
        refine j_aload_n X dX6_rounded_132 rfl 0 rfl ?_
        refine j_aload_n X dX6_rounded_133 rfl 0 rfl ?_
        refine j_get (v := .ref rr) X dX6_rounded_134 0 rfl 2 rfl in_X6_rounded_X6 (by decide) fl_X6_rounded_24 rfl ?_
        refine j_callV X dX6_rounded_137 (c_X6_sign l G o s1 b1 s2 b2 rr stp rr w1 a1 w2 a2 w3 g1 g2 side fac P1 Q2 (rd_b0 hB hB2 hPP hP hrr) hQ) gX6_rounded_X6_sign rfl hy_X6_sign_V ⟨Nat.le_of_ble_eq_true rfl, Nat.le_of_ble_eq_true rfl⟩ 0 rfl rfl [0, 1, 2, 3, 4, 5, 6, 7, 8, 9] rfl (by decide) rfl rfl (Nat.le_of_ble_eq_true rfl) ⟨Nat.le_of_ble_eq_true rfl, Nat.le_of_ble_eq_true rfl⟩ ?_
        rintro _ ⟨g_1, g_2⟩ rfl
        change J p l e rm_X6_rounded s m args below meth c Q G A 7 0 0 140 [(0, .ref o), (1, .ref v), (2, .ref bl), (3, .int 1), (4, .long r), (6, .int t)] [.int (cs P1 side Q2)] [(o, .inr (6, [.ref s1, .ref s2, .ref rr, .ref stp])), (s1, .inr (8, [.ref b1])), (b1, aJ G 8 g_1), (s2, .inr (8, [.ref b2])), (b2, aJ G 8 g_2), (rr, .inr (5, [.ref w1, .ref w2, .int side, .long fac, .ref w3])), (w1, .inr (8, [.ref a1])), (a1, aJ G 8 (dg P1)), (w2, .inr (8, [.ref a2])), (a2, aJ G 8 (dg Q2)), (stp, .inr (8, [.ref a4])), (a4, aJ G 8 (dg T)), (v, .inr (5, [.ref v1, .ref v2, .int side, .long fac, .ref v3])), (v1, .inr (8, [.ref c1])), (c1, aJ G 8 (dg P)), (v2, .inr (8, [.ref c2])), (c2, aJ G 8 (dg Q2)), (bl, .inr (8, [.ref a5])), (a5, aJ G 8 (dg B))]
        refine j_if_eq (tgt := 150) X dX6_rounded_140 (by decide) (fun c_140 => ?_) (fun c_140 => ?_)
        · skip
          refine j_lload X dX6_rounded_150 4 rfl ?_
          exact E.2.2 152 _ r (g_1, g_2, P1, T) dX6_rounded_152 (⟨_, r.toInt, rfl, rd_end hP hl hh, Or.inl ⟨by rw [← hP]; exact c_140, rfl⟩⟩) hr
        · skip
          refine j_lload X dX6_rounded_143 4 rfl ?_
          refine j_lconst (v := 1) X dX6_rounded_145 rfl ?_
          refine j_ladd X dX6_rounded_146 ?_
          refine j_goto (tgt := 152) X dX6_rounded_147 (by decide) ?_
          exact E.2.2 152 _ (r + 1) (g_1, g_2, P1, T) dX6_rounded_152 (⟨_, r.toInt, rfl, rd_end hP hl hh, Or.inr ⟨by rw [← hP]; exact c_140, rd_1 hrr⟩⟩) hr
      · skip
        first | simp only [cmp_eq, cmp_lt, cmp_ge, cmp_gt, cmp_le, lT0, lT1] at c_60 | simp only [Int32.le_iff_toInt_le, Int32.lt_iff_toInt_lt, ← Int32.toInt_inj, iT0, iT1, iT2, iT3, iT4, iT5, iT6, iT7, iT8, iT9, iT10, iT11, iT12, iT13, iT14, iT15, iT16, iT19, iT20, iT31, iT32, iT42, iT64, iT200, iT318, iT319, iT1000, iTm1, iTm2] at c_60
        obtain ⟨k, rfl⟩ : ∃ k1, k = k1 + 1 := ⟨k - 1, by omega⟩
        have hT1 := rd_T hT
        have ht1 : t.toInt = (k : Int) := by omega
        have hbT := rd_B hB hB2 (by omega) hT1
        refine j_aload_n X dX6_rounded_63 rfl 0 rfl ?_
        refine j_get (v := .ref rr) X dX6_rounded_64 0 rfl 2 rfl in_X6_rounded_X6 (by decide) fl_X6_rounded_24 rfl ?_
        refine j_get (v := .ref w1) X dX6_rounded_67 5 rfl 0 rfl in_X6_rounded_X5 (by decide) fl_X6_rounded_31 rfl ?_
        refine j_aload_n X dX6_rounded_70 rfl 0 rfl ?_
        refine j_get (v := .ref stp) X dX6_rounded_71 0 rfl 3 rfl in_X6_rounded_X6 (by decide) fl_X6_rounded_28 rfl ?_
        refine j_callV X dX6_rounded_74 (c_X9_subtract l G w1 a1 stp a4 P1 T) gX6_rounded_X9_subtract rfl hy_X9_subtract_V ⟨Nat.le_of_ble_eq_true rfl, Nat.le_of_ble_eq_true rfl⟩ 0 rfl rfl [6, 7, 10, 11] rfl (by decide) rfl rfl (Nat.le_of_ble_eq_true rfl) ⟨Nat.le_of_ble_eq_true rfl, Nat.le_of_ble_eq_true rfl⟩ ?_
        rintro _ ⟨⟩ rfl
        change J p l e rm_X6_rounded s m args below meth c Q G A 7 0 0 77 [(0, .ref o), (1, .ref v), (2, .ref bl), (3, .int 1), (4, .long r), (6, .int t)] [] [(o, .inr (6, [.ref s1, .ref s2, .ref rr, .ref stp])), (s1, .inr (8, [.ref b1])), (b1, aJ G 8 g1), (s2, .inr (8, [.ref b2])), (b2, aJ G 8 g2), (rr, .inr (5, [.ref w1, .ref w2, .int side, .long fac, .ref w3])), (w1, .inr (8, [.ref a1])), (a1, aJ G 8 (dg (P1 - T))), (w2, .inr (8, [.ref a2])), (a2, aJ G 8 (dg Q2)), (stp, .inr (8, [.ref a4])), (a4, aJ G 8 (dg T)), (v, .inr (5, [.ref v1, .ref v2, .int side, .long fac, .ref v3])), (v1, .inr (8, [.ref c1])), (c1, aJ G 8 (dg P)), (v2, .inr (8, [.ref c2])), (c2, aJ G 8 (dg Q2)), (bl, .inr (8, [.ref a5])), (a5, aJ G 8 (dg B))]
        refine j_aload_n X dX6_rounded_77 rfl 0 rfl ?_
        refine j_aload_n X dX6_rounded_78 rfl 0 rfl ?_
        refine j_get (v := .ref rr) X dX6_rounded_79 0 rfl 2 rfl in_X6_rounded_X6 (by decide) fl_X6_rounded_24 rfl ?_
        refine j_callV X dX6_rounded_82 (c_X6_sign l G o s1 b1 s2 b2 rr stp rr w1 a1 w2 a2 w3 g1 g2 side fac (P1 - T) Q2 (rd_bP hB hB2 hPP hP hT1 hrr) hQ) gX6_rounded_X6_sign rfl hy_X6_sign_V ⟨Nat.le_of_ble_eq_true rfl, Nat.le_of_ble_eq_true rfl⟩ 0 rfl rfl [0, 1, 2, 3, 4, 5, 6, 7, 8, 9] rfl (by decide) rfl rfl (Nat.le_of_ble_eq_true rfl) ⟨Nat.le_of_ble_eq_true rfl, Nat.le_of_ble_eq_true rfl⟩ ?_
        rintro _ ⟨g_3, g_4⟩ rfl
        change J p l e rm_X6_rounded s m args below meth c Q G A 7 0 0 85 [(0, .ref o), (1, .ref v), (2, .ref bl), (3, .int 1), (4, .long r), (6, .int t)] [.int (cs (P1 - T) side Q2)] [(o, .inr (6, [.ref s1, .ref s2, .ref rr, .ref stp])), (s1, .inr (8, [.ref b1])), (b1, aJ G 8 g_3), (s2, .inr (8, [.ref b2])), (b2, aJ G 8 g_4), (rr, .inr (5, [.ref w1, .ref w2, .int side, .long fac, .ref w3])), (w1, .inr (8, [.ref a1])), (a1, aJ G 8 (dg (P1 - T))), (w2, .inr (8, [.ref a2])), (a2, aJ G 8 (dg Q2)), (stp, .inr (8, [.ref a4])), (a4, aJ G 8 (dg T)), (v, .inr (5, [.ref v1, .ref v2, .int side, .long fac, .ref v3])), (v1, .inr (8, [.ref c1])), (c1, aJ G 8 (dg P)), (v2, .inr (8, [.ref c2])), (c2, aJ G 8 (dg Q2)), (bl, .inr (8, [.ref a5])), (a5, aJ G 8 (dg B))]
        refine j_if_lt (tgt := 100) X dX6_rounded_85 (by decide) (fun c_85 => ?_) (fun c_85 => ?_)
        · skip
          rw [Int32.lt_iff_toInt_lt, iT0] at c_85
          refine j_aload_n X dX6_rounded_100 rfl 0 rfl ?_
          refine j_get (v := .ref rr) X dX6_rounded_101 0 rfl 2 rfl in_X6_rounded_X6 (by decide) fl_X6_rounded_24 rfl ?_
          refine j_get (v := .ref w1) X dX6_rounded_104 5 rfl 0 rfl in_X6_rounded_X5 (by decide) fl_X6_rounded_31 rfl ?_
          refine j_aload_n X dX6_rounded_107 rfl 0 rfl ?_
          refine j_get (v := .ref stp) X dX6_rounded_108 0 rfl 3 rfl in_X6_rounded_X6 (by decide) fl_X6_rounded_28 rfl ?_
          refine j_callV X dX6_rounded_111 (c_X9_add l G w1 a1 stp a4 (P1 - T) T) gX6_rounded_X9_add rfl hy_X9_add_V ⟨Nat.le_of_ble_eq_true rfl, Nat.le_of_ble_eq_true rfl⟩ 0 rfl rfl [6, 7, 10, 11] rfl (by decide) rfl rfl (Nat.le_of_ble_eq_true rfl) ⟨Nat.le_of_ble_eq_true rfl, Nat.le_of_ble_eq_true rfl⟩ ?_
          rintro _ ⟨⟩ rfl
          change J p l e rm_X6_rounded s m args below meth c Q G A 7 0 0 114 [(0, .ref o), (1, .ref v), (2, .ref bl), (3, .int 1), (4, .long r), (6, .int t)] [] [(o, .inr (6, [.ref s1, .ref s2, .ref rr, .ref stp])), (s1, .inr (8, [.ref b1])), (b1, aJ G 8 g_3), (s2, .inr (8, [.ref b2])), (b2, aJ G 8 g_4), (rr, .inr (5, [.ref w1, .ref w2, .int side, .long fac, .ref w3])), (w1, .inr (8, [.ref a1])), (a1, aJ G 8 (dg ((P1 - T) + T))), (w2, .inr (8, [.ref a2])), (a2, aJ G 8 (dg Q2)), (stp, .inr (8, [.ref a4])), (a4, aJ G 8 (dg T)), (v, .inr (5, [.ref v1, .ref v2, .int side, .long fac, .ref v3])), (v1, .inr (8, [.ref c1])), (c1, aJ G 8 (dg P)), (v2, .inr (8, [.ref c2])), (c2, aJ G 8 (dg Q2)), (bl, .inr (8, [.ref a5])), (a5, aJ G 8 (dg B))]
          refine j_aload_n X dX6_rounded_114 rfl 0 rfl ?_
          refine j_get (v := .ref stp) X dX6_rounded_115 0 rfl 3 rfl in_X6_rounded_X6 (by decide) fl_X6_rounded_28 rfl ?_
          refine j_callV X dX6_rounded_118 (c_X9_halve l G stp a4 T ⟨by omega, by omega⟩) gX6_rounded_X9_halve rfl hy_X9_halve_V ⟨Nat.le_of_ble_eq_true rfl, Nat.le_of_ble_eq_true rfl⟩ 0 rfl rfl [10, 11] rfl (by decide) rfl rfl (Nat.le_of_ble_eq_true rfl) ⟨Nat.le_of_ble_eq_true rfl, Nat.le_of_ble_eq_true rfl⟩ ?_
          rintro _ ⟨⟩ rfl
          change J p l e rm_X6_rounded s m args below meth c Q G A 7 0 0 121 [(0, .ref o), (1, .ref v), (2, .ref bl), (3, .int 1), (4, .long r), (6, .int t)] [] [(o, .inr (6, [.ref s1, .ref s2, .ref rr, .ref stp])), (s1, .inr (8, [.ref b1])), (b1, aJ G 8 g_3), (s2, .inr (8, [.ref b2])), (b2, aJ G 8 g_4), (rr, .inr (5, [.ref w1, .ref w2, .int side, .long fac, .ref w3])), (w1, .inr (8, [.ref a1])), (a1, aJ G 8 (dg ((P1 - T) + T))), (w2, .inr (8, [.ref a2])), (a2, aJ G 8 (dg Q2)), (stp, .inr (8, [.ref a4])), (a4, aJ G 8 (dg (T / 2))), (v, .inr (5, [.ref v1, .ref v2, .int side, .long fac, .ref v3])), (v1, .inr (8, [.ref c1])), (c1, aJ G 8 (dg P)), (v2, .inr (8, [.ref c2])), (c2, aJ G 8 (dg Q2)), (bl, .inr (8, [.ref a5])), (a5, aJ G 8 (dg B))]
          obtain ⟨x_5, ex_5⟩ : ∃ y9 : Int32, y9 = t + (-1) := ⟨_, rfl⟩
          refine j_iinc (v := x_5) (L' := [(6, .int x_5), (0, .ref o), (1, .ref v), (2, .ref bl), (3, .int 1), (4, .long r)]) X dX6_rounded_121 5 rfl (by rw [ex_5]; rfl) (by decide) rfl ?_
          refine j_goto (tgt := 58) X dX6_rounded_124 (by decide) ?_
          refine j_sub [1, 2, 3, 4, 5, 0] rfl ?_
          exact ih k x_5 r ((P1 - T) + T) (T / 2) g_3 g_4 (by omega) (by rw [x_dec ht (by omega) ex_5]; omega) (by rw [hT1]) (by rw [Int.sub_add_cancel]; exact hP) (by rw [Int.sub_add_cancel]; exact hl) (rd_lh hT1 c_85) (rd_lr hrr) (by omega)
        · skip
          rw [Int32.lt_iff_toInt_lt, iT0, Int.not_lt] at c_85
          refine j_lload X dX6_rounded_88 4 rfl ?_
          refine j_lconst (v := 1) X dX6_rounded_90 rfl ?_
          refine j_iload X dX6_rounded_91 5 rfl ?_
          obtain ⟨x_6, ex_6⟩ : ∃ z9 : Int64, 1 <<< (t.toInt64 &&& 63) = z9 := ⟨_, rfl⟩
          refine j_lshl (v := x_6) X dX6_rounded_93 ex_6 ?_
          refine j_ladd X dX6_rounded_94 ?_
          refine j_topl (fun x_7 ex_7 => ?_)
          refine j_lstore (L' := [(4, .long x_7), (0, .ref o), (1, .ref v), (2, .ref bl), (3, .int 1), (6, .int t)]) X dX6_rounded_95 (by decide) rfl ?_
          refine j_goto (tgt := 114) X dX6_rounded_97 (by decide) ?_
          refine j_aload_n X dX6_rounded_114 rfl 1 rfl ?_
          refine j_get (v := .ref stp) X dX6_rounded_115 0 rfl 3 rfl in_X6_rounded_X6 (by decide) fl_X6_rounded_28 rfl ?_
          refine j_callV X dX6_rounded_118 (c_X9_halve l G stp a4 T ⟨by omega, by omega⟩) gX6_rounded_X9_halve rfl hy_X9_halve_V ⟨Nat.le_of_ble_eq_true rfl, Nat.le_of_ble_eq_true rfl⟩ 0 rfl rfl [10, 11] rfl (by decide) rfl rfl (Nat.le_of_ble_eq_true rfl) ⟨Nat.le_of_ble_eq_true rfl, Nat.le_of_ble_eq_true rfl⟩ ?_
          rintro _ ⟨⟩ rfl
          change J p l e rm_X6_rounded s m args below meth c Q G A 7 0 0 121 [(4, .long x_7), (0, .ref o), (1, .ref v), (2, .ref bl), (3, .int 1), (6, .int t)] [] [(o, .inr (6, [.ref s1, .ref s2, .ref rr, .ref stp])), (s1, .inr (8, [.ref b1])), (b1, aJ G 8 g_3), (s2, .inr (8, [.ref b2])), (b2, aJ G 8 g_4), (rr, .inr (5, [.ref w1, .ref w2, .int side, .long fac, .ref w3])), (w1, .inr (8, [.ref a1])), (a1, aJ G 8 (dg (P1 - T))), (w2, .inr (8, [.ref a2])), (a2, aJ G 8 (dg Q2)), (stp, .inr (8, [.ref a4])), (a4, aJ G 8 (dg (T / 2))), (v, .inr (5, [.ref v1, .ref v2, .int side, .long fac, .ref v3])), (v1, .inr (8, [.ref c1])), (c1, aJ G 8 (dg P)), (v2, .inr (8, [.ref c2])), (c2, aJ G 8 (dg Q2)), (bl, .inr (8, [.ref a5])), (a5, aJ G 8 (dg B))]
          obtain ⟨x_8, ex_8⟩ : ∃ y9 : Int32, y9 = t + (-1) := ⟨_, rfl⟩
          refine j_iinc (v := x_8) (L' := [(6, .int x_8), (4, .long x_7), (0, .ref o), (1, .ref v), (2, .ref bl), (3, .int 1)]) X dX6_rounded_121 5 rfl (by rw [ex_8]; rfl) (by decide) rfl ?_
          refine j_goto (tgt := 58) X dX6_rounded_124 (by decide) ?_
          refine j_sub [2, 3, 4, 5, 1, 0] rfl ?_
          exact ih k x_8 x_7 (P1 - T) (T / 2) g_3 g_4 (by omega) (by rw [x_dec ht (by omega) ex_8]; omega) (by rw [hT1]) (rd_uP hP hT1 (rd_x (by omega) hrr (rd_sh ht1 (by omega) ex_6) ex_7)) c_85 (rd_uh hT1 hh) (rd_ur hrr (rd_x (by omega) hrr (rd_sh ht1 (by omega) ex_6) ex_7)) (by omega)
  refine j_sub [2, 3, 4, 5, 1, 0] rfl ?_
  exact loop 44 43 42 (-4398046511104) (P + (B * 2 ^ 42)) (B * 2 ^ 42) f1 f2 (by omega) rfl (rd_0 B 42) (by rw [show ((-4398046511104) : Int64).toInt = -4398046511104 from rfl, Int.neg_mul, Int.sub_neg, Int.mul_comm 4398046511104]; rfl) hlo (by rw [show (2 : Int) ^ 43 = 8796093022208 from rfl]; exact hhi) (by rw [show ((-4398046511104) : Int64).toInt = -4398046511104 from rfl, show (2 : Int) ^ 43 = 8796093022208 from rfl]; decide) (by omega)

set_option maxHeartbeats 4000000 in
set_option maxRecDepth 100000 in
theorem c_X6_rounded_2 (l : Launch) (G : jG) (o s1 b1 s2 b2 rr stp w1 a1 w2 a2 w3 a4 v v1 c1 v2 c2 v3 bl a5 : Nat) (f1 f2 h1 h2 h3 : Nat → Int64) (si0 side : Int32) (fa0 fac : Int64) (P Q2 B : Int) (hB : 0 ≤ (B * 2 ^ 1)) (hB2 : (B * 2 ^ 1) ≤ 38685626227668133590597632) (hPP : -170141183460469231731687303715884105727 ≤ (P * 2 ^ 1 + B) ∧ (P * 2 ^ 1 + B) ≤ 170141183460469231731687303715884105727) (hQ : 0 ≤ (Q2 * 2 ^ 2) ∧ (Q2 * 2 ^ 2) < 115792089237316195423570985008687907853269984665640564039457584007913129639936) (hlo : 0 ≤ (cs ((P * 2 ^ 1 + B) + (B * 2 ^ 1) * 2 ^ 42) side (Q2 * 2 ^ 2)).toInt) (hhi : (cs ((P * 2 ^ 1 + B) + (B * 2 ^ 1) * 2 ^ 42 - (B * 2 ^ 1) * 8796093022208) side (Q2 * 2 ^ 2)).toInt < 0) : Ct l yX6_rounded wsX6_rounded rm_X6_rounded G [.ref o, .ref v, .ref bl, .int 2] [(o, .inr (6, [.ref s1, .ref s2, .ref rr, .ref stp])), (s1, .inr (8, [.ref b1])), (b1, aJ G 8 f1), (s2, .inr (8, [.ref b2])), (b2, aJ G 8 f2), (rr, .inr (5, [.ref w1, .ref w2, .int si0, .long fa0, .ref w3])), (w1, .inr (8, [.ref a1])), (a1, aJ G 8 h1), (w2, .inr (8, [.ref a2])), (a2, aJ G 8 h2), (stp, .inr (8, [.ref a4])), (a4, aJ G 8 h3), (v, .inr (5, [.ref v1, .ref v2, .int side, .long fac, .ref v3])), (v1, .inr (8, [.ref c1])), (c1, aJ G 8 (dg P)), (v2, .inr (8, [.ref c2])), (c2, aJ G 8 (dg Q2)), (bl, .inr (8, [.ref a5])), (a5, aJ G 8 (dg B))] (S := (Nat → Int64) × (Nat → Int64) × Int × Int) (fun x _ => ∃ r : Int64, x = some (.long r) ∧ rdR (P * 2 ^ 1 + B) side (Q2 * 2 ^ 2) (B * 2 ^ 1) r.toInt) (fun u => [(o, .inr (6, [.ref s1, .ref s2, .ref rr, .ref stp])), (s1, .inr (8, [.ref b1])), (b1, aJ G 8 u.1), (s2, .inr (8, [.ref b2])), (b2, aJ G 8 u.2.1), (rr, .inr (5, [.ref w1, .ref w2, .int side, .long fac, .ref w3])), (w1, .inr (8, [.ref a1])), (a1, aJ G 8 (dg u.2.2.1)), (w2, .inr (8, [.ref a2])), (a2, aJ G 8 (dg (Q2 * 2 ^ 2))), (stp, .inr (8, [.ref a4])), (a4, aJ G 8 (dg u.2.2.2)), (v, .inr (5, [.ref v1, .ref v2, .int side, .long fac, .ref v3])), (v1, .inr (8, [.ref c1])), (c1, aJ G 8 (dg P)), (v2, .inr (8, [.ref c2])), (c2, aJ G 8 (dg Q2)), (bl, .inr (8, [.ref a5])), (a5, aJ G 8 (dg B))]) (fun _ => []) := by
  refine c_intro (cc := cX6_rounded) (maxL := 7) (ret := (some .long)) (by decide) rfl (Nat.le_of_ble_eq_true rfl) (fun _ => by simp only [List.map_cons, List.map_nil]) ?_
  intro p e s m args below meth c Q A X hr hin E
  change J p l e rm_X6_rounded s m args below meth c Q G A 7 0 0 0 [(0, .ref o), (1, .ref v), (2, .ref bl), (3, .int 2)] [] [(o, .inr (6, [.ref s1, .ref s2, .ref rr, .ref stp])), (s1, .inr (8, [.ref b1])), (b1, aJ G 8 f1), (s2, .inr (8, [.ref b2])), (b2, aJ G 8 f2), (rr, .inr (5, [.ref w1, .ref w2, .int si0, .long fa0, .ref w3])), (w1, .inr (8, [.ref a1])), (a1, aJ G 8 h1), (w2, .inr (8, [.ref a2])), (a2, aJ G 8 h2), (stp, .inr (8, [.ref a4])), (a4, aJ G 8 h3), (v, .inr (5, [.ref v1, .ref v2, .int side, .long fac, .ref v3])), (v1, .inr (8, [.ref c1])), (c1, aJ G 8 (dg P)), (v2, .inr (8, [.ref c2])), (c2, aJ G 8 (dg Q2)), (bl, .inr (8, [.ref a5])), (a5, aJ G 8 (dg B))]
  refine j_aload_n X dX6_rounded_0 rfl 0 rfl ?_
  refine j_get (v := .ref rr) X dX6_rounded_1 0 rfl 2 rfl in_X6_rounded_X6 (by decide) fl_X6_rounded_24 rfl ?_
  refine j_aload_n X dX6_rounded_4 rfl 1 rfl ?_
  refine j_callV X dX6_rounded_5 (c_X5_setTo l G rr w1 a1 w2 a2 w3 v v1 c1 v2 c2 v3 h1 h2 si0 side fa0 fac P Q2) gX6_rounded_X5_setTo rfl hy_X5_setTo_V ⟨Nat.le_of_ble_eq_true rfl, Nat.le_of_ble_eq_true rfl⟩ 0 rfl rfl [5, 6, 7, 8, 9, 12, 13, 14, 15, 16] rfl (by decide) rfl rfl (Nat.le_of_ble_eq_true rfl) ⟨Nat.le_of_ble_eq_true rfl, Nat.le_of_ble_eq_true rfl⟩ ?_
  rintro _ ⟨⟩ rfl
  change J p l e rm_X6_rounded s m args below meth c Q G A 7 0 0 8 [(0, .ref o), (1, .ref v), (2, .ref bl), (3, .int 2)] [] [(o, .inr (6, [.ref s1, .ref s2, .ref rr, .ref stp])), (s1, .inr (8, [.ref b1])), (b1, aJ G 8 f1), (s2, .inr (8, [.ref b2])), (b2, aJ G 8 f2), (rr, .inr (5, [.ref w1, .ref w2, .int side, .long fac, .ref w3])), (w1, .inr (8, [.ref a1])), (a1, aJ G 8 (dg P)), (w2, .inr (8, [.ref a2])), (a2, aJ G 8 (dg Q2)), (stp, .inr (8, [.ref a4])), (a4, aJ G 8 h3), (v, .inr (5, [.ref v1, .ref v2, .int side, .long fac, .ref v3])), (v1, .inr (8, [.ref c1])), (c1, aJ G 8 (dg P)), (v2, .inr (8, [.ref c2])), (c2, aJ G 8 (dg Q2)), (bl, .inr (8, [.ref a5])), (a5, aJ G 8 (dg B))]
  refine j_aload_n X dX6_rounded_8 rfl 0 rfl ?_
  refine j_get (v := .ref stp) X dX6_rounded_9 0 rfl 3 rfl in_X6_rounded_X6 (by decide) fl_X6_rounded_28 rfl ?_
  refine j_aload_n X dX6_rounded_12 rfl 2 rfl ?_
  refine j_callV X dX6_rounded_13 (c_X9_setTo_ l G stp a4 bl a5 h3 B) gX6_rounded_X9_setTo_ rfl hy_X9_setTo__V ⟨Nat.le_of_ble_eq_true rfl, Nat.le_of_ble_eq_true rfl⟩ 0 rfl rfl [10, 11, 17, 18] rfl (by decide) rfl rfl (Nat.le_of_ble_eq_true rfl) ⟨Nat.le_of_ble_eq_true rfl, Nat.le_of_ble_eq_true rfl⟩ ?_
  rintro _ ⟨⟩ rfl
  change J p l e rm_X6_rounded s m args below meth c Q G A 7 0 0 16 [(0, .ref o), (1, .ref v), (2, .ref bl), (3, .int 2)] [] [(o, .inr (6, [.ref s1, .ref s2, .ref rr, .ref stp])), (s1, .inr (8, [.ref b1])), (b1, aJ G 8 f1), (s2, .inr (8, [.ref b2])), (b2, aJ G 8 f2), (rr, .inr (5, [.ref w1, .ref w2, .int side, .long fac, .ref w3])), (w1, .inr (8, [.ref a1])), (a1, aJ G 8 (dg P)), (w2, .inr (8, [.ref a2])), (a2, aJ G 8 (dg Q2)), (stp, .inr (8, [.ref a4])), (a4, aJ G 8 (dg B)), (v, .inr (5, [.ref v1, .ref v2, .int side, .long fac, .ref v3])), (v1, .inr (8, [.ref c1])), (c1, aJ G 8 (dg P)), (v2, .inr (8, [.ref c2])), (c2, aJ G 8 (dg Q2)), (bl, .inr (8, [.ref a5])), (a5, aJ G 8 (dg B))]
  refine j_iload_n X dX6_rounded_16 rfl 3 rfl ?_
  refine j_iconst (v := 2) X dX6_rounded_17 rfl ?_
  refine j_icmp_ne (tgt := 26) X dX6_rounded_18 (by decide) (fun c9 => absurd c9 (by decide)) (fun _ => ?_)
  refine j_aload_n X dX6_rounded_21 rfl 0 rfl ?_
  refine j_aload_n X dX6_rounded_22 rfl 2 rfl ?_
  refine j_callV X dX6_rounded_23 (c_X6_addHalf l G o s1 s2 rr stp w1 a1 w2 a2 w3 a4 bl a5 side fac P Q2 B B) gX6_rounded_X6_addHalf rfl hy_X6_addHalf_V ⟨Nat.le_of_ble_eq_true rfl, Nat.le_of_ble_eq_true rfl⟩ 0 rfl rfl [0, 5, 6, 7, 8, 9, 10, 11, 17, 18] rfl (by decide) rfl rfl (Nat.le_of_ble_eq_true rfl) ⟨Nat.le_of_ble_eq_true rfl, Nat.le_of_ble_eq_true rfl⟩ ?_
  rintro _ ⟨⟩ rfl
  change J p l e rm_X6_rounded s m args below meth c Q G A 7 0 0 26 [(0, .ref o), (1, .ref v), (2, .ref bl), (3, .int 2)] [] [(o, .inr (6, [.ref s1, .ref s2, .ref rr, .ref stp])), (s1, .inr (8, [.ref b1])), (b1, aJ G 8 f1), (s2, .inr (8, [.ref b2])), (b2, aJ G 8 f2), (rr, .inr (5, [.ref w1, .ref w2, .int side, .long fac, .ref w3])), (w1, .inr (8, [.ref a1])), (a1, aJ G 8 (dg (P * 2 ^ 1 + B))), (w2, .inr (8, [.ref a2])), (a2, aJ G 8 (dg (Q2 * 2 ^ 2))), (stp, .inr (8, [.ref a4])), (a4, aJ G 8 (dg (B * 2 ^ 1))), (v, .inr (5, [.ref v1, .ref v2, .int side, .long fac, .ref v3])), (v1, .inr (8, [.ref c1])), (c1, aJ G 8 (dg P)), (v2, .inr (8, [.ref c2])), (c2, aJ G 8 (dg Q2)), (bl, .inr (8, [.ref a5])), (a5, aJ G 8 (dg B))]
  refine j_aload_n X dX6_rounded_26 rfl 0 rfl ?_
  refine j_get (v := .ref stp) X dX6_rounded_27 0 rfl 3 rfl in_X6_rounded_X6 (by decide) fl_X6_rounded_28 rfl ?_
  refine j_bipush (v := 42) X dX6_rounded_30 (by decide) ?_
  refine j_callV X dX6_rounded_32 (c_X9_shiftLeft l G stp a4 (B * 2 ^ 1) 42 42 rfl (by decide)) gX6_rounded_X9_shiftLeft rfl hy_X9_shiftLeft_V ⟨Nat.le_of_ble_eq_true rfl, Nat.le_of_ble_eq_true rfl⟩ 0 rfl rfl [10, 11] rfl (by decide) rfl rfl (Nat.le_of_ble_eq_true rfl) ⟨Nat.le_of_ble_eq_true rfl, Nat.le_of_ble_eq_true rfl⟩ ?_
  rintro _ ⟨⟩ rfl
  change J p l e rm_X6_rounded s m args below meth c Q G A 7 0 0 35 [(0, .ref o), (1, .ref v), (2, .ref bl), (3, .int 2)] [] [(o, .inr (6, [.ref s1, .ref s2, .ref rr, .ref stp])), (s1, .inr (8, [.ref b1])), (b1, aJ G 8 f1), (s2, .inr (8, [.ref b2])), (b2, aJ G 8 f2), (rr, .inr (5, [.ref w1, .ref w2, .int side, .long fac, .ref w3])), (w1, .inr (8, [.ref a1])), (a1, aJ G 8 (dg (P * 2 ^ 1 + B))), (w2, .inr (8, [.ref a2])), (a2, aJ G 8 (dg (Q2 * 2 ^ 2))), (stp, .inr (8, [.ref a4])), (a4, aJ G 8 (dg ((B * 2 ^ 1) * 2 ^ 42))), (v, .inr (5, [.ref v1, .ref v2, .int side, .long fac, .ref v3])), (v1, .inr (8, [.ref c1])), (c1, aJ G 8 (dg P)), (v2, .inr (8, [.ref c2])), (c2, aJ G 8 (dg Q2)), (bl, .inr (8, [.ref a5])), (a5, aJ G 8 (dg B))]
  refine j_aload_n X dX6_rounded_35 rfl 0 rfl ?_
  refine j_get (v := .ref rr) X dX6_rounded_36 0 rfl 2 rfl in_X6_rounded_X6 (by decide) fl_X6_rounded_24 rfl ?_
  refine j_get (v := .ref w1) X dX6_rounded_39 5 rfl 0 rfl in_X6_rounded_X5 (by decide) fl_X6_rounded_31 rfl ?_
  refine j_aload_n X dX6_rounded_42 rfl 0 rfl ?_
  refine j_get (v := .ref stp) X dX6_rounded_43 0 rfl 3 rfl in_X6_rounded_X6 (by decide) fl_X6_rounded_28 rfl ?_
  refine j_callV X dX6_rounded_46 (c_X9_add l G w1 a1 stp a4 (P * 2 ^ 1 + B) ((B * 2 ^ 1) * 2 ^ 42)) gX6_rounded_X9_add rfl hy_X9_add_V ⟨Nat.le_of_ble_eq_true rfl, Nat.le_of_ble_eq_true rfl⟩ 0 rfl rfl [6, 7, 10, 11] rfl (by decide) rfl rfl (Nat.le_of_ble_eq_true rfl) ⟨Nat.le_of_ble_eq_true rfl, Nat.le_of_ble_eq_true rfl⟩ ?_
  rintro _ ⟨⟩ rfl
  change J p l e rm_X6_rounded s m args below meth c Q G A 7 0 0 49 [(0, .ref o), (1, .ref v), (2, .ref bl), (3, .int 2)] [] [(o, .inr (6, [.ref s1, .ref s2, .ref rr, .ref stp])), (s1, .inr (8, [.ref b1])), (b1, aJ G 8 f1), (s2, .inr (8, [.ref b2])), (b2, aJ G 8 f2), (rr, .inr (5, [.ref w1, .ref w2, .int side, .long fac, .ref w3])), (w1, .inr (8, [.ref a1])), (a1, aJ G 8 (dg ((P * 2 ^ 1 + B) + ((B * 2 ^ 1) * 2 ^ 42)))), (w2, .inr (8, [.ref a2])), (a2, aJ G 8 (dg (Q2 * 2 ^ 2))), (stp, .inr (8, [.ref a4])), (a4, aJ G 8 (dg ((B * 2 ^ 1) * 2 ^ 42))), (v, .inr (5, [.ref v1, .ref v2, .int side, .long fac, .ref v3])), (v1, .inr (8, [.ref c1])), (c1, aJ G 8 (dg P)), (v2, .inr (8, [.ref c2])), (c2, aJ G 8 (dg Q2)), (bl, .inr (8, [.ref a5])), (a5, aJ G 8 (dg B))]
  refine j_ldc2 (v := (-4398046511104)) X dX6_rounded_49 k_X6_rounded_73 ?_
  refine j_lstore (L' := [(4, .long (-4398046511104)), (0, .ref o), (1, .ref v), (2, .ref bl), (3, .int 2)]) X dX6_rounded_52 (by decide) rfl ?_
  refine j_bipush (v := 42) X dX6_rounded_54 (by decide) ?_
  refine j_istore (L' := [(6, .int 42), (4, .long (-4398046511104)), (0, .ref o), (1, .ref v), (2, .ref bl), (3, .int 2)]) X dX6_rounded_56 (by decide) rfl ?_
  have loop : ∀ (d : Nat) (k : Nat) (t : Int32) (r : Int64) (P1 T : Int) (g1 g2 : Nat → Int64) (hk : k ≤ 43) (ht : t.toInt = (k : Int) - 1) (hT : T = (B * 2 ^ 1) * 2 ^ k / 2) (hP : P1 = (P * 2 ^ 1 + B) - r.toInt * (B * 2 ^ 1)) (hl : 0 ≤ (cs P1 side (Q2 * 2 ^ 2)).toInt) (hh : (cs (P1 - (B * 2 ^ 1) * 2 ^ k) side (Q2 * 2 ^ 2)).toInt < 0) (hrr : -4398046511104 ≤ r.toInt ∧ r.toInt + 2 ^ k ≤ 4398046511104), k < d → J p l e rm_X6_rounded s m args below meth c Q G A 7 0 0 58 [(0, .ref o), (1, .ref v), (2, .ref bl), (3, .int 2), (4, .long r), (6, .int t)] [] [(o, .inr (6, [.ref s1, .ref s2, .ref rr, .ref stp])), (s1, .inr (8, [.ref b1])), (b1, aJ G 8 g1), (s2, .inr (8, [.ref b2])), (b2, aJ G 8 g2), (rr, .inr (5, [.ref w1, .ref w2, .int side, .long fac, .ref w3])), (w1, .inr (8, [.ref a1])), (a1, aJ G 8 (dg P1)), (w2, .inr (8, [.ref a2])), (a2, aJ G 8 (dg (Q2 * 2 ^ 2))), (stp, .inr (8, [.ref a4])), (a4, aJ G 8 (dg T)), (v, .inr (5, [.ref v1, .ref v2, .int side, .long fac, .ref v3])), (v1, .inr (8, [.ref c1])), (c1, aJ G 8 (dg P)), (v2, .inr (8, [.ref c2])), (c2, aJ G 8 (dg Q2)), (bl, .inr (8, [.ref a5])), (a5, aJ G 8 (dg B))] := by
    intro d
    induction d with
    | zero => intro k t r P1 T g1 g2 hk ht hT hP hl hh hrr hd0; exact absurd hd0 (Nat.not_lt_zero _)
    | succ d ih =>
      intro k t r P1 T g1 g2 hk ht hT hP hl hh hrr hd0
      refine j_iload X dX6_rounded_58 5 rfl ?_
      refine j_if_lt (tgt := 127) X dX6_rounded_60 (by decide) (fun c_60 => ?_) (fun c_60 => ?_)
      · skip
        first | simp only [cmp_eq, cmp_lt, cmp_ge, cmp_gt, cmp_le, lT0, lT1] at c_60 | simp only [Int32.le_iff_toInt_le, Int32.lt_iff_toInt_lt, ← Int32.toInt_inj, iT0, iT1, iT2, iT3, iT4, iT5, iT6, iT7, iT8, iT9, iT10, iT11, iT12, iT13, iT14, iT15, iT16, iT19, iT20, iT31, iT32, iT42, iT64, iT200, iT318, iT319, iT1000, iTm1, iTm2] at c_60
        have hk0 : k = 0 := by omega
        subst hk0
        refine j_iload_n X dX6_rounded_127 rfl 3 rfl ?_
        refine j_iconst (v := 1) X dX6_rounded_128 rfl ?_
        refine j_icmp_ne (tgt := 150) X dX6_rounded_129 (by decide) (fun _ => ?_) (fun c9 => absurd c9 (by decide))
        refine j_lload X dX6_rounded_150 4 rfl ?_
        exact E.2.2 152 _ r (g1, g2, P1, T) dX6_rounded_152 (⟨r, rfl, rd_end hP hl hh⟩) hr
      · skip
        first | simp only [cmp_eq, cmp_lt, cmp_ge, cmp_gt, cmp_le, lT0, lT1] at c_60 | simp only [Int32.le_iff_toInt_le, Int32.lt_iff_toInt_lt, ← Int32.toInt_inj, iT0, iT1, iT2, iT3, iT4, iT5, iT6, iT7, iT8, iT9, iT10, iT11, iT12, iT13, iT14, iT15, iT16, iT19, iT20, iT31, iT32, iT42, iT64, iT200, iT318, iT319, iT1000, iTm1, iTm2] at c_60
        obtain ⟨k, rfl⟩ : ∃ k1, k = k1 + 1 := ⟨k - 1, by omega⟩
        have hT1 := rd_T hT
        have ht1 : t.toInt = (k : Int) := by omega
        have hbT := rd_B hB hB2 (by omega) hT1
        refine j_aload_n X dX6_rounded_63 rfl 0 rfl ?_
        refine j_get (v := .ref rr) X dX6_rounded_64 0 rfl 2 rfl in_X6_rounded_X6 (by decide) fl_X6_rounded_24 rfl ?_
        refine j_get (v := .ref w1) X dX6_rounded_67 5 rfl 0 rfl in_X6_rounded_X5 (by decide) fl_X6_rounded_31 rfl ?_
        refine j_aload_n X dX6_rounded_70 rfl 0 rfl ?_
        refine j_get (v := .ref stp) X dX6_rounded_71 0 rfl 3 rfl in_X6_rounded_X6 (by decide) fl_X6_rounded_28 rfl ?_
        refine j_callV X dX6_rounded_74 (c_X9_subtract l G w1 a1 stp a4 P1 T) gX6_rounded_X9_subtract rfl hy_X9_subtract_V ⟨Nat.le_of_ble_eq_true rfl, Nat.le_of_ble_eq_true rfl⟩ 0 rfl rfl [6, 7, 10, 11] rfl (by decide) rfl rfl (Nat.le_of_ble_eq_true rfl) ⟨Nat.le_of_ble_eq_true rfl, Nat.le_of_ble_eq_true rfl⟩ ?_
        rintro _ ⟨⟩ rfl
        change J p l e rm_X6_rounded s m args below meth c Q G A 7 0 0 77 [(0, .ref o), (1, .ref v), (2, .ref bl), (3, .int 2), (4, .long r), (6, .int t)] [] [(o, .inr (6, [.ref s1, .ref s2, .ref rr, .ref stp])), (s1, .inr (8, [.ref b1])), (b1, aJ G 8 g1), (s2, .inr (8, [.ref b2])), (b2, aJ G 8 g2), (rr, .inr (5, [.ref w1, .ref w2, .int side, .long fac, .ref w3])), (w1, .inr (8, [.ref a1])), (a1, aJ G 8 (dg (P1 - T))), (w2, .inr (8, [.ref a2])), (a2, aJ G 8 (dg (Q2 * 2 ^ 2))), (stp, .inr (8, [.ref a4])), (a4, aJ G 8 (dg T)), (v, .inr (5, [.ref v1, .ref v2, .int side, .long fac, .ref v3])), (v1, .inr (8, [.ref c1])), (c1, aJ G 8 (dg P)), (v2, .inr (8, [.ref c2])), (c2, aJ G 8 (dg Q2)), (bl, .inr (8, [.ref a5])), (a5, aJ G 8 (dg B))]
        refine j_aload_n X dX6_rounded_77 rfl 0 rfl ?_
        refine j_aload_n X dX6_rounded_78 rfl 0 rfl ?_
        refine j_get (v := .ref rr) X dX6_rounded_79 0 rfl 2 rfl in_X6_rounded_X6 (by decide) fl_X6_rounded_24 rfl ?_
        refine j_callV X dX6_rounded_82 (c_X6_sign l G o s1 b1 s2 b2 rr stp rr w1 a1 w2 a2 w3 g1 g2 side fac (P1 - T) (Q2 * 2 ^ 2) (rd_bP hB hB2 hPP hP hT1 hrr) hQ) gX6_rounded_X6_sign rfl hy_X6_sign_V ⟨Nat.le_of_ble_eq_true rfl, Nat.le_of_ble_eq_true rfl⟩ 0 rfl rfl [0, 1, 2, 3, 4, 5, 6, 7, 8, 9] rfl (by decide) rfl rfl (Nat.le_of_ble_eq_true rfl) ⟨Nat.le_of_ble_eq_true rfl, Nat.le_of_ble_eq_true rfl⟩ ?_
        rintro _ ⟨g_1, g_2⟩ rfl
        change J p l e rm_X6_rounded s m args below meth c Q G A 7 0 0 85 [(0, .ref o), (1, .ref v), (2, .ref bl), (3, .int 2), (4, .long r), (6, .int t)] [.int (cs (P1 - T) side (Q2 * 2 ^ 2))] [(o, .inr (6, [.ref s1, .ref s2, .ref rr, .ref stp])), (s1, .inr (8, [.ref b1])), (b1, aJ G 8 g_1), (s2, .inr (8, [.ref b2])), (b2, aJ G 8 g_2), (rr, .inr (5, [.ref w1, .ref w2, .int side, .long fac, .ref w3])), (w1, .inr (8, [.ref a1])), (a1, aJ G 8 (dg (P1 - T))), (w2, .inr (8, [.ref a2])), (a2, aJ G 8 (dg (Q2 * 2 ^ 2))), (stp, .inr (8, [.ref a4])), (a4, aJ G 8 (dg T)), (v, .inr (5, [.ref v1, .ref v2, .int side, .long fac, .ref v3])), (v1, .inr (8, [.ref c1])), (c1, aJ G 8 (dg P)), (v2, .inr (8, [.ref c2])), (c2, aJ G 8 (dg Q2)), (bl, .inr (8, [.ref a5])), (a5, aJ G 8 (dg B))]
        refine j_if_lt (tgt := 100) X dX6_rounded_85 (by decide) (fun c_85 => ?_) (fun c_85 => ?_)
        · skip
          rw [Int32.lt_iff_toInt_lt, iT0] at c_85
          refine j_aload_n X dX6_rounded_100 rfl 0 rfl ?_
          refine j_get (v := .ref rr) X dX6_rounded_101 0 rfl 2 rfl in_X6_rounded_X6 (by decide) fl_X6_rounded_24 rfl ?_
          refine j_get (v := .ref w1) X dX6_rounded_104 5 rfl 0 rfl in_X6_rounded_X5 (by decide) fl_X6_rounded_31 rfl ?_
          refine j_aload_n X dX6_rounded_107 rfl 0 rfl ?_
          refine j_get (v := .ref stp) X dX6_rounded_108 0 rfl 3 rfl in_X6_rounded_X6 (by decide) fl_X6_rounded_28 rfl ?_
          refine j_callV X dX6_rounded_111 (c_X9_add l G w1 a1 stp a4 (P1 - T) T) gX6_rounded_X9_add rfl hy_X9_add_V ⟨Nat.le_of_ble_eq_true rfl, Nat.le_of_ble_eq_true rfl⟩ 0 rfl rfl [6, 7, 10, 11] rfl (by decide) rfl rfl (Nat.le_of_ble_eq_true rfl) ⟨Nat.le_of_ble_eq_true rfl, Nat.le_of_ble_eq_true rfl⟩ ?_
          rintro _ ⟨⟩ rfl
          change J p l e rm_X6_rounded s m args below meth c Q G A 7 0 0 114 [(0, .ref o), (1, .ref v), (2, .ref bl), (3, .int 2), (4, .long r), (6, .int t)] [] [(o, .inr (6, [.ref s1, .ref s2, .ref rr, .ref stp])), (s1, .inr (8, [.ref b1])), (b1, aJ G 8 g_1), (s2, .inr (8, [.ref b2])), (b2, aJ G 8 g_2), (rr, .inr (5, [.ref w1, .ref w2, .int side, .long fac, .ref w3])), (w1, .inr (8, [.ref a1])), (a1, aJ G 8 (dg ((P1 - T) + T))), (w2, .inr (8, [.ref a2])), (a2, aJ G 8 (dg (Q2 * 2 ^ 2))), (stp, .inr (8, [.ref a4])), (a4, aJ G 8 (dg T)), (v, .inr (5, [.ref v1, .ref v2, .int side, .long fac, .ref v3])), (v1, .inr (8, [.ref c1])), (c1, aJ G 8 (dg P)), (v2, .inr (8, [.ref c2])), (c2, aJ G 8 (dg Q2)), (bl, .inr (8, [.ref a5])), (a5, aJ G 8 (dg B))]
          refine j_aload_n X dX6_rounded_114 rfl 0 rfl ?_
          refine j_get (v := .ref stp) X dX6_rounded_115 0 rfl 3 rfl in_X6_rounded_X6 (by decide) fl_X6_rounded_28 rfl ?_
          refine j_callV X dX6_rounded_118 (c_X9_halve l G stp a4 T ⟨by omega, by omega⟩) gX6_rounded_X9_halve rfl hy_X9_halve_V ⟨Nat.le_of_ble_eq_true rfl, Nat.le_of_ble_eq_true rfl⟩ 0 rfl rfl [10, 11] rfl (by decide) rfl rfl (Nat.le_of_ble_eq_true rfl) ⟨Nat.le_of_ble_eq_true rfl, Nat.le_of_ble_eq_true rfl⟩ ?_
          rintro _ ⟨⟩ rfl
          change J p l e rm_X6_rounded s m args below meth c Q G A 7 0 0 121 [(0, .ref o), (1, .ref v), (2, .ref bl), (3, .int 2), (4, .long r), (6, .int t)] [] [(o, .inr (6, [.ref s1, .ref s2, .ref rr, .ref stp])), (s1, .inr (8, [.ref b1])), (b1, aJ G 8 g_1), (s2, .inr (8, [.ref b2])), (b2, aJ G 8 g_2), (rr, .inr (5, [.ref w1, .ref w2, .int side, .long fac, .ref w3])), (w1, .inr (8, [.ref a1])), (a1, aJ G 8 (dg ((P1 - T) + T))), (w2, .inr (8, [.ref a2])), (a2, aJ G 8 (dg (Q2 * 2 ^ 2))), (stp, .inr (8, [.ref a4])), (a4, aJ G 8 (dg (T / 2))), (v, .inr (5, [.ref v1, .ref v2, .int side, .long fac, .ref v3])), (v1, .inr (8, [.ref c1])), (c1, aJ G 8 (dg P)), (v2, .inr (8, [.ref c2])), (c2, aJ G 8 (dg Q2)), (bl, .inr (8, [.ref a5])), (a5, aJ G 8 (dg B))]
          obtain ⟨x_3, ex_3⟩ : ∃ y9 : Int32, y9 = t + (-1) := ⟨_, rfl⟩
          refine j_iinc (v := x_3) (L' := [(6, .int x_3), (0, .ref o), (1, .ref v), (2, .ref bl), (3, .int 2), (4, .long r)]) X dX6_rounded_121 5 rfl (by rw [ex_3]; rfl) (by decide) rfl ?_
          refine j_goto (tgt := 58) X dX6_rounded_124 (by decide) ?_
          refine j_sub [1, 2, 3, 4, 5, 0] rfl ?_
          exact ih k x_3 r ((P1 - T) + T) (T / 2) g_1 g_2 (by omega) (by rw [x_dec ht (by omega) ex_3]; omega) (by rw [hT1]) (by rw [Int.sub_add_cancel]; exact hP) (by rw [Int.sub_add_cancel]; exact hl) (rd_lh hT1 c_85) (rd_lr hrr) (by omega)
        · skip
          rw [Int32.lt_iff_toInt_lt, iT0, Int.not_lt] at c_85
          refine j_lload X dX6_rounded_88 4 rfl ?_
          refine j_lconst (v := 1) X dX6_rounded_90 rfl ?_
          refine j_iload X dX6_rounded_91 5 rfl ?_
          obtain ⟨x_4, ex_4⟩ : ∃ z9 : Int64, 1 <<< (t.toInt64 &&& 63) = z9 := ⟨_, rfl⟩
          refine j_lshl (v := x_4) X dX6_rounded_93 ex_4 ?_
          refine j_ladd X dX6_rounded_94 ?_
          refine j_topl (fun x_5 ex_5 => ?_)
          refine j_lstore (L' := [(4, .long x_5), (0, .ref o), (1, .ref v), (2, .ref bl), (3, .int 2), (6, .int t)]) X dX6_rounded_95 (by decide) rfl ?_
          refine j_goto (tgt := 114) X dX6_rounded_97 (by decide) ?_
          refine j_aload_n X dX6_rounded_114 rfl 1 rfl ?_
          refine j_get (v := .ref stp) X dX6_rounded_115 0 rfl 3 rfl in_X6_rounded_X6 (by decide) fl_X6_rounded_28 rfl ?_
          refine j_callV X dX6_rounded_118 (c_X9_halve l G stp a4 T ⟨by omega, by omega⟩) gX6_rounded_X9_halve rfl hy_X9_halve_V ⟨Nat.le_of_ble_eq_true rfl, Nat.le_of_ble_eq_true rfl⟩ 0 rfl rfl [10, 11] rfl (by decide) rfl rfl (Nat.le_of_ble_eq_true rfl) ⟨Nat.le_of_ble_eq_true rfl, Nat.le_of_ble_eq_true rfl⟩ ?_
          rintro _ ⟨⟩ rfl
          change J p l e rm_X6_rounded s m args below meth c Q G A 7 0 0 121 [(4, .long x_5), (0, .ref o), (1, .ref v), (2, .ref bl), (3, .int 2), (6, .int t)] [] [(o, .inr (6, [.ref s1, .ref s2, .ref rr, .ref stp])), (s1, .inr (8, [.ref b1])), (b1, aJ G 8 g_1), (s2, .inr (8, [.ref b2])), (b2, aJ G 8 g_2), (rr, .inr (5, [.ref w1, .ref w2, .int side, .long fac, .ref w3])), (w1, .inr (8, [.ref a1])), (a1, aJ G 8 (dg (P1 - T))), (w2, .inr (8, [.ref a2])), (a2, aJ G 8 (dg (Q2 * 2 ^ 2))), (stp, .inr (8, [.ref a4])), (a4, aJ G 8 (dg (T / 2))), (v, .inr (5, [.ref v1, .ref v2, .int side, .long fac, .ref v3])), (v1, .inr (8, [.ref c1])), (c1, aJ G 8 (dg P)), (v2, .inr (8, [.ref c2])), (c2, aJ G 8 (dg Q2)), (bl, .inr (8, [.ref a5])), (a5, aJ G 8 (dg B))]
          obtain ⟨x_6, ex_6⟩ : ∃ y9 : Int32, y9 = t + (-1) := ⟨_, rfl⟩
          refine j_iinc (v := x_6) (L' := [(6, .int x_6), (4, .long x_5), (0, .ref o), (1, .ref v), (2, .ref bl), (3, .int 2)]) X dX6_rounded_121 5 rfl (by rw [ex_6]; rfl) (by decide) rfl ?_
          refine j_goto (tgt := 58) X dX6_rounded_124 (by decide) ?_
          refine j_sub [2, 3, 4, 5, 1, 0] rfl ?_
          exact ih k x_6 x_5 (P1 - T) (T / 2) g_1 g_2 (by omega) (by rw [x_dec ht (by omega) ex_6]; omega) (by rw [hT1]) (rd_uP hP hT1 (rd_x (by omega) hrr (rd_sh ht1 (by omega) ex_4) ex_5)) c_85 (rd_uh hT1 hh) (rd_ur hrr (rd_x (by omega) hrr (rd_sh ht1 (by omega) ex_4) ex_5)) (by omega)
  refine j_sub [2, 3, 4, 5, 1, 0] rfl ?_
  exact loop 44 43 42 (-4398046511104) ((P * 2 ^ 1 + B) + ((B * 2 ^ 1) * 2 ^ 42)) ((B * 2 ^ 1) * 2 ^ 42) f1 f2 (by omega) rfl (rd_0 (B * 2 ^ 1) 42) (by rw [show ((-4398046511104) : Int64).toInt = -4398046511104 from rfl, Int.neg_mul, Int.sub_neg, Int.mul_comm 4398046511104]; rfl) hlo (by rw [show (2 : Int) ^ 43 = 8796093022208 from rfl]; exact hhi) (by rw [show ((-4398046511104) : Int64).toInt = -4398046511104 from rfl, show (2 : Int) ^ 43 = 8796093022208 from rfl]; decide) (by omega)

