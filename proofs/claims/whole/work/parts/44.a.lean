abbrev rm_X11_turn : Room := { frames := 4, cells := 0, slots := 0, locals := 118 }
theorem in_X11_turn_X11 : ∀ w ∈ u_ws RX11 TX11 19, w ∈ wsX11_turn := by decide +kernel
theorem fl_X11_turn_48 : Cond.fieldLink RX11 48 (TX11 0).1 (TX11 0).2.1 (TX11 0).2.2.1 ∈ wsX11_turn := by decide +kernel
set_option maxHeartbeats 4000000 in
set_option maxRecDepth 100000 in
theorem c_X11_turn_no (l : Launch) (G : jG) (q : Nat → Nat) (t n co cr po : Int32) (tx ty : Int64) (ax ay bx by1 cx cy : Int64) (hP : ¬ ((inC ax.toInt ∧ inC ay.toInt) ∧ (inC bx.toInt ∧ inC by1.toInt) ∧ (inC cx.toInt ∧ inC cy.toInt))) : Ct l yX11_turn wsX11_turn rm_X11_turn G [.ref (q 0), .long ax, .long ay, .long bx, .long by1, .long cx, .long cy] [(q 0, .inr (10, mF t n q co cr po tx ty))] (S := Unit) (fun r _ => r = some (.int 0)) (fun _ => [(q 0, .inr (10, mF 1 n q co cr po tx ty))]) (fun _ => []) := by
  refine c_intro (cc := cX11_turn) (maxL := 13) (ret := (some .int)) (by decide) rfl (Nat.le_of_ble_eq_true rfl) (fun _ => by simp only [List.map_cons, List.map_nil]) ?_
  intro p e s m args below meth c Q A X hr hin E
  change J p l e rm_X11_turn s m args below meth c Q G A 13 0 0 0 [(0, .ref (q 0)), (1, .long ax), (3, .long ay), (5, .long bx), (7, .long by1), (9, .long cx), (11, .long cy)] [] [(q 0, .inr (10, mF t n q co cr po tx ty))]
  refine j_aload_n X dX11_turn_0 rfl 0 rfl ?_
  refine j_lload_n X dX11_turn_1 rfl 1 rfl ?_
  refine j_lload_n X dX11_turn_2 rfl 2 rfl ?_
  refine j_callS X dX11_turn_3 (c_X11_isPlace l G ax ay) gX11_turn_X11_isPlace rfl hy_X11_isPlace_S ⟨Nat.le_of_ble_eq_true rfl, Nat.le_of_ble_eq_true rfl⟩ [] rfl (by decide) rfl rfl (Nat.le_of_ble_eq_true rfl) ⟨Nat.le_of_ble_eq_true rfl, Nat.le_of_ble_eq_true rfl⟩ ?_
  rintro _ ⟨⟩ rfl
  change J p l e rm_X11_turn s m args below meth c Q G A 13 0 0 6 [(0, .ref (q 0)), (1, .long ax), (3, .long ay), (5, .long bx), (7, .long by1), (9, .long cx), (11, .long cy)] [.int (bI (inC ax.toInt ∧ inC ay.toInt)), .ref (q 0)] [(q 0, .inr (10, mF t n q co cr po tx ty))]
  refine j_if_eq (tgt := 33) X dX11_turn_6 (by decide) (fun c_6 => ?_) (fun c_6 => ?_)
  · skip
    first | simp only [bI_0, Decidable.not_not, sg_mul, sg_e0, sg_l0, sg_g0, sg_le0, sg_ge0, cmp_eq, cmp_lt, cmp_ge, cmp_gt, cmp_le, lT0, lT1] at c_6 | simp only [Int32.le_iff_toInt_le, Int32.lt_iff_toInt_lt, ← Int32.toInt_inj, iT0, iT1, iT2, iT3, iT4, iT5, iT6, iT7, iT8, iT9, iT10, iT11, iT12, iT13, iT14, iT15, iT16, iT19, iT20, iT31, iT32, iT42, iT64, iT200, iT318, iT319, iT1000, iTm1, iTm2] at c_6 | skip
    refine j_iconst (v := 1) X dX11_turn_33 rfl ?_
    refine j_put (ws' := [(q 0, .inr (10, mF 1 n q co cr po tx ty))]) X dX11_turn_34 0 rfl 0 rfl in_X11_turn_X11 tyX11 tyX11_ok nmX11 (by decide) fl_X11_turn_48 rfl rfl rfl rfl (Nat.le_of_ble_eq_true rfl) rfl ?_
    refine j_aload_n X dX11_turn_37 rfl 0 rfl ?_
    refine j_get (v := .int 1) X dX11_turn_38 0 rfl 0 rfl in_X11_turn_X11 (by decide) fl_X11_turn_48 rfl ?_
    refine j_if_eq (tgt := 48) X dX11_turn_41 (by decide) (fun c9 => absurd c9 (by decide)) (fun _ => ?_)
    refine j_iconst (v := 0) X dX11_turn_44 rfl ?_
    refine j_goto (tgt := 62) X dX11_turn_45 (by decide) ?_
    exact E.2.1 62 _ 0 () _ dX11_turn_62 rfl hr rfl
  · skip
    first | simp only [bI_0, Decidable.not_not, sg_mul, sg_e0, sg_l0, sg_g0, sg_le0, sg_ge0, cmp_eq, cmp_lt, cmp_ge, cmp_gt, cmp_le, lT0, lT1] at c_6 | simp only [Int32.le_iff_toInt_le, Int32.lt_iff_toInt_lt, ← Int32.toInt_inj, iT0, iT1, iT2, iT3, iT4, iT5, iT6, iT7, iT8, iT9, iT10, iT11, iT12, iT13, iT14, iT15, iT16, iT19, iT20, iT31, iT32, iT42, iT64, iT200, iT318, iT319, iT1000, iTm1, iTm2] at c_6 | skip
    refine j_lload X dX11_turn_9 3 rfl ?_
    refine j_lload X dX11_turn_11 4 rfl ?_
    refine j_callS X dX11_turn_13 (c_X11_isPlace l G bx by1) gX11_turn_X11_isPlace rfl hy_X11_isPlace_S ⟨Nat.le_of_ble_eq_true rfl, Nat.le_of_ble_eq_true rfl⟩ [] rfl (by decide) rfl rfl (Nat.le_of_ble_eq_true rfl) ⟨Nat.le_of_ble_eq_true rfl, Nat.le_of_ble_eq_true rfl⟩ ?_
    rintro _ ⟨⟩ rfl
    change J p l e rm_X11_turn s m args below meth c Q G A 13 0 0 16 [(0, .ref (q 0)), (1, .long ax), (3, .long ay), (5, .long bx), (7, .long by1), (9, .long cx), (11, .long cy)] [.int (bI (inC bx.toInt ∧ inC by1.toInt)), .ref (q 0)] [(q 0, .inr (10, mF t n q co cr po tx ty))]
    refine j_if_eq (tgt := 33) X dX11_turn_16 (by decide) (fun c_16 => ?_) (fun c_16 => ?_)
    · skip
      first | simp only [bI_0, Decidable.not_not, sg_mul, sg_e0, sg_l0, sg_g0, sg_le0, sg_ge0, cmp_eq, cmp_lt, cmp_ge, cmp_gt, cmp_le, lT0, lT1] at c_16 | simp only [Int32.le_iff_toInt_le, Int32.lt_iff_toInt_lt, ← Int32.toInt_inj, iT0, iT1, iT2, iT3, iT4, iT5, iT6, iT7, iT8, iT9, iT10, iT11, iT12, iT13, iT14, iT15, iT16, iT19, iT20, iT31, iT32, iT42, iT64, iT200, iT318, iT319, iT1000, iTm1, iTm2] at c_16 | skip
      refine j_iconst (v := 1) X dX11_turn_33 rfl ?_
      refine j_put (ws' := [(q 0, .inr (10, mF 1 n q co cr po tx ty))]) X dX11_turn_34 0 rfl 0 rfl in_X11_turn_X11 tyX11 tyX11_ok nmX11 (by decide) fl_X11_turn_48 rfl rfl rfl rfl (Nat.le_of_ble_eq_true rfl) rfl ?_
      refine j_aload_n X dX11_turn_37 rfl 0 rfl ?_
      refine j_get (v := .int 1) X dX11_turn_38 0 rfl 0 rfl in_X11_turn_X11 (by decide) fl_X11_turn_48 rfl ?_
      refine j_if_eq (tgt := 48) X dX11_turn_41 (by decide) (fun c9 => absurd c9 (by decide)) (fun _ => ?_)
      refine j_iconst (v := 0) X dX11_turn_44 rfl ?_
      refine j_goto (tgt := 62) X dX11_turn_45 (by decide) ?_
      exact E.2.1 62 _ 0 () _ dX11_turn_62 rfl hr rfl
    · skip
      first | simp only [bI_0, Decidable.not_not, sg_mul, sg_e0, sg_l0, sg_g0, sg_le0, sg_ge0, cmp_eq, cmp_lt, cmp_ge, cmp_gt, cmp_le, lT0, lT1] at c_16 | simp only [Int32.le_iff_toInt_le, Int32.lt_iff_toInt_lt, ← Int32.toInt_inj, iT0, iT1, iT2, iT3, iT4, iT5, iT6, iT7, iT8, iT9, iT10, iT11, iT12, iT13, iT14, iT15, iT16, iT19, iT20, iT31, iT32, iT42, iT64, iT200, iT318, iT319, iT1000, iTm1, iTm2] at c_16 | skip
      refine j_lload X dX11_turn_19 5 rfl ?_
      refine j_lload X dX11_turn_21 6 rfl ?_
      refine j_callS X dX11_turn_23 (c_X11_isPlace l G cx cy) gX11_turn_X11_isPlace rfl hy_X11_isPlace_S ⟨Nat.le_of_ble_eq_true rfl, Nat.le_of_ble_eq_true rfl⟩ [] rfl (by decide) rfl rfl (Nat.le_of_ble_eq_true rfl) ⟨Nat.le_of_ble_eq_true rfl, Nat.le_of_ble_eq_true rfl⟩ ?_
      rintro _ ⟨⟩ rfl
      change J p l e rm_X11_turn s m args below meth c Q G A 13 0 0 26 [(0, .ref (q 0)), (1, .long ax), (3, .long ay), (5, .long bx), (7, .long by1), (9, .long cx), (11, .long cy)] [.int (bI (inC cx.toInt ∧ inC cy.toInt)), .ref (q 0)] [(q 0, .inr (10, mF t n q co cr po tx ty))]
      refine j_if_eq (tgt := 33) X dX11_turn_26 (by decide) (fun c_26 => ?_) (fun c_26 => ?_)
      · skip
        first | simp only [bI_0, Decidable.not_not, sg_mul, sg_e0, sg_l0, sg_g0, sg_le0, sg_ge0, cmp_eq, cmp_lt, cmp_ge, cmp_gt, cmp_le, lT0, lT1] at c_26 | simp only [Int32.le_iff_toInt_le, Int32.lt_iff_toInt_lt, ← Int32.toInt_inj, iT0, iT1, iT2, iT3, iT4, iT5, iT6, iT7, iT8, iT9, iT10, iT11, iT12, iT13, iT14, iT15, iT16, iT19, iT20, iT31, iT32, iT42, iT64, iT200, iT318, iT319, iT1000, iTm1, iTm2] at c_26 | skip
        refine j_iconst (v := 1) X dX11_turn_33 rfl ?_
        refine j_put (ws' := [(q 0, .inr (10, mF 1 n q co cr po tx ty))]) X dX11_turn_34 0 rfl 0 rfl in_X11_turn_X11 tyX11 tyX11_ok nmX11 (by decide) fl_X11_turn_48 rfl rfl rfl rfl (Nat.le_of_ble_eq_true rfl) rfl ?_
        refine j_aload_n X dX11_turn_37 rfl 0 rfl ?_
        refine j_get (v := .int 1) X dX11_turn_38 0 rfl 0 rfl in_X11_turn_X11 (by decide) fl_X11_turn_48 rfl ?_
        refine j_if_eq (tgt := 48) X dX11_turn_41 (by decide) (fun c9 => absurd c9 (by decide)) (fun _ => ?_)
        refine j_iconst (v := 0) X dX11_turn_44 rfl ?_
        refine j_goto (tgt := 62) X dX11_turn_45 (by decide) ?_
        exact E.2.1 62 _ 0 () _ dX11_turn_62 rfl hr rfl
      · skip
        first | simp only [bI_0, Decidable.not_not, sg_mul, sg_e0, sg_l0, sg_g0, sg_le0, sg_ge0, cmp_eq, cmp_lt, cmp_ge, cmp_gt, cmp_le, lT0, lT1] at c_26 | simp only [Int32.le_iff_toInt_le, Int32.lt_iff_toInt_lt, ← Int32.toInt_inj, iT0, iT1, iT2, iT3, iT4, iT5, iT6, iT7, iT8, iT9, iT10, iT11, iT12, iT13, iT14, iT15, iT16, iT19, iT20, iT31, iT32, iT42, iT64, iT200, iT318, iT319, iT1000, iTm1, iTm2] at c_26 | skip
        exfalso; omega

theorem hy_X11_turn_V : yX11_turn.cls = RX11 ∧ yX11_turn.cls ≠ "java/lang/invoke/MethodHandle" ∧ yX11_turn.cls ≠ "java/lang/invoke/VarHandle" ∧ (parseMethodDescriptor yX11_turn.desc).map (fun d => d.parameters.length) = some 6 := by decide +kernel
set_option maxHeartbeats 4000000 in
set_option maxRecDepth 100000 in
theorem c_X11_turn_ok (l : Launch) (G : jG) (q : Nat → Nat) (t n co cr po : Int32) (tx ty : Int64) (zs : List Int) (hl : zs.length = 16) (sf : Nat → Int32) (hS : okS zs sf) (ax ay bx by1 cx cy : Int64) (hP : (inC ax.toInt ∧ inC ay.toInt) ∧ (inC bx.toInt ∧ inC by1.toInt) ∧ (inC cx.toInt ∧ inC cy.toInt)) : Ct l yX11_turn wsX11_turn rm_X11_turn G [.ref (q 0), .long ax, .long ay, .long bx, .long by1, .long cx, .long cy] [(q 0, .inr (10, mF t n q co cr po tx ty)), (q 10, aI G 320 (rg zs)), (q 11, aZ G 16 sf)] (S := List Int × (Nat → Int32)) (fun r u => r = some (.int (sg (tn ax.toInt ay.toInt bx.toInt by1.toInt cx.toInt cy.toInt))) ∧ kp zs u.1 ∧ okS u.1 u.2) (fun u => [(q 0, .inr (10, mF 0 n q co cr po tx ty)), (q 10, aI G 320 (rg u.1)), (q 11, aZ G 16 u.2)]) (fun _ => []) := by
  refine c_intro (cc := cX11_turn) (maxL := 13) (ret := (some .int)) (by decide) rfl (Nat.le_of_ble_eq_true rfl) (fun _ => by simp only [List.map_cons, List.map_nil]) ?_
  intro p e s m args below meth c Q A X hr hin E
  change J p l e rm_X11_turn s m args below meth c Q G A 13 0 0 0 [(0, .ref (q 0)), (1, .long ax), (3, .long ay), (5, .long bx), (7, .long by1), (9, .long cx), (11, .long cy)] [] [(q 0, .inr (10, mF t n q co cr po tx ty)), (q 10, aI G 320 (rg zs)), (q 11, aZ G 16 sf)]
  obtain ⟨⟨bax, bay⟩, ⟨bbx, bby1⟩, bcx, bcy⟩ := hP
  obtain ⟨z0, z1, z2, z3, z4, z5, z6, z7, z8, z9, z10, z11, z12, z13, z14, z15, rfl⟩ := l16 hl
  refine j_aload_n X dX11_turn_0 rfl 0 rfl ?_
  refine j_lload_n X dX11_turn_1 rfl 1 rfl ?_
  refine j_lload_n X dX11_turn_2 rfl 2 rfl ?_
  refine j_callS X dX11_turn_3 (c_X11_isPlace l G ax ay) gX11_turn_X11_isPlace rfl hy_X11_isPlace_S ⟨Nat.le_of_ble_eq_true rfl, Nat.le_of_ble_eq_true rfl⟩ [] rfl (by decide) rfl rfl (Nat.le_of_ble_eq_true rfl) ⟨Nat.le_of_ble_eq_true rfl, Nat.le_of_ble_eq_true rfl⟩ ?_
  rintro _ ⟨⟩ rfl
  change J p l e rm_X11_turn s m args below meth c Q G A 13 0 0 6 [(0, .ref (q 0)), (1, .long ax), (3, .long ay), (5, .long bx), (7, .long by1), (9, .long cx), (11, .long cy)] [.int (bI (inC ax.toInt ∧ inC ay.toInt)), .ref (q 0)] [(q 0, .inr (10, mF t n q co cr po tx ty)), (q 10, aI G 320 (rg [z0, z1, z2, z3, z4, z5, z6, z7, z8, z9, z10, z11, z12, z13, z14, z15])), (q 11, aZ G 16 sf)]
  refine j_if_eq (tgt := 33) X dX11_turn_6 (by decide) (fun c_6 => ?_) (fun c_6 => ?_)
  · skip
    first | simp only [bI_0, Decidable.not_not, sg_mul, sg_e0, sg_l0, sg_g0, sg_le0, sg_ge0, cmp_eq, cmp_lt, cmp_ge, cmp_gt, cmp_le, lT0, lT1] at c_6 | simp only [Int32.le_iff_toInt_le, Int32.lt_iff_toInt_lt, ← Int32.toInt_inj, iT0, iT1, iT2, iT3, iT4, iT5, iT6, iT7, iT8, iT9, iT10, iT11, iT12, iT13, iT14, iT15, iT16, iT19, iT20, iT31, iT32, iT42, iT64, iT200, iT318, iT319, iT1000, iTm1, iTm2] at c_6 | skip
    exfalso; omega
  · skip
    first | simp only [bI_0, Decidable.not_not, sg_mul, sg_e0, sg_l0, sg_g0, sg_le0, sg_ge0, cmp_eq, cmp_lt, cmp_ge, cmp_gt, cmp_le, lT0, lT1] at c_6 | simp only [Int32.le_iff_toInt_le, Int32.lt_iff_toInt_lt, ← Int32.toInt_inj, iT0, iT1, iT2, iT3, iT4, iT5, iT6, iT7, iT8, iT9, iT10, iT11, iT12, iT13, iT14, iT15, iT16, iT19, iT20, iT31, iT32, iT42, iT64, iT200, iT318, iT319, iT1000, iTm1, iTm2] at c_6 | skip
    refine j_lload X dX11_turn_9 3 rfl ?_
    refine j_lload X dX11_turn_11 4 rfl ?_
    refine j_callS X dX11_turn_13 (c_X11_isPlace l G bx by1) gX11_turn_X11_isPlace rfl hy_X11_isPlace_S ⟨Nat.le_of_ble_eq_true rfl, Nat.le_of_ble_eq_true rfl⟩ [] rfl (by decide) rfl rfl (Nat.le_of_ble_eq_true rfl) ⟨Nat.le_of_ble_eq_true rfl, Nat.le_of_ble_eq_true rfl⟩ ?_
    rintro _ ⟨⟩ rfl
    change J p l e rm_X11_turn s m args below meth c Q G A 13 0 0 16 [(0, .ref (q 0)), (1, .long ax), (3, .long ay), (5, .long bx), (7, .long by1), (9, .long cx), (11, .long cy)] [.int (bI (inC bx.toInt ∧ inC by1.toInt)), .ref (q 0)] [(q 0, .inr (10, mF t n q co cr po tx ty)), (q 10, aI G 320 (rg [z0, z1, z2, z3, z4, z5, z6, z7, z8, z9, z10, z11, z12, z13, z14, z15])), (q 11, aZ G 16 sf)]
    refine j_if_eq (tgt := 33) X dX11_turn_16 (by decide) (fun c_16 => ?_) (fun c_16 => ?_)
    · skip
      first | simp only [bI_0, Decidable.not_not, sg_mul, sg_e0, sg_l0, sg_g0, sg_le0, sg_ge0, cmp_eq, cmp_lt, cmp_ge, cmp_gt, cmp_le, lT0, lT1] at c_16 | simp only [Int32.le_iff_toInt_le, Int32.lt_iff_toInt_lt, ← Int32.toInt_inj, iT0, iT1, iT2, iT3, iT4, iT5, iT6, iT7, iT8, iT9, iT10, iT11, iT12, iT13, iT14, iT15, iT16, iT19, iT20, iT31, iT32, iT42, iT64, iT200, iT318, iT319, iT1000, iTm1, iTm2] at c_16 | skip
      exfalso; omega
    · skip
      first | simp only [bI_0, Decidable.not_not, sg_mul, sg_e0, sg_l0, sg_g0, sg_le0, sg_ge0, cmp_eq, cmp_lt, cmp_ge, cmp_gt, cmp_le, lT0, lT1] at c_16 | simp only [Int32.le_iff_toInt_le, Int32.lt_iff_toInt_lt, ← Int32.toInt_inj, iT0, iT1, iT2, iT3, iT4, iT5, iT6, iT7, iT8, iT9, iT10, iT11, iT12, iT13, iT14, iT15, iT16, iT19, iT20, iT31, iT32, iT42, iT64, iT200, iT318, iT319, iT1000, iTm1, iTm2] at c_16 | skip
      refine j_lload X dX11_turn_19 5 rfl ?_
      refine j_lload X dX11_turn_21 6 rfl ?_
      refine j_callS X dX11_turn_23 (c_X11_isPlace l G cx cy) gX11_turn_X11_isPlace rfl hy_X11_isPlace_S ⟨Nat.le_of_ble_eq_true rfl, Nat.le_of_ble_eq_true rfl⟩ [] rfl (by decide) rfl rfl (Nat.le_of_ble_eq_true rfl) ⟨Nat.le_of_ble_eq_true rfl, Nat.le_of_ble_eq_true rfl⟩ ?_
      rintro _ ⟨⟩ rfl
      change J p l e rm_X11_turn s m args below meth c Q G A 13 0 0 26 [(0, .ref (q 0)), (1, .long ax), (3, .long ay), (5, .long bx), (7, .long by1), (9, .long cx), (11, .long cy)] [.int (bI (inC cx.toInt ∧ inC cy.toInt)), .ref (q 0)] [(q 0, .inr (10, mF t n q co cr po tx ty)), (q 10, aI G 320 (rg [z0, z1, z2, z3, z4, z5, z6, z7, z8, z9, z10, z11, z12, z13, z14, z15])), (q 11, aZ G 16 sf)]
      refine j_if_eq (tgt := 33) X dX11_turn_26 (by decide) (fun c_26 => ?_) (fun c_26 => ?_)
      · skip
        first | simp only [bI_0, Decidable.not_not, sg_mul, sg_e0, sg_l0, sg_g0, sg_le0, sg_ge0, cmp_eq, cmp_lt, cmp_ge, cmp_gt, cmp_le, lT0, lT1] at c_26 | simp only [Int32.le_iff_toInt_le, Int32.lt_iff_toInt_lt, ← Int32.toInt_inj, iT0, iT1, iT2, iT3, iT4, iT5, iT6, iT7, iT8, iT9, iT10, iT11, iT12, iT13, iT14, iT15, iT16, iT19, iT20, iT31, iT32, iT42, iT64, iT200, iT318, iT319, iT1000, iTm1, iTm2] at c_26 | skip
        exfalso; omega
      · skip
        first | simp only [bI_0, Decidable.not_not, sg_mul, sg_e0, sg_l0, sg_g0, sg_le0, sg_ge0, cmp_eq, cmp_lt, cmp_ge, cmp_gt, cmp_le, lT0, lT1] at c_26 | simp only [Int32.le_iff_toInt_le, Int32.lt_iff_toInt_lt, ← Int32.toInt_inj, iT0, iT1, iT2, iT3, iT4, iT5, iT6, iT7, iT8, iT9, iT10, iT11, iT12, iT13, iT14, iT15, iT16, iT19, iT20, iT31, iT32, iT42, iT64, iT200, iT318, iT319, iT1000, iTm1, iTm2] at c_26 | skip
        refine j_iconst (v := 0) X dX11_turn_29 rfl ?_
        refine j_goto (tgt := 34) X dX11_turn_30 (by decide) ?_
        refine j_put (ws' := [(q 0, .inr (10, mF 0 n q co cr po tx ty)), (q 10, aI G 320 (rg [z0, z1, z2, z3, z4, z5, z6, z7, z8, z9, z10, z11, z12, z13, z14, z15])), (q 11, aZ G 16 sf)]) X dX11_turn_34 0 rfl 0 rfl in_X11_turn_X11 tyX11 tyX11_ok nmX11 (by decide) fl_X11_turn_48 rfl rfl rfl rfl (Nat.le_of_ble_eq_true rfl) rfl ?_
        refine j_aload_n X dX11_turn_37 rfl 0 rfl ?_
        refine j_get (v := .int 0) X dX11_turn_38 0 rfl 0 rfl in_X11_turn_X11 (by decide) fl_X11_turn_48 rfl ?_
        refine j_if_eq (tgt := 48) X dX11_turn_41 (by decide) (fun _ => ?_) (fun c9 => absurd c9 (by decide))
        refine j_aload_n X dX11_turn_48 rfl 0 rfl ?_
        refine j_lload_n X dX11_turn_49 rfl 1 rfl ?_
        refine j_lload_n X dX11_turn_50 rfl 2 rfl ?_
        refine j_lload X dX11_turn_51 3 rfl ?_
        refine j_lload X dX11_turn_53 4 rfl ?_
        refine j_lload X dX11_turn_55 5 rfl ?_
        refine j_lload X dX11_turn_57 6 rfl ?_
        refine j_callV X dX11_turn_59 (n_turnOf l G q 0 n co cr po tx ty [z0, z1, z2, z3, z4, z5, z6, z7, z8, z9, z10, z11, z12, z13, z14, z15] sf rfl hS ax ay bx by1 cx cy bax bay bbx bby1 bcx bcy) gX11_turn_X11_turnOf rfl hy_X11_turnOf_V ⟨Nat.le_of_ble_eq_true rfl, Nat.le_of_ble_eq_true rfl⟩ 0 rfl rfl [0, 1, 2] rfl (by decide) rfl rfl (Nat.le_of_ble_eq_true rfl) ⟨Nat.le_of_ble_eq_true rfl, Nat.le_of_ble_eq_true rfl⟩ ?_
        rintro _ ⟨zs_2, sf_1⟩ ⟨rfl, hk_sf_1, hS_sf_1⟩
        obtain ⟨y4_sf_1, y5_sf_1, y6_sf_1, y7_sf_1, y8_sf_1, y9_sf_1, y10_sf_1, y11_sf_1, y12_sf_1, y13_sf_1, y14_sf_1, y15_sf_1, rfl⟩ := kp_4 hk_sf_1
        change J p l e rm_X11_turn s m args below meth c Q G A 13 0 0 62 [(0, .ref (q 0)), (1, .long ax), (3, .long ay), (5, .long bx), (7, .long by1), (9, .long cx), (11, .long cy)] [.int (sg (tn ax.toInt ay.toInt bx.toInt by1.toInt cx.toInt cy.toInt))] [(q 0, .inr (10, mF 0 n q co cr po tx ty)), (q 10, aI G 320 (rg [z0, z1, z2, z3, y4_sf_1, y5_sf_1, y6_sf_1, y7_sf_1, y8_sf_1, y9_sf_1, y10_sf_1, y11_sf_1, y12_sf_1, y13_sf_1, y14_sf_1, y15_sf_1])), (q 11, aZ G 16 sf_1)]
        exact E.2.1 62 _ (sg (tn ax.toInt ay.toInt bx.toInt by1.toInt cx.toInt cy.toInt)) ([z0, z1, z2, z3, y4_sf_1, y5_sf_1, y6_sf_1, y7_sf_1, y8_sf_1, y9_sf_1, y10_sf_1, y11_sf_1, y12_sf_1, y13_sf_1, y14_sf_1, y15_sf_1], sf_1) _ dX11_turn_62 (⟨rfl, kp_i, hS_sf_1⟩) hr rfl

abbrev rm_X11_made : Room := { frames := 0, cells := 0, slots := 0, locals := 0 }
theorem in_X11_made_X11 : ∀ w ∈ u_ws RX11 TX11 19, w ∈ wsX11_made := by decide +kernel
theorem fl_X11_made_109 : Cond.fieldLink RX11 109 (TX11 1).1 (TX11 1).2.1 (TX11 1).2.2.1 ∈ wsX11_made := by decide +kernel
theorem fl_X11_made_7 : Cond.fieldLink RX11 7 (TX11 2).1 (TX11 2).2.1 (TX11 2).2.2.1 ∈ wsX11_made := by decide +kernel
theorem fl_X11_made_13 : Cond.fieldLink RX11 13 (TX11 3).1 (TX11 3).2.1 (TX11 3).2.2.1 ∈ wsX11_made := by decide +kernel
theorem fl_X11_made_17 : Cond.fieldLink RX11 17 (TX11 4).1 (TX11 4).2.1 (TX11 4).2.2.1 ∈ wsX11_made := by decide +kernel
theorem fl_X11_made_20 : Cond.fieldLink RX11 20 (TX11 5).1 (TX11 5).2.1 (TX11 5).2.2.1 ∈ wsX11_made := by decide +kernel
theorem fl_X11_made_23 : Cond.fieldLink RX11 23 (TX11 6).1 (TX11 6).2.1 (TX11 6).2.2.1 ∈ wsX11_made := by decide +kernel
set_option maxHeartbeats 4000000 in
set_option maxRecDepth 100000 in
theorem c_X11_made_0 (l : Launch) (G : jG) (q : Nat → Nat) (t co cr po : Int32) (tx ty : Int64) (fa : Nat → Int32) (f1 f2 f3 f4 : Nat → Int64) (N : Nat) (gN : N < 200) (xa xb xc xd : Int64) : Ct l yX11_made wsX11_made rm_X11_made G [.ref (q 0), .int 0, .long xa, .long xb, .long xc, .long xd] [(q 0, .inr (10, mF t (nI N) q co cr po tx ty)), (q 1, aZ G 200 fa), (q 2, aJ G 200 f1), (q 3, aJ G 200 f2), (q 4, aJ G 200 f3), (q 5, aJ G 200 f4)] (S := Unit) (fun r _ => r = some (.int (nI N))) (fun _ => [(q 0, .inr (10, mF t (nI (N + 1)) q co cr po tx ty)), (q 1, aZ G 200 (upd fa N 0)), (q 2, aJ G 200 (vp_updL f1 N xa)), (q 3, aJ G 200 (vp_updL f2 N xb)), (q 4, aJ G 200 (vp_updL f3 N xc)), (q 5, aJ G 200 (vp_updL f4 N xd))]) (fun _ => []) := by
  refine c_intro (cc := cX11_made) (maxL := 10) (ret := (some .int)) (by decide) rfl (Nat.le_of_ble_eq_true rfl) (fun _ => by simp only [List.map_cons, List.map_nil]) ?_
  intro p e s m args below meth c Q A X hr hin E
  change J p l e rm_X11_made s m args below meth c Q G A 10 0 0 0 [(0, .ref (q 0)), (1, .int 0), (2, .long xa), (4, .long xb), (6, .long xc), (8, .long xd)] [] [(q 0, .inr (10, mF t (nI N) q co cr po tx ty)), (q 1, aZ G 200 fa), (q 2, aJ G 200 f1), (q 3, aJ G 200 f2), (q 4, aJ G 200 f3), (q 5, aJ G 200 f4)]
  refine j_aload_n X dX11_made_0 rfl 0 rfl ?_
  refine j_get (v := .int (nI N)) X dX11_made_1 0 rfl 1 rfl in_X11_made_X11 (by decide) fl_X11_made_109 rfl ?_
  refine j_sipush (v := 200) X dX11_made_4 (by decide) ?_
  refine j_icmp_ne (tgt := 12) X dX11_made_7 (by decide) (fun c_7 => ?_) (fun c_7 => ?_)
  · skip
    first | simp only [bI_0, Decidable.not_not, sg_mul, sg_e0, sg_l0, sg_g0, sg_le0, sg_ge0, cmp_eq, cmp_lt, cmp_ge, cmp_gt, cmp_le, lT0, lT1] at c_7 | simp only [Int32.le_iff_toInt_le, Int32.lt_iff_toInt_lt, ← Int32.toInt_inj, iT0, iT1, iT2, iT3, iT4, iT5, iT6, iT7, iT8, iT9, iT10, iT11, iT12, iT13, iT14, iT15, iT16, iT19, iT20, iT31, iT32, iT42, iT64, iT200, iT318, iT319, iT1000, iTm1, iTm2] at c_7 | skip
    refine j_aload_n X dX11_made_12 rfl 0 rfl ?_
    refine j_get (v := .ref (q 1)) X dX11_made_13 0 rfl 2 rfl in_X11_made_X11 (by decide) fl_X11_made_7 rfl ?_
    refine j_aload_n X dX11_made_16 rfl 0 rfl ?_
    refine j_get (v := .int (nI N)) X dX11_made_17 0 rfl 1 rfl in_X11_made_X11 (by decide) fl_X11_made_109 rfl ?_
    refine j_iload_n X dX11_made_20 rfl 1 rfl ?_
    refine j_zast (ws' := [(q 0, .inr (10, mF t (nI N) q co cr po tx ty)), (q 1, aZ G 200 (upd fa N 0)), (q 2, aJ G 200 f1), (q 3, aJ G 200 f2), (q 4, aJ G 200 f3), (q 5, aJ G 200 f4)]) X dX11_made_21 1 rfl N rfl gN (by decide) (Or.inl rfl) rfl ?_
    refine j_aload_n X dX11_made_22 rfl 0 rfl ?_
    refine j_get (v := .ref (q 2)) X dX11_made_23 0 rfl 3 rfl in_X11_made_X11 (by decide) fl_X11_made_13 rfl ?_
    refine j_aload_n X dX11_made_26 rfl 0 rfl ?_
    refine j_get (v := .int (nI N)) X dX11_made_27 0 rfl 1 rfl in_X11_made_X11 (by decide) fl_X11_made_109 rfl ?_
    refine j_lload_n X dX11_made_30 rfl 2 rfl ?_
    refine j_last (ws' := [(q 0, .inr (10, mF t (nI N) q co cr po tx ty)), (q 1, aZ G 200 (upd fa N 0)), (q 2, aJ G 200 (vp_updL f1 N xa)), (q 3, aJ G 200 f2), (q 4, aJ G 200 f3), (q 5, aJ G 200 f4)]) X dX11_made_31 2 rfl N rfl gN (by decide) rfl ?_
    refine j_aload_n X dX11_made_32 rfl 0 rfl ?_
    refine j_get (v := .ref (q 3)) X dX11_made_33 0 rfl 4 rfl in_X11_made_X11 (by decide) fl_X11_made_17 rfl ?_
    refine j_aload_n X dX11_made_36 rfl 0 rfl ?_
    refine j_get (v := .int (nI N)) X dX11_made_37 0 rfl 1 rfl in_X11_made_X11 (by decide) fl_X11_made_109 rfl ?_
    refine j_lload X dX11_made_40 3 rfl ?_
    refine j_last (ws' := [(q 0, .inr (10, mF t (nI N) q co cr po tx ty)), (q 1, aZ G 200 (upd fa N 0)), (q 2, aJ G 200 (vp_updL f1 N xa)), (q 3, aJ G 200 (vp_updL f2 N xb)), (q 4, aJ G 200 f3), (q 5, aJ G 200 f4)]) X dX11_made_42 3 rfl N rfl gN (by decide) rfl ?_
    refine j_aload_n X dX11_made_43 rfl 0 rfl ?_
    refine j_get (v := .ref (q 4)) X dX11_made_44 0 rfl 5 rfl in_X11_made_X11 (by decide) fl_X11_made_20 rfl ?_
    refine j_aload_n X dX11_made_47 rfl 0 rfl ?_
    refine j_get (v := .int (nI N)) X dX11_made_48 0 rfl 1 rfl in_X11_made_X11 (by decide) fl_X11_made_109 rfl ?_
    refine j_lload X dX11_made_51 4 rfl ?_
    refine j_last (ws' := [(q 0, .inr (10, mF t (nI N) q co cr po tx ty)), (q 1, aZ G 200 (upd fa N 0)), (q 2, aJ G 200 (vp_updL f1 N xa)), (q 3, aJ G 200 (vp_updL f2 N xb)), (q 4, aJ G 200 (vp_updL f3 N xc)), (q 5, aJ G 200 f4)]) X dX11_made_53 4 rfl N rfl gN (by decide) rfl ?_
    refine j_aload_n X dX11_made_54 rfl 0 rfl ?_
    refine j_get (v := .ref (q 5)) X dX11_made_55 0 rfl 6 rfl in_X11_made_X11 (by decide) fl_X11_made_23 rfl ?_
    refine j_aload_n X dX11_made_58 rfl 0 rfl ?_
    refine j_get (v := .int (nI N)) X dX11_made_59 0 rfl 1 rfl in_X11_made_X11 (by decide) fl_X11_made_109 rfl ?_
    refine j_lload X dX11_made_62 5 rfl ?_
    refine j_last (ws' := [(q 0, .inr (10, mF t (nI N) q co cr po tx ty)), (q 1, aZ G 200 (upd fa N 0)), (q 2, aJ G 200 (vp_updL f1 N xa)), (q 3, aJ G 200 (vp_updL f2 N xb)), (q 4, aJ G 200 (vp_updL f3 N xc)), (q 5, aJ G 200 (vp_updL f4 N xd))]) X dX11_made_64 5 rfl N rfl gN (by decide) rfl ?_
    refine j_aload_n X dX11_made_65 rfl 0 rfl ?_
    refine j_dup X dX11_made_66 rfl ?_
    refine j_get (v := .int (nI N)) X dX11_made_67 0 rfl 1 rfl in_X11_made_X11 (by decide) fl_X11_made_109 rfl ?_
    refine j_iconst (v := 1) X dX11_made_70 rfl ?_
    refine j_iadd X dX11_made_71 ?_
    refine j_topi (fun x_1 ex_1 => ?_)
    refine j_put (ws' := [(q 0, .inr (10, mF t x_1 q co cr po tx ty)), (q 1, aZ G 200 (upd fa N 0)), (q 2, aJ G 200 (vp_updL f1 N xa)), (q 3, aJ G 200 (vp_updL f2 N xb)), (q 4, aJ G 200 (vp_updL f3 N xc)), (q 5, aJ G 200 (vp_updL f4 N xd))]) X dX11_made_72 0 rfl 1 rfl in_X11_made_X11 tyX11 tyX11_ok nmX11 (by decide) fl_X11_made_109 rfl rfl rfl rfl (Nat.le_of_ble_eq_true rfl) rfl ?_
    obtain rfl : x_1 = nI (N + 1) := by rw [ex_1]; exact nI_s (by omega)
    refine j_aload_n X dX11_made_75 rfl 0 rfl ?_
    refine j_get (v := .int (nI (N + 1))) X dX11_made_76 0 rfl 1 rfl in_X11_made_X11 (by decide) fl_X11_made_109 rfl ?_
    refine j_iconst (v := 1) X dX11_made_79 rfl ?_
    refine j_isub X dX11_made_80 ?_
    exact E.2.1 81 _ ((nI (N + 1)) - 1) () _ dX11_made_81 (by rw [nI_p (by omega)]) hr rfl
  · skip
    first | simp only [bI_0, Decidable.not_not, sg_mul, sg_e0, sg_l0, sg_g0, sg_le0, sg_ge0, cmp_eq, cmp_lt, cmp_ge, cmp_gt, cmp_le, lT0, lT1] at c_7 | simp only [Int32.le_iff_toInt_le, Int32.lt_iff_toInt_lt, ← Int32.toInt_inj, iT0, iT1, iT2, iT3, iT4, iT5, iT6, iT7, iT8, iT9, iT10, iT11, iT12, iT13, iT14, iT15, iT16, iT19, iT20, iT31, iT32, iT42, iT64, iT200, iT318, iT319, iT1000, iTm1, iTm2] at c_7 | skip
    rw [nI_T (by omega)] at c_7
    exfalso; omega

theorem hy_X11_made_V : yX11_made.cls = RX11 ∧ yX11_made.cls ≠ "java/lang/invoke/MethodHandle" ∧ yX11_made.cls ≠ "java/lang/invoke/VarHandle" ∧ (parseMethodDescriptor yX11_made.desc).map (fun d => d.parameters.length) = some 5 := by decide +kernel
set_option maxHeartbeats 4000000 in
set_option maxRecDepth 100000 in
theorem c_X11_made_1 (l : Launch) (G : jG) (q : Nat → Nat) (t co cr po : Int32) (tx ty : Int64) (fa : Nat → Int32) (f1 f2 f3 f4 : Nat → Int64) (N : Nat) (gN : N < 200) (xa xb xc xd : Int64) : Ct l yX11_made wsX11_made rm_X11_made G [.ref (q 0), .int 1, .long xa, .long xb, .long xc, .long xd] [(q 0, .inr (10, mF t (nI N) q co cr po tx ty)), (q 1, aZ G 200 fa), (q 2, aJ G 200 f1), (q 3, aJ G 200 f2), (q 4, aJ G 200 f3), (q 5, aJ G 200 f4)] (S := Unit) (fun r _ => r = some (.int (nI N))) (fun _ => [(q 0, .inr (10, mF t (nI (N + 1)) q co cr po tx ty)), (q 1, aZ G 200 (upd fa N 1)), (q 2, aJ G 200 (vp_updL f1 N xa)), (q 3, aJ G 200 (vp_updL f2 N xb)), (q 4, aJ G 200 (vp_updL f3 N xc)), (q 5, aJ G 200 (vp_updL f4 N xd))]) (fun _ => []) := by
  refine c_intro (cc := cX11_made) (maxL := 10) (ret := (some .int)) (by decide) rfl (Nat.le_of_ble_eq_true rfl) (fun _ => by simp only [List.map_cons, List.map_nil]) ?_
  intro p e s m args below meth c Q A X hr hin E
  change J p l e rm_X11_made s m args below meth c Q G A 10 0 0 0 [(0, .ref (q 0)), (1, .int 1), (2, .long xa), (4, .long xb), (6, .long xc), (8, .long xd)] [] [(q 0, .inr (10, mF t (nI N) q co cr po tx ty)), (q 1, aZ G 200 fa), (q 2, aJ G 200 f1), (q 3, aJ G 200 f2), (q 4, aJ G 200 f3), (q 5, aJ G 200 f4)]
  refine j_aload_n X dX11_made_0 rfl 0 rfl ?_
  refine j_get (v := .int (nI N)) X dX11_made_1 0 rfl 1 rfl in_X11_made_X11 (by decide) fl_X11_made_109 rfl ?_
  refine j_sipush (v := 200) X dX11_made_4 (by decide) ?_
  refine j_icmp_ne (tgt := 12) X dX11_made_7 (by decide) (fun c_7 => ?_) (fun c_7 => ?_)
  · skip
    first | simp only [bI_0, Decidable.not_not, sg_mul, sg_e0, sg_l0, sg_g0, sg_le0, sg_ge0, cmp_eq, cmp_lt, cmp_ge, cmp_gt, cmp_le, lT0, lT1] at c_7 | simp only [Int32.le_iff_toInt_le, Int32.lt_iff_toInt_lt, ← Int32.toInt_inj, iT0, iT1, iT2, iT3, iT4, iT5, iT6, iT7, iT8, iT9, iT10, iT11, iT12, iT13, iT14, iT15, iT16, iT19, iT20, iT31, iT32, iT42, iT64, iT200, iT318, iT319, iT1000, iTm1, iTm2] at c_7 | skip
    refine j_aload_n X dX11_made_12 rfl 0 rfl ?_
    refine j_get (v := .ref (q 1)) X dX11_made_13 0 rfl 2 rfl in_X11_made_X11 (by decide) fl_X11_made_7 rfl ?_
    refine j_aload_n X dX11_made_16 rfl 0 rfl ?_
    refine j_get (v := .int (nI N)) X dX11_made_17 0 rfl 1 rfl in_X11_made_X11 (by decide) fl_X11_made_109 rfl ?_
    refine j_iload_n X dX11_made_20 rfl 1 rfl ?_
    refine j_zast (ws' := [(q 0, .inr (10, mF t (nI N) q co cr po tx ty)), (q 1, aZ G 200 (upd fa N 1)), (q 2, aJ G 200 f1), (q 3, aJ G 200 f2), (q 4, aJ G 200 f3), (q 5, aJ G 200 f4)]) X dX11_made_21 1 rfl N rfl gN (by decide) (Or.inr rfl) rfl ?_
    refine j_aload_n X dX11_made_22 rfl 0 rfl ?_
    refine j_get (v := .ref (q 2)) X dX11_made_23 0 rfl 3 rfl in_X11_made_X11 (by decide) fl_X11_made_13 rfl ?_
    refine j_aload_n X dX11_made_26 rfl 0 rfl ?_
    refine j_get (v := .int (nI N)) X dX11_made_27 0 rfl 1 rfl in_X11_made_X11 (by decide) fl_X11_made_109 rfl ?_
    refine j_lload_n X dX11_made_30 rfl 2 rfl ?_
    refine j_last (ws' := [(q 0, .inr (10, mF t (nI N) q co cr po tx ty)), (q 1, aZ G 200 (upd fa N 1)), (q 2, aJ G 200 (vp_updL f1 N xa)), (q 3, aJ G 200 f2), (q 4, aJ G 200 f3), (q 5, aJ G 200 f4)]) X dX11_made_31 2 rfl N rfl gN (by decide) rfl ?_
    refine j_aload_n X dX11_made_32 rfl 0 rfl ?_
    refine j_get (v := .ref (q 3)) X dX11_made_33 0 rfl 4 rfl in_X11_made_X11 (by decide) fl_X11_made_17 rfl ?_
    refine j_aload_n X dX11_made_36 rfl 0 rfl ?_
    refine j_get (v := .int (nI N)) X dX11_made_37 0 rfl 1 rfl in_X11_made_X11 (by decide) fl_X11_made_109 rfl ?_
    refine j_lload X dX11_made_40 3 rfl ?_
    refine j_last (ws' := [(q 0, .inr (10, mF t (nI N) q co cr po tx ty)), (q 1, aZ G 200 (upd fa N 1)), (q 2, aJ G 200 (vp_updL f1 N xa)), (q 3, aJ G 200 (vp_updL f2 N xb)), (q 4, aJ G 200 f3), (q 5, aJ G 200 f4)]) X dX11_made_42 3 rfl N rfl gN (by decide) rfl ?_
    refine j_aload_n X dX11_made_43 rfl 0 rfl ?_
    refine j_get (v := .ref (q 4)) X dX11_made_44 0 rfl 5 rfl in_X11_made_X11 (by decide) fl_X11_made_20 rfl ?_
    refine j_aload_n X dX11_made_47 rfl 0 rfl ?_
    refine j_get (v := .int (nI N)) X dX11_made_48 0 rfl 1 rfl in_X11_made_X11 (by decide) fl_X11_made_109 rfl ?_
    refine j_lload X dX11_made_51 4 rfl ?_
    refine j_last (ws' := [(q 0, .inr (10, mF t (nI N) q co cr po tx ty)), (q 1, aZ G 200 (upd fa N 1)), (q 2, aJ G 200 (vp_updL f1 N xa)), (q 3, aJ G 200 (vp_updL f2 N xb)), (q 4, aJ G 200 (vp_updL f3 N xc)), (q 5, aJ G 200 f4)]) X dX11_made_53 4 rfl N rfl gN (by decide) rfl ?_
    refine j_aload_n X dX11_made_54 rfl 0 rfl ?_
    refine j_get (v := .ref (q 5)) X dX11_made_55 0 rfl 6 rfl in_X11_made_X11 (by decide) fl_X11_made_23 rfl ?_
    refine j_aload_n X dX11_made_58 rfl 0 rfl ?_
    refine j_get (v := .int (nI N)) X dX11_made_59 0 rfl 1 rfl in_X11_made_X11 (by decide) fl_X11_made_109 rfl ?_
    refine j_lload X dX11_made_62 5 rfl ?_
    refine j_last (ws' := [(q 0, .inr (10, mF t (nI N) q co cr po tx ty)), (q 1, aZ G 200 (upd fa N 1)), (q 2, aJ G 200 (vp_updL f1 N xa)), (q 3, aJ G 200 (vp_updL f2 N xb)), (q 4, aJ G 200 (vp_updL f3 N xc)), (q 5, aJ G 200 (vp_updL f4 N xd))]) X dX11_made_64 5 rfl N rfl gN (by decide) rfl ?_
    refine j_aload_n X dX11_made_65 rfl 0 rfl ?_
    refine j_dup X dX11_made_66 rfl ?_
    refine j_get (v := .int (nI N)) X dX11_made_67 0 rfl 1 rfl in_X11_made_X11 (by decide) fl_X11_made_109 rfl ?_
    refine j_iconst (v := 1) X dX11_made_70 rfl ?_
    refine j_iadd X dX11_made_71 ?_
    refine j_topi (fun x_1 ex_1 => ?_)
    refine j_put (ws' := [(q 0, .inr (10, mF t x_1 q co cr po tx ty)), (q 1, aZ G 200 (upd fa N 1)), (q 2, aJ G 200 (vp_updL f1 N xa)), (q 3, aJ G 200 (vp_updL f2 N xb)), (q 4, aJ G 200 (vp_updL f3 N xc)), (q 5, aJ G 200 (vp_updL f4 N xd))]) X dX11_made_72 0 rfl 1 rfl in_X11_made_X11 tyX11 tyX11_ok nmX11 (by decide) fl_X11_made_109 rfl rfl rfl rfl (Nat.le_of_ble_eq_true rfl) rfl ?_
    obtain rfl : x_1 = nI (N + 1) := by rw [ex_1]; exact nI_s (by omega)
    refine j_aload_n X dX11_made_75 rfl 0 rfl ?_
    refine j_get (v := .int (nI (N + 1))) X dX11_made_76 0 rfl 1 rfl in_X11_made_X11 (by decide) fl_X11_made_109 rfl ?_
    refine j_iconst (v := 1) X dX11_made_79 rfl ?_
    refine j_isub X dX11_made_80 ?_
    exact E.2.1 81 _ ((nI (N + 1)) - 1) () _ dX11_made_81 (by rw [nI_p (by omega)]) hr rfl
  · skip
    first | simp only [bI_0, Decidable.not_not, sg_mul, sg_e0, sg_l0, sg_g0, sg_le0, sg_ge0, cmp_eq, cmp_lt, cmp_ge, cmp_gt, cmp_le, lT0, lT1] at c_7 | simp only [Int32.le_iff_toInt_le, Int32.lt_iff_toInt_lt, ← Int32.toInt_inj, iT0, iT1, iT2, iT3, iT4, iT5, iT6, iT7, iT8, iT9, iT10, iT11, iT12, iT13, iT14, iT15, iT16, iT19, iT20, iT31, iT32, iT42, iT64, iT200, iT318, iT319, iT1000, iTm1, iTm2] at c_7 | skip
    rw [nI_T (by omega)] at c_7
    exfalso; omega

abbrev rm_X11_segment : Room := { frames := 2, cells := 0, slots := 0, locals := 44 }
theorem in_X11_segment_X11 : ∀ w ∈ u_ws RX11 TX11 19, w ∈ wsX11_segment := by decide +kernel
theorem fl_X11_segment_48 : Cond.fieldLink RX11 48 (TX11 0).1 (TX11 0).2.1 (TX11 0).2.2.1 ∈ wsX11_segment := by decide +kernel
set_option maxHeartbeats 4000000 in
set_option maxRecDepth 100000 in
theorem c_X11_segment_no (l : Launch) (G : jG) (q : Nat → Nat) (t n co cr po : Int32) (tx ty : Int64) (ax ay bx by1 : Int64) (hP : ¬ (((inC ax.toInt ∧ inC ay.toInt) ∧ (inC bx.toInt ∧ inC by1.toInt)) ∧ ¬ (ax.toInt = bx.toInt ∧ ay.toInt = by1.toInt))) : Ct l yX11_segment wsX11_segment rm_X11_segment G [.ref (q 0), .long ax, .long ay, .long bx, .long by1] [(q 0, .inr (10, mF t n q co cr po tx ty))] (S := Unit) (fun r _ => r = some (.int 0)) (fun _ => [(q 0, .inr (10, mF 1 n q co cr po tx ty))]) (fun _ => []) := by
  refine c_intro (cc := cX11_segment) (maxL := 9) (ret := (some .int)) (by decide) rfl (Nat.le_of_ble_eq_true rfl) (fun _ => by simp only [List.map_cons, List.map_nil]) ?_
  intro p e s m args below meth c Q A X hr hin E
  change J p l e rm_X11_segment s m args below meth c Q G A 9 0 0 0 [(0, .ref (q 0)), (1, .long ax), (3, .long ay), (5, .long bx), (7, .long by1)] [] [(q 0, .inr (10, mF t n q co cr po tx ty))]
  refine j_aload_n X dX11_segment_0 rfl 0 rfl ?_
  refine j_lload_n X dX11_segment_1 rfl 1 rfl ?_
  refine j_lload_n X dX11_segment_2 rfl 2 rfl ?_
  refine j_callS X dX11_segment_3 (c_X11_isPlace l G ax ay) gX11_segment_X11_isPlace rfl hy_X11_isPlace_S ⟨Nat.le_of_ble_eq_true rfl, Nat.le_of_ble_eq_true rfl⟩ [] rfl (by decide) rfl rfl (Nat.le_of_ble_eq_true rfl) ⟨Nat.le_of_ble_eq_true rfl, Nat.le_of_ble_eq_true rfl⟩ ?_
  rintro _ ⟨⟩ rfl
  change J p l e rm_X11_segment s m args below meth c Q G A 9 0 0 6 [(0, .ref (q 0)), (1, .long ax), (3, .long ay), (5, .long bx), (7, .long by1)] [.int (bI (inC ax.toInt ∧ inC ay.toInt)), .ref (q 0)] [(q 0, .inr (10, mF t n q co cr po tx ty))]
  refine j_if_eq (tgt := 37) X dX11_segment_6 (by decide) (fun c_6 => ?_) (fun c_6 => ?_)
  · skip
    first | simp only [bI_0, Decidable.not_not, sg_mul, sg_e0, sg_l0, sg_g0, sg_le0, sg_ge0, cmp_eq, cmp_lt, cmp_ge, cmp_gt, cmp_le, lT0, lT1] at c_6 | simp only [Int32.le_iff_toInt_le, Int32.lt_iff_toInt_lt, ← Int32.toInt_inj, iT0, iT1, iT2, iT3, iT4, iT5, iT6, iT7, iT8, iT9, iT10, iT11, iT12, iT13, iT14, iT15, iT16, iT19, iT20, iT31, iT32, iT42, iT64, iT200, iT318, iT319, iT1000, iTm1, iTm2] at c_6 | skip
    refine j_iconst (v := 1) X dX11_segment_37 rfl ?_
    refine j_put (ws' := [(q 0, .inr (10, mF 1 n q co cr po tx ty))]) X dX11_segment_38 0 rfl 0 rfl in_X11_segment_X11 tyX11 tyX11_ok nmX11 (by decide) fl_X11_segment_48 rfl rfl rfl rfl (Nat.le_of_ble_eq_true rfl) rfl ?_
    refine j_aload_n X dX11_segment_41 rfl 0 rfl ?_
    refine j_get (v := .int 1) X dX11_segment_42 0 rfl 0 rfl in_X11_segment_X11 (by decide) fl_X11_segment_48 rfl ?_
    refine j_if_eq (tgt := 52) X dX11_segment_45 (by decide) (fun c9 => absurd c9 (by decide)) (fun _ => ?_)
    refine j_iconst (v := 0) X dX11_segment_48 rfl ?_
    refine j_goto (tgt := 63) X dX11_segment_49 (by decide) ?_
    exact E.2.1 63 _ 0 () _ dX11_segment_63 rfl hr rfl
  · skip
    first | simp only [bI_0, Decidable.not_not, sg_mul, sg_e0, sg_l0, sg_g0, sg_le0, sg_ge0, cmp_eq, cmp_lt, cmp_ge, cmp_gt, cmp_le, lT0, lT1] at c_6 | simp only [Int32.le_iff_toInt_le, Int32.lt_iff_toInt_lt, ← Int32.toInt_inj, iT0, iT1, iT2, iT3, iT4, iT5, iT6, iT7, iT8, iT9, iT10, iT11, iT12, iT13, iT14, iT15, iT16, iT19, iT20, iT31, iT32, iT42, iT64, iT200, iT318, iT319, iT1000, iTm1, iTm2] at c_6 | skip
    refine j_lload X dX11_segment_9 3 rfl ?_
    refine j_lload X dX11_segment_11 4 rfl ?_
    refine j_callS X dX11_segment_13 (c_X11_isPlace l G bx by1) gX11_segment_X11_isPlace rfl hy_X11_isPlace_S ⟨Nat.le_of_ble_eq_true rfl, Nat.le_of_ble_eq_true rfl⟩ [] rfl (by decide) rfl rfl (Nat.le_of_ble_eq_true rfl) ⟨Nat.le_of_ble_eq_true rfl, Nat.le_of_ble_eq_true rfl⟩ ?_
    rintro _ ⟨⟩ rfl
    change J p l e rm_X11_segment s m args below meth c Q G A 9 0 0 16 [(0, .ref (q 0)), (1, .long ax), (3, .long ay), (5, .long bx), (7, .long by1)] [.int (bI (inC bx.toInt ∧ inC by1.toInt)), .ref (q 0)] [(q 0, .inr (10, mF t n q co cr po tx ty))]
    refine j_if_eq (tgt := 37) X dX11_segment_16 (by decide) (fun c_16 => ?_) (fun c_16 => ?_)
    · skip
      first | simp only [bI_0, Decidable.not_not, sg_mul, sg_e0, sg_l0, sg_g0, sg_le0, sg_ge0, cmp_eq, cmp_lt, cmp_ge, cmp_gt, cmp_le, lT0, lT1] at c_16 | simp only [Int32.le_iff_toInt_le, Int32.lt_iff_toInt_lt, ← Int32.toInt_inj, iT0, iT1, iT2, iT3, iT4, iT5, iT6, iT7, iT8, iT9, iT10, iT11, iT12, iT13, iT14, iT15, iT16, iT19, iT20, iT31, iT32, iT42, iT64, iT200, iT318, iT319, iT1000, iTm1, iTm2] at c_16 | skip
      refine j_iconst (v := 1) X dX11_segment_37 rfl ?_
      refine j_put (ws' := [(q 0, .inr (10, mF 1 n q co cr po tx ty))]) X dX11_segment_38 0 rfl 0 rfl in_X11_segment_X11 tyX11 tyX11_ok nmX11 (by decide) fl_X11_segment_48 rfl rfl rfl rfl (Nat.le_of_ble_eq_true rfl) rfl ?_
      refine j_aload_n X dX11_segment_41 rfl 0 rfl ?_
      refine j_get (v := .int 1) X dX11_segment_42 0 rfl 0 rfl in_X11_segment_X11 (by decide) fl_X11_segment_48 rfl ?_
      refine j_if_eq (tgt := 52) X dX11_segment_45 (by decide) (fun c9 => absurd c9 (by decide)) (fun _ => ?_)
      refine j_iconst (v := 0) X dX11_segment_48 rfl ?_
      refine j_goto (tgt := 63) X dX11_segment_49 (by decide) ?_
      exact E.2.1 63 _ 0 () _ dX11_segment_63 rfl hr rfl
    · skip
      first | simp only [bI_0, Decidable.not_not, sg_mul, sg_e0, sg_l0, sg_g0, sg_le0, sg_ge0, cmp_eq, cmp_lt, cmp_ge, cmp_gt, cmp_le, lT0, lT1] at c_16 | simp only [Int32.le_iff_toInt_le, Int32.lt_iff_toInt_lt, ← Int32.toInt_inj, iT0, iT1, iT2, iT3, iT4, iT5, iT6, iT7, iT8, iT9, iT10, iT11, iT12, iT13, iT14, iT15, iT16, iT19, iT20, iT31, iT32, iT42, iT64, iT200, iT318, iT319, iT1000, iTm1, iTm2] at c_16 | skip
      refine j_lload_n X dX11_segment_19 rfl 1 rfl ?_
      refine j_lload X dX11_segment_20 3 rfl ?_
      refine j_lcmp X dX11_segment_22 ?_
      refine j_if_ne (tgt := 33) X dX11_segment_23 (by decide) (fun c_23 => ?_) (fun c_23 => ?_)
      · skip
        first | simp only [bI_0, Decidable.not_not, sg_mul, sg_e0, sg_l0, sg_g0, sg_le0, sg_ge0, cmp_eq, cmp_lt, cmp_ge, cmp_gt, cmp_le, lT0, lT1] at c_23 | simp only [Int32.le_iff_toInt_le, Int32.lt_iff_toInt_lt, ← Int32.toInt_inj, iT0, iT1, iT2, iT3, iT4, iT5, iT6, iT7, iT8, iT9, iT10, iT11, iT12, iT13, iT14, iT15, iT16, iT19, iT20, iT31, iT32, iT42, iT64, iT200, iT318, iT319, iT1000, iTm1, iTm2] at c_23 | skip
        exfalso; omega
      · skip
        first | simp only [bI_0, Decidable.not_not, sg_mul, sg_e0, sg_l0, sg_g0, sg_le0, sg_ge0, cmp_eq, cmp_lt, cmp_ge, cmp_gt, cmp_le, lT0, lT1] at c_23 | simp only [Int32.le_iff_toInt_le, Int32.lt_iff_toInt_lt, ← Int32.toInt_inj, iT0, iT1, iT2, iT3, iT4, iT5, iT6, iT7, iT8, iT9, iT10, iT11, iT12, iT13, iT14, iT15, iT16, iT19, iT20, iT31, iT32, iT42, iT64, iT200, iT318, iT319, iT1000, iTm1, iTm2] at c_23 | skip
        refine j_lload_n X dX11_segment_26 rfl 2 rfl ?_
        refine j_lload X dX11_segment_27 4 rfl ?_
        refine j_lcmp X dX11_segment_29 ?_
        refine j_if_eq (tgt := 37) X dX11_segment_30 (by decide) (fun c_30 => ?_) (fun c_30 => ?_)
        · skip
          first | simp only [bI_0, Decidable.not_not, sg_mul, sg_e0, sg_l0, sg_g0, sg_le0, sg_ge0, cmp_eq, cmp_lt, cmp_ge, cmp_gt, cmp_le, lT0, lT1] at c_30 | simp only [Int32.le_iff_toInt_le, Int32.lt_iff_toInt_lt, ← Int32.toInt_inj, iT0, iT1, iT2, iT3, iT4, iT5, iT6, iT7, iT8, iT9, iT10, iT11, iT12, iT13, iT14, iT15, iT16, iT19, iT20, iT31, iT32, iT42, iT64, iT200, iT318, iT319, iT1000, iTm1, iTm2] at c_30 | skip
          refine j_iconst (v := 1) X dX11_segment_37 rfl ?_
          refine j_put (ws' := [(q 0, .inr (10, mF 1 n q co cr po tx ty))]) X dX11_segment_38 0 rfl 0 rfl in_X11_segment_X11 tyX11 tyX11_ok nmX11 (by decide) fl_X11_segment_48 rfl rfl rfl rfl (Nat.le_of_ble_eq_true rfl) rfl ?_
          refine j_aload_n X dX11_segment_41 rfl 0 rfl ?_
          refine j_get (v := .int 1) X dX11_segment_42 0 rfl 0 rfl in_X11_segment_X11 (by decide) fl_X11_segment_48 rfl ?_
          refine j_if_eq (tgt := 52) X dX11_segment_45 (by decide) (fun c9 => absurd c9 (by decide)) (fun _ => ?_)
          refine j_iconst (v := 0) X dX11_segment_48 rfl ?_
          refine j_goto (tgt := 63) X dX11_segment_49 (by decide) ?_
          exact E.2.1 63 _ 0 () _ dX11_segment_63 rfl hr rfl
        · skip
          first | simp only [bI_0, Decidable.not_not, sg_mul, sg_e0, sg_l0, sg_g0, sg_le0, sg_ge0, cmp_eq, cmp_lt, cmp_ge, cmp_gt, cmp_le, lT0, lT1] at c_30 | simp only [Int32.le_iff_toInt_le, Int32.lt_iff_toInt_lt, ← Int32.toInt_inj, iT0, iT1, iT2, iT3, iT4, iT5, iT6, iT7, iT8, iT9, iT10, iT11, iT12, iT13, iT14, iT15, iT16, iT19, iT20, iT31, iT32, iT42, iT64, iT200, iT318, iT319, iT1000, iTm1, iTm2] at c_30 | skip
          exfalso; omega

theorem hy_X11_segment_V : yX11_segment.cls = RX11 ∧ yX11_segment.cls ≠ "java/lang/invoke/MethodHandle" ∧ yX11_segment.cls ≠ "java/lang/invoke/VarHandle" ∧ (parseMethodDescriptor yX11_segment.desc).map (fun d => d.parameters.length) = some 4 := by decide +kernel
set_option maxHeartbeats 4000000 in
set_option maxRecDepth 100000 in
theorem c_X11_segment_ok (l : Launch) (G : jG) (q : Nat → Nat) (t co cr po : Int32) (tx ty : Int64) (fa : Nat → Int32) (f1 f2 f3 f4 : Nat → Int64) (N : Nat) (gN : N < 200) (ax ay bx by1 : Int64) (hP : ((inC ax.toInt ∧ inC ay.toInt) ∧ (inC bx.toInt ∧ inC by1.toInt)) ∧ ¬ (ax.toInt = bx.toInt ∧ ay.toInt = by1.toInt)) : Ct l yX11_segment wsX11_segment rm_X11_segment G [.ref (q 0), .long ax, .long ay, .long bx, .long by1] [(q 0, .inr (10, mF t (nI N) q co cr po tx ty)), (q 1, aZ G 200 fa), (q 2, aJ G 200 f1), (q 3, aJ G 200 f2), (q 4, aJ G 200 f3), (q 5, aJ G 200 f4)] (S := Unit) (fun r _ => r = some (.int (nI N))) (fun _ => [(q 0, .inr (10, mF 0 (nI (N + 1)) q co cr po tx ty)), (q 1, aZ G 200 (upd fa N 0)), (q 2, aJ G 200 (vp_updL f1 N ax)), (q 3, aJ G 200 (vp_updL f2 N ay)), (q 4, aJ G 200 (vp_updL f3 N bx)), (q 5, aJ G 200 (vp_updL f4 N by1))]) (fun _ => []) := by
  refine c_intro (cc := cX11_segment) (maxL := 9) (ret := (some .int)) (by decide) rfl (Nat.le_of_ble_eq_true rfl) (fun _ => by simp only [List.map_cons, List.map_nil]) ?_
  intro p e s m args below meth c Q A X hr hin E
  change J p l e rm_X11_segment s m args below meth c Q G A 9 0 0 0 [(0, .ref (q 0)), (1, .long ax), (3, .long ay), (5, .long bx), (7, .long by1)] [] [(q 0, .inr (10, mF t (nI N) q co cr po tx ty)), (q 1, aZ G 200 fa), (q 2, aJ G 200 f1), (q 3, aJ G 200 f2), (q 4, aJ G 200 f3), (q 5, aJ G 200 f4)]
  refine j_aload_n X dX11_segment_0 rfl 0 rfl ?_
  refine j_lload_n X dX11_segment_1 rfl 1 rfl ?_
  refine j_lload_n X dX11_segment_2 rfl 2 rfl ?_
  refine j_callS X dX11_segment_3 (c_X11_isPlace l G ax ay) gX11_segment_X11_isPlace rfl hy_X11_isPlace_S ⟨Nat.le_of_ble_eq_true rfl, Nat.le_of_ble_eq_true rfl⟩ [] rfl (by decide) rfl rfl (Nat.le_of_ble_eq_true rfl) ⟨Nat.le_of_ble_eq_true rfl, Nat.le_of_ble_eq_true rfl⟩ ?_
  rintro _ ⟨⟩ rfl
  change J p l e rm_X11_segment s m args below meth c Q G A 9 0 0 6 [(0, .ref (q 0)), (1, .long ax), (3, .long ay), (5, .long bx), (7, .long by1)] [.int (bI (inC ax.toInt ∧ inC ay.toInt)), .ref (q 0)] [(q 0, .inr (10, mF t (nI N) q co cr po tx ty)), (q 1, aZ G 200 fa), (q 2, aJ G 200 f1), (q 3, aJ G 200 f2), (q 4, aJ G 200 f3), (q 5, aJ G 200 f4)]
  refine j_if_eq (tgt := 37) X dX11_segment_6 (by decide) (fun c_6 => ?_) (fun c_6 => ?_)
  · skip
    first | simp only [bI_0, Decidable.not_not, sg_mul, sg_e0, sg_l0, sg_g0, sg_le0, sg_ge0, cmp_eq, cmp_lt, cmp_ge, cmp_gt, cmp_le, lT0, lT1] at c_6 | simp only [Int32.le_iff_toInt_le, Int32.lt_iff_toInt_lt, ← Int32.toInt_inj, iT0, iT1, iT2, iT3, iT4, iT5, iT6, iT7, iT8, iT9, iT10, iT11, iT12, iT13, iT14, iT15, iT16, iT19, iT20, iT31, iT32, iT42, iT64, iT200, iT318, iT319, iT1000, iTm1, iTm2] at c_6 | skip
    exfalso; omega
  · skip
    first | simp only [bI_0, Decidable.not_not, sg_mul, sg_e0, sg_l0, sg_g0, sg_le0, sg_ge0, cmp_eq, cmp_lt, cmp_ge, cmp_gt, cmp_le, lT0, lT1] at c_6 | simp only [Int32.le_iff_toInt_le, Int32.lt_iff_toInt_lt, ← Int32.toInt_inj, iT0, iT1, iT2, iT3, iT4, iT5, iT6, iT7, iT8, iT9, iT10, iT11, iT12, iT13, iT14, iT15, iT16, iT19, iT20, iT31, iT32, iT42, iT64, iT200, iT318, iT319, iT1000, iTm1, iTm2] at c_6 | skip
    refine j_lload X dX11_segment_9 3 rfl ?_
    refine j_lload X dX11_segment_11 4 rfl ?_
    refine j_callS X dX11_segment_13 (c_X11_isPlace l G bx by1) gX11_segment_X11_isPlace rfl hy_X11_isPlace_S ⟨Nat.le_of_ble_eq_true rfl, Nat.le_of_ble_eq_true rfl⟩ [] rfl (by decide) rfl rfl (Nat.le_of_ble_eq_true rfl) ⟨Nat.le_of_ble_eq_true rfl, Nat.le_of_ble_eq_true rfl⟩ ?_
    rintro _ ⟨⟩ rfl
    change J p l e rm_X11_segment s m args below meth c Q G A 9 0 0 16 [(0, .ref (q 0)), (1, .long ax), (3, .long ay), (5, .long bx), (7, .long by1)] [.int (bI (inC bx.toInt ∧ inC by1.toInt)), .ref (q 0)] [(q 0, .inr (10, mF t (nI N) q co cr po tx ty)), (q 1, aZ G 200 fa), (q 2, aJ G 200 f1), (q 3, aJ G 200 f2), (q 4, aJ G 200 f3), (q 5, aJ G 200 f4)]
    refine j_if_eq (tgt := 37) X dX11_segment_16 (by decide) (fun c_16 => ?_) (fun c_16 => ?_)
    · skip
      first | simp only [bI_0, Decidable.not_not, sg_mul, sg_e0, sg_l0, sg_g0, sg_le0, sg_ge0, cmp_eq, cmp_lt, cmp_ge, cmp_gt, cmp_le, lT0, lT1] at c_16 | simp only [Int32.le_iff_toInt_le, Int32.lt_iff_toInt_lt, ← Int32.toInt_inj, iT0, iT1, iT2, iT3, iT4, iT5, iT6, iT7, iT8, iT9, iT10, iT11, iT12, iT13, iT14, iT15, iT16, iT19, iT20, iT31, iT32, iT42, iT64, iT200, iT318, iT319, iT1000, iTm1, iTm2] at c_16 | skip
      exfalso; omega
    · skip
      first | simp only [bI_0, Decidable.not_not, sg_mul, sg_e0, sg_l0, sg_g0, sg_le0, sg_ge0, cmp_eq, cmp_lt, cmp_ge, cmp_gt, cmp_le, lT0, lT1] at c_16 | simp only [Int32.le_iff_toInt_le, Int32.lt_iff_toInt_lt, ← Int32.toInt_inj, iT0, iT1, iT2, iT3, iT4, iT5, iT6, iT7, iT8, iT9, iT10, iT11, iT12, iT13, iT14, iT15, iT16, iT19, iT20, iT31, iT32, iT42, iT64, iT200, iT318, iT319, iT1000, iTm1, iTm2] at c_16 | skip
      refine j_lload_n X dX11_segment_19 rfl 1 rfl ?_
      refine j_lload X dX11_segment_20 3 rfl ?_
      refine j_lcmp X dX11_segment_22 ?_
      refine j_if_ne (tgt := 33) X dX11_segment_23 (by decide) (fun c_23 => ?_) (fun c_23 => ?_)
      · skip
        first | simp only [bI_0, Decidable.not_not, sg_mul, sg_e0, sg_l0, sg_g0, sg_le0, sg_ge0, cmp_eq, cmp_lt, cmp_ge, cmp_gt, cmp_le, lT0, lT1] at c_23 | simp only [Int32.le_iff_toInt_le, Int32.lt_iff_toInt_lt, ← Int32.toInt_inj, iT0, iT1, iT2, iT3, iT4, iT5, iT6, iT7, iT8, iT9, iT10, iT11, iT12, iT13, iT14, iT15, iT16, iT19, iT20, iT31, iT32, iT42, iT64, iT200, iT318, iT319, iT1000, iTm1, iTm2] at c_23 | skip
        refine j_iconst (v := 0) X dX11_segment_33 rfl ?_
        refine j_goto (tgt := 38) X dX11_segment_34 (by decide) ?_
        refine j_put (ws' := [(q 0, .inr (10, mF 0 (nI N) q co cr po tx ty)), (q 1, aZ G 200 fa), (q 2, aJ G 200 f1), (q 3, aJ G 200 f2), (q 4, aJ G 200 f3), (q 5, aJ G 200 f4)]) X dX11_segment_38 0 rfl 0 rfl in_X11_segment_X11 tyX11 tyX11_ok nmX11 (by decide) fl_X11_segment_48 rfl rfl rfl rfl (Nat.le_of_ble_eq_true rfl) rfl ?_
        refine j_aload_n X dX11_segment_41 rfl 0 rfl ?_
        refine j_get (v := .int 0) X dX11_segment_42 0 rfl 0 rfl in_X11_segment_X11 (by decide) fl_X11_segment_48 rfl ?_
        refine j_if_eq (tgt := 52) X dX11_segment_45 (by decide) (fun _ => ?_) (fun c9 => absurd c9 (by decide))
        refine j_aload_n X dX11_segment_52 rfl 0 rfl ?_
        refine j_iconst (v := 0) X dX11_segment_53 rfl ?_
        refine j_lload_n X dX11_segment_54 rfl 1 rfl ?_
        refine j_lload_n X dX11_segment_55 rfl 2 rfl ?_
        refine j_lload X dX11_segment_56 3 rfl ?_
        refine j_lload X dX11_segment_58 4 rfl ?_
        refine j_callV X dX11_segment_60 (c_X11_made_0 l G q 0 co cr po tx ty fa f1 f2 f3 f4 N gN ax ay bx by1) gX11_segment_X11_made rfl hy_X11_made_V ⟨Nat.le_of_ble_eq_true rfl, Nat.le_of_ble_eq_true rfl⟩ 0 rfl rfl [0, 1, 2, 3, 4, 5] rfl (by decide) rfl rfl (Nat.le_of_ble_eq_true rfl) ⟨Nat.le_of_ble_eq_true rfl, Nat.le_of_ble_eq_true rfl⟩ ?_
        rintro _ ⟨⟩ rfl
        change J p l e rm_X11_segment s m args below meth c Q G A 9 0 0 63 [(0, .ref (q 0)), (1, .long ax), (3, .long ay), (5, .long bx), (7, .long by1)] [.int (nI N)] [(q 0, .inr (10, mF 0 (nI (N + 1)) q co cr po tx ty)), (q 1, aZ G 200 (upd fa N 0)), (q 2, aJ G 200 (vp_updL f1 N ax)), (q 3, aJ G 200 (vp_updL f2 N ay)), (q 4, aJ G 200 (vp_updL f3 N bx)), (q 5, aJ G 200 (vp_updL f4 N by1))]
        exact E.2.1 63 _ (nI N) () _ dX11_segment_63 rfl hr rfl
      · skip
        first | simp only [bI_0, Decidable.not_not, sg_mul, sg_e0, sg_l0, sg_g0, sg_le0, sg_ge0, cmp_eq, cmp_lt, cmp_ge, cmp_gt, cmp_le, lT0, lT1] at c_23 | simp only [Int32.le_iff_toInt_le, Int32.lt_iff_toInt_lt, ← Int32.toInt_inj, iT0, iT1, iT2, iT3, iT4, iT5, iT6, iT7, iT8, iT9, iT10, iT11, iT12, iT13, iT14, iT15, iT16, iT19, iT20, iT31, iT32, iT42, iT64, iT200, iT318, iT319, iT1000, iTm1, iTm2] at c_23 | skip
        refine j_lload_n X dX11_segment_26 rfl 2 rfl ?_
        refine j_lload X dX11_segment_27 4 rfl ?_
        refine j_lcmp X dX11_segment_29 ?_
        refine j_if_eq (tgt := 37) X dX11_segment_30 (by decide) (fun c_30 => ?_) (fun c_30 => ?_)
        · skip
          first | simp only [bI_0, Decidable.not_not, sg_mul, sg_e0, sg_l0, sg_g0, sg_le0, sg_ge0, cmp_eq, cmp_lt, cmp_ge, cmp_gt, cmp_le, lT0, lT1] at c_30 | simp only [Int32.le_iff_toInt_le, Int32.lt_iff_toInt_lt, ← Int32.toInt_inj, iT0, iT1, iT2, iT3, iT4, iT5, iT6, iT7, iT8, iT9, iT10, iT11, iT12, iT13, iT14, iT15, iT16, iT19, iT20, iT31, iT32, iT42, iT64, iT200, iT318, iT319, iT1000, iTm1, iTm2] at c_30 | skip
          exfalso; omega
        · skip
          first | simp only [bI_0, Decidable.not_not, sg_mul, sg_e0, sg_l0, sg_g0, sg_le0, sg_ge0, cmp_eq, cmp_lt, cmp_ge, cmp_gt, cmp_le, lT0, lT1] at c_30 | simp only [Int32.le_iff_toInt_le, Int32.lt_iff_toInt_lt, ← Int32.toInt_inj, iT0, iT1, iT2, iT3, iT4, iT5, iT6, iT7, iT8, iT9, iT10, iT11, iT12, iT13, iT14, iT15, iT16, iT19, iT20, iT31, iT32, iT42, iT64, iT200, iT318, iT319, iT1000, iTm1, iTm2] at c_30 | skip
          refine j_iconst (v := 0) X dX11_segment_33 rfl ?_
          refine j_goto (tgt := 38) X dX11_segment_34 (by decide) ?_
          refine j_put (ws' := [(q 0, .inr (10, mF 0 (nI N) q co cr po tx ty)), (q 1, aZ G 200 fa), (q 2, aJ G 200 f1), (q 3, aJ G 200 f2), (q 4, aJ G 200 f3), (q 5, aJ G 200 f4)]) X dX11_segment_38 0 rfl 0 rfl in_X11_segment_X11 tyX11 tyX11_ok nmX11 (by decide) fl_X11_segment_48 rfl rfl rfl rfl (Nat.le_of_ble_eq_true rfl) rfl ?_
          refine j_aload_n X dX11_segment_41 rfl 0 rfl ?_
          refine j_get (v := .int 0) X dX11_segment_42 0 rfl 0 rfl in_X11_segment_X11 (by decide) fl_X11_segment_48 rfl ?_
          refine j_if_eq (tgt := 52) X dX11_segment_45 (by decide) (fun _ => ?_) (fun c9 => absurd c9 (by decide))
          refine j_aload_n X dX11_segment_52 rfl 0 rfl ?_
          refine j_iconst (v := 0) X dX11_segment_53 rfl ?_
          refine j_lload_n X dX11_segment_54 rfl 1 rfl ?_
          refine j_lload_n X dX11_segment_55 rfl 2 rfl ?_
          refine j_lload X dX11_segment_56 3 rfl ?_
          refine j_lload X dX11_segment_58 4 rfl ?_
          refine j_callV X dX11_segment_60 (c_X11_made_0 l G q 0 co cr po tx ty fa f1 f2 f3 f4 N gN ax ay bx by1) gX11_segment_X11_made rfl hy_X11_made_V ⟨Nat.le_of_ble_eq_true rfl, Nat.le_of_ble_eq_true rfl⟩ 0 rfl rfl [0, 1, 2, 3, 4, 5] rfl (by decide) rfl rfl (Nat.le_of_ble_eq_true rfl) ⟨Nat.le_of_ble_eq_true rfl, Nat.le_of_ble_eq_true rfl⟩ ?_
          rintro _ ⟨⟩ rfl
          change J p l e rm_X11_segment s m args below meth c Q G A 9 0 0 63 [(0, .ref (q 0)), (1, .long ax), (3, .long ay), (5, .long bx), (7, .long by1)] [.int (nI N)] [(q 0, .inr (10, mF 0 (nI (N + 1)) q co cr po tx ty)), (q 1, aZ G 200 (upd fa N 0)), (q 2, aJ G 200 (vp_updL f1 N ax)), (q 3, aJ G 200 (vp_updL f2 N ay)), (q 4, aJ G 200 (vp_updL f3 N bx)), (q 5, aJ G 200 (vp_updL f4 N by1))]
          exact E.2.1 63 _ (nI N) () _ dX11_segment_63 rfl hr rfl

abbrev rm_X11_arc : Room := { frames := 2, cells := 0, slots := 0, locals := 44 }
theorem in_X11_arc_X11 : ∀ w ∈ u_ws RX11 TX11 19, w ∈ wsX11_arc := by decide +kernel
theorem fl_X11_arc_48 : Cond.fieldLink RX11 48 (TX11 0).1 (TX11 0).2.1 (TX11 0).2.2.1 ∈ wsX11_arc := by decide +kernel
theorem k_X11_arc_116 : Cond.constantLong RX11 116 (4611686018427387904) ∈ wsX11_arc := by decide +kernel
set_option maxHeartbeats 4000000 in
set_option maxRecDepth 100000 in
theorem c_X11_arc_no (l : Launch) (G : jG) (q : Nat → Nat) (t n co cr po : Int32) (tx ty : Int64) (cx cy r : Int64) (fo tw : Int32) (hP : ¬ ((inC cx.toInt ∧ inC cy.toInt) ∧ (1 ≤ r.toInt ∧ r.toInt ≤ 4611686018427387904) ∧ (0 ≤ fo.toInt ∧ fo.toInt < 8) ∧ (0 ≤ tw.toInt ∧ tw.toInt < 8))) : Ct l yX11_arc wsX11_arc rm_X11_arc G [.ref (q 0), .long cx, .long cy, .long r, .int fo, .int tw] [(q 0, .inr (10, mF t n q co cr po tx ty))] (S := Unit) (fun r _ => r = some (.int 0)) (fun _ => [(q 0, .inr (10, mF 1 n q co cr po tx ty))]) (fun _ => []) := by
  refine c_intro (cc := cX11_arc) (maxL := 10) (ret := (some .int)) (by decide) rfl (Nat.le_of_ble_eq_true rfl) (fun _ => by simp only [List.map_cons, List.map_nil]) ?_
  intro p e s m args below meth c Q A X hr hin E
  change J p l e rm_X11_arc s m args below meth c Q G A 10 0 0 0 [(0, .ref (q 0)), (1, .long cx), (3, .long cy), (5, .long r), (7, .int fo), (8, .int tw)] [] [(q 0, .inr (10, mF t n q co cr po tx ty))]
  refine j_aload_n X dX11_arc_0 rfl 0 rfl ?_
  refine j_lload_n X dX11_arc_1 rfl 1 rfl ?_
  refine j_lload_n X dX11_arc_2 rfl 2 rfl ?_
  refine j_callS X dX11_arc_3 (c_X11_isPlace l G cx cy) gX11_arc_X11_isPlace rfl hy_X11_isPlace_S ⟨Nat.le_of_ble_eq_true rfl, Nat.le_of_ble_eq_true rfl⟩ [] rfl (by decide) rfl rfl (Nat.le_of_ble_eq_true rfl) ⟨Nat.le_of_ble_eq_true rfl, Nat.le_of_ble_eq_true rfl⟩ ?_
  rintro _ ⟨⟩ rfl
  change J p l e rm_X11_arc s m args below meth c Q G A 10 0 0 6 [(0, .ref (q 0)), (1, .long cx), (3, .long cy), (5, .long r), (7, .int fo), (8, .int tw)] [.int (bI (inC cx.toInt ∧ inC cy.toInt)), .ref (q 0)] [(q 0, .inr (10, mF t n q co cr po tx ty))]
  refine j_if_eq (tgt := 53) X dX11_arc_6 (by decide) (fun c_6 => ?_) (fun c_6 => ?_)
  · skip
    first | simp only [bI_0, Decidable.not_not, sg_mul, sg_e0, sg_l0, sg_g0, sg_le0, sg_ge0, cmp_eq, cmp_lt, cmp_ge, cmp_gt, cmp_le, lT0, lT1] at c_6 | simp only [Int32.le_iff_toInt_le, Int32.lt_iff_toInt_lt, ← Int32.toInt_inj, iT0, iT1, iT2, iT3, iT4, iT5, iT6, iT7, iT8, iT9, iT10, iT11, iT12, iT13, iT14, iT15, iT16, iT19, iT20, iT31, iT32, iT42, iT64, iT200, iT318, iT319, iT1000, iTm1, iTm2] at c_6 | skip
    refine j_iconst (v := 1) X dX11_arc_53 rfl ?_
    refine j_put (ws' := [(q 0, .inr (10, mF 1 n q co cr po tx ty))]) X dX11_arc_54 0 rfl 0 rfl in_X11_arc_X11 tyX11 tyX11_ok nmX11 (by decide) fl_X11_arc_48 rfl rfl rfl rfl (Nat.le_of_ble_eq_true rfl) rfl ?_
    refine j_aload_n X dX11_arc_57 rfl 0 rfl ?_
    refine j_get (v := .int 1) X dX11_arc_58 0 rfl 0 rfl in_X11_arc_X11 (by decide) fl_X11_arc_48 rfl ?_
    refine j_if_eq (tgt := 66) X dX11_arc_61 (by decide) (fun c9 => absurd c9 (by decide)) (fun _ => ?_)
    refine j_iconst (v := 0) X dX11_arc_64 rfl ?_
    exact E.2.1 65 _ 0 () _ dX11_arc_65 rfl hr rfl
  · skip
    first | simp only [bI_0, Decidable.not_not, sg_mul, sg_e0, sg_l0, sg_g0, sg_le0, sg_ge0, cmp_eq, cmp_lt, cmp_ge, cmp_gt, cmp_le, lT0, lT1] at c_6 | simp only [Int32.le_iff_toInt_le, Int32.lt_iff_toInt_lt, ← Int32.toInt_inj, iT0, iT1, iT2, iT3, iT4, iT5, iT6, iT7, iT8, iT9, iT10, iT11, iT12, iT13, iT14, iT15, iT16, iT19, iT20, iT31, iT32, iT42, iT64, iT200, iT318, iT319, iT1000, iTm1, iTm2] at c_6 | skip
    refine j_lload X dX11_arc_9 3 rfl ?_
    refine j_lconst (v := 1) X dX11_arc_11 rfl ?_
    refine j_lcmp X dX11_arc_12 ?_
    refine j_if_lt (tgt := 53) X dX11_arc_13 (by decide) (fun c_13 => ?_) (fun c_13 => ?_)
    · skip
      first | simp only [bI_0, Decidable.not_not, sg_mul, sg_e0, sg_l0, sg_g0, sg_le0, sg_ge0, cmp_eq, cmp_lt, cmp_ge, cmp_gt, cmp_le, lT0, lT1] at c_13 | simp only [Int32.le_iff_toInt_le, Int32.lt_iff_toInt_lt, ← Int32.toInt_inj, iT0, iT1, iT2, iT3, iT4, iT5, iT6, iT7, iT8, iT9, iT10, iT11, iT12, iT13, iT14, iT15, iT16, iT19, iT20, iT31, iT32, iT42, iT64, iT200, iT318, iT319, iT1000, iTm1, iTm2] at c_13 | skip
      refine j_iconst (v := 1) X dX11_arc_53 rfl ?_
      refine j_put (ws' := [(q 0, .inr (10, mF 1 n q co cr po tx ty))]) X dX11_arc_54 0 rfl 0 rfl in_X11_arc_X11 tyX11 tyX11_ok nmX11 (by decide) fl_X11_arc_48 rfl rfl rfl rfl (Nat.le_of_ble_eq_true rfl) rfl ?_
      refine j_aload_n X dX11_arc_57 rfl 0 rfl ?_
      refine j_get (v := .int 1) X dX11_arc_58 0 rfl 0 rfl in_X11_arc_X11 (by decide) fl_X11_arc_48 rfl ?_
      refine j_if_eq (tgt := 66) X dX11_arc_61 (by decide) (fun c9 => absurd c9 (by decide)) (fun _ => ?_)
      refine j_iconst (v := 0) X dX11_arc_64 rfl ?_
      exact E.2.1 65 _ 0 () _ dX11_arc_65 rfl hr rfl
    · skip
      first | simp only [bI_0, Decidable.not_not, sg_mul, sg_e0, sg_l0, sg_g0, sg_le0, sg_ge0, cmp_eq, cmp_lt, cmp_ge, cmp_gt, cmp_le, lT0, lT1] at c_13 | simp only [Int32.le_iff_toInt_le, Int32.lt_iff_toInt_lt, ← Int32.toInt_inj, iT0, iT1, iT2, iT3, iT4, iT5, iT6, iT7, iT8, iT9, iT10, iT11, iT12, iT13, iT14, iT15, iT16, iT19, iT20, iT31, iT32, iT42, iT64, iT200, iT318, iT319, iT1000, iTm1, iTm2] at c_13 | skip
      refine j_lload X dX11_arc_16 3 rfl ?_
      refine j_ldc2 (v := 4611686018427387904) X dX11_arc_18 k_X11_arc_116 ?_
      refine j_lcmp X dX11_arc_21 ?_
      refine j_if_gt (tgt := 53) X dX11_arc_22 (by decide) (fun c_22 => ?_) (fun c_22 => ?_)
      · skip
        first | simp only [bI_0, Decidable.not_not, sg_mul, sg_e0, sg_l0, sg_g0, sg_le0, sg_ge0, cmp_eq, cmp_lt, cmp_ge, cmp_gt, cmp_le, lT0, lT1] at c_22 | simp only [Int32.le_iff_toInt_le, Int32.lt_iff_toInt_lt, ← Int32.toInt_inj, iT0, iT1, iT2, iT3, iT4, iT5, iT6, iT7, iT8, iT9, iT10, iT11, iT12, iT13, iT14, iT15, iT16, iT19, iT20, iT31, iT32, iT42, iT64, iT200, iT318, iT319, iT1000, iTm1, iTm2] at c_22 | skip
        rw [show (4611686018427387904 : Int64).toInt = 4611686018427387904 from rfl] at c_22
        refine j_iconst (v := 1) X dX11_arc_53 rfl ?_
        refine j_put (ws' := [(q 0, .inr (10, mF 1 n q co cr po tx ty))]) X dX11_arc_54 0 rfl 0 rfl in_X11_arc_X11 tyX11 tyX11_ok nmX11 (by decide) fl_X11_arc_48 rfl rfl rfl rfl (Nat.le_of_ble_eq_true rfl) rfl ?_
        refine j_aload_n X dX11_arc_57 rfl 0 rfl ?_
        refine j_get (v := .int 1) X dX11_arc_58 0 rfl 0 rfl in_X11_arc_X11 (by decide) fl_X11_arc_48 rfl ?_
        refine j_if_eq (tgt := 66) X dX11_arc_61 (by decide) (fun c9 => absurd c9 (by decide)) (fun _ => ?_)
        refine j_iconst (v := 0) X dX11_arc_64 rfl ?_
        exact E.2.1 65 _ 0 () _ dX11_arc_65 rfl hr rfl
      · skip
        first | simp only [bI_0, Decidable.not_not, sg_mul, sg_e0, sg_l0, sg_g0, sg_le0, sg_ge0, cmp_eq, cmp_lt, cmp_ge, cmp_gt, cmp_le, lT0, lT1] at c_22 | simp only [Int32.le_iff_toInt_le, Int32.lt_iff_toInt_lt, ← Int32.toInt_inj, iT0, iT1, iT2, iT3, iT4, iT5, iT6, iT7, iT8, iT9, iT10, iT11, iT12, iT13, iT14, iT15, iT16, iT19, iT20, iT31, iT32, iT42, iT64, iT200, iT318, iT319, iT1000, iTm1, iTm2] at c_22 | skip
        rw [show (4611686018427387904 : Int64).toInt = 4611686018427387904 from rfl] at c_22
        refine j_iload X dX11_arc_25 4 rfl ?_
        refine j_if_lt (tgt := 53) X dX11_arc_27 (by decide) (fun c_27 => ?_) (fun c_27 => ?_)
        · skip
          first | simp only [bI_0, Decidable.not_not, sg_mul, sg_e0, sg_l0, sg_g0, sg_le0, sg_ge0, cmp_eq, cmp_lt, cmp_ge, cmp_gt, cmp_le, lT0, lT1] at c_27 | simp only [Int32.le_iff_toInt_le, Int32.lt_iff_toInt_lt, ← Int32.toInt_inj, iT0, iT1, iT2, iT3, iT4, iT5, iT6, iT7, iT8, iT9, iT10, iT11, iT12, iT13, iT14, iT15, iT16, iT19, iT20, iT31, iT32, iT42, iT64, iT200, iT318, iT319, iT1000, iTm1, iTm2] at c_27 | skip
          refine j_iconst (v := 1) X dX11_arc_53 rfl ?_
          refine j_put (ws' := [(q 0, .inr (10, mF 1 n q co cr po tx ty))]) X dX11_arc_54 0 rfl 0 rfl in_X11_arc_X11 tyX11 tyX11_ok nmX11 (by decide) fl_X11_arc_48 rfl rfl rfl rfl (Nat.le_of_ble_eq_true rfl) rfl ?_
          refine j_aload_n X dX11_arc_57 rfl 0 rfl ?_
          refine j_get (v := .int 1) X dX11_arc_58 0 rfl 0 rfl in_X11_arc_X11 (by decide) fl_X11_arc_48 rfl ?_
          refine j_if_eq (tgt := 66) X dX11_arc_61 (by decide) (fun c9 => absurd c9 (by decide)) (fun _ => ?_)
          refine j_iconst (v := 0) X dX11_arc_64 rfl ?_
          exact E.2.1 65 _ 0 () _ dX11_arc_65 rfl hr rfl
        · skip
          first | simp only [bI_0, Decidable.not_not, sg_mul, sg_e0, sg_l0, sg_g0, sg_le0, sg_ge0, cmp_eq, cmp_lt, cmp_ge, cmp_gt, cmp_le, lT0, lT1] at c_27 | simp only [Int32.le_iff_toInt_le, Int32.lt_iff_toInt_lt, ← Int32.toInt_inj, iT0, iT1, iT2, iT3, iT4, iT5, iT6, iT7, iT8, iT9, iT10, iT11, iT12, iT13, iT14, iT15, iT16, iT19, iT20, iT31, iT32, iT42, iT64, iT200, iT318, iT319, iT1000, iTm1, iTm2] at c_27 | skip
          refine j_iload X dX11_arc_30 4 rfl ?_
          refine j_bipush (v := 8) X dX11_arc_32 (by decide) ?_
          refine j_icmp_ge (tgt := 53) X dX11_arc_34 (by decide) (fun c_34 => ?_) (fun c_34 => ?_)
          · skip
            first | simp only [bI_0, Decidable.not_not, sg_mul, sg_e0, sg_l0, sg_g0, sg_le0, sg_ge0, cmp_eq, cmp_lt, cmp_ge, cmp_gt, cmp_le, lT0, lT1] at c_34 | simp only [Int32.le_iff_toInt_le, Int32.lt_iff_toInt_lt, ← Int32.toInt_inj, iT0, iT1, iT2, iT3, iT4, iT5, iT6, iT7, iT8, iT9, iT10, iT11, iT12, iT13, iT14, iT15, iT16, iT19, iT20, iT31, iT32, iT42, iT64, iT200, iT318, iT319, iT1000, iTm1, iTm2] at c_34 | skip
            refine j_iconst (v := 1) X dX11_arc_53 rfl ?_
            refine j_put (ws' := [(q 0, .inr (10, mF 1 n q co cr po tx ty))]) X dX11_arc_54 0 rfl 0 rfl in_X11_arc_X11 tyX11 tyX11_ok nmX11 (by decide) fl_X11_arc_48 rfl rfl rfl rfl (Nat.le_of_ble_eq_true rfl) rfl ?_
            refine j_aload_n X dX11_arc_57 rfl 0 rfl ?_
            refine j_get (v := .int 1) X dX11_arc_58 0 rfl 0 rfl in_X11_arc_X11 (by decide) fl_X11_arc_48 rfl ?_
            refine j_if_eq (tgt := 66) X dX11_arc_61 (by decide) (fun c9 => absurd c9 (by decide)) (fun _ => ?_)
            refine j_iconst (v := 0) X dX11_arc_64 rfl ?_
            exact E.2.1 65 _ 0 () _ dX11_arc_65 rfl hr rfl
          · skip
            first | simp only [bI_0, Decidable.not_not, sg_mul, sg_e0, sg_l0, sg_g0, sg_le0, sg_ge0, cmp_eq, cmp_lt, cmp_ge, cmp_gt, cmp_le, lT0, lT1] at c_34 | simp only [Int32.le_iff_toInt_le, Int32.lt_iff_toInt_lt, ← Int32.toInt_inj, iT0, iT1, iT2, iT3, iT4, iT5, iT6, iT7, iT8, iT9, iT10, iT11, iT12, iT13, iT14, iT15, iT16, iT19, iT20, iT31, iT32, iT42, iT64, iT200, iT318, iT319, iT1000, iTm1, iTm2] at c_34 | skip
            refine j_iload X dX11_arc_37 5 rfl ?_
            refine j_if_lt (tgt := 53) X dX11_arc_39 (by decide) (fun c_39 => ?_) (fun c_39 => ?_)
            · skip
              first | simp only [bI_0, Decidable.not_not, sg_mul, sg_e0, sg_l0, sg_g0, sg_le0, sg_ge0, cmp_eq, cmp_lt, cmp_ge, cmp_gt, cmp_le, lT0, lT1] at c_39 | simp only [Int32.le_iff_toInt_le, Int32.lt_iff_toInt_lt, ← Int32.toInt_inj, iT0, iT1, iT2, iT3, iT4, iT5, iT6, iT7, iT8, iT9, iT10, iT11, iT12, iT13, iT14, iT15, iT16, iT19, iT20, iT31, iT32, iT42, iT64, iT200, iT318, iT319, iT1000, iTm1, iTm2] at c_39 | skip
              refine j_iconst (v := 1) X dX11_arc_53 rfl ?_
              refine j_put (ws' := [(q 0, .inr (10, mF 1 n q co cr po tx ty))]) X dX11_arc_54 0 rfl 0 rfl in_X11_arc_X11 tyX11 tyX11_ok nmX11 (by decide) fl_X11_arc_48 rfl rfl rfl rfl (Nat.le_of_ble_eq_true rfl) rfl ?_
              refine j_aload_n X dX11_arc_57 rfl 0 rfl ?_
              refine j_get (v := .int 1) X dX11_arc_58 0 rfl 0 rfl in_X11_arc_X11 (by decide) fl_X11_arc_48 rfl ?_
              refine j_if_eq (tgt := 66) X dX11_arc_61 (by decide) (fun c9 => absurd c9 (by decide)) (fun _ => ?_)
              refine j_iconst (v := 0) X dX11_arc_64 rfl ?_
              exact E.2.1 65 _ 0 () _ dX11_arc_65 rfl hr rfl
            · skip
              first | simp only [bI_0, Decidable.not_not, sg_mul, sg_e0, sg_l0, sg_g0, sg_le0, sg_ge0, cmp_eq, cmp_lt, cmp_ge, cmp_gt, cmp_le, lT0, lT1] at c_39 | simp only [Int32.le_iff_toInt_le, Int32.lt_iff_toInt_lt, ← Int32.toInt_inj, iT0, iT1, iT2, iT3, iT4, iT5, iT6, iT7, iT8, iT9, iT10, iT11, iT12, iT13, iT14, iT15, iT16, iT19, iT20, iT31, iT32, iT42, iT64, iT200, iT318, iT319, iT1000, iTm1, iTm2] at c_39 | skip
              refine j_iload X dX11_arc_42 5 rfl ?_
              refine j_bipush (v := 8) X dX11_arc_44 (by decide) ?_
              refine j_icmp_ge (tgt := 53) X dX11_arc_46 (by decide) (fun c_46 => ?_) (fun c_46 => ?_)
              · skip
                first | simp only [bI_0, Decidable.not_not, sg_mul, sg_e0, sg_l0, sg_g0, sg_le0, sg_ge0, cmp_eq, cmp_lt, cmp_ge, cmp_gt, cmp_le, lT0, lT1] at c_46 | simp only [Int32.le_iff_toInt_le, Int32.lt_iff_toInt_lt, ← Int32.toInt_inj, iT0, iT1, iT2, iT3, iT4, iT5, iT6, iT7, iT8, iT9, iT10, iT11, iT12, iT13, iT14, iT15, iT16, iT19, iT20, iT31, iT32, iT42, iT64, iT200, iT318, iT319, iT1000, iTm1, iTm2] at c_46 | skip
                refine j_iconst (v := 1) X dX11_arc_53 rfl ?_
                refine j_put (ws' := [(q 0, .inr (10, mF 1 n q co cr po tx ty))]) X dX11_arc_54 0 rfl 0 rfl in_X11_arc_X11 tyX11 tyX11_ok nmX11 (by decide) fl_X11_arc_48 rfl rfl rfl rfl (Nat.le_of_ble_eq_true rfl) rfl ?_
                refine j_aload_n X dX11_arc_57 rfl 0 rfl ?_
                refine j_get (v := .int 1) X dX11_arc_58 0 rfl 0 rfl in_X11_arc_X11 (by decide) fl_X11_arc_48 rfl ?_
                refine j_if_eq (tgt := 66) X dX11_arc_61 (by decide) (fun c9 => absurd c9 (by decide)) (fun _ => ?_)
                refine j_iconst (v := 0) X dX11_arc_64 rfl ?_
                exact E.2.1 65 _ 0 () _ dX11_arc_65 rfl hr rfl
              · skip
                first | simp only [bI_0, Decidable.not_not, sg_mul, sg_e0, sg_l0, sg_g0, sg_le0, sg_ge0, cmp_eq, cmp_lt, cmp_ge, cmp_gt, cmp_le, lT0, lT1] at c_46 | simp only [Int32.le_iff_toInt_le, Int32.lt_iff_toInt_lt, ← Int32.toInt_inj, iT0, iT1, iT2, iT3, iT4, iT5, iT6, iT7, iT8, iT9, iT10, iT11, iT12, iT13, iT14, iT15, iT16, iT19, iT20, iT31, iT32, iT42, iT64, iT200, iT318, iT319, iT1000, iTm1, iTm2] at c_46 | skip
                exfalso; omega

theorem hy_X11_arc_V : yX11_arc.cls = RX11 ∧ yX11_arc.cls ≠ "java/lang/invoke/MethodHandle" ∧ yX11_arc.cls ≠ "java/lang/invoke/VarHandle" ∧ (parseMethodDescriptor yX11_arc.desc).map (fun d => d.parameters.length) = some 5 := by decide +kernel
theorem fl_X11_arc_26 : Cond.fieldLink RX11 26 (TX11 7).1 (TX11 7).2.1 (TX11 7).2.2.1 ∈ wsX11_arc := by decide +kernel
theorem fl_X11_arc_30 : Cond.fieldLink RX11 30 (TX11 8).1 (TX11 8).2.1 (TX11 8).2.2.1 ∈ wsX11_arc := by decide +kernel
set_option maxHeartbeats 4000000 in
set_option maxRecDepth 100000 in
theorem c_X11_arc_ok (l : Launch) (G : jG) (q : Nat → Nat) (t co cr po : Int32) (tx ty : Int64) (fa : Nat → Int32) (f1 f2 f3 f4 : Nat → Int64) (N : Nat) (gN : N < 200) (fr to1 : Nat → Int32) (cx cy r : Int64) (fo tw : Int32) (hP : (inC cx.toInt ∧ inC cy.toInt) ∧ (1 ≤ r.toInt ∧ r.toInt ≤ 4611686018427387904) ∧ (0 ≤ fo.toInt ∧ fo.toInt < 8) ∧ (0 ≤ tw.toInt ∧ tw.toInt < 8)) : Ct l yX11_arc wsX11_arc rm_X11_arc G [.ref (q 0), .long cx, .long cy, .long r, .int fo, .int tw] [(q 0, .inr (10, mF t (nI N) q co cr po tx ty)), (q 1, aZ G 200 fa), (q 2, aJ G 200 f1), (q 3, aJ G 200 f2), (q 4, aJ G 200 f3), (q 5, aJ G 200 f4), (q 6, aI G 200 fr), (q 7, aI G 200 to1)] (S := Unit) (fun r _ => r = some (.int (nI N))) (fun _ => [(q 0, .inr (10, mF 0 (nI (N + 1)) q co cr po tx ty)), (q 1, aZ G 200 (upd fa N 1)), (q 2, aJ G 200 (vp_updL f1 N cx)), (q 3, aJ G 200 (vp_updL f2 N cy)), (q 4, aJ G 200 (vp_updL f3 N r)), (q 5, aJ G 200 (vp_updL f4 N 0)), (q 6, aI G 200 (upd fr N fo)), (q 7, aI G 200 (upd to1 N tw))]) (fun _ => []) := by
  refine c_intro (cc := cX11_arc) (maxL := 10) (ret := (some .int)) (by decide) rfl (Nat.le_of_ble_eq_true rfl) (fun _ => by simp only [List.map_cons, List.map_nil]) ?_
  intro p e s m args below meth c Q A X hr hin E
  change J p l e rm_X11_arc s m args below meth c Q G A 10 0 0 0 [(0, .ref (q 0)), (1, .long cx), (3, .long cy), (5, .long r), (7, .int fo), (8, .int tw)] [] [(q 0, .inr (10, mF t (nI N) q co cr po tx ty)), (q 1, aZ G 200 fa), (q 2, aJ G 200 f1), (q 3, aJ G 200 f2), (q 4, aJ G 200 f3), (q 5, aJ G 200 f4), (q 6, aI G 200 fr), (q 7, aI G 200 to1)]
  refine j_aload_n X dX11_arc_0 rfl 0 rfl ?_
  refine j_lload_n X dX11_arc_1 rfl 1 rfl ?_
  refine j_lload_n X dX11_arc_2 rfl 2 rfl ?_
  refine j_callS X dX11_arc_3 (c_X11_isPlace l G cx cy) gX11_arc_X11_isPlace rfl hy_X11_isPlace_S ⟨Nat.le_of_ble_eq_true rfl, Nat.le_of_ble_eq_true rfl⟩ [] rfl (by decide) rfl rfl (Nat.le_of_ble_eq_true rfl) ⟨Nat.le_of_ble_eq_true rfl, Nat.le_of_ble_eq_true rfl⟩ ?_
  rintro _ ⟨⟩ rfl
  change J p l e rm_X11_arc s m args below meth c Q G A 10 0 0 6 [(0, .ref (q 0)), (1, .long cx), (3, .long cy), (5, .long r), (7, .int fo), (8, .int tw)] [.int (bI (inC cx.toInt ∧ inC cy.toInt)), .ref (q 0)] [(q 0, .inr (10, mF t (nI N) q co cr po tx ty)), (q 1, aZ G 200 fa), (q 2, aJ G 200 f1), (q 3, aJ G 200 f2), (q 4, aJ G 200 f3), (q 5, aJ G 200 f4), (q 6, aI G 200 fr), (q 7, aI G 200 to1)]
  refine j_if_eq (tgt := 53) X dX11_arc_6 (by decide) (fun c_6 => ?_) (fun c_6 => ?_)
  · skip
    first | simp only [bI_0, Decidable.not_not, sg_mul, sg_e0, sg_l0, sg_g0, sg_le0, sg_ge0, cmp_eq, cmp_lt, cmp_ge, cmp_gt, cmp_le, lT0, lT1] at c_6 | simp only [Int32.le_iff_toInt_le, Int32.lt_iff_toInt_lt, ← Int32.toInt_inj, iT0, iT1, iT2, iT3, iT4, iT5, iT6, iT7, iT8, iT9, iT10, iT11, iT12, iT13, iT14, iT15, iT16, iT19, iT20, iT31, iT32, iT42, iT64, iT200, iT318, iT319, iT1000, iTm1, iTm2] at c_6 | skip
    exfalso; omega
  · skip
    first | simp only [bI_0, Decidable.not_not, sg_mul, sg_e0, sg_l0, sg_g0, sg_le0, sg_ge0, cmp_eq, cmp_lt, cmp_ge, cmp_gt, cmp_le, lT0, lT1] at c_6 | simp only [Int32.le_iff_toInt_le, Int32.lt_iff_toInt_lt, ← Int32.toInt_inj, iT0, iT1, iT2, iT3, iT4, iT5, iT6, iT7, iT8, iT9, iT10, iT11, iT12, iT13, iT14, iT15, iT16, iT19, iT20, iT31, iT32, iT42, iT64, iT200, iT318, iT319, iT1000, iTm1, iTm2] at c_6 | skip
    refine j_lload X dX11_arc_9 3 rfl ?_
    refine j_lconst (v := 1) X dX11_arc_11 rfl ?_
    refine j_lcmp X dX11_arc_12 ?_
    refine j_if_lt (tgt := 53) X dX11_arc_13 (by decide) (fun c_13 => ?_) (fun c_13 => ?_)
    · skip
      first | simp only [bI_0, Decidable.not_not, sg_mul, sg_e0, sg_l0, sg_g0, sg_le0, sg_ge0, cmp_eq, cmp_lt, cmp_ge, cmp_gt, cmp_le, lT0, lT1] at c_13 | simp only [Int32.le_iff_toInt_le, Int32.lt_iff_toInt_lt, ← Int32.toInt_inj, iT0, iT1, iT2, iT3, iT4, iT5, iT6, iT7, iT8, iT9, iT10, iT11, iT12, iT13, iT14, iT15, iT16, iT19, iT20, iT31, iT32, iT42, iT64, iT200, iT318, iT319, iT1000, iTm1, iTm2] at c_13 | skip
      exfalso; omega
    · skip
      first | simp only [bI_0, Decidable.not_not, sg_mul, sg_e0, sg_l0, sg_g0, sg_le0, sg_ge0, cmp_eq, cmp_lt, cmp_ge, cmp_gt, cmp_le, lT0, lT1] at c_13 | simp only [Int32.le_iff_toInt_le, Int32.lt_iff_toInt_lt, ← Int32.toInt_inj, iT0, iT1, iT2, iT3, iT4, iT5, iT6, iT7, iT8, iT9, iT10, iT11, iT12, iT13, iT14, iT15, iT16, iT19, iT20, iT31, iT32, iT42, iT64, iT200, iT318, iT319, iT1000, iTm1, iTm2] at c_13 | skip
      refine j_lload X dX11_arc_16 3 rfl ?_
      refine j_ldc2 (v := 4611686018427387904) X dX11_arc_18 k_X11_arc_116 ?_
      refine j_lcmp X dX11_arc_21 ?_
      refine j_if_gt (tgt := 53) X dX11_arc_22 (by decide) (fun c_22 => ?_) (fun c_22 => ?_)
      · skip
        first | simp only [bI_0, Decidable.not_not, sg_mul, sg_e0, sg_l0, sg_g0, sg_le0, sg_ge0, cmp_eq, cmp_lt, cmp_ge, cmp_gt, cmp_le, lT0, lT1] at c_22 | simp only [Int32.le_iff_toInt_le, Int32.lt_iff_toInt_lt, ← Int32.toInt_inj, iT0, iT1, iT2, iT3, iT4, iT5, iT6, iT7, iT8, iT9, iT10, iT11, iT12, iT13, iT14, iT15, iT16, iT19, iT20, iT31, iT32, iT42, iT64, iT200, iT318, iT319, iT1000, iTm1, iTm2] at c_22 | skip
        rw [show (4611686018427387904 : Int64).toInt = 4611686018427387904 from rfl] at c_22
        exfalso; omega
      · skip
        first | simp only [bI_0, Decidable.not_not, sg_mul, sg_e0, sg_l0, sg_g0, sg_le0, sg_ge0, cmp_eq, cmp_lt, cmp_ge, cmp_gt, cmp_le, lT0, lT1] at c_22 | simp only [Int32.le_iff_toInt_le, Int32.lt_iff_toInt_lt, ← Int32.toInt_inj, iT0, iT1, iT2, iT3, iT4, iT5, iT6, iT7, iT8, iT9, iT10, iT11, iT12, iT13, iT14, iT15, iT16, iT19, iT20, iT31, iT32, iT42, iT64, iT200, iT318, iT319, iT1000, iTm1, iTm2] at c_22 | skip
        rw [show (4611686018427387904 : Int64).toInt = 4611686018427387904 from rfl] at c_22
        refine j_iload X dX11_arc_25 4 rfl ?_
        refine j_if_lt (tgt := 53) X dX11_arc_27 (by decide) (fun c_27 => ?_) (fun c_27 => ?_)
        · skip
          first | simp only [bI_0, Decidable.not_not, sg_mul, sg_e0, sg_l0, sg_g0, sg_le0, sg_ge0, cmp_eq, cmp_lt, cmp_ge, cmp_gt, cmp_le, lT0, lT1] at c_27 | simp only [Int32.le_iff_toInt_le, Int32.lt_iff_toInt_lt, ← Int32.toInt_inj, iT0, iT1, iT2, iT3, iT4, iT5, iT6, iT7, iT8, iT9, iT10, iT11, iT12, iT13, iT14, iT15, iT16, iT19, iT20, iT31, iT32, iT42, iT64, iT200, iT318, iT319, iT1000, iTm1, iTm2] at c_27 | skip
          exfalso; omega
        · skip
          first | simp only [bI_0, Decidable.not_not, sg_mul, sg_e0, sg_l0, sg_g0, sg_le0, sg_ge0, cmp_eq, cmp_lt, cmp_ge, cmp_gt, cmp_le, lT0, lT1] at c_27 | simp only [Int32.le_iff_toInt_le, Int32.lt_iff_toInt_lt, ← Int32.toInt_inj, iT0, iT1, iT2, iT3, iT4, iT5, iT6, iT7, iT8, iT9, iT10, iT11, iT12, iT13, iT14, iT15, iT16, iT19, iT20, iT31, iT32, iT42, iT64, iT200, iT318, iT319, iT1000, iTm1, iTm2] at c_27 | skip
          refine j_iload X dX11_arc_30 4 rfl ?_
          refine j_bipush (v := 8) X dX11_arc_32 (by decide) ?_
          refine j_icmp_ge (tgt := 53) X dX11_arc_34 (by decide) (fun c_34 => ?_) (fun c_34 => ?_)
          · skip
            first | simp only [bI_0, Decidable.not_not, sg_mul, sg_e0, sg_l0, sg_g0, sg_le0, sg_ge0, cmp_eq, cmp_lt, cmp_ge, cmp_gt, cmp_le, lT0, lT1] at c_34 | simp only [Int32.le_iff_toInt_le, Int32.lt_iff_toInt_lt, ← Int32.toInt_inj, iT0, iT1, iT2, iT3, iT4, iT5, iT6, iT7, iT8, iT9, iT10, iT11, iT12, iT13, iT14, iT15, iT16, iT19, iT20, iT31, iT32, iT42, iT64, iT200, iT318, iT319, iT1000, iTm1, iTm2] at c_34 | skip
            exfalso; omega
          · skip
            first | simp only [bI_0, Decidable.not_not, sg_mul, sg_e0, sg_l0, sg_g0, sg_le0, sg_ge0, cmp_eq, cmp_lt, cmp_ge, cmp_gt, cmp_le, lT0, lT1] at c_34 | simp only [Int32.le_iff_toInt_le, Int32.lt_iff_toInt_lt, ← Int32.toInt_inj, iT0, iT1, iT2, iT3, iT4, iT5, iT6, iT7, iT8, iT9, iT10, iT11, iT12, iT13, iT14, iT15, iT16, iT19, iT20, iT31, iT32, iT42, iT64, iT200, iT318, iT319, iT1000, iTm1, iTm2] at c_34 | skip
            refine j_iload X dX11_arc_37 5 rfl ?_
            refine j_if_lt (tgt := 53) X dX11_arc_39 (by decide) (fun c_39 => ?_) (fun c_39 => ?_)
            · skip
              first | simp only [bI_0, Decidable.not_not, sg_mul, sg_e0, sg_l0, sg_g0, sg_le0, sg_ge0, cmp_eq, cmp_lt, cmp_ge, cmp_gt, cmp_le, lT0, lT1] at c_39 | simp only [Int32.le_iff_toInt_le, Int32.lt_iff_toInt_lt, ← Int32.toInt_inj, iT0, iT1, iT2, iT3, iT4, iT5, iT6, iT7, iT8, iT9, iT10, iT11, iT12, iT13, iT14, iT15, iT16, iT19, iT20, iT31, iT32, iT42, iT64, iT200, iT318, iT319, iT1000, iTm1, iTm2] at c_39 | skip
              exfalso; omega
            · skip
              first | simp only [bI_0, Decidable.not_not, sg_mul, sg_e0, sg_l0, sg_g0, sg_le0, sg_ge0, cmp_eq, cmp_lt, cmp_ge, cmp_gt, cmp_le, lT0, lT1] at c_39 | simp only [Int32.le_iff_toInt_le, Int32.lt_iff_toInt_lt, ← Int32.toInt_inj, iT0, iT1, iT2, iT3, iT4, iT5, iT6, iT7, iT8, iT9, iT10, iT11, iT12, iT13, iT14, iT15, iT16, iT19, iT20, iT31, iT32, iT42, iT64, iT200, iT318, iT319, iT1000, iTm1, iTm2] at c_39 | skip
              refine j_iload X dX11_arc_42 5 rfl ?_
              refine j_bipush (v := 8) X dX11_arc_44 (by decide) ?_
              refine j_icmp_ge (tgt := 53) X dX11_arc_46 (by decide) (fun c_46 => ?_) (fun c_46 => ?_)
              · skip
                first | simp only [bI_0, Decidable.not_not, sg_mul, sg_e0, sg_l0, sg_g0, sg_le0, sg_ge0, cmp_eq, cmp_lt, cmp_ge, cmp_gt, cmp_le, lT0, lT1] at c_46 | simp only [Int32.le_iff_toInt_le, Int32.lt_iff_toInt_lt, ← Int32.toInt_inj, iT0, iT1, iT2, iT3, iT4, iT5, iT6, iT7, iT8, iT9, iT10, iT11, iT12, iT13, iT14, iT15, iT16, iT19, iT20, iT31, iT32, iT42, iT64, iT200, iT318, iT319, iT1000, iTm1, iTm2] at c_46 | skip
                exfalso; omega
              · skip
                first | simp only [bI_0, Decidable.not_not, sg_mul, sg_e0, sg_l0, sg_g0, sg_le0, sg_ge0, cmp_eq, cmp_lt, cmp_ge, cmp_gt, cmp_le, lT0, lT1] at c_46 | simp only [Int32.le_iff_toInt_le, Int32.lt_iff_toInt_lt, ← Int32.toInt_inj, iT0, iT1, iT2, iT3, iT4, iT5, iT6, iT7, iT8, iT9, iT10, iT11, iT12, iT13, iT14, iT15, iT16, iT19, iT20, iT31, iT32, iT42, iT64, iT200, iT318, iT319, iT1000, iTm1, iTm2] at c_46 | skip
                refine j_iconst (v := 0) X dX11_arc_49 rfl ?_
                refine j_goto (tgt := 54) X dX11_arc_50 (by decide) ?_
                refine j_put (ws' := [(q 0, .inr (10, mF 0 (nI N) q co cr po tx ty)), (q 1, aZ G 200 fa), (q 2, aJ G 200 f1), (q 3, aJ G 200 f2), (q 4, aJ G 200 f3), (q 5, aJ G 200 f4), (q 6, aI G 200 fr), (q 7, aI G 200 to1)]) X dX11_arc_54 0 rfl 0 rfl in_X11_arc_X11 tyX11 tyX11_ok nmX11 (by decide) fl_X11_arc_48 rfl rfl rfl rfl (Nat.le_of_ble_eq_true rfl) rfl ?_
                refine j_aload_n X dX11_arc_57 rfl 0 rfl ?_
                refine j_get (v := .int 0) X dX11_arc_58 0 rfl 0 rfl in_X11_arc_X11 (by decide) fl_X11_arc_48 rfl ?_
                refine j_if_eq (tgt := 66) X dX11_arc_61 (by decide) (fun _ => ?_) (fun c9 => absurd c9 (by decide))
                refine j_aload_n X dX11_arc_66 rfl 0 rfl ?_
                refine j_iconst (v := 1) X dX11_arc_67 rfl ?_
                refine j_lload_n X dX11_arc_68 rfl 1 rfl ?_
                refine j_lload_n X dX11_arc_69 rfl 2 rfl ?_
                refine j_lload X dX11_arc_70 3 rfl ?_
                refine j_lconst (v := 0) X dX11_arc_72 rfl ?_
                refine j_callV X dX11_arc_73 (c_X11_made_1 l G q 0 co cr po tx ty fa f1 f2 f3 f4 N gN cx cy r 0) gX11_arc_X11_made rfl hy_X11_made_V ⟨Nat.le_of_ble_eq_true rfl, Nat.le_of_ble_eq_true rfl⟩ 0 rfl rfl [0, 1, 2, 3, 4, 5] rfl (by decide) rfl rfl (Nat.le_of_ble_eq_true rfl) ⟨Nat.le_of_ble_eq_true rfl, Nat.le_of_ble_eq_true rfl⟩ ?_
                rintro _ ⟨⟩ rfl
                change J p l e rm_X11_arc s m args below meth c Q G A 10 0 0 76 [(0, .ref (q 0)), (1, .long cx), (3, .long cy), (5, .long r), (7, .int fo), (8, .int tw)] [.int (nI N)] [(q 0, .inr (10, mF 0 (nI (N + 1)) q co cr po tx ty)), (q 1, aZ G 200 (upd fa N 1)), (q 2, aJ G 200 (vp_updL f1 N cx)), (q 3, aJ G 200 (vp_updL f2 N cy)), (q 4, aJ G 200 (vp_updL f3 N r)), (q 5, aJ G 200 (vp_updL f4 N 0)), (q 6, aI G 200 fr), (q 7, aI G 200 to1)]
                refine j_istore (L' := [(9, .int (nI N)), (0, .ref (q 0)), (1, .long cx), (3, .long cy), (5, .long r), (7, .int fo), (8, .int tw)]) X dX11_arc_76 (by decide) rfl ?_
                refine j_iload X dX11_arc_78 0 rfl ?_
                refine j_iconst (v := (-1)) X dX11_arc_80 rfl ?_
                refine j_icmp_eq (tgt := 102) X dX11_arc_81 (by decide) (fun c_81 => ?_) (fun c_81 => ?_)
                · skip
                  first | simp only [bI_0, Decidable.not_not, sg_mul, sg_e0, sg_l0, sg_g0, sg_le0, sg_ge0, cmp_eq, cmp_lt, cmp_ge, cmp_gt, cmp_le, lT0, lT1] at c_81 | simp only [Int32.le_iff_toInt_le, Int32.lt_iff_toInt_lt, ← Int32.toInt_inj, iT0, iT1, iT2, iT3, iT4, iT5, iT6, iT7, iT8, iT9, iT10, iT11, iT12, iT13, iT14, iT15, iT16, iT19, iT20, iT31, iT32, iT42, iT64, iT200, iT318, iT319, iT1000, iTm1, iTm2] at c_81 | skip
                  rw [nI_T (by omega)] at c_81
                  exfalso; omega
                · skip
                  first | simp only [bI_0, Decidable.not_not, sg_mul, sg_e0, sg_l0, sg_g0, sg_le0, sg_ge0, cmp_eq, cmp_lt, cmp_ge, cmp_gt, cmp_le, lT0, lT1] at c_81 | simp only [Int32.le_iff_toInt_le, Int32.lt_iff_toInt_lt, ← Int32.toInt_inj, iT0, iT1, iT2, iT3, iT4, iT5, iT6, iT7, iT8, iT9, iT10, iT11, iT12, iT13, iT14, iT15, iT16, iT19, iT20, iT31, iT32, iT42, iT64, iT200, iT318, iT319, iT1000, iTm1, iTm2] at c_81 | skip
                  refine j_aload_n X dX11_arc_84 rfl 1 rfl ?_
                  refine j_get (v := .ref (q 6)) X dX11_arc_85 0 rfl 7 rfl in_X11_arc_X11 (by decide) fl_X11_arc_26 rfl ?_
                  refine j_iload X dX11_arc_88 0 rfl ?_
                  refine j_iload X dX11_arc_90 5 rfl ?_
                  refine j_iast (ws' := [(q 0, .inr (10, mF 0 (nI (N + 1)) q co cr po tx ty)), (q 1, aZ G 200 (upd fa N 1)), (q 2, aJ G 200 (vp_updL f1 N cx)), (q 3, aJ G 200 (vp_updL f2 N cy)), (q 4, aJ G 200 (vp_updL f3 N r)), (q 5, aJ G 200 (vp_updL f4 N 0)), (q 6, aI G 200 (upd fr N fo)), (q 7, aI G 200 to1)]) X dX11_arc_92 6 rfl N rfl gN (by decide) rfl ?_
                  refine j_aload_n X dX11_arc_93 rfl 1 rfl ?_
                  refine j_get (v := .ref (q 7)) X dX11_arc_94 0 rfl 8 rfl in_X11_arc_X11 (by decide) fl_X11_arc_30 rfl ?_
                  refine j_iload X dX11_arc_97 0 rfl ?_
                  refine j_iload X dX11_arc_99 6 rfl ?_
                  refine j_iast (ws' := [(q 0, .inr (10, mF 0 (nI (N + 1)) q co cr po tx ty)), (q 1, aZ G 200 (upd fa N 1)), (q 2, aJ G 200 (vp_updL f1 N cx)), (q 3, aJ G 200 (vp_updL f2 N cy)), (q 4, aJ G 200 (vp_updL f3 N r)), (q 5, aJ G 200 (vp_updL f4 N 0)), (q 6, aI G 200 (upd fr N fo)), (q 7, aI G 200 (upd to1 N tw))]) X dX11_arc_101 7 rfl N rfl gN (by decide) rfl ?_
                  refine j_iload X dX11_arc_102 0 rfl ?_
                  exact E.2.1 104 _ (nI N) () _ dX11_arc_104 rfl hr rfl

abbrev rm_X11_distance : Room := { frames := 7, cells := 0, slots := 0, locals := 188 }
theorem in_X11_distance_X11 : ∀ w ∈ u_ws RX11 TX11 19, w ∈ wsX11_distance := by decide +kernel
theorem fl_X11_distance_48 : Cond.fieldLink RX11 48 (TX11 0).1 (TX11 0).2.1 (TX11 0).2.2.1 ∈ wsX11_distance := by decide +kernel
set_option maxHeartbeats 4000000 in
set_option maxRecDepth 100000 in
theorem c_X11_distance_1 (l : Launch) (G : jG) (q : Nat → Nat) (t n co cr po : Int32) (tx ty : Int64) (x1 x2 pa li : Int32) (hP : ¬ ((0 ≤ x1.toInt ∧ x1.toInt < n.toInt) ∧ (0 ≤ x2.toInt ∧ x2.toInt < n.toInt) ∧ (0 ≤ pa.toInt ∧ pa.toInt < 2) ∧ (0 ≤ li.toInt ∧ li.toInt < 6))) : Ct l yX11_distance wsX11_distance rm_X11_distance G [.ref (q 0), .int x1, .int x2, .int pa, .int li] [(q 0, .inr (10, mF t n q co cr po tx ty))] (S := Unit) (fun r _ => r = some (.long 0)) (fun _ => [(q 0, .inr (10, mF 1 n q co cr po tx ty))]) (fun _ => []) := by
  refine c_intro (cc := cX11_distance) (maxL := 6) (ret := (some .long)) (by decide) rfl (Nat.le_of_ble_eq_true rfl) (fun _ => by simp only [List.map_cons, List.map_nil]) ?_
  intro p e s m args below meth c Q A X hr hin E
  change J p l e rm_X11_distance s m args below meth c Q G A 6 0 0 0 [(0, .ref (q 0)), (1, .int x1), (2, .int x2), (3, .int pa), (4, .int li)] [] [(q 0, .inr (10, mF t n q co cr po tx ty))]
  refine j_aload_n X dX11_distance_0 rfl 0 rfl ?_
  refine j_iload_n X dX11_distance_1 rfl 1 rfl ?_
  refine j_callV X dX11_distance_2 (c_X11_isShape l G q t n co cr po tx ty x1) gX11_distance_X11_isShape rfl hy_X11_isShape_V ⟨Nat.le_of_ble_eq_true rfl, Nat.le_of_ble_eq_true rfl⟩ 0 rfl rfl [0] rfl (by decide) rfl rfl (Nat.le_of_ble_eq_true rfl) ⟨Nat.le_of_ble_eq_true rfl, Nat.le_of_ble_eq_true rfl⟩ ?_
  rintro _ ⟨⟩ rfl
  change J p l e rm_X11_distance s m args below meth c Q G A 6 0 0 5 [(0, .ref (q 0)), (1, .int x1), (2, .int x2), (3, .int pa), (4, .int li)] [.int (bI (0 ≤ x1.toInt ∧ x1.toInt < n.toInt))] [(q 0, .inr (10, mF t n q co cr po tx ty))]
  refine j_if_eq (tgt := 41) X dX11_distance_5 (by decide) (fun c_5 => ?_) (fun c_5 => ?_)
  · skip
    first | simp only [bI_0, Decidable.not_not, sg_mul, sg_e0, sg_l0, sg_g0, sg_le0, sg_ge0, cmp_eq, cmp_lt, cmp_ge, cmp_gt, cmp_le, lT0, lT1] at c_5 | simp only [Int32.le_iff_toInt_le, Int32.lt_iff_toInt_lt, ← Int32.toInt_inj, iT0, iT1, iT2, iT3, iT4, iT5, iT6, iT7, iT8, iT9, iT10, iT11, iT12, iT13, iT14, iT15, iT16, iT19, iT20, iT31, iT32, iT42, iT64, iT200, iT318, iT319, iT1000, iTm1, iTm2] at c_5 | skip
    refine j_iconst (v := 0) X dX11_distance_41 rfl ?_
    refine j_istore (L' := [(5, .int 0), (0, .ref (q 0)), (1, .int x1), (2, .int x2), (3, .int pa), (4, .int li)]) X dX11_distance_42 (by decide) rfl ?_
    refine j_aload_n X dX11_distance_44 rfl 1 rfl ?_
    refine j_iload X dX11_distance_45 0 rfl ?_
    refine j_if_ne (tgt := 54) X dX11_distance_47 (by decide) (fun c9 => absurd c9 (by decide)) (fun _ => ?_)
    refine j_iconst (v := 1) X dX11_distance_50 rfl ?_
    refine j_goto (tgt := 77) X dX11_distance_51 (by decide) ?_
    refine j_put (ws' := [(q 0, .inr (10, mF 1 n q co cr po tx ty))]) X dX11_distance_77 0 rfl 0 rfl in_X11_distance_X11 tyX11 tyX11_ok nmX11 (by decide) fl_X11_distance_48 rfl rfl rfl rfl (Nat.le_of_ble_eq_true rfl) rfl ?_
    refine j_aload_n X dX11_distance_80 rfl 1 rfl ?_
    refine j_get (v := .int 1) X dX11_distance_81 0 rfl 0 rfl in_X11_distance_X11 (by decide) fl_X11_distance_48 rfl ?_
    refine j_if_eq (tgt := 89) X dX11_distance_84 (by decide) (fun c9 => absurd c9 (by decide)) (fun _ => ?_)
    refine j_lconst (v := 0) X dX11_distance_87 rfl ?_
    exact E.2.2 88 _ 0 () dX11_distance_88 rfl hr
  · skip
    first | simp only [bI_0, Decidable.not_not, sg_mul, sg_e0, sg_l0, sg_g0, sg_le0, sg_ge0, cmp_eq, cmp_lt, cmp_ge, cmp_gt, cmp_le, lT0, lT1] at c_5 | simp only [Int32.le_iff_toInt_le, Int32.lt_iff_toInt_lt, ← Int32.toInt_inj, iT0, iT1, iT2, iT3, iT4, iT5, iT6, iT7, iT8, iT9, iT10, iT11, iT12, iT13, iT14, iT15, iT16, iT19, iT20, iT31, iT32, iT42, iT64, iT200, iT318, iT319, iT1000, iTm1, iTm2] at c_5 | skip
    refine j_aload_n X dX11_distance_8 rfl 0 rfl ?_
    refine j_iload_n X dX11_distance_9 rfl 2 rfl ?_
    refine j_callV X dX11_distance_10 (c_X11_isShape l G q t n co cr po tx ty x2) gX11_distance_X11_isShape rfl hy_X11_isShape_V ⟨Nat.le_of_ble_eq_true rfl, Nat.le_of_ble_eq_true rfl⟩ 0 rfl rfl [0] rfl (by decide) rfl rfl (Nat.le_of_ble_eq_true rfl) ⟨Nat.le_of_ble_eq_true rfl, Nat.le_of_ble_eq_true rfl⟩ ?_
    rintro _ ⟨⟩ rfl
    change J p l e rm_X11_distance s m args below meth c Q G A 6 0 0 13 [(0, .ref (q 0)), (1, .int x1), (2, .int x2), (3, .int pa), (4, .int li)] [.int (bI (0 ≤ x2.toInt ∧ x2.toInt < n.toInt))] [(q 0, .inr (10, mF t n q co cr po tx ty))]
    refine j_if_eq (tgt := 41) X dX11_distance_13 (by decide) (fun c_13 => ?_) (fun c_13 => ?_)
    · skip
      first | simp only [bI_0, Decidable.not_not, sg_mul, sg_e0, sg_l0, sg_g0, sg_le0, sg_ge0, cmp_eq, cmp_lt, cmp_ge, cmp_gt, cmp_le, lT0, lT1] at c_13 | simp only [Int32.le_iff_toInt_le, Int32.lt_iff_toInt_lt, ← Int32.toInt_inj, iT0, iT1, iT2, iT3, iT4, iT5, iT6, iT7, iT8, iT9, iT10, iT11, iT12, iT13, iT14, iT15, iT16, iT19, iT20, iT31, iT32, iT42, iT64, iT200, iT318, iT319, iT1000, iTm1, iTm2] at c_13 | skip
      refine j_iconst (v := 0) X dX11_distance_41 rfl ?_
      refine j_istore (L' := [(5, .int 0), (0, .ref (q 0)), (1, .int x1), (2, .int x2), (3, .int pa), (4, .int li)]) X dX11_distance_42 (by decide) rfl ?_
      refine j_aload_n X dX11_distance_44 rfl 1 rfl ?_
      refine j_iload X dX11_distance_45 0 rfl ?_
      refine j_if_ne (tgt := 54) X dX11_distance_47 (by decide) (fun c9 => absurd c9 (by decide)) (fun _ => ?_)
      refine j_iconst (v := 1) X dX11_distance_50 rfl ?_
      refine j_goto (tgt := 77) X dX11_distance_51 (by decide) ?_
      refine j_put (ws' := [(q 0, .inr (10, mF 1 n q co cr po tx ty))]) X dX11_distance_77 0 rfl 0 rfl in_X11_distance_X11 tyX11 tyX11_ok nmX11 (by decide) fl_X11_distance_48 rfl rfl rfl rfl (Nat.le_of_ble_eq_true rfl) rfl ?_
      refine j_aload_n X dX11_distance_80 rfl 1 rfl ?_
      refine j_get (v := .int 1) X dX11_distance_81 0 rfl 0 rfl in_X11_distance_X11 (by decide) fl_X11_distance_48 rfl ?_
      refine j_if_eq (tgt := 89) X dX11_distance_84 (by decide) (fun c9 => absurd c9 (by decide)) (fun _ => ?_)
      refine j_lconst (v := 0) X dX11_distance_87 rfl ?_
      exact E.2.2 88 _ 0 () dX11_distance_88 rfl hr
    · skip
      first | simp only [bI_0, Decidable.not_not, sg_mul, sg_e0, sg_l0, sg_g0, sg_le0, sg_ge0, cmp_eq, cmp_lt, cmp_ge, cmp_gt, cmp_le, lT0, lT1] at c_13 | simp only [Int32.le_iff_toInt_le, Int32.lt_iff_toInt_lt, ← Int32.toInt_inj, iT0, iT1, iT2, iT3, iT4, iT5, iT6, iT7, iT8, iT9, iT10, iT11, iT12, iT13, iT14, iT15, iT16, iT19, iT20, iT31, iT32, iT42, iT64, iT200, iT318, iT319, iT1000, iTm1, iTm2] at c_13 | skip
      refine j_iload_n X dX11_distance_16 rfl 3 rfl ?_
      refine j_if_lt (tgt := 41) X dX11_distance_17 (by decide) (fun c_17 => ?_) (fun c_17 => ?_)
      · skip
        first | simp only [bI_0, Decidable.not_not, sg_mul, sg_e0, sg_l0, sg_g0, sg_le0, sg_ge0, cmp_eq, cmp_lt, cmp_ge, cmp_gt, cmp_le, lT0, lT1] at c_17 | simp only [Int32.le_iff_toInt_le, Int32.lt_iff_toInt_lt, ← Int32.toInt_inj, iT0, iT1, iT2, iT3, iT4, iT5, iT6, iT7, iT8, iT9, iT10, iT11, iT12, iT13, iT14, iT15, iT16, iT19, iT20, iT31, iT32, iT42, iT64, iT200, iT318, iT319, iT1000, iTm1, iTm2] at c_17 | skip
        refine j_iconst (v := 0) X dX11_distance_41 rfl ?_
        refine j_istore (L' := [(5, .int 0), (0, .ref (q 0)), (1, .int x1), (2, .int x2), (3, .int pa), (4, .int li)]) X dX11_distance_42 (by decide) rfl ?_
        refine j_aload_n X dX11_distance_44 rfl 1 rfl ?_
        refine j_iload X dX11_distance_45 0 rfl ?_
        refine j_if_ne (tgt := 54) X dX11_distance_47 (by decide) (fun c9 => absurd c9 (by decide)) (fun _ => ?_)
        refine j_iconst (v := 1) X dX11_distance_50 rfl ?_
        refine j_goto (tgt := 77) X dX11_distance_51 (by decide) ?_
        refine j_put (ws' := [(q 0, .inr (10, mF 1 n q co cr po tx ty))]) X dX11_distance_77 0 rfl 0 rfl in_X11_distance_X11 tyX11 tyX11_ok nmX11 (by decide) fl_X11_distance_48 rfl rfl rfl rfl (Nat.le_of_ble_eq_true rfl) rfl ?_
        refine j_aload_n X dX11_distance_80 rfl 1 rfl ?_
        refine j_get (v := .int 1) X dX11_distance_81 0 rfl 0 rfl in_X11_distance_X11 (by decide) fl_X11_distance_48 rfl ?_
        refine j_if_eq (tgt := 89) X dX11_distance_84 (by decide) (fun c9 => absurd c9 (by decide)) (fun _ => ?_)
        refine j_lconst (v := 0) X dX11_distance_87 rfl ?_
        exact E.2.2 88 _ 0 () dX11_distance_88 rfl hr
      · skip
        first | simp only [bI_0, Decidable.not_not, sg_mul, sg_e0, sg_l0, sg_g0, sg_le0, sg_ge0, cmp_eq, cmp_lt, cmp_ge, cmp_gt, cmp_le, lT0, lT1] at c_17 | simp only [Int32.le_iff_toInt_le, Int32.lt_iff_toInt_lt, ← Int32.toInt_inj, iT0, iT1, iT2, iT3, iT4, iT5, iT6, iT7, iT8, iT9, iT10, iT11, iT12, iT13, iT14, iT15, iT16, iT19, iT20, iT31, iT32, iT42, iT64, iT200, iT318, iT319, iT1000, iTm1, iTm2] at c_17 | skip
        refine j_iload_n X dX11_distance_20 rfl 3 rfl ?_
        refine j_iconst (v := 2) X dX11_distance_21 rfl ?_
        refine j_icmp_ge (tgt := 41) X dX11_distance_22 (by decide) (fun c_22 => ?_) (fun c_22 => ?_)
        · skip
          first | simp only [bI_0, Decidable.not_not, sg_mul, sg_e0, sg_l0, sg_g0, sg_le0, sg_ge0, cmp_eq, cmp_lt, cmp_ge, cmp_gt, cmp_le, lT0, lT1] at c_22 | simp only [Int32.le_iff_toInt_le, Int32.lt_iff_toInt_lt, ← Int32.toInt_inj, iT0, iT1, iT2, iT3, iT4, iT5, iT6, iT7, iT8, iT9, iT10, iT11, iT12, iT13, iT14, iT15, iT16, iT19, iT20, iT31, iT32, iT42, iT64, iT200, iT318, iT319, iT1000, iTm1, iTm2] at c_22 | skip
          refine j_iconst (v := 0) X dX11_distance_41 rfl ?_
          refine j_istore (L' := [(5, .int 0), (0, .ref (q 0)), (1, .int x1), (2, .int x2), (3, .int pa), (4, .int li)]) X dX11_distance_42 (by decide) rfl ?_
          refine j_aload_n X dX11_distance_44 rfl 1 rfl ?_
          refine j_iload X dX11_distance_45 0 rfl ?_
          refine j_if_ne (tgt := 54) X dX11_distance_47 (by decide) (fun c9 => absurd c9 (by decide)) (fun _ => ?_)
          refine j_iconst (v := 1) X dX11_distance_50 rfl ?_
          refine j_goto (tgt := 77) X dX11_distance_51 (by decide) ?_
          refine j_put (ws' := [(q 0, .inr (10, mF 1 n q co cr po tx ty))]) X dX11_distance_77 0 rfl 0 rfl in_X11_distance_X11 tyX11 tyX11_ok nmX11 (by decide) fl_X11_distance_48 rfl rfl rfl rfl (Nat.le_of_ble_eq_true rfl) rfl ?_
          refine j_aload_n X dX11_distance_80 rfl 1 rfl ?_
          refine j_get (v := .int 1) X dX11_distance_81 0 rfl 0 rfl in_X11_distance_X11 (by decide) fl_X11_distance_48 rfl ?_
          refine j_if_eq (tgt := 89) X dX11_distance_84 (by decide) (fun c9 => absurd c9 (by decide)) (fun _ => ?_)
          refine j_lconst (v := 0) X dX11_distance_87 rfl ?_
          exact E.2.2 88 _ 0 () dX11_distance_88 rfl hr
        · skip
          first | simp only [bI_0, Decidable.not_not, sg_mul, sg_e0, sg_l0, sg_g0, sg_le0, sg_ge0, cmp_eq, cmp_lt, cmp_ge, cmp_gt, cmp_le, lT0, lT1] at c_22 | simp only [Int32.le_iff_toInt_le, Int32.lt_iff_toInt_lt, ← Int32.toInt_inj, iT0, iT1, iT2, iT3, iT4, iT5, iT6, iT7, iT8, iT9, iT10, iT11, iT12, iT13, iT14, iT15, iT16, iT19, iT20, iT31, iT32, iT42, iT64, iT200, iT318, iT319, iT1000, iTm1, iTm2] at c_22 | skip
          refine j_iload X dX11_distance_25 4 rfl ?_
          refine j_if_lt (tgt := 41) X dX11_distance_27 (by decide) (fun c_27 => ?_) (fun c_27 => ?_)
          · skip
            first | simp only [bI_0, Decidable.not_not, sg_mul, sg_e0, sg_l0, sg_g0, sg_le0, sg_ge0, cmp_eq, cmp_lt, cmp_ge, cmp_gt, cmp_le, lT0, lT1] at c_27 | simp only [Int32.le_iff_toInt_le, Int32.lt_iff_toInt_lt, ← Int32.toInt_inj, iT0, iT1, iT2, iT3, iT4, iT5, iT6, iT7, iT8, iT9, iT10, iT11, iT12, iT13, iT14, iT15, iT16, iT19, iT20, iT31, iT32, iT42, iT64, iT200, iT318, iT319, iT1000, iTm1, iTm2] at c_27 | skip
            refine j_iconst (v := 0) X dX11_distance_41 rfl ?_
            refine j_istore (L' := [(5, .int 0), (0, .ref (q 0)), (1, .int x1), (2, .int x2), (3, .int pa), (4, .int li)]) X dX11_distance_42 (by decide) rfl ?_
            refine j_aload_n X dX11_distance_44 rfl 1 rfl ?_
            refine j_iload X dX11_distance_45 0 rfl ?_
            refine j_if_ne (tgt := 54) X dX11_distance_47 (by decide) (fun c9 => absurd c9 (by decide)) (fun _ => ?_)
            refine j_iconst (v := 1) X dX11_distance_50 rfl ?_
            refine j_goto (tgt := 77) X dX11_distance_51 (by decide) ?_
            refine j_put (ws' := [(q 0, .inr (10, mF 1 n q co cr po tx ty))]) X dX11_distance_77 0 rfl 0 rfl in_X11_distance_X11 tyX11 tyX11_ok nmX11 (by decide) fl_X11_distance_48 rfl rfl rfl rfl (Nat.le_of_ble_eq_true rfl) rfl ?_
            refine j_aload_n X dX11_distance_80 rfl 1 rfl ?_
            refine j_get (v := .int 1) X dX11_distance_81 0 rfl 0 rfl in_X11_distance_X11 (by decide) fl_X11_distance_48 rfl ?_
            refine j_if_eq (tgt := 89) X dX11_distance_84 (by decide) (fun c9 => absurd c9 (by decide)) (fun _ => ?_)
            refine j_lconst (v := 0) X dX11_distance_87 rfl ?_
            exact E.2.2 88 _ 0 () dX11_distance_88 rfl hr
          · skip
            first | simp only [bI_0, Decidable.not_not, sg_mul, sg_e0, sg_l0, sg_g0, sg_le0, sg_ge0, cmp_eq, cmp_lt, cmp_ge, cmp_gt, cmp_le, lT0, lT1] at c_27 | simp only [Int32.le_iff_toInt_le, Int32.lt_iff_toInt_lt, ← Int32.toInt_inj, iT0, iT1, iT2, iT3, iT4, iT5, iT6, iT7, iT8, iT9, iT10, iT11, iT12, iT13, iT14, iT15, iT16, iT19, iT20, iT31, iT32, iT42, iT64, iT200, iT318, iT319, iT1000, iTm1, iTm2] at c_27 | skip
            refine j_iload X dX11_distance_30 4 rfl ?_
            refine j_bipush (v := 6) X dX11_distance_32 (by decide) ?_
            refine j_icmp_ge (tgt := 41) X dX11_distance_34 (by decide) (fun c_34 => ?_) (fun c_34 => ?_)
            · skip
              first | simp only [bI_0, Decidable.not_not, sg_mul, sg_e0, sg_l0, sg_g0, sg_le0, sg_ge0, cmp_eq, cmp_lt, cmp_ge, cmp_gt, cmp_le, lT0, lT1] at c_34 | simp only [Int32.le_iff_toInt_le, Int32.lt_iff_toInt_lt, ← Int32.toInt_inj, iT0, iT1, iT2, iT3, iT4, iT5, iT6, iT7, iT8, iT9, iT10, iT11, iT12, iT13, iT14, iT15, iT16, iT19, iT20, iT31, iT32, iT42, iT64, iT200, iT318, iT319, iT1000, iTm1, iTm2] at c_34 | skip
              refine j_iconst (v := 0) X dX11_distance_41 rfl ?_
              refine j_istore (L' := [(5, .int 0), (0, .ref (q 0)), (1, .int x1), (2, .int x2), (3, .int pa), (4, .int li)]) X dX11_distance_42 (by decide) rfl ?_
              refine j_aload_n X dX11_distance_44 rfl 1 rfl ?_
              refine j_iload X dX11_distance_45 0 rfl ?_
              refine j_if_ne (tgt := 54) X dX11_distance_47 (by decide) (fun c9 => absurd c9 (by decide)) (fun _ => ?_)
              refine j_iconst (v := 1) X dX11_distance_50 rfl ?_
              refine j_goto (tgt := 77) X dX11_distance_51 (by decide) ?_
              refine j_put (ws' := [(q 0, .inr (10, mF 1 n q co cr po tx ty))]) X dX11_distance_77 0 rfl 0 rfl in_X11_distance_X11 tyX11 tyX11_ok nmX11 (by decide) fl_X11_distance_48 rfl rfl rfl rfl (Nat.le_of_ble_eq_true rfl) rfl ?_
              refine j_aload_n X dX11_distance_80 rfl 1 rfl ?_
              refine j_get (v := .int 1) X dX11_distance_81 0 rfl 0 rfl in_X11_distance_X11 (by decide) fl_X11_distance_48 rfl ?_
              refine j_if_eq (tgt := 89) X dX11_distance_84 (by decide) (fun c9 => absurd c9 (by decide)) (fun _ => ?_)
              refine j_lconst (v := 0) X dX11_distance_87 rfl ?_
              exact E.2.2 88 _ 0 () dX11_distance_88 rfl hr
            · skip
              first | simp only [bI_0, Decidable.not_not, sg_mul, sg_e0, sg_l0, sg_g0, sg_le0, sg_ge0, cmp_eq, cmp_lt, cmp_ge, cmp_gt, cmp_le, lT0, lT1] at c_34 | simp only [Int32.le_iff_toInt_le, Int32.lt_iff_toInt_lt, ← Int32.toInt_inj, iT0, iT1, iT2, iT3, iT4, iT5, iT6, iT7, iT8, iT9, iT10, iT11, iT12, iT13, iT14, iT15, iT16, iT19, iT20, iT31, iT32, iT42, iT64, iT200, iT318, iT319, iT1000, iTm1, iTm2] at c_34 | skip
              exfalso; omega

theorem hy_X11_distance_V : yX11_distance.cls = RX11 ∧ yX11_distance.cls ≠ "java/lang/invoke/MethodHandle" ∧ yX11_distance.cls ≠ "java/lang/invoke/VarHandle" ∧ (parseMethodDescriptor yX11_distance.desc).map (fun d => d.parameters.length) = some 4 := by decide +kernel
theorem fl_X11_distance_7 : Cond.fieldLink RX11 7 (TX11 2).1 (TX11 2).2.1 (TX11 2).2.2.1 ∈ wsX11_distance := by decide +kernel
set_option maxHeartbeats 4000000 in
set_option maxRecDepth 100000 in
theorem c_X11_distance_2 (l : Launch) (G : jG) (q : Nat → Nat) (t n co cr po : Int32) (tx ty : Int64) (fa : Nat → Int32) (x1 x2 pa li : Int32) (a b : Nat) (hx1 : x1 = nI a) (hx2 : x2 = nI b) (ga : a < 200) (gb : b < 200) (hP : (0 ≤ x1.toInt ∧ x1.toInt < n.toInt) ∧ (0 ≤ x2.toInt ∧ x2.toInt < n.toInt) ∧ (0 ≤ pa.toInt ∧ pa.toInt < 2) ∧ (0 ≤ li.toInt ∧ li.toInt < 6)) (hA : ¬ (fa a = 0 ∧ fa b = 0)) : Ct l yX11_distance wsX11_distance rm_X11_distance G [.ref (q 0), .int x1, .int x2, .int pa, .int li] [(q 0, .inr (10, mF t n q co cr po tx ty)), (q 1, aZ G 200 fa)] (S := Unit) (fun r _ => r = some (.long 0)) (fun _ => [(q 0, .inr (10, mF 2 n q co cr po tx ty)), (q 1, aZ G 200 fa)]) (fun _ => []) := by
  refine c_intro (cc := cX11_distance) (maxL := 6) (ret := (some .long)) (by decide) rfl (Nat.le_of_ble_eq_true rfl) (fun _ => by simp only [List.map_cons, List.map_nil]) ?_
  intro p e s m args below meth c Q A X hr hin E
  change J p l e rm_X11_distance s m args below meth c Q G A 6 0 0 0 [(0, .ref (q 0)), (1, .int x1), (2, .int x2), (3, .int pa), (4, .int li)] [] [(q 0, .inr (10, mF t n q co cr po tx ty)), (q 1, aZ G 200 fa)]
  refine j_aload_n X dX11_distance_0 rfl 0 rfl ?_
  refine j_iload_n X dX11_distance_1 rfl 1 rfl ?_
  refine j_callV X dX11_distance_2 (c_X11_isShape l G q t n co cr po tx ty x1) gX11_distance_X11_isShape rfl hy_X11_isShape_V ⟨Nat.le_of_ble_eq_true rfl, Nat.le_of_ble_eq_true rfl⟩ 0 rfl rfl [0] rfl (by decide) rfl rfl (Nat.le_of_ble_eq_true rfl) ⟨Nat.le_of_ble_eq_true rfl, Nat.le_of_ble_eq_true rfl⟩ ?_
  rintro _ ⟨⟩ rfl
  change J p l e rm_X11_distance s m args below meth c Q G A 6 0 0 5 [(0, .ref (q 0)), (1, .int x1), (2, .int x2), (3, .int pa), (4, .int li)] [.int (bI (0 ≤ x1.toInt ∧ x1.toInt < n.toInt))] [(q 0, .inr (10, mF t n q co cr po tx ty)), (q 1, aZ G 200 fa)]
  refine j_if_eq (tgt := 41) X dX11_distance_5 (by decide) (fun c_5 => ?_) (fun c_5 => ?_)
  · skip
    first | simp only [bI_0, Decidable.not_not, sg_mul, sg_e0, sg_l0, sg_g0, sg_le0, sg_ge0, cmp_eq, cmp_lt, cmp_ge, cmp_gt, cmp_le, lT0, lT1] at c_5 | simp only [Int32.le_iff_toInt_le, Int32.lt_iff_toInt_lt, ← Int32.toInt_inj, iT0, iT1, iT2, iT3, iT4, iT5, iT6, iT7, iT8, iT9, iT10, iT11, iT12, iT13, iT14, iT15, iT16, iT19, iT20, iT31, iT32, iT42, iT64, iT200, iT318, iT319, iT1000, iTm1, iTm2] at c_5 | skip
    exfalso; omega
  · skip
    first | simp only [bI_0, Decidable.not_not, sg_mul, sg_e0, sg_l0, sg_g0, sg_le0, sg_ge0, cmp_eq, cmp_lt, cmp_ge, cmp_gt, cmp_le, lT0, lT1] at c_5 | simp only [Int32.le_iff_toInt_le, Int32.lt_iff_toInt_lt, ← Int32.toInt_inj, iT0, iT1, iT2, iT3, iT4, iT5, iT6, iT7, iT8, iT9, iT10, iT11, iT12, iT13, iT14, iT15, iT16, iT19, iT20, iT31, iT32, iT42, iT64, iT200, iT318, iT319, iT1000, iTm1, iTm2] at c_5 | skip
    refine j_aload_n X dX11_distance_8 rfl 0 rfl ?_
    refine j_iload_n X dX11_distance_9 rfl 2 rfl ?_
    refine j_callV X dX11_distance_10 (c_X11_isShape l G q t n co cr po tx ty x2) gX11_distance_X11_isShape rfl hy_X11_isShape_V ⟨Nat.le_of_ble_eq_true rfl, Nat.le_of_ble_eq_true rfl⟩ 0 rfl rfl [0] rfl (by decide) rfl rfl (Nat.le_of_ble_eq_true rfl) ⟨Nat.le_of_ble_eq_true rfl, Nat.le_of_ble_eq_true rfl⟩ ?_
    rintro _ ⟨⟩ rfl
    change J p l e rm_X11_distance s m args below meth c Q G A 6 0 0 13 [(0, .ref (q 0)), (1, .int x1), (2, .int x2), (3, .int pa), (4, .int li)] [.int (bI (0 ≤ x2.toInt ∧ x2.toInt < n.toInt))] [(q 0, .inr (10, mF t n q co cr po tx ty)), (q 1, aZ G 200 fa)]
    refine j_if_eq (tgt := 41) X dX11_distance_13 (by decide) (fun c_13 => ?_) (fun c_13 => ?_)
    · skip
      first | simp only [bI_0, Decidable.not_not, sg_mul, sg_e0, sg_l0, sg_g0, sg_le0, sg_ge0, cmp_eq, cmp_lt, cmp_ge, cmp_gt, cmp_le, lT0, lT1] at c_13 | simp only [Int32.le_iff_toInt_le, Int32.lt_iff_toInt_lt, ← Int32.toInt_inj, iT0, iT1, iT2, iT3, iT4, iT5, iT6, iT7, iT8, iT9, iT10, iT11, iT12, iT13, iT14, iT15, iT16, iT19, iT20, iT31, iT32, iT42, iT64, iT200, iT318, iT319, iT1000, iTm1, iTm2] at c_13 | skip
      exfalso; omega
    · skip
      first | simp only [bI_0, Decidable.not_not, sg_mul, sg_e0, sg_l0, sg_g0, sg_le0, sg_ge0, cmp_eq, cmp_lt, cmp_ge, cmp_gt, cmp_le, lT0, lT1] at c_13 | simp only [Int32.le_iff_toInt_le, Int32.lt_iff_toInt_lt, ← Int32.toInt_inj, iT0, iT1, iT2, iT3, iT4, iT5, iT6, iT7, iT8, iT9, iT10, iT11, iT12, iT13, iT14, iT15, iT16, iT19, iT20, iT31, iT32, iT42, iT64, iT200, iT318, iT319, iT1000, iTm1, iTm2] at c_13 | skip
      refine j_iload_n X dX11_distance_16 rfl 3 rfl ?_
      refine j_if_lt (tgt := 41) X dX11_distance_17 (by decide) (fun c_17 => ?_) (fun c_17 => ?_)
      · skip
        first | simp only [bI_0, Decidable.not_not, sg_mul, sg_e0, sg_l0, sg_g0, sg_le0, sg_ge0, cmp_eq, cmp_lt, cmp_ge, cmp_gt, cmp_le, lT0, lT1] at c_17 | simp only [Int32.le_iff_toInt_le, Int32.lt_iff_toInt_lt, ← Int32.toInt_inj, iT0, iT1, iT2, iT3, iT4, iT5, iT6, iT7, iT8, iT9, iT10, iT11, iT12, iT13, iT14, iT15, iT16, iT19, iT20, iT31, iT32, iT42, iT64, iT200, iT318, iT319, iT1000, iTm1, iTm2] at c_17 | skip
        exfalso; omega
      · skip
        first | simp only [bI_0, Decidable.not_not, sg_mul, sg_e0, sg_l0, sg_g0, sg_le0, sg_ge0, cmp_eq, cmp_lt, cmp_ge, cmp_gt, cmp_le, lT0, lT1] at c_17 | simp only [Int32.le_iff_toInt_le, Int32.lt_iff_toInt_lt, ← Int32.toInt_inj, iT0, iT1, iT2, iT3, iT4, iT5, iT6, iT7, iT8, iT9, iT10, iT11, iT12, iT13, iT14, iT15, iT16, iT19, iT20, iT31, iT32, iT42, iT64, iT200, iT318, iT319, iT1000, iTm1, iTm2] at c_17 | skip
        refine j_iload_n X dX11_distance_20 rfl 3 rfl ?_
        refine j_iconst (v := 2) X dX11_distance_21 rfl ?_
        refine j_icmp_ge (tgt := 41) X dX11_distance_22 (by decide) (fun c_22 => ?_) (fun c_22 => ?_)
        · skip
          first | simp only [bI_0, Decidable.not_not, sg_mul, sg_e0, sg_l0, sg_g0, sg_le0, sg_ge0, cmp_eq, cmp_lt, cmp_ge, cmp_gt, cmp_le, lT0, lT1] at c_22 | simp only [Int32.le_iff_toInt_le, Int32.lt_iff_toInt_lt, ← Int32.toInt_inj, iT0, iT1, iT2, iT3, iT4, iT5, iT6, iT7, iT8, iT9, iT10, iT11, iT12, iT13, iT14, iT15, iT16, iT19, iT20, iT31, iT32, iT42, iT64, iT200, iT318, iT319, iT1000, iTm1, iTm2] at c_22 | skip
          exfalso; omega
        · skip
          first | simp only [bI_0, Decidable.not_not, sg_mul, sg_e0, sg_l0, sg_g0, sg_le0, sg_ge0, cmp_eq, cmp_lt, cmp_ge, cmp_gt, cmp_le, lT0, lT1] at c_22 | simp only [Int32.le_iff_toInt_le, Int32.lt_iff_toInt_lt, ← Int32.toInt_inj, iT0, iT1, iT2, iT3, iT4, iT5, iT6, iT7, iT8, iT9, iT10, iT11, iT12, iT13, iT14, iT15, iT16, iT19, iT20, iT31, iT32, iT42, iT64, iT200, iT318, iT319, iT1000, iTm1, iTm2] at c_22 | skip
          refine j_iload X dX11_distance_25 4 rfl ?_
          refine j_if_lt (tgt := 41) X dX11_distance_27 (by decide) (fun c_27 => ?_) (fun c_27 => ?_)
          · skip
            first | simp only [bI_0, Decidable.not_not, sg_mul, sg_e0, sg_l0, sg_g0, sg_le0, sg_ge0, cmp_eq, cmp_lt, cmp_ge, cmp_gt, cmp_le, lT0, lT1] at c_27 | simp only [Int32.le_iff_toInt_le, Int32.lt_iff_toInt_lt, ← Int32.toInt_inj, iT0, iT1, iT2, iT3, iT4, iT5, iT6, iT7, iT8, iT9, iT10, iT11, iT12, iT13, iT14, iT15, iT16, iT19, iT20, iT31, iT32, iT42, iT64, iT200, iT318, iT319, iT1000, iTm1, iTm2] at c_27 | skip
            exfalso; omega
          · skip
            first | simp only [bI_0, Decidable.not_not, sg_mul, sg_e0, sg_l0, sg_g0, sg_le0, sg_ge0, cmp_eq, cmp_lt, cmp_ge, cmp_gt, cmp_le, lT0, lT1] at c_27 | simp only [Int32.le_iff_toInt_le, Int32.lt_iff_toInt_lt, ← Int32.toInt_inj, iT0, iT1, iT2, iT3, iT4, iT5, iT6, iT7, iT8, iT9, iT10, iT11, iT12, iT13, iT14, iT15, iT16, iT19, iT20, iT31, iT32, iT42, iT64, iT200, iT318, iT319, iT1000, iTm1, iTm2] at c_27 | skip
            refine j_iload X dX11_distance_30 4 rfl ?_
            refine j_bipush (v := 6) X dX11_distance_32 (by decide) ?_
            refine j_icmp_ge (tgt := 41) X dX11_distance_34 (by decide) (fun c_34 => ?_) (fun c_34 => ?_)
            · skip
              first | simp only [bI_0, Decidable.not_not, sg_mul, sg_e0, sg_l0, sg_g0, sg_le0, sg_ge0, cmp_eq, cmp_lt, cmp_ge, cmp_gt, cmp_le, lT0, lT1] at c_34 | simp only [Int32.le_iff_toInt_le, Int32.lt_iff_toInt_lt, ← Int32.toInt_inj, iT0, iT1, iT2, iT3, iT4, iT5, iT6, iT7, iT8, iT9, iT10, iT11, iT12, iT13, iT14, iT15, iT16, iT19, iT20, iT31, iT32, iT42, iT64, iT200, iT318, iT319, iT1000, iTm1, iTm2] at c_34 | skip
              exfalso; omega
            · skip
              first | simp only [bI_0, Decidable.not_not, sg_mul, sg_e0, sg_l0, sg_g0, sg_le0, sg_ge0, cmp_eq, cmp_lt, cmp_ge, cmp_gt, cmp_le, lT0, lT1] at c_34 | simp only [Int32.le_iff_toInt_le, Int32.lt_iff_toInt_lt, ← Int32.toInt_inj, iT0, iT1, iT2, iT3, iT4, iT5, iT6, iT7, iT8, iT9, iT10, iT11, iT12, iT13, iT14, iT15, iT16, iT19, iT20, iT31, iT32, iT42, iT64, iT200, iT318, iT319, iT1000, iTm1, iTm2] at c_34 | skip
              refine j_iconst (v := 1) X dX11_distance_37 rfl ?_
              refine j_goto (tgt := 42) X dX11_distance_38 (by decide) ?_
              refine j_istore (L' := [(5, .int 1), (0, .ref (q 0)), (1, .int x1), (2, .int x2), (3, .int pa), (4, .int li)]) X dX11_distance_42 (by decide) rfl ?_
              refine j_aload_n X dX11_distance_44 rfl 1 rfl ?_
              refine j_iload X dX11_distance_45 0 rfl ?_
              refine j_if_ne (tgt := 54) X dX11_distance_47 (by decide) (fun _ => ?_) (fun c9 => absurd c9 (by decide))
              subst hx1 hx2
              refine j_aload_n X dX11_distance_54 rfl 1 rfl ?_
              refine j_get (v := .ref (q 1)) X dX11_distance_55 0 rfl 2 rfl in_X11_distance_X11 (by decide) fl_X11_distance_7 rfl ?_
              refine j_iload_n X dX11_distance_58 rfl 2 rfl ?_
              refine j_zald X dX11_distance_59 1 rfl a rfl ga (by decide) ?_
              refine j_if_ne (tgt := 72) X dX11_distance_60 (by decide) (fun c_60 => ?_) (fun c_60 => ?_)
              · skip
                refine j_iconst (v := 2) X dX11_distance_72 rfl ?_
                refine j_goto (tgt := 77) X dX11_distance_73 (by decide) ?_
                refine j_put (ws' := [(q 0, .inr (10, mF 2 n q co cr po tx ty)), (q 1, aZ G 200 fa)]) X dX11_distance_77 0 rfl 0 rfl in_X11_distance_X11 tyX11 tyX11_ok nmX11 (by decide) fl_X11_distance_48 rfl rfl rfl rfl (Nat.le_of_ble_eq_true rfl) rfl ?_
                refine j_aload_n X dX11_distance_80 rfl 1 rfl ?_
                refine j_get (v := .int 2) X dX11_distance_81 0 rfl 0 rfl in_X11_distance_X11 (by decide) fl_X11_distance_48 rfl ?_
                refine j_if_eq (tgt := 89) X dX11_distance_84 (by decide) (fun c9 => absurd c9 (by decide)) (fun _ => ?_)
                refine j_lconst (v := 0) X dX11_distance_87 rfl ?_
                exact E.2.2 88 _ 0 () dX11_distance_88 rfl hr
              · skip
                refine j_aload_n X dX11_distance_63 rfl 1 rfl ?_
                refine j_get (v := .ref (q 1)) X dX11_distance_64 0 rfl 2 rfl in_X11_distance_X11 (by decide) fl_X11_distance_7 rfl ?_
                refine j_iload_n X dX11_distance_67 rfl 3 rfl ?_
                refine j_zald X dX11_distance_68 1 rfl b rfl gb (by decide) ?_
                refine j_if_eq (tgt := 76) X dX11_distance_69 (by decide) (fun c_69 => ?_) (fun c_69 => ?_)
                · skip
                  exact absurd ⟨c_60, c_69⟩ hA
                · skip
                  refine j_iconst (v := 2) X dX11_distance_72 rfl ?_
                  refine j_goto (tgt := 77) X dX11_distance_73 (by decide) ?_
                  refine j_put (ws' := [(q 0, .inr (10, mF 2 n q co cr po tx ty)), (q 1, aZ G 200 fa)]) X dX11_distance_77 0 rfl 0 rfl in_X11_distance_X11 tyX11 tyX11_ok nmX11 (by decide) fl_X11_distance_48 rfl rfl rfl rfl (Nat.le_of_ble_eq_true rfl) rfl ?_
                  refine j_aload_n X dX11_distance_80 rfl 1 rfl ?_
                  refine j_get (v := .int 2) X dX11_distance_81 0 rfl 0 rfl in_X11_distance_X11 (by decide) fl_X11_distance_48 rfl ?_
                  refine j_if_eq (tgt := 89) X dX11_distance_84 (by decide) (fun c9 => absurd c9 (by decide)) (fun _ => ?_)
                  refine j_lconst (v := 0) X dX11_distance_87 rfl ?_
                  exact E.2.2 88 _ 0 () dX11_distance_88 rfl hr

theorem fl_X11_distance_13 : Cond.fieldLink RX11 13 (TX11 3).1 (TX11 3).2.1 (TX11 3).2.2.1 ∈ wsX11_distance := by decide +kernel
theorem fl_X11_distance_17 : Cond.fieldLink RX11 17 (TX11 4).1 (TX11 4).2.1 (TX11 4).2.2.1 ∈ wsX11_distance := by decide +kernel
set_option maxHeartbeats 4000000 in
set_option maxRecDepth 100000 in
theorem c_X11_distance_0 (l : Launch) (G : jG) (q : Nat → Nat) (t n co cr po : Int32) (tx ty : Int64) (zs : List Int) (hl : zs.length = 16) (sf : Nat → Int32) (hS : okS zs sf) (fa : Nat → Int32) (f1 f2 f3 f4 : Nat → Int64) (x1 x2 pa li : Int32) (a b : Nat) (hx1 : x1 = nI a) (hx2 : x2 = nI b) (ga : a < 200) (gb : b < 200) (hP : (0 ≤ x1.toInt ∧ x1.toInt < n.toInt) ∧ (0 ≤ x2.toInt ∧ x2.toInt < n.toInt) ∧ (0 ≤ pa.toInt ∧ pa.toInt < 2) ∧ (0 ≤ li.toInt ∧ li.toInt < 6)) (hA : fa a = 0 ∧ fa b = 0) (ba : segB f1 f2 f3 f4 a) (bb : segB f1 f2 f3 f4 b) : Ct l yX11_distance wsX11_distance rm_X11_distance G [.ref (q 0), .int x1, .int x2, .int pa, .int li] [(q 0, .inr (10, mF t n q co cr po tx ty)), (q 1, aZ G 200 fa), (q 2, aJ G 200 f1), (q 3, aJ G 200 f2), (q 4, aJ G 200 f3), (q 5, aJ G 200 f4), (q 10, aI G 320 (rg zs)), (q 11, aZ G 16 sf)] (S := Int64 × List Int × (Nat → Int32)) (fun r u => r = some (.long u.1) ∧ u.1.toInt = dsv f1 f2 f3 f4 a b pa.toInt li.toInt ∧ kp zs u.2.1 ∧ okS u.2.1 u.2.2) (fun u => [(q 0, .inr (10, mF 0 n q co cr po tx ty)), (q 1, aZ G 200 fa), (q 2, aJ G 200 f1), (q 3, aJ G 200 f2), (q 4, aJ G 200 f3), (q 5, aJ G 200 f4), (q 10, aI G 320 (rg u.2.1)), (q 11, aZ G 16 u.2.2)]) (fun _ => []) := by
  refine c_intro (cc := cX11_distance) (maxL := 6) (ret := (some .long)) (by decide) rfl (Nat.le_of_ble_eq_true rfl) (fun _ => by simp only [List.map_cons, List.map_nil]) ?_
  intro p e s m args below meth c Q A X hr hin E
  change J p l e rm_X11_distance s m args below meth c Q G A 6 0 0 0 [(0, .ref (q 0)), (1, .int x1), (2, .int x2), (3, .int pa), (4, .int li)] [] [(q 0, .inr (10, mF t n q co cr po tx ty)), (q 1, aZ G 200 fa), (q 2, aJ G 200 f1), (q 3, aJ G 200 f2), (q 4, aJ G 200 f3), (q 5, aJ G 200 f4), (q 10, aI G 320 (rg zs)), (q 11, aZ G 16 sf)]
  obtain ⟨z0, z1, z2, z3, z4, z5, z6, z7, z8, z9, z10, z11, z12, z13, z14, z15, rfl⟩ := l16 hl
  refine j_aload_n X dX11_distance_0 rfl 0 rfl ?_
  refine j_iload_n X dX11_distance_1 rfl 1 rfl ?_
  refine j_callV X dX11_distance_2 (c_X11_isShape l G q t n co cr po tx ty x1) gX11_distance_X11_isShape rfl hy_X11_isShape_V ⟨Nat.le_of_ble_eq_true rfl, Nat.le_of_ble_eq_true rfl⟩ 0 rfl rfl [0] rfl (by decide) rfl rfl (Nat.le_of_ble_eq_true rfl) ⟨Nat.le_of_ble_eq_true rfl, Nat.le_of_ble_eq_true rfl⟩ ?_
  rintro _ ⟨⟩ rfl
  change J p l e rm_X11_distance s m args below meth c Q G A 6 0 0 5 [(0, .ref (q 0)), (1, .int x1), (2, .int x2), (3, .int pa), (4, .int li)] [.int (bI (0 ≤ x1.toInt ∧ x1.toInt < n.toInt))] [(q 0, .inr (10, mF t n q co cr po tx ty)), (q 1, aZ G 200 fa), (q 2, aJ G 200 f1), (q 3, aJ G 200 f2), (q 4, aJ G 200 f3), (q 5, aJ G 200 f4), (q 10, aI G 320 (rg [z0, z1, z2, z3, z4, z5, z6, z7, z8, z9, z10, z11, z12, z13, z14, z15])), (q 11, aZ G 16 sf)]
  refine j_if_eq (tgt := 41) X dX11_distance_5 (by decide) (fun c_5 => ?_) (fun c_5 => ?_)
  · skip
    first | simp only [bI_0, Decidable.not_not, sg_mul, sg_e0, sg_l0, sg_g0, sg_le0, sg_ge0, cmp_eq, cmp_lt, cmp_ge, cmp_gt, cmp_le, lT0, lT1] at c_5 | simp only [Int32.le_iff_toInt_le, Int32.lt_iff_toInt_lt, ← Int32.toInt_inj, iT0, iT1, iT2, iT3, iT4, iT5, iT6, iT7, iT8, iT9, iT10, iT11, iT12, iT13, iT14, iT15, iT16, iT19, iT20, iT31, iT32, iT42, iT64, iT200, iT318, iT319, iT1000, iTm1, iTm2] at c_5 | skip
    exfalso; omega
  · skip
    first | simp only [bI_0, Decidable.not_not, sg_mul, sg_e0, sg_l0, sg_g0, sg_le0, sg_ge0, cmp_eq, cmp_lt, cmp_ge, cmp_gt, cmp_le, lT0, lT1] at c_5 | simp only [Int32.le_iff_toInt_le, Int32.lt_iff_toInt_lt, ← Int32.toInt_inj, iT0, iT1, iT2, iT3, iT4, iT5, iT6, iT7, iT8, iT9, iT10, iT11, iT12, iT13, iT14, iT15, iT16, iT19, iT20, iT31, iT32, iT42, iT64, iT200, iT318, iT319, iT1000, iTm1, iTm2] at c_5 | skip
    refine j_aload_n X dX11_distance_8 rfl 0 rfl ?_
    refine j_iload_n X dX11_distance_9 rfl 2 rfl ?_
    refine j_callV X dX11_distance_10 (c_X11_isShape l G q t n co cr po tx ty x2) gX11_distance_X11_isShape rfl hy_X11_isShape_V ⟨Nat.le_of_ble_eq_true rfl, Nat.le_of_ble_eq_true rfl⟩ 0 rfl rfl [0] rfl (by decide) rfl rfl (Nat.le_of_ble_eq_true rfl) ⟨Nat.le_of_ble_eq_true rfl, Nat.le_of_ble_eq_true rfl⟩ ?_
    rintro _ ⟨⟩ rfl
    change J p l e rm_X11_distance s m args below meth c Q G A 6 0 0 13 [(0, .ref (q 0)), (1, .int x1), (2, .int x2), (3, .int pa), (4, .int li)] [.int (bI (0 ≤ x2.toInt ∧ x2.toInt < n.toInt))] [(q 0, .inr (10, mF t n q co cr po tx ty)), (q 1, aZ G 200 fa), (q 2, aJ G 200 f1), (q 3, aJ G 200 f2), (q 4, aJ G 200 f3), (q 5, aJ G 200 f4), (q 10, aI G 320 (rg [z0, z1, z2, z3, z4, z5, z6, z7, z8, z9, z10, z11, z12, z13, z14, z15])), (q 11, aZ G 16 sf)]
    refine j_if_eq (tgt := 41) X dX11_distance_13 (by decide) (fun c_13 => ?_) (fun c_13 => ?_)
    · skip
      first | simp only [bI_0, Decidable.not_not, sg_mul, sg_e0, sg_l0, sg_g0, sg_le0, sg_ge0, cmp_eq, cmp_lt, cmp_ge, cmp_gt, cmp_le, lT0, lT1] at c_13 | simp only [Int32.le_iff_toInt_le, Int32.lt_iff_toInt_lt, ← Int32.toInt_inj, iT0, iT1, iT2, iT3, iT4, iT5, iT6, iT7, iT8, iT9, iT10, iT11, iT12, iT13, iT14, iT15, iT16, iT19, iT20, iT31, iT32, iT42, iT64, iT200, iT318, iT319, iT1000, iTm1, iTm2] at c_13 | skip
      exfalso; omega
    · skip
      first | simp only [bI_0, Decidable.not_not, sg_mul, sg_e0, sg_l0, sg_g0, sg_le0, sg_ge0, cmp_eq, cmp_lt, cmp_ge, cmp_gt, cmp_le, lT0, lT1] at c_13 | simp only [Int32.le_iff_toInt_le, Int32.lt_iff_toInt_lt, ← Int32.toInt_inj, iT0, iT1, iT2, iT3, iT4, iT5, iT6, iT7, iT8, iT9, iT10, iT11, iT12, iT13, iT14, iT15, iT16, iT19, iT20, iT31, iT32, iT42, iT64, iT200, iT318, iT319, iT1000, iTm1, iTm2] at c_13 | skip
      refine j_iload_n X dX11_distance_16 rfl 3 rfl ?_
      refine j_if_lt (tgt := 41) X dX11_distance_17 (by decide) (fun c_17 => ?_) (fun c_17 => ?_)
      · skip
        first | simp only [bI_0, Decidable.not_not, sg_mul, sg_e0, sg_l0, sg_g0, sg_le0, sg_ge0, cmp_eq, cmp_lt, cmp_ge, cmp_gt, cmp_le, lT0, lT1] at c_17 | simp only [Int32.le_iff_toInt_le, Int32.lt_iff_toInt_lt, ← Int32.toInt_inj, iT0, iT1, iT2, iT3, iT4, iT5, iT6, iT7, iT8, iT9, iT10, iT11, iT12, iT13, iT14, iT15, iT16, iT19, iT20, iT31, iT32, iT42, iT64, iT200, iT318, iT319, iT1000, iTm1, iTm2] at c_17 | skip
        exfalso; omega
      · skip
        first | simp only [bI_0, Decidable.not_not, sg_mul, sg_e0, sg_l0, sg_g0, sg_le0, sg_ge0, cmp_eq, cmp_lt, cmp_ge, cmp_gt, cmp_le, lT0, lT1] at c_17 | simp only [Int32.le_iff_toInt_le, Int32.lt_iff_toInt_lt, ← Int32.toInt_inj, iT0, iT1, iT2, iT3, iT4, iT5, iT6, iT7, iT8, iT9, iT10, iT11, iT12, iT13, iT14, iT15, iT16, iT19, iT20, iT31, iT32, iT42, iT64, iT200, iT318, iT319, iT1000, iTm1, iTm2] at c_17 | skip
        refine j_iload_n X dX11_distance_20 rfl 3 rfl ?_
        refine j_iconst (v := 2) X dX11_distance_21 rfl ?_
        refine j_icmp_ge (tgt := 41) X dX11_distance_22 (by decide) (fun c_22 => ?_) (fun c_22 => ?_)
        · skip
          first | simp only [bI_0, Decidable.not_not, sg_mul, sg_e0, sg_l0, sg_g0, sg_le0, sg_ge0, cmp_eq, cmp_lt, cmp_ge, cmp_gt, cmp_le, lT0, lT1] at c_22 | simp only [Int32.le_iff_toInt_le, Int32.lt_iff_toInt_lt, ← Int32.toInt_inj, iT0, iT1, iT2, iT3, iT4, iT5, iT6, iT7, iT8, iT9, iT10, iT11, iT12, iT13, iT14, iT15, iT16, iT19, iT20, iT31, iT32, iT42, iT64, iT200, iT318, iT319, iT1000, iTm1, iTm2] at c_22 | skip
          exfalso; omega
        · skip
          first | simp only [bI_0, Decidable.not_not, sg_mul, sg_e0, sg_l0, sg_g0, sg_le0, sg_ge0, cmp_eq, cmp_lt, cmp_ge, cmp_gt, cmp_le, lT0, lT1] at c_22 | simp only [Int32.le_iff_toInt_le, Int32.lt_iff_toInt_lt, ← Int32.toInt_inj, iT0, iT1, iT2, iT3, iT4, iT5, iT6, iT7, iT8, iT9, iT10, iT11, iT12, iT13, iT14, iT15, iT16, iT19, iT20, iT31, iT32, iT42, iT64, iT200, iT318, iT319, iT1000, iTm1, iTm2] at c_22 | skip
          refine j_iload X dX11_distance_25 4 rfl ?_
          refine j_if_lt (tgt := 41) X dX11_distance_27 (by decide) (fun c_27 => ?_) (fun c_27 => ?_)
          · skip
            first | simp only [bI_0, Decidable.not_not, sg_mul, sg_e0, sg_l0, sg_g0, sg_le0, sg_ge0, cmp_eq, cmp_lt, cmp_ge, cmp_gt, cmp_le, lT0, lT1] at c_27 | simp only [Int32.le_iff_toInt_le, Int32.lt_iff_toInt_lt, ← Int32.toInt_inj, iT0, iT1, iT2, iT3, iT4, iT5, iT6, iT7, iT8, iT9, iT10, iT11, iT12, iT13, iT14, iT15, iT16, iT19, iT20, iT31, iT32, iT42, iT64, iT200, iT318, iT319, iT1000, iTm1, iTm2] at c_27 | skip
            exfalso; omega
          · skip
            first | simp only [bI_0, Decidable.not_not, sg_mul, sg_e0, sg_l0, sg_g0, sg_le0, sg_ge0, cmp_eq, cmp_lt, cmp_ge, cmp_gt, cmp_le, lT0, lT1] at c_27 | simp only [Int32.le_iff_toInt_le, Int32.lt_iff_toInt_lt, ← Int32.toInt_inj, iT0, iT1, iT2, iT3, iT4, iT5, iT6, iT7, iT8, iT9, iT10, iT11, iT12, iT13, iT14, iT15, iT16, iT19, iT20, iT31, iT32, iT42, iT64, iT200, iT318, iT319, iT1000, iTm1, iTm2] at c_27 | skip
            refine j_iload X dX11_distance_30 4 rfl ?_
            refine j_bipush (v := 6) X dX11_distance_32 (by decide) ?_
            refine j_icmp_ge (tgt := 41) X dX11_distance_34 (by decide) (fun c_34 => ?_) (fun c_34 => ?_)
            · skip
              first | simp only [bI_0, Decidable.not_not, sg_mul, sg_e0, sg_l0, sg_g0, sg_le0, sg_ge0, cmp_eq, cmp_lt, cmp_ge, cmp_gt, cmp_le, lT0, lT1] at c_34 | simp only [Int32.le_iff_toInt_le, Int32.lt_iff_toInt_lt, ← Int32.toInt_inj, iT0, iT1, iT2, iT3, iT4, iT5, iT6, iT7, iT8, iT9, iT10, iT11, iT12, iT13, iT14, iT15, iT16, iT19, iT20, iT31, iT32, iT42, iT64, iT200, iT318, iT319, iT1000, iTm1, iTm2] at c_34 | skip
              exfalso; omega
            · skip
              first | simp only [bI_0, Decidable.not_not, sg_mul, sg_e0, sg_l0, sg_g0, sg_le0, sg_ge0, cmp_eq, cmp_lt, cmp_ge, cmp_gt, cmp_le, lT0, lT1] at c_34 | simp only [Int32.le_iff_toInt_le, Int32.lt_iff_toInt_lt, ← Int32.toInt_inj, iT0, iT1, iT2, iT3, iT4, iT5, iT6, iT7, iT8, iT9, iT10, iT11, iT12, iT13, iT14, iT15, iT16, iT19, iT20, iT31, iT32, iT42, iT64, iT200, iT318, iT319, iT1000, iTm1, iTm2] at c_34 | skip
              refine j_iconst (v := 1) X dX11_distance_37 rfl ?_
              refine j_goto (tgt := 42) X dX11_distance_38 (by decide) ?_
              refine j_istore (L' := [(5, .int 1), (0, .ref (q 0)), (1, .int x1), (2, .int x2), (3, .int pa), (4, .int li)]) X dX11_distance_42 (by decide) rfl ?_
              refine j_aload_n X dX11_distance_44 rfl 1 rfl ?_
              refine j_iload X dX11_distance_45 0 rfl ?_
              refine j_if_ne (tgt := 54) X dX11_distance_47 (by decide) (fun _ => ?_) (fun c9 => absurd c9 (by decide))
              subst hx1 hx2
              refine j_aload_n X dX11_distance_54 rfl 1 rfl ?_
              refine j_get (v := .ref (q 1)) X dX11_distance_55 0 rfl 2 rfl in_X11_distance_X11 (by decide) fl_X11_distance_7 rfl ?_
              refine j_iload_n X dX11_distance_58 rfl 2 rfl ?_
              refine j_zald X dX11_distance_59 1 rfl a rfl ga (by decide) ?_
              refine j_if_ne (tgt := 72) X dX11_distance_60 (by decide) (fun c_60 => ?_) (fun c_60 => ?_)
              · skip
                exact absurd hA.1 c_60
              · skip
                refine j_aload_n X dX11_distance_63 rfl 1 rfl ?_
                refine j_get (v := .ref (q 1)) X dX11_distance_64 0 rfl 2 rfl in_X11_distance_X11 (by decide) fl_X11_distance_7 rfl ?_
                refine j_iload_n X dX11_distance_67 rfl 3 rfl ?_
                refine j_zald X dX11_distance_68 1 rfl b rfl gb (by decide) ?_
                refine j_if_eq (tgt := 76) X dX11_distance_69 (by decide) (fun c_69 => ?_) (fun c_69 => ?_)
                · skip
                  refine j_iconst (v := 0) X dX11_distance_76 rfl ?_
                  refine j_put (ws' := [(q 0, .inr (10, mF 0 n q co cr po tx ty)), (q 1, aZ G 200 fa), (q 2, aJ G 200 f1), (q 3, aJ G 200 f2), (q 4, aJ G 200 f3), (q 5, aJ G 200 f4), (q 10, aI G 320 (rg [z0, z1, z2, z3, z4, z5, z6, z7, z8, z9, z10, z11, z12, z13, z14, z15])), (q 11, aZ G 16 sf)]) X dX11_distance_77 0 rfl 0 rfl in_X11_distance_X11 tyX11 tyX11_ok nmX11 (by decide) fl_X11_distance_48 rfl rfl rfl rfl (Nat.le_of_ble_eq_true rfl) rfl ?_
                  refine j_aload_n X dX11_distance_80 rfl 1 rfl ?_
                  refine j_get (v := .int 0) X dX11_distance_81 0 rfl 0 rfl in_X11_distance_X11 (by decide) fl_X11_distance_48 rfl ?_
                  refine j_if_eq (tgt := 89) X dX11_distance_84 (by decide) (fun _ => ?_) (fun c9 => absurd c9 (by decide))
                  refine j_aload_n X dX11_distance_89 rfl 1 rfl ?_
                  refine j_iload_n X dX11_distance_90 rfl 2 rfl ?_
                  refine j_iload_n X dX11_distance_91 rfl 3 rfl ?_
                  refine j_callV X dX11_distance_92 (c_X11_meet l G q 0 n co cr po tx ty [z0, z1, z2, z3, z4, z5, z6, z7, z8, z9, z10, z11, z12, z13, z14, z15] rfl sf hS f1 f2 f3 f4 a b ba ga bb gb) gX11_distance_X11_meet rfl hy_X11_meet_V ⟨Nat.le_of_ble_eq_true rfl, Nat.le_of_ble_eq_true rfl⟩ 0 rfl rfl [0, 2, 3, 4, 5, 6, 7] rfl (by decide) rfl rfl (Nat.le_of_ble_eq_true rfl) ⟨Nat.le_of_ble_eq_true rfl, Nat.le_of_ble_eq_true rfl⟩ ?_
                  rintro _ ⟨zs_2, sf_1⟩ ⟨rfl, hk_sf_1, hS_sf_1⟩
                  obtain ⟨y4_sf_1, y5_sf_1, y6_sf_1, y7_sf_1, y8_sf_1, y9_sf_1, y10_sf_1, y11_sf_1, y12_sf_1, y13_sf_1, y14_sf_1, y15_sf_1, rfl⟩ := kp_4 hk_sf_1
                  change J p l e rm_X11_distance s m args below meth c Q G A 6 0 0 95 [(5, .int 1), (0, .ref (q 0)), (1, .int (nI a)), (2, .int (nI b)), (3, .int pa), (4, .int li)] [.int (bI (mt (f1 a).toInt (f2 a).toInt (f3 a).toInt (f4 a).toInt (f1 b).toInt (f2 b).toInt (f3 b).toInt (f4 b).toInt))] [(q 0, .inr (10, mF 0 n q co cr po tx ty)), (q 1, aZ G 200 fa), (q 2, aJ G 200 f1), (q 3, aJ G 200 f2), (q 4, aJ G 200 f3), (q 5, aJ G 200 f4), (q 10, aI G 320 (rg [z0, z1, z2, z3, y4_sf_1, y5_sf_1, y6_sf_1, y7_sf_1, y8_sf_1, y9_sf_1, y10_sf_1, y11_sf_1, y12_sf_1, y13_sf_1, y14_sf_1, y15_sf_1])), (q 11, aZ G 16 sf_1)]
                  refine j_if_eq (tgt := 114) X dX11_distance_95 (by decide) (fun c_95 => ?_) (fun c_95 => ?_)
                  · skip
                    first | simp only [bI_0, Decidable.not_not, sg_mul, sg_e0, sg_l0, sg_g0, sg_le0, sg_ge0, cmp_eq, cmp_lt, cmp_ge, cmp_gt, cmp_le, lT0, lT1] at c_95 | simp only [Int32.le_iff_toInt_le, Int32.lt_iff_toInt_lt, ← Int32.toInt_inj, iT0, iT1, iT2, iT3, iT4, iT5, iT6, iT7, iT8, iT9, iT10, iT11, iT12, iT13, iT14, iT15, iT16, iT19, iT20, iT31, iT32, iT42, iT64, iT200, iT318, iT319, iT1000, iTm1, iTm2] at c_95 | skip
                    refine j_aload_n X dX11_distance_114 rfl 1 rfl ?_
                    refine j_iload_n X dX11_distance_115 rfl 2 rfl ?_
                    refine j_aload_n X dX11_distance_116 rfl 1 rfl ?_
                    refine j_get (v := .ref (q 2)) X dX11_distance_117 0 rfl 3 rfl in_X11_distance_X11 (by decide) fl_X11_distance_13 rfl ?_
                    refine j_iload_n X dX11_distance_120 rfl 3 rfl ?_
                    refine j_lald X dX11_distance_121 2 rfl b rfl gb (by decide) ?_
                    refine j_aload_n X dX11_distance_122 rfl 1 rfl ?_
                    refine j_get (v := .ref (q 3)) X dX11_distance_123 0 rfl 4 rfl in_X11_distance_X11 (by decide) fl_X11_distance_17 rfl ?_
                    refine j_iload_n X dX11_distance_126 rfl 3 rfl ?_
                    refine j_lald X dX11_distance_127 3 rfl b rfl gb (by decide) ?_
                    refine j_callV X dX11_distance_128 (c_X11_placeFrom l G q 0 n co cr po tx ty z0 z1 z2 z3 y4_sf_1 y5_sf_1 y6_sf_1 y7_sf_1 y8_sf_1 y9_sf_1 y10_sf_1 y11_sf_1 y12_sf_1 y13_sf_1 y14_sf_1 y15_sf_1 sf_1 hS_sf_1 f1 f2 f3 f4 a ba ga (f1 b) (f2 b) bb.1.1 bb.1.2) gX11_distance_X11_placeFrom rfl hy_X11_placeFrom_V ⟨Nat.le_of_ble_eq_true rfl, Nat.le_of_ble_eq_true rfl⟩ 0 rfl rfl [0, 2, 3, 4, 5, 6, 7] rfl (by decide) rfl rfl (Nat.le_of_ble_eq_true rfl) ⟨Nat.le_of_ble_eq_true rfl, Nat.le_of_ble_eq_true rfl⟩ ?_
                    rintro _ ⟨y_4, y_5, y_6, y_7, y_8, y_9, y_10, y_11, sf_3⟩ ⟨rfl, ey_6, ey_7, hS_sf_3⟩
                    dsimp only at ey_6 ey_7 hS_sf_3
                    change J p l e rm_X11_distance s m args below meth c Q G A 6 0 0 131 [(5, .int 1), (0, .ref (q 0)), (1, .int (nI a)), (2, .int (nI b)), (3, .int pa), (4, .int li)] [] [(q 0, .inr (10, mF 0 n q co cr po tx ty)), (q 1, aZ G 200 fa), (q 2, aJ G 200 f1), (q 3, aJ G 200 f2), (q 4, aJ G 200 f3), (q 5, aJ G 200 f4), (q 10, aI G 320 (rg [z0, z1, z2, z3, y_4, y_5, y_6, y_7, y8_sf_1, y9_sf_1, y10_sf_1, y11_sf_1, y_8, y_9, y_10, y_11])), (q 11, aZ G 16 sf_3)]
                    have by_6 : bd 166 y_6 := by rw [ey_6]; exact (pd_bd ba.1.1 ba.1.2 ba.2.1 ba.2.2 bb.1.1 bb.1.2).1
                    have by_7 : bd 83 y_7 := by rw [ey_7]; exact (pd_bd ba.1.1 ba.1.2 ba.2.1 ba.2.2 bb.1.1 bb.1.2).2
                    refine j_aload_n X dX11_distance_131 rfl 1 rfl ?_
                    refine j_bipush (v := 8) X dX11_distance_132 (by decide) ?_
                    refine j_bipush (v := 6) X dX11_distance_134 (by decide) ?_
                    refine j_callV X dX11_distance_136 (h_copy l G q 0 n co cr po tx ty [z0, z1, z2, z3, y_4, y_5, y_6, y_7, y8_sf_1, y9_sf_1, y10_sf_1, y11_sf_1, y_8, y_9, y_10, y_11] sf_3 rfl hS_sf_3 8 8 rfl (by decide) 6 6 rfl (by decide) (by decide)) gX11_distance_X11_copy rfl hy_X11_copy_V ⟨Nat.le_of_ble_eq_true rfl, Nat.le_of_ble_eq_true rfl⟩ 0 rfl rfl [0, 6, 7] rfl (by decide) rfl rfl (Nat.le_of_ble_eq_true rfl) ⟨Nat.le_of_ble_eq_true rfl, Nat.le_of_ble_eq_true rfl⟩ ?_
                    rintro _ sf_12 ⟨rfl, hS_sf_12⟩
                    change J p l e rm_X11_distance s m args below meth c Q G A 6 0 0 139 [(5, .int 1), (0, .ref (q 0)), (1, .int (nI a)), (2, .int (nI b)), (3, .int pa), (4, .int li)] [] [(q 0, .inr (10, mF 0 n q co cr po tx ty)), (q 1, aZ G 200 fa), (q 2, aJ G 200 f1), (q 3, aJ G 200 f2), (q 4, aJ G 200 f3), (q 5, aJ G 200 f4), (q 10, aI G 320 (rg [z0, z1, z2, z3, y_4, y_5, y_6, y_7, y_6, y9_sf_1, y10_sf_1, y11_sf_1, y_8, y_9, y_10, y_11])), (q 11, aZ G 16 sf_12)]
                    refine j_aload_n X dX11_distance_139 rfl 1 rfl ?_
                    refine j_bipush (v := 9) X dX11_distance_140 (by decide) ?_
                    refine j_bipush (v := 7) X dX11_distance_142 (by decide) ?_
                    refine j_callV X dX11_distance_144 (h_copy l G q 0 n co cr po tx ty [z0, z1, z2, z3, y_4, y_5, y_6, y_7, y_6, y9_sf_1, y10_sf_1, y11_sf_1, y_8, y_9, y_10, y_11] sf_12 rfl hS_sf_12 9 9 rfl (by decide) 7 7 rfl (by decide) (by decide)) gX11_distance_X11_copy rfl hy_X11_copy_V ⟨Nat.le_of_ble_eq_true rfl, Nat.le_of_ble_eq_true rfl⟩ 0 rfl rfl [0, 6, 7] rfl (by decide) rfl rfl (Nat.le_of_ble_eq_true rfl) ⟨Nat.le_of_ble_eq_true rfl, Nat.le_of_ble_eq_true rfl⟩ ?_
                    rintro _ sf_13 ⟨rfl, hS_sf_13⟩
                    change J p l e rm_X11_distance s m args below meth c Q G A 6 0 0 147 [(5, .int 1), (0, .ref (q 0)), (1, .int (nI a)), (2, .int (nI b)), (3, .int pa), (4, .int li)] [] [(q 0, .inr (10, mF 0 n q co cr po tx ty)), (q 1, aZ G 200 fa), (q 2, aJ G 200 f1), (q 3, aJ G 200 f2), (q 4, aJ G 200 f3), (q 5, aJ G 200 f4), (q 10, aI G 320 (rg [z0, z1, z2, z3, y_4, y_5, y_6, y_7, y_6, y_7, y10_sf_1, y11_sf_1, y_8, y_9, y_10, y_11])), (q 11, aZ G 16 sf_13)]
                    have ny_6 : 0 ≤ y_6 ∧ 0 < y_7 := by rw [ey_6, ey_7]; exact pd_nn _ _ _ _ _ _
                    refine j_aload_n X dX11_distance_147 rfl 1 rfl ?_
                    refine j_iload_n X dX11_distance_148 rfl 2 rfl ?_
                    refine j_iload_n X dX11_distance_149 rfl 3 rfl ?_
                    refine j_iconst (v := 1) X dX11_distance_150 rfl ?_
                    refine j_callV X dX11_distance_151 (c_X11_nearest_1 l G q 0 n co cr po tx ty z0 z1 z2 z3 y_4 y_5 y_6 y_7 y_6 y_7 y10_sf_1 y11_sf_1 y_8 y_9 y_10 y_11 sf_13 hS_sf_13 f1 f2 f3 f4 a b ba ga bb gb ny_6.1 ny_6.2 by_6 by_7) gX11_distance_X11_nearest rfl hy_X11_nearest_V ⟨Nat.le_of_ble_eq_true rfl, Nat.le_of_ble_eq_true rfl⟩ 0 rfl rfl [0, 2, 3, 4, 5, 6, 7] rfl (by decide) rfl rfl (Nat.le_of_ble_eq_true rfl) ⟨Nat.le_of_ble_eq_true rfl, Nat.le_of_ble_eq_true rfl⟩ ?_
                    rintro _ ⟨y_15, y_16, y_17, y_18, y_19, y_20, y_21, y_22, y_23, y_24, y_25, y_26, sf_14⟩ ⟨rfl, ey_19, ey_20, hS_sf_14⟩
                    dsimp only at ey_19 ey_20 hS_sf_14
                    change J p l e rm_X11_distance s m args below meth c Q G A 6 0 0 154 [(5, .int 1), (0, .ref (q 0)), (1, .int (nI a)), (2, .int (nI b)), (3, .int pa), (4, .int li)] [] [(q 0, .inr (10, mF 0 n q co cr po tx ty)), (q 1, aZ G 200 fa), (q 2, aJ G 200 f1), (q 3, aJ G 200 f2), (q 4, aJ G 200 f3), (q 5, aJ G 200 f4), (q 10, aI G 320 (rg [z0, z1, z2, z3, y_15, y_16, y_17, y_18, y_19, y_20, y_21, y_22, y_23, y_24, y_25, y_26])), (q 11, aZ G 16 sf_14)]
                    have by_19 : bd 166 y_19 := by rw [ey_19]; exact (mn_bd ⟨by_6, by_7⟩ (pd_bd ba.1.1 ba.1.2 ba.2.1 ba.2.2 bb.2.1 bb.2.2)).1
                    have by_20 : bd 83 y_20 := by rw [ey_20]; exact (mn_bd (j := 166) ⟨by_6, by_7⟩ (pd_bd ba.1.1 ba.1.2 ba.2.1 ba.2.2 bb.2.1 bb.2.2)).2
                    have ny_19 : 0 ≤ y_19 ∧ 0 < y_20 := by rw [ey_19, ey_20]; exact mn_nn ny_6 (pd_nn _ _ _ _ _ _)
                    refine j_aload_n X dX11_distance_154 rfl 1 rfl ?_
                    refine j_iload_n X dX11_distance_155 rfl 3 rfl ?_
                    refine j_iload_n X dX11_distance_156 rfl 2 rfl ?_
                    refine j_iconst (v := 0) X dX11_distance_157 rfl ?_
                    refine j_callV X dX11_distance_158 (c_X11_nearest_0 l G q 0 n co cr po tx ty z0 z1 z2 z3 y_15 y_16 y_17 y_18 y_19 y_20 y_21 y_22 y_23 y_24 y_25 y_26 sf_14 hS_sf_14 f1 f2 f3 f4 b a bb gb ba ga ny_19.1 ny_19.2 by_19 by_20) gX11_distance_X11_nearest rfl hy_X11_nearest_V ⟨Nat.le_of_ble_eq_true rfl, Nat.le_of_ble_eq_true rfl⟩ 0 rfl rfl [0, 2, 3, 4, 5, 6, 7] rfl (by decide) rfl rfl (Nat.le_of_ble_eq_true rfl) ⟨Nat.le_of_ble_eq_true rfl, Nat.le_of_ble_eq_true rfl⟩ ?_
                    rintro _ ⟨y_28, y_29, y_30, y_31, y_32, y_33, y_34, y_35, y_36, y_37, y_38, y_39, sf_27⟩ ⟨rfl, ey_32, ey_33, hS_sf_27⟩
                    dsimp only at ey_32 ey_33 hS_sf_27
                    change J p l e rm_X11_distance s m args below meth c Q G A 6 0 0 161 [(5, .int 1), (0, .ref (q 0)), (1, .int (nI a)), (2, .int (nI b)), (3, .int pa), (4, .int li)] [] [(q 0, .inr (10, mF 0 n q co cr po tx ty)), (q 1, aZ G 200 fa), (q 2, aJ G 200 f1), (q 3, aJ G 200 f2), (q 4, aJ G 200 f3), (q 5, aJ G 200 f4), (q 10, aI G 320 (rg [z0, z1, z2, z3, y_28, y_29, y_30, y_31, y_32, y_33, y_34, y_35, y_36, y_37, y_38, y_39])), (q 11, aZ G 16 sf_27)]
                    have by_32 : bd 166 y_32 := by rw [ey_32]; exact (mn_bd ⟨by_19, by_20⟩ (pd_bd bb.1.1 bb.1.2 bb.2.1 bb.2.2 ba.1.1 ba.1.2)).1
                    have by_33 : bd 83 y_33 := by rw [ey_33]; exact (mn_bd (j := 166) ⟨by_19, by_20⟩ (pd_bd bb.1.1 bb.1.2 bb.2.1 bb.2.2 ba.1.1 ba.1.2)).2
                    have ny_32 : 0 ≤ y_32 ∧ 0 < y_33 := by rw [ey_32, ey_33]; exact mn_nn ny_19 (pd_nn _ _ _ _ _ _)
                    refine j_aload_n X dX11_distance_161 rfl 1 rfl ?_
                    refine j_iload_n X dX11_distance_162 rfl 3 rfl ?_
                    refine j_iload_n X dX11_distance_163 rfl 2 rfl ?_
                    refine j_iconst (v := 1) X dX11_distance_164 rfl ?_
                    refine j_callV X dX11_distance_165 (c_X11_nearest_1 l G q 0 n co cr po tx ty z0 z1 z2 z3 y_28 y_29 y_30 y_31 y_32 y_33 y_34 y_35 y_36 y_37 y_38 y_39 sf_27 hS_sf_27 f1 f2 f3 f4 b a bb gb ba ga ny_32.1 ny_32.2 by_32 by_33) gX11_distance_X11_nearest rfl hy_X11_nearest_V ⟨Nat.le_of_ble_eq_true rfl, Nat.le_of_ble_eq_true rfl⟩ 0 rfl rfl [0, 2, 3, 4, 5, 6, 7] rfl (by decide) rfl rfl (Nat.le_of_ble_eq_true rfl) ⟨Nat.le_of_ble_eq_true rfl, Nat.le_of_ble_eq_true rfl⟩ ?_
                    rintro _ ⟨y_41, y_42, y_43, y_44, y_45, y_46, y_47, y_48, y_49, y_50, y_51, y_52, sf_40⟩ ⟨rfl, ey_45, ey_46, hS_sf_40⟩
                    dsimp only at ey_45 ey_46 hS_sf_40
                    change J p l e rm_X11_distance s m args below meth c Q G A 6 0 0 168 [(5, .int 1), (0, .ref (q 0)), (1, .int (nI a)), (2, .int (nI b)), (3, .int pa), (4, .int li)] [] [(q 0, .inr (10, mF 0 n q co cr po tx ty)), (q 1, aZ G 200 fa), (q 2, aJ G 200 f1), (q 3, aJ G 200 f2), (q 4, aJ G 200 f3), (q 5, aJ G 200 f4), (q 10, aI G 320 (rg [z0, z1, z2, z3, y_41, y_42, y_43, y_44, y_45, y_46, y_47, y_48, y_49, y_50, y_51, y_52])), (q 11, aZ G 16 sf_40)]
                    have by_45 : bd 166 y_45 := by rw [ey_45]; exact (mn_bd ⟨by_32, by_33⟩ (pd_bd bb.1.1 bb.1.2 bb.2.1 bb.2.2 ba.2.1 ba.2.2)).1
                    have by_46 : bd 83 y_46 := by rw [ey_46]; exact (mn_bd (j := 166) ⟨by_32, by_33⟩ (pd_bd bb.1.1 bb.1.2 bb.2.1 bb.2.2 ba.2.1 ba.2.2)).2
                    have ny_45 : 0 ≤ y_45 ∧ 0 < y_46 := by rw [ey_45, ey_46]; exact mn_nn ny_32 (pd_nn _ _ _ _ _ _)
                    refine j_aload_n X dX11_distance_168 rfl 1 rfl ?_
                    refine j_callV X dX11_distance_169 (c_X11_reduce l G q 0 n co cr po tx ty z0 z1 z2 z3 y_41 y_42 y_43 y_44 y_45 y_46 y_47 y_48 y_49 y_50 y_51 y_52 sf_40 hS_sf_40 ny_45.1 ny_45.2 by_45 by_46) gX11_distance_X11_reduce rfl hy_X11_reduce_V ⟨Nat.le_of_ble_eq_true rfl, Nat.le_of_ble_eq_true rfl⟩ 0 rfl rfl [0, 6, 7] rfl (by decide) rfl rfl (Nat.le_of_ble_eq_true rfl) ⟨Nat.le_of_ble_eq_true rfl, Nat.le_of_ble_eq_true rfl⟩ ?_
                    rintro _ ⟨y_54, y_55, y_56, y_57, y_58, y_59, y_60, y_61, y_62, sf_53⟩ ⟨rfl, ey_58, ey_59, hS_sf_53⟩
                    dsimp only at ey_58 ey_59 hS_sf_53
                    change J p l e rm_X11_distance s m args below meth c Q G A 6 0 0 172 [(5, .int 1), (0, .ref (q 0)), (1, .int (nI a)), (2, .int (nI b)), (3, .int pa), (4, .int li)] [] [(q 0, .inr (10, mF 0 n q co cr po tx ty)), (q 1, aZ G 200 fa), (q 2, aJ G 200 f1), (q 3, aJ G 200 f2), (q 4, aJ G 200 f3), (q 5, aJ G 200 f4), (q 10, aI G 320 (rg [z0, z1, z2, z3, y_54, y_55, y_56, y_57, y_58, y_59, y_47, y_48, y_60, y_50, y_61, y_62])), (q 11, aZ G 16 sf_53)]
                    have hm : (y_45, y_46) = dsm f1 f2 f3 f4 a b := by
                      unfold dsm
                      have p0 : (y_6, y_7) = pd (f1 a).toInt (f2 a).toInt (f3 a).toInt (f4 a).toInt (f1 b).toInt (f2 b).toInt := Prod.ext ey_6 ey_7
                      have p1 : (y_19, y_20) = mn (y_6, y_7) (pd (f1 a).toInt (f2 a).toInt (f3 a).toInt (f4 a).toInt (f3 b).toInt (f4 b).toInt) := Prod.ext ey_19 ey_20
                      have p2 : (y_32, y_33) = mn (y_19, y_20) (pd (f1 b).toInt (f2 b).toInt (f3 b).toInt (f4 b).toInt (f1 a).toInt (f2 a).toInt) := Prod.ext ey_32 ey_33
                      have p3 : (y_45, y_46) = mn (y_32, y_33) (pd (f1 b).toInt (f2 b).toInt (f3 b).toInt (f4 b).toInt (f3 a).toInt (f4 a).toInt) := Prod.ext ey_45 ey_46
                      rw [p3, p2, p1, p0]
                    have hm1 : y_45 = (dsm f1 f2 f3 f4 a b).1 := congrArg Prod.fst hm
                    have hm2 : y_46 = (dsm f1 f2 f3 f4 a b).2 := congrArg Prod.snd hm
                    refine j_aload_n X dX11_distance_172 rfl 1 rfl ?_
                    refine j_iload_n X dX11_distance_173 rfl 4 rfl ?_
                    refine j_if_ne (tgt := 182) X dX11_distance_174 (by decide) (fun c_174 => ?_) (fun c_174 => ?_)
                    · skip
                      first | simp only [bI_0, Decidable.not_not, sg_mul, sg_e0, sg_l0, sg_g0, sg_le0, sg_ge0, cmp_eq, cmp_lt, cmp_ge, cmp_gt, cmp_le, lT0, lT1] at c_174 | simp only [Int32.le_iff_toInt_le, Int32.lt_iff_toInt_lt, ← Int32.toInt_inj, iT0, iT1, iT2, iT3, iT4, iT5, iT6, iT7, iT8, iT9, iT10, iT11, iT12, iT13, iT14, iT15, iT16, iT19, iT20, iT31, iT32, iT42, iT64, iT200, iT318, iT319, iT1000, iTm1, iTm2] at c_174 | skip
                      have hy_590 : 0 ≤ y_59 := by rw [ey_59]; exact Int.ediv_nonneg (by omega) (Int.le_of_lt (gc_pos ny_45.2))
                      refine j_bipush (v := 9) X dX11_distance_182 (by decide) ?_
                      refine j_iload X dX11_distance_184 5 rfl ?_
                      refine j_callV X dX11_distance_186 (c_X11_limbOf l G q 0 n co cr po tx ty ([z0, z1, z2, z3, y_54, y_55, y_56, y_57, y_58, y_59, y_47, y_48, y_60, y_50, y_61, y_62]) rfl sf_53 9 9 rfl (by decide) li li.toInt.toNat (by omega) (by omega)) gX11_distance_X11_limbOf rfl hy_X11_limbOf_V ⟨Nat.le_of_ble_eq_true rfl, Nat.le_of_ble_eq_true rfl⟩ 0 rfl rfl [0, 6, 7] rfl (by decide) rfl rfl (Nat.le_of_ble_eq_true rfl) ⟨Nat.le_of_ble_eq_true rfl, Nat.le_of_ble_eq_true rfl⟩ ?_
                      rintro _ w_63 ⟨rfl, hw_63⟩
                      change J p l e rm_X11_distance s m args below meth c Q G A 6 0 0 189 [(5, .int 1), (0, .ref (q 0)), (1, .int (nI a)), (2, .int (nI b)), (3, .int pa), (4, .int li)] [.long w_63] [(q 0, .inr (10, mF 0 n q co cr po tx ty)), (q 1, aZ G 200 fa), (q 2, aJ G 200 f1), (q 3, aJ G 200 f2), (q 4, aJ G 200 f3), (q 5, aJ G 200 f4), (q 10, aI G 320 (rg [z0, z1, z2, z3, y_54, y_55, y_56, y_57, y_58, y_59, y_47, y_48, y_60, y_50, y_61, y_62])), (q 11, aZ G 16 sf_53)]
                      exact E.2.2 189 _ w_63 (w_63, [z0, z1, z2, z3, y_54, y_55, y_56, y_57, y_58, y_59, y_47, y_48, y_60, y_50, y_61, y_62], sf_53) dX11_distance_189 (⟨rfl, (by rw [hw_63]; unfold dsv; rw [if_neg c_95, if_neg (by omega)]; show (((y_59 : Int).natAbs : Nat) : Int) / dP li.toInt.toNat % 4294967296 = _; rw [hm1.symm, hm2.symm, ← ey_59, Int.natAbs_of_nonneg hy_590]), kp_i, hS_sf_53⟩) hr
                    · skip
                      first | simp only [bI_0, Decidable.not_not, sg_mul, sg_e0, sg_l0, sg_g0, sg_le0, sg_ge0, cmp_eq, cmp_lt, cmp_ge, cmp_gt, cmp_le, lT0, lT1] at c_174 | simp only [Int32.le_iff_toInt_le, Int32.lt_iff_toInt_lt, ← Int32.toInt_inj, iT0, iT1, iT2, iT3, iT4, iT5, iT6, iT7, iT8, iT9, iT10, iT11, iT12, iT13, iT14, iT15, iT16, iT19, iT20, iT31, iT32, iT42, iT64, iT200, iT318, iT319, iT1000, iTm1, iTm2] at c_174 | skip
                      have hy_580 : 0 ≤ y_58 := by rw [ey_58]; exact Int.ediv_nonneg (by omega) (Int.le_of_lt (gc_pos ny_45.2))
                      refine j_bipush (v := 8) X dX11_distance_177 (by decide) ?_
                      refine j_goto (tgt := 184) X dX11_distance_179 (by decide) ?_
                      refine j_iload X dX11_distance_184 5 rfl ?_
                      refine j_callV X dX11_distance_186 (c_X11_limbOf l G q 0 n co cr po tx ty ([z0, z1, z2, z3, y_54, y_55, y_56, y_57, y_58, y_59, y_47, y_48, y_60, y_50, y_61, y_62]) rfl sf_53 8 8 rfl (by decide) li li.toInt.toNat (by omega) (by omega)) gX11_distance_X11_limbOf rfl hy_X11_limbOf_V ⟨Nat.le_of_ble_eq_true rfl, Nat.le_of_ble_eq_true rfl⟩ 0 rfl rfl [0, 6, 7] rfl (by decide) rfl rfl (Nat.le_of_ble_eq_true rfl) ⟨Nat.le_of_ble_eq_true rfl, Nat.le_of_ble_eq_true rfl⟩ ?_
                      rintro _ w_64 ⟨rfl, hw_64⟩
                      change J p l e rm_X11_distance s m args below meth c Q G A 6 0 0 189 [(5, .int 1), (0, .ref (q 0)), (1, .int (nI a)), (2, .int (nI b)), (3, .int pa), (4, .int li)] [.long w_64] [(q 0, .inr (10, mF 0 n q co cr po tx ty)), (q 1, aZ G 200 fa), (q 2, aJ G 200 f1), (q 3, aJ G 200 f2), (q 4, aJ G 200 f3), (q 5, aJ G 200 f4), (q 10, aI G 320 (rg [z0, z1, z2, z3, y_54, y_55, y_56, y_57, y_58, y_59, y_47, y_48, y_60, y_50, y_61, y_62])), (q 11, aZ G 16 sf_53)]
                      exact E.2.2 189 _ w_64 (w_64, [z0, z1, z2, z3, y_54, y_55, y_56, y_57, y_58, y_59, y_47, y_48, y_60, y_50, y_61, y_62], sf_53) dX11_distance_189 (⟨rfl, (by rw [hw_64]; unfold dsv; rw [if_neg c_95, if_pos (by omega)]; show (((y_58 : Int).natAbs : Nat) : Int) / dP li.toInt.toNat % 4294967296 = _; rw [hm1.symm, hm2.symm, ← ey_58, Int.natAbs_of_nonneg hy_580]), kp_i, hS_sf_53⟩) hr
                  · skip
                    first | simp only [bI_0, Decidable.not_not, sg_mul, sg_e0, sg_l0, sg_g0, sg_le0, sg_ge0, cmp_eq, cmp_lt, cmp_ge, cmp_gt, cmp_le, lT0, lT1] at c_95 | simp only [Int32.le_iff_toInt_le, Int32.lt_iff_toInt_lt, ← Int32.toInt_inj, iT0, iT1, iT2, iT3, iT4, iT5, iT6, iT7, iT8, iT9, iT10, iT11, iT12, iT13, iT14, iT15, iT16, iT19, iT20, iT31, iT32, iT42, iT64, iT200, iT318, iT319, iT1000, iTm1, iTm2] at c_95 | skip
                    refine j_iload_n X dX11_distance_98 rfl 4 rfl ?_
                    refine j_iconst (v := 1) X dX11_distance_99 rfl ?_
                    refine j_icmp_ne (tgt := 112) X dX11_distance_100 (by decide) (fun c_100 => ?_) (fun c_100 => ?_)
                    · skip
                      first | simp only [bI_0, Decidable.not_not, sg_mul, sg_e0, sg_l0, sg_g0, sg_le0, sg_ge0, cmp_eq, cmp_lt, cmp_ge, cmp_gt, cmp_le, lT0, lT1] at c_100 | simp only [Int32.le_iff_toInt_le, Int32.lt_iff_toInt_lt, ← Int32.toInt_inj, iT0, iT1, iT2, iT3, iT4, iT5, iT6, iT7, iT8, iT9, iT10, iT11, iT12, iT13, iT14, iT15, iT16, iT19, iT20, iT31, iT32, iT42, iT64, iT200, iT318, iT319, iT1000, iTm1, iTm2] at c_100 | skip
                      refine j_lconst (v := 0) X dX11_distance_112 rfl ?_
                      exact E.2.2 113 _ 0 (0, [z0, z1, z2, z3, y4_sf_1, y5_sf_1, y6_sf_1, y7_sf_1, y8_sf_1, y9_sf_1, y10_sf_1, y11_sf_1, y12_sf_1, y13_sf_1, y14_sf_1, y15_sf_1], sf_1) dX11_distance_113 (⟨rfl, (by unfold dsv; rw [if_pos c_95, if_neg (by omega)]; rfl), kp_i, hS_sf_1⟩) hr
                    · skip
                      first | simp only [bI_0, Decidable.not_not, sg_mul, sg_e0, sg_l0, sg_g0, sg_le0, sg_ge0, cmp_eq, cmp_lt, cmp_ge, cmp_gt, cmp_le, lT0, lT1] at c_100 | simp only [Int32.le_iff_toInt_le, Int32.lt_iff_toInt_lt, ← Int32.toInt_inj, iT0, iT1, iT2, iT3, iT4, iT5, iT6, iT7, iT8, iT9, iT10, iT11, iT12, iT13, iT14, iT15, iT16, iT19, iT20, iT31, iT32, iT42, iT64, iT200, iT318, iT319, iT1000, iTm1, iTm2] at c_100 | skip
                      refine j_iload X dX11_distance_103 5 rfl ?_
                      refine j_if_ne (tgt := 112) X dX11_distance_105 (by decide) (fun c_105 => ?_) (fun c_105 => ?_)
                      · skip
                        first | simp only [bI_0, Decidable.not_not, sg_mul, sg_e0, sg_l0, sg_g0, sg_le0, sg_ge0, cmp_eq, cmp_lt, cmp_ge, cmp_gt, cmp_le, lT0, lT1] at c_105 | simp only [Int32.le_iff_toInt_le, Int32.lt_iff_toInt_lt, ← Int32.toInt_inj, iT0, iT1, iT2, iT3, iT4, iT5, iT6, iT7, iT8, iT9, iT10, iT11, iT12, iT13, iT14, iT15, iT16, iT19, iT20, iT31, iT32, iT42, iT64, iT200, iT318, iT319, iT1000, iTm1, iTm2] at c_105 | skip
                        refine j_lconst (v := 0) X dX11_distance_112 rfl ?_
                        exact E.2.2 113 _ 0 (0, [z0, z1, z2, z3, y4_sf_1, y5_sf_1, y6_sf_1, y7_sf_1, y8_sf_1, y9_sf_1, y10_sf_1, y11_sf_1, y12_sf_1, y13_sf_1, y14_sf_1, y15_sf_1], sf_1) dX11_distance_113 (⟨rfl, (by unfold dsv; rw [if_pos c_95, if_neg (by omega)]; rfl), kp_i, hS_sf_1⟩) hr
                      · skip
                        first | simp only [bI_0, Decidable.not_not, sg_mul, sg_e0, sg_l0, sg_g0, sg_le0, sg_ge0, cmp_eq, cmp_lt, cmp_ge, cmp_gt, cmp_le, lT0, lT1] at c_105 | simp only [Int32.le_iff_toInt_le, Int32.lt_iff_toInt_lt, ← Int32.toInt_inj, iT0, iT1, iT2, iT3, iT4, iT5, iT6, iT7, iT8, iT9, iT10, iT11, iT12, iT13, iT14, iT15, iT16, iT19, iT20, iT31, iT32, iT42, iT64, iT200, iT318, iT319, iT1000, iTm1, iTm2] at c_105 | skip
                        refine j_lconst (v := 1) X dX11_distance_108 rfl ?_
                        refine j_goto (tgt := 113) X dX11_distance_109 (by decide) ?_
                        exact E.2.2 113 _ 1 (1, [z0, z1, z2, z3, y4_sf_1, y5_sf_1, y6_sf_1, y7_sf_1, y8_sf_1, y9_sf_1, y10_sf_1, y11_sf_1, y12_sf_1, y13_sf_1, y14_sf_1, y15_sf_1], sf_1) dX11_distance_113 (⟨rfl, (by unfold dsv; rw [if_pos c_95, if_pos (by omega)]; rfl), kp_i, hS_sf_1⟩) hr
                · skip
                  exact absurd hA.2 c_69

