abbrev rm_X11_cross : Room := { frames := 8, cells := 0, slots := 0, locals := 231 }
theorem in_X11_cross_X11 : ∀ w ∈ u_ws RX11 TX11 19, w ∈ wsX11_cross := by decide +kernel
theorem fl_X11_cross_196 : Cond.fieldLink RX11 196 (TX11 14).1 (TX11 14).2.1 (TX11 14).2.2.1 ∈ wsX11_cross := by decide +kernel
theorem fl_X11_cross_173 : Cond.fieldLink RX11 173 (TX11 15).1 (TX11 15).2.1 (TX11 15).2.2.1 ∈ wsX11_cross := by decide +kernel
theorem fl_X11_cross_48 : Cond.fieldLink RX11 48 (TX11 0).1 (TX11 0).2.1 (TX11 0).2.2.1 ∈ wsX11_cross := by decide +kernel
set_option maxHeartbeats 4000000 in
set_option maxRecDepth 100000 in
theorem c_X11_cross_1 (l : Launch) (G : jG) (q : Nat → Nat) (t n co cr po : Int32) (tx ty : Int64) (x1 x2 : Int32) (hP : ¬ ((0 ≤ x1.toInt ∧ x1.toInt < n.toInt) ∧ (0 ≤ x2.toInt ∧ x2.toInt < n.toInt))) : Ct l yX11_cross wsX11_cross rm_X11_cross G [.ref (q 0), .int x1, .int x2] [(q 0, .inr (10, mF t n q co cr po tx ty))] (S := Unit) (fun r _ => r = some (.int 0)) (fun _ => [(q 0, .inr (10, mF 1 n q co 0 0 tx ty))]) (fun _ => []) := by
  refine c_intro (cc := cX11_cross) (maxL := 4) (ret := (some .int)) (by decide) rfl (Nat.le_of_ble_eq_true rfl) (fun _ => by simp only [List.map_cons, List.map_nil]) ?_
  intro p e s m args below meth c Q A X hr hin E
  change J p l e rm_X11_cross s m args below meth c Q G A 4 0 0 0 [(0, .ref (q 0)), (1, .int x1), (2, .int x2)] [] [(q 0, .inr (10, mF t n q co cr po tx ty))]
  refine j_aload_n X dX11_cross_0 rfl 0 rfl ?_
  refine j_iconst (v := 0) X dX11_cross_1 rfl ?_
  refine j_put (ws' := [(q 0, .inr (10, mF t n q co 0 po tx ty))]) X dX11_cross_2 0 rfl 14 rfl in_X11_cross_X11 tyX11 tyX11_ok nmX11 (by decide) fl_X11_cross_196 rfl rfl rfl rfl (Nat.le_of_ble_eq_true rfl) rfl ?_
  refine j_aload_n X dX11_cross_5 rfl 0 rfl ?_
  refine j_iconst (v := 0) X dX11_cross_6 rfl ?_
  refine j_put (ws' := [(q 0, .inr (10, mF t n q co 0 0 tx ty))]) X dX11_cross_7 0 rfl 15 rfl in_X11_cross_X11 tyX11 tyX11_ok nmX11 (by decide) fl_X11_cross_173 rfl rfl rfl rfl (Nat.le_of_ble_eq_true rfl) rfl ?_
  refine j_aload_n X dX11_cross_10 rfl 0 rfl ?_
  refine j_aload_n X dX11_cross_11 rfl 0 rfl ?_
  refine j_iload_n X dX11_cross_12 rfl 1 rfl ?_
  refine j_callV X dX11_cross_13 (c_X11_isShape l G q t n co 0 0 tx ty x1) gX11_cross_X11_isShape rfl hy_X11_isShape_V ⟨Nat.le_of_ble_eq_true rfl, Nat.le_of_ble_eq_true rfl⟩ 0 rfl rfl [0] rfl (by decide) rfl rfl (Nat.le_of_ble_eq_true rfl) ⟨Nat.le_of_ble_eq_true rfl, Nat.le_of_ble_eq_true rfl⟩ ?_
  rintro _ ⟨⟩ rfl
  change J p l e rm_X11_cross s m args below meth c Q G A 4 0 0 16 [(0, .ref (q 0)), (1, .int x1), (2, .int x2)] [.int (bI (0 ≤ x1.toInt ∧ x1.toInt < n.toInt)), .ref (q 0)] [(q 0, .inr (10, mF t n q co 0 0 tx ty))]
  refine j_if_eq (tgt := 31) X dX11_cross_16 (by decide) (fun c_16 => ?_) (fun c_16 => ?_)
  · skip
    first | simp only [bI_0, Decidable.not_not, sg_mul, sg_e0, sg_l0, sg_g0, sg_le0, sg_ge0, cmp_eq, cmp_lt, cmp_ge, cmp_gt, cmp_le, lT0, lT1] at c_16 | simp only [Int32.le_iff_toInt_le, Int32.lt_iff_toInt_lt, ← Int32.toInt_inj, iT0, iT1, iT2, iT3, iT4, iT5, iT6, iT7, iT8, iT9, iT10, iT11, iT12, iT13, iT14, iT15, iT16, iT19, iT20, iT31, iT32, iT42, iT64, iT200, iT318, iT319, iT1000, iTm1, iTm2] at c_16 | skip
    refine j_iconst (v := 1) X dX11_cross_31 rfl ?_
    refine j_put (ws' := [(q 0, .inr (10, mF 1 n q co 0 0 tx ty))]) X dX11_cross_32 0 rfl 0 rfl in_X11_cross_X11 tyX11 tyX11_ok nmX11 (by decide) fl_X11_cross_48 rfl rfl rfl rfl (Nat.le_of_ble_eq_true rfl) rfl ?_
    refine j_aload_n X dX11_cross_35 rfl 0 rfl ?_
    refine j_get (v := .int 1) X dX11_cross_36 0 rfl 0 rfl in_X11_cross_X11 (by decide) fl_X11_cross_48 rfl ?_
    refine j_if_eq (tgt := 44) X dX11_cross_39 (by decide) (fun c9 => absurd c9 (by decide)) (fun _ => ?_)
    refine j_iconst (v := 0) X dX11_cross_42 rfl ?_
    exact E.2.1 43 _ 0 () _ dX11_cross_43 rfl hr rfl
  · skip
    first | simp only [bI_0, Decidable.not_not, sg_mul, sg_e0, sg_l0, sg_g0, sg_le0, sg_ge0, cmp_eq, cmp_lt, cmp_ge, cmp_gt, cmp_le, lT0, lT1] at c_16 | simp only [Int32.le_iff_toInt_le, Int32.lt_iff_toInt_lt, ← Int32.toInt_inj, iT0, iT1, iT2, iT3, iT4, iT5, iT6, iT7, iT8, iT9, iT10, iT11, iT12, iT13, iT14, iT15, iT16, iT19, iT20, iT31, iT32, iT42, iT64, iT200, iT318, iT319, iT1000, iTm1, iTm2] at c_16 | skip
    refine j_aload_n X dX11_cross_19 rfl 0 rfl ?_
    refine j_iload_n X dX11_cross_20 rfl 2 rfl ?_
    refine j_callV X dX11_cross_21 (c_X11_isShape l G q t n co 0 0 tx ty x2) gX11_cross_X11_isShape rfl hy_X11_isShape_V ⟨Nat.le_of_ble_eq_true rfl, Nat.le_of_ble_eq_true rfl⟩ 0 rfl rfl [0] rfl (by decide) rfl rfl (Nat.le_of_ble_eq_true rfl) ⟨Nat.le_of_ble_eq_true rfl, Nat.le_of_ble_eq_true rfl⟩ ?_
    rintro _ ⟨⟩ rfl
    change J p l e rm_X11_cross s m args below meth c Q G A 4 0 0 24 [(0, .ref (q 0)), (1, .int x1), (2, .int x2)] [.int (bI (0 ≤ x2.toInt ∧ x2.toInt < n.toInt)), .ref (q 0)] [(q 0, .inr (10, mF t n q co 0 0 tx ty))]
    refine j_if_eq (tgt := 31) X dX11_cross_24 (by decide) (fun c_24 => ?_) (fun c_24 => ?_)
    · skip
      first | simp only [bI_0, Decidable.not_not, sg_mul, sg_e0, sg_l0, sg_g0, sg_le0, sg_ge0, cmp_eq, cmp_lt, cmp_ge, cmp_gt, cmp_le, lT0, lT1] at c_24 | simp only [Int32.le_iff_toInt_le, Int32.lt_iff_toInt_lt, ← Int32.toInt_inj, iT0, iT1, iT2, iT3, iT4, iT5, iT6, iT7, iT8, iT9, iT10, iT11, iT12, iT13, iT14, iT15, iT16, iT19, iT20, iT31, iT32, iT42, iT64, iT200, iT318, iT319, iT1000, iTm1, iTm2] at c_24 | skip
      refine j_iconst (v := 1) X dX11_cross_31 rfl ?_
      refine j_put (ws' := [(q 0, .inr (10, mF 1 n q co 0 0 tx ty))]) X dX11_cross_32 0 rfl 0 rfl in_X11_cross_X11 tyX11 tyX11_ok nmX11 (by decide) fl_X11_cross_48 rfl rfl rfl rfl (Nat.le_of_ble_eq_true rfl) rfl ?_
      refine j_aload_n X dX11_cross_35 rfl 0 rfl ?_
      refine j_get (v := .int 1) X dX11_cross_36 0 rfl 0 rfl in_X11_cross_X11 (by decide) fl_X11_cross_48 rfl ?_
      refine j_if_eq (tgt := 44) X dX11_cross_39 (by decide) (fun c9 => absurd c9 (by decide)) (fun _ => ?_)
      refine j_iconst (v := 0) X dX11_cross_42 rfl ?_
      exact E.2.1 43 _ 0 () _ dX11_cross_43 rfl hr rfl
    · skip
      first | simp only [bI_0, Decidable.not_not, sg_mul, sg_e0, sg_l0, sg_g0, sg_le0, sg_ge0, cmp_eq, cmp_lt, cmp_ge, cmp_gt, cmp_le, lT0, lT1] at c_24 | simp only [Int32.le_iff_toInt_le, Int32.lt_iff_toInt_lt, ← Int32.toInt_inj, iT0, iT1, iT2, iT3, iT4, iT5, iT6, iT7, iT8, iT9, iT10, iT11, iT12, iT13, iT14, iT15, iT16, iT19, iT20, iT31, iT32, iT42, iT64, iT200, iT318, iT319, iT1000, iTm1, iTm2] at c_24 | skip
      exfalso; omega

theorem hy_X11_cross_V : yX11_cross.cls = RX11 ∧ yX11_cross.cls ≠ "java/lang/invoke/MethodHandle" ∧ yX11_cross.cls ≠ "java/lang/invoke/VarHandle" ∧ (parseMethodDescriptor yX11_cross.desc).map (fun d => d.parameters.length) = some 2 := by decide +kernel
theorem fl_X11_cross_7 : Cond.fieldLink RX11 7 (TX11 2).1 (TX11 2).2.1 (TX11 2).2.2.1 ∈ wsX11_cross := by decide +kernel
set_option maxHeartbeats 4000000 in
set_option maxRecDepth 100000 in
theorem c_X11_cross_ss (l : Launch) (G : jG) (q : Nat → Nat) (t n co cr po : Int32) (tx ty : Int64) (zs : List Int) (hl : zs.length = 16) (sf : Nat → Int32) (hS : okS zs sf) (sig : Nat → Int32) (fa : Nat → Int32) (f1 f2 f3 f4 : Nat → Int64) (fr to1 : Nat → Int32) (x1 x2 : Int32) (a b : Nat) (hx1 : x1 = nI a) (hx2 : x2 = nI b) (hP : (0 ≤ x1.toInt ∧ x1.toInt < n.toInt) ∧ (0 ≤ x2.toInt ∧ x2.toInt < n.toInt)) (ba : (inC (f1 a).toInt ∧ inC (f2 a).toInt) ∧ inC (f3 a).toInt ∧ inC (f4 a).toInt) (ga : a < 200) (bb : (inC (f1 b).toInt ∧ inC (f2 b).toInt) ∧ inC (f3 b).toInt ∧ inC (f4 b).toInt) (gb : b < 200) (hA : fa a = 0) (hB : fa b = 0) : Ct l yX11_cross wsX11_cross rm_X11_cross G [.ref (q 0), .int x1, .int x2] [(q 0, .inr (10, mF t n q co cr po tx ty)), (q 1, aZ G 200 fa), (q 2, aJ G 200 f1), (q 3, aJ G 200 f2), (q 4, aJ G 200 f3), (q 5, aJ G 200 f4), (q 6, aI G 200 fr), (q 7, aI G 200 to1), (q 10, aI G 320 (rg zs)), (q 11, aZ G 16 sf), (q 12, aI G 2 sig)] (S := Int32 × Int32 × Int32 × (Nat → Int32) × Int64 × Int64 × List Int × (Nat → Int32)) (fun r u => ∃ o, xss (f1 a).toInt (f2 a).toInt (f3 a).toInt (f4 a).toInt (f1 b).toInt (f2 b).toInt (f3 b).toInt (f4 b).toInt o ∧ ((o = none ∧ r = some (.int 0) ∧ u.1 = 2 ∧ u.2.1 = 0 ∧ u.2.2.1 = 0 ∧ u.2.2.2.2.2.2.1.length = 16 ∧ okS u.2.2.2.2.2.2.1 u.2.2.2.2.2.2.2) ∨ (∃ v, o = some v ∧ r = some (.int (nI v.1.length)) ∧ u.1 = 0 ∧ u.2.1 = 1 ∧ xG v u.2.2.1 u.2.2.2.1 u.2.2.2.2.1 u.2.2.2.2.2.1 u.2.2.2.2.2.2.1 ∧ u.2.2.2.2.2.2.1.length = 16 ∧ okS u.2.2.2.2.2.2.1 u.2.2.2.2.2.2.2))) (fun u => [(q 0, .inr (10, mF u.1 n q co u.2.1 u.2.2.1 u.2.2.2.2.1 u.2.2.2.2.2.1)), (q 1, aZ G 200 fa), (q 2, aJ G 200 f1), (q 3, aJ G 200 f2), (q 4, aJ G 200 f3), (q 5, aJ G 200 f4), (q 6, aI G 200 fr), (q 7, aI G 200 to1), (q 10, aI G 320 (rg u.2.2.2.2.2.2.1)), (q 11, aZ G 16 u.2.2.2.2.2.2.2), (q 12, aI G 2 u.2.2.2.1)]) (fun _ => []) := by
  refine c_intro (cc := cX11_cross) (maxL := 4) (ret := (some .int)) (by decide) rfl (Nat.le_of_ble_eq_true rfl) (fun _ => by simp only [List.map_cons, List.map_nil]) ?_
  intro p e s m args below meth c Q A X hr hin E
  change J p l e rm_X11_cross s m args below meth c Q G A 4 0 0 0 [(0, .ref (q 0)), (1, .int x1), (2, .int x2)] [] [(q 0, .inr (10, mF t n q co cr po tx ty)), (q 1, aZ G 200 fa), (q 2, aJ G 200 f1), (q 3, aJ G 200 f2), (q 4, aJ G 200 f3), (q 5, aJ G 200 f4), (q 6, aI G 200 fr), (q 7, aI G 200 to1), (q 10, aI G 320 (rg zs)), (q 11, aZ G 16 sf), (q 12, aI G 2 sig)]
  obtain ⟨z0, z1, z2, z3, z4, z5, z6, z7, z8, z9, z10, z11, z12, z13, z14, z15, rfl⟩ := l16 hl
  refine j_aload_n X dX11_cross_0 rfl 0 rfl ?_
  refine j_iconst (v := 0) X dX11_cross_1 rfl ?_
  refine j_put (ws' := [(q 0, .inr (10, mF t n q co 0 po tx ty)), (q 1, aZ G 200 fa), (q 2, aJ G 200 f1), (q 3, aJ G 200 f2), (q 4, aJ G 200 f3), (q 5, aJ G 200 f4), (q 6, aI G 200 fr), (q 7, aI G 200 to1), (q 10, aI G 320 (rg [z0, z1, z2, z3, z4, z5, z6, z7, z8, z9, z10, z11, z12, z13, z14, z15])), (q 11, aZ G 16 sf), (q 12, aI G 2 sig)]) X dX11_cross_2 0 rfl 14 rfl in_X11_cross_X11 tyX11 tyX11_ok nmX11 (by decide) fl_X11_cross_196 rfl rfl rfl rfl (Nat.le_of_ble_eq_true rfl) rfl ?_
  refine j_aload_n X dX11_cross_5 rfl 0 rfl ?_
  refine j_iconst (v := 0) X dX11_cross_6 rfl ?_
  refine j_put (ws' := [(q 0, .inr (10, mF t n q co 0 0 tx ty)), (q 1, aZ G 200 fa), (q 2, aJ G 200 f1), (q 3, aJ G 200 f2), (q 4, aJ G 200 f3), (q 5, aJ G 200 f4), (q 6, aI G 200 fr), (q 7, aI G 200 to1), (q 10, aI G 320 (rg [z0, z1, z2, z3, z4, z5, z6, z7, z8, z9, z10, z11, z12, z13, z14, z15])), (q 11, aZ G 16 sf), (q 12, aI G 2 sig)]) X dX11_cross_7 0 rfl 15 rfl in_X11_cross_X11 tyX11 tyX11_ok nmX11 (by decide) fl_X11_cross_173 rfl rfl rfl rfl (Nat.le_of_ble_eq_true rfl) rfl ?_
  refine j_aload_n X dX11_cross_10 rfl 0 rfl ?_
  refine j_aload_n X dX11_cross_11 rfl 0 rfl ?_
  refine j_iload_n X dX11_cross_12 rfl 1 rfl ?_
  refine j_callV X dX11_cross_13 (c_X11_isShape l G q t n co 0 0 tx ty x1) gX11_cross_X11_isShape rfl hy_X11_isShape_V ⟨Nat.le_of_ble_eq_true rfl, Nat.le_of_ble_eq_true rfl⟩ 0 rfl rfl [0] rfl (by decide) rfl rfl (Nat.le_of_ble_eq_true rfl) ⟨Nat.le_of_ble_eq_true rfl, Nat.le_of_ble_eq_true rfl⟩ ?_
  rintro _ ⟨⟩ rfl
  change J p l e rm_X11_cross s m args below meth c Q G A 4 0 0 16 [(0, .ref (q 0)), (1, .int x1), (2, .int x2)] [.int (bI (0 ≤ x1.toInt ∧ x1.toInt < n.toInt)), .ref (q 0)] [(q 0, .inr (10, mF t n q co 0 0 tx ty)), (q 1, aZ G 200 fa), (q 2, aJ G 200 f1), (q 3, aJ G 200 f2), (q 4, aJ G 200 f3), (q 5, aJ G 200 f4), (q 6, aI G 200 fr), (q 7, aI G 200 to1), (q 10, aI G 320 (rg [z0, z1, z2, z3, z4, z5, z6, z7, z8, z9, z10, z11, z12, z13, z14, z15])), (q 11, aZ G 16 sf), (q 12, aI G 2 sig)]
  refine j_if_eq (tgt := 31) X dX11_cross_16 (by decide) (fun c_16 => ?_) (fun c_16 => ?_)
  · skip
    first | simp only [bI_0, Decidable.not_not, sg_mul, sg_e0, sg_l0, sg_g0, sg_le0, sg_ge0, cmp_eq, cmp_lt, cmp_ge, cmp_gt, cmp_le, lT0, lT1] at c_16 | simp only [Int32.le_iff_toInt_le, Int32.lt_iff_toInt_lt, ← Int32.toInt_inj, iT0, iT1, iT2, iT3, iT4, iT5, iT6, iT7, iT8, iT9, iT10, iT11, iT12, iT13, iT14, iT15, iT16, iT19, iT20, iT31, iT32, iT42, iT64, iT200, iT318, iT319, iT1000, iTm1, iTm2] at c_16 | skip
    exfalso; omega
  · skip
    first | simp only [bI_0, Decidable.not_not, sg_mul, sg_e0, sg_l0, sg_g0, sg_le0, sg_ge0, cmp_eq, cmp_lt, cmp_ge, cmp_gt, cmp_le, lT0, lT1] at c_16 | simp only [Int32.le_iff_toInt_le, Int32.lt_iff_toInt_lt, ← Int32.toInt_inj, iT0, iT1, iT2, iT3, iT4, iT5, iT6, iT7, iT8, iT9, iT10, iT11, iT12, iT13, iT14, iT15, iT16, iT19, iT20, iT31, iT32, iT42, iT64, iT200, iT318, iT319, iT1000, iTm1, iTm2] at c_16 | skip
    refine j_aload_n X dX11_cross_19 rfl 0 rfl ?_
    refine j_iload_n X dX11_cross_20 rfl 2 rfl ?_
    refine j_callV X dX11_cross_21 (c_X11_isShape l G q t n co 0 0 tx ty x2) gX11_cross_X11_isShape rfl hy_X11_isShape_V ⟨Nat.le_of_ble_eq_true rfl, Nat.le_of_ble_eq_true rfl⟩ 0 rfl rfl [0] rfl (by decide) rfl rfl (Nat.le_of_ble_eq_true rfl) ⟨Nat.le_of_ble_eq_true rfl, Nat.le_of_ble_eq_true rfl⟩ ?_
    rintro _ ⟨⟩ rfl
    change J p l e rm_X11_cross s m args below meth c Q G A 4 0 0 24 [(0, .ref (q 0)), (1, .int x1), (2, .int x2)] [.int (bI (0 ≤ x2.toInt ∧ x2.toInt < n.toInt)), .ref (q 0)] [(q 0, .inr (10, mF t n q co 0 0 tx ty)), (q 1, aZ G 200 fa), (q 2, aJ G 200 f1), (q 3, aJ G 200 f2), (q 4, aJ G 200 f3), (q 5, aJ G 200 f4), (q 6, aI G 200 fr), (q 7, aI G 200 to1), (q 10, aI G 320 (rg [z0, z1, z2, z3, z4, z5, z6, z7, z8, z9, z10, z11, z12, z13, z14, z15])), (q 11, aZ G 16 sf), (q 12, aI G 2 sig)]
    refine j_if_eq (tgt := 31) X dX11_cross_24 (by decide) (fun c_24 => ?_) (fun c_24 => ?_)
    · skip
      first | simp only [bI_0, Decidable.not_not, sg_mul, sg_e0, sg_l0, sg_g0, sg_le0, sg_ge0, cmp_eq, cmp_lt, cmp_ge, cmp_gt, cmp_le, lT0, lT1] at c_24 | simp only [Int32.le_iff_toInt_le, Int32.lt_iff_toInt_lt, ← Int32.toInt_inj, iT0, iT1, iT2, iT3, iT4, iT5, iT6, iT7, iT8, iT9, iT10, iT11, iT12, iT13, iT14, iT15, iT16, iT19, iT20, iT31, iT32, iT42, iT64, iT200, iT318, iT319, iT1000, iTm1, iTm2] at c_24 | skip
      exfalso; omega
    · skip
      first | simp only [bI_0, Decidable.not_not, sg_mul, sg_e0, sg_l0, sg_g0, sg_le0, sg_ge0, cmp_eq, cmp_lt, cmp_ge, cmp_gt, cmp_le, lT0, lT1] at c_24 | simp only [Int32.le_iff_toInt_le, Int32.lt_iff_toInt_lt, ← Int32.toInt_inj, iT0, iT1, iT2, iT3, iT4, iT5, iT6, iT7, iT8, iT9, iT10, iT11, iT12, iT13, iT14, iT15, iT16, iT19, iT20, iT31, iT32, iT42, iT64, iT200, iT318, iT319, iT1000, iTm1, iTm2] at c_24 | skip
      refine j_iconst (v := 0) X dX11_cross_27 rfl ?_
      refine j_goto (tgt := 32) X dX11_cross_28 (by decide) ?_
      refine j_put (ws' := [(q 0, .inr (10, mF 0 n q co 0 0 tx ty)), (q 1, aZ G 200 fa), (q 2, aJ G 200 f1), (q 3, aJ G 200 f2), (q 4, aJ G 200 f3), (q 5, aJ G 200 f4), (q 6, aI G 200 fr), (q 7, aI G 200 to1), (q 10, aI G 320 (rg [z0, z1, z2, z3, z4, z5, z6, z7, z8, z9, z10, z11, z12, z13, z14, z15])), (q 11, aZ G 16 sf), (q 12, aI G 2 sig)]) X dX11_cross_32 0 rfl 0 rfl in_X11_cross_X11 tyX11 tyX11_ok nmX11 (by decide) fl_X11_cross_48 rfl rfl rfl rfl (Nat.le_of_ble_eq_true rfl) rfl ?_
      refine j_aload_n X dX11_cross_35 rfl 0 rfl ?_
      refine j_get (v := .int 0) X dX11_cross_36 0 rfl 0 rfl in_X11_cross_X11 (by decide) fl_X11_cross_48 rfl ?_
      refine j_if_eq (tgt := 44) X dX11_cross_39 (by decide) (fun _ => ?_) (fun c9 => absurd c9 (by decide))
      subst hx1 hx2
      refine j_iconst (v := 1) X dX11_cross_44 rfl ?_
      refine j_istore_n (L' := [(3, .int 1), (0, .ref (q 0)), (1, .int (nI a)), (2, .int (nI b))]) X dX11_cross_45 rfl (by decide) rfl ?_
      refine j_aload_n X dX11_cross_46 rfl 1 rfl ?_
      refine j_get (v := .ref (q 1)) X dX11_cross_47 0 rfl 2 rfl in_X11_cross_X11 (by decide) fl_X11_cross_7 rfl ?_
      refine j_iload_n X dX11_cross_50 rfl 2 rfl ?_
      refine j_zald X dX11_cross_51 1 rfl a rfl ga (by decide) ?_
      refine j_if_eq (tgt := 74) X dX11_cross_52 (by decide) (fun c_52 => ?_) (fun c_52 => ?_)
      · skip
        refine j_aload_n X dX11_cross_74 rfl 1 rfl ?_
        refine j_get (v := .ref (q 1)) X dX11_cross_75 0 rfl 2 rfl in_X11_cross_X11 (by decide) fl_X11_cross_7 rfl ?_
        refine j_iload_n X dX11_cross_78 rfl 2 rfl ?_
        refine j_zald X dX11_cross_79 1 rfl a rfl ga (by decide) ?_
        refine j_if_eq (tgt := 92) X dX11_cross_80 (by decide) (fun c_80 => ?_) (fun c_80 => ?_)
        · skip
          refine j_aload_n X dX11_cross_92 rfl 1 rfl ?_
          refine j_get (v := .ref (q 1)) X dX11_cross_93 0 rfl 2 rfl in_X11_cross_X11 (by decide) fl_X11_cross_7 rfl ?_
          refine j_iload_n X dX11_cross_96 rfl 3 rfl ?_
          refine j_zald X dX11_cross_97 1 rfl b rfl gb (by decide) ?_
          refine j_if_eq (tgt := 110) X dX11_cross_98 (by decide) (fun c_98 => ?_) (fun c_98 => ?_)
          · skip
            refine j_aload_n X dX11_cross_110 rfl 1 rfl ?_
            refine j_iload_n X dX11_cross_111 rfl 2 rfl ?_
            refine j_iload_n X dX11_cross_112 rfl 3 rfl ?_
            refine j_callV X dX11_cross_113 (c_X11_crossSegments l G q 0 n co 0 tx ty [z0, z1, z2, z3, z4, z5, z6, z7, z8, z9, z10, z11, z12, z13, z14, z15] rfl sf hS sig f1 f2 f3 f4 a b ba ga bb gb) gX11_cross_X11_crossSegments rfl hy_X11_crossSegments_V ⟨Nat.le_of_ble_eq_true rfl, Nat.le_of_ble_eq_true rfl⟩ 0 rfl rfl [0, 2, 3, 4, 5, 8, 9, 10] rfl (by decide) rfl rfl (Nat.le_of_ble_eq_true rfl) ⟨Nat.le_of_ble_eq_true rfl, Nat.le_of_ble_eq_true rfl⟩ ?_
            rintro rv9 ⟨po_1, sg_2, tz_3, tw_4, zs_5, sf_6⟩ ⟨o9, hxo, hal⟩
            rcases hal with ⟨ho, rfl, hpo, hl9, hS9⟩ | ⟨v9, ho, rfl, hx9, hl9, hS9⟩
            · skip
              change J p l e rm_X11_cross s m args below meth c Q G A 4 0 0 116 [(3, .int 1), (0, .ref (q 0)), (1, .int (nI a)), (2, .int (nI b))] [.int 0] [(q 0, .inr (10, mF 0 n q co 0 po_1 tz_3 tw_4)), (q 1, aZ G 200 fa), (q 2, aJ G 200 f1), (q 3, aJ G 200 f2), (q 4, aJ G 200 f3), (q 5, aJ G 200 f4), (q 6, aI G 200 fr), (q 7, aI G 200 to1), (q 10, aI G 320 (rg zs_5)), (q 11, aZ G 16 sf_6), (q 12, aI G 2 sg_2)]
              refine j_istore_n (L' := [(3, .int 0), (0, .ref (q 0)), (1, .int (nI a)), (2, .int (nI b))]) X dX11_cross_116 rfl (by decide) rfl ?_
              refine j_aload_n X dX11_cross_117 rfl 1 rfl ?_
              refine j_iload_n X dX11_cross_118 rfl 0 rfl ?_
              refine j_if_eq (tgt := 126) X dX11_cross_119 (by decide) (fun _ => ?_) (fun c9 => absurd c9 (by decide))
              refine j_iconst (v := 2) X dX11_cross_126 rfl ?_
              refine j_put (ws' := [(q 0, .inr (10, mF 2 n q co 0 po_1 tz_3 tw_4)), (q 1, aZ G 200 fa), (q 2, aJ G 200 f1), (q 3, aJ G 200 f2), (q 4, aJ G 200 f3), (q 5, aJ G 200 f4), (q 6, aI G 200 fr), (q 7, aI G 200 to1), (q 10, aI G 320 (rg zs_5)), (q 11, aZ G 16 sf_6), (q 12, aI G 2 sg_2)]) X dX11_cross_127 0 rfl 0 rfl in_X11_cross_X11 tyX11 tyX11_ok nmX11 (by decide) fl_X11_cross_48 rfl rfl rfl rfl (Nat.le_of_ble_eq_true rfl) rfl ?_
              refine j_aload_n X dX11_cross_130 rfl 1 rfl ?_
              refine j_iload_n X dX11_cross_131 rfl 0 rfl ?_
              refine j_put (ws' := [(q 0, .inr (10, mF 2 n q co 0 po_1 tz_3 tw_4)), (q 1, aZ G 200 fa), (q 2, aJ G 200 f1), (q 3, aJ G 200 f2), (q 4, aJ G 200 f3), (q 5, aJ G 200 f4), (q 6, aI G 200 fr), (q 7, aI G 200 to1), (q 10, aI G 320 (rg zs_5)), (q 11, aZ G 16 sf_6), (q 12, aI G 2 sg_2)]) X dX11_cross_132 0 rfl 14 rfl in_X11_cross_X11 tyX11 tyX11_ok nmX11 (by decide) fl_X11_cross_196 rfl rfl rfl rfl (Nat.le_of_ble_eq_true rfl) rfl ?_
              refine j_iload_n X dX11_cross_135 rfl 0 rfl ?_
              refine j_if_eq (tgt := 146) X dX11_cross_136 (by decide) (fun _ => ?_) (fun c9 => absurd c9 (by decide))
              refine j_iconst (v := 0) X dX11_cross_146 rfl ?_
              exact E.2.1 147 _ 0 (2, 0, po_1, sg_2, tz_3, tw_4, zs_5, sf_6) _ dX11_cross_147 (⟨o9, hxo, Or.inl ⟨ho, rfl, rfl, rfl, hpo, hl9, hS9⟩⟩) hr rfl
            · skip
              change J p l e rm_X11_cross s m args below meth c Q G A 4 0 0 116 [(3, .int 1), (0, .ref (q 0)), (1, .int (nI a)), (2, .int (nI b))] [.int 1] [(q 0, .inr (10, mF 0 n q co 0 po_1 tz_3 tw_4)), (q 1, aZ G 200 fa), (q 2, aJ G 200 f1), (q 3, aJ G 200 f2), (q 4, aJ G 200 f3), (q 5, aJ G 200 f4), (q 6, aI G 200 fr), (q 7, aI G 200 to1), (q 10, aI G 320 (rg zs_5)), (q 11, aZ G 16 sf_6), (q 12, aI G 2 sg_2)]
              refine j_istore_n (L' := [(3, .int 1), (0, .ref (q 0)), (1, .int (nI a)), (2, .int (nI b))]) X dX11_cross_116 rfl (by decide) rfl ?_
              refine j_aload_n X dX11_cross_117 rfl 1 rfl ?_
              refine j_iload_n X dX11_cross_118 rfl 0 rfl ?_
              refine j_if_eq (tgt := 126) X dX11_cross_119 (by decide) (fun c9 => absurd c9 (by decide)) (fun _ => ?_)
              refine j_iconst (v := 0) X dX11_cross_122 rfl ?_
              refine j_goto (tgt := 127) X dX11_cross_123 (by decide) ?_
              refine j_put (ws' := [(q 0, .inr (10, mF 0 n q co 0 po_1 tz_3 tw_4)), (q 1, aZ G 200 fa), (q 2, aJ G 200 f1), (q 3, aJ G 200 f2), (q 4, aJ G 200 f3), (q 5, aJ G 200 f4), (q 6, aI G 200 fr), (q 7, aI G 200 to1), (q 10, aI G 320 (rg zs_5)), (q 11, aZ G 16 sf_6), (q 12, aI G 2 sg_2)]) X dX11_cross_127 0 rfl 0 rfl in_X11_cross_X11 tyX11 tyX11_ok nmX11 (by decide) fl_X11_cross_48 rfl rfl rfl rfl (Nat.le_of_ble_eq_true rfl) rfl ?_
              refine j_aload_n X dX11_cross_130 rfl 1 rfl ?_
              refine j_iload_n X dX11_cross_131 rfl 0 rfl ?_
              refine j_put (ws' := [(q 0, .inr (10, mF 0 n q co 1 po_1 tz_3 tw_4)), (q 1, aZ G 200 fa), (q 2, aJ G 200 f1), (q 3, aJ G 200 f2), (q 4, aJ G 200 f3), (q 5, aJ G 200 f4), (q 6, aI G 200 fr), (q 7, aI G 200 to1), (q 10, aI G 320 (rg zs_5)), (q 11, aZ G 16 sf_6), (q 12, aI G 2 sg_2)]) X dX11_cross_132 0 rfl 14 rfl in_X11_cross_X11 tyX11 tyX11_ok nmX11 (by decide) fl_X11_cross_196 rfl rfl rfl rfl (Nat.le_of_ble_eq_true rfl) rfl ?_
              refine j_iload_n X dX11_cross_135 rfl 0 rfl ?_
              refine j_if_eq (tgt := 146) X dX11_cross_136 (by decide) (fun c9 => absurd c9 (by decide)) (fun _ => ?_)
              refine j_aload_n X dX11_cross_139 rfl 1 rfl ?_
              refine j_get (v := .int po_1) X dX11_cross_140 0 rfl 15 rfl in_X11_cross_X11 (by decide) fl_X11_cross_173 rfl ?_
              refine j_goto (tgt := 147) X dX11_cross_143 (by decide) ?_
              exact E.2.1 147 _ po_1 (0, 1, po_1, sg_2, tz_3, tw_4, zs_5, sf_6) _ dX11_cross_147 (⟨o9, hxo, Or.inr ⟨v9, ho, congrArg (fun w => some (Value.int w)) hx9.1, rfl, rfl, hx9, hl9, hS9⟩⟩) hr rfl
          · skip
            exact absurd hB c_98
        · skip
          exact absurd hA c_80
      · skip
        exact absurd hA c_52

set_option maxHeartbeats 4000000 in
set_option maxRecDepth 100000 in
theorem c_X11_cross_sa (l : Launch) (G : jG) (q : Nat → Nat) (t n co cr po : Int32) (tx ty : Int64) (zs : List Int) (hl : zs.length = 16) (sf : Nat → Int32) (hS : okS zs sf) (sig : Nat → Int32) (fa : Nat → Int32) (f1 f2 f3 f4 : Nat → Int64) (fr to1 : Nat → Int32) (x1 x2 : Int32) (a b : Nat) (hx1 : x1 = nI a) (hx2 : x2 = nI b) (hP : (0 ≤ x1.toInt ∧ x1.toInt < n.toInt) ∧ (0 ≤ x2.toInt ∧ x2.toInt < n.toInt)) (ba : (inC (f1 a).toInt ∧ inC (f2 a).toInt) ∧ inC (f3 a).toInt ∧ inC (f4 a).toInt) (ga : a < 200) (bcb : inC (f1 b).toInt ∧ inC (f2 b).toInt) (hfb : 0 ≤ (fr b).toInt ∧ (fr b).toInt < 8) (htb : 0 ≤ (to1 b).toInt ∧ (to1 b).toInt < 8) (gb : b < 200) (brb : 1 ≤ (f3 b).toInt ∧ (f3 b).toInt ≤ 4611686018427387904) (hA : fa a = 0) (hB : ¬ fa b = 0) : Ct l yX11_cross wsX11_cross rm_X11_cross G [.ref (q 0), .int x1, .int x2] [(q 0, .inr (10, mF t n q co cr po tx ty)), (q 1, aZ G 200 fa), (q 2, aJ G 200 f1), (q 3, aJ G 200 f2), (q 4, aJ G 200 f3), (q 5, aJ G 200 f4), (q 6, aI G 200 fr), (q 7, aI G 200 to1), (q 10, aI G 320 (rg zs)), (q 11, aZ G 16 sf), (q 12, aI G 2 sig)] (S := Int32 × Int32 × Int32 × (Nat → Int32) × Int64 × Int64 × List Int × (Nat → Int32)) (fun r u => ∃ o, o = some (xsa (f1 a).toInt (f2 a).toInt (f3 a).toInt (f4 a).toInt (f1 b).toInt (f2 b).toInt (f3 b).toInt (fr b).toInt (to1 b).toInt) ∧ ((o = none ∧ r = some (.int 0) ∧ u.1 = 2 ∧ u.2.1 = 0 ∧ u.2.2.1 = 0 ∧ u.2.2.2.2.2.2.1.length = 16 ∧ okS u.2.2.2.2.2.2.1 u.2.2.2.2.2.2.2) ∨ (∃ v, o = some v ∧ r = some (.int (nI v.1.length)) ∧ u.1 = 0 ∧ u.2.1 = 1 ∧ xG v u.2.2.1 u.2.2.2.1 u.2.2.2.2.1 u.2.2.2.2.2.1 u.2.2.2.2.2.2.1 ∧ u.2.2.2.2.2.2.1.length = 16 ∧ okS u.2.2.2.2.2.2.1 u.2.2.2.2.2.2.2))) (fun u => [(q 0, .inr (10, mF u.1 n q co u.2.1 u.2.2.1 u.2.2.2.2.1 u.2.2.2.2.2.1)), (q 1, aZ G 200 fa), (q 2, aJ G 200 f1), (q 3, aJ G 200 f2), (q 4, aJ G 200 f3), (q 5, aJ G 200 f4), (q 6, aI G 200 fr), (q 7, aI G 200 to1), (q 10, aI G 320 (rg u.2.2.2.2.2.2.1)), (q 11, aZ G 16 u.2.2.2.2.2.2.2), (q 12, aI G 2 u.2.2.2.1)]) (fun _ => []) := by
  refine c_intro (cc := cX11_cross) (maxL := 4) (ret := (some .int)) (by decide) rfl (Nat.le_of_ble_eq_true rfl) (fun _ => by simp only [List.map_cons, List.map_nil]) ?_
  intro p e s m args below meth c Q A X hr hin E
  change J p l e rm_X11_cross s m args below meth c Q G A 4 0 0 0 [(0, .ref (q 0)), (1, .int x1), (2, .int x2)] [] [(q 0, .inr (10, mF t n q co cr po tx ty)), (q 1, aZ G 200 fa), (q 2, aJ G 200 f1), (q 3, aJ G 200 f2), (q 4, aJ G 200 f3), (q 5, aJ G 200 f4), (q 6, aI G 200 fr), (q 7, aI G 200 to1), (q 10, aI G 320 (rg zs)), (q 11, aZ G 16 sf), (q 12, aI G 2 sig)]
  obtain ⟨z0, z1, z2, z3, z4, z5, z6, z7, z8, z9, z10, z11, z12, z13, z14, z15, rfl⟩ := l16 hl
  refine j_aload_n X dX11_cross_0 rfl 0 rfl ?_
  refine j_iconst (v := 0) X dX11_cross_1 rfl ?_
  refine j_put (ws' := [(q 0, .inr (10, mF t n q co 0 po tx ty)), (q 1, aZ G 200 fa), (q 2, aJ G 200 f1), (q 3, aJ G 200 f2), (q 4, aJ G 200 f3), (q 5, aJ G 200 f4), (q 6, aI G 200 fr), (q 7, aI G 200 to1), (q 10, aI G 320 (rg [z0, z1, z2, z3, z4, z5, z6, z7, z8, z9, z10, z11, z12, z13, z14, z15])), (q 11, aZ G 16 sf), (q 12, aI G 2 sig)]) X dX11_cross_2 0 rfl 14 rfl in_X11_cross_X11 tyX11 tyX11_ok nmX11 (by decide) fl_X11_cross_196 rfl rfl rfl rfl (Nat.le_of_ble_eq_true rfl) rfl ?_
  refine j_aload_n X dX11_cross_5 rfl 0 rfl ?_
  refine j_iconst (v := 0) X dX11_cross_6 rfl ?_
  refine j_put (ws' := [(q 0, .inr (10, mF t n q co 0 0 tx ty)), (q 1, aZ G 200 fa), (q 2, aJ G 200 f1), (q 3, aJ G 200 f2), (q 4, aJ G 200 f3), (q 5, aJ G 200 f4), (q 6, aI G 200 fr), (q 7, aI G 200 to1), (q 10, aI G 320 (rg [z0, z1, z2, z3, z4, z5, z6, z7, z8, z9, z10, z11, z12, z13, z14, z15])), (q 11, aZ G 16 sf), (q 12, aI G 2 sig)]) X dX11_cross_7 0 rfl 15 rfl in_X11_cross_X11 tyX11 tyX11_ok nmX11 (by decide) fl_X11_cross_173 rfl rfl rfl rfl (Nat.le_of_ble_eq_true rfl) rfl ?_
  refine j_aload_n X dX11_cross_10 rfl 0 rfl ?_
  refine j_aload_n X dX11_cross_11 rfl 0 rfl ?_
  refine j_iload_n X dX11_cross_12 rfl 1 rfl ?_
  refine j_callV X dX11_cross_13 (c_X11_isShape l G q t n co 0 0 tx ty x1) gX11_cross_X11_isShape rfl hy_X11_isShape_V ⟨Nat.le_of_ble_eq_true rfl, Nat.le_of_ble_eq_true rfl⟩ 0 rfl rfl [0] rfl (by decide) rfl rfl (Nat.le_of_ble_eq_true rfl) ⟨Nat.le_of_ble_eq_true rfl, Nat.le_of_ble_eq_true rfl⟩ ?_
  rintro _ ⟨⟩ rfl
  change J p l e rm_X11_cross s m args below meth c Q G A 4 0 0 16 [(0, .ref (q 0)), (1, .int x1), (2, .int x2)] [.int (bI (0 ≤ x1.toInt ∧ x1.toInt < n.toInt)), .ref (q 0)] [(q 0, .inr (10, mF t n q co 0 0 tx ty)), (q 1, aZ G 200 fa), (q 2, aJ G 200 f1), (q 3, aJ G 200 f2), (q 4, aJ G 200 f3), (q 5, aJ G 200 f4), (q 6, aI G 200 fr), (q 7, aI G 200 to1), (q 10, aI G 320 (rg [z0, z1, z2, z3, z4, z5, z6, z7, z8, z9, z10, z11, z12, z13, z14, z15])), (q 11, aZ G 16 sf), (q 12, aI G 2 sig)]
  refine j_if_eq (tgt := 31) X dX11_cross_16 (by decide) (fun c_16 => ?_) (fun c_16 => ?_)
  · skip
    first | simp only [bI_0, Decidable.not_not, sg_mul, sg_e0, sg_l0, sg_g0, sg_le0, sg_ge0, cmp_eq, cmp_lt, cmp_ge, cmp_gt, cmp_le, lT0, lT1] at c_16 | simp only [Int32.le_iff_toInt_le, Int32.lt_iff_toInt_lt, ← Int32.toInt_inj, iT0, iT1, iT2, iT3, iT4, iT5, iT6, iT7, iT8, iT9, iT10, iT11, iT12, iT13, iT14, iT15, iT16, iT19, iT20, iT31, iT32, iT42, iT64, iT200, iT318, iT319, iT1000, iTm1, iTm2] at c_16 | skip
    exfalso; omega
  · skip
    first | simp only [bI_0, Decidable.not_not, sg_mul, sg_e0, sg_l0, sg_g0, sg_le0, sg_ge0, cmp_eq, cmp_lt, cmp_ge, cmp_gt, cmp_le, lT0, lT1] at c_16 | simp only [Int32.le_iff_toInt_le, Int32.lt_iff_toInt_lt, ← Int32.toInt_inj, iT0, iT1, iT2, iT3, iT4, iT5, iT6, iT7, iT8, iT9, iT10, iT11, iT12, iT13, iT14, iT15, iT16, iT19, iT20, iT31, iT32, iT42, iT64, iT200, iT318, iT319, iT1000, iTm1, iTm2] at c_16 | skip
    refine j_aload_n X dX11_cross_19 rfl 0 rfl ?_
    refine j_iload_n X dX11_cross_20 rfl 2 rfl ?_
    refine j_callV X dX11_cross_21 (c_X11_isShape l G q t n co 0 0 tx ty x2) gX11_cross_X11_isShape rfl hy_X11_isShape_V ⟨Nat.le_of_ble_eq_true rfl, Nat.le_of_ble_eq_true rfl⟩ 0 rfl rfl [0] rfl (by decide) rfl rfl (Nat.le_of_ble_eq_true rfl) ⟨Nat.le_of_ble_eq_true rfl, Nat.le_of_ble_eq_true rfl⟩ ?_
    rintro _ ⟨⟩ rfl
    change J p l e rm_X11_cross s m args below meth c Q G A 4 0 0 24 [(0, .ref (q 0)), (1, .int x1), (2, .int x2)] [.int (bI (0 ≤ x2.toInt ∧ x2.toInt < n.toInt)), .ref (q 0)] [(q 0, .inr (10, mF t n q co 0 0 tx ty)), (q 1, aZ G 200 fa), (q 2, aJ G 200 f1), (q 3, aJ G 200 f2), (q 4, aJ G 200 f3), (q 5, aJ G 200 f4), (q 6, aI G 200 fr), (q 7, aI G 200 to1), (q 10, aI G 320 (rg [z0, z1, z2, z3, z4, z5, z6, z7, z8, z9, z10, z11, z12, z13, z14, z15])), (q 11, aZ G 16 sf), (q 12, aI G 2 sig)]
    refine j_if_eq (tgt := 31) X dX11_cross_24 (by decide) (fun c_24 => ?_) (fun c_24 => ?_)
    · skip
      first | simp only [bI_0, Decidable.not_not, sg_mul, sg_e0, sg_l0, sg_g0, sg_le0, sg_ge0, cmp_eq, cmp_lt, cmp_ge, cmp_gt, cmp_le, lT0, lT1] at c_24 | simp only [Int32.le_iff_toInt_le, Int32.lt_iff_toInt_lt, ← Int32.toInt_inj, iT0, iT1, iT2, iT3, iT4, iT5, iT6, iT7, iT8, iT9, iT10, iT11, iT12, iT13, iT14, iT15, iT16, iT19, iT20, iT31, iT32, iT42, iT64, iT200, iT318, iT319, iT1000, iTm1, iTm2] at c_24 | skip
      exfalso; omega
    · skip
      first | simp only [bI_0, Decidable.not_not, sg_mul, sg_e0, sg_l0, sg_g0, sg_le0, sg_ge0, cmp_eq, cmp_lt, cmp_ge, cmp_gt, cmp_le, lT0, lT1] at c_24 | simp only [Int32.le_iff_toInt_le, Int32.lt_iff_toInt_lt, ← Int32.toInt_inj, iT0, iT1, iT2, iT3, iT4, iT5, iT6, iT7, iT8, iT9, iT10, iT11, iT12, iT13, iT14, iT15, iT16, iT19, iT20, iT31, iT32, iT42, iT64, iT200, iT318, iT319, iT1000, iTm1, iTm2] at c_24 | skip
      refine j_iconst (v := 0) X dX11_cross_27 rfl ?_
      refine j_goto (tgt := 32) X dX11_cross_28 (by decide) ?_
      refine j_put (ws' := [(q 0, .inr (10, mF 0 n q co 0 0 tx ty)), (q 1, aZ G 200 fa), (q 2, aJ G 200 f1), (q 3, aJ G 200 f2), (q 4, aJ G 200 f3), (q 5, aJ G 200 f4), (q 6, aI G 200 fr), (q 7, aI G 200 to1), (q 10, aI G 320 (rg [z0, z1, z2, z3, z4, z5, z6, z7, z8, z9, z10, z11, z12, z13, z14, z15])), (q 11, aZ G 16 sf), (q 12, aI G 2 sig)]) X dX11_cross_32 0 rfl 0 rfl in_X11_cross_X11 tyX11 tyX11_ok nmX11 (by decide) fl_X11_cross_48 rfl rfl rfl rfl (Nat.le_of_ble_eq_true rfl) rfl ?_
      refine j_aload_n X dX11_cross_35 rfl 0 rfl ?_
      refine j_get (v := .int 0) X dX11_cross_36 0 rfl 0 rfl in_X11_cross_X11 (by decide) fl_X11_cross_48 rfl ?_
      refine j_if_eq (tgt := 44) X dX11_cross_39 (by decide) (fun _ => ?_) (fun c9 => absurd c9 (by decide))
      subst hx1 hx2
      refine j_iconst (v := 1) X dX11_cross_44 rfl ?_
      refine j_istore_n (L' := [(3, .int 1), (0, .ref (q 0)), (1, .int (nI a)), (2, .int (nI b))]) X dX11_cross_45 rfl (by decide) rfl ?_
      refine j_aload_n X dX11_cross_46 rfl 1 rfl ?_
      refine j_get (v := .ref (q 1)) X dX11_cross_47 0 rfl 2 rfl in_X11_cross_X11 (by decide) fl_X11_cross_7 rfl ?_
      refine j_iload_n X dX11_cross_50 rfl 2 rfl ?_
      refine j_zald X dX11_cross_51 1 rfl a rfl ga (by decide) ?_
      refine j_if_eq (tgt := 74) X dX11_cross_52 (by decide) (fun c_52 => ?_) (fun c_52 => ?_)
      · skip
        refine j_aload_n X dX11_cross_74 rfl 1 rfl ?_
        refine j_get (v := .ref (q 1)) X dX11_cross_75 0 rfl 2 rfl in_X11_cross_X11 (by decide) fl_X11_cross_7 rfl ?_
        refine j_iload_n X dX11_cross_78 rfl 2 rfl ?_
        refine j_zald X dX11_cross_79 1 rfl a rfl ga (by decide) ?_
        refine j_if_eq (tgt := 92) X dX11_cross_80 (by decide) (fun c_80 => ?_) (fun c_80 => ?_)
        · skip
          refine j_aload_n X dX11_cross_92 rfl 1 rfl ?_
          refine j_get (v := .ref (q 1)) X dX11_cross_93 0 rfl 2 rfl in_X11_cross_X11 (by decide) fl_X11_cross_7 rfl ?_
          refine j_iload_n X dX11_cross_96 rfl 3 rfl ?_
          refine j_zald X dX11_cross_97 1 rfl b rfl gb (by decide) ?_
          refine j_if_eq (tgt := 110) X dX11_cross_98 (by decide) (fun c_98 => ?_) (fun c_98 => ?_)
          · skip
            exact absurd c_98 hB
          · skip
            refine j_aload_n X dX11_cross_101 rfl 1 rfl ?_
            refine j_iload_n X dX11_cross_102 rfl 2 rfl ?_
            refine j_iload_n X dX11_cross_103 rfl 3 rfl ?_
            refine j_callV X dX11_cross_104 (c_X11_crossArc l G q 0 n co 0 tx ty [z0, z1, z2, z3, z4, z5, z6, z7, z8, z9, z10, z11, z12, z13, z14, z15] rfl sf hS sig f1 f2 f3 f4 fr to1 a b ba ga bcb hfb htb gb brb) gX11_cross_X11_crossArc rfl hy_X11_crossArc_V ⟨Nat.le_of_ble_eq_true rfl, Nat.le_of_ble_eq_true rfl⟩ 0 rfl rfl [0, 2, 3, 4, 5, 6, 7, 8, 9, 10] rfl (by decide) rfl rfl (Nat.le_of_ble_eq_true rfl) ⟨Nat.le_of_ble_eq_true rfl, Nat.le_of_ble_eq_true rfl⟩ ?_
            rintro _ ⟨po_1, sg_2, tz_3, tw_4, zs_5, sf_6⟩ ⟨rfl, hx9, hl9, hS9⟩
            change J p l e rm_X11_cross s m args below meth c Q G A 4 0 0 107 [(3, .int 1), (0, .ref (q 0)), (1, .int (nI a)), (2, .int (nI b))] [] [(q 0, .inr (10, mF 0 n q co 0 po_1 tz_3 tw_4)), (q 1, aZ G 200 fa), (q 2, aJ G 200 f1), (q 3, aJ G 200 f2), (q 4, aJ G 200 f3), (q 5, aJ G 200 f4), (q 6, aI G 200 fr), (q 7, aI G 200 to1), (q 10, aI G 320 (rg zs_5)), (q 11, aZ G 16 sf_6), (q 12, aI G 2 sg_2)]
            refine j_goto (tgt := 117) X dX11_cross_107 (by decide) ?_
            refine j_aload_n X dX11_cross_117 rfl 1 rfl ?_
            refine j_iload_n X dX11_cross_118 rfl 0 rfl ?_
            refine j_if_eq (tgt := 126) X dX11_cross_119 (by decide) (fun c9 => absurd c9 (by decide)) (fun _ => ?_)
            refine j_iconst (v := 0) X dX11_cross_122 rfl ?_
            refine j_goto (tgt := 127) X dX11_cross_123 (by decide) ?_
            refine j_put (ws' := [(q 0, .inr (10, mF 0 n q co 0 po_1 tz_3 tw_4)), (q 1, aZ G 200 fa), (q 2, aJ G 200 f1), (q 3, aJ G 200 f2), (q 4, aJ G 200 f3), (q 5, aJ G 200 f4), (q 6, aI G 200 fr), (q 7, aI G 200 to1), (q 10, aI G 320 (rg zs_5)), (q 11, aZ G 16 sf_6), (q 12, aI G 2 sg_2)]) X dX11_cross_127 0 rfl 0 rfl in_X11_cross_X11 tyX11 tyX11_ok nmX11 (by decide) fl_X11_cross_48 rfl rfl rfl rfl (Nat.le_of_ble_eq_true rfl) rfl ?_
            refine j_aload_n X dX11_cross_130 rfl 1 rfl ?_
            refine j_iload_n X dX11_cross_131 rfl 0 rfl ?_
            refine j_put (ws' := [(q 0, .inr (10, mF 0 n q co 1 po_1 tz_3 tw_4)), (q 1, aZ G 200 fa), (q 2, aJ G 200 f1), (q 3, aJ G 200 f2), (q 4, aJ G 200 f3), (q 5, aJ G 200 f4), (q 6, aI G 200 fr), (q 7, aI G 200 to1), (q 10, aI G 320 (rg zs_5)), (q 11, aZ G 16 sf_6), (q 12, aI G 2 sg_2)]) X dX11_cross_132 0 rfl 14 rfl in_X11_cross_X11 tyX11 tyX11_ok nmX11 (by decide) fl_X11_cross_196 rfl rfl rfl rfl (Nat.le_of_ble_eq_true rfl) rfl ?_
            refine j_iload_n X dX11_cross_135 rfl 0 rfl ?_
            refine j_if_eq (tgt := 146) X dX11_cross_136 (by decide) (fun c9 => absurd c9 (by decide)) (fun _ => ?_)
            refine j_aload_n X dX11_cross_139 rfl 1 rfl ?_
            refine j_get (v := .int po_1) X dX11_cross_140 0 rfl 15 rfl in_X11_cross_X11 (by decide) fl_X11_cross_173 rfl ?_
            refine j_goto (tgt := 147) X dX11_cross_143 (by decide) ?_
            exact E.2.1 147 _ po_1 (0, 1, po_1, sg_2, tz_3, tw_4, zs_5, sf_6) _ dX11_cross_147 (⟨_, rfl, Or.inr ⟨_, rfl, congrArg (fun w => some (Value.int w)) hx9.1, rfl, rfl, hx9, hl9, hS9⟩⟩) hr rfl
        · skip
          exact absurd hA c_80
      · skip
        exact absurd hA c_52

set_option maxHeartbeats 4000000 in
set_option maxRecDepth 100000 in
theorem c_X11_cross_as (l : Launch) (G : jG) (q : Nat → Nat) (t n co cr po : Int32) (tx ty : Int64) (zs : List Int) (hl : zs.length = 16) (sf : Nat → Int32) (hS : okS zs sf) (sig : Nat → Int32) (fa : Nat → Int32) (f1 f2 f3 f4 : Nat → Int64) (fr to1 : Nat → Int32) (x1 x2 : Int32) (a b : Nat) (hx1 : x1 = nI a) (hx2 : x2 = nI b) (hP : (0 ≤ x1.toInt ∧ x1.toInt < n.toInt) ∧ (0 ≤ x2.toInt ∧ x2.toInt < n.toInt)) (bca : inC (f1 a).toInt ∧ inC (f2 a).toInt) (hfa : 0 ≤ (fr a).toInt ∧ (fr a).toInt < 8) (hta : 0 ≤ (to1 a).toInt ∧ (to1 a).toInt < 8) (ga : a < 200) (bra : 1 ≤ (f3 a).toInt ∧ (f3 a).toInt ≤ 4611686018427387904) (bb : (inC (f1 b).toInt ∧ inC (f2 b).toInt) ∧ inC (f3 b).toInt ∧ inC (f4 b).toInt) (gb : b < 200) (hA : ¬ fa a = 0) (hB : fa b = 0) : Ct l yX11_cross wsX11_cross rm_X11_cross G [.ref (q 0), .int x1, .int x2] [(q 0, .inr (10, mF t n q co cr po tx ty)), (q 1, aZ G 200 fa), (q 2, aJ G 200 f1), (q 3, aJ G 200 f2), (q 4, aJ G 200 f3), (q 5, aJ G 200 f4), (q 6, aI G 200 fr), (q 7, aI G 200 to1), (q 10, aI G 320 (rg zs)), (q 11, aZ G 16 sf), (q 12, aI G 2 sig)] (S := Int32 × Int32 × Int32 × (Nat → Int32) × Int64 × Int64 × List Int × (Nat → Int32)) (fun r u => ∃ o, o = some (xsa (f1 b).toInt (f2 b).toInt (f3 b).toInt (f4 b).toInt (f1 a).toInt (f2 a).toInt (f3 a).toInt (fr a).toInt (to1 a).toInt) ∧ ((o = none ∧ r = some (.int 0) ∧ u.1 = 2 ∧ u.2.1 = 0 ∧ u.2.2.1 = 0 ∧ u.2.2.2.2.2.2.1.length = 16 ∧ okS u.2.2.2.2.2.2.1 u.2.2.2.2.2.2.2) ∨ (∃ v, o = some v ∧ r = some (.int (nI v.1.length)) ∧ u.1 = 0 ∧ u.2.1 = 1 ∧ xG v u.2.2.1 u.2.2.2.1 u.2.2.2.2.1 u.2.2.2.2.2.1 u.2.2.2.2.2.2.1 ∧ u.2.2.2.2.2.2.1.length = 16 ∧ okS u.2.2.2.2.2.2.1 u.2.2.2.2.2.2.2))) (fun u => [(q 0, .inr (10, mF u.1 n q co u.2.1 u.2.2.1 u.2.2.2.2.1 u.2.2.2.2.2.1)), (q 1, aZ G 200 fa), (q 2, aJ G 200 f1), (q 3, aJ G 200 f2), (q 4, aJ G 200 f3), (q 5, aJ G 200 f4), (q 6, aI G 200 fr), (q 7, aI G 200 to1), (q 10, aI G 320 (rg u.2.2.2.2.2.2.1)), (q 11, aZ G 16 u.2.2.2.2.2.2.2), (q 12, aI G 2 u.2.2.2.1)]) (fun _ => []) := by
  refine c_intro (cc := cX11_cross) (maxL := 4) (ret := (some .int)) (by decide) rfl (Nat.le_of_ble_eq_true rfl) (fun _ => by simp only [List.map_cons, List.map_nil]) ?_
  intro p e s m args below meth c Q A X hr hin E
  change J p l e rm_X11_cross s m args below meth c Q G A 4 0 0 0 [(0, .ref (q 0)), (1, .int x1), (2, .int x2)] [] [(q 0, .inr (10, mF t n q co cr po tx ty)), (q 1, aZ G 200 fa), (q 2, aJ G 200 f1), (q 3, aJ G 200 f2), (q 4, aJ G 200 f3), (q 5, aJ G 200 f4), (q 6, aI G 200 fr), (q 7, aI G 200 to1), (q 10, aI G 320 (rg zs)), (q 11, aZ G 16 sf), (q 12, aI G 2 sig)]
  obtain ⟨z0, z1, z2, z3, z4, z5, z6, z7, z8, z9, z10, z11, z12, z13, z14, z15, rfl⟩ := l16 hl
  refine j_aload_n X dX11_cross_0 rfl 0 rfl ?_
  refine j_iconst (v := 0) X dX11_cross_1 rfl ?_
  refine j_put (ws' := [(q 0, .inr (10, mF t n q co 0 po tx ty)), (q 1, aZ G 200 fa), (q 2, aJ G 200 f1), (q 3, aJ G 200 f2), (q 4, aJ G 200 f3), (q 5, aJ G 200 f4), (q 6, aI G 200 fr), (q 7, aI G 200 to1), (q 10, aI G 320 (rg [z0, z1, z2, z3, z4, z5, z6, z7, z8, z9, z10, z11, z12, z13, z14, z15])), (q 11, aZ G 16 sf), (q 12, aI G 2 sig)]) X dX11_cross_2 0 rfl 14 rfl in_X11_cross_X11 tyX11 tyX11_ok nmX11 (by decide) fl_X11_cross_196 rfl rfl rfl rfl (Nat.le_of_ble_eq_true rfl) rfl ?_
  refine j_aload_n X dX11_cross_5 rfl 0 rfl ?_
  refine j_iconst (v := 0) X dX11_cross_6 rfl ?_
  refine j_put (ws' := [(q 0, .inr (10, mF t n q co 0 0 tx ty)), (q 1, aZ G 200 fa), (q 2, aJ G 200 f1), (q 3, aJ G 200 f2), (q 4, aJ G 200 f3), (q 5, aJ G 200 f4), (q 6, aI G 200 fr), (q 7, aI G 200 to1), (q 10, aI G 320 (rg [z0, z1, z2, z3, z4, z5, z6, z7, z8, z9, z10, z11, z12, z13, z14, z15])), (q 11, aZ G 16 sf), (q 12, aI G 2 sig)]) X dX11_cross_7 0 rfl 15 rfl in_X11_cross_X11 tyX11 tyX11_ok nmX11 (by decide) fl_X11_cross_173 rfl rfl rfl rfl (Nat.le_of_ble_eq_true rfl) rfl ?_
  refine j_aload_n X dX11_cross_10 rfl 0 rfl ?_
  refine j_aload_n X dX11_cross_11 rfl 0 rfl ?_
  refine j_iload_n X dX11_cross_12 rfl 1 rfl ?_
  refine j_callV X dX11_cross_13 (c_X11_isShape l G q t n co 0 0 tx ty x1) gX11_cross_X11_isShape rfl hy_X11_isShape_V ⟨Nat.le_of_ble_eq_true rfl, Nat.le_of_ble_eq_true rfl⟩ 0 rfl rfl [0] rfl (by decide) rfl rfl (Nat.le_of_ble_eq_true rfl) ⟨Nat.le_of_ble_eq_true rfl, Nat.le_of_ble_eq_true rfl⟩ ?_
  rintro _ ⟨⟩ rfl
  change J p l e rm_X11_cross s m args below meth c Q G A 4 0 0 16 [(0, .ref (q 0)), (1, .int x1), (2, .int x2)] [.int (bI (0 ≤ x1.toInt ∧ x1.toInt < n.toInt)), .ref (q 0)] [(q 0, .inr (10, mF t n q co 0 0 tx ty)), (q 1, aZ G 200 fa), (q 2, aJ G 200 f1), (q 3, aJ G 200 f2), (q 4, aJ G 200 f3), (q 5, aJ G 200 f4), (q 6, aI G 200 fr), (q 7, aI G 200 to1), (q 10, aI G 320 (rg [z0, z1, z2, z3, z4, z5, z6, z7, z8, z9, z10, z11, z12, z13, z14, z15])), (q 11, aZ G 16 sf), (q 12, aI G 2 sig)]
  refine j_if_eq (tgt := 31) X dX11_cross_16 (by decide) (fun c_16 => ?_) (fun c_16 => ?_)
  · skip
    first | simp only [bI_0, Decidable.not_not, sg_mul, sg_e0, sg_l0, sg_g0, sg_le0, sg_ge0, cmp_eq, cmp_lt, cmp_ge, cmp_gt, cmp_le, lT0, lT1] at c_16 | simp only [Int32.le_iff_toInt_le, Int32.lt_iff_toInt_lt, ← Int32.toInt_inj, iT0, iT1, iT2, iT3, iT4, iT5, iT6, iT7, iT8, iT9, iT10, iT11, iT12, iT13, iT14, iT15, iT16, iT19, iT20, iT31, iT32, iT42, iT64, iT200, iT318, iT319, iT1000, iTm1, iTm2] at c_16 | skip
    exfalso; omega
  · skip
    first | simp only [bI_0, Decidable.not_not, sg_mul, sg_e0, sg_l0, sg_g0, sg_le0, sg_ge0, cmp_eq, cmp_lt, cmp_ge, cmp_gt, cmp_le, lT0, lT1] at c_16 | simp only [Int32.le_iff_toInt_le, Int32.lt_iff_toInt_lt, ← Int32.toInt_inj, iT0, iT1, iT2, iT3, iT4, iT5, iT6, iT7, iT8, iT9, iT10, iT11, iT12, iT13, iT14, iT15, iT16, iT19, iT20, iT31, iT32, iT42, iT64, iT200, iT318, iT319, iT1000, iTm1, iTm2] at c_16 | skip
    refine j_aload_n X dX11_cross_19 rfl 0 rfl ?_
    refine j_iload_n X dX11_cross_20 rfl 2 rfl ?_
    refine j_callV X dX11_cross_21 (c_X11_isShape l G q t n co 0 0 tx ty x2) gX11_cross_X11_isShape rfl hy_X11_isShape_V ⟨Nat.le_of_ble_eq_true rfl, Nat.le_of_ble_eq_true rfl⟩ 0 rfl rfl [0] rfl (by decide) rfl rfl (Nat.le_of_ble_eq_true rfl) ⟨Nat.le_of_ble_eq_true rfl, Nat.le_of_ble_eq_true rfl⟩ ?_
    rintro _ ⟨⟩ rfl
    change J p l e rm_X11_cross s m args below meth c Q G A 4 0 0 24 [(0, .ref (q 0)), (1, .int x1), (2, .int x2)] [.int (bI (0 ≤ x2.toInt ∧ x2.toInt < n.toInt)), .ref (q 0)] [(q 0, .inr (10, mF t n q co 0 0 tx ty)), (q 1, aZ G 200 fa), (q 2, aJ G 200 f1), (q 3, aJ G 200 f2), (q 4, aJ G 200 f3), (q 5, aJ G 200 f4), (q 6, aI G 200 fr), (q 7, aI G 200 to1), (q 10, aI G 320 (rg [z0, z1, z2, z3, z4, z5, z6, z7, z8, z9, z10, z11, z12, z13, z14, z15])), (q 11, aZ G 16 sf), (q 12, aI G 2 sig)]
    refine j_if_eq (tgt := 31) X dX11_cross_24 (by decide) (fun c_24 => ?_) (fun c_24 => ?_)
    · skip
      first | simp only [bI_0, Decidable.not_not, sg_mul, sg_e0, sg_l0, sg_g0, sg_le0, sg_ge0, cmp_eq, cmp_lt, cmp_ge, cmp_gt, cmp_le, lT0, lT1] at c_24 | simp only [Int32.le_iff_toInt_le, Int32.lt_iff_toInt_lt, ← Int32.toInt_inj, iT0, iT1, iT2, iT3, iT4, iT5, iT6, iT7, iT8, iT9, iT10, iT11, iT12, iT13, iT14, iT15, iT16, iT19, iT20, iT31, iT32, iT42, iT64, iT200, iT318, iT319, iT1000, iTm1, iTm2] at c_24 | skip
      exfalso; omega
    · skip
      first | simp only [bI_0, Decidable.not_not, sg_mul, sg_e0, sg_l0, sg_g0, sg_le0, sg_ge0, cmp_eq, cmp_lt, cmp_ge, cmp_gt, cmp_le, lT0, lT1] at c_24 | simp only [Int32.le_iff_toInt_le, Int32.lt_iff_toInt_lt, ← Int32.toInt_inj, iT0, iT1, iT2, iT3, iT4, iT5, iT6, iT7, iT8, iT9, iT10, iT11, iT12, iT13, iT14, iT15, iT16, iT19, iT20, iT31, iT32, iT42, iT64, iT200, iT318, iT319, iT1000, iTm1, iTm2] at c_24 | skip
      refine j_iconst (v := 0) X dX11_cross_27 rfl ?_
      refine j_goto (tgt := 32) X dX11_cross_28 (by decide) ?_
      refine j_put (ws' := [(q 0, .inr (10, mF 0 n q co 0 0 tx ty)), (q 1, aZ G 200 fa), (q 2, aJ G 200 f1), (q 3, aJ G 200 f2), (q 4, aJ G 200 f3), (q 5, aJ G 200 f4), (q 6, aI G 200 fr), (q 7, aI G 200 to1), (q 10, aI G 320 (rg [z0, z1, z2, z3, z4, z5, z6, z7, z8, z9, z10, z11, z12, z13, z14, z15])), (q 11, aZ G 16 sf), (q 12, aI G 2 sig)]) X dX11_cross_32 0 rfl 0 rfl in_X11_cross_X11 tyX11 tyX11_ok nmX11 (by decide) fl_X11_cross_48 rfl rfl rfl rfl (Nat.le_of_ble_eq_true rfl) rfl ?_
      refine j_aload_n X dX11_cross_35 rfl 0 rfl ?_
      refine j_get (v := .int 0) X dX11_cross_36 0 rfl 0 rfl in_X11_cross_X11 (by decide) fl_X11_cross_48 rfl ?_
      refine j_if_eq (tgt := 44) X dX11_cross_39 (by decide) (fun _ => ?_) (fun c9 => absurd c9 (by decide))
      subst hx1 hx2
      refine j_iconst (v := 1) X dX11_cross_44 rfl ?_
      refine j_istore_n (L' := [(3, .int 1), (0, .ref (q 0)), (1, .int (nI a)), (2, .int (nI b))]) X dX11_cross_45 rfl (by decide) rfl ?_
      refine j_aload_n X dX11_cross_46 rfl 1 rfl ?_
      refine j_get (v := .ref (q 1)) X dX11_cross_47 0 rfl 2 rfl in_X11_cross_X11 (by decide) fl_X11_cross_7 rfl ?_
      refine j_iload_n X dX11_cross_50 rfl 2 rfl ?_
      refine j_zald X dX11_cross_51 1 rfl a rfl ga (by decide) ?_
      refine j_if_eq (tgt := 74) X dX11_cross_52 (by decide) (fun c_52 => ?_) (fun c_52 => ?_)
      · skip
        exact absurd c_52 hA
      · skip
        refine j_aload_n X dX11_cross_55 rfl 1 rfl ?_
        refine j_get (v := .ref (q 1)) X dX11_cross_56 0 rfl 2 rfl in_X11_cross_X11 (by decide) fl_X11_cross_7 rfl ?_
        refine j_iload_n X dX11_cross_59 rfl 3 rfl ?_
        refine j_zald X dX11_cross_60 1 rfl b rfl gb (by decide) ?_
        refine j_if_eq (tgt := 74) X dX11_cross_61 (by decide) (fun c_61 => ?_) (fun c_61 => ?_)
        · skip
          refine j_aload_n X dX11_cross_74 rfl 1 rfl ?_
          refine j_get (v := .ref (q 1)) X dX11_cross_75 0 rfl 2 rfl in_X11_cross_X11 (by decide) fl_X11_cross_7 rfl ?_
          refine j_iload_n X dX11_cross_78 rfl 2 rfl ?_
          refine j_zald X dX11_cross_79 1 rfl a rfl ga (by decide) ?_
          refine j_if_eq (tgt := 92) X dX11_cross_80 (by decide) (fun c_80 => ?_) (fun c_80 => ?_)
          · skip
            exact absurd c_80 hA
          · skip
            refine j_aload_n X dX11_cross_83 rfl 1 rfl ?_
            refine j_iload_n X dX11_cross_84 rfl 3 rfl ?_
            refine j_iload_n X dX11_cross_85 rfl 2 rfl ?_
            refine j_callV X dX11_cross_86 (c_X11_crossArc l G q 0 n co 0 tx ty [z0, z1, z2, z3, z4, z5, z6, z7, z8, z9, z10, z11, z12, z13, z14, z15] rfl sf hS sig f1 f2 f3 f4 fr to1 b a bb gb bca hfa hta ga bra) gX11_cross_X11_crossArc rfl hy_X11_crossArc_V ⟨Nat.le_of_ble_eq_true rfl, Nat.le_of_ble_eq_true rfl⟩ 0 rfl rfl [0, 2, 3, 4, 5, 6, 7, 8, 9, 10] rfl (by decide) rfl rfl (Nat.le_of_ble_eq_true rfl) ⟨Nat.le_of_ble_eq_true rfl, Nat.le_of_ble_eq_true rfl⟩ ?_
            rintro _ ⟨po_1, sg_2, tz_3, tw_4, zs_5, sf_6⟩ ⟨rfl, hx9, hl9, hS9⟩
            change J p l e rm_X11_cross s m args below meth c Q G A 4 0 0 89 [(3, .int 1), (0, .ref (q 0)), (1, .int (nI a)), (2, .int (nI b))] [] [(q 0, .inr (10, mF 0 n q co 0 po_1 tz_3 tw_4)), (q 1, aZ G 200 fa), (q 2, aJ G 200 f1), (q 3, aJ G 200 f2), (q 4, aJ G 200 f3), (q 5, aJ G 200 f4), (q 6, aI G 200 fr), (q 7, aI G 200 to1), (q 10, aI G 320 (rg zs_5)), (q 11, aZ G 16 sf_6), (q 12, aI G 2 sg_2)]
            refine j_goto (tgt := 117) X dX11_cross_89 (by decide) ?_
            refine j_aload_n X dX11_cross_117 rfl 1 rfl ?_
            refine j_iload_n X dX11_cross_118 rfl 0 rfl ?_
            refine j_if_eq (tgt := 126) X dX11_cross_119 (by decide) (fun c9 => absurd c9 (by decide)) (fun _ => ?_)
            refine j_iconst (v := 0) X dX11_cross_122 rfl ?_
            refine j_goto (tgt := 127) X dX11_cross_123 (by decide) ?_
            refine j_put (ws' := [(q 0, .inr (10, mF 0 n q co 0 po_1 tz_3 tw_4)), (q 1, aZ G 200 fa), (q 2, aJ G 200 f1), (q 3, aJ G 200 f2), (q 4, aJ G 200 f3), (q 5, aJ G 200 f4), (q 6, aI G 200 fr), (q 7, aI G 200 to1), (q 10, aI G 320 (rg zs_5)), (q 11, aZ G 16 sf_6), (q 12, aI G 2 sg_2)]) X dX11_cross_127 0 rfl 0 rfl in_X11_cross_X11 tyX11 tyX11_ok nmX11 (by decide) fl_X11_cross_48 rfl rfl rfl rfl (Nat.le_of_ble_eq_true rfl) rfl ?_
            refine j_aload_n X dX11_cross_130 rfl 1 rfl ?_
            refine j_iload_n X dX11_cross_131 rfl 0 rfl ?_
            refine j_put (ws' := [(q 0, .inr (10, mF 0 n q co 1 po_1 tz_3 tw_4)), (q 1, aZ G 200 fa), (q 2, aJ G 200 f1), (q 3, aJ G 200 f2), (q 4, aJ G 200 f3), (q 5, aJ G 200 f4), (q 6, aI G 200 fr), (q 7, aI G 200 to1), (q 10, aI G 320 (rg zs_5)), (q 11, aZ G 16 sf_6), (q 12, aI G 2 sg_2)]) X dX11_cross_132 0 rfl 14 rfl in_X11_cross_X11 tyX11 tyX11_ok nmX11 (by decide) fl_X11_cross_196 rfl rfl rfl rfl (Nat.le_of_ble_eq_true rfl) rfl ?_
            refine j_iload_n X dX11_cross_135 rfl 0 rfl ?_
            refine j_if_eq (tgt := 146) X dX11_cross_136 (by decide) (fun c9 => absurd c9 (by decide)) (fun _ => ?_)
            refine j_aload_n X dX11_cross_139 rfl 1 rfl ?_
            refine j_get (v := .int po_1) X dX11_cross_140 0 rfl 15 rfl in_X11_cross_X11 (by decide) fl_X11_cross_173 rfl ?_
            refine j_goto (tgt := 147) X dX11_cross_143 (by decide) ?_
            exact E.2.1 147 _ po_1 (0, 1, po_1, sg_2, tz_3, tw_4, zs_5, sf_6) _ dX11_cross_147 (⟨_, rfl, Or.inr ⟨_, rfl, congrArg (fun w => some (Value.int w)) hx9.1, rfl, rfl, hx9, hl9, hS9⟩⟩) hr rfl
        · skip
          exact absurd hB c_61

set_option maxHeartbeats 4000000 in
set_option maxRecDepth 100000 in
theorem c_X11_cross_aa (l : Launch) (G : jG) (q : Nat → Nat) (t n co cr po : Int32) (tx ty : Int64) (zs : List Int) (hl : zs.length = 16) (sf : Nat → Int32) (hS : okS zs sf) (sig : Nat → Int32) (fa : Nat → Int32) (f1 f2 f3 f4 : Nat → Int64) (fr to1 : Nat → Int32) (x1 x2 : Int32) (a b : Nat) (hx1 : x1 = nI a) (hx2 : x2 = nI b) (hP : (0 ≤ x1.toInt ∧ x1.toInt < n.toInt) ∧ (0 ≤ x2.toInt ∧ x2.toInt < n.toInt)) (bca : inC (f1 a).toInt ∧ inC (f2 a).toInt) (hfa : 0 ≤ (fr a).toInt ∧ (fr a).toInt < 8) (hta : 0 ≤ (to1 a).toInt ∧ (to1 a).toInt < 8) (ga : a < 200) (bra : 1 ≤ (f3 a).toInt ∧ (f3 a).toInt ≤ 4611686018427387904) (bcb : inC (f1 b).toInt ∧ inC (f2 b).toInt) (hfb : 0 ≤ (fr b).toInt ∧ (fr b).toInt < 8) (htb : 0 ≤ (to1 b).toInt ∧ (to1 b).toInt < 8) (gb : b < 200) (brb : 1 ≤ (f3 b).toInt ∧ (f3 b).toInt ≤ 4611686018427387904) (hA : ¬ fa a = 0) (hB : ¬ fa b = 0) : Ct l yX11_cross wsX11_cross rm_X11_cross G [.ref (q 0), .int x1, .int x2] [(q 0, .inr (10, mF t n q co cr po tx ty)), (q 1, aZ G 200 fa), (q 2, aJ G 200 f1), (q 3, aJ G 200 f2), (q 4, aJ G 200 f3), (q 5, aJ G 200 f4), (q 6, aI G 200 fr), (q 7, aI G 200 to1), (q 10, aI G 320 (rg zs)), (q 11, aZ G 16 sf), (q 12, aI G 2 sig)] (S := Int32 × Int32 × Int32 × (Nat → Int32) × Int64 × Int64 × List Int × (Nat → Int32)) (fun r u => ∃ o, o = xaa (f1 a).toInt (f2 a).toInt (f1 b).toInt (f2 b).toInt (f3 a).toInt (f3 b).toInt (fr a).toInt (to1 a).toInt (fr b).toInt (to1 b).toInt ∧ ((o = none ∧ r = some (.int 0) ∧ u.1 = 2 ∧ u.2.1 = 0 ∧ u.2.2.1 = 0 ∧ u.2.2.2.2.2.2.1.length = 16 ∧ okS u.2.2.2.2.2.2.1 u.2.2.2.2.2.2.2) ∨ (∃ v, o = some v ∧ r = some (.int (nI v.1.length)) ∧ u.1 = 0 ∧ u.2.1 = 1 ∧ xG v u.2.2.1 u.2.2.2.1 u.2.2.2.2.1 u.2.2.2.2.2.1 u.2.2.2.2.2.2.1 ∧ u.2.2.2.2.2.2.1.length = 16 ∧ okS u.2.2.2.2.2.2.1 u.2.2.2.2.2.2.2))) (fun u => [(q 0, .inr (10, mF u.1 n q co u.2.1 u.2.2.1 u.2.2.2.2.1 u.2.2.2.2.2.1)), (q 1, aZ G 200 fa), (q 2, aJ G 200 f1), (q 3, aJ G 200 f2), (q 4, aJ G 200 f3), (q 5, aJ G 200 f4), (q 6, aI G 200 fr), (q 7, aI G 200 to1), (q 10, aI G 320 (rg u.2.2.2.2.2.2.1)), (q 11, aZ G 16 u.2.2.2.2.2.2.2), (q 12, aI G 2 u.2.2.2.1)]) (fun _ => []) := by
  refine c_intro (cc := cX11_cross) (maxL := 4) (ret := (some .int)) (by decide) rfl (Nat.le_of_ble_eq_true rfl) (fun _ => by simp only [List.map_cons, List.map_nil]) ?_
  intro p e s m args below meth c Q A X hr hin E
  change J p l e rm_X11_cross s m args below meth c Q G A 4 0 0 0 [(0, .ref (q 0)), (1, .int x1), (2, .int x2)] [] [(q 0, .inr (10, mF t n q co cr po tx ty)), (q 1, aZ G 200 fa), (q 2, aJ G 200 f1), (q 3, aJ G 200 f2), (q 4, aJ G 200 f3), (q 5, aJ G 200 f4), (q 6, aI G 200 fr), (q 7, aI G 200 to1), (q 10, aI G 320 (rg zs)), (q 11, aZ G 16 sf), (q 12, aI G 2 sig)]
  obtain ⟨z0, z1, z2, z3, z4, z5, z6, z7, z8, z9, z10, z11, z12, z13, z14, z15, rfl⟩ := l16 hl
  refine j_aload_n X dX11_cross_0 rfl 0 rfl ?_
  refine j_iconst (v := 0) X dX11_cross_1 rfl ?_
  refine j_put (ws' := [(q 0, .inr (10, mF t n q co 0 po tx ty)), (q 1, aZ G 200 fa), (q 2, aJ G 200 f1), (q 3, aJ G 200 f2), (q 4, aJ G 200 f3), (q 5, aJ G 200 f4), (q 6, aI G 200 fr), (q 7, aI G 200 to1), (q 10, aI G 320 (rg [z0, z1, z2, z3, z4, z5, z6, z7, z8, z9, z10, z11, z12, z13, z14, z15])), (q 11, aZ G 16 sf), (q 12, aI G 2 sig)]) X dX11_cross_2 0 rfl 14 rfl in_X11_cross_X11 tyX11 tyX11_ok nmX11 (by decide) fl_X11_cross_196 rfl rfl rfl rfl (Nat.le_of_ble_eq_true rfl) rfl ?_
  refine j_aload_n X dX11_cross_5 rfl 0 rfl ?_
  refine j_iconst (v := 0) X dX11_cross_6 rfl ?_
  refine j_put (ws' := [(q 0, .inr (10, mF t n q co 0 0 tx ty)), (q 1, aZ G 200 fa), (q 2, aJ G 200 f1), (q 3, aJ G 200 f2), (q 4, aJ G 200 f3), (q 5, aJ G 200 f4), (q 6, aI G 200 fr), (q 7, aI G 200 to1), (q 10, aI G 320 (rg [z0, z1, z2, z3, z4, z5, z6, z7, z8, z9, z10, z11, z12, z13, z14, z15])), (q 11, aZ G 16 sf), (q 12, aI G 2 sig)]) X dX11_cross_7 0 rfl 15 rfl in_X11_cross_X11 tyX11 tyX11_ok nmX11 (by decide) fl_X11_cross_173 rfl rfl rfl rfl (Nat.le_of_ble_eq_true rfl) rfl ?_
  refine j_aload_n X dX11_cross_10 rfl 0 rfl ?_
  refine j_aload_n X dX11_cross_11 rfl 0 rfl ?_
  refine j_iload_n X dX11_cross_12 rfl 1 rfl ?_
  refine j_callV X dX11_cross_13 (c_X11_isShape l G q t n co 0 0 tx ty x1) gX11_cross_X11_isShape rfl hy_X11_isShape_V ⟨Nat.le_of_ble_eq_true rfl, Nat.le_of_ble_eq_true rfl⟩ 0 rfl rfl [0] rfl (by decide) rfl rfl (Nat.le_of_ble_eq_true rfl) ⟨Nat.le_of_ble_eq_true rfl, Nat.le_of_ble_eq_true rfl⟩ ?_
  rintro _ ⟨⟩ rfl
  change J p l e rm_X11_cross s m args below meth c Q G A 4 0 0 16 [(0, .ref (q 0)), (1, .int x1), (2, .int x2)] [.int (bI (0 ≤ x1.toInt ∧ x1.toInt < n.toInt)), .ref (q 0)] [(q 0, .inr (10, mF t n q co 0 0 tx ty)), (q 1, aZ G 200 fa), (q 2, aJ G 200 f1), (q 3, aJ G 200 f2), (q 4, aJ G 200 f3), (q 5, aJ G 200 f4), (q 6, aI G 200 fr), (q 7, aI G 200 to1), (q 10, aI G 320 (rg [z0, z1, z2, z3, z4, z5, z6, z7, z8, z9, z10, z11, z12, z13, z14, z15])), (q 11, aZ G 16 sf), (q 12, aI G 2 sig)]
  refine j_if_eq (tgt := 31) X dX11_cross_16 (by decide) (fun c_16 => ?_) (fun c_16 => ?_)
  · skip
    first | simp only [bI_0, Decidable.not_not, sg_mul, sg_e0, sg_l0, sg_g0, sg_le0, sg_ge0, cmp_eq, cmp_lt, cmp_ge, cmp_gt, cmp_le, lT0, lT1] at c_16 | simp only [Int32.le_iff_toInt_le, Int32.lt_iff_toInt_lt, ← Int32.toInt_inj, iT0, iT1, iT2, iT3, iT4, iT5, iT6, iT7, iT8, iT9, iT10, iT11, iT12, iT13, iT14, iT15, iT16, iT19, iT20, iT31, iT32, iT42, iT64, iT200, iT318, iT319, iT1000, iTm1, iTm2] at c_16 | skip
    exfalso; omega
  · skip
    first | simp only [bI_0, Decidable.not_not, sg_mul, sg_e0, sg_l0, sg_g0, sg_le0, sg_ge0, cmp_eq, cmp_lt, cmp_ge, cmp_gt, cmp_le, lT0, lT1] at c_16 | simp only [Int32.le_iff_toInt_le, Int32.lt_iff_toInt_lt, ← Int32.toInt_inj, iT0, iT1, iT2, iT3, iT4, iT5, iT6, iT7, iT8, iT9, iT10, iT11, iT12, iT13, iT14, iT15, iT16, iT19, iT20, iT31, iT32, iT42, iT64, iT200, iT318, iT319, iT1000, iTm1, iTm2] at c_16 | skip
    refine j_aload_n X dX11_cross_19 rfl 0 rfl ?_
    refine j_iload_n X dX11_cross_20 rfl 2 rfl ?_
    refine j_callV X dX11_cross_21 (c_X11_isShape l G q t n co 0 0 tx ty x2) gX11_cross_X11_isShape rfl hy_X11_isShape_V ⟨Nat.le_of_ble_eq_true rfl, Nat.le_of_ble_eq_true rfl⟩ 0 rfl rfl [0] rfl (by decide) rfl rfl (Nat.le_of_ble_eq_true rfl) ⟨Nat.le_of_ble_eq_true rfl, Nat.le_of_ble_eq_true rfl⟩ ?_
    rintro _ ⟨⟩ rfl
    change J p l e rm_X11_cross s m args below meth c Q G A 4 0 0 24 [(0, .ref (q 0)), (1, .int x1), (2, .int x2)] [.int (bI (0 ≤ x2.toInt ∧ x2.toInt < n.toInt)), .ref (q 0)] [(q 0, .inr (10, mF t n q co 0 0 tx ty)), (q 1, aZ G 200 fa), (q 2, aJ G 200 f1), (q 3, aJ G 200 f2), (q 4, aJ G 200 f3), (q 5, aJ G 200 f4), (q 6, aI G 200 fr), (q 7, aI G 200 to1), (q 10, aI G 320 (rg [z0, z1, z2, z3, z4, z5, z6, z7, z8, z9, z10, z11, z12, z13, z14, z15])), (q 11, aZ G 16 sf), (q 12, aI G 2 sig)]
    refine j_if_eq (tgt := 31) X dX11_cross_24 (by decide) (fun c_24 => ?_) (fun c_24 => ?_)
    · skip
      first | simp only [bI_0, Decidable.not_not, sg_mul, sg_e0, sg_l0, sg_g0, sg_le0, sg_ge0, cmp_eq, cmp_lt, cmp_ge, cmp_gt, cmp_le, lT0, lT1] at c_24 | simp only [Int32.le_iff_toInt_le, Int32.lt_iff_toInt_lt, ← Int32.toInt_inj, iT0, iT1, iT2, iT3, iT4, iT5, iT6, iT7, iT8, iT9, iT10, iT11, iT12, iT13, iT14, iT15, iT16, iT19, iT20, iT31, iT32, iT42, iT64, iT200, iT318, iT319, iT1000, iTm1, iTm2] at c_24 | skip
      exfalso; omega
    · skip
      first | simp only [bI_0, Decidable.not_not, sg_mul, sg_e0, sg_l0, sg_g0, sg_le0, sg_ge0, cmp_eq, cmp_lt, cmp_ge, cmp_gt, cmp_le, lT0, lT1] at c_24 | simp only [Int32.le_iff_toInt_le, Int32.lt_iff_toInt_lt, ← Int32.toInt_inj, iT0, iT1, iT2, iT3, iT4, iT5, iT6, iT7, iT8, iT9, iT10, iT11, iT12, iT13, iT14, iT15, iT16, iT19, iT20, iT31, iT32, iT42, iT64, iT200, iT318, iT319, iT1000, iTm1, iTm2] at c_24 | skip
      refine j_iconst (v := 0) X dX11_cross_27 rfl ?_
      refine j_goto (tgt := 32) X dX11_cross_28 (by decide) ?_
      refine j_put (ws' := [(q 0, .inr (10, mF 0 n q co 0 0 tx ty)), (q 1, aZ G 200 fa), (q 2, aJ G 200 f1), (q 3, aJ G 200 f2), (q 4, aJ G 200 f3), (q 5, aJ G 200 f4), (q 6, aI G 200 fr), (q 7, aI G 200 to1), (q 10, aI G 320 (rg [z0, z1, z2, z3, z4, z5, z6, z7, z8, z9, z10, z11, z12, z13, z14, z15])), (q 11, aZ G 16 sf), (q 12, aI G 2 sig)]) X dX11_cross_32 0 rfl 0 rfl in_X11_cross_X11 tyX11 tyX11_ok nmX11 (by decide) fl_X11_cross_48 rfl rfl rfl rfl (Nat.le_of_ble_eq_true rfl) rfl ?_
      refine j_aload_n X dX11_cross_35 rfl 0 rfl ?_
      refine j_get (v := .int 0) X dX11_cross_36 0 rfl 0 rfl in_X11_cross_X11 (by decide) fl_X11_cross_48 rfl ?_
      refine j_if_eq (tgt := 44) X dX11_cross_39 (by decide) (fun _ => ?_) (fun c9 => absurd c9 (by decide))
      subst hx1 hx2
      refine j_iconst (v := 1) X dX11_cross_44 rfl ?_
      refine j_istore_n (L' := [(3, .int 1), (0, .ref (q 0)), (1, .int (nI a)), (2, .int (nI b))]) X dX11_cross_45 rfl (by decide) rfl ?_
      refine j_aload_n X dX11_cross_46 rfl 1 rfl ?_
      refine j_get (v := .ref (q 1)) X dX11_cross_47 0 rfl 2 rfl in_X11_cross_X11 (by decide) fl_X11_cross_7 rfl ?_
      refine j_iload_n X dX11_cross_50 rfl 2 rfl ?_
      refine j_zald X dX11_cross_51 1 rfl a rfl ga (by decide) ?_
      refine j_if_eq (tgt := 74) X dX11_cross_52 (by decide) (fun c_52 => ?_) (fun c_52 => ?_)
      · skip
        exact absurd c_52 hA
      · skip
        refine j_aload_n X dX11_cross_55 rfl 1 rfl ?_
        refine j_get (v := .ref (q 1)) X dX11_cross_56 0 rfl 2 rfl in_X11_cross_X11 (by decide) fl_X11_cross_7 rfl ?_
        refine j_iload_n X dX11_cross_59 rfl 3 rfl ?_
        refine j_zald X dX11_cross_60 1 rfl b rfl gb (by decide) ?_
        refine j_if_eq (tgt := 74) X dX11_cross_61 (by decide) (fun c_61 => ?_) (fun c_61 => ?_)
        · skip
          exact absurd c_61 hB
        · skip
          refine j_aload_n X dX11_cross_64 rfl 1 rfl ?_
          refine j_iload_n X dX11_cross_65 rfl 2 rfl ?_
          refine j_iload_n X dX11_cross_66 rfl 3 rfl ?_
          refine j_callV X dX11_cross_67 (c_X11_crossArcs l G q 0 n co 0 tx ty [z0, z1, z2, z3, z4, z5, z6, z7, z8, z9, z10, z11, z12, z13, z14, z15] rfl sf hS sig f1 f2 f3 f4 fr to1 a b bca hfa hta ga bra bcb hfb htb gb brb) gX11_cross_X11_crossArcs rfl hy_X11_crossArcs_V ⟨Nat.le_of_ble_eq_true rfl, Nat.le_of_ble_eq_true rfl⟩ 0 rfl rfl [0, 2, 3, 4, 5, 6, 7, 8, 9, 10] rfl (by decide) rfl rfl (Nat.le_of_ble_eq_true rfl) ⟨Nat.le_of_ble_eq_true rfl, Nat.le_of_ble_eq_true rfl⟩ ?_
          rintro rv9 ⟨po_1, sg_2, tz_3, tw_4, zs_5, sf_6⟩ hal
          rcases hal with ⟨ho, rfl, hpo, hl9, hS9⟩ | ⟨v9, ho, rfl, hx9, hl9, hS9⟩
          · skip
            change J p l e rm_X11_cross s m args below meth c Q G A 4 0 0 70 [(3, .int 1), (0, .ref (q 0)), (1, .int (nI a)), (2, .int (nI b))] [.int 0] [(q 0, .inr (10, mF 0 n q co 0 po_1 tz_3 tw_4)), (q 1, aZ G 200 fa), (q 2, aJ G 200 f1), (q 3, aJ G 200 f2), (q 4, aJ G 200 f3), (q 5, aJ G 200 f4), (q 6, aI G 200 fr), (q 7, aI G 200 to1), (q 10, aI G 320 (rg zs_5)), (q 11, aZ G 16 sf_6), (q 12, aI G 2 sg_2)]
            refine j_istore_n (L' := [(3, .int 0), (0, .ref (q 0)), (1, .int (nI a)), (2, .int (nI b))]) X dX11_cross_70 rfl (by decide) rfl ?_
            refine j_goto (tgt := 117) X dX11_cross_71 (by decide) ?_
            refine j_aload_n X dX11_cross_117 rfl 1 rfl ?_
            refine j_iload_n X dX11_cross_118 rfl 0 rfl ?_
            refine j_if_eq (tgt := 126) X dX11_cross_119 (by decide) (fun _ => ?_) (fun c9 => absurd c9 (by decide))
            refine j_iconst (v := 2) X dX11_cross_126 rfl ?_
            refine j_put (ws' := [(q 0, .inr (10, mF 2 n q co 0 po_1 tz_3 tw_4)), (q 1, aZ G 200 fa), (q 2, aJ G 200 f1), (q 3, aJ G 200 f2), (q 4, aJ G 200 f3), (q 5, aJ G 200 f4), (q 6, aI G 200 fr), (q 7, aI G 200 to1), (q 10, aI G 320 (rg zs_5)), (q 11, aZ G 16 sf_6), (q 12, aI G 2 sg_2)]) X dX11_cross_127 0 rfl 0 rfl in_X11_cross_X11 tyX11 tyX11_ok nmX11 (by decide) fl_X11_cross_48 rfl rfl rfl rfl (Nat.le_of_ble_eq_true rfl) rfl ?_
            refine j_aload_n X dX11_cross_130 rfl 1 rfl ?_
            refine j_iload_n X dX11_cross_131 rfl 0 rfl ?_
            refine j_put (ws' := [(q 0, .inr (10, mF 2 n q co 0 po_1 tz_3 tw_4)), (q 1, aZ G 200 fa), (q 2, aJ G 200 f1), (q 3, aJ G 200 f2), (q 4, aJ G 200 f3), (q 5, aJ G 200 f4), (q 6, aI G 200 fr), (q 7, aI G 200 to1), (q 10, aI G 320 (rg zs_5)), (q 11, aZ G 16 sf_6), (q 12, aI G 2 sg_2)]) X dX11_cross_132 0 rfl 14 rfl in_X11_cross_X11 tyX11 tyX11_ok nmX11 (by decide) fl_X11_cross_196 rfl rfl rfl rfl (Nat.le_of_ble_eq_true rfl) rfl ?_
            refine j_iload_n X dX11_cross_135 rfl 0 rfl ?_
            refine j_if_eq (tgt := 146) X dX11_cross_136 (by decide) (fun _ => ?_) (fun c9 => absurd c9 (by decide))
            refine j_iconst (v := 0) X dX11_cross_146 rfl ?_
            exact E.2.1 147 _ 0 (2, 0, po_1, sg_2, tz_3, tw_4, zs_5, sf_6) _ dX11_cross_147 (⟨_, rfl, Or.inl ⟨ho, rfl, rfl, rfl, hpo, hl9, hS9⟩⟩) hr rfl
          · skip
            change J p l e rm_X11_cross s m args below meth c Q G A 4 0 0 70 [(3, .int 1), (0, .ref (q 0)), (1, .int (nI a)), (2, .int (nI b))] [.int 1] [(q 0, .inr (10, mF 0 n q co 0 po_1 tz_3 tw_4)), (q 1, aZ G 200 fa), (q 2, aJ G 200 f1), (q 3, aJ G 200 f2), (q 4, aJ G 200 f3), (q 5, aJ G 200 f4), (q 6, aI G 200 fr), (q 7, aI G 200 to1), (q 10, aI G 320 (rg zs_5)), (q 11, aZ G 16 sf_6), (q 12, aI G 2 sg_2)]
            refine j_istore_n (L' := [(3, .int 1), (0, .ref (q 0)), (1, .int (nI a)), (2, .int (nI b))]) X dX11_cross_70 rfl (by decide) rfl ?_
            refine j_goto (tgt := 117) X dX11_cross_71 (by decide) ?_
            refine j_aload_n X dX11_cross_117 rfl 1 rfl ?_
            refine j_iload_n X dX11_cross_118 rfl 0 rfl ?_
            refine j_if_eq (tgt := 126) X dX11_cross_119 (by decide) (fun c9 => absurd c9 (by decide)) (fun _ => ?_)
            refine j_iconst (v := 0) X dX11_cross_122 rfl ?_
            refine j_goto (tgt := 127) X dX11_cross_123 (by decide) ?_
            refine j_put (ws' := [(q 0, .inr (10, mF 0 n q co 0 po_1 tz_3 tw_4)), (q 1, aZ G 200 fa), (q 2, aJ G 200 f1), (q 3, aJ G 200 f2), (q 4, aJ G 200 f3), (q 5, aJ G 200 f4), (q 6, aI G 200 fr), (q 7, aI G 200 to1), (q 10, aI G 320 (rg zs_5)), (q 11, aZ G 16 sf_6), (q 12, aI G 2 sg_2)]) X dX11_cross_127 0 rfl 0 rfl in_X11_cross_X11 tyX11 tyX11_ok nmX11 (by decide) fl_X11_cross_48 rfl rfl rfl rfl (Nat.le_of_ble_eq_true rfl) rfl ?_
            refine j_aload_n X dX11_cross_130 rfl 1 rfl ?_
            refine j_iload_n X dX11_cross_131 rfl 0 rfl ?_
            refine j_put (ws' := [(q 0, .inr (10, mF 0 n q co 1 po_1 tz_3 tw_4)), (q 1, aZ G 200 fa), (q 2, aJ G 200 f1), (q 3, aJ G 200 f2), (q 4, aJ G 200 f3), (q 5, aJ G 200 f4), (q 6, aI G 200 fr), (q 7, aI G 200 to1), (q 10, aI G 320 (rg zs_5)), (q 11, aZ G 16 sf_6), (q 12, aI G 2 sg_2)]) X dX11_cross_132 0 rfl 14 rfl in_X11_cross_X11 tyX11 tyX11_ok nmX11 (by decide) fl_X11_cross_196 rfl rfl rfl rfl (Nat.le_of_ble_eq_true rfl) rfl ?_
            refine j_iload_n X dX11_cross_135 rfl 0 rfl ?_
            refine j_if_eq (tgt := 146) X dX11_cross_136 (by decide) (fun c9 => absurd c9 (by decide)) (fun _ => ?_)
            refine j_aload_n X dX11_cross_139 rfl 1 rfl ?_
            refine j_get (v := .int po_1) X dX11_cross_140 0 rfl 15 rfl in_X11_cross_X11 (by decide) fl_X11_cross_173 rfl ?_
            refine j_goto (tgt := 147) X dX11_cross_143 (by decide) ?_
            exact E.2.1 147 _ po_1 (0, 1, po_1, sg_2, tz_3, tw_4, zs_5, sf_6) _ dX11_cross_147 (⟨_, rfl, Or.inr ⟨v9, ho, congrArg (fun w => some (Value.int w)) hx9.1, rfl, rfl, hx9, hl9, hS9⟩⟩) hr rfl

