abbrev rm_X11_compare : Room := { frames := 2, cells := 0, slots := 0, locals := 56 }
theorem in_X11_compare_X11 : ∀ w ∈ u_ws RX11 TX11 19, w ∈ wsX11_compare := by decide +kernel
theorem fl_X11_compare_48 : Cond.fieldLink RX11 48 (TX11 0).1 (TX11 0).2.1 (TX11 0).2.2.1 ∈ wsX11_compare := by decide +kernel
set_option maxHeartbeats 4000000 in
set_option maxRecDepth 100000 in
theorem c_X11_compare_no (l : Launch) (G : jG) (q : Nat → Nat) (t n co cr po : Int32) (tx ty : Int64) (xa xb xc xd : Int64) (hP : xc.toInt < 0) : Ct l yX11_compare wsX11_compare rm_X11_compare G [.ref (q 0), .long xa, .long xb, .long xc, .long xd] [(q 0, .inr (10, mF t n q co cr po tx ty))] (S := Unit) (fun r _ => r = some (.int 0)) (fun _ => [(q 0, .inr (10, mF 1 n q co cr po tx ty))]) (fun _ => []) := by
  refine c_intro (cc := cX11_compare) (maxL := 9) (ret := (some .int)) (by decide) rfl (Nat.le_of_ble_eq_true rfl) (fun _ => by simp only [List.map_cons, List.map_nil]) ?_
  intro p e s m args below meth c Q A X hr hin E
  change J p l e rm_X11_compare s m args below meth c Q G A 9 0 0 0 [(0, .ref (q 0)), (1, .long xa), (3, .long xb), (5, .long xc), (7, .long xd)] [] [(q 0, .inr (10, mF t n q co cr po tx ty))]
  refine j_aload_n X dX11_compare_0 rfl 0 rfl ?_
  refine j_lload X dX11_compare_1 3 rfl ?_
  refine j_lconst (v := 0) X dX11_compare_3 rfl ?_
  refine j_lcmp X dX11_compare_4 ?_
  refine j_if_ge (tgt := 12) X dX11_compare_5 (by decide) (fun c_5 => ?_) (fun c_5 => ?_)
  · skip
    first | simp only [bI_0, Decidable.not_not, sg_mul, sg_e0, sg_l0, sg_g0, sg_le0, sg_ge0, cmp_eq, cmp_lt, cmp_ge, cmp_gt, cmp_le, lT0, lT1] at c_5 | simp only [Int32.le_iff_toInt_le, Int32.lt_iff_toInt_lt, ← Int32.toInt_inj, iT0, iT1, iT2, iT3, iT4, iT5, iT6, iT7, iT8, iT9, iT10, iT11, iT12, iT13, iT14, iT15, iT16, iT19, iT20, iT31, iT32, iT42, iT64, iT200, iT318, iT319, iT1000, iTm1, iTm2] at c_5 | skip
    exfalso; omega
  · skip
    first | simp only [bI_0, Decidable.not_not, sg_mul, sg_e0, sg_l0, sg_g0, sg_le0, sg_ge0, cmp_eq, cmp_lt, cmp_ge, cmp_gt, cmp_le, lT0, lT1] at c_5 | simp only [Int32.le_iff_toInt_le, Int32.lt_iff_toInt_lt, ← Int32.toInt_inj, iT0, iT1, iT2, iT3, iT4, iT5, iT6, iT7, iT8, iT9, iT10, iT11, iT12, iT13, iT14, iT15, iT16, iT19, iT20, iT31, iT32, iT42, iT64, iT200, iT318, iT319, iT1000, iTm1, iTm2] at c_5 | skip
    refine j_iconst (v := 1) X dX11_compare_8 rfl ?_
    refine j_goto (tgt := 13) X dX11_compare_9 (by decide) ?_
    refine j_put (ws' := [(q 0, .inr (10, mF 1 n q co cr po tx ty))]) X dX11_compare_13 0 rfl 0 rfl in_X11_compare_X11 tyX11 tyX11_ok nmX11 (by decide) fl_X11_compare_48 rfl rfl rfl rfl (Nat.le_of_ble_eq_true rfl) rfl ?_
    refine j_aload_n X dX11_compare_16 rfl 0 rfl ?_
    refine j_get (v := .int 1) X dX11_compare_17 0 rfl 0 rfl in_X11_compare_X11 (by decide) fl_X11_compare_48 rfl ?_
    refine j_if_eq (tgt := 25) X dX11_compare_20 (by decide) (fun c9 => absurd c9 (by decide)) (fun _ => ?_)
    refine j_iconst (v := 0) X dX11_compare_23 rfl ?_
    exact E.2.1 24 _ 0 () _ dX11_compare_24 rfl hr rfl

theorem hy_X11_compare_V : yX11_compare.cls = RX11 ∧ yX11_compare.cls ≠ "java/lang/invoke/MethodHandle" ∧ yX11_compare.cls ≠ "java/lang/invoke/VarHandle" ∧ (parseMethodDescriptor yX11_compare.desc).map (fun d => d.parameters.length) = some 4 := by decide +kernel
set_option maxHeartbeats 4000000 in
set_option maxRecDepth 100000 in
theorem c_X11_compare_ok (l : Launch) (G : jG) (q : Nat → Nat) (t n co cr po : Int32) (tx ty : Int64) (zs : List Int) (hl : zs.length = 16) (sf : Nat → Int32) (hS : okS zs sf) (xa xb xc xd : Int64) (hP : 0 ≤ xc.toInt) : Ct l yX11_compare wsX11_compare rm_X11_compare G [.ref (q 0), .long xa, .long xb, .long xc, .long xd] [(q 0, .inr (10, mF t n q co cr po tx ty)), (q 10, aI G 320 (rg zs)), (q 11, aZ G 16 sf)] (S := List Int × (Nat → Int32)) (fun r u => r = some (.int (rn (xa.toInt - xd.toInt) xb.toInt xc.toInt)) ∧ kp zs u.1 ∧ okS u.1 u.2) (fun u => [(q 0, .inr (10, mF 0 n q co cr po tx ty)), (q 10, aI G 320 (rg u.1)), (q 11, aZ G 16 u.2)]) (fun _ => []) := by
  refine c_intro (cc := cX11_compare) (maxL := 9) (ret := (some .int)) (by decide) rfl (Nat.le_of_ble_eq_true rfl) (fun _ => by simp only [List.map_cons, List.map_nil]) ?_
  intro p e s m args below meth c Q A X hr hin E
  change J p l e rm_X11_compare s m args below meth c Q G A 9 0 0 0 [(0, .ref (q 0)), (1, .long xa), (3, .long xb), (5, .long xc), (7, .long xd)] [] [(q 0, .inr (10, mF t n q co cr po tx ty)), (q 10, aI G 320 (rg zs)), (q 11, aZ G 16 sf)]
  obtain ⟨z0, z1, z2, z3, z4, z5, z6, z7, z8, z9, z10, z11, z12, z13, z14, z15, rfl⟩ := l16 hl
  refine j_aload_n X dX11_compare_0 rfl 0 rfl ?_
  refine j_lload X dX11_compare_1 3 rfl ?_
  refine j_lconst (v := 0) X dX11_compare_3 rfl ?_
  refine j_lcmp X dX11_compare_4 ?_
  refine j_if_ge (tgt := 12) X dX11_compare_5 (by decide) (fun c_5 => ?_) (fun c_5 => ?_)
  · skip
    first | simp only [bI_0, Decidable.not_not, sg_mul, sg_e0, sg_l0, sg_g0, sg_le0, sg_ge0, cmp_eq, cmp_lt, cmp_ge, cmp_gt, cmp_le, lT0, lT1] at c_5 | simp only [Int32.le_iff_toInt_le, Int32.lt_iff_toInt_lt, ← Int32.toInt_inj, iT0, iT1, iT2, iT3, iT4, iT5, iT6, iT7, iT8, iT9, iT10, iT11, iT12, iT13, iT14, iT15, iT16, iT19, iT20, iT31, iT32, iT42, iT64, iT200, iT318, iT319, iT1000, iTm1, iTm2] at c_5 | skip
    refine j_iconst (v := 0) X dX11_compare_12 rfl ?_
    refine j_put (ws' := [(q 0, .inr (10, mF 0 n q co cr po tx ty)), (q 10, aI G 320 (rg [z0, z1, z2, z3, z4, z5, z6, z7, z8, z9, z10, z11, z12, z13, z14, z15])), (q 11, aZ G 16 sf)]) X dX11_compare_13 0 rfl 0 rfl in_X11_compare_X11 tyX11 tyX11_ok nmX11 (by decide) fl_X11_compare_48 rfl rfl rfl rfl (Nat.le_of_ble_eq_true rfl) rfl ?_
    refine j_aload_n X dX11_compare_16 rfl 0 rfl ?_
    refine j_get (v := .int 0) X dX11_compare_17 0 rfl 0 rfl in_X11_compare_X11 (by decide) fl_X11_compare_48 rfl ?_
    refine j_if_eq (tgt := 25) X dX11_compare_20 (by decide) (fun _ => ?_) (fun c9 => absurd c9 (by decide))
    refine j_aload_n X dX11_compare_25 rfl 0 rfl ?_
    refine j_iconst (v := 4) X dX11_compare_26 rfl ?_
    refine j_lload_n X dX11_compare_27 rfl 1 rfl ?_
    obtain ⟨y_1, ey_1⟩ : ∃ zz9 : Int, zz9 = xa.toInt := ⟨_, rfl⟩
    have by_1 : bd 63 y_1 := by rw [ey_1]; exact (bd_l xa)
    refine j_callV X dX11_compare_28 (n_load l G q 0 n co cr po tx ty [z0, z1, z2, z3, z4, z5, z6, z7, z8, z9, z10, z11, z12, z13, z14, z15] sf rfl hS 4 4 rfl (by decide) xa y_1 ey_1) gX11_compare_X11_load rfl hy_X11_load_V ⟨Nat.le_of_ble_eq_true rfl, Nat.le_of_ble_eq_true rfl⟩ 0 rfl rfl [0, 1, 2] rfl (by decide) rfl rfl (Nat.le_of_ble_eq_true rfl) ⟨Nat.le_of_ble_eq_true rfl, Nat.le_of_ble_eq_true rfl⟩ ?_
    rintro _ sf_2 ⟨rfl, hS_sf_2⟩
    change J p l e rm_X11_compare s m args below meth c Q G A 9 0 0 31 [(0, .ref (q 0)), (1, .long xa), (3, .long xb), (5, .long xc), (7, .long xd)] [] [(q 0, .inr (10, mF 0 n q co cr po tx ty)), (q 10, aI G 320 (rg [z0, z1, z2, z3, y_1, z5, z6, z7, z8, z9, z10, z11, z12, z13, z14, z15])), (q 11, aZ G 16 sf_2)]
    refine j_aload_n X dX11_compare_31 rfl 0 rfl ?_
    refine j_iconst (v := 5) X dX11_compare_32 rfl ?_
    refine j_lload X dX11_compare_33 4 rfl ?_
    obtain ⟨y_3, ey_3⟩ : ∃ zz9 : Int, zz9 = xd.toInt := ⟨_, rfl⟩
    have by_3 : bd 63 y_3 := by rw [ey_3]; exact (bd_l xd)
    refine j_callV X dX11_compare_35 (n_load l G q 0 n co cr po tx ty [z0, z1, z2, z3, y_1, z5, z6, z7, z8, z9, z10, z11, z12, z13, z14, z15] sf_2 rfl hS_sf_2 5 5 rfl (by decide) xd y_3 ey_3) gX11_compare_X11_load rfl hy_X11_load_V ⟨Nat.le_of_ble_eq_true rfl, Nat.le_of_ble_eq_true rfl⟩ 0 rfl rfl [0, 1, 2] rfl (by decide) rfl rfl (Nat.le_of_ble_eq_true rfl) ⟨Nat.le_of_ble_eq_true rfl, Nat.le_of_ble_eq_true rfl⟩ ?_
    rintro _ sf_4 ⟨rfl, hS_sf_4⟩
    change J p l e rm_X11_compare s m args below meth c Q G A 9 0 0 38 [(0, .ref (q 0)), (1, .long xa), (3, .long xb), (5, .long xc), (7, .long xd)] [] [(q 0, .inr (10, mF 0 n q co cr po tx ty)), (q 10, aI G 320 (rg [z0, z1, z2, z3, y_1, y_3, z6, z7, z8, z9, z10, z11, z12, z13, z14, z15])), (q 11, aZ G 16 sf_4)]
    refine j_aload_n X dX11_compare_38 rfl 0 rfl ?_
    refine j_bipush (v := 6) X dX11_compare_39 (by decide) ?_
    refine j_iconst (v := 4) X dX11_compare_41 rfl ?_
    refine j_iconst (v := 5) X dX11_compare_42 rfl ?_
    refine j_iconst (v := 1) X dX11_compare_43 rfl ?_
    obtain ⟨y_5, ey_5⟩ : ∃ zz9 : Int, zz9 = y_1 - y_3 := ⟨_, rfl⟩
    have by_5 : bd 64 y_5 := by rw [ey_5]; exact bd_sub (bd_mono by_1 (by decide)) (bd_mono by_3 (by decide))
    refine j_callV X dX11_compare_44 (n_join l G q 0 n co cr po tx ty [z0, z1, z2, z3, y_1, y_3, z6, z7, z8, z9, z10, z11, z12, z13, z14, z15] sf_4 rfl hS_sf_4 6 6 rfl (by decide) 4 4 rfl (by decide) 5 5 rfl (by decide) 1 (Or.inr rfl) (by decide) (by decide) y_5 ey_5 by_1 by_3 (by decide) (by decide)) gX11_compare_X11_join rfl hy_X11_join_V ⟨Nat.le_of_ble_eq_true rfl, Nat.le_of_ble_eq_true rfl⟩ 0 rfl rfl [0, 1, 2] rfl (by decide) rfl rfl (Nat.le_of_ble_eq_true rfl) ⟨Nat.le_of_ble_eq_true rfl, Nat.le_of_ble_eq_true rfl⟩ ?_
    rintro _ sf_6 ⟨rfl, hS_sf_6⟩
    change J p l e rm_X11_compare s m args below meth c Q G A 9 0 0 47 [(0, .ref (q 0)), (1, .long xa), (3, .long xb), (5, .long xc), (7, .long xd)] [] [(q 0, .inr (10, mF 0 n q co cr po tx ty)), (q 10, aI G 320 (rg [z0, z1, z2, z3, y_1, y_3, y_5, z7, z8, z9, z10, z11, z12, z13, z14, z15])), (q 11, aZ G 16 sf_6)]
    refine j_aload_n X dX11_compare_47 rfl 0 rfl ?_
    refine j_bipush (v := 7) X dX11_compare_48 (by decide) ?_
    refine j_lload X dX11_compare_50 3 rfl ?_
    obtain ⟨y_7, ey_7⟩ : ∃ zz9 : Int, zz9 = xc.toInt := ⟨_, rfl⟩
    have by_7 : bd 63 y_7 := by rw [ey_7]; exact (bd_l xc)
    refine j_callV X dX11_compare_52 (n_load l G q 0 n co cr po tx ty [z0, z1, z2, z3, y_1, y_3, y_5, z7, z8, z9, z10, z11, z12, z13, z14, z15] sf_6 rfl hS_sf_6 7 7 rfl (by decide) xc y_7 ey_7) gX11_compare_X11_load rfl hy_X11_load_V ⟨Nat.le_of_ble_eq_true rfl, Nat.le_of_ble_eq_true rfl⟩ 0 rfl rfl [0, 1, 2] rfl (by decide) rfl rfl (Nat.le_of_ble_eq_true rfl) ⟨Nat.le_of_ble_eq_true rfl, Nat.le_of_ble_eq_true rfl⟩ ?_
    rintro _ sf_8 ⟨rfl, hS_sf_8⟩
    change J p l e rm_X11_compare s m args below meth c Q G A 9 0 0 55 [(0, .ref (q 0)), (1, .long xa), (3, .long xb), (5, .long xc), (7, .long xd)] [] [(q 0, .inr (10, mF 0 n q co cr po tx ty)), (q 10, aI G 320 (rg [z0, z1, z2, z3, y_1, y_3, y_5, y_7, z8, z9, z10, z11, z12, z13, z14, z15])), (q 11, aZ G 16 sf_8)]
    refine j_aload_n X dX11_compare_55 rfl 0 rfl ?_
    refine j_bipush (v := 6) X dX11_compare_56 (by decide) ?_
    refine j_lload_n X dX11_compare_58 rfl 2 rfl ?_
    refine j_bipush (v := 7) X dX11_compare_59 (by decide) ?_
    refine j_callV X dX11_compare_61 (c_X11_signOf_6_7 l G q 0 n co cr po tx ty z0 z1 z2 z3 y_1 y_3 y_5 y_7 z8 z9 z10 z11 z12 z13 z14 z15 sf_8 hS_sf_8 xb (show 0 ≤ y_7 by rw [ey_7]; exact hP) (bd_mono by_5 (by decide)) (bd_mono (bd_l xb) (by decide)) (bd_mono by_7 (by decide))) gX11_compare_X11_signOf rfl hy_X11_signOf_V ⟨Nat.le_of_ble_eq_true rfl, Nat.le_of_ble_eq_true rfl⟩ 0 rfl rfl [0, 1, 2] rfl (by decide) rfl rfl (Nat.le_of_ble_eq_true rfl) ⟨Nat.le_of_ble_eq_true rfl, Nat.le_of_ble_eq_true rfl⟩ ?_
    rintro _ ⟨y_10, y_11, y_12, y_13, sf_9⟩ ⟨rfl, hS_sf_9⟩
    dsimp only at hS_sf_9
    change J p l e rm_X11_compare s m args below meth c Q G A 9 0 0 64 [(0, .ref (q 0)), (1, .long xa), (3, .long xb), (5, .long xc), (7, .long xd)] [.int (rn y_5 xb.toInt y_7)] [(q 0, .inr (10, mF 0 n q co cr po tx ty)), (q 10, aI G 320 (rg [z0, z1, z2, z3, y_1, y_3, y_5, y_7, z8, z9, y_10, y_11, z12, y_12, z14, y_13])), (q 11, aZ G 16 sf_9)]
    exact E.2.1 64 _ (rn y_5 xb.toInt y_7) ([z0, z1, z2, z3, y_1, y_3, y_5, y_7, z8, z9, y_10, y_11, z12, y_12, z14, y_13], sf_9) _ dX11_compare_64 (⟨by rw [ey_5, ey_1, ey_3, ey_7], kp_i, hS_sf_9⟩) hr rfl
  · skip
    first | simp only [bI_0, Decidable.not_not, sg_mul, sg_e0, sg_l0, sg_g0, sg_le0, sg_ge0, cmp_eq, cmp_lt, cmp_ge, cmp_gt, cmp_le, lT0, lT1] at c_5 | simp only [Int32.le_iff_toInt_le, Int32.lt_iff_toInt_lt, ← Int32.toInt_inj, iT0, iT1, iT2, iT3, iT4, iT5, iT6, iT7, iT8, iT9, iT10, iT11, iT12, iT13, iT14, iT15, iT16, iT19, iT20, iT31, iT32, iT42, iT64, iT200, iT318, iT319, iT1000, iTm1, iTm2] at c_5 | skip
    exfalso; omega

abbrev rm_X11_root : Room := { frames := 2, cells := 0, slots := 0, locals := 50 }
theorem in_X11_root_X11 : ∀ w ∈ u_ws RX11 TX11 19, w ∈ wsX11_root := by decide +kernel
theorem fl_X11_root_48 : Cond.fieldLink RX11 48 (TX11 0).1 (TX11 0).2.1 (TX11 0).2.2.1 ∈ wsX11_root := by decide +kernel
set_option maxHeartbeats 4000000 in
set_option maxRecDepth 100000 in
theorem c_X11_root_1 (l : Launch) (G : jG) (q : Nat → Nat) (t n co cr po : Int32) (tx ty : Int64) (v : Int64) (how : Int32) (hP : ¬ (0 ≤ how.toInt ∧ how.toInt ≤ 2)) : Ct l yX11_root wsX11_root rm_X11_root G [.ref (q 0), .long v, .int how] [(q 0, .inr (10, mF t n q co cr po tx ty))] (S := Unit) (fun r _ => r = some (.long 0)) (fun _ => [(q 0, .inr (10, mF 1 n q co cr po tx ty))]) (fun _ => []) := by
  refine c_intro (cc := cX11_root) (maxL := 8) (ret := (some .long)) (by decide) rfl (Nat.le_of_ble_eq_true rfl) (fun _ => by simp only [List.map_cons, List.map_nil]) ?_
  intro p e s m args below meth c Q A X hr hin E
  change J p l e rm_X11_root s m args below meth c Q G A 8 0 0 0 [(0, .ref (q 0)), (1, .long v), (3, .int how)] [] [(q 0, .inr (10, mF t n q co cr po tx ty))]
  refine j_aload_n X dX11_root_0 rfl 0 rfl ?_
  refine j_iload_n X dX11_root_1 rfl 2 rfl ?_
  refine j_if_lt (tgt := 10) X dX11_root_2 (by decide) (fun c_2 => ?_) (fun c_2 => ?_)
  · skip
    first | simp only [bI_0, Decidable.not_not, sg_mul, sg_e0, sg_l0, sg_g0, sg_le0, sg_ge0, cmp_eq, cmp_lt, cmp_ge, cmp_gt, cmp_le, lT0, lT1] at c_2 | simp only [Int32.le_iff_toInt_le, Int32.lt_iff_toInt_lt, ← Int32.toInt_inj, iT0, iT1, iT2, iT3, iT4, iT5, iT6, iT7, iT8, iT9, iT10, iT11, iT12, iT13, iT14, iT15, iT16, iT19, iT20, iT31, iT32, iT42, iT64, iT200, iT318, iT319, iT1000, iTm1, iTm2] at c_2 | skip
    refine j_iconst (v := 1) X dX11_root_10 rfl ?_
    refine j_goto (tgt := 25) X dX11_root_11 (by decide) ?_
    refine j_put (ws' := [(q 0, .inr (10, mF 1 n q co cr po tx ty))]) X dX11_root_25 0 rfl 0 rfl in_X11_root_X11 tyX11 tyX11_ok nmX11 (by decide) fl_X11_root_48 rfl rfl rfl rfl (Nat.le_of_ble_eq_true rfl) rfl ?_
    refine j_aload_n X dX11_root_28 rfl 0 rfl ?_
    refine j_get (v := .int 1) X dX11_root_29 0 rfl 0 rfl in_X11_root_X11 (by decide) fl_X11_root_48 rfl ?_
    refine j_if_eq (tgt := 37) X dX11_root_32 (by decide) (fun c9 => absurd c9 (by decide)) (fun _ => ?_)
    refine j_lconst (v := 0) X dX11_root_35 rfl ?_
    exact E.2.2 36 _ 0 () dX11_root_36 rfl hr
  · skip
    first | simp only [bI_0, Decidable.not_not, sg_mul, sg_e0, sg_l0, sg_g0, sg_le0, sg_ge0, cmp_eq, cmp_lt, cmp_ge, cmp_gt, cmp_le, lT0, lT1] at c_2 | simp only [Int32.le_iff_toInt_le, Int32.lt_iff_toInt_lt, ← Int32.toInt_inj, iT0, iT1, iT2, iT3, iT4, iT5, iT6, iT7, iT8, iT9, iT10, iT11, iT12, iT13, iT14, iT15, iT16, iT19, iT20, iT31, iT32, iT42, iT64, iT200, iT318, iT319, iT1000, iTm1, iTm2] at c_2 | skip
    refine j_iload_n X dX11_root_5 rfl 2 rfl ?_
    refine j_iconst (v := 2) X dX11_root_6 rfl ?_
    refine j_icmp_le (tgt := 14) X dX11_root_7 (by decide) (fun c_7 => ?_) (fun c_7 => ?_)
    · skip
      first | simp only [bI_0, Decidable.not_not, sg_mul, sg_e0, sg_l0, sg_g0, sg_le0, sg_ge0, cmp_eq, cmp_lt, cmp_ge, cmp_gt, cmp_le, lT0, lT1] at c_7 | simp only [Int32.le_iff_toInt_le, Int32.lt_iff_toInt_lt, ← Int32.toInt_inj, iT0, iT1, iT2, iT3, iT4, iT5, iT6, iT7, iT8, iT9, iT10, iT11, iT12, iT13, iT14, iT15, iT16, iT19, iT20, iT31, iT32, iT42, iT64, iT200, iT318, iT319, iT1000, iTm1, iTm2] at c_7 | skip
      exfalso; omega
    · skip
      first | simp only [bI_0, Decidable.not_not, sg_mul, sg_e0, sg_l0, sg_g0, sg_le0, sg_ge0, cmp_eq, cmp_lt, cmp_ge, cmp_gt, cmp_le, lT0, lT1] at c_7 | simp only [Int32.le_iff_toInt_le, Int32.lt_iff_toInt_lt, ← Int32.toInt_inj, iT0, iT1, iT2, iT3, iT4, iT5, iT6, iT7, iT8, iT9, iT10, iT11, iT12, iT13, iT14, iT15, iT16, iT19, iT20, iT31, iT32, iT42, iT64, iT200, iT318, iT319, iT1000, iTm1, iTm2] at c_7 | skip
      refine j_iconst (v := 1) X dX11_root_10 rfl ?_
      refine j_goto (tgt := 25) X dX11_root_11 (by decide) ?_
      refine j_put (ws' := [(q 0, .inr (10, mF 1 n q co cr po tx ty))]) X dX11_root_25 0 rfl 0 rfl in_X11_root_X11 tyX11 tyX11_ok nmX11 (by decide) fl_X11_root_48 rfl rfl rfl rfl (Nat.le_of_ble_eq_true rfl) rfl ?_
      refine j_aload_n X dX11_root_28 rfl 0 rfl ?_
      refine j_get (v := .int 1) X dX11_root_29 0 rfl 0 rfl in_X11_root_X11 (by decide) fl_X11_root_48 rfl ?_
      refine j_if_eq (tgt := 37) X dX11_root_32 (by decide) (fun c9 => absurd c9 (by decide)) (fun _ => ?_)
      refine j_lconst (v := 0) X dX11_root_35 rfl ?_
      exact E.2.2 36 _ 0 () dX11_root_36 rfl hr

theorem hy_X11_root_V : yX11_root.cls = RX11 ∧ yX11_root.cls ≠ "java/lang/invoke/MethodHandle" ∧ yX11_root.cls ≠ "java/lang/invoke/VarHandle" ∧ (parseMethodDescriptor yX11_root.desc).map (fun d => d.parameters.length) = some 2 := by decide +kernel
set_option maxHeartbeats 4000000 in
set_option maxRecDepth 100000 in
theorem c_X11_root_2 (l : Launch) (G : jG) (q : Nat → Nat) (t n co cr po : Int32) (tx ty : Int64) (v : Int64) (how : Int32) (hP : 0 ≤ how.toInt ∧ how.toInt ≤ 2) (hv : v.toInt < 0) : Ct l yX11_root wsX11_root rm_X11_root G [.ref (q 0), .long v, .int how] [(q 0, .inr (10, mF t n q co cr po tx ty))] (S := Unit) (fun r _ => r = some (.long 0)) (fun _ => [(q 0, .inr (10, mF 2 n q co cr po tx ty))]) (fun _ => []) := by
  refine c_intro (cc := cX11_root) (maxL := 8) (ret := (some .long)) (by decide) rfl (Nat.le_of_ble_eq_true rfl) (fun _ => by simp only [List.map_cons, List.map_nil]) ?_
  intro p e s m args below meth c Q A X hr hin E
  change J p l e rm_X11_root s m args below meth c Q G A 8 0 0 0 [(0, .ref (q 0)), (1, .long v), (3, .int how)] [] [(q 0, .inr (10, mF t n q co cr po tx ty))]
  refine j_aload_n X dX11_root_0 rfl 0 rfl ?_
  refine j_iload_n X dX11_root_1 rfl 2 rfl ?_
  refine j_if_lt (tgt := 10) X dX11_root_2 (by decide) (fun c_2 => ?_) (fun c_2 => ?_)
  · skip
    first | simp only [bI_0, Decidable.not_not, sg_mul, sg_e0, sg_l0, sg_g0, sg_le0, sg_ge0, cmp_eq, cmp_lt, cmp_ge, cmp_gt, cmp_le, lT0, lT1] at c_2 | simp only [Int32.le_iff_toInt_le, Int32.lt_iff_toInt_lt, ← Int32.toInt_inj, iT0, iT1, iT2, iT3, iT4, iT5, iT6, iT7, iT8, iT9, iT10, iT11, iT12, iT13, iT14, iT15, iT16, iT19, iT20, iT31, iT32, iT42, iT64, iT200, iT318, iT319, iT1000, iTm1, iTm2] at c_2 | skip
    exfalso; omega
  · skip
    first | simp only [bI_0, Decidable.not_not, sg_mul, sg_e0, sg_l0, sg_g0, sg_le0, sg_ge0, cmp_eq, cmp_lt, cmp_ge, cmp_gt, cmp_le, lT0, lT1] at c_2 | simp only [Int32.le_iff_toInt_le, Int32.lt_iff_toInt_lt, ← Int32.toInt_inj, iT0, iT1, iT2, iT3, iT4, iT5, iT6, iT7, iT8, iT9, iT10, iT11, iT12, iT13, iT14, iT15, iT16, iT19, iT20, iT31, iT32, iT42, iT64, iT200, iT318, iT319, iT1000, iTm1, iTm2] at c_2 | skip
    refine j_iload_n X dX11_root_5 rfl 2 rfl ?_
    refine j_iconst (v := 2) X dX11_root_6 rfl ?_
    refine j_icmp_le (tgt := 14) X dX11_root_7 (by decide) (fun c_7 => ?_) (fun c_7 => ?_)
    · skip
      first | simp only [bI_0, Decidable.not_not, sg_mul, sg_e0, sg_l0, sg_g0, sg_le0, sg_ge0, cmp_eq, cmp_lt, cmp_ge, cmp_gt, cmp_le, lT0, lT1] at c_7 | simp only [Int32.le_iff_toInt_le, Int32.lt_iff_toInt_lt, ← Int32.toInt_inj, iT0, iT1, iT2, iT3, iT4, iT5, iT6, iT7, iT8, iT9, iT10, iT11, iT12, iT13, iT14, iT15, iT16, iT19, iT20, iT31, iT32, iT42, iT64, iT200, iT318, iT319, iT1000, iTm1, iTm2] at c_7 | skip
      refine j_lload_n X dX11_root_14 rfl 1 rfl ?_
      refine j_lconst (v := 0) X dX11_root_15 rfl ?_
      refine j_lcmp X dX11_root_16 ?_
      refine j_if_ge (tgt := 24) X dX11_root_17 (by decide) (fun c_17 => ?_) (fun c_17 => ?_)
      · skip
        first | simp only [bI_0, Decidable.not_not, sg_mul, sg_e0, sg_l0, sg_g0, sg_le0, sg_ge0, cmp_eq, cmp_lt, cmp_ge, cmp_gt, cmp_le, lT0, lT1] at c_17 | simp only [Int32.le_iff_toInt_le, Int32.lt_iff_toInt_lt, ← Int32.toInt_inj, iT0, iT1, iT2, iT3, iT4, iT5, iT6, iT7, iT8, iT9, iT10, iT11, iT12, iT13, iT14, iT15, iT16, iT19, iT20, iT31, iT32, iT42, iT64, iT200, iT318, iT319, iT1000, iTm1, iTm2] at c_17 | skip
        exfalso; omega
      · skip
        first | simp only [bI_0, Decidable.not_not, sg_mul, sg_e0, sg_l0, sg_g0, sg_le0, sg_ge0, cmp_eq, cmp_lt, cmp_ge, cmp_gt, cmp_le, lT0, lT1] at c_17 | simp only [Int32.le_iff_toInt_le, Int32.lt_iff_toInt_lt, ← Int32.toInt_inj, iT0, iT1, iT2, iT3, iT4, iT5, iT6, iT7, iT8, iT9, iT10, iT11, iT12, iT13, iT14, iT15, iT16, iT19, iT20, iT31, iT32, iT42, iT64, iT200, iT318, iT319, iT1000, iTm1, iTm2] at c_17 | skip
        refine j_iconst (v := 2) X dX11_root_20 rfl ?_
        refine j_goto (tgt := 25) X dX11_root_21 (by decide) ?_
        refine j_put (ws' := [(q 0, .inr (10, mF 2 n q co cr po tx ty))]) X dX11_root_25 0 rfl 0 rfl in_X11_root_X11 tyX11 tyX11_ok nmX11 (by decide) fl_X11_root_48 rfl rfl rfl rfl (Nat.le_of_ble_eq_true rfl) rfl ?_
        refine j_aload_n X dX11_root_28 rfl 0 rfl ?_
        refine j_get (v := .int 2) X dX11_root_29 0 rfl 0 rfl in_X11_root_X11 (by decide) fl_X11_root_48 rfl ?_
        refine j_if_eq (tgt := 37) X dX11_root_32 (by decide) (fun c9 => absurd c9 (by decide)) (fun _ => ?_)
        refine j_lconst (v := 0) X dX11_root_35 rfl ?_
        exact E.2.2 36 _ 0 () dX11_root_36 rfl hr
    · skip
      first | simp only [bI_0, Decidable.not_not, sg_mul, sg_e0, sg_l0, sg_g0, sg_le0, sg_ge0, cmp_eq, cmp_lt, cmp_ge, cmp_gt, cmp_le, lT0, lT1] at c_7 | simp only [Int32.le_iff_toInt_le, Int32.lt_iff_toInt_lt, ← Int32.toInt_inj, iT0, iT1, iT2, iT3, iT4, iT5, iT6, iT7, iT8, iT9, iT10, iT11, iT12, iT13, iT14, iT15, iT16, iT19, iT20, iT31, iT32, iT42, iT64, iT200, iT318, iT319, iT1000, iTm1, iTm2] at c_7 | skip
      exfalso; omega

set_option maxHeartbeats 4000000 in
set_option maxRecDepth 100000 in
theorem c_X11_root_0 (l : Launch) (G : jG) (q : Nat → Nat) (t n co cr po : Int32) (tx ty : Int64) (zs : List Int) (hl : zs.length = 16) (sf : Nat → Int32) (hS : okS zs sf) (v : Int64) (how : Int32) (hP : 0 ≤ how.toInt ∧ how.toInt ≤ 2) (hv : 0 ≤ v.toInt) : Ct l yX11_root wsX11_root rm_X11_root G [.ref (q 0), .long v, .int how] [(q 0, .inr (10, mF t n q co cr po tx ty)), (q 10, aI G 320 (rg zs)), (q 11, aZ G 16 sf)] (S := Int64 × Int × List Int × (Nat → Int32)) (fun r u => r = some (.long u.1) ∧ rtR v.toInt u.2.1 ∧ u.1.toInt = rtV v.toInt u.2.1 how.toInt ∧ kp zs u.2.2.1 ∧ okS u.2.2.1 u.2.2.2) (fun u => [(q 0, .inr (10, mF 0 n q co cr po tx ty)), (q 10, aI G 320 (rg u.2.2.1)), (q 11, aZ G 16 u.2.2.2)]) (fun _ => []) := by
  refine c_intro (cc := cX11_root) (maxL := 8) (ret := (some .long)) (by decide) rfl (Nat.le_of_ble_eq_true rfl) (fun _ => by simp only [List.map_cons, List.map_nil]) ?_
  intro p e s m args below meth c Q A X hr hin E
  change J p l e rm_X11_root s m args below meth c Q G A 8 0 0 0 [(0, .ref (q 0)), (1, .long v), (3, .int how)] [] [(q 0, .inr (10, mF t n q co cr po tx ty)), (q 10, aI G 320 (rg zs)), (q 11, aZ G 16 sf)]
  obtain ⟨z0, z1, z2, z3, z4, z5, z6, z7, z8, z9, z10, z11, z12, z13, z14, z15, rfl⟩ := l16 hl
  refine j_aload_n X dX11_root_0 rfl 0 rfl ?_
  refine j_iload_n X dX11_root_1 rfl 2 rfl ?_
  refine j_if_lt (tgt := 10) X dX11_root_2 (by decide) (fun c_2 => ?_) (fun c_2 => ?_)
  · skip
    first | simp only [bI_0, Decidable.not_not, sg_mul, sg_e0, sg_l0, sg_g0, sg_le0, sg_ge0, cmp_eq, cmp_lt, cmp_ge, cmp_gt, cmp_le, lT0, lT1] at c_2 | simp only [Int32.le_iff_toInt_le, Int32.lt_iff_toInt_lt, ← Int32.toInt_inj, iT0, iT1, iT2, iT3, iT4, iT5, iT6, iT7, iT8, iT9, iT10, iT11, iT12, iT13, iT14, iT15, iT16, iT19, iT20, iT31, iT32, iT42, iT64, iT200, iT318, iT319, iT1000, iTm1, iTm2] at c_2 | skip
    exfalso; omega
  · skip
    first | simp only [bI_0, Decidable.not_not, sg_mul, sg_e0, sg_l0, sg_g0, sg_le0, sg_ge0, cmp_eq, cmp_lt, cmp_ge, cmp_gt, cmp_le, lT0, lT1] at c_2 | simp only [Int32.le_iff_toInt_le, Int32.lt_iff_toInt_lt, ← Int32.toInt_inj, iT0, iT1, iT2, iT3, iT4, iT5, iT6, iT7, iT8, iT9, iT10, iT11, iT12, iT13, iT14, iT15, iT16, iT19, iT20, iT31, iT32, iT42, iT64, iT200, iT318, iT319, iT1000, iTm1, iTm2] at c_2 | skip
    refine j_iload_n X dX11_root_5 rfl 2 rfl ?_
    refine j_iconst (v := 2) X dX11_root_6 rfl ?_
    refine j_icmp_le (tgt := 14) X dX11_root_7 (by decide) (fun c_7 => ?_) (fun c_7 => ?_)
    · skip
      first | simp only [bI_0, Decidable.not_not, sg_mul, sg_e0, sg_l0, sg_g0, sg_le0, sg_ge0, cmp_eq, cmp_lt, cmp_ge, cmp_gt, cmp_le, lT0, lT1] at c_7 | simp only [Int32.le_iff_toInt_le, Int32.lt_iff_toInt_lt, ← Int32.toInt_inj, iT0, iT1, iT2, iT3, iT4, iT5, iT6, iT7, iT8, iT9, iT10, iT11, iT12, iT13, iT14, iT15, iT16, iT19, iT20, iT31, iT32, iT42, iT64, iT200, iT318, iT319, iT1000, iTm1, iTm2] at c_7 | skip
      refine j_lload_n X dX11_root_14 rfl 1 rfl ?_
      refine j_lconst (v := 0) X dX11_root_15 rfl ?_
      refine j_lcmp X dX11_root_16 ?_
      refine j_if_ge (tgt := 24) X dX11_root_17 (by decide) (fun c_17 => ?_) (fun c_17 => ?_)
      · skip
        first | simp only [bI_0, Decidable.not_not, sg_mul, sg_e0, sg_l0, sg_g0, sg_le0, sg_ge0, cmp_eq, cmp_lt, cmp_ge, cmp_gt, cmp_le, lT0, lT1] at c_17 | simp only [Int32.le_iff_toInt_le, Int32.lt_iff_toInt_lt, ← Int32.toInt_inj, iT0, iT1, iT2, iT3, iT4, iT5, iT6, iT7, iT8, iT9, iT10, iT11, iT12, iT13, iT14, iT15, iT16, iT19, iT20, iT31, iT32, iT42, iT64, iT200, iT318, iT319, iT1000, iTm1, iTm2] at c_17 | skip
        refine j_iconst (v := 0) X dX11_root_24 rfl ?_
        refine j_put (ws' := [(q 0, .inr (10, mF 0 n q co cr po tx ty)), (q 10, aI G 320 (rg [z0, z1, z2, z3, z4, z5, z6, z7, z8, z9, z10, z11, z12, z13, z14, z15])), (q 11, aZ G 16 sf)]) X dX11_root_25 0 rfl 0 rfl in_X11_root_X11 tyX11 tyX11_ok nmX11 (by decide) fl_X11_root_48 rfl rfl rfl rfl (Nat.le_of_ble_eq_true rfl) rfl ?_
        refine j_aload_n X dX11_root_28 rfl 0 rfl ?_
        refine j_get (v := .int 0) X dX11_root_29 0 rfl 0 rfl in_X11_root_X11 (by decide) fl_X11_root_48 rfl ?_
        refine j_if_eq (tgt := 37) X dX11_root_32 (by decide) (fun _ => ?_) (fun c9 => absurd c9 (by decide))
        refine j_aload_n X dX11_root_37 rfl 0 rfl ?_
        refine j_iconst (v := 4) X dX11_root_38 rfl ?_
        refine j_lload_n X dX11_root_39 rfl 1 rfl ?_
        obtain ⟨y_1, ey_1⟩ : ∃ zz9 : Int, zz9 = v.toInt := ⟨_, rfl⟩
        have by_1 : bd 63 y_1 := by rw [ey_1]; exact (bd_l v)
        refine j_callV X dX11_root_40 (n_load l G q 0 n co cr po tx ty [z0, z1, z2, z3, z4, z5, z6, z7, z8, z9, z10, z11, z12, z13, z14, z15] sf rfl hS 4 4 rfl (by decide) v y_1 ey_1) gX11_root_X11_load rfl hy_X11_load_V ⟨Nat.le_of_ble_eq_true rfl, Nat.le_of_ble_eq_true rfl⟩ 0 rfl rfl [0, 1, 2] rfl (by decide) rfl rfl (Nat.le_of_ble_eq_true rfl) ⟨Nat.le_of_ble_eq_true rfl, Nat.le_of_ble_eq_true rfl⟩ ?_
        rintro _ sf_2 ⟨rfl, hS_sf_2⟩
        change J p l e rm_X11_root s m args below meth c Q G A 8 0 0 43 [(0, .ref (q 0)), (1, .long v), (3, .int how)] [] [(q 0, .inr (10, mF 0 n q co cr po tx ty)), (q 10, aI G 320 (rg [z0, z1, z2, z3, y_1, z5, z6, z7, z8, z9, z10, z11, z12, z13, z14, z15])), (q 11, aZ G 16 sf_2)]
        refine j_aload_n X dX11_root_43 rfl 0 rfl ?_
        refine j_iconst (v := 5) X dX11_root_44 rfl ?_
        refine j_iconst (v := 4) X dX11_root_45 rfl ?_
        refine j_callV X dX11_root_46 (c_X11_rootOf_5_4 l G q 0 n co cr po tx ty z0 z1 z2 z3 y_1 z5 z6 z7 z8 z9 z10 z11 z12 z13 z14 z15 sf_2 hS_sf_2 (bd_lt319 by_1 (by decide))) gX11_root_X11_rootOf rfl hy_X11_rootOf_V ⟨Nat.le_of_ble_eq_true rfl, Nat.le_of_ble_eq_true rfl⟩ 0 rfl rfl [0, 1, 2] rfl (by decide) rfl rfl (Nat.le_of_ble_eq_true rfl) ⟨Nat.le_of_ble_eq_true rfl, Nat.le_of_ble_eq_true rfl⟩ ?_
        rintro _ ⟨h_3, v_4, sf_5⟩ ⟨rfl, hh_30, hh_31, hh_32, hS_sf_5⟩
        dsimp only at hh_30 hh_31 hh_32 hS_sf_5
        change J p l e rm_X11_root s m args below meth c Q G A 8 0 0 49 [(0, .ref (q 0)), (1, .long v), (3, .int how)] [.int (if h_3 * h_3 = (y_1.natAbs : Int) then 1 else 0)] [(q 0, .inr (10, mF 0 n q co cr po tx ty)), (q 10, aI G 320 (rg [z0, z1, z2, z3, y_1, h_3, z6, z7, z8, z9, z10, z11, ((y_1.natAbs : Int) - h_3 * h_3), z13, v_4, z15])), (q 11, aZ G 16 sf_5)]
        obtain ⟨w_6, ew_6⟩ : ∃ zz9 : Int, zz9 = (y_1.natAbs : Int) - h_3 * h_3 := ⟨_, rfl⟩
        rw [← ew_6] at hS_sf_5 ⊢
        have hxv : (y_1.natAbs : Int) = v.toInt := by rw [ey_1]; omega
        rw [hxv] at hh_31 hh_32 ⊢
        have hsq := sq_ge hh_30
        have hvr := l_rng v
        have hs2 : h_3 ≤ 4611686018427387904 := by by_cases q9 : h_3 ≤ 1; omega; have := Int.mul_le_mul_of_nonneg_right (show 2 ≤ h_3 by omega) hh_30; omega
        refine j_topi (fun x_7 ex_7 => ?_)
        refine j_istore (L' := [(4, .int x_7), (0, .ref (q 0)), (1, .long v), (3, .int how)]) X dX11_root_49 (by decide) rfl ?_
        refine j_aload_n X dX11_root_51 rfl 1 rfl ?_
        refine j_iconst (v := 5) X dX11_root_52 rfl ?_
        refine j_callV X dX11_root_53 (c_X11_valueOf l G q 0 n co cr po tx ty [z0, z1, z2, z3, y_1, h_3, z6, z7, z8, z9, z10, z11, w_6, z13, v_4, z15] rfl sf_5 5 5 rfl (by decide) (hS_sf_5 5 (by decide)) (show h_3.natAbs < 9223372036854775808 by omega)) gX11_root_X11_valueOf rfl hy_X11_valueOf_V ⟨Nat.le_of_ble_eq_true rfl, Nat.le_of_ble_eq_true rfl⟩ 0 rfl rfl [0, 1, 2] rfl (by decide) rfl rfl (Nat.le_of_ble_eq_true rfl) ⟨Nat.le_of_ble_eq_true rfl, Nat.le_of_ble_eq_true rfl⟩ ?_
        rintro _ w_8 ⟨rfl, hw_8⟩
        change J p l e rm_X11_root s m args below meth c Q G A 8 0 0 56 [(4, .int x_7), (0, .ref (q 0)), (1, .long v), (3, .int how)] [.long w_8] [(q 0, .inr (10, mF 0 n q co cr po tx ty)), (q 10, aI G 320 (rg [z0, z1, z2, z3, y_1, h_3, z6, z7, z8, z9, z10, z11, w_6, z13, v_4, z15])), (q 11, aZ G 16 sf_5)]
        change w_8.toInt = h_3 at hw_8
        refine j_lstore (L' := [(5, .long w_8), (4, .int x_7), (0, .ref (q 0)), (1, .long v), (3, .int how)]) X dX11_root_56 (by decide) rfl ?_
        refine j_iload_n X dX11_root_58 rfl 4 rfl ?_
        refine j_iconst (v := 1) X dX11_root_59 rfl ?_
        refine j_icmp_ne (tgt := 76) X dX11_root_60 (by decide) (fun c_60 => ?_) (fun c_60 => ?_)
        · skip
          first | simp only [bI_0, Decidable.not_not, sg_mul, sg_e0, sg_l0, sg_g0, sg_le0, sg_ge0, cmp_eq, cmp_lt, cmp_ge, cmp_gt, cmp_le, lT0, lT1] at c_60 | simp only [Int32.le_iff_toInt_le, Int32.lt_iff_toInt_lt, ← Int32.toInt_inj, iT0, iT1, iT2, iT3, iT4, iT5, iT6, iT7, iT8, iT9, iT10, iT11, iT12, iT13, iT14, iT15, iT16, iT19, iT20, iT31, iT32, iT42, iT64, iT200, iT318, iT319, iT1000, iTm1, iTm2] at c_60 | skip
          refine j_iload_n X dX11_root_76 rfl 4 rfl ?_
          refine j_iconst (v := 2) X dX11_root_77 rfl ?_
          refine j_icmp_ne (tgt := 98) X dX11_root_78 (by decide) (fun c_78 => ?_) (fun c_78 => ?_)
          · skip
            first | simp only [bI_0, Decidable.not_not, sg_mul, sg_e0, sg_l0, sg_g0, sg_le0, sg_ge0, cmp_eq, cmp_lt, cmp_ge, cmp_gt, cmp_le, lT0, lT1] at c_78 | simp only [Int32.le_iff_toInt_le, Int32.lt_iff_toInt_lt, ← Int32.toInt_inj, iT0, iT1, iT2, iT3, iT4, iT5, iT6, iT7, iT8, iT9, iT10, iT11, iT12, iT13, iT14, iT15, iT16, iT19, iT20, iT31, iT32, iT42, iT64, iT200, iT318, iT319, iT1000, iTm1, iTm2] at c_78 | skip
            refine j_iconst (v := 0) X dX11_root_98 rfl ?_
            refine j_istore (L' := [(7, .int 0), (5, .long w_8), (4, .int x_7), (0, .ref (q 0)), (1, .long v), (3, .int how)]) X dX11_root_99 (by decide) rfl ?_
            refine j_iload X dX11_root_101 0 rfl ?_
            refine j_if_eq (tgt := 113) X dX11_root_103 (by decide) (fun _ => ?_) (fun c9 => absurd c9 (by decide))
            refine j_lload X dX11_root_113 1 rfl ?_
            exact E.2.2 115 _ w_8 (w_8, h_3, [z0, z1, z2, z3, y_1, h_3, z6, z7, z8, z9, z10, z11, w_6, z13, v_4, z15], sf_5) dX11_root_115 (⟨rfl, ⟨hh_30, hh_31, hh_32⟩, (by dsimp only; unfold rtV; rw [if_pos (by omega)]; exact hw_8), kp_i, hS_sf_5⟩) hr
          · skip
            first | simp only [bI_0, Decidable.not_not, sg_mul, sg_e0, sg_l0, sg_g0, sg_le0, sg_ge0, cmp_eq, cmp_lt, cmp_ge, cmp_gt, cmp_le, lT0, lT1] at c_78 | simp only [Int32.le_iff_toInt_le, Int32.lt_iff_toInt_lt, ← Int32.toInt_inj, iT0, iT1, iT2, iT3, iT4, iT5, iT6, iT7, iT8, iT9, iT10, iT11, iT12, iT13, iT14, iT15, iT16, iT19, iT20, iT31, iT32, iT42, iT64, iT200, iT318, iT319, iT1000, iTm1, iTm2] at c_78 | skip
            refine j_lload_n X dX11_root_81 rfl 3 rfl ?_
            refine j_lload X dX11_root_82 0 rfl ?_
            refine j_lload X dX11_root_84 0 rfl ?_
            refine j_lmul X dX11_root_86 ?_
            refine j_lsub X dX11_root_87 ?_
            refine j_lload X dX11_root_88 0 rfl ?_
            refine j_lcmp X dX11_root_90 ?_
            refine j_if_le (tgt := 98) X dX11_root_91 (by decide) (fun c_91 => ?_) (fun c_91 => ?_)
            · skip
              simp only [cmp_le] at c_91
              have hmul : (v - w_8 * w_8).toInt = v.toInt - h_3 * h_3 := by rw [l_sub] <;> rw [l_mul] <;> rw [hw_8] <;> omega
              rw [hmul, hw_8] at c_91
              refine j_iconst (v := 0) X dX11_root_98 rfl ?_
              refine j_istore (L' := [(7, .int 0), (5, .long w_8), (4, .int x_7), (0, .ref (q 0)), (1, .long v), (3, .int how)]) X dX11_root_99 (by decide) rfl ?_
              refine j_iload X dX11_root_101 0 rfl ?_
              refine j_if_eq (tgt := 113) X dX11_root_103 (by decide) (fun _ => ?_) (fun c9 => absurd c9 (by decide))
              refine j_lload X dX11_root_113 1 rfl ?_
              exact E.2.2 115 _ w_8 (w_8, h_3, [z0, z1, z2, z3, y_1, h_3, z6, z7, z8, z9, z10, z11, w_6, z13, v_4, z15], sf_5) dX11_root_115 (⟨rfl, ⟨hh_30, hh_31, hh_32⟩, (by dsimp only; unfold rtV; rw [if_neg (by omega), if_neg (by omega), if_neg (by omega)]; exact hw_8), kp_i, hS_sf_5⟩) hr
            · skip
              simp only [cmp_le] at c_91
              have hmul : (v - w_8 * w_8).toInt = v.toInt - h_3 * h_3 := by rw [l_sub] <;> rw [l_mul] <;> rw [hw_8] <;> omega
              rw [hmul, hw_8] at c_91
              refine j_iconst (v := 1) X dX11_root_94 rfl ?_
              refine j_goto (tgt := 99) X dX11_root_95 (by decide) ?_
              refine j_istore (L' := [(7, .int 1), (5, .long w_8), (4, .int x_7), (0, .ref (q 0)), (1, .long v), (3, .int how)]) X dX11_root_99 (by decide) rfl ?_
              refine j_iload X dX11_root_101 0 rfl ?_
              refine j_if_eq (tgt := 113) X dX11_root_103 (by decide) (fun c9 => absurd c9 (by decide)) (fun _ => ?_)
              refine j_lload X dX11_root_106 1 rfl ?_
              refine j_lconst (v := 1) X dX11_root_108 rfl ?_
              refine j_ladd X dX11_root_109 ?_
              refine j_goto (tgt := 115) X dX11_root_110 (by decide) ?_
              exact E.2.2 115 _ (w_8 + 1) ((w_8 + 1), h_3, [z0, z1, z2, z3, y_1, h_3, z6, z7, z8, z9, z10, z11, w_6, z13, v_4, z15], sf_5) dX11_root_115 (⟨rfl, ⟨hh_30, hh_31, hh_32⟩, (by dsimp only; unfold rtV; rw [if_neg (by omega), if_neg (by omega), if_pos (by omega)]; rw [l_add] <;> rw [hw_8, lT1] <;> omega), kp_i, hS_sf_5⟩) hr
        · skip
          first | simp only [bI_0, Decidable.not_not, sg_mul, sg_e0, sg_l0, sg_g0, sg_le0, sg_ge0, cmp_eq, cmp_lt, cmp_ge, cmp_gt, cmp_le, lT0, lT1] at c_60 | simp only [Int32.le_iff_toInt_le, Int32.lt_iff_toInt_lt, ← Int32.toInt_inj, iT0, iT1, iT2, iT3, iT4, iT5, iT6, iT7, iT8, iT9, iT10, iT11, iT12, iT13, iT14, iT15, iT16, iT19, iT20, iT31, iT32, iT42, iT64, iT200, iT318, iT319, iT1000, iTm1, iTm2] at c_60 | skip
          refine j_iload X dX11_root_63 1 rfl ?_
          refine j_if_ne (tgt := 72) X dX11_root_65 (by decide) (fun c_65 => ?_) (fun c_65 => ?_)
          · skip
            have c_65x := c_65
            rw [ex_7] at c_65x
            refine j_iconst (v := 0) X dX11_root_72 rfl ?_
            refine j_goto (tgt := 99) X dX11_root_73 (by decide) ?_
            refine j_istore (L' := [(7, .int 0), (5, .long w_8), (4, .int x_7), (0, .ref (q 0)), (1, .long v), (3, .int how)]) X dX11_root_99 (by decide) rfl ?_
            refine j_iload X dX11_root_101 0 rfl ?_
            refine j_if_eq (tgt := 113) X dX11_root_103 (by decide) (fun _ => ?_) (fun c9 => absurd c9 (by decide))
            refine j_lload X dX11_root_113 1 rfl ?_
            exact E.2.2 115 _ w_8 (w_8, h_3, [z0, z1, z2, z3, y_1, h_3, z6, z7, z8, z9, z10, z11, w_6, z13, v_4, z15], sf_5) dX11_root_115 (⟨rfl, ⟨hh_30, hh_31, hh_32⟩, (by dsimp only; unfold rtV; rw [if_neg (by omega), if_pos (by omega), if_pos (by by_cases hq : h_3 * h_3 = v.toInt; exact hq; rw [if_neg hq] at c_65x; exact absurd rfl c_65x)]; exact hw_8), kp_i, hS_sf_5⟩) hr
          · skip
            have c_65x := c_65
            rw [ex_7] at c_65x
            refine j_iconst (v := 1) X dX11_root_68 rfl ?_
            refine j_goto (tgt := 99) X dX11_root_69 (by decide) ?_
            refine j_istore (L' := [(7, .int 1), (5, .long w_8), (4, .int x_7), (0, .ref (q 0)), (1, .long v), (3, .int how)]) X dX11_root_99 (by decide) rfl ?_
            refine j_iload X dX11_root_101 0 rfl ?_
            refine j_if_eq (tgt := 113) X dX11_root_103 (by decide) (fun c9 => absurd c9 (by decide)) (fun _ => ?_)
            refine j_lload X dX11_root_106 1 rfl ?_
            refine j_lconst (v := 1) X dX11_root_108 rfl ?_
            refine j_ladd X dX11_root_109 ?_
            refine j_goto (tgt := 115) X dX11_root_110 (by decide) ?_
            exact E.2.2 115 _ (w_8 + 1) ((w_8 + 1), h_3, [z0, z1, z2, z3, y_1, h_3, z6, z7, z8, z9, z10, z11, w_6, z13, v_4, z15], sf_5) dX11_root_115 (⟨rfl, ⟨hh_30, hh_31, hh_32⟩, (by dsimp only; unfold rtV; rw [if_neg (by omega), if_pos (by omega), if_neg (by intro hq; rw [if_pos hq] at c_65x; exact absurd c_65x (by decide))]; rw [l_add] <;> rw [hw_8, lT1] <;> omega), kp_i, hS_sf_5⟩) hr
      · skip
        first | simp only [bI_0, Decidable.not_not, sg_mul, sg_e0, sg_l0, sg_g0, sg_le0, sg_ge0, cmp_eq, cmp_lt, cmp_ge, cmp_gt, cmp_le, lT0, lT1] at c_17 | simp only [Int32.le_iff_toInt_le, Int32.lt_iff_toInt_lt, ← Int32.toInt_inj, iT0, iT1, iT2, iT3, iT4, iT5, iT6, iT7, iT8, iT9, iT10, iT11, iT12, iT13, iT14, iT15, iT16, iT19, iT20, iT31, iT32, iT42, iT64, iT200, iT318, iT319, iT1000, iTm1, iTm2] at c_17 | skip
        exfalso; omega
    · skip
      first | simp only [bI_0, Decidable.not_not, sg_mul, sg_e0, sg_l0, sg_g0, sg_le0, sg_ge0, cmp_eq, cmp_lt, cmp_ge, cmp_gt, cmp_le, lT0, lT1] at c_7 | simp only [Int32.le_iff_toInt_le, Int32.lt_iff_toInt_lt, ← Int32.toInt_inj, iT0, iT1, iT2, iT3, iT4, iT5, iT6, iT7, iT8, iT9, iT10, iT11, iT12, iT13, iT14, iT15, iT16, iT19, iT20, iT31, iT32, iT42, iT64, iT200, iT318, iT319, iT1000, iTm1, iTm2] at c_7 | skip
      exfalso; omega

