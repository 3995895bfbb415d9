abbrev rm_X11_placeFrom : Room := { frames := 3, cells := 0, slots := 0, locals := 86 }
theorem in_X11_placeFrom_X11 : ∀ w ∈ u_ws RX11 TX11 19, w ∈ wsX11_placeFrom := by decide +kernel
theorem fl_X11_placeFrom_20 : Cond.fieldLink RX11 20 (TX11 5).1 (TX11 5).2.1 (TX11 5).2.2.1 ∈ wsX11_placeFrom := by decide +kernel
theorem fl_X11_placeFrom_13 : Cond.fieldLink RX11 13 (TX11 3).1 (TX11 3).2.1 (TX11 3).2.2.1 ∈ wsX11_placeFrom := by decide +kernel
theorem fl_X11_placeFrom_23 : Cond.fieldLink RX11 23 (TX11 6).1 (TX11 6).2.1 (TX11 6).2.2.1 ∈ wsX11_placeFrom := by decide +kernel
theorem fl_X11_placeFrom_17 : Cond.fieldLink RX11 17 (TX11 4).1 (TX11 4).2.1 (TX11 4).2.2.1 ∈ wsX11_placeFrom := by decide +kernel
set_option maxHeartbeats 4000000 in
set_option maxRecDepth 100000 in
theorem c_X11_placeFrom (l : Launch) (G : jG) (q : Nat → Nat) (t n co cr po : Int32) (tx ty : Int64) (z0 z1 z2 z3 z4 z5 z6 z7 z8 z9 z10 z11 z12 z13 z14 z15 : Int) (sf : Nat → Int32) (hS : okS [z0, z1, z2, z3, z4, z5, z6, z7, z8, z9, z10, z11, z12, z13, z14, z15] sf) (f1 f2 f3 f4 : Nat → Int64) (a : Nat) (ba : (inC (f1 a).toInt ∧ inC (f2 a).toInt) ∧ inC (f3 a).toInt ∧ inC (f4 a).toInt) (ga : a < 200) (x y : Int64) (bx : inC x.toInt) (by_ : inC y.toInt) : Ct l yX11_placeFrom wsX11_placeFrom rm_X11_placeFrom G [.ref (q 0), .int (nI a), .long x, .long y] [(q 0, .inr (10, mF t n q co cr po tx ty)), (q 2, aJ G 200 f1), (q 3, aJ G 200 f2), (q 4, aJ G 200 f3), (q 5, aJ G 200 f4), (q 10, aI G 320 (rg [z0, z1, z2, z3, z4, z5, z6, z7, z8, z9, z10, z11, z12, z13, z14, z15])), (q 11, aZ G 16 sf)] (S := Int × Int × Int × Int × Int × Int × Int × Int × (Nat → Int32)) (fun r u => r = none ∧ u.2.2.1 = (pd (f1 a).toInt (f2 a).toInt (f3 a).toInt (f4 a).toInt x.toInt y.toInt).1 ∧ u.2.2.2.1 = (pd (f1 a).toInt (f2 a).toInt (f3 a).toInt (f4 a).toInt x.toInt y.toInt).2 ∧ okS [z0, z1, z2, z3, u.1, u.2.1, u.2.2.1, u.2.2.2.1, z8, z9, z10, z11, u.2.2.2.2.1, u.2.2.2.2.2.1, u.2.2.2.2.2.2.1, u.2.2.2.2.2.2.2.1] u.2.2.2.2.2.2.2.2) (fun u => [(q 0, .inr (10, mF t n q co cr po tx ty)), (q 2, aJ G 200 f1), (q 3, aJ G 200 f2), (q 4, aJ G 200 f3), (q 5, aJ G 200 f4), (q 10, aI G 320 (rg [z0, z1, z2, z3, u.1, u.2.1, u.2.2.1, u.2.2.2.1, z8, z9, z10, z11, u.2.2.2.2.1, u.2.2.2.2.2.1, u.2.2.2.2.2.2.1, u.2.2.2.2.2.2.2.1])), (q 11, aZ G 16 u.2.2.2.2.2.2.2.2)]) (fun _ => []) := by
  refine c_intro (cc := cX11_placeFrom) (maxL := 19) (ret := none) (by decide) rfl (Nat.le_of_ble_eq_true rfl) (fun _ => by simp only [List.map_cons, List.map_nil]) ?_
  intro p e s m args below meth c Q A X hr hin E
  change J p l e rm_X11_placeFrom s m args below meth c Q G A 19 0 0 0 [(0, .ref (q 0)), (1, .int (nI a)), (2, .long x), (4, .long y)] [] [(q 0, .inr (10, mF t n q co cr po tx ty)), (q 2, aJ G 200 f1), (q 3, aJ G 200 f2), (q 4, aJ G 200 f3), (q 5, aJ G 200 f4), (q 10, aI G 320 (rg [z0, z1, z2, z3, z4, z5, z6, z7, z8, z9, z10, z11, z12, z13, z14, z15])), (q 11, aZ G 16 sf)]
  refine j_aload_n X dX11_placeFrom_0 rfl 0 rfl ?_
  refine j_get (v := .ref (q 4)) X dX11_placeFrom_1 0 rfl 5 rfl in_X11_placeFrom_X11 (by decide) fl_X11_placeFrom_20 rfl ?_
  refine j_iload_n X dX11_placeFrom_4 rfl 1 rfl ?_
  refine j_lald X dX11_placeFrom_5 3 rfl a rfl ga (by decide) ?_
  refine j_aload_n X dX11_placeFrom_6 rfl 0 rfl ?_
  refine j_get (v := .ref (q 2)) X dX11_placeFrom_7 0 rfl 3 rfl in_X11_placeFrom_X11 (by decide) fl_X11_placeFrom_13 rfl ?_
  refine j_iload_n X dX11_placeFrom_10 rfl 1 rfl ?_
  refine j_lald X dX11_placeFrom_11 1 rfl a rfl ga (by decide) ?_
  refine j_lsub X dX11_placeFrom_12 ?_
  refine j_topl (fun x_1 ex_1 => ?_)
  have tx_1 : x_1.toInt = (f3 a).toInt - (f1 a).toInt := by rw [ex_1]; exact bl_sub (bd_C ba.2.1) (bd_C ba.1.1) (by decide) (by decide)
  have bx_1 : bd 41 x_1.toInt := by rw [tx_1]; exact bd_sub (bd_mono (bd_C ba.2.1) (by decide)) (bd_mono (bd_C ba.1.1) (by decide))
  refine j_lstore (L' := [(6, .long x_1), (0, .ref (q 0)), (1, .int (nI a)), (2, .long x), (4, .long y)]) X dX11_placeFrom_13 (by decide) rfl ?_
  refine j_aload_n X dX11_placeFrom_15 rfl 1 rfl ?_
  refine j_get (v := .ref (q 5)) X dX11_placeFrom_16 0 rfl 6 rfl in_X11_placeFrom_X11 (by decide) fl_X11_placeFrom_23 rfl ?_
  refine j_iload_n X dX11_placeFrom_19 rfl 2 rfl ?_
  refine j_lald X dX11_placeFrom_20 4 rfl a rfl ga (by decide) ?_
  refine j_aload_n X dX11_placeFrom_21 rfl 1 rfl ?_
  refine j_get (v := .ref (q 3)) X dX11_placeFrom_22 0 rfl 4 rfl in_X11_placeFrom_X11 (by decide) fl_X11_placeFrom_17 rfl ?_
  refine j_iload_n X dX11_placeFrom_25 rfl 2 rfl ?_
  refine j_lald X dX11_placeFrom_26 2 rfl a rfl ga (by decide) ?_
  refine j_lsub X dX11_placeFrom_27 ?_
  refine j_topl (fun x_2 ex_2 => ?_)
  have tx_2 : x_2.toInt = (f4 a).toInt - (f2 a).toInt := by rw [ex_2]; exact bl_sub (bd_C ba.2.2) (bd_C ba.1.2) (by decide) (by decide)
  have bx_2 : bd 41 x_2.toInt := by rw [tx_2]; exact bd_sub (bd_mono (bd_C ba.2.2) (by decide)) (bd_mono (bd_C ba.1.2) (by decide))
  refine j_lstore (L' := [(8, .long x_2), (6, .long x_1), (0, .ref (q 0)), (1, .int (nI a)), (2, .long x), (4, .long y)]) X dX11_placeFrom_28 (by decide) rfl ?_
  refine j_lload_n X dX11_placeFrom_30 rfl 4 rfl ?_
  refine j_aload_n X dX11_placeFrom_31 rfl 2 rfl ?_
  refine j_get (v := .ref (q 2)) X dX11_placeFrom_32 0 rfl 3 rfl in_X11_placeFrom_X11 (by decide) fl_X11_placeFrom_13 rfl ?_
  refine j_iload_n X dX11_placeFrom_35 rfl 3 rfl ?_
  refine j_lald X dX11_placeFrom_36 1 rfl a rfl ga (by decide) ?_
  refine j_lsub X dX11_placeFrom_37 ?_
  refine j_topl (fun x_3 ex_3 => ?_)
  have tx_3 : x_3.toInt = x.toInt - (f1 a).toInt := by rw [ex_3]; exact bl_sub (bd_C bx) (bd_C ba.1.1) (by decide) (by decide)
  have bx_3 : bd 41 x_3.toInt := by rw [tx_3]; exact bd_sub (bd_mono (bd_C bx) (by decide)) (bd_mono (bd_C ba.1.1) (by decide))
  refine j_lstore (L' := [(10, .long x_3), (8, .long x_2), (6, .long x_1), (0, .ref (q 0)), (1, .int (nI a)), (2, .long x), (4, .long y)]) X dX11_placeFrom_38 (by decide) rfl ?_
  refine j_lload X dX11_placeFrom_40 6 rfl ?_
  refine j_aload_n X dX11_placeFrom_42 rfl 3 rfl ?_
  refine j_get (v := .ref (q 3)) X dX11_placeFrom_43 0 rfl 4 rfl in_X11_placeFrom_X11 (by decide) fl_X11_placeFrom_17 rfl ?_
  refine j_iload_n X dX11_placeFrom_46 rfl 4 rfl ?_
  refine j_lald X dX11_placeFrom_47 2 rfl a rfl ga (by decide) ?_
  refine j_lsub X dX11_placeFrom_48 ?_
  refine j_topl (fun x_4 ex_4 => ?_)
  have tx_4 : x_4.toInt = y.toInt - (f2 a).toInt := by rw [ex_4]; exact bl_sub (bd_C by_) (bd_C ba.1.2) (by decide) (by decide)
  have bx_4 : bd 41 x_4.toInt := by rw [tx_4]; exact bd_sub (bd_mono (bd_C by_) (by decide)) (bd_mono (bd_C ba.1.2) (by decide))
  refine j_lstore (L' := [(12, .long x_4), (10, .long x_3), (8, .long x_2), (6, .long x_1), (0, .ref (q 0)), (1, .int (nI a)), (2, .long x), (4, .long y)]) X dX11_placeFrom_49 (by decide) rfl ?_
  refine j_aload_n X dX11_placeFrom_51 rfl 4 rfl ?_
  refine j_iconst (v := 4) X dX11_placeFrom_52 rfl ?_
  refine j_lload X dX11_placeFrom_53 3 rfl ?_
  refine j_lload X dX11_placeFrom_55 1 rfl ?_
  refine j_lload X dX11_placeFrom_57 2 rfl ?_
  refine j_lload X dX11_placeFrom_59 0 rfl ?_
  refine j_iconst (v := 0) X dX11_placeFrom_61 rfl ?_
  obtain ⟨y_5, ey_5⟩ : ∃ zz9 : Int, zz9 = x_1.toInt * x_3.toInt + x_4.toInt * x_2.toInt := ⟨_, rfl⟩
  have by_5 : bd 83 y_5 := by rw [ey_5]; exact bd_add (bd_mono (bd_mul bx_1 bx_3) (by decide)) (bd_mono (bd_mul bx_4 bx_2) (by decide))
  refine j_callV X dX11_placeFrom_62 (n_products l G q t n co cr po tx ty [z0, z1, z2, z3, z4, z5, z6, z7, z8, z9, z10, z11, z12, z13, z14, z15] sf rfl hS 4 4 rfl (by decide) x_1 x_3 x_2 x_4 0 (Or.inl rfl) y_5 ey_5) gX11_placeFrom_X11_products rfl hy_X11_products_V ⟨Nat.le_of_ble_eq_true rfl, Nat.le_of_ble_eq_true rfl⟩ 0 rfl rfl [0, 5, 6] rfl (by decide) rfl rfl (Nat.le_of_ble_eq_true rfl) ⟨Nat.le_of_ble_eq_true rfl, Nat.le_of_ble_eq_true rfl⟩ ?_
  rintro _ ⟨v_6, v_7, v_8, v_9, sf_10⟩ ⟨rfl, hS_sf_10⟩
  change J p l e rm_X11_placeFrom s m args below meth c Q G A 19 0 0 65 [(12, .long x_4), (10, .long x_3), (8, .long x_2), (6, .long x_1), (0, .ref (q 0)), (1, .int (nI a)), (2, .long x), (4, .long y)] [] [(q 0, .inr (10, mF t n q co cr po tx ty)), (q 2, aJ G 200 f1), (q 3, aJ G 200 f2), (q 4, aJ G 200 f3), (q 5, aJ G 200 f4), (q 10, aI G 320 (rg [z0, z1, z2, z3, y_5, z5, z6, z7, z8, z9, z10, z11, v_6, v_7, v_8, v_9])), (q 11, aZ G 16 sf_10)]
  refine j_aload_n X dX11_placeFrom_65 rfl 4 rfl ?_
  refine j_iconst (v := 5) X dX11_placeFrom_66 rfl ?_
  refine j_lload X dX11_placeFrom_67 3 rfl ?_
  refine j_lload X dX11_placeFrom_69 3 rfl ?_
  refine j_lload X dX11_placeFrom_71 2 rfl ?_
  refine j_lload X dX11_placeFrom_73 2 rfl ?_
  refine j_iconst (v := 0) X dX11_placeFrom_75 rfl ?_
  obtain ⟨y_11, ey_11⟩ : ∃ zz9 : Int, zz9 = x_1.toInt * x_1.toInt + x_2.toInt * x_2.toInt := ⟨_, rfl⟩
  have by_11 : bd 83 y_11 := by rw [ey_11]; exact bd_add (bd_mono (bd_mul bx_1 bx_1) (by decide)) (bd_mono (bd_mul bx_2 bx_2) (by decide))
  refine j_callV X dX11_placeFrom_76 (n_products l G q t n co cr po tx ty [z0, z1, z2, z3, y_5, z5, z6, z7, z8, z9, z10, z11, v_6, v_7, v_8, v_9] sf_10 rfl hS_sf_10 5 5 rfl (by decide) x_1 x_1 x_2 x_2 0 (Or.inl rfl) y_11 ey_11) gX11_placeFrom_X11_products rfl hy_X11_products_V ⟨Nat.le_of_ble_eq_true rfl, Nat.le_of_ble_eq_true rfl⟩ 0 rfl rfl [0, 5, 6] rfl (by decide) rfl rfl (Nat.le_of_ble_eq_true rfl) ⟨Nat.le_of_ble_eq_true rfl, Nat.le_of_ble_eq_true rfl⟩ ?_
  rintro _ ⟨v_12, v_13, v_14, v_15, sf_16⟩ ⟨rfl, hS_sf_16⟩
  change J p l e rm_X11_placeFrom s m args below meth c Q G A 19 0 0 79 [(12, .long x_4), (10, .long x_3), (8, .long x_2), (6, .long x_1), (0, .ref (q 0)), (1, .int (nI a)), (2, .long x), (4, .long y)] [] [(q 0, .inr (10, mF t n q co cr po tx ty)), (q 2, aJ G 200 f1), (q 3, aJ G 200 f2), (q 4, aJ G 200 f3), (q 5, aJ G 200 f4), (q 10, aI G 320 (rg [z0, z1, z2, z3, y_5, y_11, z6, z7, z8, z9, z10, z11, v_12, v_13, v_14, v_15])), (q 11, aZ G 16 sf_16)]
  refine j_aload_n X dX11_placeFrom_79 rfl 4 rfl ?_
  refine j_iconst (v := 4) X dX11_placeFrom_80 rfl ?_
  refine j_callV X dX11_placeFrom_81 (c_X11_sign l G q t n co cr po tx ty [z0, z1, z2, z3, y_5, y_11, z6, z7, z8, z9, z10, z11, v_12, v_13, v_14, v_15] rfl sf_16 4 4 rfl (by decide) (hS_sf_16 4 (by decide)) (bd_lt by_5 (by decide))) gX11_placeFrom_X11_sign rfl hy_X11_sign_V ⟨Nat.le_of_ble_eq_true rfl, Nat.le_of_ble_eq_true rfl⟩ 0 rfl rfl [0, 5, 6] rfl (by decide) rfl rfl (Nat.le_of_ble_eq_true rfl) ⟨Nat.le_of_ble_eq_true rfl, Nat.le_of_ble_eq_true rfl⟩ ?_
  rintro _ ⟨⟩ rfl
  change J p l e rm_X11_placeFrom s m args below meth c Q G A 19 0 0 84 [(12, .long x_4), (10, .long x_3), (8, .long x_2), (6, .long x_1), (0, .ref (q 0)), (1, .int (nI a)), (2, .long x), (4, .long y)] [.int (sg y_5)] [(q 0, .inr (10, mF t n q co cr po tx ty)), (q 2, aJ G 200 f1), (q 3, aJ G 200 f2), (q 4, aJ G 200 f3), (q 5, aJ G 200 f4), (q 10, aI G 320 (rg [z0, z1, z2, z3, y_5, y_11, z6, z7, z8, z9, z10, z11, v_12, v_13, v_14, v_15])), (q 11, aZ G 16 sf_16)]
  refine j_if_le (tgt := 126) X dX11_placeFrom_84 (by decide) (fun c_84 => ?_) (fun c_84 => ?_)
  · skip
    first | simp only [bI_0, Decidable.not_not, sg_mul, sg_e0, sg_l0, sg_g0, sg_le0, sg_ge0, cmp_eq, cmp_lt, cmp_ge, cmp_gt, cmp_le, lT0, lT1] at c_84 | simp only [Int32.le_iff_toInt_le, Int32.lt_iff_toInt_lt, ← Int32.toInt_inj, iT0, iT1, iT2, iT3, iT4, iT5, iT6, iT7, iT8, iT9, iT10, iT11, iT12, iT13, iT14, iT15, iT16, iT19, iT20, iT31, iT32, iT42, iT64, iT200, iT318, iT319, iT1000, iTm1, iTm2] at c_84 | skip
    refine j_aload_n X dX11_placeFrom_126 rfl 4 rfl ?_
    refine j_iconst (v := 4) X dX11_placeFrom_127 rfl ?_
    refine j_callV X dX11_placeFrom_128 (c_X11_sign l G q t n co cr po tx ty [z0, z1, z2, z3, y_5, y_11, z6, z7, z8, z9, z10, z11, v_12, v_13, v_14, v_15] rfl sf_16 4 4 rfl (by decide) (hS_sf_16 4 (by decide)) (bd_lt by_5 (by decide))) gX11_placeFrom_X11_sign rfl hy_X11_sign_V ⟨Nat.le_of_ble_eq_true rfl, Nat.le_of_ble_eq_true rfl⟩ 0 rfl rfl [0, 5, 6] rfl (by decide) rfl rfl (Nat.le_of_ble_eq_true rfl) ⟨Nat.le_of_ble_eq_true rfl, Nat.le_of_ble_eq_true rfl⟩ ?_
    rintro _ ⟨⟩ rfl
    change J p l e rm_X11_placeFrom s m args below meth c Q G A 19 0 0 131 [(12, .long x_4), (10, .long x_3), (8, .long x_2), (6, .long x_1), (0, .ref (q 0)), (1, .int (nI a)), (2, .long x), (4, .long y)] [.int (sg y_5)] [(q 0, .inr (10, mF t n q co cr po tx ty)), (q 2, aJ G 200 f1), (q 3, aJ G 200 f2), (q 4, aJ G 200 f3), (q 5, aJ G 200 f4), (q 10, aI G 320 (rg [z0, z1, z2, z3, y_5, y_11, z6, z7, z8, z9, z10, z11, v_12, v_13, v_14, v_15])), (q 11, aZ G 16 sf_16)]
    refine j_if_gt (tgt := 138) X dX11_placeFrom_131 (by decide) (fun c_131 => ?_) (fun c_131 => ?_)
    · skip
      first | simp only [bI_0, Decidable.not_not, sg_mul, sg_e0, sg_l0, sg_g0, sg_le0, sg_ge0, cmp_eq, cmp_lt, cmp_ge, cmp_gt, cmp_le, lT0, lT1] at c_131 | simp only [Int32.le_iff_toInt_le, Int32.lt_iff_toInt_lt, ← Int32.toInt_inj, iT0, iT1, iT2, iT3, iT4, iT5, iT6, iT7, iT8, iT9, iT10, iT11, iT12, iT13, iT14, iT15, iT16, iT19, iT20, iT31, iT32, iT42, iT64, iT200, iT318, iT319, iT1000, iTm1, iTm2] at c_131 | skip
      exact absurd c_131 (by omega)
    · skip
      first | simp only [bI_0, Decidable.not_not, sg_mul, sg_e0, sg_l0, sg_g0, sg_le0, sg_ge0, cmp_eq, cmp_lt, cmp_ge, cmp_gt, cmp_le, lT0, lT1] at c_131 | simp only [Int32.le_iff_toInt_le, Int32.lt_iff_toInt_lt, ← Int32.toInt_inj, iT0, iT1, iT2, iT3, iT4, iT5, iT6, iT7, iT8, iT9, iT10, iT11, iT12, iT13, iT14, iT15, iT16, iT19, iT20, iT31, iT32, iT42, iT64, iT200, iT318, iT319, iT1000, iTm1, iTm2] at c_131 | skip
      refine j_iconst (v := 1) X dX11_placeFrom_134 rfl ?_
      refine j_goto (tgt := 139) X dX11_placeFrom_135 (by decide) ?_
      refine j_istore (L' := [(14, .int 1), (12, .long x_4), (10, .long x_3), (8, .long x_2), (6, .long x_1), (0, .ref (q 0)), (1, .int (nI a)), (2, .long x), (4, .long y)]) X dX11_placeFrom_139 (by decide) rfl ?_
      refine j_iload X dX11_placeFrom_141 0 rfl ?_
      refine j_if_eq (tgt := 151) X dX11_placeFrom_143 (by decide) (fun c9 => absurd c9 (by decide)) (fun _ => ?_)
      refine j_lload X dX11_placeFrom_146 2 rfl ?_
      refine j_goto (tgt := 159) X dX11_placeFrom_148 (by decide) ?_
      refine j_lstore (L' := [(15, .long x_3), (14, .int 1), (12, .long x_4), (10, .long x_3), (8, .long x_2), (6, .long x_1), (0, .ref (q 0)), (1, .int (nI a)), (2, .long x), (4, .long y)]) X dX11_placeFrom_159 (by decide) rfl ?_
      refine j_iload X dX11_placeFrom_161 1 rfl ?_
      refine j_if_eq (tgt := 171) X dX11_placeFrom_163 (by decide) (fun c9 => absurd c9 (by decide)) (fun _ => ?_)
      refine j_lload X dX11_placeFrom_166 2 rfl ?_
      refine j_goto (tgt := 180) X dX11_placeFrom_168 (by decide) ?_
      refine j_lstore (L' := [(17, .long x_4), (15, .long x_3), (14, .int 1), (12, .long x_4), (10, .long x_3), (8, .long x_2), (6, .long x_1), (0, .ref (q 0)), (1, .int (nI a)), (2, .long x), (4, .long y)]) X dX11_placeFrom_180 (by decide) rfl ?_
      refine j_aload_n X dX11_placeFrom_182 rfl 7 rfl ?_
      refine j_bipush (v := 6) X dX11_placeFrom_183 (by decide) ?_
      refine j_lload X dX11_placeFrom_185 1 rfl ?_
      refine j_lload X dX11_placeFrom_187 1 rfl ?_
      refine j_lload X dX11_placeFrom_189 0 rfl ?_
      refine j_lload X dX11_placeFrom_191 0 rfl ?_
      refine j_iconst (v := 0) X dX11_placeFrom_193 rfl ?_
      obtain ⟨y_17, ey_17⟩ : ∃ zz9 : Int, zz9 = x_3.toInt * x_3.toInt + x_4.toInt * x_4.toInt := ⟨_, rfl⟩
      have by_17 : bd 83 y_17 := by rw [ey_17]; exact bd_add (bd_mono (bd_mul bx_3 bx_3) (by decide)) (bd_mono (bd_mul bx_4 bx_4) (by decide))
      refine j_callV X dX11_placeFrom_194 (n_products l G q t n co cr po tx ty [z0, z1, z2, z3, y_5, y_11, z6, z7, z8, z9, z10, z11, v_12, v_13, v_14, v_15] sf_16 rfl hS_sf_16 6 6 rfl (by decide) x_3 x_3 x_4 x_4 0 (Or.inl rfl) y_17 ey_17) gX11_placeFrom_X11_products rfl hy_X11_products_V ⟨Nat.le_of_ble_eq_true rfl, Nat.le_of_ble_eq_true rfl⟩ 0 rfl rfl [0, 5, 6] rfl (by decide) rfl rfl (Nat.le_of_ble_eq_true rfl) ⟨Nat.le_of_ble_eq_true rfl, Nat.le_of_ble_eq_true rfl⟩ ?_
      rintro _ ⟨v_18, v_19, v_20, v_21, sf_22⟩ ⟨rfl, hS_sf_22⟩
      change J p l e rm_X11_placeFrom s m args below meth c Q G A 19 0 0 197 [(17, .long x_4), (15, .long x_3), (14, .int 1), (12, .long x_4), (10, .long x_3), (8, .long x_2), (6, .long x_1), (0, .ref (q 0)), (1, .int (nI a)), (2, .long x), (4, .long y)] [] [(q 0, .inr (10, mF t n q co cr po tx ty)), (q 2, aJ G 200 f1), (q 3, aJ G 200 f2), (q 4, aJ G 200 f3), (q 5, aJ G 200 f4), (q 10, aI G 320 (rg [z0, z1, z2, z3, y_5, y_11, y_17, z7, z8, z9, z10, z11, v_18, v_19, v_20, v_21])), (q 11, aZ G 16 sf_22)]
      refine j_aload_n X dX11_placeFrom_197 rfl 7 rfl ?_
      refine j_bipush (v := 7) X dX11_placeFrom_198 (by decide) ?_
      refine j_lconst (v := 1) X dX11_placeFrom_200 rfl ?_
      obtain ⟨y_23, ey_23⟩ : ∃ zz9 : Int, zz9 = 1 := ⟨_, rfl⟩
      have by_23 : bd 1 y_23 := by rw [ey_23]; exact (by decide : Int.natAbs 1 ≤ 2 ^ 1)
      refine j_callV X dX11_placeFrom_201 (n_load l G q t n co cr po tx ty [z0, z1, z2, z3, y_5, y_11, y_17, z7, z8, z9, z10, z11, v_18, v_19, v_20, v_21] sf_22 rfl hS_sf_22 7 7 rfl (by decide) 1 y_23 (by rw [ey_23]; rfl)) gX11_placeFrom_X11_load rfl hy_X11_load_V ⟨Nat.le_of_ble_eq_true rfl, Nat.le_of_ble_eq_true rfl⟩ 0 rfl rfl [0, 5, 6] rfl (by decide) rfl rfl (Nat.le_of_ble_eq_true rfl) ⟨Nat.le_of_ble_eq_true rfl, Nat.le_of_ble_eq_true rfl⟩ ?_
      rintro _ sf_24 ⟨rfl, hS_sf_24⟩
      change J p l e rm_X11_placeFrom s m args below meth c Q G A 19 0 0 204 [(17, .long x_4), (15, .long x_3), (14, .int 1), (12, .long x_4), (10, .long x_3), (8, .long x_2), (6, .long x_1), (0, .ref (q 0)), (1, .int (nI a)), (2, .long x), (4, .long y)] [] [(q 0, .inr (10, mF t n q co cr po tx ty)), (q 2, aJ G 200 f1), (q 3, aJ G 200 f2), (q 4, aJ G 200 f3), (q 5, aJ G 200 f4), (q 10, aI G 320 (rg [z0, z1, z2, z3, y_5, y_11, y_17, y_23, z8, z9, z10, z11, v_18, v_19, v_20, v_21])), (q 11, aZ G 16 sf_24)]
      exact E.1 204 _ (y_5, y_11, y_17, y_23, v_18, v_19, v_20, v_21, sf_24) dX11_placeFrom_204 (⟨rfl, (pd_2 tx_1 tx_2 tx_3 tx_4 ey_5 c_84 ey_17).1, (ey_23.trans (pd_2 tx_1 tx_2 tx_3 tx_4 ey_5 c_84 ey_17).2), hS_sf_24⟩) hr
  · skip
    first | simp only [bI_0, Decidable.not_not, sg_mul, sg_e0, sg_l0, sg_g0, sg_le0, sg_ge0, cmp_eq, cmp_lt, cmp_ge, cmp_gt, cmp_le, lT0, lT1] at c_84 | simp only [Int32.le_iff_toInt_le, Int32.lt_iff_toInt_lt, ← Int32.toInt_inj, iT0, iT1, iT2, iT3, iT4, iT5, iT6, iT7, iT8, iT9, iT10, iT11, iT12, iT13, iT14, iT15, iT16, iT19, iT20, iT31, iT32, iT42, iT64, iT200, iT318, iT319, iT1000, iTm1, iTm2] at c_84 | skip
    refine j_aload_n X dX11_placeFrom_87 rfl 4 rfl ?_
    refine j_iconst (v := 4) X dX11_placeFrom_88 rfl ?_
    refine j_iconst (v := 5) X dX11_placeFrom_89 rfl ?_
    refine j_callV X dX11_placeFrom_90 (c_X11_sizes l G q t n co cr po tx ty [z0, z1, z2, z3, y_5, y_11, z6, z7, z8, z9, z10, z11, v_12, v_13, v_14, v_15] rfl sf_16 4 4 rfl (by decide) 5 5 rfl (by decide) (bd_lt by_5 (by decide)) (bd_lt by_11 (by decide))) gX11_placeFrom_X11_sizes rfl hy_X11_sizes_V ⟨Nat.le_of_ble_eq_true rfl, Nat.le_of_ble_eq_true rfl⟩ 0 rfl rfl [0, 5, 6] rfl (by decide) rfl rfl (Nat.le_of_ble_eq_true rfl) ⟨Nat.le_of_ble_eq_true rfl, Nat.le_of_ble_eq_true rfl⟩ ?_
    rintro _ ⟨⟩ rfl
    change J p l e rm_X11_placeFrom s m args below meth c Q G A 19 0 0 93 [(12, .long x_4), (10, .long x_3), (8, .long x_2), (6, .long x_1), (0, .ref (q 0)), (1, .int (nI a)), (2, .long x), (4, .long y)] [.int (sg ((y_5.natAbs : Int) - (y_11.natAbs : Int)))] [(q 0, .inr (10, mF t n q co cr po tx ty)), (q 2, aJ G 200 f1), (q 3, aJ G 200 f2), (q 4, aJ G 200 f3), (q 5, aJ G 200 f4), (q 10, aI G 320 (rg [z0, z1, z2, z3, y_5, y_11, z6, z7, z8, z9, z10, z11, v_12, v_13, v_14, v_15])), (q 11, aZ G 16 sf_16)]
    refine j_if_ge (tgt := 126) X dX11_placeFrom_93 (by decide) (fun c_93 => ?_) (fun c_93 => ?_)
    · skip
      first | simp only [bI_0, Decidable.not_not, sg_mul, sg_e0, sg_l0, sg_g0, sg_le0, sg_ge0, cmp_eq, cmp_lt, cmp_ge, cmp_gt, cmp_le, lT0, lT1] at c_93 | simp only [Int32.le_iff_toInt_le, Int32.lt_iff_toInt_lt, ← Int32.toInt_inj, iT0, iT1, iT2, iT3, iT4, iT5, iT6, iT7, iT8, iT9, iT10, iT11, iT12, iT13, iT14, iT15, iT16, iT19, iT20, iT31, iT32, iT42, iT64, iT200, iT318, iT319, iT1000, iTm1, iTm2] at c_93 | skip
      refine j_aload_n X dX11_placeFrom_126 rfl 4 rfl ?_
      refine j_iconst (v := 4) X dX11_placeFrom_127 rfl ?_
      refine j_callV X dX11_placeFrom_128 (c_X11_sign l G q t n co cr po tx ty [z0, z1, z2, z3, y_5, y_11, z6, z7, z8, z9, z10, z11, v_12, v_13, v_14, v_15] rfl sf_16 4 4 rfl (by decide) (hS_sf_16 4 (by decide)) (bd_lt by_5 (by decide))) gX11_placeFrom_X11_sign rfl hy_X11_sign_V ⟨Nat.le_of_ble_eq_true rfl, Nat.le_of_ble_eq_true rfl⟩ 0 rfl rfl [0, 5, 6] rfl (by decide) rfl rfl (Nat.le_of_ble_eq_true rfl) ⟨Nat.le_of_ble_eq_true rfl, Nat.le_of_ble_eq_true rfl⟩ ?_
      rintro _ ⟨⟩ rfl
      change J p l e rm_X11_placeFrom s m args below meth c Q G A 19 0 0 131 [(12, .long x_4), (10, .long x_3), (8, .long x_2), (6, .long x_1), (0, .ref (q 0)), (1, .int (nI a)), (2, .long x), (4, .long y)] [.int (sg y_5)] [(q 0, .inr (10, mF t n q co cr po tx ty)), (q 2, aJ G 200 f1), (q 3, aJ G 200 f2), (q 4, aJ G 200 f3), (q 5, aJ G 200 f4), (q 10, aI G 320 (rg [z0, z1, z2, z3, y_5, y_11, z6, z7, z8, z9, z10, z11, v_12, v_13, v_14, v_15])), (q 11, aZ G 16 sf_16)]
      refine j_if_gt (tgt := 138) X dX11_placeFrom_131 (by decide) (fun c_131 => ?_) (fun c_131 => ?_)
      · skip
        first | simp only [bI_0, Decidable.not_not, sg_mul, sg_e0, sg_l0, sg_g0, sg_le0, sg_ge0, cmp_eq, cmp_lt, cmp_ge, cmp_gt, cmp_le, lT0, lT1] at c_131 | simp only [Int32.le_iff_toInt_le, Int32.lt_iff_toInt_lt, ← Int32.toInt_inj, iT0, iT1, iT2, iT3, iT4, iT5, iT6, iT7, iT8, iT9, iT10, iT11, iT12, iT13, iT14, iT15, iT16, iT19, iT20, iT31, iT32, iT42, iT64, iT200, iT318, iT319, iT1000, iTm1, iTm2] at c_131 | skip
        refine j_iconst (v := 0) X dX11_placeFrom_138 rfl ?_
        refine j_istore (L' := [(14, .int 0), (12, .long x_4), (10, .long x_3), (8, .long x_2), (6, .long x_1), (0, .ref (q 0)), (1, .int (nI a)), (2, .long x), (4, .long y)]) X dX11_placeFrom_139 (by decide) rfl ?_
        refine j_iload X dX11_placeFrom_141 0 rfl ?_
        refine j_if_eq (tgt := 151) X dX11_placeFrom_143 (by decide) (fun _ => ?_) (fun c9 => absurd c9 (by decide))
        refine j_lload_n X dX11_placeFrom_151 rfl 7 rfl ?_
        refine j_aload_n X dX11_placeFrom_152 rfl 5 rfl ?_
        refine j_get (v := .ref (q 4)) X dX11_placeFrom_153 0 rfl 5 rfl in_X11_placeFrom_X11 (by decide) fl_X11_placeFrom_20 rfl ?_
        refine j_iload_n X dX11_placeFrom_156 rfl 6 rfl ?_
        refine j_lald X dX11_placeFrom_157 3 rfl a rfl ga (by decide) ?_
        refine j_lsub X dX11_placeFrom_158 ?_
        refine j_topl (fun x_25 ex_25 => ?_)
        have tx_25 : x_25.toInt = x.toInt - (f3 a).toInt := by rw [ex_25]; exact bl_sub (bd_C bx) (bd_C ba.2.1) (by decide) (by decide)
        have bx_25 : bd 41 x_25.toInt := by rw [tx_25]; exact bd_sub (bd_mono (bd_C bx) (by decide)) (bd_mono (bd_C ba.2.1) (by decide))
        refine j_lstore (L' := [(15, .long x_25), (14, .int 0), (12, .long x_4), (10, .long x_3), (8, .long x_2), (6, .long x_1), (0, .ref (q 0)), (1, .int (nI a)), (2, .long x), (4, .long y)]) X dX11_placeFrom_159 (by decide) rfl ?_
        refine j_iload X dX11_placeFrom_161 1 rfl ?_
        refine j_if_eq (tgt := 171) X dX11_placeFrom_163 (by decide) (fun _ => ?_) (fun c9 => absurd c9 (by decide))
        refine j_lload X dX11_placeFrom_171 9 rfl ?_
        refine j_aload_n X dX11_placeFrom_173 rfl 6 rfl ?_
        refine j_get (v := .ref (q 5)) X dX11_placeFrom_174 0 rfl 6 rfl in_X11_placeFrom_X11 (by decide) fl_X11_placeFrom_23 rfl ?_
        refine j_iload_n X dX11_placeFrom_177 rfl 7 rfl ?_
        refine j_lald X dX11_placeFrom_178 4 rfl a rfl ga (by decide) ?_
        refine j_lsub X dX11_placeFrom_179 ?_
        refine j_topl (fun x_26 ex_26 => ?_)
        have tx_26 : x_26.toInt = y.toInt - (f4 a).toInt := by rw [ex_26]; exact bl_sub (bd_C by_) (bd_C ba.2.2) (by decide) (by decide)
        have bx_26 : bd 41 x_26.toInt := by rw [tx_26]; exact bd_sub (bd_mono (bd_C by_) (by decide)) (bd_mono (bd_C ba.2.2) (by decide))
        refine j_lstore (L' := [(17, .long x_26), (15, .long x_25), (14, .int 0), (12, .long x_4), (10, .long x_3), (8, .long x_2), (6, .long x_1), (0, .ref (q 0)), (1, .int (nI a)), (2, .long x), (4, .long y)]) X dX11_placeFrom_180 (by decide) rfl ?_
        refine j_aload_n X dX11_placeFrom_182 rfl 7 rfl ?_
        refine j_bipush (v := 6) X dX11_placeFrom_183 (by decide) ?_
        refine j_lload X dX11_placeFrom_185 1 rfl ?_
        refine j_lload X dX11_placeFrom_187 1 rfl ?_
        refine j_lload X dX11_placeFrom_189 0 rfl ?_
        refine j_lload X dX11_placeFrom_191 0 rfl ?_
        refine j_iconst (v := 0) X dX11_placeFrom_193 rfl ?_
        obtain ⟨y_27, ey_27⟩ : ∃ zz9 : Int, zz9 = x_25.toInt * x_25.toInt + x_26.toInt * x_26.toInt := ⟨_, rfl⟩
        have by_27 : bd 83 y_27 := by rw [ey_27]; exact bd_add (bd_mono (bd_mul bx_25 bx_25) (by decide)) (bd_mono (bd_mul bx_26 bx_26) (by decide))
        refine j_callV X dX11_placeFrom_194 (n_products l G q t n co cr po tx ty [z0, z1, z2, z3, y_5, y_11, z6, z7, z8, z9, z10, z11, v_12, v_13, v_14, v_15] sf_16 rfl hS_sf_16 6 6 rfl (by decide) x_25 x_25 x_26 x_26 0 (Or.inl rfl) y_27 ey_27) gX11_placeFrom_X11_products rfl hy_X11_products_V ⟨Nat.le_of_ble_eq_true rfl, Nat.le_of_ble_eq_true rfl⟩ 0 rfl rfl [0, 5, 6] rfl (by decide) rfl rfl (Nat.le_of_ble_eq_true rfl) ⟨Nat.le_of_ble_eq_true rfl, Nat.le_of_ble_eq_true rfl⟩ ?_
        rintro _ ⟨v_28, v_29, v_30, v_31, sf_32⟩ ⟨rfl, hS_sf_32⟩
        change J p l e rm_X11_placeFrom s m args below meth c Q G A 19 0 0 197 [(17, .long x_26), (15, .long x_25), (14, .int 0), (12, .long x_4), (10, .long x_3), (8, .long x_2), (6, .long x_1), (0, .ref (q 0)), (1, .int (nI a)), (2, .long x), (4, .long y)] [] [(q 0, .inr (10, mF t n q co cr po tx ty)), (q 2, aJ G 200 f1), (q 3, aJ G 200 f2), (q 4, aJ G 200 f3), (q 5, aJ G 200 f4), (q 10, aI G 320 (rg [z0, z1, z2, z3, y_5, y_11, y_27, z7, z8, z9, z10, z11, v_28, v_29, v_30, v_31])), (q 11, aZ G 16 sf_32)]
        refine j_aload_n X dX11_placeFrom_197 rfl 7 rfl ?_
        refine j_bipush (v := 7) X dX11_placeFrom_198 (by decide) ?_
        refine j_lconst (v := 1) X dX11_placeFrom_200 rfl ?_
        obtain ⟨y_33, ey_33⟩ : ∃ zz9 : Int, zz9 = 1 := ⟨_, rfl⟩
        have by_33 : bd 1 y_33 := by rw [ey_33]; exact (by decide : Int.natAbs 1 ≤ 2 ^ 1)
        refine j_callV X dX11_placeFrom_201 (n_load l G q t n co cr po tx ty [z0, z1, z2, z3, y_5, y_11, y_27, z7, z8, z9, z10, z11, v_28, v_29, v_30, v_31] sf_32 rfl hS_sf_32 7 7 rfl (by decide) 1 y_33 (by rw [ey_33]; rfl)) gX11_placeFrom_X11_load rfl hy_X11_load_V ⟨Nat.le_of_ble_eq_true rfl, Nat.le_of_ble_eq_true rfl⟩ 0 rfl rfl [0, 5, 6] rfl (by decide) rfl rfl (Nat.le_of_ble_eq_true rfl) ⟨Nat.le_of_ble_eq_true rfl, Nat.le_of_ble_eq_true rfl⟩ ?_
        rintro _ sf_34 ⟨rfl, hS_sf_34⟩
        change J p l e rm_X11_placeFrom s m args below meth c Q G A 19 0 0 204 [(17, .long x_26), (15, .long x_25), (14, .int 0), (12, .long x_4), (10, .long x_3), (8, .long x_2), (6, .long x_1), (0, .ref (q 0)), (1, .int (nI a)), (2, .long x), (4, .long y)] [] [(q 0, .inr (10, mF t n q co cr po tx ty)), (q 2, aJ G 200 f1), (q 3, aJ G 200 f2), (q 4, aJ G 200 f3), (q 5, aJ G 200 f4), (q 10, aI G 320 (rg [z0, z1, z2, z3, y_5, y_11, y_27, y_33, z8, z9, z10, z11, v_28, v_29, v_30, v_31])), (q 11, aZ G 16 sf_34)]
        exact E.1 204 _ (y_5, y_11, y_27, y_33, v_28, v_29, v_30, v_31, sf_34) dX11_placeFrom_204 (⟨rfl, (pd_3 tx_1 tx_2 tx_3 tx_4 ey_5 ey_11 c_84 c_93 tx_25 tx_26 ey_27).1, (ey_33.trans (pd_3 tx_1 tx_2 tx_3 tx_4 ey_5 ey_11 c_84 c_93 tx_25 tx_26 ey_27).2), hS_sf_34⟩) hr
      · skip
        first | simp only [bI_0, Decidable.not_not, sg_mul, sg_e0, sg_l0, sg_g0, sg_le0, sg_ge0, cmp_eq, cmp_lt, cmp_ge, cmp_gt, cmp_le, lT0, lT1] at c_131 | simp only [Int32.le_iff_toInt_le, Int32.lt_iff_toInt_lt, ← Int32.toInt_inj, iT0, iT1, iT2, iT3, iT4, iT5, iT6, iT7, iT8, iT9, iT10, iT11, iT12, iT13, iT14, iT15, iT16, iT19, iT20, iT31, iT32, iT42, iT64, iT200, iT318, iT319, iT1000, iTm1, iTm2] at c_131 | skip
        exact absurd c_131 (by omega)
    · skip
      first | simp only [bI_0, Decidable.not_not, sg_mul, sg_e0, sg_l0, sg_g0, sg_le0, sg_ge0, cmp_eq, cmp_lt, cmp_ge, cmp_gt, cmp_le, lT0, lT1] at c_93 | simp only [Int32.le_iff_toInt_le, Int32.lt_iff_toInt_lt, ← Int32.toInt_inj, iT0, iT1, iT2, iT3, iT4, iT5, iT6, iT7, iT8, iT9, iT10, iT11, iT12, iT13, iT14, iT15, iT16, iT19, iT20, iT31, iT32, iT42, iT64, iT200, iT318, iT319, iT1000, iTm1, iTm2] at c_93 | skip
      refine j_aload_n X dX11_placeFrom_96 rfl 4 rfl ?_
      refine j_iconst (v := 4) X dX11_placeFrom_97 rfl ?_
      refine j_lload X dX11_placeFrom_98 3 rfl ?_
      refine j_lload X dX11_placeFrom_100 0 rfl ?_
      refine j_lload X dX11_placeFrom_102 2 rfl ?_
      refine j_lload X dX11_placeFrom_104 1 rfl ?_
      refine j_iconst (v := 1) X dX11_placeFrom_106 rfl ?_
      obtain ⟨y_35, ey_35⟩ : ∃ zz9 : Int, zz9 = x_1.toInt * x_4.toInt - x_3.toInt * x_2.toInt := ⟨_, rfl⟩
      have by_35 : bd 83 y_35 := by rw [ey_35]; exact bd_sub (bd_mono (bd_mul bx_1 bx_4) (by decide)) (bd_mono (bd_mul bx_3 bx_2) (by decide))
      refine j_callV X dX11_placeFrom_107 (n_products l G q t n co cr po tx ty [z0, z1, z2, z3, y_5, y_11, z6, z7, z8, z9, z10, z11, v_12, v_13, v_14, v_15] sf_16 rfl hS_sf_16 4 4 rfl (by decide) x_1 x_4 x_2 x_3 1 (Or.inr rfl) y_35 ey_35) gX11_placeFrom_X11_products rfl hy_X11_products_V ⟨Nat.le_of_ble_eq_true rfl, Nat.le_of_ble_eq_true rfl⟩ 0 rfl rfl [0, 5, 6] rfl (by decide) rfl rfl (Nat.le_of_ble_eq_true rfl) ⟨Nat.le_of_ble_eq_true rfl, Nat.le_of_ble_eq_true rfl⟩ ?_
      rintro _ ⟨v_36, v_37, v_38, v_39, sf_40⟩ ⟨rfl, hS_sf_40⟩
      change J p l e rm_X11_placeFrom s m args below meth c Q G A 19 0 0 110 [(12, .long x_4), (10, .long x_3), (8, .long x_2), (6, .long x_1), (0, .ref (q 0)), (1, .int (nI a)), (2, .long x), (4, .long y)] [] [(q 0, .inr (10, mF t n q co cr po tx ty)), (q 2, aJ G 200 f1), (q 3, aJ G 200 f2), (q 4, aJ G 200 f3), (q 5, aJ G 200 f4), (q 10, aI G 320 (rg [z0, z1, z2, z3, y_35, y_11, z6, z7, z8, z9, z10, z11, v_36, v_37, v_38, v_39])), (q 11, aZ G 16 sf_40)]
      refine j_aload_n X dX11_placeFrom_110 rfl 4 rfl ?_
      refine j_bipush (v := 6) X dX11_placeFrom_111 (by decide) ?_
      refine j_iconst (v := 4) X dX11_placeFrom_113 rfl ?_
      refine j_iconst (v := 4) X dX11_placeFrom_114 rfl ?_
      obtain ⟨y_41, ey_41⟩ : ∃ zz9 : Int, zz9 = y_35 * y_35 := ⟨_, rfl⟩
      have by_41 : bd 166 y_41 := by rw [ey_41]; exact bd_mul by_35 by_35
      refine j_callV X dX11_placeFrom_115 (n_mul l G q t n co cr po tx ty [z0, z1, z2, z3, y_35, y_11, z6, z7, z8, z9, z10, z11, v_36, v_37, v_38, v_39] sf_40 rfl hS_sf_40 6 6 rfl (by decide) 4 4 rfl (by decide) 4 4 rfl (by decide) (by decide) (by decide) y_41 ey_41) gX11_placeFrom_X11_multiply rfl hy_X11_multiply_V ⟨Nat.le_of_ble_eq_true rfl, Nat.le_of_ble_eq_true rfl⟩ 0 rfl rfl [0, 5, 6] rfl (by decide) rfl rfl (Nat.le_of_ble_eq_true rfl) ⟨Nat.le_of_ble_eq_true rfl, Nat.le_of_ble_eq_true rfl⟩ ?_
      rintro _ sf_42 ⟨rfl, hS_sf_42⟩
      change J p l e rm_X11_placeFrom s m args below meth c Q G A 19 0 0 118 [(12, .long x_4), (10, .long x_3), (8, .long x_2), (6, .long x_1), (0, .ref (q 0)), (1, .int (nI a)), (2, .long x), (4, .long y)] [] [(q 0, .inr (10, mF t n q co cr po tx ty)), (q 2, aJ G 200 f1), (q 3, aJ G 200 f2), (q 4, aJ G 200 f3), (q 5, aJ G 200 f4), (q 10, aI G 320 (rg [z0, z1, z2, z3, y_35, y_11, y_41, z7, z8, z9, z10, z11, v_36, v_37, v_38, v_39])), (q 11, aZ G 16 sf_42)]
      refine j_aload_n X dX11_placeFrom_118 rfl 4 rfl ?_
      refine j_bipush (v := 7) X dX11_placeFrom_119 (by decide) ?_
      refine j_iconst (v := 5) X dX11_placeFrom_121 rfl ?_
      refine j_callV X dX11_placeFrom_122 (h_copy l G q t n co cr po tx ty [z0, z1, z2, z3, y_35, y_11, y_41, z7, z8, z9, z10, z11, v_36, v_37, v_38, v_39] sf_42 rfl hS_sf_42 7 7 rfl (by decide) 5 5 rfl (by decide) (by decide)) gX11_placeFrom_X11_copy rfl hy_X11_copy_V ⟨Nat.le_of_ble_eq_true rfl, Nat.le_of_ble_eq_true rfl⟩ 0 rfl rfl [0, 5, 6] rfl (by decide) rfl rfl (Nat.le_of_ble_eq_true rfl) ⟨Nat.le_of_ble_eq_true rfl, Nat.le_of_ble_eq_true rfl⟩ ?_
      rintro _ sf_43 ⟨rfl, hS_sf_43⟩
      change J p l e rm_X11_placeFrom s m args below meth c Q G A 19 0 0 125 [(12, .long x_4), (10, .long x_3), (8, .long x_2), (6, .long x_1), (0, .ref (q 0)), (1, .int (nI a)), (2, .long x), (4, .long y)] [] [(q 0, .inr (10, mF t n q co cr po tx ty)), (q 2, aJ G 200 f1), (q 3, aJ G 200 f2), (q 4, aJ G 200 f3), (q 5, aJ G 200 f4), (q 10, aI G 320 (rg [z0, z1, z2, z3, y_35, y_11, y_41, y_11, z8, z9, z10, z11, v_36, v_37, v_38, v_39])), (q 11, aZ G 16 sf_43)]
      exact E.1 125 _ (y_35, y_11, y_41, y_11, v_36, v_37, v_38, v_39, sf_43) dX11_placeFrom_125 (⟨rfl, (pd_1 tx_1 tx_2 tx_3 tx_4 ey_5 ey_11 c_84 c_93 ey_35 ey_41).1, (pd_1 tx_1 tx_2 tx_3 tx_4 ey_5 ey_11 c_84 c_93 ey_35 ey_41).2, hS_sf_43⟩) hr

theorem hy_X11_placeFrom_V : yX11_placeFrom.cls = RX11 ∧ yX11_placeFrom.cls ≠ "java/lang/invoke/MethodHandle" ∧ yX11_placeFrom.cls ≠ "java/lang/invoke/VarHandle" ∧ (parseMethodDescriptor yX11_placeFrom.desc).map (fun d => d.parameters.length) = some 3 := by decide +kernel
abbrev rm_X11_nearest : Room := { frames := 4, cells := 0, slots := 0, locals := 124 }
theorem in_X11_nearest_X11 : ∀ w ∈ u_ws RX11 TX11 19, w ∈ wsX11_nearest := by decide +kernel
theorem fl_X11_nearest_13 : Cond.fieldLink RX11 13 (TX11 3).1 (TX11 3).2.1 (TX11 3).2.2.1 ∈ wsX11_nearest := by decide +kernel
theorem fl_X11_nearest_17 : Cond.fieldLink RX11 17 (TX11 4).1 (TX11 4).2.1 (TX11 4).2.2.1 ∈ wsX11_nearest := by decide +kernel
set_option maxHeartbeats 4000000 in
set_option maxRecDepth 100000 in
theorem c_X11_nearest_0 (l : Launch) (G : jG) (q : Nat → Nat) (t n co cr po : Int32) (tx ty : Int64) (z0 z1 z2 z3 z4 z5 z6 z7 z8 z9 z10 z11 z12 z13 z14 z15 : Int) (sf : Nat → Int32) (hS : okS [z0, z1, z2, z3, z4, z5, z6, z7, z8, z9, z10, z11, z12, z13, z14, z15] sf) (f1 f2 f3 f4 : Nat → Int64) (a b : Nat) (ba : (inC (f1 a).toInt ∧ inC (f2 a).toInt) ∧ inC (f3 a).toInt ∧ inC (f4 a).toInt) (ga : a < 200) (bb : (inC (f1 b).toInt ∧ inC (f2 b).toInt) ∧ inC (f3 b).toInt ∧ inC (f4 b).toInt) (gb : b < 200) (h8 : 0 ≤ z8) (h9 : 0 < z9) (b8 : bd 166 z8) (b9 : bd 83 z9) : Ct l yX11_nearest wsX11_nearest rm_X11_nearest G [.ref (q 0), .int (nI a), .int (nI b), .int 0] [(q 0, .inr (10, mF t n q co cr po tx ty)), (q 2, aJ G 200 f1), (q 3, aJ G 200 f2), (q 4, aJ G 200 f3), (q 5, aJ G 200 f4), (q 10, aI G 320 (rg [z0, z1, z2, z3, z4, z5, z6, z7, z8, z9, z10, z11, z12, z13, z14, z15])), (q 11, aZ G 16 sf)] (S := Int × Int × Int × Int × Int × Int × Int × Int × Int × Int × Int × Int × (Nat → Int32)) (fun r u => r = none ∧ u.2.2.2.2.1 = (mn (z8, z9) (pd (f1 a).toInt (f2 a).toInt (f3 a).toInt (f4 a).toInt (f1 b).toInt (f2 b).toInt)).1 ∧ u.2.2.2.2.2.1 = (mn (z8, z9) (pd (f1 a).toInt (f2 a).toInt (f3 a).toInt (f4 a).toInt (f1 b).toInt (f2 b).toInt)).2 ∧ okS [z0, z1, z2, z3, u.1, u.2.1, u.2.2.1, u.2.2.2.1, u.2.2.2.2.1, u.2.2.2.2.2.1, u.2.2.2.2.2.2.1, u.2.2.2.2.2.2.2.1, u.2.2.2.2.2.2.2.2.1, u.2.2.2.2.2.2.2.2.2.1, u.2.2.2.2.2.2.2.2.2.2.1, u.2.2.2.2.2.2.2.2.2.2.2.1] u.2.2.2.2.2.2.2.2.2.2.2.2) (fun u => [(q 0, .inr (10, mF t n q co cr po tx ty)), (q 2, aJ G 200 f1), (q 3, aJ G 200 f2), (q 4, aJ G 200 f3), (q 5, aJ G 200 f4), (q 10, aI G 320 (rg [z0, z1, z2, z3, u.1, u.2.1, u.2.2.1, u.2.2.2.1, u.2.2.2.2.1, u.2.2.2.2.2.1, u.2.2.2.2.2.2.1, u.2.2.2.2.2.2.2.1, u.2.2.2.2.2.2.2.2.1, u.2.2.2.2.2.2.2.2.2.1, u.2.2.2.2.2.2.2.2.2.2.1, u.2.2.2.2.2.2.2.2.2.2.2.1])), (q 11, aZ G 16 u.2.2.2.2.2.2.2.2.2.2.2.2)]) (fun _ => []) := by
  refine c_intro (cc := cX11_nearest) (maxL := 4) (ret := none) (by decide) rfl (Nat.le_of_ble_eq_true rfl) (fun _ => by simp only [List.map_cons, List.map_nil]) ?_
  intro p e s m args below meth c Q A X hr hin E
  change J p l e rm_X11_nearest s m args below meth c Q G A 4 0 0 0 [(0, .ref (q 0)), (1, .int (nI a)), (2, .int (nI b)), (3, .int 0)] [] [(q 0, .inr (10, mF t n q co cr po tx ty)), (q 2, aJ G 200 f1), (q 3, aJ G 200 f2), (q 4, aJ G 200 f3), (q 5, aJ G 200 f4), (q 10, aI G 320 (rg [z0, z1, z2, z3, z4, z5, z6, z7, z8, z9, z10, z11, z12, z13, z14, z15])), (q 11, aZ G 16 sf)]
  refine j_aload_n X dX11_nearest_0 rfl 0 rfl ?_
  refine j_iload_n X dX11_nearest_1 rfl 1 rfl ?_
  refine j_iload_n X dX11_nearest_2 rfl 3 rfl ?_
  refine j_if_ne (tgt := 15) X dX11_nearest_3 (by decide) (fun c9 => absurd c9 (by decide)) (fun _ => ?_)
  refine j_aload_n X dX11_nearest_6 rfl 0 rfl ?_
  refine j_get (v := .ref (q 2)) X dX11_nearest_7 0 rfl 3 rfl in_X11_nearest_X11 (by decide) fl_X11_nearest_13 rfl ?_
  refine j_iload_n X dX11_nearest_10 rfl 2 rfl ?_
  refine j_lald X dX11_nearest_11 1 rfl b rfl gb (by decide) ?_
  refine j_goto (tgt := 21) X dX11_nearest_12 (by decide) ?_
  refine j_iload_n X dX11_nearest_21 rfl 3 rfl ?_
  refine j_if_ne (tgt := 34) X dX11_nearest_22 (by decide) (fun c9 => absurd c9 (by decide)) (fun _ => ?_)
  refine j_aload_n X dX11_nearest_25 rfl 0 rfl ?_
  refine j_get (v := .ref (q 3)) X dX11_nearest_26 0 rfl 4 rfl in_X11_nearest_X11 (by decide) fl_X11_nearest_17 rfl ?_
  refine j_iload_n X dX11_nearest_29 rfl 2 rfl ?_
  refine j_lald X dX11_nearest_30 2 rfl b rfl gb (by decide) ?_
  refine j_goto (tgt := 40) X dX11_nearest_31 (by decide) ?_
  refine j_callV X dX11_nearest_40 (c_X11_placeFrom l G q t n co cr po tx ty z0 z1 z2 z3 z4 z5 z6 z7 z8 z9 z10 z11 z12 z13 z14 z15 sf hS f1 f2 f3 f4 a ba ga (f1 b) (f2 b) bb.1.1 bb.1.2) gX11_nearest_X11_placeFrom rfl hy_X11_placeFrom_V ⟨Nat.le_of_ble_eq_true rfl, Nat.le_of_ble_eq_true rfl⟩ 0 rfl rfl [0, 1, 2, 3, 4, 5, 6] rfl (by decide) rfl rfl (Nat.le_of_ble_eq_true rfl) ⟨Nat.le_of_ble_eq_true rfl, Nat.le_of_ble_eq_true rfl⟩ ?_
  rintro _ ⟨y_2, y_3, y_4, y_5, y_6, y_7, y_8, y_9, sf_1⟩ ⟨rfl, ey_4, ey_5, hS_sf_1⟩
  dsimp only at ey_4 ey_5 hS_sf_1
  change J p l e rm_X11_nearest s m args below meth c Q G A 4 0 0 43 [(0, .ref (q 0)), (1, .int (nI a)), (2, .int (nI b)), (3, .int 0)] [] [(q 0, .inr (10, mF t n q co cr po tx ty)), (q 2, aJ G 200 f1), (q 3, aJ G 200 f2), (q 4, aJ G 200 f3), (q 5, aJ G 200 f4), (q 10, aI G 320 (rg [z0, z1, z2, z3, y_2, y_3, y_4, y_5, z8, z9, z10, z11, y_6, y_7, y_8, y_9])), (q 11, aZ G 16 sf_1)]
  have by_4 : bd 166 y_4 := by rw [ey_4]; exact (pd_bd ba.1.1 ba.1.2 ba.2.1 ba.2.2 bb.1.1 bb.1.2).1
  have by_5 : bd 83 y_5 := by rw [ey_5]; exact (pd_bd ba.1.1 ba.1.2 ba.2.1 ba.2.2 bb.1.1 bb.1.2).2
  refine j_aload_n X dX11_nearest_43 rfl 0 rfl ?_
  refine j_bipush (v := 10) X dX11_nearest_44 (by decide) ?_
  refine j_bipush (v := 6) X dX11_nearest_46 (by decide) ?_
  refine j_bipush (v := 9) X dX11_nearest_48 (by decide) ?_
  obtain ⟨y_10, ey_10⟩ : ∃ zz9 : Int, zz9 = y_4 * z9 := ⟨_, rfl⟩
  have by_10 : bd 249 y_10 := by rw [ey_10]; exact bd_mul by_4 b9
  refine j_callV X dX11_nearest_50 (n_mul l G q t n co cr po tx ty [z0, z1, z2, z3, y_2, y_3, y_4, y_5, z8, z9, z10, z11, y_6, y_7, y_8, y_9] sf_1 rfl hS_sf_1 10 10 rfl (by decide) 6 6 rfl (by decide) 9 9 rfl (by decide) (by decide) (by decide) y_10 ey_10) gX11_nearest_X11_multiply rfl hy_X11_multiply_V ⟨Nat.le_of_ble_eq_true rfl, Nat.le_of_ble_eq_true rfl⟩ 0 rfl rfl [0, 5, 6] rfl (by decide) rfl rfl (Nat.le_of_ble_eq_true rfl) ⟨Nat.le_of_ble_eq_true rfl, Nat.le_of_ble_eq_true rfl⟩ ?_
  rintro _ sf_11 ⟨rfl, hS_sf_11⟩
  change J p l e rm_X11_nearest s m args below meth c Q G A 4 0 0 53 [(0, .ref (q 0)), (1, .int (nI a)), (2, .int (nI b)), (3, .int 0)] [] [(q 0, .inr (10, mF t n q co cr po tx ty)), (q 2, aJ G 200 f1), (q 3, aJ G 200 f2), (q 4, aJ G 200 f3), (q 5, aJ G 200 f4), (q 10, aI G 320 (rg [z0, z1, z2, z3, y_2, y_3, y_4, y_5, z8, z9, y_10, z11, y_6, y_7, y_8, y_9])), (q 11, aZ G 16 sf_11)]
  refine j_aload_n X dX11_nearest_53 rfl 0 rfl ?_
  refine j_bipush (v := 11) X dX11_nearest_54 (by decide) ?_
  refine j_bipush (v := 8) X dX11_nearest_56 (by decide) ?_
  refine j_bipush (v := 7) X dX11_nearest_58 (by decide) ?_
  obtain ⟨y_12, ey_12⟩ : ∃ zz9 : Int, zz9 = z8 * y_5 := ⟨_, rfl⟩
  have by_12 : bd 249 y_12 := by rw [ey_12]; exact bd_mul b8 by_5
  refine j_callV X dX11_nearest_60 (n_mul l G q t n co cr po tx ty [z0, z1, z2, z3, y_2, y_3, y_4, y_5, z8, z9, y_10, z11, y_6, y_7, y_8, y_9] sf_11 rfl hS_sf_11 11 11 rfl (by decide) 8 8 rfl (by decide) 7 7 rfl (by decide) (by decide) (by decide) y_12 ey_12) gX11_nearest_X11_multiply rfl hy_X11_multiply_V ⟨Nat.le_of_ble_eq_true rfl, Nat.le_of_ble_eq_true rfl⟩ 0 rfl rfl [0, 5, 6] rfl (by decide) rfl rfl (Nat.le_of_ble_eq_true rfl) ⟨Nat.le_of_ble_eq_true rfl, Nat.le_of_ble_eq_true rfl⟩ ?_
  rintro _ sf_13 ⟨rfl, hS_sf_13⟩
  change J p l e rm_X11_nearest s m args below meth c Q G A 4 0 0 63 [(0, .ref (q 0)), (1, .int (nI a)), (2, .int (nI b)), (3, .int 0)] [] [(q 0, .inr (10, mF t n q co cr po tx ty)), (q 2, aJ G 200 f1), (q 3, aJ G 200 f2), (q 4, aJ G 200 f3), (q 5, aJ G 200 f4), (q 10, aI G 320 (rg [z0, z1, z2, z3, y_2, y_3, y_4, y_5, z8, z9, y_10, y_12, y_6, y_7, y_8, y_9])), (q 11, aZ G 16 sf_13)]
  refine j_aload_n X dX11_nearest_63 rfl 0 rfl ?_
  refine j_bipush (v := 10) X dX11_nearest_64 (by decide) ?_
  refine j_bipush (v := 11) X dX11_nearest_66 (by decide) ?_
  refine j_callV X dX11_nearest_68 (c_X11_sizes l G q t n co cr po tx ty [z0, z1, z2, z3, y_2, y_3, y_4, y_5, z8, z9, y_10, y_12, y_6, y_7, y_8, y_9] rfl sf_13 10 10 rfl (by decide) 11 11 rfl (by decide) (bd_lt by_10 (by decide)) (bd_lt by_12 (by decide))) gX11_nearest_X11_sizes rfl hy_X11_sizes_V ⟨Nat.le_of_ble_eq_true rfl, Nat.le_of_ble_eq_true rfl⟩ 0 rfl rfl [0, 5, 6] rfl (by decide) rfl rfl (Nat.le_of_ble_eq_true rfl) ⟨Nat.le_of_ble_eq_true rfl, Nat.le_of_ble_eq_true rfl⟩ ?_
  rintro _ ⟨⟩ rfl
  change J p l e rm_X11_nearest s m args below meth c Q G A 4 0 0 71 [(0, .ref (q 0)), (1, .int (nI a)), (2, .int (nI b)), (3, .int 0)] [.int (sg ((y_10.natAbs : Int) - (y_12.natAbs : Int)))] [(q 0, .inr (10, mF t n q co cr po tx ty)), (q 2, aJ G 200 f1), (q 3, aJ G 200 f2), (q 4, aJ G 200 f3), (q 5, aJ G 200 f4), (q 10, aI G 320 (rg [z0, z1, z2, z3, y_2, y_3, y_4, y_5, z8, z9, y_10, y_12, y_6, y_7, y_8, y_9])), (q 11, aZ G 16 sf_13)]
  refine j_if_lt (tgt := 75) X dX11_nearest_71 (by decide) (fun c_71 => ?_) (fun c_71 => ?_)
  · skip
    first | simp only [bI_0, Decidable.not_not, sg_mul, sg_e0, sg_l0, sg_g0, sg_le0, sg_ge0, cmp_eq, cmp_lt, cmp_ge, cmp_gt, cmp_le, lT0, lT1] at c_71 | simp only [Int32.le_iff_toInt_le, Int32.lt_iff_toInt_lt, ← Int32.toInt_inj, iT0, iT1, iT2, iT3, iT4, iT5, iT6, iT7, iT8, iT9, iT10, iT11, iT12, iT13, iT14, iT15, iT16, iT19, iT20, iT31, iT32, iT42, iT64, iT200, iT318, iT319, iT1000, iTm1, iTm2] at c_71 | skip
    refine j_aload_n X dX11_nearest_75 rfl 0 rfl ?_
    refine j_bipush (v := 8) X dX11_nearest_76 (by decide) ?_
    refine j_bipush (v := 6) X dX11_nearest_78 (by decide) ?_
    refine j_callV X dX11_nearest_80 (h_copy l G q t n co cr po tx ty [z0, z1, z2, z3, y_2, y_3, y_4, y_5, z8, z9, y_10, y_12, y_6, y_7, y_8, y_9] sf_13 rfl hS_sf_13 8 8 rfl (by decide) 6 6 rfl (by decide) (by decide)) gX11_nearest_X11_copy rfl hy_X11_copy_V ⟨Nat.le_of_ble_eq_true rfl, Nat.le_of_ble_eq_true rfl⟩ 0 rfl rfl [0, 5, 6] rfl (by decide) rfl rfl (Nat.le_of_ble_eq_true rfl) ⟨Nat.le_of_ble_eq_true rfl, Nat.le_of_ble_eq_true rfl⟩ ?_
    rintro _ sf_14 ⟨rfl, hS_sf_14⟩
    change J p l e rm_X11_nearest s m args below meth c Q G A 4 0 0 83 [(0, .ref (q 0)), (1, .int (nI a)), (2, .int (nI b)), (3, .int 0)] [] [(q 0, .inr (10, mF t n q co cr po tx ty)), (q 2, aJ G 200 f1), (q 3, aJ G 200 f2), (q 4, aJ G 200 f3), (q 5, aJ G 200 f4), (q 10, aI G 320 (rg [z0, z1, z2, z3, y_2, y_3, y_4, y_5, y_4, z9, y_10, y_12, y_6, y_7, y_8, y_9])), (q 11, aZ G 16 sf_14)]
    refine j_aload_n X dX11_nearest_83 rfl 0 rfl ?_
    refine j_bipush (v := 9) X dX11_nearest_84 (by decide) ?_
    refine j_bipush (v := 7) X dX11_nearest_86 (by decide) ?_
    refine j_callV X dX11_nearest_88 (h_copy l G q t n co cr po tx ty [z0, z1, z2, z3, y_2, y_3, y_4, y_5, y_4, z9, y_10, y_12, y_6, y_7, y_8, y_9] sf_14 rfl hS_sf_14 9 9 rfl (by decide) 7 7 rfl (by decide) (by decide)) gX11_nearest_X11_copy rfl hy_X11_copy_V ⟨Nat.le_of_ble_eq_true rfl, Nat.le_of_ble_eq_true rfl⟩ 0 rfl rfl [0, 5, 6] rfl (by decide) rfl rfl (Nat.le_of_ble_eq_true rfl) ⟨Nat.le_of_ble_eq_true rfl, Nat.le_of_ble_eq_true rfl⟩ ?_
    rintro _ sf_15 ⟨rfl, hS_sf_15⟩
    change J p l e rm_X11_nearest s m args below meth c Q G A 4 0 0 91 [(0, .ref (q 0)), (1, .int (nI a)), (2, .int (nI b)), (3, .int 0)] [] [(q 0, .inr (10, mF t n q co cr po tx ty)), (q 2, aJ G 200 f1), (q 3, aJ G 200 f2), (q 4, aJ G 200 f3), (q 5, aJ G 200 f4), (q 10, aI G 320 (rg [z0, z1, z2, z3, y_2, y_3, y_4, y_5, y_4, y_5, y_10, y_12, y_6, y_7, y_8, y_9])), (q 11, aZ G 16 sf_15)]
    exact E.1 91 _ (y_2, y_3, y_4, y_5, y_4, y_5, y_10, y_12, y_6, y_7, y_8, y_9, sf_15) dX11_nearest_91 (⟨rfl, (mn_1 ey_4 ey_5 (pd_nn _ _ _ _ _ _) h8 h9 ey_10 ey_12 c_71).1, (mn_1 ey_4 ey_5 (pd_nn _ _ _ _ _ _) h8 h9 ey_10 ey_12 c_71).2, hS_sf_15⟩) hr
  · skip
    first | simp only [bI_0, Decidable.not_not, sg_mul, sg_e0, sg_l0, sg_g0, sg_le0, sg_ge0, cmp_eq, cmp_lt, cmp_ge, cmp_gt, cmp_le, lT0, lT1] at c_71 | simp only [Int32.le_iff_toInt_le, Int32.lt_iff_toInt_lt, ← Int32.toInt_inj, iT0, iT1, iT2, iT3, iT4, iT5, iT6, iT7, iT8, iT9, iT10, iT11, iT12, iT13, iT14, iT15, iT16, iT19, iT20, iT31, iT32, iT42, iT64, iT200, iT318, iT319, iT1000, iTm1, iTm2] at c_71 | skip
    exact E.1 74 _ (y_2, y_3, y_4, y_5, z8, z9, y_10, y_12, y_6, y_7, y_8, y_9, sf_13) dX11_nearest_74 (⟨rfl, (mn_2 ey_4 ey_5 (pd_nn _ _ _ _ _ _) h8 h9 ey_10 ey_12 c_71).1, (mn_2 ey_4 ey_5 (pd_nn _ _ _ _ _ _) h8 h9 ey_10 ey_12 c_71).2, hS_sf_13⟩) hr

theorem hy_X11_nearest_V : yX11_nearest.cls = RX11 ∧ yX11_nearest.cls ≠ "java/lang/invoke/MethodHandle" ∧ yX11_nearest.cls ≠ "java/lang/invoke/VarHandle" ∧ (parseMethodDescriptor yX11_nearest.desc).map (fun d => d.parameters.length) = some 3 := by decide +kernel
theorem fl_X11_nearest_20 : Cond.fieldLink RX11 20 (TX11 5).1 (TX11 5).2.1 (TX11 5).2.2.1 ∈ wsX11_nearest := by decide +kernel
theorem fl_X11_nearest_23 : Cond.fieldLink RX11 23 (TX11 6).1 (TX11 6).2.1 (TX11 6).2.2.1 ∈ wsX11_nearest := by decide +kernel
set_option maxHeartbeats 4000000 in
set_option maxRecDepth 100000 in
theorem c_X11_nearest_1 (l : Launch) (G : jG) (q : Nat → Nat) (t n co cr po : Int32) (tx ty : Int64) (z0 z1 z2 z3 z4 z5 z6 z7 z8 z9 z10 z11 z12 z13 z14 z15 : Int) (sf : Nat → Int32) (hS : okS [z0, z1, z2, z3, z4, z5, z6, z7, z8, z9, z10, z11, z12, z13, z14, z15] sf) (f1 f2 f3 f4 : Nat → Int64) (a b : Nat) (ba : (inC (f1 a).toInt ∧ inC (f2 a).toInt) ∧ inC (f3 a).toInt ∧ inC (f4 a).toInt) (ga : a < 200) (bb : (inC (f1 b).toInt ∧ inC (f2 b).toInt) ∧ inC (f3 b).toInt ∧ inC (f4 b).toInt) (gb : b < 200) (h8 : 0 ≤ z8) (h9 : 0 < z9) (b8 : bd 166 z8) (b9 : bd 83 z9) : Ct l yX11_nearest wsX11_nearest rm_X11_nearest G [.ref (q 0), .int (nI a), .int (nI b), .int 1] [(q 0, .inr (10, mF t n q co cr po tx ty)), (q 2, aJ G 200 f1), (q 3, aJ G 200 f2), (q 4, aJ G 200 f3), (q 5, aJ G 200 f4), (q 10, aI G 320 (rg [z0, z1, z2, z3, z4, z5, z6, z7, z8, z9, z10, z11, z12, z13, z14, z15])), (q 11, aZ G 16 sf)] (S := Int × Int × Int × Int × Int × Int × Int × Int × Int × Int × Int × Int × (Nat → Int32)) (fun r u => r = none ∧ u.2.2.2.2.1 = (mn (z8, z9) (pd (f1 a).toInt (f2 a).toInt (f3 a).toInt (f4 a).toInt (f3 b).toInt (f4 b).toInt)).1 ∧ u.2.2.2.2.2.1 = (mn (z8, z9) (pd (f1 a).toInt (f2 a).toInt (f3 a).toInt (f4 a).toInt (f3 b).toInt (f4 b).toInt)).2 ∧ okS [z0, z1, z2, z3, u.1, u.2.1, u.2.2.1, u.2.2.2.1, u.2.2.2.2.1, u.2.2.2.2.2.1, u.2.2.2.2.2.2.1, u.2.2.2.2.2.2.2.1, u.2.2.2.2.2.2.2.2.1, u.2.2.2.2.2.2.2.2.2.1, u.2.2.2.2.2.2.2.2.2.2.1, u.2.2.2.2.2.2.2.2.2.2.2.1] u.2.2.2.2.2.2.2.2.2.2.2.2) (fun u => [(q 0, .inr (10, mF t n q co cr po tx ty)), (q 2, aJ G 200 f1), (q 3, aJ G 200 f2), (q 4, aJ G 200 f3), (q 5, aJ G 200 f4), (q 10, aI G 320 (rg [z0, z1, z2, z3, u.1, u.2.1, u.2.2.1, u.2.2.2.1, u.2.2.2.2.1, u.2.2.2.2.2.1, u.2.2.2.2.2.2.1, u.2.2.2.2.2.2.2.1, u.2.2.2.2.2.2.2.2.1, u.2.2.2.2.2.2.2.2.2.1, u.2.2.2.2.2.2.2.2.2.2.1, u.2.2.2.2.2.2.2.2.2.2.2.1])), (q 11, aZ G 16 u.2.2.2.2.2.2.2.2.2.2.2.2)]) (fun _ => []) := by
  refine c_intro (cc := cX11_nearest) (maxL := 4) (ret := none) (by decide) rfl (Nat.le_of_ble_eq_true rfl) (fun _ => by simp only [List.map_cons, List.map_nil]) ?_
  intro p e s m args below meth c Q A X hr hin E
  change J p l e rm_X11_nearest s m args below meth c Q G A 4 0 0 0 [(0, .ref (q 0)), (1, .int (nI a)), (2, .int (nI b)), (3, .int 1)] [] [(q 0, .inr (10, mF t n q co cr po tx ty)), (q 2, aJ G 200 f1), (q 3, aJ G 200 f2), (q 4, aJ G 200 f3), (q 5, aJ G 200 f4), (q 10, aI G 320 (rg [z0, z1, z2, z3, z4, z5, z6, z7, z8, z9, z10, z11, z12, z13, z14, z15])), (q 11, aZ G 16 sf)]
  refine j_aload_n X dX11_nearest_0 rfl 0 rfl ?_
  refine j_iload_n X dX11_nearest_1 rfl 1 rfl ?_
  refine j_iload_n X dX11_nearest_2 rfl 3 rfl ?_
  refine j_if_ne (tgt := 15) X dX11_nearest_3 (by decide) (fun _ => ?_) (fun c9 => absurd c9 (by decide))
  refine j_aload_n X dX11_nearest_15 rfl 0 rfl ?_
  refine j_get (v := .ref (q 4)) X dX11_nearest_16 0 rfl 5 rfl in_X11_nearest_X11 (by decide) fl_X11_nearest_20 rfl ?_
  refine j_iload_n X dX11_nearest_19 rfl 2 rfl ?_
  refine j_lald X dX11_nearest_20 3 rfl b rfl gb (by decide) ?_
  refine j_iload_n X dX11_nearest_21 rfl 3 rfl ?_
  refine j_if_ne (tgt := 34) X dX11_nearest_22 (by decide) (fun _ => ?_) (fun c9 => absurd c9 (by decide))
  refine j_aload_n X dX11_nearest_34 rfl 0 rfl ?_
  refine j_get (v := .ref (q 5)) X dX11_nearest_35 0 rfl 6 rfl in_X11_nearest_X11 (by decide) fl_X11_nearest_23 rfl ?_
  refine j_iload_n X dX11_nearest_38 rfl 2 rfl ?_
  refine j_lald X dX11_nearest_39 4 rfl b rfl gb (by decide) ?_
  refine j_callV X dX11_nearest_40 (c_X11_placeFrom l G q t n co cr po tx ty z0 z1 z2 z3 z4 z5 z6 z7 z8 z9 z10 z11 z12 z13 z14 z15 sf hS f1 f2 f3 f4 a ba ga (f3 b) (f4 b) bb.2.1 bb.2.2) gX11_nearest_X11_placeFrom rfl hy_X11_placeFrom_V ⟨Nat.le_of_ble_eq_true rfl, Nat.le_of_ble_eq_true rfl⟩ 0 rfl rfl [0, 1, 2, 3, 4, 5, 6] rfl (by decide) rfl rfl (Nat.le_of_ble_eq_true rfl) ⟨Nat.le_of_ble_eq_true rfl, Nat.le_of_ble_eq_true rfl⟩ ?_
  rintro _ ⟨y_2, y_3, y_4, y_5, y_6, y_7, y_8, y_9, sf_1⟩ ⟨rfl, ey_4, ey_5, hS_sf_1⟩
  dsimp only at ey_4 ey_5 hS_sf_1
  change J p l e rm_X11_nearest s m args below meth c Q G A 4 0 0 43 [(0, .ref (q 0)), (1, .int (nI a)), (2, .int (nI b)), (3, .int 1)] [] [(q 0, .inr (10, mF t n q co cr po tx ty)), (q 2, aJ G 200 f1), (q 3, aJ G 200 f2), (q 4, aJ G 200 f3), (q 5, aJ G 200 f4), (q 10, aI G 320 (rg [z0, z1, z2, z3, y_2, y_3, y_4, y_5, z8, z9, z10, z11, y_6, y_7, y_8, y_9])), (q 11, aZ G 16 sf_1)]
  have by_4 : bd 166 y_4 := by rw [ey_4]; exact (pd_bd ba.1.1 ba.1.2 ba.2.1 ba.2.2 bb.2.1 bb.2.2).1
  have by_5 : bd 83 y_5 := by rw [ey_5]; exact (pd_bd ba.1.1 ba.1.2 ba.2.1 ba.2.2 bb.2.1 bb.2.2).2
  refine j_aload_n X dX11_nearest_43 rfl 0 rfl ?_
  refine j_bipush (v := 10) X dX11_nearest_44 (by decide) ?_
  refine j_bipush (v := 6) X dX11_nearest_46 (by decide) ?_
  refine j_bipush (v := 9) X dX11_nearest_48 (by decide) ?_
  obtain ⟨y_10, ey_10⟩ : ∃ zz9 : Int, zz9 = y_4 * z9 := ⟨_, rfl⟩
  have by_10 : bd 249 y_10 := by rw [ey_10]; exact bd_mul by_4 b9
  refine j_callV X dX11_nearest_50 (n_mul l G q t n co cr po tx ty [z0, z1, z2, z3, y_2, y_3, y_4, y_5, z8, z9, z10, z11, y_6, y_7, y_8, y_9] sf_1 rfl hS_sf_1 10 10 rfl (by decide) 6 6 rfl (by decide) 9 9 rfl (by decide) (by decide) (by decide) y_10 ey_10) gX11_nearest_X11_multiply rfl hy_X11_multiply_V ⟨Nat.le_of_ble_eq_true rfl, Nat.le_of_ble_eq_true rfl⟩ 0 rfl rfl [0, 5, 6] rfl (by decide) rfl rfl (Nat.le_of_ble_eq_true rfl) ⟨Nat.le_of_ble_eq_true rfl, Nat.le_of_ble_eq_true rfl⟩ ?_
  rintro _ sf_11 ⟨rfl, hS_sf_11⟩
  change J p l e rm_X11_nearest s m args below meth c Q G A 4 0 0 53 [(0, .ref (q 0)), (1, .int (nI a)), (2, .int (nI b)), (3, .int 1)] [] [(q 0, .inr (10, mF t n q co cr po tx ty)), (q 2, aJ G 200 f1), (q 3, aJ G 200 f2), (q 4, aJ G 200 f3), (q 5, aJ G 200 f4), (q 10, aI G 320 (rg [z0, z1, z2, z3, y_2, y_3, y_4, y_5, z8, z9, y_10, z11, y_6, y_7, y_8, y_9])), (q 11, aZ G 16 sf_11)]
  refine j_aload_n X dX11_nearest_53 rfl 0 rfl ?_
  refine j_bipush (v := 11) X dX11_nearest_54 (by decide) ?_
  refine j_bipush (v := 8) X dX11_nearest_56 (by decide) ?_
  refine j_bipush (v := 7) X dX11_nearest_58 (by decide) ?_
  obtain ⟨y_12, ey_12⟩ : ∃ zz9 : Int, zz9 = z8 * y_5 := ⟨_, rfl⟩
  have by_12 : bd 249 y_12 := by rw [ey_12]; exact bd_mul b8 by_5
  refine j_callV X dX11_nearest_60 (n_mul l G q t n co cr po tx ty [z0, z1, z2, z3, y_2, y_3, y_4, y_5, z8, z9, y_10, z11, y_6, y_7, y_8, y_9] sf_11 rfl hS_sf_11 11 11 rfl (by decide) 8 8 rfl (by decide) 7 7 rfl (by decide) (by decide) (by decide) y_12 ey_12) gX11_nearest_X11_multiply rfl hy_X11_multiply_V ⟨Nat.le_of_ble_eq_true rfl, Nat.le_of_ble_eq_true rfl⟩ 0 rfl rfl [0, 5, 6] rfl (by decide) rfl rfl (Nat.le_of_ble_eq_true rfl) ⟨Nat.le_of_ble_eq_true rfl, Nat.le_of_ble_eq_true rfl⟩ ?_
  rintro _ sf_13 ⟨rfl, hS_sf_13⟩
  change J p l e rm_X11_nearest s m args below meth c Q G A 4 0 0 63 [(0, .ref (q 0)), (1, .int (nI a)), (2, .int (nI b)), (3, .int 1)] [] [(q 0, .inr (10, mF t n q co cr po tx ty)), (q 2, aJ G 200 f1), (q 3, aJ G 200 f2), (q 4, aJ G 200 f3), (q 5, aJ G 200 f4), (q 10, aI G 320 (rg [z0, z1, z2, z3, y_2, y_3, y_4, y_5, z8, z9, y_10, y_12, y_6, y_7, y_8, y_9])), (q 11, aZ G 16 sf_13)]
  refine j_aload_n X dX11_nearest_63 rfl 0 rfl ?_
  refine j_bipush (v := 10) X dX11_nearest_64 (by decide) ?_
  refine j_bipush (v := 11) X dX11_nearest_66 (by decide) ?_
  refine j_callV X dX11_nearest_68 (c_X11_sizes l G q t n co cr po tx ty [z0, z1, z2, z3, y_2, y_3, y_4, y_5, z8, z9, y_10, y_12, y_6, y_7, y_8, y_9] rfl sf_13 10 10 rfl (by decide) 11 11 rfl (by decide) (bd_lt by_10 (by decide)) (bd_lt by_12 (by decide))) gX11_nearest_X11_sizes rfl hy_X11_sizes_V ⟨Nat.le_of_ble_eq_true rfl, Nat.le_of_ble_eq_true rfl⟩ 0 rfl rfl [0, 5, 6] rfl (by decide) rfl rfl (Nat.le_of_ble_eq_true rfl) ⟨Nat.le_of_ble_eq_true rfl, Nat.le_of_ble_eq_true rfl⟩ ?_
  rintro _ ⟨⟩ rfl
  change J p l e rm_X11_nearest s m args below meth c Q G A 4 0 0 71 [(0, .ref (q 0)), (1, .int (nI a)), (2, .int (nI b)), (3, .int 1)] [.int (sg ((y_10.natAbs : Int) - (y_12.natAbs : Int)))] [(q 0, .inr (10, mF t n q co cr po tx ty)), (q 2, aJ G 200 f1), (q 3, aJ G 200 f2), (q 4, aJ G 200 f3), (q 5, aJ G 200 f4), (q 10, aI G 320 (rg [z0, z1, z2, z3, y_2, y_3, y_4, y_5, z8, z9, y_10, y_12, y_6, y_7, y_8, y_9])), (q 11, aZ G 16 sf_13)]
  refine j_if_lt (tgt := 75) X dX11_nearest_71 (by decide) (fun c_71 => ?_) (fun c_71 => ?_)
  · skip
    first | simp only [bI_0, Decidable.not_not, sg_mul, sg_e0, sg_l0, sg_g0, sg_le0, sg_ge0, cmp_eq, cmp_lt, cmp_ge, cmp_gt, cmp_le, lT0, lT1] at c_71 | simp only [Int32.le_iff_toInt_le, Int32.lt_iff_toInt_lt, ← Int32.toInt_inj, iT0, iT1, iT2, iT3, iT4, iT5, iT6, iT7, iT8, iT9, iT10, iT11, iT12, iT13, iT14, iT15, iT16, iT19, iT20, iT31, iT32, iT42, iT64, iT200, iT318, iT319, iT1000, iTm1, iTm2] at c_71 | skip
    refine j_aload_n X dX11_nearest_75 rfl 0 rfl ?_
    refine j_bipush (v := 8) X dX11_nearest_76 (by decide) ?_
    refine j_bipush (v := 6) X dX11_nearest_78 (by decide) ?_
    refine j_callV X dX11_nearest_80 (h_copy l G q t n co cr po tx ty [z0, z1, z2, z3, y_2, y_3, y_4, y_5, z8, z9, y_10, y_12, y_6, y_7, y_8, y_9] sf_13 rfl hS_sf_13 8 8 rfl (by decide) 6 6 rfl (by decide) (by decide)) gX11_nearest_X11_copy rfl hy_X11_copy_V ⟨Nat.le_of_ble_eq_true rfl, Nat.le_of_ble_eq_true rfl⟩ 0 rfl rfl [0, 5, 6] rfl (by decide) rfl rfl (Nat.le_of_ble_eq_true rfl) ⟨Nat.le_of_ble_eq_true rfl, Nat.le_of_ble_eq_true rfl⟩ ?_
    rintro _ sf_14 ⟨rfl, hS_sf_14⟩
    change J p l e rm_X11_nearest s m args below meth c Q G A 4 0 0 83 [(0, .ref (q 0)), (1, .int (nI a)), (2, .int (nI b)), (3, .int 1)] [] [(q 0, .inr (10, mF t n q co cr po tx ty)), (q 2, aJ G 200 f1), (q 3, aJ G 200 f2), (q 4, aJ G 200 f3), (q 5, aJ G 200 f4), (q 10, aI G 320 (rg [z0, z1, z2, z3, y_2, y_3, y_4, y_5, y_4, z9, y_10, y_12, y_6, y_7, y_8, y_9])), (q 11, aZ G 16 sf_14)]
    refine j_aload_n X dX11_nearest_83 rfl 0 rfl ?_
    refine j_bipush (v := 9) X dX11_nearest_84 (by decide) ?_
    refine j_bipush (v := 7) X dX11_nearest_86 (by decide) ?_
    refine j_callV X dX11_nearest_88 (h_copy l G q t n co cr po tx ty [z0, z1, z2, z3, y_2, y_3, y_4, y_5, y_4, z9, y_10, y_12, y_6, y_7, y_8, y_9] sf_14 rfl hS_sf_14 9 9 rfl (by decide) 7 7 rfl (by decide) (by decide)) gX11_nearest_X11_copy rfl hy_X11_copy_V ⟨Nat.le_of_ble_eq_true rfl, Nat.le_of_ble_eq_true rfl⟩ 0 rfl rfl [0, 5, 6] rfl (by decide) rfl rfl (Nat.le_of_ble_eq_true rfl) ⟨Nat.le_of_ble_eq_true rfl, Nat.le_of_ble_eq_true rfl⟩ ?_
    rintro _ sf_15 ⟨rfl, hS_sf_15⟩
    change J p l e rm_X11_nearest s m args below meth c Q G A 4 0 0 91 [(0, .ref (q 0)), (1, .int (nI a)), (2, .int (nI b)), (3, .int 1)] [] [(q 0, .inr (10, mF t n q co cr po tx ty)), (q 2, aJ G 200 f1), (q 3, aJ G 200 f2), (q 4, aJ G 200 f3), (q 5, aJ G 200 f4), (q 10, aI G 320 (rg [z0, z1, z2, z3, y_2, y_3, y_4, y_5, y_4, y_5, y_10, y_12, y_6, y_7, y_8, y_9])), (q 11, aZ G 16 sf_15)]
    exact E.1 91 _ (y_2, y_3, y_4, y_5, y_4, y_5, y_10, y_12, y_6, y_7, y_8, y_9, sf_15) dX11_nearest_91 (⟨rfl, (mn_1 ey_4 ey_5 (pd_nn _ _ _ _ _ _) h8 h9 ey_10 ey_12 c_71).1, (mn_1 ey_4 ey_5 (pd_nn _ _ _ _ _ _) h8 h9 ey_10 ey_12 c_71).2, hS_sf_15⟩) hr
  · skip
    first | simp only [bI_0, Decidable.not_not, sg_mul, sg_e0, sg_l0, sg_g0, sg_le0, sg_ge0, cmp_eq, cmp_lt, cmp_ge, cmp_gt, cmp_le, lT0, lT1] at c_71 | simp only [Int32.le_iff_toInt_le, Int32.lt_iff_toInt_lt, ← Int32.toInt_inj, iT0, iT1, iT2, iT3, iT4, iT5, iT6, iT7, iT8, iT9, iT10, iT11, iT12, iT13, iT14, iT15, iT16, iT19, iT20, iT31, iT32, iT42, iT64, iT200, iT318, iT319, iT1000, iTm1, iTm2] at c_71 | skip
    exact E.1 74 _ (y_2, y_3, y_4, y_5, z8, z9, y_10, y_12, y_6, y_7, y_8, y_9, sf_13) dX11_nearest_74 (⟨rfl, (mn_2 ey_4 ey_5 (pd_nn _ _ _ _ _ _) h8 h9 ey_10 ey_12 c_71).1, (mn_2 ey_4 ey_5 (pd_nn _ _ _ _ _ _) h8 h9 ey_10 ey_12 c_71).2, hS_sf_13⟩) hr

