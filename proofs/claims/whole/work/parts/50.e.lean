abbrev rm_X11_crossSegments : Room := { frames := 7, cells := 0, slots := 0, locals := 201 }
theorem in_X11_crossSegments_X11 : ∀ w ∈ u_ws RX11 TX11 19, w ∈ wsX11_crossSegments := by decide +kernel
theorem fl_X11_crossSegments_20 : Cond.fieldLink RX11 20 (TX11 5).1 (TX11 5).2.1 (TX11 5).2.2.1 ∈ wsX11_crossSegments := by decide +kernel
theorem fl_X11_crossSegments_13 : Cond.fieldLink RX11 13 (TX11 3).1 (TX11 3).2.1 (TX11 3).2.2.1 ∈ wsX11_crossSegments := by decide +kernel
theorem fl_X11_crossSegments_23 : Cond.fieldLink RX11 23 (TX11 6).1 (TX11 6).2.1 (TX11 6).2.2.1 ∈ wsX11_crossSegments := by decide +kernel
theorem fl_X11_crossSegments_17 : Cond.fieldLink RX11 17 (TX11 4).1 (TX11 4).2.1 (TX11 4).2.2.1 ∈ wsX11_crossSegments := by decide +kernel
theorem fl_X11_crossSegments_42 : Cond.fieldLink RX11 42 (TX11 13).1 (TX11 13).2.1 (TX11 13).2.2.1 ∈ wsX11_crossSegments := by decide +kernel
theorem fl_X11_crossSegments_159 : Cond.fieldLink RX11 159 (TX11 17).1 (TX11 17).2.1 (TX11 17).2.2.1 ∈ wsX11_crossSegments := by decide +kernel
theorem fl_X11_crossSegments_163 : Cond.fieldLink RX11 163 (TX11 18).1 (TX11 18).2.1 (TX11 18).2.2.1 ∈ wsX11_crossSegments := by decide +kernel
set_option maxHeartbeats 4000000 in
set_option maxRecDepth 100000 in
theorem c_X11_crossSegments (l : Launch) (G : jG) (q : Nat → Nat) (t n co cr : Int32) (tx ty : Int64) (zs : List Int) (hl : zs.length = 16) (sf : Nat → Int32) (hS : okS zs sf) (sig : Nat → Int32) (f1 f2 f3 f4 : Nat → Int64) (a b : Nat) (ba : (inC (f1 a).toInt ∧ inC (f2 a).toInt) ∧ inC (f3 a).toInt ∧ inC (f4 a).toInt) (ga : a < 200) (bb : (inC (f1 b).toInt ∧ inC (f2 b).toInt) ∧ inC (f3 b).toInt ∧ inC (f4 b).toInt) (gb : b < 200) : Ct l yX11_crossSegments wsX11_crossSegments rm_X11_crossSegments G [.ref (q 0), .int (nI a), .int (nI b)] [(q 0, .inr (10, mF t n q co cr 0 tx ty)), (q 2, aJ G 200 f1), (q 3, aJ G 200 f2), (q 4, aJ G 200 f3), (q 5, aJ G 200 f4), (q 10, aI G 320 (rg zs)), (q 11, aZ G 16 sf), (q 12, aI G 2 sig)] (S := Int32 × (Nat → Int32) × Int64 × Int64 × List Int × (Nat → Int32)) (fun r u => ∃ o, xss (f1 a).toInt (f2 a).toInt (f3 a).toInt (f4 a).toInt (f1 b).toInt (f2 b).toInt (f3 b).toInt (f4 b).toInt o ∧ ((o = none ∧ r = some (.int 0) ∧ u.1 = 0 ∧ u.2.2.2.2.1.length = 16 ∧ okS u.2.2.2.2.1 u.2.2.2.2.2) ∨ (∃ v, o = some v ∧ r = some (.int 1) ∧ xG (v) u.1 u.2.1 u.2.2.1 u.2.2.2.1 u.2.2.2.2.1 ∧ u.2.2.2.2.1.length = 16 ∧ okS u.2.2.2.2.1 u.2.2.2.2.2))) (fun u => [(q 0, .inr (10, mF t n q co cr u.1 u.2.2.1 u.2.2.2.1)), (q 2, aJ G 200 f1), (q 3, aJ G 200 f2), (q 4, aJ G 200 f3), (q 5, aJ G 200 f4), (q 10, aI G 320 (rg u.2.2.2.2.1)), (q 11, aZ G 16 u.2.2.2.2.2), (q 12, aI G 2 u.2.1)]) (fun _ => []) := by
  refine c_intro (cc := cX11_crossSegments) (maxL := 11) (ret := (some .boolean)) (by decide) rfl (Nat.le_of_ble_eq_true rfl) (fun _ => by simp only [List.map_cons, List.map_nil]) ?_
  intro p e s m args below meth c Q A X hr hin E
  change J p l e rm_X11_crossSegments s m args below meth c Q G A 11 0 0 0 [(0, .ref (q 0)), (1, .int (nI a)), (2, .int (nI b))] [] [(q 0, .inr (10, mF t n q co cr 0 tx ty)), (q 2, aJ G 200 f1), (q 3, aJ G 200 f2), (q 4, aJ G 200 f3), (q 5, aJ G 200 f4), (q 10, aI G 320 (rg zs)), (q 11, aZ G 16 sf), (q 12, aI G 2 sig)]
  have hbf1 : ((f1 b) - (f1 a)).toInt = (f1 b).toInt - (f1 a).toInt := bl_sub (bd_C bb.1.1) (bd_C ba.1.1) (by decide) (by decide)
  have bbf1 : bd 41 ((f1 b) - (f1 a)).toInt := by rw [hbf1]; exact bd_sub (bd_C bb.1.1) (bd_C ba.1.1)
  have hbf2 : ((f2 b) - (f2 a)).toInt = (f2 b).toInt - (f2 a).toInt := bl_sub (bd_C bb.1.2) (bd_C ba.1.2) (by decide) (by decide)
  have bbf2 : bd 41 ((f2 b) - (f2 a)).toInt := by rw [hbf2]; exact bd_sub (bd_C bb.1.2) (bd_C ba.1.2)
  obtain ⟨z0, z1, z2, z3, z4, z5, z6, z7, z8, z9, z10, z11, z12, z13, z14, z15, rfl⟩ := l16 hl
  refine j_aload_n X dX11_crossSegments_0 rfl 0 rfl ?_
  refine j_get (v := .ref (q 4)) X dX11_crossSegments_1 0 rfl 5 rfl in_X11_crossSegments_X11 (by decide) fl_X11_crossSegments_20 rfl ?_
  refine j_iload_n X dX11_crossSegments_4 rfl 1 rfl ?_
  refine j_lald X dX11_crossSegments_5 3 rfl a rfl ga (by decide) ?_
  refine j_aload_n X dX11_crossSegments_6 rfl 0 rfl ?_
  refine j_get (v := .ref (q 2)) X dX11_crossSegments_7 0 rfl 3 rfl in_X11_crossSegments_X11 (by decide) fl_X11_crossSegments_13 rfl ?_
  refine j_iload_n X dX11_crossSegments_10 rfl 1 rfl ?_
  refine j_lald X dX11_crossSegments_11 1 rfl a rfl ga (by decide) ?_
  refine j_lsub X dX11_crossSegments_12 ?_
  refine j_topl (fun x_1 ex_1 => ?_)
  have tx_1 : x_1.toInt = (f3 a).toInt - (f1 a).toInt := by rw [ex_1]; exact bl_sub (bd_C ba.2.1) (bd_C ba.1.1) (by decide) (by decide)
  have bx_1 : bd 41 x_1.toInt := by rw [tx_1]; exact bd_sub (bd_mono (bd_C ba.2.1) (by decide)) (bd_mono (bd_C ba.1.1) (by decide))
  refine j_lstore_n (L' := [(3, .long x_1), (0, .ref (q 0)), (1, .int (nI a)), (2, .int (nI b))]) X dX11_crossSegments_13 rfl (by decide) rfl ?_
  refine j_aload_n X dX11_crossSegments_14 rfl 1 rfl ?_
  refine j_get (v := .ref (q 5)) X dX11_crossSegments_15 0 rfl 6 rfl in_X11_crossSegments_X11 (by decide) fl_X11_crossSegments_23 rfl ?_
  refine j_iload_n X dX11_crossSegments_18 rfl 2 rfl ?_
  refine j_lald X dX11_crossSegments_19 4 rfl a rfl ga (by decide) ?_
  refine j_aload_n X dX11_crossSegments_20 rfl 1 rfl ?_
  refine j_get (v := .ref (q 3)) X dX11_crossSegments_21 0 rfl 4 rfl in_X11_crossSegments_X11 (by decide) fl_X11_crossSegments_17 rfl ?_
  refine j_iload_n X dX11_crossSegments_24 rfl 2 rfl ?_
  refine j_lald X dX11_crossSegments_25 2 rfl a rfl ga (by decide) ?_
  refine j_lsub X dX11_crossSegments_26 ?_
  refine j_topl (fun x_2 ex_2 => ?_)
  have tx_2 : x_2.toInt = (f4 a).toInt - (f2 a).toInt := by rw [ex_2]; exact bl_sub (bd_C ba.2.2) (bd_C ba.1.2) (by decide) (by decide)
  have bx_2 : bd 41 x_2.toInt := by rw [tx_2]; exact bd_sub (bd_mono (bd_C ba.2.2) (by decide)) (bd_mono (bd_C ba.1.2) (by decide))
  refine j_lstore (L' := [(5, .long x_2), (3, .long x_1), (0, .ref (q 0)), (1, .int (nI a)), (2, .int (nI b))]) X dX11_crossSegments_27 (by decide) rfl ?_
  refine j_aload_n X dX11_crossSegments_29 rfl 2 rfl ?_
  refine j_get (v := .ref (q 4)) X dX11_crossSegments_30 0 rfl 5 rfl in_X11_crossSegments_X11 (by decide) fl_X11_crossSegments_20 rfl ?_
  refine j_iload_n X dX11_crossSegments_33 rfl 4 rfl ?_
  refine j_lald X dX11_crossSegments_34 3 rfl b rfl gb (by decide) ?_
  refine j_aload_n X dX11_crossSegments_35 rfl 2 rfl ?_
  refine j_get (v := .ref (q 2)) X dX11_crossSegments_36 0 rfl 3 rfl in_X11_crossSegments_X11 (by decide) fl_X11_crossSegments_13 rfl ?_
  refine j_iload_n X dX11_crossSegments_39 rfl 4 rfl ?_
  refine j_lald X dX11_crossSegments_40 1 rfl b rfl gb (by decide) ?_
  refine j_lsub X dX11_crossSegments_41 ?_
  refine j_topl (fun x_3 ex_3 => ?_)
  have tx_3 : x_3.toInt = (f3 b).toInt - (f1 b).toInt := by rw [ex_3]; exact bl_sub (bd_C bb.2.1) (bd_C bb.1.1) (by decide) (by decide)
  have bx_3 : bd 41 x_3.toInt := by rw [tx_3]; exact bd_sub (bd_mono (bd_C bb.2.1) (by decide)) (bd_mono (bd_C bb.1.1) (by decide))
  refine j_lstore (L' := [(7, .long x_3), (5, .long x_2), (3, .long x_1), (0, .ref (q 0)), (1, .int (nI a)), (2, .int (nI b))]) X dX11_crossSegments_42 (by decide) rfl ?_
  refine j_aload_n X dX11_crossSegments_44 rfl 3 rfl ?_
  refine j_get (v := .ref (q 5)) X dX11_crossSegments_45 0 rfl 6 rfl in_X11_crossSegments_X11 (by decide) fl_X11_crossSegments_23 rfl ?_
  refine j_iload_n X dX11_crossSegments_48 rfl 5 rfl ?_
  refine j_lald X dX11_crossSegments_49 4 rfl b rfl gb (by decide) ?_
  refine j_aload_n X dX11_crossSegments_50 rfl 3 rfl ?_
  refine j_get (v := .ref (q 3)) X dX11_crossSegments_51 0 rfl 4 rfl in_X11_crossSegments_X11 (by decide) fl_X11_crossSegments_17 rfl ?_
  refine j_iload_n X dX11_crossSegments_54 rfl 5 rfl ?_
  refine j_lald X dX11_crossSegments_55 2 rfl b rfl gb (by decide) ?_
  refine j_lsub X dX11_crossSegments_56 ?_
  refine j_topl (fun x_4 ex_4 => ?_)
  have tx_4 : x_4.toInt = (f4 b).toInt - (f2 b).toInt := by rw [ex_4]; exact bl_sub (bd_C bb.2.2) (bd_C bb.1.2) (by decide) (by decide)
  have bx_4 : bd 41 x_4.toInt := by rw [tx_4]; exact bd_sub (bd_mono (bd_C bb.2.2) (by decide)) (bd_mono (bd_C bb.1.2) (by decide))
  refine j_lstore (L' := [(9, .long x_4), (7, .long x_3), (5, .long x_2), (3, .long x_1), (0, .ref (q 0)), (1, .int (nI a)), (2, .int (nI b))]) X dX11_crossSegments_57 (by decide) rfl ?_
  refine j_aload_n X dX11_crossSegments_59 rfl 4 rfl ?_
  refine j_iconst (v := 3) X dX11_crossSegments_60 rfl ?_
  refine j_lload_n X dX11_crossSegments_61 rfl 3 rfl ?_
  refine j_lload X dX11_crossSegments_62 0 rfl ?_
  refine j_lload X dX11_crossSegments_64 2 rfl ?_
  refine j_lload X dX11_crossSegments_66 1 rfl ?_
  refine j_iconst (v := 1) X dX11_crossSegments_68 rfl ?_
  obtain ⟨y_5, ey_5⟩ : ∃ zz9 : Int, zz9 = x_1.toInt * x_4.toInt - x_3.toInt * x_2.toInt := ⟨_, rfl⟩
  have by_5 : bd 83 y_5 := by rw [ey_5]; exact bd_sub (bd_mono (bd_mul bx_1 bx_4) (by decide)) (bd_mono (bd_mul bx_3 bx_2) (by decide))
  refine j_callV X dX11_crossSegments_69 (n_products l G q t n co cr 0 tx ty [z0, z1, z2, z3, z4, z5, z6, z7, z8, z9, z10, z11, z12, z13, z14, z15] sf rfl hS 3 3 rfl (by decide) x_1 x_4 x_2 x_3 1 (Or.inr rfl) y_5 ey_5) gX11_crossSegments_X11_products rfl hy_X11_products_V ⟨Nat.le_of_ble_eq_true rfl, Nat.le_of_ble_eq_true rfl⟩ 0 rfl rfl [0, 5, 6] rfl (by decide) rfl rfl (Nat.le_of_ble_eq_true rfl) ⟨Nat.le_of_ble_eq_true rfl, Nat.le_of_ble_eq_true rfl⟩ ?_
  rintro _ ⟨v_6, v_7, v_8, v_9, sf_10⟩ ⟨rfl, hS_sf_10⟩
  change J p l e rm_X11_crossSegments s m args below meth c Q G A 11 0 0 72 [(9, .long x_4), (7, .long x_3), (5, .long x_2), (3, .long x_1), (0, .ref (q 0)), (1, .int (nI a)), (2, .int (nI b))] [] [(q 0, .inr (10, mF t n q co cr 0 tx ty)), (q 2, aJ G 200 f1), (q 3, aJ G 200 f2), (q 4, aJ G 200 f3), (q 5, aJ G 200 f4), (q 10, aI G 320 (rg [z0, z1, z2, y_5, z4, z5, z6, z7, z8, z9, z10, z11, v_6, v_7, v_8, v_9])), (q 11, aZ G 16 sf_10), (q 12, aI G 2 sig)]
  refine j_aload_n X dX11_crossSegments_72 rfl 4 rfl ?_
  refine j_iconst (v := 3) X dX11_crossSegments_73 rfl ?_
  refine j_callV X dX11_crossSegments_74 (c_X11_sign l G q t n co cr 0 tx ty [z0, z1, z2, y_5, z4, z5, z6, z7, z8, z9, z10, z11, v_6, v_7, v_8, v_9] rfl sf_10 3 3 rfl (by decide) (hS_sf_10 3 (by decide)) (bd_lt by_5 (by decide))) gX11_crossSegments_X11_sign rfl hy_X11_sign_V ⟨Nat.le_of_ble_eq_true rfl, Nat.le_of_ble_eq_true rfl⟩ 0 rfl rfl [0, 5, 6] rfl (by decide) rfl rfl (Nat.le_of_ble_eq_true rfl) ⟨Nat.le_of_ble_eq_true rfl, Nat.le_of_ble_eq_true rfl⟩ ?_
  rintro _ ⟨⟩ rfl
  change J p l e rm_X11_crossSegments s m args below meth c Q G A 11 0 0 77 [(9, .long x_4), (7, .long x_3), (5, .long x_2), (3, .long x_1), (0, .ref (q 0)), (1, .int (nI a)), (2, .int (nI b))] [.int (sg y_5)] [(q 0, .inr (10, mF t n q co cr 0 tx ty)), (q 2, aJ G 200 f1), (q 3, aJ G 200 f2), (q 4, aJ G 200 f3), (q 5, aJ G 200 f4), (q 10, aI G 320 (rg [z0, z1, z2, y_5, z4, z5, z6, z7, z8, z9, z10, z11, v_6, v_7, v_8, v_9])), (q 11, aZ G 16 sf_10), (q 12, aI G 2 sig)]
  refine j_if_ne (tgt := 105) X dX11_crossSegments_77 (by decide) (fun c_77 => ?_) (fun c_77 => ?_)
  · skip
    first | simp only [bI_0, Decidable.not_not, sg_mul, sg_e0, sg_l0, sg_g0, sg_le0, sg_ge0, cmp_eq, cmp_lt, cmp_ge, cmp_gt, cmp_le, lT0, lT1] at c_77 | simp only [Int32.le_iff_toInt_le, Int32.lt_iff_toInt_lt, ← Int32.toInt_inj, iT0, iT1, iT2, iT3, iT4, iT5, iT6, iT7, iT8, iT9, iT10, iT11, iT12, iT13, iT14, iT15, iT16, iT19, iT20, iT31, iT32, iT42, iT64, iT200, iT318, iT319, iT1000, iTm1, iTm2] at c_77 | skip
    have hL : y_5 = ssL (f1 a).toInt (f2 a).toInt (f3 a).toInt (f4 a).toInt (f1 b).toInt (f2 b).toInt (f3 b).toInt (f4 b).toInt := by rw [ey_5, tx_1, tx_2, tx_3, tx_4]; rfl
    have hL0 : ¬ ssL (f1 a).toInt (f2 a).toInt (f3 a).toInt (f4 a).toInt (f1 b).toInt (f2 b).toInt (f3 b).toInt (f4 b).toInt = 0 := by rw [← hL]; exact c_77
    refine j_aload_n X dX11_crossSegments_105 rfl 4 rfl ?_
    refine j_iload_n X dX11_crossSegments_106 rfl 5 rfl ?_
    refine j_iload_n X dX11_crossSegments_107 rfl 6 rfl ?_
    refine j_callV X dX11_crossSegments_108 (c_X11_meet l G q t n co cr 0 tx ty [z0, z1, z2, y_5, z4, z5, z6, z7, z8, z9, z10, z11, v_6, v_7, v_8, v_9] rfl sf_10 hS_sf_10 f1 f2 f3 f4 a b ba ga bb gb) gX11_crossSegments_X11_meet rfl hy_X11_meet_V ⟨Nat.le_of_ble_eq_true rfl, Nat.le_of_ble_eq_true rfl⟩ 0 rfl rfl [0, 1, 2, 3, 4, 5, 6] rfl (by decide) rfl rfl (Nat.le_of_ble_eq_true rfl) ⟨Nat.le_of_ble_eq_true rfl, Nat.le_of_ble_eq_true rfl⟩ ?_
    rintro _ ⟨zs_12, sf_11⟩ ⟨rfl, hk_sf_11, hS_sf_11⟩
    obtain ⟨y4_sf_11, y5_sf_11, y6_sf_11, y7_sf_11, y8_sf_11, y9_sf_11, y10_sf_11, y11_sf_11, y12_sf_11, y13_sf_11, y14_sf_11, y15_sf_11, rfl⟩ := kp_4 hk_sf_11
    change J p l e rm_X11_crossSegments s m args below meth c Q G A 11 0 0 111 [(9, .long x_4), (7, .long x_3), (5, .long x_2), (3, .long x_1), (0, .ref (q 0)), (1, .int (nI a)), (2, .int (nI b))] [.int (bI (mt (f1 a).toInt (f2 a).toInt (f3 a).toInt (f4 a).toInt (f1 b).toInt (f2 b).toInt (f3 b).toInt (f4 b).toInt))] [(q 0, .inr (10, mF t n q co cr 0 tx ty)), (q 2, aJ G 200 f1), (q 3, aJ G 200 f2), (q 4, aJ G 200 f3), (q 5, aJ G 200 f4), (q 10, aI G 320 (rg [z0, z1, z2, y_5, y4_sf_11, y5_sf_11, y6_sf_11, y7_sf_11, y8_sf_11, y9_sf_11, y10_sf_11, y11_sf_11, y12_sf_11, y13_sf_11, y14_sf_11, y15_sf_11])), (q 11, aZ G 16 sf_11), (q 12, aI G 2 sig)]
    refine j_if_ne (tgt := 116) X dX11_crossSegments_111 (by decide) (fun c_111 => ?_) (fun c_111 => ?_)
    · skip
      first | simp only [bI_0, Decidable.not_not, sg_mul, sg_e0, sg_l0, sg_g0, sg_le0, sg_ge0, cmp_eq, cmp_lt, cmp_ge, cmp_gt, cmp_le, lT0, lT1] at c_111 | simp only [Int32.le_iff_toInt_le, Int32.lt_iff_toInt_lt, ← Int32.toInt_inj, iT0, iT1, iT2, iT3, iT4, iT5, iT6, iT7, iT8, iT9, iT10, iT11, iT12, iT13, iT14, iT15, iT16, iT19, iT20, iT31, iT32, iT42, iT64, iT200, iT318, iT319, iT1000, iTm1, iTm2] at c_111 | skip
      refine j_aload_n X dX11_crossSegments_116 rfl 4 rfl ?_
      refine j_iconst (v := 5) X dX11_crossSegments_117 rfl ?_
      refine j_aload_n X dX11_crossSegments_118 rfl 4 rfl ?_
      refine j_get (v := .ref (q 2)) X dX11_crossSegments_119 0 rfl 3 rfl in_X11_crossSegments_X11 (by decide) fl_X11_crossSegments_13 rfl ?_
      refine j_iload_n X dX11_crossSegments_122 rfl 6 rfl ?_
      refine j_lald X dX11_crossSegments_123 1 rfl b rfl gb (by decide) ?_
      refine j_aload_n X dX11_crossSegments_124 rfl 4 rfl ?_
      refine j_get (v := .ref (q 2)) X dX11_crossSegments_125 0 rfl 3 rfl in_X11_crossSegments_X11 (by decide) fl_X11_crossSegments_13 rfl ?_
      refine j_iload_n X dX11_crossSegments_128 rfl 5 rfl ?_
      refine j_lald X dX11_crossSegments_129 1 rfl a rfl ga (by decide) ?_
      refine j_lsub X dX11_crossSegments_130 ?_
      refine j_lload X dX11_crossSegments_131 0 rfl ?_
      refine j_aload_n X dX11_crossSegments_133 rfl 4 rfl ?_
      refine j_get (v := .ref (q 3)) X dX11_crossSegments_134 0 rfl 4 rfl in_X11_crossSegments_X11 (by decide) fl_X11_crossSegments_17 rfl ?_
      refine j_iload_n X dX11_crossSegments_137 rfl 6 rfl ?_
      refine j_lald X dX11_crossSegments_138 2 rfl b rfl gb (by decide) ?_
      refine j_aload_n X dX11_crossSegments_139 rfl 4 rfl ?_
      refine j_get (v := .ref (q 3)) X dX11_crossSegments_140 0 rfl 4 rfl in_X11_crossSegments_X11 (by decide) fl_X11_crossSegments_17 rfl ?_
      refine j_iload_n X dX11_crossSegments_143 rfl 5 rfl ?_
      refine j_lald X dX11_crossSegments_144 2 rfl a rfl ga (by decide) ?_
      refine j_lsub X dX11_crossSegments_145 ?_
      refine j_lload X dX11_crossSegments_146 1 rfl ?_
      refine j_iconst (v := 1) X dX11_crossSegments_148 rfl ?_
      obtain ⟨y_13, ey_13⟩ : ∃ zz9 : Int, zz9 = ((f1 b) - (f1 a)).toInt * x_4.toInt - x_3.toInt * ((f2 b) - (f2 a)).toInt := ⟨_, rfl⟩
      have by_13 : bd 83 y_13 := by rw [ey_13]; exact bd_sub (bd_mono (bd_mul bbf1 bx_4) (by decide)) (bd_mono (bd_mul bx_3 bbf2) (by decide))
      refine j_callV X dX11_crossSegments_149 (n_products l G q t n co cr 0 tx ty [z0, z1, z2, y_5, y4_sf_11, y5_sf_11, y6_sf_11, y7_sf_11, y8_sf_11, y9_sf_11, y10_sf_11, y11_sf_11, y12_sf_11, y13_sf_11, y14_sf_11, y15_sf_11] sf_11 rfl hS_sf_11 5 5 rfl (by decide) ((f1 b) - (f1 a)) x_4 ((f2 b) - (f2 a)) x_3 1 (Or.inr rfl) y_13 ey_13) gX11_crossSegments_X11_products rfl hy_X11_products_V ⟨Nat.le_of_ble_eq_true rfl, Nat.le_of_ble_eq_true rfl⟩ 0 rfl rfl [0, 5, 6] rfl (by decide) rfl rfl (Nat.le_of_ble_eq_true rfl) ⟨Nat.le_of_ble_eq_true rfl, Nat.le_of_ble_eq_true rfl⟩ ?_
      rintro _ ⟨v_14, v_15, v_16, v_17, sf_18⟩ ⟨rfl, hS_sf_18⟩
      change J p l e rm_X11_crossSegments s m args below meth c Q G A 11 0 0 152 [(9, .long x_4), (7, .long x_3), (5, .long x_2), (3, .long x_1), (0, .ref (q 0)), (1, .int (nI a)), (2, .int (nI b))] [] [(q 0, .inr (10, mF t n q co cr 0 tx ty)), (q 2, aJ G 200 f1), (q 3, aJ G 200 f2), (q 4, aJ G 200 f3), (q 5, aJ G 200 f4), (q 10, aI G 320 (rg [z0, z1, z2, y_5, y4_sf_11, y_13, y6_sf_11, y7_sf_11, y8_sf_11, y9_sf_11, y10_sf_11, y11_sf_11, v_14, v_15, v_16, v_17])), (q 11, aZ G 16 sf_18), (q 12, aI G 2 sig)]
      have hB : y_13 = ssB (f1 a).toInt (f2 a).toInt (f1 b).toInt (f2 b).toInt (f3 b).toInt (f4 b).toInt := by rw [ey_13, hbf1, hbf2, tx_3, tx_4]; rfl
      refine j_aload_n X dX11_crossSegments_152 rfl 4 rfl ?_
      refine j_get (v := .ref (q 11)) X dX11_crossSegments_153 0 rfl 13 rfl in_X11_crossSegments_X11 (by decide) fl_X11_crossSegments_42 rfl ?_
      refine j_iconst (v := 3) X dX11_crossSegments_156 rfl ?_
      refine j_zald X dX11_crossSegments_157 6 rfl 3 rfl (by decide) (by decide) ?_
      refine j_if_eq (tgt := 188) X dX11_crossSegments_158 (by decide) (fun c_158 => ?_) (fun c_158 => ?_)
      · skip
        have hs3 : 0 ≤ y_5 := by rcases hS_sf_18 3 (by decide) with h | h; exact h.2; exact absurd (c_158.symm.trans h.1) (by decide)
        refine j_aload_n X dX11_crossSegments_188 rfl 4 rfl ?_
        refine j_aload_n X dX11_crossSegments_189 rfl 4 rfl ?_
        refine j_get (v := .ref (q 2)) X dX11_crossSegments_190 0 rfl 3 rfl in_X11_crossSegments_X11 (by decide) fl_X11_crossSegments_13 rfl ?_
        refine j_iload_n X dX11_crossSegments_193 rfl 5 rfl ?_
        refine j_lald X dX11_crossSegments_194 1 rfl a rfl ga (by decide) ?_
        refine j_lload_n X dX11_crossSegments_195 rfl 3 rfl ?_
        refine j_iconst (v := 0) X dX11_crossSegments_196 rfl ?_
        refine j_callV X dX11_crossSegments_197 (c_X11_onLine_0 l G q t n co cr 0 tx ty z0 z1 z2 y_5 y4_sf_11 y_13 y6_sf_11 y7_sf_11 y8_sf_11 y9_sf_11 y10_sf_11 y11_sf_11 v_14 v_15 v_16 v_17 sf_18 hS_sf_18 (f1 a) x_1 (bd_mono by_5 (by decide)) (bd_mono by_13 (by decide)) (bd_mono (bd_C ba.1.1) (by decide)) (bd_mono bx_1 (by decide))) gX11_crossSegments_X11_onLine rfl hy_X11_onLine_V ⟨Nat.le_of_ble_eq_true rfl, Nat.le_of_ble_eq_true rfl⟩ 0 rfl rfl [0, 5, 6] rfl (by decide) rfl rfl (Nat.le_of_ble_eq_true rfl) ⟨Nat.le_of_ble_eq_true rfl, Nat.le_of_ble_eq_true rfl⟩ ?_
        rintro _ ⟨y_20, y_21, y_22, y_23, sf_19⟩ ⟨rfl, ey_23, hS_sf_19⟩
        dsimp only at ey_23 hS_sf_19
        change J p l e rm_X11_crossSegments s m args below meth c Q G A 11 0 0 200 [(9, .long x_4), (7, .long x_3), (5, .long x_2), (3, .long x_1), (0, .ref (q 0)), (1, .int (nI a)), (2, .int (nI b))] [] [(q 0, .inr (10, mF t n q co cr 0 tx ty)), (q 2, aJ G 200 f1), (q 3, aJ G 200 f2), (q 4, aJ G 200 f3), (q 5, aJ G 200 f4), (q 10, aI G 320 (rg [y_23, z1, z2, y_5, y_20, y_13, y_21, y7_sf_11, y8_sf_11, y9_sf_11, y10_sf_11, y11_sf_11, v_14, y_22, v_16, v_17])), (q 11, aZ G 16 sf_19), (q 12, aI G 2 sig)]
        have by_23 : bd 127 y_23 := by rw [ey_23]; exact bd_add (bd_mono (bd_mul (bd_C ba.1.1) by_5) (by decide)) (bd_mono (bd_mul bx_1 by_13) (by decide))
        refine j_aload_n X dX11_crossSegments_200 rfl 4 rfl ?_
        refine j_aload_n X dX11_crossSegments_201 rfl 4 rfl ?_
        refine j_get (v := .ref (q 3)) X dX11_crossSegments_202 0 rfl 4 rfl in_X11_crossSegments_X11 (by decide) fl_X11_crossSegments_17 rfl ?_
        refine j_iload_n X dX11_crossSegments_205 rfl 5 rfl ?_
        refine j_lald X dX11_crossSegments_206 2 rfl a rfl ga (by decide) ?_
        refine j_lload X dX11_crossSegments_207 2 rfl ?_
        refine j_iconst (v := 1) X dX11_crossSegments_209 rfl ?_
        refine j_callV X dX11_crossSegments_210 (c_X11_onLine_1 l G q t n co cr 0 tx ty y_23 z1 z2 y_5 y_20 y_13 y_21 y7_sf_11 y8_sf_11 y9_sf_11 y10_sf_11 y11_sf_11 v_14 y_22 v_16 v_17 sf_19 hS_sf_19 (f2 a) x_2 (bd_mono by_5 (by decide)) (bd_mono by_13 (by decide)) (bd_mono (bd_C ba.1.2) (by decide)) (bd_mono bx_2 (by decide))) gX11_crossSegments_X11_onLine rfl hy_X11_onLine_V ⟨Nat.le_of_ble_eq_true rfl, Nat.le_of_ble_eq_true rfl⟩ 0 rfl rfl [0, 5, 6] rfl (by decide) rfl rfl (Nat.le_of_ble_eq_true rfl) ⟨Nat.le_of_ble_eq_true rfl, Nat.le_of_ble_eq_true rfl⟩ ?_
        rintro _ ⟨y_25, y_26, y_27, y_28, sf_24⟩ ⟨rfl, ey_28, hS_sf_24⟩
        dsimp only at ey_28 hS_sf_24
        change J p l e rm_X11_crossSegments s m args below meth c Q G A 11 0 0 213 [(9, .long x_4), (7, .long x_3), (5, .long x_2), (3, .long x_1), (0, .ref (q 0)), (1, .int (nI a)), (2, .int (nI b))] [] [(q 0, .inr (10, mF t n q co cr 0 tx ty)), (q 2, aJ G 200 f1), (q 3, aJ G 200 f2), (q 4, aJ G 200 f3), (q 5, aJ G 200 f4), (q 10, aI G 320 (rg [y_23, y_28, z2, y_5, y_25, y_13, y_26, y7_sf_11, y8_sf_11, y9_sf_11, y10_sf_11, y11_sf_11, v_14, y_27, v_16, v_17])), (q 11, aZ G 16 sf_24), (q 12, aI G 2 sig)]
        have by_28 : bd 127 y_28 := by rw [ey_28]; exact bd_add (bd_mono (bd_mul (bd_C ba.1.2) by_5) (by decide)) (bd_mono (bd_mul bx_2 by_13) (by decide))
        refine j_aload_n X dX11_crossSegments_213 rfl 4 rfl ?_
        refine j_iconst (v := 2) X dX11_crossSegments_214 rfl ?_
        refine j_lconst (v := 0) X dX11_crossSegments_215 rfl ?_
        obtain ⟨y_29, ey_29⟩ : ∃ zz9 : Int, zz9 = 0 := ⟨_, rfl⟩
        have by_29 : bd 1 y_29 := by rw [ey_29]; exact (by decide : Int.natAbs 0 ≤ 2 ^ 1)
        refine j_callV X dX11_crossSegments_216 (n_load l G q t n co cr 0 tx ty [y_23, y_28, z2, y_5, y_25, y_13, y_26, y7_sf_11, y8_sf_11, y9_sf_11, y10_sf_11, y11_sf_11, v_14, y_27, v_16, v_17] sf_24 rfl hS_sf_24 2 2 rfl (by decide) 0 y_29 (by rw [ey_29]; rfl)) gX11_crossSegments_X11_load rfl hy_X11_load_V ⟨Nat.le_of_ble_eq_true rfl, Nat.le_of_ble_eq_true rfl⟩ 0 rfl rfl [0, 5, 6] rfl (by decide) rfl rfl (Nat.le_of_ble_eq_true rfl) ⟨Nat.le_of_ble_eq_true rfl, Nat.le_of_ble_eq_true rfl⟩ ?_
        rintro _ sf_30 ⟨rfl, hS_sf_30⟩
        change J p l e rm_X11_crossSegments s m args below meth c Q G A 11 0 0 219 [(9, .long x_4), (7, .long x_3), (5, .long x_2), (3, .long x_1), (0, .ref (q 0)), (1, .int (nI a)), (2, .int (nI b))] [] [(q 0, .inr (10, mF t n q co cr 0 tx ty)), (q 2, aJ G 200 f1), (q 3, aJ G 200 f2), (q 4, aJ G 200 f3), (q 5, aJ G 200 f4), (q 10, aI G 320 (rg [y_23, y_28, y_29, y_5, y_25, y_13, y_26, y7_sf_11, y8_sf_11, y9_sf_11, y10_sf_11, y11_sf_11, v_14, y_27, v_16, v_17])), (q 11, aZ G 16 sf_30), (q 12, aI G 2 sig)]
        refine j_aload_n X dX11_crossSegments_219 rfl 4 rfl ?_
        refine j_lconst (v := 0) X dX11_crossSegments_220 rfl ?_
        refine j_put (ws' := [(q 0, .inr (10, mF t n q co cr 0 0 ty)), (q 2, aJ G 200 f1), (q 3, aJ G 200 f2), (q 4, aJ G 200 f3), (q 5, aJ G 200 f4), (q 10, aI G 320 (rg [y_23, y_28, y_29, y_5, y_25, y_13, y_26, y7_sf_11, y8_sf_11, y9_sf_11, y10_sf_11, y11_sf_11, v_14, y_27, v_16, v_17])), (q 11, aZ G 16 sf_30), (q 12, aI G 2 sig)]) X dX11_crossSegments_221 0 rfl 17 rfl in_X11_crossSegments_X11 tyX11 tyX11_ok nmX11 (by decide) fl_X11_crossSegments_159 rfl rfl rfl rfl (Nat.le_of_ble_eq_true rfl) rfl ?_
        refine j_aload_n X dX11_crossSegments_224 rfl 4 rfl ?_
        refine j_lconst (v := 0) X dX11_crossSegments_225 rfl ?_
        refine j_put (ws' := [(q 0, .inr (10, mF t n q co cr 0 0 0)), (q 2, aJ G 200 f1), (q 3, aJ G 200 f2), (q 4, aJ G 200 f3), (q 5, aJ G 200 f4), (q 10, aI G 320 (rg [y_23, y_28, y_29, y_5, y_25, y_13, y_26, y7_sf_11, y8_sf_11, y9_sf_11, y10_sf_11, y11_sf_11, v_14, y_27, v_16, v_17])), (q 11, aZ G 16 sf_30), (q 12, aI G 2 sig)]) X dX11_crossSegments_226 0 rfl 18 rfl in_X11_crossSegments_X11 tyX11 tyX11_ok nmX11 (by decide) fl_X11_crossSegments_163 rfl rfl rfl rfl (Nat.le_of_ble_eq_true rfl) rfl ?_
        refine j_aload_n X dX11_crossSegments_229 rfl 4 rfl ?_
        refine j_iconst (v := 0) X dX11_crossSegments_230 rfl ?_
        refine j_callV X dX11_crossSegments_231 (c_X11_pointWith_0 l G q t n co cr 0 0 sig 0) gX11_crossSegments_X11_pointWith rfl hy_X11_pointWith_V ⟨Nat.le_of_ble_eq_true rfl, Nat.le_of_ble_eq_true rfl⟩ 0 rfl rfl [0, 7] rfl (by decide) rfl rfl (Nat.le_of_ble_eq_true rfl) ⟨Nat.le_of_ble_eq_true rfl, Nat.le_of_ble_eq_true rfl⟩ ?_
        rintro _ ⟨⟩ rfl
        change J p l e rm_X11_crossSegments s m args below meth c Q G A 11 0 0 234 [(9, .long x_4), (7, .long x_3), (5, .long x_2), (3, .long x_1), (0, .ref (q 0)), (1, .int (nI a)), (2, .int (nI b))] [] [(q 0, .inr (10, mF t n q co cr 1 0 0)), (q 2, aJ G 200 f1), (q 3, aJ G 200 f2), (q 4, aJ G 200 f3), (q 5, aJ G 200 f4), (q 10, aI G 320 (rg [y_23, y_28, y_29, y_5, y_25, y_13, y_26, y7_sf_11, y8_sf_11, y9_sf_11, y10_sf_11, y11_sf_11, v_14, y_27, v_16, v_17])), (q 11, aZ G 16 sf_30), (q 12, aI G 2 (upd sig 0 0))]
        refine j_iconst (v := 1) X dX11_crossSegments_234 rfl ?_
        have hU9 : y_23 = (f1 a).toInt * (ssL (f1 a).toInt (f2 a).toInt (f3 a).toInt (f4 a).toInt (f1 b).toInt (f2 b).toInt (f3 b).toInt (f4 b).toInt) + ((f3 a).toInt - (f1 a).toInt) * (ssB (f1 a).toInt (f2 a).toInt (f1 b).toInt (f2 b).toInt (f3 b).toInt (f4 b).toInt) := by rw [ey_23, hL, hB, tx_1]
        have hV9 : y_28 = (f2 a).toInt * (ssL (f1 a).toInt (f2 a).toInt (f3 a).toInt (f4 a).toInt (f1 b).toInt (f2 b).toInt (f3 b).toInt (f4 b).toInt) + ((f4 a).toInt - (f2 a).toInt) * (ssB (f1 a).toInt (f2 a).toInt (f1 b).toInt (f2 b).toInt (f3 b).toInt (f4 b).toInt) := by rw [ey_28, hL, hB, tx_2]
        have hL9 : y_5 = ssL (f1 a).toInt (f2 a).toInt (f3 a).toInt (f4 a).toInt (f1 b).toInt (f2 b).toInt (f3 b).toInt (f4 b).toInt := hL
        exact E.2.1 235 _ 1 (1, upd sig 0 0, 0, 0, [y_23, y_28, y_29, y_5, y_25, y_13, y_26, y7_sf_11, y8_sf_11, y9_sf_11, y10_sf_11, y11_sf_11, v_14, y_27, v_16, v_17], sf_30) _ dX11_crossSegments_235 (⟨some ([0], (f1 a).toInt * (ssL (f1 a).toInt (f2 a).toInt (f3 a).toInt (f4 a).toInt (f1 b).toInt (f2 b).toInt (f3 b).toInt (f4 b).toInt) + ((f3 a).toInt - (f1 a).toInt) * (ssB (f1 a).toInt (f2 a).toInt (f1 b).toInt (f2 b).toInt (f3 b).toInt (f4 b).toInt), (f2 a).toInt * (ssL (f1 a).toInt (f2 a).toInt (f3 a).toInt (f4 a).toInt (f1 b).toInt (f2 b).toInt (f3 b).toInt (f4 b).toInt) + ((f4 a).toInt - (f2 a).toInt) * (ssB (f1 a).toInt (f2 a).toInt (f1 b).toInt (f2 b).toInt (f3 b).toInt (f4 b).toInt), 0, ssL (f1 a).toInt (f2 a).toInt (f3 a).toInt (f4 a).toInt (f1 b).toInt (f2 b).toInt (f3 b).toInt (f4 b).toInt, 0, 0), by unfold xss; rw [if_neg hL0, if_neg (fun h => h c_111), if_neg (by rw [← hL]; omega)], Or.inr ⟨_, rfl, rfl, ⟨rfl, sgL_1 _ _, fun _ => ⟨⟨hU9, hV9, ey_29, hL9⟩, rfl, rfl⟩⟩, rfl, hS_sf_30⟩⟩) hr rfl
      · skip
        have hs3 : y_5 ≤ 0 := by rcases hS_sf_18 3 (by decide) with h | h; exact absurd h.1 c_158; exact h.2
        refine j_aload_n X dX11_crossSegments_161 rfl 4 rfl ?_
        refine j_get (v := .ref (q 11)) X dX11_crossSegments_162 0 rfl 13 rfl in_X11_crossSegments_X11 (by decide) fl_X11_crossSegments_42 rfl ?_
        refine j_iconst (v := 3) X dX11_crossSegments_165 rfl ?_
        refine j_iconst (v := 0) X dX11_crossSegments_166 rfl ?_
        refine j_zast (ws' := [(q 0, .inr (10, mF t n q co cr 0 tx ty)), (q 2, aJ G 200 f1), (q 3, aJ G 200 f2), (q 4, aJ G 200 f3), (q 5, aJ G 200 f4), (q 10, aI G 320 (rg [z0, z1, z2, y_5, y4_sf_11, y_13, y6_sf_11, y7_sf_11, y8_sf_11, y9_sf_11, y10_sf_11, y11_sf_11, v_14, v_15, v_16, v_17])), (q 11, aZ G 16 (upd sf_18 3 0)), (q 12, aI G 2 sig)]) X dX11_crossSegments_167 6 rfl 3 rfl (by decide) (by decide) (Or.inl rfl) rfl ?_
        obtain ⟨y_31, ey_31⟩ : ∃ zz9 : Int, zz9 = -y_5 := ⟨_, rfl⟩
        have by_31 : bd 83 y_31 := by rw [ey_31]; exact bd_neg by_5
        have hS_y_31 : okS [z0, z1, z2, y_31, y4_sf_11, y_13, y6_sf_11, y7_sf_11, y8_sf_11, y9_sf_11, y10_sf_11, y11_sf_11, v_14, v_15, v_16, v_17] (upd sf_18 3 0) := by rw [ey_31]; exact okS_set (d := 3) rfl (by decide) hS_sf_18 (ok_flip1 (hS_sf_18 3 (by decide)) c_158)
        refine j_setI (ws' := [(q 0, .inr (10, mF t n q co cr 0 tx ty)), (q 2, aJ G 200 f1), (q 3, aJ G 200 f2), (q 4, aJ G 200 f3), (q 5, aJ G 200 f4), (q 10, aI G 320 (rg [z0, z1, z2, y_31, y4_sf_11, y_13, y6_sf_11, y7_sf_11, y8_sf_11, y9_sf_11, y10_sf_11, y11_sf_11, v_14, v_15, v_16, v_17])), (q 11, aZ G 16 (upd sf_18 3 0)), (q 12, aI G 2 sig)]) (g := rg [z0, z1, z2, y_31, y4_sf_11, y_13, y6_sf_11, y7_sf_11, y8_sf_11, y9_sf_11, y10_sf_11, y11_sf_11, v_14, v_15, v_16, v_17]) 5 rfl (rg_abs (fun r => by rw [ey_31]; exact rg_flip (zs := [z0, z1, z2, y_5, y4_sf_11, y_13, y6_sf_11, y7_sf_11, y8_sf_11, y9_sf_11, y10_sf_11, y11_sf_11, v_14, v_15, v_16, v_17]) (d := 3) (Nat.le_of_ble_eq_true rfl) r)) rfl ?_
        refine j_aload_n X dX11_crossSegments_168 rfl 4 rfl ?_
        refine j_get (v := .ref (q 11)) X dX11_crossSegments_169 0 rfl 13 rfl in_X11_crossSegments_X11 (by decide) fl_X11_crossSegments_42 rfl ?_
        refine j_iconst (v := 5) X dX11_crossSegments_172 rfl ?_
        refine j_aload_n X dX11_crossSegments_173 rfl 4 rfl ?_
        refine j_get (v := .ref (q 11)) X dX11_crossSegments_174 0 rfl 13 rfl in_X11_crossSegments_X11 (by decide) fl_X11_crossSegments_42 rfl ?_
        refine j_iconst (v := 5) X dX11_crossSegments_177 rfl ?_
        refine j_zald X dX11_crossSegments_178 6 rfl 5 rfl (by decide) (by decide) ?_
        refine j_if_ne (tgt := 186) X dX11_crossSegments_179 (by decide) (fun c_179 => ?_) (fun c_179 => ?_)
        · skip
          refine j_iconst (v := 0) X dX11_crossSegments_186 rfl ?_
          refine j_zast (ws' := [(q 0, .inr (10, mF t n q co cr 0 tx ty)), (q 2, aJ G 200 f1), (q 3, aJ G 200 f2), (q 4, aJ G 200 f3), (q 5, aJ G 200 f4), (q 10, aI G 320 (rg [z0, z1, z2, y_31, y4_sf_11, y_13, y6_sf_11, y7_sf_11, y8_sf_11, y9_sf_11, y10_sf_11, y11_sf_11, v_14, v_15, v_16, v_17])), (q 11, aZ G 16 (upd (upd sf_18 3 0) 5 0)), (q 12, aI G 2 sig)]) X dX11_crossSegments_187 6 rfl 5 rfl (by decide) (by decide) (Or.inl rfl) rfl ?_
          obtain ⟨y_32, ey_32⟩ : ∃ zz9 : Int, zz9 = -y_13 := ⟨_, rfl⟩
          have by_32 : bd 83 y_32 := by rw [ey_32]; exact bd_neg by_13
          have hS_y_32 : okS [z0, z1, z2, y_31, y4_sf_11, y_32, y6_sf_11, y7_sf_11, y8_sf_11, y9_sf_11, y10_sf_11, y11_sf_11, v_14, v_15, v_16, v_17] (upd (upd sf_18 3 0) 5 0) := by rw [ey_32]; exact okS_set (d := 5) rfl (by decide) hS_y_31 (ok_flip1 (hS_y_31 5 (by decide)) c_179)
          refine j_setI (ws' := [(q 0, .inr (10, mF t n q co cr 0 tx ty)), (q 2, aJ G 200 f1), (q 3, aJ G 200 f2), (q 4, aJ G 200 f3), (q 5, aJ G 200 f4), (q 10, aI G 320 (rg [z0, z1, z2, y_31, y4_sf_11, y_32, y6_sf_11, y7_sf_11, y8_sf_11, y9_sf_11, y10_sf_11, y11_sf_11, v_14, v_15, v_16, v_17])), (q 11, aZ G 16 (upd (upd sf_18 3 0) 5 0)), (q 12, aI G 2 sig)]) (g := rg [z0, z1, z2, y_31, y4_sf_11, y_32, y6_sf_11, y7_sf_11, y8_sf_11, y9_sf_11, y10_sf_11, y11_sf_11, v_14, v_15, v_16, v_17]) 5 rfl (rg_abs (fun r => by rw [ey_32]; exact rg_flip (zs := [z0, z1, z2, y_31, y4_sf_11, y_13, y6_sf_11, y7_sf_11, y8_sf_11, y9_sf_11, y10_sf_11, y11_sf_11, v_14, v_15, v_16, v_17]) (d := 5) (Nat.le_of_ble_eq_true rfl) r)) rfl ?_
          refine j_aload_n X dX11_crossSegments_188 rfl 4 rfl ?_
          refine j_aload_n X dX11_crossSegments_189 rfl 4 rfl ?_
          refine j_get (v := .ref (q 2)) X dX11_crossSegments_190 0 rfl 3 rfl in_X11_crossSegments_X11 (by decide) fl_X11_crossSegments_13 rfl ?_
          refine j_iload_n X dX11_crossSegments_193 rfl 5 rfl ?_
          refine j_lald X dX11_crossSegments_194 1 rfl a rfl ga (by decide) ?_
          refine j_lload_n X dX11_crossSegments_195 rfl 3 rfl ?_
          refine j_iconst (v := 0) X dX11_crossSegments_196 rfl ?_
          refine j_callV X dX11_crossSegments_197 (c_X11_onLine_0 l G q t n co cr 0 tx ty z0 z1 z2 y_31 y4_sf_11 y_32 y6_sf_11 y7_sf_11 y8_sf_11 y9_sf_11 y10_sf_11 y11_sf_11 v_14 v_15 v_16 v_17 (upd (upd sf_18 3 0) 5 0) hS_y_32 (f1 a) x_1 (bd_mono by_31 (by decide)) (bd_mono by_32 (by decide)) (bd_mono (bd_C ba.1.1) (by decide)) (bd_mono bx_1 (by decide))) gX11_crossSegments_X11_onLine rfl hy_X11_onLine_V ⟨Nat.le_of_ble_eq_true rfl, Nat.le_of_ble_eq_true rfl⟩ 0 rfl rfl [0, 5, 6] rfl (by decide) rfl rfl (Nat.le_of_ble_eq_true rfl) ⟨Nat.le_of_ble_eq_true rfl, Nat.le_of_ble_eq_true rfl⟩ ?_
          rintro _ ⟨y_34, y_35, y_36, y_37, sf_33⟩ ⟨rfl, ey_37, hS_sf_33⟩
          dsimp only at ey_37 hS_sf_33
          change J p l e rm_X11_crossSegments s m args below meth c Q G A 11 0 0 200 [(9, .long x_4), (7, .long x_3), (5, .long x_2), (3, .long x_1), (0, .ref (q 0)), (1, .int (nI a)), (2, .int (nI b))] [] [(q 0, .inr (10, mF t n q co cr 0 tx ty)), (q 2, aJ G 200 f1), (q 3, aJ G 200 f2), (q 4, aJ G 200 f3), (q 5, aJ G 200 f4), (q 10, aI G 320 (rg [y_37, z1, z2, y_31, y_34, y_32, y_35, y7_sf_11, y8_sf_11, y9_sf_11, y10_sf_11, y11_sf_11, v_14, y_36, v_16, v_17])), (q 11, aZ G 16 sf_33), (q 12, aI G 2 sig)]
          have by_37 : bd 127 y_37 := by rw [ey_37]; exact bd_add (bd_mono (bd_mul (bd_C ba.1.1) by_31) (by decide)) (bd_mono (bd_mul bx_1 by_32) (by decide))
          refine j_aload_n X dX11_crossSegments_200 rfl 4 rfl ?_
          refine j_aload_n X dX11_crossSegments_201 rfl 4 rfl ?_
          refine j_get (v := .ref (q 3)) X dX11_crossSegments_202 0 rfl 4 rfl in_X11_crossSegments_X11 (by decide) fl_X11_crossSegments_17 rfl ?_
          refine j_iload_n X dX11_crossSegments_205 rfl 5 rfl ?_
          refine j_lald X dX11_crossSegments_206 2 rfl a rfl ga (by decide) ?_
          refine j_lload X dX11_crossSegments_207 2 rfl ?_
          refine j_iconst (v := 1) X dX11_crossSegments_209 rfl ?_
          refine j_callV X dX11_crossSegments_210 (c_X11_onLine_1 l G q t n co cr 0 tx ty y_37 z1 z2 y_31 y_34 y_32 y_35 y7_sf_11 y8_sf_11 y9_sf_11 y10_sf_11 y11_sf_11 v_14 y_36 v_16 v_17 sf_33 hS_sf_33 (f2 a) x_2 (bd_mono by_31 (by decide)) (bd_mono by_32 (by decide)) (bd_mono (bd_C ba.1.2) (by decide)) (bd_mono bx_2 (by decide))) gX11_crossSegments_X11_onLine rfl hy_X11_onLine_V ⟨Nat.le_of_ble_eq_true rfl, Nat.le_of_ble_eq_true rfl⟩ 0 rfl rfl [0, 5, 6] rfl (by decide) rfl rfl (Nat.le_of_ble_eq_true rfl) ⟨Nat.le_of_ble_eq_true rfl, Nat.le_of_ble_eq_true rfl⟩ ?_
          rintro _ ⟨y_39, y_40, y_41, y_42, sf_38⟩ ⟨rfl, ey_42, hS_sf_38⟩
          dsimp only at ey_42 hS_sf_38
          change J p l e rm_X11_crossSegments s m args below meth c Q G A 11 0 0 213 [(9, .long x_4), (7, .long x_3), (5, .long x_2), (3, .long x_1), (0, .ref (q 0)), (1, .int (nI a)), (2, .int (nI b))] [] [(q 0, .inr (10, mF t n q co cr 0 tx ty)), (q 2, aJ G 200 f1), (q 3, aJ G 200 f2), (q 4, aJ G 200 f3), (q 5, aJ G 200 f4), (q 10, aI G 320 (rg [y_37, y_42, z2, y_31, y_39, y_32, y_40, y7_sf_11, y8_sf_11, y9_sf_11, y10_sf_11, y11_sf_11, v_14, y_41, v_16, v_17])), (q 11, aZ G 16 sf_38), (q 12, aI G 2 sig)]
          have by_42 : bd 127 y_42 := by rw [ey_42]; exact bd_add (bd_mono (bd_mul (bd_C ba.1.2) by_31) (by decide)) (bd_mono (bd_mul bx_2 by_32) (by decide))
          refine j_aload_n X dX11_crossSegments_213 rfl 4 rfl ?_
          refine j_iconst (v := 2) X dX11_crossSegments_214 rfl ?_
          refine j_lconst (v := 0) X dX11_crossSegments_215 rfl ?_
          obtain ⟨y_43, ey_43⟩ : ∃ zz9 : Int, zz9 = 0 := ⟨_, rfl⟩
          have by_43 : bd 1 y_43 := by rw [ey_43]; exact (by decide : Int.natAbs 0 ≤ 2 ^ 1)
          refine j_callV X dX11_crossSegments_216 (n_load l G q t n co cr 0 tx ty [y_37, y_42, z2, y_31, y_39, y_32, y_40, y7_sf_11, y8_sf_11, y9_sf_11, y10_sf_11, y11_sf_11, v_14, y_41, v_16, v_17] sf_38 rfl hS_sf_38 2 2 rfl (by decide) 0 y_43 (by rw [ey_43]; rfl)) gX11_crossSegments_X11_load rfl hy_X11_load_V ⟨Nat.le_of_ble_eq_true rfl, Nat.le_of_ble_eq_true rfl⟩ 0 rfl rfl [0, 5, 6] rfl (by decide) rfl rfl (Nat.le_of_ble_eq_true rfl) ⟨Nat.le_of_ble_eq_true rfl, Nat.le_of_ble_eq_true rfl⟩ ?_
          rintro _ sf_44 ⟨rfl, hS_sf_44⟩
          change J p l e rm_X11_crossSegments s m args below meth c Q G A 11 0 0 219 [(9, .long x_4), (7, .long x_3), (5, .long x_2), (3, .long x_1), (0, .ref (q 0)), (1, .int (nI a)), (2, .int (nI b))] [] [(q 0, .inr (10, mF t n q co cr 0 tx ty)), (q 2, aJ G 200 f1), (q 3, aJ G 200 f2), (q 4, aJ G 200 f3), (q 5, aJ G 200 f4), (q 10, aI G 320 (rg [y_37, y_42, y_43, y_31, y_39, y_32, y_40, y7_sf_11, y8_sf_11, y9_sf_11, y10_sf_11, y11_sf_11, v_14, y_41, v_16, v_17])), (q 11, aZ G 16 sf_44), (q 12, aI G 2 sig)]
          refine j_aload_n X dX11_crossSegments_219 rfl 4 rfl ?_
          refine j_lconst (v := 0) X dX11_crossSegments_220 rfl ?_
          refine j_put (ws' := [(q 0, .inr (10, mF t n q co cr 0 0 ty)), (q 2, aJ G 200 f1), (q 3, aJ G 200 f2), (q 4, aJ G 200 f3), (q 5, aJ G 200 f4), (q 10, aI G 320 (rg [y_37, y_42, y_43, y_31, y_39, y_32, y_40, y7_sf_11, y8_sf_11, y9_sf_11, y10_sf_11, y11_sf_11, v_14, y_41, v_16, v_17])), (q 11, aZ G 16 sf_44), (q 12, aI G 2 sig)]) X dX11_crossSegments_221 0 rfl 17 rfl in_X11_crossSegments_X11 tyX11 tyX11_ok nmX11 (by decide) fl_X11_crossSegments_159 rfl rfl rfl rfl (Nat.le_of_ble_eq_true rfl) rfl ?_
          refine j_aload_n X dX11_crossSegments_224 rfl 4 rfl ?_
          refine j_lconst (v := 0) X dX11_crossSegments_225 rfl ?_
          refine j_put (ws' := [(q 0, .inr (10, mF t n q co cr 0 0 0)), (q 2, aJ G 200 f1), (q 3, aJ G 200 f2), (q 4, aJ G 200 f3), (q 5, aJ G 200 f4), (q 10, aI G 320 (rg [y_37, y_42, y_43, y_31, y_39, y_32, y_40, y7_sf_11, y8_sf_11, y9_sf_11, y10_sf_11, y11_sf_11, v_14, y_41, v_16, v_17])), (q 11, aZ G 16 sf_44), (q 12, aI G 2 sig)]) X dX11_crossSegments_226 0 rfl 18 rfl in_X11_crossSegments_X11 tyX11 tyX11_ok nmX11 (by decide) fl_X11_crossSegments_163 rfl rfl rfl rfl (Nat.le_of_ble_eq_true rfl) rfl ?_
          refine j_aload_n X dX11_crossSegments_229 rfl 4 rfl ?_
          refine j_iconst (v := 0) X dX11_crossSegments_230 rfl ?_
          refine j_callV X dX11_crossSegments_231 (c_X11_pointWith_0 l G q t n co cr 0 0 sig 0) gX11_crossSegments_X11_pointWith rfl hy_X11_pointWith_V ⟨Nat.le_of_ble_eq_true rfl, Nat.le_of_ble_eq_true rfl⟩ 0 rfl rfl [0, 7] rfl (by decide) rfl rfl (Nat.le_of_ble_eq_true rfl) ⟨Nat.le_of_ble_eq_true rfl, Nat.le_of_ble_eq_true rfl⟩ ?_
          rintro _ ⟨⟩ rfl
          change J p l e rm_X11_crossSegments s m args below meth c Q G A 11 0 0 234 [(9, .long x_4), (7, .long x_3), (5, .long x_2), (3, .long x_1), (0, .ref (q 0)), (1, .int (nI a)), (2, .int (nI b))] [] [(q 0, .inr (10, mF t n q co cr 1 0 0)), (q 2, aJ G 200 f1), (q 3, aJ G 200 f2), (q 4, aJ G 200 f3), (q 5, aJ G 200 f4), (q 10, aI G 320 (rg [y_37, y_42, y_43, y_31, y_39, y_32, y_40, y7_sf_11, y8_sf_11, y9_sf_11, y10_sf_11, y11_sf_11, v_14, y_41, v_16, v_17])), (q 11, aZ G 16 sf_44), (q 12, aI G 2 (upd sig 0 0))]
          refine j_iconst (v := 1) X dX11_crossSegments_234 rfl ?_
          have hU9 : y_37 = (f1 a).toInt * -ssL (f1 a).toInt (f2 a).toInt (f3 a).toInt (f4 a).toInt (f1 b).toInt (f2 b).toInt (f3 b).toInt (f4 b).toInt + ((f3 a).toInt - (f1 a).toInt) * -ssB (f1 a).toInt (f2 a).toInt (f1 b).toInt (f2 b).toInt (f3 b).toInt (f4 b).toInt := by rw [ey_37, ey_31, ey_32, hL, hB, tx_1]
          have hV9 : y_42 = (f2 a).toInt * -ssL (f1 a).toInt (f2 a).toInt (f3 a).toInt (f4 a).toInt (f1 b).toInt (f2 b).toInt (f3 b).toInt (f4 b).toInt + ((f4 a).toInt - (f2 a).toInt) * -ssB (f1 a).toInt (f2 a).toInt (f1 b).toInt (f2 b).toInt (f3 b).toInt (f4 b).toInt := by rw [ey_42, ey_31, ey_32, hL, hB, tx_2]
          have hL9 : y_31 = -ssL (f1 a).toInt (f2 a).toInt (f3 a).toInt (f4 a).toInt (f1 b).toInt (f2 b).toInt (f3 b).toInt (f4 b).toInt := by rw [ey_31, hL]
          exact E.2.1 235 _ 1 (1, upd sig 0 0, 0, 0, [y_37, y_42, y_43, y_31, y_39, y_32, y_40, y7_sf_11, y8_sf_11, y9_sf_11, y10_sf_11, y11_sf_11, v_14, y_41, v_16, v_17], sf_44) _ dX11_crossSegments_235 (⟨some ([0], (f1 a).toInt * -ssL (f1 a).toInt (f2 a).toInt (f3 a).toInt (f4 a).toInt (f1 b).toInt (f2 b).toInt (f3 b).toInt (f4 b).toInt + ((f3 a).toInt - (f1 a).toInt) * -ssB (f1 a).toInt (f2 a).toInt (f1 b).toInt (f2 b).toInt (f3 b).toInt (f4 b).toInt, (f2 a).toInt * -ssL (f1 a).toInt (f2 a).toInt (f3 a).toInt (f4 a).toInt (f1 b).toInt (f2 b).toInt (f3 b).toInt (f4 b).toInt + ((f4 a).toInt - (f2 a).toInt) * -ssB (f1 a).toInt (f2 a).toInt (f1 b).toInt (f2 b).toInt (f3 b).toInt (f4 b).toInt, 0, -ssL (f1 a).toInt (f2 a).toInt (f3 a).toInt (f4 a).toInt (f1 b).toInt (f2 b).toInt (f3 b).toInt (f4 b).toInt, 0, 0), by unfold xss; rw [if_neg hL0, if_neg (fun h => h c_111), if_pos (by rw [← hL]; omega)], Or.inr ⟨_, rfl, rfl, ⟨rfl, sgL_1 _ _, fun _ => ⟨⟨hU9, hV9, ey_43, hL9⟩, rfl, rfl⟩⟩, rfl, hS_sf_44⟩⟩) hr rfl
        · skip
          refine j_iconst (v := 1) X dX11_crossSegments_182 rfl ?_
          refine j_goto (tgt := 187) X dX11_crossSegments_183 (by decide) ?_
          refine j_zast (ws' := [(q 0, .inr (10, mF t n q co cr 0 tx ty)), (q 2, aJ G 200 f1), (q 3, aJ G 200 f2), (q 4, aJ G 200 f3), (q 5, aJ G 200 f4), (q 10, aI G 320 (rg [z0, z1, z2, y_31, y4_sf_11, y_13, y6_sf_11, y7_sf_11, y8_sf_11, y9_sf_11, y10_sf_11, y11_sf_11, v_14, v_15, v_16, v_17])), (q 11, aZ G 16 (upd (upd sf_18 3 0) 5 1)), (q 12, aI G 2 sig)]) X dX11_crossSegments_187 6 rfl 5 rfl (by decide) (by decide) (Or.inr rfl) rfl ?_
          obtain ⟨y_45, ey_45⟩ : ∃ zz9 : Int, zz9 = -y_13 := ⟨_, rfl⟩
          have by_45 : bd 83 y_45 := by rw [ey_45]; exact bd_neg by_13
          have hS_y_45 : okS [z0, z1, z2, y_31, y4_sf_11, y_45, y6_sf_11, y7_sf_11, y8_sf_11, y9_sf_11, y10_sf_11, y11_sf_11, v_14, v_15, v_16, v_17] (upd (upd sf_18 3 0) 5 1) := by rw [ey_45]; exact okS_set (d := 5) rfl (by decide) hS_y_31 (ok_flip0 (hS_y_31 5 (by decide)) c_179)
          refine j_setI (ws' := [(q 0, .inr (10, mF t n q co cr 0 tx ty)), (q 2, aJ G 200 f1), (q 3, aJ G 200 f2), (q 4, aJ G 200 f3), (q 5, aJ G 200 f4), (q 10, aI G 320 (rg [z0, z1, z2, y_31, y4_sf_11, y_45, y6_sf_11, y7_sf_11, y8_sf_11, y9_sf_11, y10_sf_11, y11_sf_11, v_14, v_15, v_16, v_17])), (q 11, aZ G 16 (upd (upd sf_18 3 0) 5 1)), (q 12, aI G 2 sig)]) (g := rg [z0, z1, z2, y_31, y4_sf_11, y_45, y6_sf_11, y7_sf_11, y8_sf_11, y9_sf_11, y10_sf_11, y11_sf_11, v_14, v_15, v_16, v_17]) 5 rfl (rg_abs (fun r => by rw [ey_45]; exact rg_flip (zs := [z0, z1, z2, y_31, y4_sf_11, y_13, y6_sf_11, y7_sf_11, y8_sf_11, y9_sf_11, y10_sf_11, y11_sf_11, v_14, v_15, v_16, v_17]) (d := 5) (Nat.le_of_ble_eq_true rfl) r)) rfl ?_
          refine j_aload_n X dX11_crossSegments_188 rfl 4 rfl ?_
          refine j_aload_n X dX11_crossSegments_189 rfl 4 rfl ?_
          refine j_get (v := .ref (q 2)) X dX11_crossSegments_190 0 rfl 3 rfl in_X11_crossSegments_X11 (by decide) fl_X11_crossSegments_13 rfl ?_
          refine j_iload_n X dX11_crossSegments_193 rfl 5 rfl ?_
          refine j_lald X dX11_crossSegments_194 1 rfl a rfl ga (by decide) ?_
          refine j_lload_n X dX11_crossSegments_195 rfl 3 rfl ?_
          refine j_iconst (v := 0) X dX11_crossSegments_196 rfl ?_
          refine j_callV X dX11_crossSegments_197 (c_X11_onLine_0 l G q t n co cr 0 tx ty z0 z1 z2 y_31 y4_sf_11 y_45 y6_sf_11 y7_sf_11 y8_sf_11 y9_sf_11 y10_sf_11 y11_sf_11 v_14 v_15 v_16 v_17 (upd (upd sf_18 3 0) 5 1) hS_y_45 (f1 a) x_1 (bd_mono by_31 (by decide)) (bd_mono by_45 (by decide)) (bd_mono (bd_C ba.1.1) (by decide)) (bd_mono bx_1 (by decide))) gX11_crossSegments_X11_onLine rfl hy_X11_onLine_V ⟨Nat.le_of_ble_eq_true rfl, Nat.le_of_ble_eq_true rfl⟩ 0 rfl rfl [0, 5, 6] rfl (by decide) rfl rfl (Nat.le_of_ble_eq_true rfl) ⟨Nat.le_of_ble_eq_true rfl, Nat.le_of_ble_eq_true rfl⟩ ?_
          rintro _ ⟨y_47, y_48, y_49, y_50, sf_46⟩ ⟨rfl, ey_50, hS_sf_46⟩
          dsimp only at ey_50 hS_sf_46
          change J p l e rm_X11_crossSegments s m args below meth c Q G A 11 0 0 200 [(9, .long x_4), (7, .long x_3), (5, .long x_2), (3, .long x_1), (0, .ref (q 0)), (1, .int (nI a)), (2, .int (nI b))] [] [(q 0, .inr (10, mF t n q co cr 0 tx ty)), (q 2, aJ G 200 f1), (q 3, aJ G 200 f2), (q 4, aJ G 200 f3), (q 5, aJ G 200 f4), (q 10, aI G 320 (rg [y_50, z1, z2, y_31, y_47, y_45, y_48, y7_sf_11, y8_sf_11, y9_sf_11, y10_sf_11, y11_sf_11, v_14, y_49, v_16, v_17])), (q 11, aZ G 16 sf_46), (q 12, aI G 2 sig)]
          have by_50 : bd 127 y_50 := by rw [ey_50]; exact bd_add (bd_mono (bd_mul (bd_C ba.1.1) by_31) (by decide)) (bd_mono (bd_mul bx_1 by_45) (by decide))
          refine j_aload_n X dX11_crossSegments_200 rfl 4 rfl ?_
          refine j_aload_n X dX11_crossSegments_201 rfl 4 rfl ?_
          refine j_get (v := .ref (q 3)) X dX11_crossSegments_202 0 rfl 4 rfl in_X11_crossSegments_X11 (by decide) fl_X11_crossSegments_17 rfl ?_
          refine j_iload_n X dX11_crossSegments_205 rfl 5 rfl ?_
          refine j_lald X dX11_crossSegments_206 2 rfl a rfl ga (by decide) ?_
          refine j_lload X dX11_crossSegments_207 2 rfl ?_
          refine j_iconst (v := 1) X dX11_crossSegments_209 rfl ?_
          refine j_callV X dX11_crossSegments_210 (c_X11_onLine_1 l G q t n co cr 0 tx ty y_50 z1 z2 y_31 y_47 y_45 y_48 y7_sf_11 y8_sf_11 y9_sf_11 y10_sf_11 y11_sf_11 v_14 y_49 v_16 v_17 sf_46 hS_sf_46 (f2 a) x_2 (bd_mono by_31 (by decide)) (bd_mono by_45 (by decide)) (bd_mono (bd_C ba.1.2) (by decide)) (bd_mono bx_2 (by decide))) gX11_crossSegments_X11_onLine rfl hy_X11_onLine_V ⟨Nat.le_of_ble_eq_true rfl, Nat.le_of_ble_eq_true rfl⟩ 0 rfl rfl [0, 5, 6] rfl (by decide) rfl rfl (Nat.le_of_ble_eq_true rfl) ⟨Nat.le_of_ble_eq_true rfl, Nat.le_of_ble_eq_true rfl⟩ ?_
          rintro _ ⟨y_52, y_53, y_54, y_55, sf_51⟩ ⟨rfl, ey_55, hS_sf_51⟩
          dsimp only at ey_55 hS_sf_51
          change J p l e rm_X11_crossSegments s m args below meth c Q G A 11 0 0 213 [(9, .long x_4), (7, .long x_3), (5, .long x_2), (3, .long x_1), (0, .ref (q 0)), (1, .int (nI a)), (2, .int (nI b))] [] [(q 0, .inr (10, mF t n q co cr 0 tx ty)), (q 2, aJ G 200 f1), (q 3, aJ G 200 f2), (q 4, aJ G 200 f3), (q 5, aJ G 200 f4), (q 10, aI G 320 (rg [y_50, y_55, z2, y_31, y_52, y_45, y_53, y7_sf_11, y8_sf_11, y9_sf_11, y10_sf_11, y11_sf_11, v_14, y_54, v_16, v_17])), (q 11, aZ G 16 sf_51), (q 12, aI G 2 sig)]
          have by_55 : bd 127 y_55 := by rw [ey_55]; exact bd_add (bd_mono (bd_mul (bd_C ba.1.2) by_31) (by decide)) (bd_mono (bd_mul bx_2 by_45) (by decide))
          refine j_aload_n X dX11_crossSegments_213 rfl 4 rfl ?_
          refine j_iconst (v := 2) X dX11_crossSegments_214 rfl ?_
          refine j_lconst (v := 0) X dX11_crossSegments_215 rfl ?_
          obtain ⟨y_56, ey_56⟩ : ∃ zz9 : Int, zz9 = 0 := ⟨_, rfl⟩
          have by_56 : bd 1 y_56 := by rw [ey_56]; exact (by decide : Int.natAbs 0 ≤ 2 ^ 1)
          refine j_callV X dX11_crossSegments_216 (n_load l G q t n co cr 0 tx ty [y_50, y_55, z2, y_31, y_52, y_45, y_53, y7_sf_11, y8_sf_11, y9_sf_11, y10_sf_11, y11_sf_11, v_14, y_54, v_16, v_17] sf_51 rfl hS_sf_51 2 2 rfl (by decide) 0 y_56 (by rw [ey_56]; rfl)) gX11_crossSegments_X11_load rfl hy_X11_load_V ⟨Nat.le_of_ble_eq_true rfl, Nat.le_of_ble_eq_true rfl⟩ 0 rfl rfl [0, 5, 6] rfl (by decide) rfl rfl (Nat.le_of_ble_eq_true rfl) ⟨Nat.le_of_ble_eq_true rfl, Nat.le_of_ble_eq_true rfl⟩ ?_
          rintro _ sf_57 ⟨rfl, hS_sf_57⟩
          change J p l e rm_X11_crossSegments s m args below meth c Q G A 11 0 0 219 [(9, .long x_4), (7, .long x_3), (5, .long x_2), (3, .long x_1), (0, .ref (q 0)), (1, .int (nI a)), (2, .int (nI b))] [] [(q 0, .inr (10, mF t n q co cr 0 tx ty)), (q 2, aJ G 200 f1), (q 3, aJ G 200 f2), (q 4, aJ G 200 f3), (q 5, aJ G 200 f4), (q 10, aI G 320 (rg [y_50, y_55, y_56, y_31, y_52, y_45, y_53, y7_sf_11, y8_sf_11, y9_sf_11, y10_sf_11, y11_sf_11, v_14, y_54, v_16, v_17])), (q 11, aZ G 16 sf_57), (q 12, aI G 2 sig)]
          refine j_aload_n X dX11_crossSegments_219 rfl 4 rfl ?_
          refine j_lconst (v := 0) X dX11_crossSegments_220 rfl ?_
          refine j_put (ws' := [(q 0, .inr (10, mF t n q co cr 0 0 ty)), (q 2, aJ G 200 f1), (q 3, aJ G 200 f2), (q 4, aJ G 200 f3), (q 5, aJ G 200 f4), (q 10, aI G 320 (rg [y_50, y_55, y_56, y_31, y_52, y_45, y_53, y7_sf_11, y8_sf_11, y9_sf_11, y10_sf_11, y11_sf_11, v_14, y_54, v_16, v_17])), (q 11, aZ G 16 sf_57), (q 12, aI G 2 sig)]) X dX11_crossSegments_221 0 rfl 17 rfl in_X11_crossSegments_X11 tyX11 tyX11_ok nmX11 (by decide) fl_X11_crossSegments_159 rfl rfl rfl rfl (Nat.le_of_ble_eq_true rfl) rfl ?_
          refine j_aload_n X dX11_crossSegments_224 rfl 4 rfl ?_
          refine j_lconst (v := 0) X dX11_crossSegments_225 rfl ?_
          refine j_put (ws' := [(q 0, .inr (10, mF t n q co cr 0 0 0)), (q 2, aJ G 200 f1), (q 3, aJ G 200 f2), (q 4, aJ G 200 f3), (q 5, aJ G 200 f4), (q 10, aI G 320 (rg [y_50, y_55, y_56, y_31, y_52, y_45, y_53, y7_sf_11, y8_sf_11, y9_sf_11, y10_sf_11, y11_sf_11, v_14, y_54, v_16, v_17])), (q 11, aZ G 16 sf_57), (q 12, aI G 2 sig)]) X dX11_crossSegments_226 0 rfl 18 rfl in_X11_crossSegments_X11 tyX11 tyX11_ok nmX11 (by decide) fl_X11_crossSegments_163 rfl rfl rfl rfl (Nat.le_of_ble_eq_true rfl) rfl ?_
          refine j_aload_n X dX11_crossSegments_229 rfl 4 rfl ?_
          refine j_iconst (v := 0) X dX11_crossSegments_230 rfl ?_
          refine j_callV X dX11_crossSegments_231 (c_X11_pointWith_0 l G q t n co cr 0 0 sig 0) gX11_crossSegments_X11_pointWith rfl hy_X11_pointWith_V ⟨Nat.le_of_ble_eq_true rfl, Nat.le_of_ble_eq_true rfl⟩ 0 rfl rfl [0, 7] rfl (by decide) rfl rfl (Nat.le_of_ble_eq_true rfl) ⟨Nat.le_of_ble_eq_true rfl, Nat.le_of_ble_eq_true rfl⟩ ?_
          rintro _ ⟨⟩ rfl
          change J p l e rm_X11_crossSegments s m args below meth c Q G A 11 0 0 234 [(9, .long x_4), (7, .long x_3), (5, .long x_2), (3, .long x_1), (0, .ref (q 0)), (1, .int (nI a)), (2, .int (nI b))] [] [(q 0, .inr (10, mF t n q co cr 1 0 0)), (q 2, aJ G 200 f1), (q 3, aJ G 200 f2), (q 4, aJ G 200 f3), (q 5, aJ G 200 f4), (q 10, aI G 320 (rg [y_50, y_55, y_56, y_31, y_52, y_45, y_53, y7_sf_11, y8_sf_11, y9_sf_11, y10_sf_11, y11_sf_11, v_14, y_54, v_16, v_17])), (q 11, aZ G 16 sf_57), (q 12, aI G 2 (upd sig 0 0))]
          refine j_iconst (v := 1) X dX11_crossSegments_234 rfl ?_
          have hU9 : y_50 = (f1 a).toInt * -ssL (f1 a).toInt (f2 a).toInt (f3 a).toInt (f4 a).toInt (f1 b).toInt (f2 b).toInt (f3 b).toInt (f4 b).toInt + ((f3 a).toInt - (f1 a).toInt) * -ssB (f1 a).toInt (f2 a).toInt (f1 b).toInt (f2 b).toInt (f3 b).toInt (f4 b).toInt := by rw [ey_50, ey_31, ey_45, hL, hB, tx_1]
          have hV9 : y_55 = (f2 a).toInt * -ssL (f1 a).toInt (f2 a).toInt (f3 a).toInt (f4 a).toInt (f1 b).toInt (f2 b).toInt (f3 b).toInt (f4 b).toInt + ((f4 a).toInt - (f2 a).toInt) * -ssB (f1 a).toInt (f2 a).toInt (f1 b).toInt (f2 b).toInt (f3 b).toInt (f4 b).toInt := by rw [ey_55, ey_31, ey_45, hL, hB, tx_2]
          have hL9 : y_31 = -ssL (f1 a).toInt (f2 a).toInt (f3 a).toInt (f4 a).toInt (f1 b).toInt (f2 b).toInt (f3 b).toInt (f4 b).toInt := by rw [ey_31, hL]
          exact E.2.1 235 _ 1 (1, upd sig 0 0, 0, 0, [y_50, y_55, y_56, y_31, y_52, y_45, y_53, y7_sf_11, y8_sf_11, y9_sf_11, y10_sf_11, y11_sf_11, v_14, y_54, v_16, v_17], sf_57) _ dX11_crossSegments_235 (⟨some ([0], (f1 a).toInt * -ssL (f1 a).toInt (f2 a).toInt (f3 a).toInt (f4 a).toInt (f1 b).toInt (f2 b).toInt (f3 b).toInt (f4 b).toInt + ((f3 a).toInt - (f1 a).toInt) * -ssB (f1 a).toInt (f2 a).toInt (f1 b).toInt (f2 b).toInt (f3 b).toInt (f4 b).toInt, (f2 a).toInt * -ssL (f1 a).toInt (f2 a).toInt (f3 a).toInt (f4 a).toInt (f1 b).toInt (f2 b).toInt (f3 b).toInt (f4 b).toInt + ((f4 a).toInt - (f2 a).toInt) * -ssB (f1 a).toInt (f2 a).toInt (f1 b).toInt (f2 b).toInt (f3 b).toInt (f4 b).toInt, 0, -ssL (f1 a).toInt (f2 a).toInt (f3 a).toInt (f4 a).toInt (f1 b).toInt (f2 b).toInt (f3 b).toInt (f4 b).toInt, 0, 0), by unfold xss; rw [if_neg hL0, if_neg (fun h => h c_111), if_pos (by rw [← hL]; omega)], Or.inr ⟨_, rfl, rfl, ⟨rfl, sgL_1 _ _, fun _ => ⟨⟨hU9, hV9, ey_56, hL9⟩, rfl, rfl⟩⟩, rfl, hS_sf_57⟩⟩) hr rfl
    · skip
      first | simp only [bI_0, Decidable.not_not, sg_mul, sg_e0, sg_l0, sg_g0, sg_le0, sg_ge0, cmp_eq, cmp_lt, cmp_ge, cmp_gt, cmp_le, lT0, lT1] at c_111 | simp only [Int32.le_iff_toInt_le, Int32.lt_iff_toInt_lt, ← Int32.toInt_inj, iT0, iT1, iT2, iT3, iT4, iT5, iT6, iT7, iT8, iT9, iT10, iT11, iT12, iT13, iT14, iT15, iT16, iT19, iT20, iT31, iT32, iT42, iT64, iT200, iT318, iT319, iT1000, iTm1, iTm2] at c_111 | skip
      refine j_iconst (v := 1) X dX11_crossSegments_114 rfl ?_
      exact E.2.1 115 _ 1 (0, sig, tx, ty, [z0, z1, z2, y_5, y4_sf_11, y5_sf_11, y6_sf_11, y7_sf_11, y8_sf_11, y9_sf_11, y10_sf_11, y11_sf_11, y12_sf_11, y13_sf_11, y14_sf_11, y15_sf_11], sf_11) _ dX11_crossSegments_115 (⟨some ([], 0, 0, 0, 0, 0, 0), by unfold xss; rw [if_neg hL0, if_pos c_111], Or.inr ⟨_, rfl, rfl, xG_0, rfl, hS_sf_11⟩⟩) hr rfl
  · skip
    first | simp only [bI_0, Decidable.not_not, sg_mul, sg_e0, sg_l0, sg_g0, sg_le0, sg_ge0, cmp_eq, cmp_lt, cmp_ge, cmp_gt, cmp_le, lT0, lT1] at c_77 | simp only [Int32.le_iff_toInt_le, Int32.lt_iff_toInt_lt, ← Int32.toInt_inj, iT0, iT1, iT2, iT3, iT4, iT5, iT6, iT7, iT8, iT9, iT10, iT11, iT12, iT13, iT14, iT15, iT16, iT19, iT20, iT31, iT32, iT42, iT64, iT200, iT318, iT319, iT1000, iTm1, iTm2] at c_77 | skip
    have hL : y_5 = ssL (f1 a).toInt (f2 a).toInt (f3 a).toInt (f4 a).toInt (f1 b).toInt (f2 b).toInt (f3 b).toInt (f4 b).toInt := by rw [ey_5, tx_1, tx_2, tx_3, tx_4]; rfl
    have hL0 :  ssL (f1 a).toInt (f2 a).toInt (f3 a).toInt (f4 a).toInt (f1 b).toInt (f2 b).toInt (f3 b).toInt (f4 b).toInt = 0 := by rw [← hL]; exact c_77
    refine j_aload_n X dX11_crossSegments_80 rfl 4 rfl ?_
    refine j_iload_n X dX11_crossSegments_81 rfl 5 rfl ?_
    refine j_iload_n X dX11_crossSegments_82 rfl 6 rfl ?_
    refine j_iconst (v := 0) X dX11_crossSegments_83 rfl ?_
    refine j_callV X dX11_crossSegments_84 (c_X11_endSide_0 l G q t n co cr 0 tx ty [z0, z1, z2, y_5, z4, z5, z6, z7, z8, z9, z10, z11, v_6, v_7, v_8, v_9] rfl sf_10 hS_sf_10 f1 f2 f3 f4 a b ba ga bb gb) gX11_crossSegments_X11_endSide rfl hy_X11_endSide_V ⟨Nat.le_of_ble_eq_true rfl, Nat.le_of_ble_eq_true rfl⟩ 0 rfl rfl [0, 1, 2, 3, 4, 5, 6] rfl (by decide) rfl rfl (Nat.le_of_ble_eq_true rfl) ⟨Nat.le_of_ble_eq_true rfl, Nat.le_of_ble_eq_true rfl⟩ ?_
    rintro _ ⟨zs_59, sf_58⟩ ⟨rfl, hk_sf_58, hS_sf_58⟩
    obtain ⟨y4_sf_58, y5_sf_58, y6_sf_58, y7_sf_58, y8_sf_58, y9_sf_58, y10_sf_58, y11_sf_58, y12_sf_58, y13_sf_58, y14_sf_58, y15_sf_58, rfl⟩ := kp_4 hk_sf_58
    change J p l e rm_X11_crossSegments s m args below meth c Q G A 11 0 0 87 [(9, .long x_4), (7, .long x_3), (5, .long x_2), (3, .long x_1), (0, .ref (q 0)), (1, .int (nI a)), (2, .int (nI b))] [.int (sg (tn (f1 a).toInt (f2 a).toInt (f3 a).toInt (f4 a).toInt (f1 b).toInt (f2 b).toInt))] [(q 0, .inr (10, mF t n q co cr 0 tx ty)), (q 2, aJ G 200 f1), (q 3, aJ G 200 f2), (q 4, aJ G 200 f3), (q 5, aJ G 200 f4), (q 10, aI G 320 (rg [z0, z1, z2, y_5, y4_sf_58, y5_sf_58, y6_sf_58, y7_sf_58, y8_sf_58, y9_sf_58, y10_sf_58, y11_sf_58, y12_sf_58, y13_sf_58, y14_sf_58, y15_sf_58])), (q 11, aZ G 16 sf_58), (q 12, aI G 2 sig)]
    refine j_if_ne (tgt := 99) X dX11_crossSegments_87 (by decide) (fun c_87 => ?_) (fun c_87 => ?_)
    · skip
      first | simp only [bI_0, Decidable.not_not, sg_mul, sg_e0, sg_l0, sg_g0, sg_le0, sg_ge0, cmp_eq, cmp_lt, cmp_ge, cmp_gt, cmp_le, lT0, lT1] at c_87 | simp only [Int32.le_iff_toInt_le, Int32.lt_iff_toInt_lt, ← Int32.toInt_inj, iT0, iT1, iT2, iT3, iT4, iT5, iT6, iT7, iT8, iT9, iT10, iT11, iT12, iT13, iT14, iT15, iT16, iT19, iT20, iT31, iT32, iT42, iT64, iT200, iT318, iT319, iT1000, iTm1, iTm2] at c_87 | skip
      refine j_iconst (v := 1) X dX11_crossSegments_99 rfl ?_
      refine j_goto (tgt := 104) X dX11_crossSegments_100 (by decide) ?_
      exact E.2.1 104 _ 1 (0, sig, tx, ty, [z0, z1, z2, y_5, y4_sf_58, y5_sf_58, y6_sf_58, y7_sf_58, y8_sf_58, y9_sf_58, y10_sf_58, y11_sf_58, y12_sf_58, y13_sf_58, y14_sf_58, y15_sf_58], sf_58) _ dX11_crossSegments_104 (⟨some ([], 0, 0, 0, 0, 0, 0), by unfold xss; rw [if_pos hL0, if_pos c_87], Or.inr ⟨_, rfl, rfl, xG_0, rfl, hS_sf_58⟩⟩) hr rfl
    · skip
      first | simp only [bI_0, Decidable.not_not, sg_mul, sg_e0, sg_l0, sg_g0, sg_le0, sg_ge0, cmp_eq, cmp_lt, cmp_ge, cmp_gt, cmp_le, lT0, lT1] at c_87 | simp only [Int32.le_iff_toInt_le, Int32.lt_iff_toInt_lt, ← Int32.toInt_inj, iT0, iT1, iT2, iT3, iT4, iT5, iT6, iT7, iT8, iT9, iT10, iT11, iT12, iT13, iT14, iT15, iT16, iT19, iT20, iT31, iT32, iT42, iT64, iT200, iT318, iT319, iT1000, iTm1, iTm2] at c_87 | skip
      refine j_aload_n X dX11_crossSegments_90 rfl 4 rfl ?_
      refine j_iload_n X dX11_crossSegments_91 rfl 5 rfl ?_
      refine j_iload_n X dX11_crossSegments_92 rfl 6 rfl ?_
      refine j_callV X dX11_crossSegments_93 (c_X11_crossAlong l G q t n co cr tx ty [z0, z1, z2, y_5, y4_sf_58, y5_sf_58, y6_sf_58, y7_sf_58, y8_sf_58, y9_sf_58, y10_sf_58, y11_sf_58, y12_sf_58, y13_sf_58, y14_sf_58, y15_sf_58] rfl sf_58 hS_sf_58 sig f1 f2 f3 f4 a b ba ga bb gb) gX11_crossSegments_X11_crossAlong rfl hy_X11_crossAlong_V ⟨Nat.le_of_ble_eq_true rfl, Nat.le_of_ble_eq_true rfl⟩ 0 rfl rfl [0, 1, 2, 3, 4, 5, 6, 7] rfl (by decide) rfl rfl (Nat.le_of_ble_eq_true rfl) ⟨Nat.le_of_ble_eq_true rfl, Nat.le_of_ble_eq_true rfl⟩ ?_
      rintro rv9 ⟨po_60, sg_61, tz_62, tw_63, zs_64, sf_65⟩ ⟨o9, hxo, hal⟩
      rcases hal with ⟨ho, rfl, hpo, hl9, hS9⟩ | ⟨v9, ho, rfl, hx9, hl9, hS9⟩
      · skip
        change J p l e rm_X11_crossSegments s m args below meth c Q G A 11 0 0 96 [(9, .long x_4), (7, .long x_3), (5, .long x_2), (3, .long x_1), (0, .ref (q 0)), (1, .int (nI a)), (2, .int (nI b))] [.int 0] [(q 0, .inr (10, mF t n q co cr po_60 tz_62 tw_63)), (q 2, aJ G 200 f1), (q 3, aJ G 200 f2), (q 4, aJ G 200 f3), (q 5, aJ G 200 f4), (q 10, aI G 320 (rg zs_64)), (q 11, aZ G 16 sf_65), (q 12, aI G 2 sg_61)]
        refine j_if_eq (tgt := 103) X dX11_crossSegments_96 (by decide) (fun _ => ?_) (fun c9 => absurd c9 (by decide))
        refine j_iconst (v := 0) X dX11_crossSegments_103 rfl ?_
        exact E.2.1 104 _ 0 (po_60, sg_61, tz_62, tw_63, zs_64, sf_65) _ dX11_crossSegments_104 (⟨o9, by unfold xss; rw [if_pos hL0, if_neg (fun h => h c_87)]; exact hxo, Or.inl ⟨ho, rfl, hpo, hl9, hS9⟩⟩) hr rfl
      · skip
        change J p l e rm_X11_crossSegments s m args below meth c Q G A 11 0 0 96 [(9, .long x_4), (7, .long x_3), (5, .long x_2), (3, .long x_1), (0, .ref (q 0)), (1, .int (nI a)), (2, .int (nI b))] [.int 1] [(q 0, .inr (10, mF t n q co cr po_60 tz_62 tw_63)), (q 2, aJ G 200 f1), (q 3, aJ G 200 f2), (q 4, aJ G 200 f3), (q 5, aJ G 200 f4), (q 10, aI G 320 (rg zs_64)), (q 11, aZ G 16 sf_65), (q 12, aI G 2 sg_61)]
        refine j_if_eq (tgt := 103) X dX11_crossSegments_96 (by decide) (fun c9 => absurd c9 (by decide)) (fun _ => ?_)
        refine j_iconst (v := 1) X dX11_crossSegments_99 rfl ?_
        refine j_goto (tgt := 104) X dX11_crossSegments_100 (by decide) ?_
        exact E.2.1 104 _ 1 (po_60, sg_61, tz_62, tw_63, zs_64, sf_65) _ dX11_crossSegments_104 (⟨o9, by unfold xss; rw [if_pos hL0, if_neg (fun h => h c_87)]; exact hxo, Or.inr ⟨v9, ho, rfl, hx9, hl9, hS9⟩⟩) hr rfl

theorem hy_X11_crossSegments_V : yX11_crossSegments.cls = RX11 ∧ yX11_crossSegments.cls ≠ "java/lang/invoke/MethodHandle" ∧ yX11_crossSegments.cls ≠ "java/lang/invoke/VarHandle" ∧ (parseMethodDescriptor yX11_crossSegments.desc).map (fun d => d.parameters.length) = some 2 := by decide +kernel
