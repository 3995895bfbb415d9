abbrev rm_X11_crossArc : Room := { frames := 3, cells := 0, slots := 0, locals := 86 }
theorem in_X11_crossArc_X11 : ∀ w ∈ u_ws RX11 TX11 19, w ∈ wsX11_crossArc := by decide +kernel
theorem fl_X11_crossArc_20 : Cond.fieldLink RX11 20 (TX11 5).1 (TX11 5).2.1 (TX11 5).2.2.1 ∈ wsX11_crossArc := by decide +kernel
theorem fl_X11_crossArc_13 : Cond.fieldLink RX11 13 (TX11 3).1 (TX11 3).2.1 (TX11 3).2.2.1 ∈ wsX11_crossArc := by decide +kernel
theorem fl_X11_crossArc_23 : Cond.fieldLink RX11 23 (TX11 6).1 (TX11 6).2.1 (TX11 6).2.2.1 ∈ wsX11_crossArc := by decide +kernel
theorem fl_X11_crossArc_17 : Cond.fieldLink RX11 17 (TX11 4).1 (TX11 4).2.1 (TX11 4).2.2.1 ∈ wsX11_crossArc := by decide +kernel
theorem fl_X11_crossArc_42 : Cond.fieldLink RX11 42 (TX11 13).1 (TX11 13).2.1 (TX11 13).2.2.1 ∈ wsX11_crossArc := by decide +kernel
theorem fl_X11_crossArc_159 : Cond.fieldLink RX11 159 (TX11 17).1 (TX11 17).2.1 (TX11 17).2.2.1 ∈ wsX11_crossArc := by decide +kernel
theorem fl_X11_crossArc_163 : Cond.fieldLink RX11 163 (TX11 18).1 (TX11 18).2.1 (TX11 18).2.2.1 ∈ wsX11_crossArc := by decide +kernel
set_option maxHeartbeats 4000000 in
set_option maxRecDepth 100000 in
theorem c_X11_crossArc (l : Launch) (G : jG) (q : Nat → Nat) (t n co cr : Int32) (tx ty : Int64) (zs : List Int) (hl : zs.length = 16) (sf : Nat → Int32) (hS : okS zs sf) (sig : Nat → Int32) (f1 f2 f3 f4 : Nat → Int64) (fr to1 : Nat → Int32) (a b : Nat) (ba : (inC (f1 a).toInt ∧ inC (f2 a).toInt) ∧ inC (f3 a).toInt ∧ inC (f4 a).toInt) (ga : a < 200) (bcb : inC (f1 b).toInt ∧ inC (f2 b).toInt) (hfb : 0 ≤ (fr b).toInt ∧ (fr b).toInt < 8) (htb : 0 ≤ (to1 b).toInt ∧ (to1 b).toInt < 8) (gb : b < 200) (brb : 1 ≤ (f3 b).toInt ∧ (f3 b).toInt ≤ 4611686018427387904) : Ct l yX11_crossArc wsX11_crossArc rm_X11_crossArc G [.ref (q 0), .int (nI a), .int (nI b)] [(q 0, .inr (10, mF t n q co cr 0 tx ty)), (q 2, aJ G 200 f1), (q 3, aJ G 200 f2), (q 4, aJ G 200 f3), (q 5, aJ G 200 f4), (q 6, aI G 200 fr), (q 7, aI G 200 to1), (q 10, aI G 320 (rg zs)), (q 11, aZ G 16 sf), (q 12, aI G 2 sig)] (S := Int32 × (Nat → Int32) × Int64 × Int64 × List Int × (Nat → Int32)) (fun r u => r = none ∧ xG (xsa (f1 a).toInt (f2 a).toInt (f3 a).toInt (f4 a).toInt (f1 b).toInt (f2 b).toInt (f3 b).toInt (fr b).toInt (to1 b).toInt) u.1 u.2.1 u.2.2.1 u.2.2.2.1 u.2.2.2.2.1 ∧ u.2.2.2.2.1.length = 16 ∧ okS u.2.2.2.2.1 u.2.2.2.2.2) (fun u => [(q 0, .inr (10, mF t n q co cr u.1 u.2.2.1 u.2.2.2.1)), (q 2, aJ G 200 f1), (q 3, aJ G 200 f2), (q 4, aJ G 200 f3), (q 5, aJ G 200 f4), (q 6, aI G 200 fr), (q 7, aI G 200 to1), (q 10, aI G 320 (rg u.2.2.2.2.1)), (q 11, aZ G 16 u.2.2.2.2.2), (q 12, aI G 2 u.2.1)]) (fun _ => []) := by
  refine c_intro (cc := cX11_crossArc) (maxL := 13) (ret := none) (by decide) rfl (Nat.le_of_ble_eq_true rfl) (fun _ => by simp only [List.map_cons, List.map_nil]) ?_
  intro p e s m args below meth c Q A X hr hin E
  change J p l e rm_X11_crossArc s m args below meth c Q G A 13 0 0 0 [(0, .ref (q 0)), (1, .int (nI a)), (2, .int (nI b))] [] [(q 0, .inr (10, mF t n q co cr 0 tx ty)), (q 2, aJ G 200 f1), (q 3, aJ G 200 f2), (q 4, aJ G 200 f3), (q 5, aJ G 200 f4), (q 6, aI G 200 fr), (q 7, aI G 200 to1), (q 10, aI G 320 (rg zs)), (q 11, aZ G 16 sf), (q 12, aI G 2 sig)]
  obtain ⟨z0, z1, z2, z3, z4, z5, z6, z7, z8, z9, z10, z11, z12, z13, z14, z15, rfl⟩ := l16 hl
  refine j_aload_n X dX11_crossArc_0 rfl 0 rfl ?_
  refine j_get (v := .ref (q 4)) X dX11_crossArc_1 0 rfl 5 rfl in_X11_crossArc_X11 (by decide) fl_X11_crossArc_20 rfl ?_
  refine j_iload_n X dX11_crossArc_4 rfl 1 rfl ?_
  refine j_lald X dX11_crossArc_5 3 rfl a rfl ga (by decide) ?_
  refine j_aload_n X dX11_crossArc_6 rfl 0 rfl ?_
  refine j_get (v := .ref (q 2)) X dX11_crossArc_7 0 rfl 3 rfl in_X11_crossArc_X11 (by decide) fl_X11_crossArc_13 rfl ?_
  refine j_iload_n X dX11_crossArc_10 rfl 1 rfl ?_
  refine j_lald X dX11_crossArc_11 1 rfl a rfl ga (by decide) ?_
  refine j_lsub X dX11_crossArc_12 ?_
  refine j_topl (fun x_1 ex_1 => ?_)
  have tx_1 : x_1.toInt = (f3 a).toInt - (f1 a).toInt := by rw [ex_1]; exact bl_sub (bd_C ba.2.1) (bd_C ba.1.1) (by decide) (by decide)
  have bx_1 : bd 41 x_1.toInt := by rw [tx_1]; exact bd_sub (bd_mono (bd_C ba.2.1) (by decide)) (bd_mono (bd_C ba.1.1) (by decide))
  refine j_lstore_n (L' := [(3, .long x_1), (0, .ref (q 0)), (1, .int (nI a)), (2, .int (nI b))]) X dX11_crossArc_13 rfl (by decide) rfl ?_
  refine j_aload_n X dX11_crossArc_14 rfl 1 rfl ?_
  refine j_get (v := .ref (q 5)) X dX11_crossArc_15 0 rfl 6 rfl in_X11_crossArc_X11 (by decide) fl_X11_crossArc_23 rfl ?_
  refine j_iload_n X dX11_crossArc_18 rfl 2 rfl ?_
  refine j_lald X dX11_crossArc_19 4 rfl a rfl ga (by decide) ?_
  refine j_aload_n X dX11_crossArc_20 rfl 1 rfl ?_
  refine j_get (v := .ref (q 3)) X dX11_crossArc_21 0 rfl 4 rfl in_X11_crossArc_X11 (by decide) fl_X11_crossArc_17 rfl ?_
  refine j_iload_n X dX11_crossArc_24 rfl 2 rfl ?_
  refine j_lald X dX11_crossArc_25 2 rfl a rfl ga (by decide) ?_
  refine j_lsub X dX11_crossArc_26 ?_
  refine j_topl (fun x_2 ex_2 => ?_)
  have tx_2 : x_2.toInt = (f4 a).toInt - (f2 a).toInt := by rw [ex_2]; exact bl_sub (bd_C ba.2.2) (bd_C ba.1.2) (by decide) (by decide)
  have bx_2 : bd 41 x_2.toInt := by rw [tx_2]; exact bd_sub (bd_mono (bd_C ba.2.2) (by decide)) (bd_mono (bd_C ba.1.2) (by decide))
  refine j_lstore (L' := [(5, .long x_2), (3, .long x_1), (0, .ref (q 0)), (1, .int (nI a)), (2, .int (nI b))]) X dX11_crossArc_27 (by decide) rfl ?_
  refine j_aload_n X dX11_crossArc_29 rfl 2 rfl ?_
  refine j_get (v := .ref (q 2)) X dX11_crossArc_30 0 rfl 3 rfl in_X11_crossArc_X11 (by decide) fl_X11_crossArc_13 rfl ?_
  refine j_iload_n X dX11_crossArc_33 rfl 3 rfl ?_
  refine j_lald X dX11_crossArc_34 1 rfl a rfl ga (by decide) ?_
  refine j_aload_n X dX11_crossArc_35 rfl 2 rfl ?_
  refine j_get (v := .ref (q 2)) X dX11_crossArc_36 0 rfl 3 rfl in_X11_crossArc_X11 (by decide) fl_X11_crossArc_13 rfl ?_
  refine j_iload_n X dX11_crossArc_39 rfl 4 rfl ?_
  refine j_lald X dX11_crossArc_40 1 rfl b rfl gb (by decide) ?_
  refine j_lsub X dX11_crossArc_41 ?_
  refine j_topl (fun x_3 ex_3 => ?_)
  have tx_3 : x_3.toInt = (f1 a).toInt - (f1 b).toInt := by rw [ex_3]; exact bl_sub (bd_C ba.1.1) (bd_C bcb.1) (by decide) (by decide)
  have bx_3 : bd 41 x_3.toInt := by rw [tx_3]; exact bd_sub (bd_mono (bd_C ba.1.1) (by decide)) (bd_mono (bd_C bcb.1) (by decide))
  refine j_lstore (L' := [(7, .long x_3), (5, .long x_2), (3, .long x_1), (0, .ref (q 0)), (1, .int (nI a)), (2, .int (nI b))]) X dX11_crossArc_42 (by decide) rfl ?_
  refine j_aload_n X dX11_crossArc_44 rfl 3 rfl ?_
  refine j_get (v := .ref (q 3)) X dX11_crossArc_45 0 rfl 4 rfl in_X11_crossArc_X11 (by decide) fl_X11_crossArc_17 rfl ?_
  refine j_iload_n X dX11_crossArc_48 rfl 4 rfl ?_
  refine j_lald X dX11_crossArc_49 2 rfl a rfl ga (by decide) ?_
  refine j_aload_n X dX11_crossArc_50 rfl 3 rfl ?_
  refine j_get (v := .ref (q 3)) X dX11_crossArc_51 0 rfl 4 rfl in_X11_crossArc_X11 (by decide) fl_X11_crossArc_17 rfl ?_
  refine j_iload_n X dX11_crossArc_54 rfl 5 rfl ?_
  refine j_lald X dX11_crossArc_55 2 rfl b rfl gb (by decide) ?_
  refine j_lsub X dX11_crossArc_56 ?_
  refine j_topl (fun x_4 ex_4 => ?_)
  have tx_4 : x_4.toInt = (f2 a).toInt - (f2 b).toInt := by rw [ex_4]; exact bl_sub (bd_C ba.1.2) (bd_C bcb.2) (by decide) (by decide)
  have bx_4 : bd 41 x_4.toInt := by rw [tx_4]; exact bd_sub (bd_mono (bd_C ba.1.2) (by decide)) (bd_mono (bd_C bcb.2) (by decide))
  refine j_lstore (L' := [(9, .long x_4), (7, .long x_3), (5, .long x_2), (3, .long x_1), (0, .ref (q 0)), (1, .int (nI a)), (2, .int (nI b))]) X dX11_crossArc_57 (by decide) rfl ?_
  refine j_aload_n X dX11_crossArc_59 rfl 4 rfl ?_
  refine j_iconst (v := 3) X dX11_crossArc_60 rfl ?_
  refine j_lload_n X dX11_crossArc_61 rfl 3 rfl ?_
  refine j_lload_n X dX11_crossArc_62 rfl 3 rfl ?_
  refine j_lload X dX11_crossArc_63 2 rfl ?_
  refine j_lload X dX11_crossArc_65 2 rfl ?_
  refine j_iconst (v := 0) X dX11_crossArc_67 rfl ?_
  obtain ⟨y_5, ey_5⟩ : ∃ zz9 : Int, zz9 = x_1.toInt * x_1.toInt + x_2.toInt * x_2.toInt := ⟨_, rfl⟩
  have by_5 : bd 83 y_5 := by rw [ey_5]; exact bd_add (bd_mono (bd_mul bx_1 bx_1) (by decide)) (bd_mono (bd_mul bx_2 bx_2) (by decide))
  refine j_callV X dX11_crossArc_68 (n_products l G q t n co cr 0 tx ty [z0, z1, z2, z3, z4, z5, z6, z7, z8, z9, z10, z11, z12, z13, z14, z15] sf rfl hS 3 3 rfl (by decide) x_1 x_1 x_2 x_2 0 (Or.inl rfl) y_5 ey_5) gX11_crossArc_X11_products rfl hy_X11_products_V ⟨Nat.le_of_ble_eq_true rfl, Nat.le_of_ble_eq_true rfl⟩ 0 rfl rfl [0, 7, 8] rfl (by decide) rfl rfl (Nat.le_of_ble_eq_true rfl) ⟨Nat.le_of_ble_eq_true rfl, Nat.le_of_ble_eq_true rfl⟩ ?_
  rintro _ ⟨v_6, v_7, v_8, v_9, sf_10⟩ ⟨rfl, hS_sf_10⟩
  change J p l e rm_X11_crossArc s m args below meth c Q G A 13 0 0 71 [(9, .long x_4), (7, .long x_3), (5, .long x_2), (3, .long x_1), (0, .ref (q 0)), (1, .int (nI a)), (2, .int (nI b))] [] [(q 0, .inr (10, mF t n q co cr 0 tx ty)), (q 2, aJ G 200 f1), (q 3, aJ G 200 f2), (q 4, aJ G 200 f3), (q 5, aJ G 200 f4), (q 6, aI G 200 fr), (q 7, aI G 200 to1), (q 10, aI G 320 (rg [z0, z1, z2, y_5, z4, z5, z6, z7, z8, z9, z10, z11, v_6, v_7, v_8, v_9])), (q 11, aZ G 16 sf_10), (q 12, aI G 2 sig)]
  refine j_aload_n X dX11_crossArc_71 rfl 4 rfl ?_
  refine j_bipush (v := 7) X dX11_crossArc_72 (by decide) ?_
  refine j_lload_n X dX11_crossArc_74 rfl 3 rfl ?_
  refine j_lload X dX11_crossArc_75 1 rfl ?_
  refine j_lload X dX11_crossArc_77 2 rfl ?_
  refine j_lload X dX11_crossArc_79 0 rfl ?_
  refine j_iconst (v := 0) X dX11_crossArc_81 rfl ?_
  obtain ⟨y_11, ey_11⟩ : ∃ zz9 : Int, zz9 = x_1.toInt * x_3.toInt + x_4.toInt * x_2.toInt := ⟨_, rfl⟩
  have by_11 : bd 83 y_11 := by rw [ey_11]; exact bd_add (bd_mono (bd_mul bx_1 bx_3) (by decide)) (bd_mono (bd_mul bx_4 bx_2) (by decide))
  refine j_callV X dX11_crossArc_82 (n_products l G q t n co cr 0 tx ty [z0, z1, z2, y_5, z4, z5, z6, z7, z8, z9, z10, z11, v_6, v_7, v_8, v_9] sf_10 rfl hS_sf_10 7 7 rfl (by decide) x_1 x_3 x_2 x_4 0 (Or.inl rfl) y_11 ey_11) gX11_crossArc_X11_products rfl hy_X11_products_V ⟨Nat.le_of_ble_eq_true rfl, Nat.le_of_ble_eq_true rfl⟩ 0 rfl rfl [0, 7, 8] rfl (by decide) rfl rfl (Nat.le_of_ble_eq_true rfl) ⟨Nat.le_of_ble_eq_true rfl, Nat.le_of_ble_eq_true rfl⟩ ?_
  rintro _ ⟨v_12, v_13, v_14, v_15, sf_16⟩ ⟨rfl, hS_sf_16⟩
  change J p l e rm_X11_crossArc s m args below meth c Q G A 13 0 0 85 [(9, .long x_4), (7, .long x_3), (5, .long x_2), (3, .long x_1), (0, .ref (q 0)), (1, .int (nI a)), (2, .int (nI b))] [] [(q 0, .inr (10, mF t n q co cr 0 tx ty)), (q 2, aJ G 200 f1), (q 3, aJ G 200 f2), (q 4, aJ G 200 f3), (q 5, aJ G 200 f4), (q 6, aI G 200 fr), (q 7, aI G 200 to1), (q 10, aI G 320 (rg [z0, z1, z2, y_5, z4, z5, z6, y_11, z8, z9, z10, z11, v_12, v_13, v_14, v_15])), (q 11, aZ G 16 sf_16), (q 12, aI G 2 sig)]
  refine j_aload_n X dX11_crossArc_85 rfl 4 rfl ?_
  refine j_get (v := .ref (q 11)) X dX11_crossArc_86 0 rfl 13 rfl in_X11_crossArc_X11 (by decide) fl_X11_crossArc_42 rfl ?_
  refine j_bipush (v := 7) X dX11_crossArc_89 (by decide) ?_
  refine j_aload_n X dX11_crossArc_91 rfl 4 rfl ?_
  refine j_get (v := .ref (q 11)) X dX11_crossArc_92 0 rfl 13 rfl in_X11_crossArc_X11 (by decide) fl_X11_crossArc_42 rfl ?_
  refine j_bipush (v := 7) X dX11_crossArc_95 (by decide) ?_
  refine j_zald X dX11_crossArc_97 8 rfl 7 rfl (by decide) (by decide) ?_
  refine j_if_ne (tgt := 105) X dX11_crossArc_98 (by decide) (fun c_98 => ?_) (fun c_98 => ?_)
  · skip
    refine j_iconst (v := 0) X dX11_crossArc_105 rfl ?_
    refine j_zast (ws' := [(q 0, .inr (10, mF t n q co cr 0 tx ty)), (q 2, aJ G 200 f1), (q 3, aJ G 200 f2), (q 4, aJ G 200 f3), (q 5, aJ G 200 f4), (q 6, aI G 200 fr), (q 7, aI G 200 to1), (q 10, aI G 320 (rg [z0, z1, z2, y_5, z4, z5, z6, y_11, z8, z9, z10, z11, v_12, v_13, v_14, v_15])), (q 11, aZ G 16 (upd sf_16 7 0)), (q 12, aI G 2 sig)]) X dX11_crossArc_106 8 rfl 7 rfl (by decide) (by decide) (Or.inl rfl) rfl ?_
    obtain ⟨y_17, ey_17⟩ : ∃ zz9 : Int, zz9 = -y_11 := ⟨_, rfl⟩
    have by_17 : bd 83 y_17 := by rw [ey_17]; exact bd_neg by_11
    have hS_y_17 : okS [z0, z1, z2, y_5, z4, z5, z6, y_17, z8, z9, z10, z11, v_12, v_13, v_14, v_15] (upd sf_16 7 0) := by rw [ey_17]; exact okS_set (d := 7) rfl (by decide) hS_sf_16 (ok_flip1 (hS_sf_16 7 (by decide)) c_98)
    refine j_setI (ws' := [(q 0, .inr (10, mF t n q co cr 0 tx ty)), (q 2, aJ G 200 f1), (q 3, aJ G 200 f2), (q 4, aJ G 200 f3), (q 5, aJ G 200 f4), (q 6, aI G 200 fr), (q 7, aI G 200 to1), (q 10, aI G 320 (rg [z0, z1, z2, y_5, z4, z5, z6, y_17, z8, z9, z10, z11, v_12, v_13, v_14, v_15])), (q 11, aZ G 16 (upd sf_16 7 0)), (q 12, aI G 2 sig)]) (g := rg [z0, z1, z2, y_5, z4, z5, z6, y_17, z8, z9, z10, z11, v_12, v_13, v_14, v_15]) 7 rfl (rg_abs (fun r => by rw [ey_17]; exact rg_flip (zs := [z0, z1, z2, y_5, z4, z5, z6, y_11, z8, z9, z10, z11, v_12, v_13, v_14, v_15]) (d := 7) (Nat.le_of_ble_eq_true rfl) r)) rfl ?_
    refine j_aload_n X dX11_crossArc_107 rfl 4 rfl ?_
    refine j_iconst (v := 4) X dX11_crossArc_108 rfl ?_
    refine j_lload X dX11_crossArc_109 1 rfl ?_
    refine j_lload X dX11_crossArc_111 1 rfl ?_
    refine j_lload X dX11_crossArc_113 0 rfl ?_
    refine j_lload X dX11_crossArc_115 0 rfl ?_
    refine j_iconst (v := 0) X dX11_crossArc_117 rfl ?_
    obtain ⟨y_18, ey_18⟩ : ∃ zz9 : Int, zz9 = x_3.toInt * x_3.toInt + x_4.toInt * x_4.toInt := ⟨_, rfl⟩
    have by_18 : bd 83 y_18 := by rw [ey_18]; exact bd_add (bd_mono (bd_mul bx_3 bx_3) (by decide)) (bd_mono (bd_mul bx_4 bx_4) (by decide))
    refine j_callV X dX11_crossArc_118 (n_products l G q t n co cr 0 tx ty [z0, z1, z2, y_5, z4, z5, z6, y_17, z8, z9, z10, z11, v_12, v_13, v_14, v_15] (upd sf_16 7 0) rfl hS_y_17 4 4 rfl (by decide) x_3 x_3 x_4 x_4 0 (Or.inl rfl) y_18 ey_18) gX11_crossArc_X11_products rfl hy_X11_products_V ⟨Nat.le_of_ble_eq_true rfl, Nat.le_of_ble_eq_true rfl⟩ 0 rfl rfl [0, 7, 8] rfl (by decide) rfl rfl (Nat.le_of_ble_eq_true rfl) ⟨Nat.le_of_ble_eq_true rfl, Nat.le_of_ble_eq_true rfl⟩ ?_
    rintro _ ⟨v_19, v_20, v_21, v_22, sf_23⟩ ⟨rfl, hS_sf_23⟩
    change J p l e rm_X11_crossArc s m args below meth c Q G A 13 0 0 121 [(9, .long x_4), (7, .long x_3), (5, .long x_2), (3, .long x_1), (0, .ref (q 0)), (1, .int (nI a)), (2, .int (nI b))] [] [(q 0, .inr (10, mF t n q co cr 0 tx ty)), (q 2, aJ G 200 f1), (q 3, aJ G 200 f2), (q 4, aJ G 200 f3), (q 5, aJ G 200 f4), (q 6, aI G 200 fr), (q 7, aI G 200 to1), (q 10, aI G 320 (rg [z0, z1, z2, y_5, y_18, z5, z6, y_17, z8, z9, z10, z11, v_19, v_20, v_21, v_22])), (q 11, aZ G 16 sf_23), (q 12, aI G 2 sig)]
    refine j_aload_n X dX11_crossArc_121 rfl 4 rfl ?_
    refine j_bipush (v := 13) X dX11_crossArc_122 (by decide) ?_
    refine j_aload_n X dX11_crossArc_124 rfl 4 rfl ?_
    refine j_get (v := .ref (q 4)) X dX11_crossArc_125 0 rfl 5 rfl in_X11_crossArc_X11 (by decide) fl_X11_crossArc_20 rfl ?_
    refine j_iload_n X dX11_crossArc_128 rfl 6 rfl ?_
    refine j_lald X dX11_crossArc_129 3 rfl b rfl gb (by decide) ?_
    obtain ⟨y_24, ey_24⟩ : ∃ zz9 : Int, zz9 = (f3 b).toInt := ⟨_, rfl⟩
    have by_24 : bd 62 y_24 := by rw [ey_24]; exact (bd_of 62 (B := 4611686018427387904) (by decide) (by omega) brb.2)
    refine j_callV X dX11_crossArc_130 (n_load l G q t n co cr 0 tx ty [z0, z1, z2, y_5, y_18, z5, z6, y_17, z8, z9, z10, z11, v_19, v_20, v_21, v_22] sf_23 rfl hS_sf_23 13 13 rfl (by decide) (f3 b) y_24 ey_24) gX11_crossArc_X11_load rfl hy_X11_load_V ⟨Nat.le_of_ble_eq_true rfl, Nat.le_of_ble_eq_true rfl⟩ 0 rfl rfl [0, 7, 8] rfl (by decide) rfl rfl (Nat.le_of_ble_eq_true rfl) ⟨Nat.le_of_ble_eq_true rfl, Nat.le_of_ble_eq_true rfl⟩ ?_
    rintro _ sf_25 ⟨rfl, hS_sf_25⟩
    change J p l e rm_X11_crossArc s m args below meth c Q G A 13 0 0 133 [(9, .long x_4), (7, .long x_3), (5, .long x_2), (3, .long x_1), (0, .ref (q 0)), (1, .int (nI a)), (2, .int (nI b))] [] [(q 0, .inr (10, mF t n q co cr 0 tx ty)), (q 2, aJ G 200 f1), (q 3, aJ G 200 f2), (q 4, aJ G 200 f3), (q 5, aJ G 200 f4), (q 6, aI G 200 fr), (q 7, aI G 200 to1), (q 10, aI G 320 (rg [z0, z1, z2, y_5, y_18, z5, z6, y_17, z8, z9, z10, z11, v_19, y_24, v_21, v_22])), (q 11, aZ G 16 sf_25), (q 12, aI G 2 sig)]
    refine j_aload_n X dX11_crossArc_133 rfl 4 rfl ?_
    refine j_iconst (v := 5) X dX11_crossArc_134 rfl ?_
    refine j_iconst (v := 4) X dX11_crossArc_135 rfl ?_
    refine j_bipush (v := 13) X dX11_crossArc_136 (by decide) ?_
    refine j_iconst (v := 1) X dX11_crossArc_138 rfl ?_
    obtain ⟨y_26, ey_26⟩ : ∃ zz9 : Int, zz9 = y_18 - y_24 := ⟨_, rfl⟩
    have by_26 : bd 84 y_26 := by rw [ey_26]; exact bd_sub (bd_mono by_18 (by decide)) (bd_mono by_24 (by decide))
    refine j_callV X dX11_crossArc_139 (n_join l G q t n co cr 0 tx ty [z0, z1, z2, y_5, y_18, z5, z6, y_17, z8, z9, z10, z11, v_19, y_24, v_21, v_22] sf_25 rfl hS_sf_25 5 5 rfl (by decide) 4 4 rfl (by decide) 13 13 rfl (by decide) 1 (Or.inr rfl) (by decide) (by decide) y_26 ey_26 by_18 by_24 (by decide) (by decide)) gX11_crossArc_X11_join rfl hy_X11_join_V ⟨Nat.le_of_ble_eq_true rfl, Nat.le_of_ble_eq_true rfl⟩ 0 rfl rfl [0, 7, 8] rfl (by decide) rfl rfl (Nat.le_of_ble_eq_true rfl) ⟨Nat.le_of_ble_eq_true rfl, Nat.le_of_ble_eq_true rfl⟩ ?_
    rintro _ sf_27 ⟨rfl, hS_sf_27⟩
    change J p l e rm_X11_crossArc s m args below meth c Q G A 13 0 0 142 [(9, .long x_4), (7, .long x_3), (5, .long x_2), (3, .long x_1), (0, .ref (q 0)), (1, .int (nI a)), (2, .int (nI b))] [] [(q 0, .inr (10, mF t n q co cr 0 tx ty)), (q 2, aJ G 200 f1), (q 3, aJ G 200 f2), (q 4, aJ G 200 f3), (q 5, aJ G 200 f4), (q 6, aI G 200 fr), (q 7, aI G 200 to1), (q 10, aI G 320 (rg [z0, z1, z2, y_5, y_18, y_26, z6, y_17, z8, z9, z10, z11, v_19, y_24, v_21, v_22])), (q 11, aZ G 16 sf_27), (q 12, aI G 2 sig)]
    refine j_aload_n X dX11_crossArc_142 rfl 4 rfl ?_
    refine j_bipush (v := 6) X dX11_crossArc_143 (by decide) ?_
    refine j_iconst (v := 3) X dX11_crossArc_145 rfl ?_
    refine j_iconst (v := 5) X dX11_crossArc_146 rfl ?_
    obtain ⟨y_28, ey_28⟩ : ∃ zz9 : Int, zz9 = y_5 * y_26 := ⟨_, rfl⟩
    have by_28 : bd 167 y_28 := by rw [ey_28]; exact bd_mul by_5 by_26
    refine j_callV X dX11_crossArc_147 (n_mul l G q t n co cr 0 tx ty [z0, z1, z2, y_5, y_18, y_26, z6, y_17, z8, z9, z10, z11, v_19, y_24, v_21, v_22] sf_27 rfl hS_sf_27 6 6 rfl (by decide) 3 3 rfl (by decide) 5 5 rfl (by decide) (by decide) (by decide) y_28 ey_28) gX11_crossArc_X11_multiply rfl hy_X11_multiply_V ⟨Nat.le_of_ble_eq_true rfl, Nat.le_of_ble_eq_true rfl⟩ 0 rfl rfl [0, 7, 8] rfl (by decide) rfl rfl (Nat.le_of_ble_eq_true rfl) ⟨Nat.le_of_ble_eq_true rfl, Nat.le_of_ble_eq_true rfl⟩ ?_
    rintro _ sf_29 ⟨rfl, hS_sf_29⟩
    change J p l e rm_X11_crossArc s m args below meth c Q G A 13 0 0 150 [(9, .long x_4), (7, .long x_3), (5, .long x_2), (3, .long x_1), (0, .ref (q 0)), (1, .int (nI a)), (2, .int (nI b))] [] [(q 0, .inr (10, mF t n q co cr 0 tx ty)), (q 2, aJ G 200 f1), (q 3, aJ G 200 f2), (q 4, aJ G 200 f3), (q 5, aJ G 200 f4), (q 6, aI G 200 fr), (q 7, aI G 200 to1), (q 10, aI G 320 (rg [z0, z1, z2, y_5, y_18, y_26, y_28, y_17, z8, z9, z10, z11, v_19, y_24, v_21, v_22])), (q 11, aZ G 16 sf_29), (q 12, aI G 2 sig)]
    refine j_aload_n X dX11_crossArc_150 rfl 4 rfl ?_
    refine j_iconst (v := 4) X dX11_crossArc_151 rfl ?_
    refine j_bipush (v := 7) X dX11_crossArc_152 (by decide) ?_
    refine j_bipush (v := 7) X dX11_crossArc_154 (by decide) ?_
    obtain ⟨y_30, ey_30⟩ : ∃ zz9 : Int, zz9 = y_17 * y_17 := ⟨_, rfl⟩
    have by_30 : bd 166 y_30 := by rw [ey_30]; exact bd_mul by_17 by_17
    refine j_callV X dX11_crossArc_156 (n_mul l G q t n co cr 0 tx ty [z0, z1, z2, y_5, y_18, y_26, y_28, y_17, z8, z9, z10, z11, v_19, y_24, v_21, v_22] sf_29 rfl hS_sf_29 4 4 rfl (by decide) 7 7 rfl (by decide) 7 7 rfl (by decide) (by decide) (by decide) y_30 ey_30) gX11_crossArc_X11_multiply rfl hy_X11_multiply_V ⟨Nat.le_of_ble_eq_true rfl, Nat.le_of_ble_eq_true rfl⟩ 0 rfl rfl [0, 7, 8] rfl (by decide) rfl rfl (Nat.le_of_ble_eq_true rfl) ⟨Nat.le_of_ble_eq_true rfl, Nat.le_of_ble_eq_true rfl⟩ ?_
    rintro _ sf_31 ⟨rfl, hS_sf_31⟩
    change J p l e rm_X11_crossArc s m args below meth c Q G A 13 0 0 159 [(9, .long x_4), (7, .long x_3), (5, .long x_2), (3, .long x_1), (0, .ref (q 0)), (1, .int (nI a)), (2, .int (nI b))] [] [(q 0, .inr (10, mF t n q co cr 0 tx ty)), (q 2, aJ G 200 f1), (q 3, aJ G 200 f2), (q 4, aJ G 200 f3), (q 5, aJ G 200 f4), (q 6, aI G 200 fr), (q 7, aI G 200 to1), (q 10, aI G 320 (rg [z0, z1, z2, y_5, y_30, y_26, y_28, y_17, z8, z9, z10, z11, v_19, y_24, v_21, v_22])), (q 11, aZ G 16 sf_31), (q 12, aI G 2 sig)]
    refine j_aload_n X dX11_crossArc_159 rfl 4 rfl ?_
    refine j_iconst (v := 2) X dX11_crossArc_160 rfl ?_
    refine j_iconst (v := 4) X dX11_crossArc_161 rfl ?_
    refine j_bipush (v := 6) X dX11_crossArc_162 (by decide) ?_
    refine j_iconst (v := 1) X dX11_crossArc_164 rfl ?_
    obtain ⟨y_32, ey_32⟩ : ∃ zz9 : Int, zz9 = y_30 - y_28 := ⟨_, rfl⟩
    have by_32 : bd 168 y_32 := by rw [ey_32]; exact bd_sub (bd_mono by_30 (by decide)) (bd_mono by_28 (by decide))
    refine j_callV X dX11_crossArc_165 (n_join l G q t n co cr 0 tx ty [z0, z1, z2, y_5, y_30, y_26, y_28, y_17, z8, z9, z10, z11, v_19, y_24, v_21, v_22] sf_31 rfl hS_sf_31 2 2 rfl (by decide) 4 4 rfl (by decide) 6 6 rfl (by decide) 1 (Or.inr rfl) (by decide) (by decide) y_32 ey_32 by_30 by_28 (by decide) (by decide)) gX11_crossArc_X11_join rfl hy_X11_join_V ⟨Nat.le_of_ble_eq_true rfl, Nat.le_of_ble_eq_true rfl⟩ 0 rfl rfl [0, 7, 8] rfl (by decide) rfl rfl (Nat.le_of_ble_eq_true rfl) ⟨Nat.le_of_ble_eq_true rfl, Nat.le_of_ble_eq_true rfl⟩ ?_
    rintro _ sf_33 ⟨rfl, hS_sf_33⟩
    change J p l e rm_X11_crossArc s m args below meth c Q G A 13 0 0 168 [(9, .long x_4), (7, .long x_3), (5, .long x_2), (3, .long x_1), (0, .ref (q 0)), (1, .int (nI a)), (2, .int (nI b))] [] [(q 0, .inr (10, mF t n q co cr 0 tx ty)), (q 2, aJ G 200 f1), (q 3, aJ G 200 f2), (q 4, aJ G 200 f3), (q 5, aJ G 200 f4), (q 6, aI G 200 fr), (q 7, aI G 200 to1), (q 10, aI G 320 (rg [z0, z1, y_32, y_5, y_30, y_26, y_28, y_17, z8, z9, z10, z11, v_19, y_24, v_21, v_22])), (q 11, aZ G 16 sf_33), (q 12, aI G 2 sig)]
    refine j_aload_n X dX11_crossArc_168 rfl 4 rfl ?_
    refine j_iconst (v := 2) X dX11_crossArc_169 rfl ?_
    refine j_callV X dX11_crossArc_170 (c_X11_sign l G q t n co cr 0 tx ty [z0, z1, y_32, y_5, y_30, y_26, y_28, y_17, z8, z9, z10, z11, v_19, y_24, v_21, v_22] rfl sf_33 2 2 rfl (by decide) (hS_sf_33 2 (by decide)) (bd_lt by_32 (by decide))) gX11_crossArc_X11_sign rfl hy_X11_sign_V ⟨Nat.le_of_ble_eq_true rfl, Nat.le_of_ble_eq_true rfl⟩ 0 rfl rfl [0, 7, 8] rfl (by decide) rfl rfl (Nat.le_of_ble_eq_true rfl) ⟨Nat.le_of_ble_eq_true rfl, Nat.le_of_ble_eq_true rfl⟩ ?_
    rintro _ ⟨⟩ rfl
    change J p l e rm_X11_crossArc s m args below meth c Q G A 13 0 0 173 [(9, .long x_4), (7, .long x_3), (5, .long x_2), (3, .long x_1), (0, .ref (q 0)), (1, .int (nI a)), (2, .int (nI b))] [.int (sg y_32)] [(q 0, .inr (10, mF t n q co cr 0 tx ty)), (q 2, aJ G 200 f1), (q 3, aJ G 200 f2), (q 4, aJ G 200 f3), (q 5, aJ G 200 f4), (q 6, aI G 200 fr), (q 7, aI G 200 to1), (q 10, aI G 320 (rg [z0, z1, y_32, y_5, y_30, y_26, y_28, y_17, z8, z9, z10, z11, v_19, y_24, v_21, v_22])), (q 11, aZ G 16 sf_33), (q 12, aI G 2 sig)]
    refine j_if_ge (tgt := 177) X dX11_crossArc_173 (by decide) (fun c_173 => ?_) (fun c_173 => ?_)
    · skip
      first | simp only [bI_0, Decidable.not_not, sg_mul, sg_e0, sg_l0, sg_g0, sg_le0, sg_ge0, cmp_eq, cmp_lt, cmp_ge, cmp_gt, cmp_le, lT0, lT1] at c_173 | simp only [Int32.le_iff_toInt_le, Int32.lt_iff_toInt_lt, ← Int32.toInt_inj, iT0, iT1, iT2, iT3, iT4, iT5, iT6, iT7, iT8, iT9, iT10, iT11, iT12, iT13, iT14, iT15, iT16, iT19, iT20, iT31, iT32, iT42, iT64, iT200, iT318, iT319, iT1000, iTm1, iTm2] at c_173 | skip
      have hL : y_5 = saL (f1 a).toInt (f2 a).toInt (f3 a).toInt (f4 a).toInt := by rw [ey_5, tx_1, tx_2]; rfl
      have hD : y_17 = saD (f1 a).toInt (f2 a).toInt (f3 a).toInt (f4 a).toInt (f1 b).toInt (f2 b).toInt := by rw [ey_17, ey_11, tx_1, tx_2, tx_3, tx_4, Int.mul_comm ((f2 a).toInt - (f2 b).toInt)]; rfl
      have hR : y_32 = saR (f1 a).toInt (f2 a).toInt (f3 a).toInt (f4 a).toInt (f1 b).toInt (f2 b).toInt (f3 b).toInt := by unfold saR; rw [← hD, ← hL, ey_32, ey_30, ey_28, ey_26, ey_18, ey_24, tx_3, tx_4]
      refine j_aload_n X dX11_crossArc_177 rfl 4 rfl ?_
      refine j_iconst (v := 5) X dX11_crossArc_178 rfl ?_
      refine j_bipush (v := 7) X dX11_crossArc_179 (by decide) ?_
      refine j_callV X dX11_crossArc_181 (h_copy l G q t n co cr 0 tx ty [z0, z1, y_32, y_5, y_30, y_26, y_28, y_17, z8, z9, z10, z11, v_19, y_24, v_21, v_22] sf_33 rfl hS_sf_33 5 5 rfl (by decide) 7 7 rfl (by decide) (by decide)) gX11_crossArc_X11_copy rfl hy_X11_copy_V ⟨Nat.le_of_ble_eq_true rfl, Nat.le_of_ble_eq_true rfl⟩ 0 rfl rfl [0, 7, 8] rfl (by decide) rfl rfl (Nat.le_of_ble_eq_true rfl) ⟨Nat.le_of_ble_eq_true rfl, Nat.le_of_ble_eq_true rfl⟩ ?_
      rintro _ sf_34 ⟨rfl, hS_sf_34⟩
      change J p l e rm_X11_crossArc s m args below meth c Q G A 13 0 0 184 [(9, .long x_4), (7, .long x_3), (5, .long x_2), (3, .long x_1), (0, .ref (q 0)), (1, .int (nI a)), (2, .int (nI b))] [] [(q 0, .inr (10, mF t n q co cr 0 tx ty)), (q 2, aJ G 200 f1), (q 3, aJ G 200 f2), (q 4, aJ G 200 f3), (q 5, aJ G 200 f4), (q 6, aI G 200 fr), (q 7, aI G 200 to1), (q 10, aI G 320 (rg [z0, z1, y_32, y_5, y_30, y_17, y_28, y_17, z8, z9, z10, z11, v_19, y_24, v_21, v_22])), (q 11, aZ G 16 sf_34), (q 12, aI G 2 sig)]
      refine j_aload_n X dX11_crossArc_184 rfl 4 rfl ?_
      refine j_bipush (v := 9) X dX11_crossArc_185 (by decide) ?_
      refine j_bipush (v := 7) X dX11_crossArc_187 (by decide) ?_
      refine j_callV X dX11_crossArc_189 (h_copy l G q t n co cr 0 tx ty [z0, z1, y_32, y_5, y_30, y_17, y_28, y_17, z8, z9, z10, z11, v_19, y_24, v_21, v_22] sf_34 rfl hS_sf_34 9 9 rfl (by decide) 7 7 rfl (by decide) (by decide)) gX11_crossArc_X11_copy rfl hy_X11_copy_V ⟨Nat.le_of_ble_eq_true rfl, Nat.le_of_ble_eq_true rfl⟩ 0 rfl rfl [0, 7, 8] rfl (by decide) rfl rfl (Nat.le_of_ble_eq_true rfl) ⟨Nat.le_of_ble_eq_true rfl, Nat.le_of_ble_eq_true rfl⟩ ?_
      rintro _ sf_35 ⟨rfl, hS_sf_35⟩
      change J p l e rm_X11_crossArc s m args below meth c Q G A 13 0 0 192 [(9, .long x_4), (7, .long x_3), (5, .long x_2), (3, .long x_1), (0, .ref (q 0)), (1, .int (nI a)), (2, .int (nI b))] [] [(q 0, .inr (10, mF t n q co cr 0 tx ty)), (q 2, aJ G 200 f1), (q 3, aJ G 200 f2), (q 4, aJ G 200 f3), (q 5, aJ G 200 f4), (q 6, aI G 200 fr), (q 7, aI G 200 to1), (q 10, aI G 320 (rg [z0, z1, y_32, y_5, y_30, y_17, y_28, y_17, z8, y_17, z10, z11, v_19, y_24, v_21, v_22])), (q 11, aZ G 16 sf_35), (q 12, aI G 2 sig)]
      refine j_aload_n X dX11_crossArc_192 rfl 4 rfl ?_
      refine j_aload_n X dX11_crossArc_193 rfl 4 rfl ?_
      refine j_get (v := .ref (q 2)) X dX11_crossArc_194 0 rfl 3 rfl in_X11_crossArc_X11 (by decide) fl_X11_crossArc_13 rfl ?_
      refine j_iload_n X dX11_crossArc_197 rfl 5 rfl ?_
      refine j_lald X dX11_crossArc_198 1 rfl a rfl ga (by decide) ?_
      refine j_lload_n X dX11_crossArc_199 rfl 3 rfl ?_
      refine j_iconst (v := 0) X dX11_crossArc_200 rfl ?_
      refine j_callV X dX11_crossArc_201 (c_X11_onLine_0 l G q t n co cr 0 tx ty z0 z1 y_32 y_5 y_30 y_17 y_28 y_17 z8 y_17 z10 z11 v_19 y_24 v_21 v_22 sf_35 hS_sf_35 (f1 a) x_1 (bd_mono by_5 (by decide)) (bd_mono by_17 (by decide)) (bd_mono (bd_C ba.1.1) (by decide)) (bd_mono bx_1 (by decide))) gX11_crossArc_X11_onLine rfl hy_X11_onLine_V ⟨Nat.le_of_ble_eq_true rfl, Nat.le_of_ble_eq_true rfl⟩ 0 rfl rfl [0, 7, 8] rfl (by decide) rfl rfl (Nat.le_of_ble_eq_true rfl) ⟨Nat.le_of_ble_eq_true rfl, Nat.le_of_ble_eq_true rfl⟩ ?_
      rintro _ ⟨y_37, y_38, y_39, y_40, sf_36⟩ ⟨rfl, ey_40, hS_sf_36⟩
      dsimp only at ey_40 hS_sf_36
      change J p l e rm_X11_crossArc s m args below meth c Q G A 13 0 0 204 [(9, .long x_4), (7, .long x_3), (5, .long x_2), (3, .long x_1), (0, .ref (q 0)), (1, .int (nI a)), (2, .int (nI b))] [] [(q 0, .inr (10, mF t n q co cr 0 tx ty)), (q 2, aJ G 200 f1), (q 3, aJ G 200 f2), (q 4, aJ G 200 f3), (q 5, aJ G 200 f4), (q 6, aI G 200 fr), (q 7, aI G 200 to1), (q 10, aI G 320 (rg [y_40, z1, y_32, y_5, y_37, y_17, y_38, y_17, z8, y_17, z10, z11, v_19, y_39, v_21, v_22])), (q 11, aZ G 16 sf_36), (q 12, aI G 2 sig)]
      have by_40 : bd 127 y_40 := by rw [ey_40]; exact bd_add (bd_mono (bd_mul (bd_C ba.1.1) by_5) (by decide)) (bd_mono (bd_mul bx_1 by_17) (by decide))
      refine j_aload_n X dX11_crossArc_204 rfl 4 rfl ?_
      refine j_iconst (v := 5) X dX11_crossArc_205 rfl ?_
      refine j_bipush (v := 9) X dX11_crossArc_206 (by decide) ?_
      refine j_callV X dX11_crossArc_208 (h_copy l G q t n co cr 0 tx ty [y_40, z1, y_32, y_5, y_37, y_17, y_38, y_17, z8, y_17, z10, z11, v_19, y_39, v_21, v_22] sf_36 rfl hS_sf_36 5 5 rfl (by decide) 9 9 rfl (by decide) (by decide)) gX11_crossArc_X11_copy rfl hy_X11_copy_V ⟨Nat.le_of_ble_eq_true rfl, Nat.le_of_ble_eq_true rfl⟩ 0 rfl rfl [0, 7, 8] rfl (by decide) rfl rfl (Nat.le_of_ble_eq_true rfl) ⟨Nat.le_of_ble_eq_true rfl, Nat.le_of_ble_eq_true rfl⟩ ?_
      rintro _ sf_41 ⟨rfl, hS_sf_41⟩
      change J p l e rm_X11_crossArc s m args below meth c Q G A 13 0 0 211 [(9, .long x_4), (7, .long x_3), (5, .long x_2), (3, .long x_1), (0, .ref (q 0)), (1, .int (nI a)), (2, .int (nI b))] [] [(q 0, .inr (10, mF t n q co cr 0 tx ty)), (q 2, aJ G 200 f1), (q 3, aJ G 200 f2), (q 4, aJ G 200 f3), (q 5, aJ G 200 f4), (q 6, aI G 200 fr), (q 7, aI G 200 to1), (q 10, aI G 320 (rg [y_40, z1, y_32, y_5, y_37, y_17, y_38, y_17, z8, y_17, z10, z11, v_19, y_39, v_21, v_22])), (q 11, aZ G 16 sf_41), (q 12, aI G 2 sig)]
      refine j_aload_n X dX11_crossArc_211 rfl 4 rfl ?_
      refine j_aload_n X dX11_crossArc_212 rfl 4 rfl ?_
      refine j_get (v := .ref (q 3)) X dX11_crossArc_213 0 rfl 4 rfl in_X11_crossArc_X11 (by decide) fl_X11_crossArc_17 rfl ?_
      refine j_iload_n X dX11_crossArc_216 rfl 5 rfl ?_
      refine j_lald X dX11_crossArc_217 2 rfl a rfl ga (by decide) ?_
      refine j_lload X dX11_crossArc_218 2 rfl ?_
      refine j_iconst (v := 1) X dX11_crossArc_220 rfl ?_
      refine j_callV X dX11_crossArc_221 (c_X11_onLine_1 l G q t n co cr 0 tx ty y_40 z1 y_32 y_5 y_37 y_17 y_38 y_17 z8 y_17 z10 z11 v_19 y_39 v_21 v_22 sf_41 hS_sf_41 (f2 a) x_2 (bd_mono by_5 (by decide)) (bd_mono by_17 (by decide)) (bd_mono (bd_C ba.1.2) (by decide)) (bd_mono bx_2 (by decide))) gX11_crossArc_X11_onLine rfl hy_X11_onLine_V ⟨Nat.le_of_ble_eq_true rfl, Nat.le_of_ble_eq_true rfl⟩ 0 rfl rfl [0, 7, 8] rfl (by decide) rfl rfl (Nat.le_of_ble_eq_true rfl) ⟨Nat.le_of_ble_eq_true rfl, Nat.le_of_ble_eq_true rfl⟩ ?_
      rintro _ ⟨y_43, y_44, y_45, y_46, sf_42⟩ ⟨rfl, ey_46, hS_sf_42⟩
      dsimp only at ey_46 hS_sf_42
      change J p l e rm_X11_crossArc s m args below meth c Q G A 13 0 0 224 [(9, .long x_4), (7, .long x_3), (5, .long x_2), (3, .long x_1), (0, .ref (q 0)), (1, .int (nI a)), (2, .int (nI b))] [] [(q 0, .inr (10, mF t n q co cr 0 tx ty)), (q 2, aJ G 200 f1), (q 3, aJ G 200 f2), (q 4, aJ G 200 f3), (q 5, aJ G 200 f4), (q 6, aI G 200 fr), (q 7, aI G 200 to1), (q 10, aI G 320 (rg [y_40, y_46, y_32, y_5, y_43, y_17, y_44, y_17, z8, y_17, z10, z11, v_19, y_45, v_21, v_22])), (q 11, aZ G 16 sf_42), (q 12, aI G 2 sig)]
      have by_46 : bd 127 y_46 := by rw [ey_46]; exact bd_add (bd_mono (bd_mul (bd_C ba.1.2) by_5) (by decide)) (bd_mono (bd_mul bx_2 by_17) (by decide))
      refine j_aload_n X dX11_crossArc_224 rfl 4 rfl ?_
      refine j_lload_n X dX11_crossArc_225 rfl 3 rfl ?_
      refine j_put (ws' := [(q 0, .inr (10, mF t n q co cr 0 x_1 ty)), (q 2, aJ G 200 f1), (q 3, aJ G 200 f2), (q 4, aJ G 200 f3), (q 5, aJ G 200 f4), (q 6, aI G 200 fr), (q 7, aI G 200 to1), (q 10, aI G 320 (rg [y_40, y_46, y_32, y_5, y_43, y_17, y_44, y_17, z8, y_17, z10, z11, v_19, y_45, v_21, v_22])), (q 11, aZ G 16 sf_42), (q 12, aI G 2 sig)]) X dX11_crossArc_226 0 rfl 17 rfl in_X11_crossArc_X11 tyX11 tyX11_ok nmX11 (by decide) fl_X11_crossArc_159 rfl rfl rfl rfl (Nat.le_of_ble_eq_true rfl) rfl ?_
      refine j_aload_n X dX11_crossArc_229 rfl 4 rfl ?_
      refine j_lload X dX11_crossArc_230 2 rfl ?_
      refine j_put (ws' := [(q 0, .inr (10, mF t n q co cr 0 x_1 x_2)), (q 2, aJ G 200 f1), (q 3, aJ G 200 f2), (q 4, aJ G 200 f3), (q 5, aJ G 200 f4), (q 6, aI G 200 fr), (q 7, aI G 200 to1), (q 10, aI G 320 (rg [y_40, y_46, y_32, y_5, y_43, y_17, y_44, y_17, z8, y_17, z10, z11, v_19, y_45, v_21, v_22])), (q 11, aZ G 16 sf_42), (q 12, aI G 2 sig)]) X dX11_crossArc_232 0 rfl 18 rfl in_X11_crossArc_X11 tyX11 tyX11_ok nmX11 (by decide) fl_X11_crossArc_163 rfl rfl rfl rfl (Nat.le_of_ble_eq_true rfl) rfl ?_
      have hU : y_40 = saU (f1 a).toInt (f2 a).toInt (f3 a).toInt (f4 a).toInt (f1 b).toInt (f2 b).toInt := by unfold saU; rw [← hL, ← hD, ey_40, tx_1]
      have hV : y_46 = saV (f1 a).toInt (f2 a).toInt (f3 a).toInt (f4 a).toInt (f1 b).toInt (f2 b).toInt := by unfold saV; rw [← hL, ← hD, ey_46, tx_2]
      refine j_iconst (v := (-1)) X dX11_crossArc_235 rfl ?_
      refine j_istore (L' := [(11, .int (-1)), (9, .long x_4), (7, .long x_3), (5, .long x_2), (3, .long x_1), (0, .ref (q 0)), (1, .int (nI a)), (2, .int (nI b))]) X dX11_crossArc_236 (by decide) rfl ?_
      refine j_iload X dX11_crossArc_238 0 rfl ?_
      refine j_iconst (v := 2) X dX11_crossArc_240 rfl ?_
      refine j_icmp_ge (tgt := 329) X dX11_crossArc_241 (by decide) (fun c9 => absurd c9 (by decide)) (fun _ => ?_)
      refine j_iload X dX11_crossArc_244 0 rfl ?_
      refine j_iconst (v := 1) X dX11_crossArc_246 rfl ?_
      refine j_icmp_ne (tgt := 259) X dX11_crossArc_247 (by decide) (fun _ => ?_) (fun c9 => absurd c9 (by decide))
      refine j_aload_n X dX11_crossArc_259 rfl 5 rfl ?_
      refine j_iconst (v := 4) X dX11_crossArc_260 rfl ?_
      refine j_iconst (v := 3) X dX11_crossArc_261 rfl ?_
      refine j_bipush (v := 9) X dX11_crossArc_262 (by decide) ?_
      refine j_iconst (v := 1) X dX11_crossArc_264 rfl ?_
      obtain ⟨y_47, ey_47⟩ : ∃ zz9 : Int, zz9 = y_5 - y_17 := ⟨_, rfl⟩
      have by_47 : bd 84 y_47 := by rw [ey_47]; exact bd_sub (bd_mono by_5 (by decide)) (bd_mono by_17 (by decide))
      refine j_callV X dX11_crossArc_265 (n_join l G q t n co cr 0 x_1 x_2 [y_40, y_46, y_32, y_5, y_43, y_17, y_44, y_17, z8, y_17, z10, z11, v_19, y_45, v_21, v_22] sf_42 rfl hS_sf_42 4 4 rfl (by decide) 3 3 rfl (by decide) 9 9 rfl (by decide) 1 (Or.inr rfl) (by decide) (by decide) y_47 ey_47 by_5 by_17 (by decide) (by decide)) gX11_crossArc_X11_join rfl hy_X11_join_V ⟨Nat.le_of_ble_eq_true rfl, Nat.le_of_ble_eq_true rfl⟩ 0 rfl rfl [0, 7, 8] rfl (by decide) rfl rfl (Nat.le_of_ble_eq_true rfl) ⟨Nat.le_of_ble_eq_true rfl, Nat.le_of_ble_eq_true rfl⟩ ?_
      rintro _ sf_48 ⟨rfl, hS_sf_48⟩
      change J p l e rm_X11_crossArc s m args below meth c Q G A 13 0 0 268 [(11, .int (-1)), (9, .long x_4), (7, .long x_3), (5, .long x_2), (3, .long x_1), (0, .ref (q 0)), (1, .int (nI a)), (2, .int (nI b))] [] [(q 0, .inr (10, mF t n q co cr 0 x_1 x_2)), (q 2, aJ G 200 f1), (q 3, aJ G 200 f2), (q 4, aJ G 200 f3), (q 5, aJ G 200 f4), (q 6, aI G 200 fr), (q 7, aI G 200 to1), (q 10, aI G 320 (rg [y_40, y_46, y_32, y_5, y_47, y_17, y_44, y_17, z8, y_17, z10, z11, v_19, y_45, v_21, v_22])), (q 11, aZ G 16 sf_48), (q 12, aI G 2 sig)]
      refine j_aload_n X dX11_crossArc_268 rfl 5 rfl ?_
      refine j_bipush (v := 9) X dX11_crossArc_269 (by decide) ?_
      refine j_iload X dX11_crossArc_271 0 rfl ?_
      refine j_i2l X dX11_crossArc_273 rfl ?_
      refine j_iconst (v := 2) X dX11_crossArc_274 rfl ?_
      refine j_callV X dX11_crossArc_275 (c_X11_signOf_9_2 l G q t n co cr 0 x_1 x_2 y_40 y_46 y_32 y_5 y_47 y_17 y_44 y_17 z8 y_17 z10 z11 v_19 y_45 v_21 v_22 sf_48 hS_sf_48 ((-1 : Int32).toInt64) c_173 (bd_mono by_17 (by decide)) (bd_mono bd_n1 (by decide)) (bd_mono by_32 (by decide))) gX11_crossArc_X11_signOf rfl hy_X11_signOf_V ⟨Nat.le_of_ble_eq_true rfl, Nat.le_of_ble_eq_true rfl⟩ 0 rfl rfl [0, 7, 8] rfl (by decide) rfl rfl (Nat.le_of_ble_eq_true rfl) ⟨Nat.le_of_ble_eq_true rfl, Nat.le_of_ble_eq_true rfl⟩ ?_
      rintro _ ⟨y_50, y_51, y_52, y_53, sf_49⟩ ⟨rfl, hS_sf_49⟩
      dsimp only at hS_sf_49
      change J p l e rm_X11_crossArc s m args below meth c Q G A 13 0 0 278 [(11, .int (-1)), (9, .long x_4), (7, .long x_3), (5, .long x_2), (3, .long x_1), (0, .ref (q 0)), (1, .int (nI a)), (2, .int (nI b))] [.int (rn y_17 ((-1 : Int32).toInt64).toInt y_32)] [(q 0, .inr (10, mF t n q co cr 0 x_1 x_2)), (q 2, aJ G 200 f1), (q 3, aJ G 200 f2), (q 4, aJ G 200 f3), (q 5, aJ G 200 f4), (q 6, aI G 200 fr), (q 7, aI G 200 to1), (q 10, aI G 320 (rg [y_40, y_46, y_32, y_5, y_47, y_17, y_44, y_17, z8, y_17, y_50, y_51, v_19, y_52, v_21, y_53])), (q 11, aZ G 16 sf_49), (q 12, aI G 2 sig)]
      refine j_if_lt (tgt := 299) X dX11_crossArc_278 (by decide) (fun c_278 => ?_) (fun c_278 => ?_)
      · skip
        rw [i64_n] at c_278
        have hn : ¬ saP (f1 a).toInt (f2 a).toInt (f3 a).toInt (f4 a).toInt (f1 b).toInt (f2 b).toInt (f3 b).toInt (fr b).toInt (to1 b).toInt (-1) := fun h => h.1 (by rw [← hD, ← hR]; exact c_278)
        refine j_iconst (v := 0) X dX11_crossArc_299 rfl ?_
        refine j_istore (L' := [(12, .int 0), (11, .int (-1)), (9, .long x_4), (7, .long x_3), (5, .long x_2), (3, .long x_1), (0, .ref (q 0)), (1, .int (nI a)), (2, .int (nI b))]) X dX11_crossArc_300 (by decide) rfl ?_
        refine j_iload X dX11_crossArc_302 0 rfl ?_
        refine j_if_eq (tgt := 323) X dX11_crossArc_304 (by decide) (fun _ => ?_) (fun c9 => absurd c9 (by decide))
        refine j_iinc (v := 1) (L' := [(11, .int 1), (12, .int 0), (9, .long x_4), (7, .long x_3), (5, .long x_2), (3, .long x_1), (0, .ref (q 0)), (1, .int (nI a)), (2, .int (nI b))]) X dX11_crossArc_323 1 rfl (by decide) (by decide) rfl ?_
        refine j_goto (tgt := 238) X dX11_crossArc_326 (by decide) ?_
        refine j_iload X dX11_crossArc_238 0 rfl ?_
        refine j_iconst (v := 2) X dX11_crossArc_240 rfl ?_
        refine j_icmp_ge (tgt := 329) X dX11_crossArc_241 (by decide) (fun c9 => absurd c9 (by decide)) (fun _ => ?_)
        refine j_iload X dX11_crossArc_244 0 rfl ?_
        refine j_iconst (v := 1) X dX11_crossArc_246 rfl ?_
        refine j_icmp_ne (tgt := 259) X dX11_crossArc_247 (by decide) (fun c9 => absurd c9 (by decide)) (fun _ => ?_)
        refine j_aload_n X dX11_crossArc_250 rfl 6 rfl ?_
        refine j_iconst (v := 2) X dX11_crossArc_251 rfl ?_
        refine j_callV X dX11_crossArc_252 (c_X11_sign l G q t n co cr 0 x_1 x_2 [y_40, y_46, y_32, y_5, y_47, y_17, y_44, y_17, z8, y_17, y_50, y_51, v_19, y_52, v_21, y_53] rfl sf_49 2 2 rfl (by decide) (hS_sf_49 2 (by decide)) (bd_lt by_32 (by decide))) gX11_crossArc_X11_sign rfl hy_X11_sign_V ⟨Nat.le_of_ble_eq_true rfl, Nat.le_of_ble_eq_true rfl⟩ 0 rfl rfl [0, 7, 8] rfl (by decide) rfl rfl (Nat.le_of_ble_eq_true rfl) ⟨Nat.le_of_ble_eq_true rfl, Nat.le_of_ble_eq_true rfl⟩ ?_
        rintro _ ⟨⟩ rfl
        change J p l e rm_X11_crossArc s m args below meth c Q G A 13 0 0 255 [(11, .int 1), (12, .int 0), (9, .long x_4), (7, .long x_3), (5, .long x_2), (3, .long x_1), (0, .ref (q 0)), (1, .int (nI a)), (2, .int (nI b))] [.int (sg y_32)] [(q 0, .inr (10, mF t n q co cr 0 x_1 x_2)), (q 2, aJ G 200 f1), (q 3, aJ G 200 f2), (q 4, aJ G 200 f3), (q 5, aJ G 200 f4), (q 6, aI G 200 fr), (q 7, aI G 200 to1), (q 10, aI G 320 (rg [y_40, y_46, y_32, y_5, y_47, y_17, y_44, y_17, z8, y_17, y_50, y_51, v_19, y_52, v_21, y_53])), (q 11, aZ G 16 sf_49), (q 12, aI G 2 sig)]
        refine j_if_ne (tgt := 259) X dX11_crossArc_255 (by decide) (fun c_255 => ?_) (fun c_255 => ?_)
        · skip
          first | simp only [bI_0, Decidable.not_not, sg_mul, sg_e0, sg_l0, sg_g0, sg_le0, sg_ge0, cmp_eq, cmp_lt, cmp_ge, cmp_gt, cmp_le, lT0, lT1] at c_255 | simp only [Int32.le_iff_toInt_le, Int32.lt_iff_toInt_lt, ← Int32.toInt_inj, iT0, iT1, iT2, iT3, iT4, iT5, iT6, iT7, iT8, iT9, iT10, iT11, iT12, iT13, iT14, iT15, iT16, iT19, iT20, iT31, iT32, iT42, iT64, iT200, iT318, iT319, iT1000, iTm1, iTm2] at c_255 | skip
          have hnz := c_255
          refine j_aload_n X dX11_crossArc_259 rfl 6 rfl ?_
          refine j_iconst (v := 4) X dX11_crossArc_260 rfl ?_
          refine j_iconst (v := 3) X dX11_crossArc_261 rfl ?_
          refine j_bipush (v := 9) X dX11_crossArc_262 (by decide) ?_
          refine j_iconst (v := 1) X dX11_crossArc_264 rfl ?_
          obtain ⟨y_54, ey_54⟩ : ∃ zz9 : Int, zz9 = y_5 - y_17 := ⟨_, rfl⟩
          have by_54 : bd 84 y_54 := by rw [ey_54]; exact bd_sub (bd_mono by_5 (by decide)) (bd_mono by_17 (by decide))
          refine j_callV X dX11_crossArc_265 (n_join l G q t n co cr 0 x_1 x_2 [y_40, y_46, y_32, y_5, y_47, y_17, y_44, y_17, z8, y_17, y_50, y_51, v_19, y_52, v_21, y_53] sf_49 rfl hS_sf_49 4 4 rfl (by decide) 3 3 rfl (by decide) 9 9 rfl (by decide) 1 (Or.inr rfl) (by decide) (by decide) y_54 ey_54 by_5 by_17 (by decide) (by decide)) gX11_crossArc_X11_join rfl hy_X11_join_V ⟨Nat.le_of_ble_eq_true rfl, Nat.le_of_ble_eq_true rfl⟩ 0 rfl rfl [0, 7, 8] rfl (by decide) rfl rfl (Nat.le_of_ble_eq_true rfl) ⟨Nat.le_of_ble_eq_true rfl, Nat.le_of_ble_eq_true rfl⟩ ?_
          rintro _ sf_55 ⟨rfl, hS_sf_55⟩
          change J p l e rm_X11_crossArc s m args below meth c Q G A 13 0 0 268 [(11, .int 1), (12, .int 0), (9, .long x_4), (7, .long x_3), (5, .long x_2), (3, .long x_1), (0, .ref (q 0)), (1, .int (nI a)), (2, .int (nI b))] [] [(q 0, .inr (10, mF t n q co cr 0 x_1 x_2)), (q 2, aJ G 200 f1), (q 3, aJ G 200 f2), (q 4, aJ G 200 f3), (q 5, aJ G 200 f4), (q 6, aI G 200 fr), (q 7, aI G 200 to1), (q 10, aI G 320 (rg [y_40, y_46, y_32, y_5, y_54, y_17, y_44, y_17, z8, y_17, y_50, y_51, v_19, y_52, v_21, y_53])), (q 11, aZ G 16 sf_55), (q 12, aI G 2 sig)]
          refine j_aload_n X dX11_crossArc_268 rfl 6 rfl ?_
          refine j_bipush (v := 9) X dX11_crossArc_269 (by decide) ?_
          refine j_iload X dX11_crossArc_271 0 rfl ?_
          refine j_i2l X dX11_crossArc_273 rfl ?_
          refine j_iconst (v := 2) X dX11_crossArc_274 rfl ?_
          refine j_callV X dX11_crossArc_275 (c_X11_signOf_9_2 l G q t n co cr 0 x_1 x_2 y_40 y_46 y_32 y_5 y_54 y_17 y_44 y_17 z8 y_17 y_50 y_51 v_19 y_52 v_21 y_53 sf_55 hS_sf_55 ((1 : Int32).toInt64) c_173 (bd_mono by_17 (by decide)) (bd_mono bd_p1 (by decide)) (bd_mono by_32 (by decide))) gX11_crossArc_X11_signOf rfl hy_X11_signOf_V ⟨Nat.le_of_ble_eq_true rfl, Nat.le_of_ble_eq_true rfl⟩ 0 rfl rfl [0, 7, 8] rfl (by decide) rfl rfl (Nat.le_of_ble_eq_true rfl) ⟨Nat.le_of_ble_eq_true rfl, Nat.le_of_ble_eq_true rfl⟩ ?_
          rintro _ ⟨y_57, y_58, y_59, y_60, sf_56⟩ ⟨rfl, hS_sf_56⟩
          dsimp only at hS_sf_56
          change J p l e rm_X11_crossArc s m args below meth c Q G A 13 0 0 278 [(11, .int 1), (12, .int 0), (9, .long x_4), (7, .long x_3), (5, .long x_2), (3, .long x_1), (0, .ref (q 0)), (1, .int (nI a)), (2, .int (nI b))] [.int (rn y_17 ((1 : Int32).toInt64).toInt y_32)] [(q 0, .inr (10, mF t n q co cr 0 x_1 x_2)), (q 2, aJ G 200 f1), (q 3, aJ G 200 f2), (q 4, aJ G 200 f3), (q 5, aJ G 200 f4), (q 6, aI G 200 fr), (q 7, aI G 200 to1), (q 10, aI G 320 (rg [y_40, y_46, y_32, y_5, y_54, y_17, y_44, y_17, z8, y_17, y_57, y_58, v_19, y_59, v_21, y_60])), (q 11, aZ G 16 sf_56), (q 12, aI G 2 sig)]
          refine j_if_lt (tgt := 299) X dX11_crossArc_278 (by decide) (fun c_278 => ?_) (fun c_278 => ?_)
          · skip
            rw [i64_p] at c_278
            have hp : ¬ saP (f1 a).toInt (f2 a).toInt (f3 a).toInt (f4 a).toInt (f1 b).toInt (f2 b).toInt (f3 b).toInt (fr b).toInt (to1 b).toInt (1) := fun h => h.1 (by rw [← hD, ← hR]; exact c_278)
            refine j_iconst (v := 0) X dX11_crossArc_299 rfl ?_
            refine j_istore (L' := [(12, .int 0), (11, .int 1), (9, .long x_4), (7, .long x_3), (5, .long x_2), (3, .long x_1), (0, .ref (q 0)), (1, .int (nI a)), (2, .int (nI b))]) X dX11_crossArc_300 (by decide) rfl ?_
            refine j_iload X dX11_crossArc_302 0 rfl ?_
            refine j_if_eq (tgt := 323) X dX11_crossArc_304 (by decide) (fun _ => ?_) (fun c9 => absurd c9 (by decide))
            refine j_iinc (v := 3) (L' := [(11, .int 3), (12, .int 0), (9, .long x_4), (7, .long x_3), (5, .long x_2), (3, .long x_1), (0, .ref (q 0)), (1, .int (nI a)), (2, .int (nI b))]) X dX11_crossArc_323 1 rfl (by decide) (by decide) rfl ?_
            refine j_goto (tgt := 238) X dX11_crossArc_326 (by decide) ?_
            refine j_iload X dX11_crossArc_238 0 rfl ?_
            refine j_iconst (v := 2) X dX11_crossArc_240 rfl ?_
            refine j_icmp_ge (tgt := 329) X dX11_crossArc_241 (by decide) (fun _ => ?_) (fun c9 => absurd c9 (by decide))
            exact E.1 329 _ (0, sig, x_1, x_2, [y_40, y_46, y_32, y_5, y_54, y_17, y_44, y_17, z8, y_17, y_57, y_58, v_19, y_59, v_21, y_60], sf_56) dX11_crossArc_329 (⟨rfl, by unfold xG xsa saS; rw [cps_00 (fun h => hn h.2) (fun h => hp h.2)]; exact ⟨rfl, sgL_0 _, fun h => absurd rfl h⟩, rfl, hS_sf_56⟩) hr
          · skip
            rw [i64_p] at c_278
            have ip1 := c_278
            refine j_aload_n X dX11_crossArc_281 rfl 6 rfl ?_
            refine j_iconst (v := 4) X dX11_crossArc_282 rfl ?_
            refine j_lconst (v := 0) X dX11_crossArc_283 rfl ?_
            refine j_iload X dX11_crossArc_284 0 rfl ?_
            refine j_i2l X dX11_crossArc_286 rfl ?_
            refine j_lsub X dX11_crossArc_287 ?_
            refine j_iconst (v := 2) X dX11_crossArc_288 rfl ?_
            refine j_callV X dX11_crossArc_289 (c_X11_signOf_4_2 l G q t n co cr 0 x_1 x_2 y_40 y_46 y_32 y_5 y_54 y_17 y_44 y_17 z8 y_17 y_57 y_58 v_19 y_59 v_21 y_60 sf_56 hS_sf_56 (0 - ((1 : Int32).toInt64)) c_173 (bd_mono by_54 (by decide)) (bd_mono bd_0p (by decide)) (bd_mono by_32 (by decide))) gX11_crossArc_X11_signOf rfl hy_X11_signOf_V ⟨Nat.le_of_ble_eq_true rfl, Nat.le_of_ble_eq_true rfl⟩ 0 rfl rfl [0, 7, 8] rfl (by decide) rfl rfl (Nat.le_of_ble_eq_true rfl) ⟨Nat.le_of_ble_eq_true rfl, Nat.le_of_ble_eq_true rfl⟩ ?_
            rintro _ ⟨y_62, y_63, y_64, y_65, sf_61⟩ ⟨rfl, hS_sf_61⟩
            dsimp only at hS_sf_61
            change J p l e rm_X11_crossArc s m args below meth c Q G A 13 0 0 292 [(11, .int 1), (12, .int 0), (9, .long x_4), (7, .long x_3), (5, .long x_2), (3, .long x_1), (0, .ref (q 0)), (1, .int (nI a)), (2, .int (nI b))] [.int (rn y_54 (0 - ((1 : Int32).toInt64)).toInt y_32)] [(q 0, .inr (10, mF t n q co cr 0 x_1 x_2)), (q 2, aJ G 200 f1), (q 3, aJ G 200 f2), (q 4, aJ G 200 f3), (q 5, aJ G 200 f4), (q 6, aI G 200 fr), (q 7, aI G 200 to1), (q 10, aI G 320 (rg [y_40, y_46, y_32, y_5, y_54, y_17, y_44, y_17, z8, y_17, y_62, y_63, v_19, y_64, v_21, y_65])), (q 11, aZ G 16 sf_61), (q 12, aI G 2 sig)]
            refine j_if_lt (tgt := 299) X dX11_crossArc_292 (by decide) (fun c_292 => ?_) (fun c_292 => ?_)
            · skip
              rw [ey_54, i64_0p] at c_292
              have hp : ¬ saP (f1 a).toInt (f2 a).toInt (f3 a).toInt (f4 a).toInt (f1 b).toInt (f2 b).toInt (f3 b).toInt (fr b).toInt (to1 b).toInt (1) := fun h => h.2.1 (by rw [← hD, ← hR, ← hL]; exact c_292)
              refine j_iconst (v := 0) X dX11_crossArc_299 rfl ?_
              refine j_istore (L' := [(12, .int 0), (11, .int 1), (9, .long x_4), (7, .long x_3), (5, .long x_2), (3, .long x_1), (0, .ref (q 0)), (1, .int (nI a)), (2, .int (nI b))]) X dX11_crossArc_300 (by decide) rfl ?_
              refine j_iload X dX11_crossArc_302 0 rfl ?_
              refine j_if_eq (tgt := 323) X dX11_crossArc_304 (by decide) (fun _ => ?_) (fun c9 => absurd c9 (by decide))
              refine j_iinc (v := 3) (L' := [(11, .int 3), (12, .int 0), (9, .long x_4), (7, .long x_3), (5, .long x_2), (3, .long x_1), (0, .ref (q 0)), (1, .int (nI a)), (2, .int (nI b))]) X dX11_crossArc_323 1 rfl (by decide) (by decide) rfl ?_
              refine j_goto (tgt := 238) X dX11_crossArc_326 (by decide) ?_
              refine j_iload X dX11_crossArc_238 0 rfl ?_
              refine j_iconst (v := 2) X dX11_crossArc_240 rfl ?_
              refine j_icmp_ge (tgt := 329) X dX11_crossArc_241 (by decide) (fun _ => ?_) (fun c9 => absurd c9 (by decide))
              exact E.1 329 _ (0, sig, x_1, x_2, [y_40, y_46, y_32, y_5, y_54, y_17, y_44, y_17, z8, y_17, y_62, y_63, v_19, y_64, v_21, y_65], sf_61) dX11_crossArc_329 (⟨rfl, by unfold xG xsa saS; rw [cps_00 (fun h => hn h.2) (fun h => hp h.2)]; exact ⟨rfl, sgL_0 _, fun h => absurd rfl h⟩, rfl, hS_sf_61⟩) hr
            · skip
              rw [ey_54, i64_0p] at c_292
              have ip2 := c_292
              refine j_iconst (v := 1) X dX11_crossArc_295 rfl ?_
              refine j_goto (tgt := 300) X dX11_crossArc_296 (by decide) ?_
              refine j_istore (L' := [(12, .int 1), (11, .int 1), (9, .long x_4), (7, .long x_3), (5, .long x_2), (3, .long x_1), (0, .ref (q 0)), (1, .int (nI a)), (2, .int (nI b))]) X dX11_crossArc_300 (by decide) rfl ?_
              refine j_iload X dX11_crossArc_302 0 rfl ?_
              refine j_if_eq (tgt := 323) X dX11_crossArc_304 (by decide) (fun c9 => absurd c9 (by decide)) (fun _ => ?_)
              refine j_aload_n X dX11_crossArc_307 rfl 6 rfl ?_
              refine j_iload_n X dX11_crossArc_308 rfl 8 rfl ?_
              refine j_iload X dX11_crossArc_309 1 rfl ?_
              refine j_callV X dX11_crossArc_311 (c_X11_isOfArc_p l G q t n co cr 0 x_1 x_2 y_40 y_46 y_32 y_5 y_54 y_17 y_44 y_17 z8 y_17 y_62 y_63 v_19 y_64 v_21 y_65 sf_61 hS_sf_61 f1 f2 fr to1 b bcb hfb htb gb (bd_mono by_40 (by decide)) (bd_mono by_46 (by decide)) (bd_mono by_32 (by decide)) (bd_mono by_5 (by decide)) c_173 (bd_mono bx_1 (by decide)) (bd_mono bx_2 (by decide))) gX11_crossArc_X11_isOfArc rfl hy_X11_isOfArc_V ⟨Nat.le_of_ble_eq_true rfl, Nat.le_of_ble_eq_true rfl⟩ 0 rfl rfl [0, 1, 2, 5, 6, 7, 8] rfl (by decide) rfl rfl (Nat.le_of_ble_eq_true rfl) ⟨Nat.le_of_ble_eq_true rfl, Nat.le_of_ble_eq_true rfl⟩ ?_
              rintro _ ⟨y_67, y_68, y_69, y_70, y_71, y_72, y_73, y_74, y_75, sf_66⟩ ⟨rfl, hS_sf_66⟩
              dsimp only at hS_sf_66
              change J p l e rm_X11_crossArc s m args below meth c Q G A 13 0 0 314 [(12, .int 1), (11, .int 1), (9, .long x_4), (7, .long x_3), (5, .long x_2), (3, .long x_1), (0, .ref (q 0)), (1, .int (nI a)), (2, .int (nI b))] [.int (bI (ofA (f1 b).toInt (f2 b).toInt (fr b).toInt (to1 b).toInt y_40 y_46 y_32 y_5 x_1.toInt x_2.toInt))] [(q 0, .inr (10, mF t n q co cr 0 x_1 x_2)), (q 2, aJ G 200 f1), (q 3, aJ G 200 f2), (q 4, aJ G 200 f3), (q 5, aJ G 200 f4), (q 6, aI G 200 fr), (q 7, aI G 200 to1), (q 10, aI G 320 (rg [y_40, y_46, y_32, y_5, y_67, y_68, y_69, y_70, y_71, y_17, y_72, y_73, v_19, y_74, v_21, y_75])), (q 11, aZ G 16 sf_66), (q 12, aI G 2 sig)]
              refine j_if_eq (tgt := 323) X dX11_crossArc_314 (by decide) (fun c_314 => ?_) (fun c_314 => ?_)
              · skip
                first | simp only [bI_0, Decidable.not_not, sg_mul, sg_e0, sg_l0, sg_g0, sg_le0, sg_ge0, cmp_eq, cmp_lt, cmp_ge, cmp_gt, cmp_le, lT0, lT1] at c_314 | simp only [Int32.le_iff_toInt_le, Int32.lt_iff_toInt_lt, ← Int32.toInt_inj, iT0, iT1, iT2, iT3, iT4, iT5, iT6, iT7, iT8, iT9, iT10, iT11, iT12, iT13, iT14, iT15, iT16, iT19, iT20, iT31, iT32, iT42, iT64, iT200, iT318, iT319, iT1000, iTm1, iTm2] at c_314 | skip
                rw [hU, hV, hR, hL, tx_1, tx_2] at c_314
                have hp : ¬ saP (f1 a).toInt (f2 a).toInt (f3 a).toInt (f4 a).toInt (f1 b).toInt (f2 b).toInt (f3 b).toInt (fr b).toInt (to1 b).toInt (1) := fun h => c_314 (by have h3 := h.2.2; rw [Int.one_mul, Int.one_mul] at h3; exact h3)
                refine j_iinc (v := 3) (L' := [(11, .int 3), (12, .int 1), (9, .long x_4), (7, .long x_3), (5, .long x_2), (3, .long x_1), (0, .ref (q 0)), (1, .int (nI a)), (2, .int (nI b))]) X dX11_crossArc_323 1 rfl (by decide) (by decide) rfl ?_
                refine j_goto (tgt := 238) X dX11_crossArc_326 (by decide) ?_
                refine j_iload X dX11_crossArc_238 0 rfl ?_
                refine j_iconst (v := 2) X dX11_crossArc_240 rfl ?_
                refine j_icmp_ge (tgt := 329) X dX11_crossArc_241 (by decide) (fun _ => ?_) (fun c9 => absurd c9 (by decide))
                exact E.1 329 _ (0, sig, x_1, x_2, [y_40, y_46, y_32, y_5, y_67, y_68, y_69, y_70, y_71, y_17, y_72, y_73, v_19, y_74, v_21, y_75], sf_66) dX11_crossArc_329 (⟨rfl, by unfold xG xsa saS; rw [cps_00 (fun h => hn h.2) (fun h => hp h.2)]; exact ⟨rfl, sgL_0 _, fun h => absurd rfl h⟩, rfl, hS_sf_66⟩) hr
              · skip
                first | simp only [bI_0, Decidable.not_not, sg_mul, sg_e0, sg_l0, sg_g0, sg_le0, sg_ge0, cmp_eq, cmp_lt, cmp_ge, cmp_gt, cmp_le, lT0, lT1] at c_314 | simp only [Int32.le_iff_toInt_le, Int32.lt_iff_toInt_lt, ← Int32.toInt_inj, iT0, iT1, iT2, iT3, iT4, iT5, iT6, iT7, iT8, iT9, iT10, iT11, iT12, iT13, iT14, iT15, iT16, iT19, iT20, iT31, iT32, iT42, iT64, iT200, iT318, iT319, iT1000, iTm1, iTm2] at c_314 | skip
                rw [hU, hV, hR, hL, tx_1, tx_2] at c_314
                have hp : saP (f1 a).toInt (f2 a).toInt (f3 a).toInt (f4 a).toInt (f1 b).toInt (f2 b).toInt (f3 b).toInt (fr b).toInt (to1 b).toInt (1) := ⟨by rw [← hD, ← hR]; exact ip1, by rw [← hD, ← hR, ← hL]; exact ip2, by rw [Int.one_mul, Int.one_mul]; exact c_314⟩
                refine j_aload_n X dX11_crossArc_317 rfl 6 rfl ?_
                refine j_iload X dX11_crossArc_318 1 rfl ?_
                refine j_callV X dX11_crossArc_320 (c_X11_pointWith_0 l G q t n co cr x_1 x_2 sig 1) gX11_crossArc_X11_pointWith rfl hy_X11_pointWith_V ⟨Nat.le_of_ble_eq_true rfl, Nat.le_of_ble_eq_true rfl⟩ 0 rfl rfl [0, 9] rfl (by decide) rfl rfl (Nat.le_of_ble_eq_true rfl) ⟨Nat.le_of_ble_eq_true rfl, Nat.le_of_ble_eq_true rfl⟩ ?_
                rintro _ ⟨⟩ rfl
                change J p l e rm_X11_crossArc s m args below meth c Q G A 13 0 0 323 [(12, .int 1), (11, .int 1), (9, .long x_4), (7, .long x_3), (5, .long x_2), (3, .long x_1), (0, .ref (q 0)), (1, .int (nI a)), (2, .int (nI b))] [] [(q 0, .inr (10, mF t n q co cr 1 x_1 x_2)), (q 2, aJ G 200 f1), (q 3, aJ G 200 f2), (q 4, aJ G 200 f3), (q 5, aJ G 200 f4), (q 6, aI G 200 fr), (q 7, aI G 200 to1), (q 10, aI G 320 (rg [y_40, y_46, y_32, y_5, y_67, y_68, y_69, y_70, y_71, y_17, y_72, y_73, v_19, y_74, v_21, y_75])), (q 11, aZ G 16 sf_66), (q 12, aI G 2 (upd sig 0 1))]
                refine j_iinc (v := 3) (L' := [(11, .int 3), (12, .int 1), (9, .long x_4), (7, .long x_3), (5, .long x_2), (3, .long x_1), (0, .ref (q 0)), (1, .int (nI a)), (2, .int (nI b))]) X dX11_crossArc_323 1 rfl (by decide) (by decide) rfl ?_
                refine j_goto (tgt := 238) X dX11_crossArc_326 (by decide) ?_
                refine j_iload X dX11_crossArc_238 0 rfl ?_
                refine j_iconst (v := 2) X dX11_crossArc_240 rfl ?_
                refine j_icmp_ge (tgt := 329) X dX11_crossArc_241 (by decide) (fun _ => ?_) (fun c9 => absurd c9 (by decide))
                exact E.1 329 _ (1, upd sig 0 1, x_1, x_2, [y_40, y_46, y_32, y_5, y_67, y_68, y_69, y_70, y_71, y_17, y_72, y_73, v_19, y_74, v_21, y_75], sf_66) dX11_crossArc_329 (⟨rfl, by unfold xG xsa saS; rw [cps_01 (fun h => hn h.2) ⟨by rw [← hR]; omega, hp⟩]; exact ⟨rfl, sgL_1 _ _, fun _ => ⟨⟨hU, hV, hR, hL⟩, tx_1, tx_2⟩⟩, rfl, hS_sf_66⟩) hr
        · skip
          first | simp only [bI_0, Decidable.not_not, sg_mul, sg_e0, sg_l0, sg_g0, sg_le0, sg_ge0, cmp_eq, cmp_lt, cmp_ge, cmp_gt, cmp_le, lT0, lT1] at c_255 | simp only [Int32.le_iff_toInt_le, Int32.lt_iff_toInt_lt, ← Int32.toInt_inj, iT0, iT1, iT2, iT3, iT4, iT5, iT6, iT7, iT8, iT9, iT10, iT11, iT12, iT13, iT14, iT15, iT16, iT19, iT20, iT31, iT32, iT42, iT64, iT200, iT318, iT319, iT1000, iTm1, iTm2] at c_255 | skip
          have hz := c_255
          exact E.1 258 _ (0, sig, x_1, x_2, [y_40, y_46, y_32, y_5, y_47, y_17, y_44, y_17, z8, y_17, y_50, y_51, v_19, y_52, v_21, y_53], sf_49) dX11_crossArc_258 (⟨rfl, by unfold xG xsa saS; rw [cps_00 (fun h => hn h.2) (fun h => absurd h.1 (by rw [← hR, hz]; decide))]; exact ⟨rfl, sgL_0 _, fun h => absurd rfl h⟩, rfl, hS_sf_49⟩) hr
      · skip
        rw [i64_n] at c_278
        have in1 := c_278
        refine j_aload_n X dX11_crossArc_281 rfl 5 rfl ?_
        refine j_iconst (v := 4) X dX11_crossArc_282 rfl ?_
        refine j_lconst (v := 0) X dX11_crossArc_283 rfl ?_
        refine j_iload X dX11_crossArc_284 0 rfl ?_
        refine j_i2l X dX11_crossArc_286 rfl ?_
        refine j_lsub X dX11_crossArc_287 ?_
        refine j_iconst (v := 2) X dX11_crossArc_288 rfl ?_
        refine j_callV X dX11_crossArc_289 (c_X11_signOf_4_2 l G q t n co cr 0 x_1 x_2 y_40 y_46 y_32 y_5 y_47 y_17 y_44 y_17 z8 y_17 y_50 y_51 v_19 y_52 v_21 y_53 sf_49 hS_sf_49 (0 - ((-1 : Int32).toInt64)) c_173 (bd_mono by_47 (by decide)) (bd_mono bd_0n (by decide)) (bd_mono by_32 (by decide))) gX11_crossArc_X11_signOf rfl hy_X11_signOf_V ⟨Nat.le_of_ble_eq_true rfl, Nat.le_of_ble_eq_true rfl⟩ 0 rfl rfl [0, 7, 8] rfl (by decide) rfl rfl (Nat.le_of_ble_eq_true rfl) ⟨Nat.le_of_ble_eq_true rfl, Nat.le_of_ble_eq_true rfl⟩ ?_
        rintro _ ⟨y_77, y_78, y_79, y_80, sf_76⟩ ⟨rfl, hS_sf_76⟩
        dsimp only at hS_sf_76
        change J p l e rm_X11_crossArc s m args below meth c Q G A 13 0 0 292 [(11, .int (-1)), (9, .long x_4), (7, .long x_3), (5, .long x_2), (3, .long x_1), (0, .ref (q 0)), (1, .int (nI a)), (2, .int (nI b))] [.int (rn y_47 (0 - ((-1 : Int32).toInt64)).toInt y_32)] [(q 0, .inr (10, mF t n q co cr 0 x_1 x_2)), (q 2, aJ G 200 f1), (q 3, aJ G 200 f2), (q 4, aJ G 200 f3), (q 5, aJ G 200 f4), (q 6, aI G 200 fr), (q 7, aI G 200 to1), (q 10, aI G 320 (rg [y_40, y_46, y_32, y_5, y_47, y_17, y_44, y_17, z8, y_17, y_77, y_78, v_19, y_79, v_21, y_80])), (q 11, aZ G 16 sf_76), (q 12, aI G 2 sig)]
        refine j_if_lt (tgt := 299) X dX11_crossArc_292 (by decide) (fun c_292 => ?_) (fun c_292 => ?_)
        · skip
          rw [ey_47, i64_0n] at c_292
          have hn : ¬ saP (f1 a).toInt (f2 a).toInt (f3 a).toInt (f4 a).toInt (f1 b).toInt (f2 b).toInt (f3 b).toInt (fr b).toInt (to1 b).toInt (-1) := fun h => h.2.1 (by rw [← hD, ← hR, ← hL]; exact c_292)
          refine j_iconst (v := 0) X dX11_crossArc_299 rfl ?_
          refine j_istore (L' := [(12, .int 0), (11, .int (-1)), (9, .long x_4), (7, .long x_3), (5, .long x_2), (3, .long x_1), (0, .ref (q 0)), (1, .int (nI a)), (2, .int (nI b))]) X dX11_crossArc_300 (by decide) rfl ?_
          refine j_iload X dX11_crossArc_302 0 rfl ?_
          refine j_if_eq (tgt := 323) X dX11_crossArc_304 (by decide) (fun _ => ?_) (fun c9 => absurd c9 (by decide))
          refine j_iinc (v := 1) (L' := [(11, .int 1), (12, .int 0), (9, .long x_4), (7, .long x_3), (5, .long x_2), (3, .long x_1), (0, .ref (q 0)), (1, .int (nI a)), (2, .int (nI b))]) X dX11_crossArc_323 1 rfl (by decide) (by decide) rfl ?_
          refine j_goto (tgt := 238) X dX11_crossArc_326 (by decide) ?_
          refine j_iload X dX11_crossArc_238 0 rfl ?_
          refine j_iconst (v := 2) X dX11_crossArc_240 rfl ?_
          refine j_icmp_ge (tgt := 329) X dX11_crossArc_241 (by decide) (fun c9 => absurd c9 (by decide)) (fun _ => ?_)
          refine j_iload X dX11_crossArc_244 0 rfl ?_
          refine j_iconst (v := 1) X dX11_crossArc_246 rfl ?_
          refine j_icmp_ne (tgt := 259) X dX11_crossArc_247 (by decide) (fun c9 => absurd c9 (by decide)) (fun _ => ?_)
          refine j_aload_n X dX11_crossArc_250 rfl 6 rfl ?_
          refine j_iconst (v := 2) X dX11_crossArc_251 rfl ?_
          refine j_callV X dX11_crossArc_252 (c_X11_sign l G q t n co cr 0 x_1 x_2 [y_40, y_46, y_32, y_5, y_47, y_17, y_44, y_17, z8, y_17, y_77, y_78, v_19, y_79, v_21, y_80] rfl sf_76 2 2 rfl (by decide) (hS_sf_76 2 (by decide)) (bd_lt by_32 (by decide))) gX11_crossArc_X11_sign rfl hy_X11_sign_V ⟨Nat.le_of_ble_eq_true rfl, Nat.le_of_ble_eq_true rfl⟩ 0 rfl rfl [0, 7, 8] rfl (by decide) rfl rfl (Nat.le_of_ble_eq_true rfl) ⟨Nat.le_of_ble_eq_true rfl, Nat.le_of_ble_eq_true rfl⟩ ?_
          rintro _ ⟨⟩ rfl
          change J p l e rm_X11_crossArc s m args below meth c Q G A 13 0 0 255 [(11, .int 1), (12, .int 0), (9, .long x_4), (7, .long x_3), (5, .long x_2), (3, .long x_1), (0, .ref (q 0)), (1, .int (nI a)), (2, .int (nI b))] [.int (sg y_32)] [(q 0, .inr (10, mF t n q co cr 0 x_1 x_2)), (q 2, aJ G 200 f1), (q 3, aJ G 200 f2), (q 4, aJ G 200 f3), (q 5, aJ G 200 f4), (q 6, aI G 200 fr), (q 7, aI G 200 to1), (q 10, aI G 320 (rg [y_40, y_46, y_32, y_5, y_47, y_17, y_44, y_17, z8, y_17, y_77, y_78, v_19, y_79, v_21, y_80])), (q 11, aZ G 16 sf_76), (q 12, aI G 2 sig)]
          refine j_if_ne (tgt := 259) X dX11_crossArc_255 (by decide) (fun c_255 => ?_) (fun c_255 => ?_)
          · skip
            first | simp only [bI_0, Decidable.not_not, sg_mul, sg_e0, sg_l0, sg_g0, sg_le0, sg_ge0, cmp_eq, cmp_lt, cmp_ge, cmp_gt, cmp_le, lT0, lT1] at c_255 | simp only [Int32.le_iff_toInt_le, Int32.lt_iff_toInt_lt, ← Int32.toInt_inj, iT0, iT1, iT2, iT3, iT4, iT5, iT6, iT7, iT8, iT9, iT10, iT11, iT12, iT13, iT14, iT15, iT16, iT19, iT20, iT31, iT32, iT42, iT64, iT200, iT318, iT319, iT1000, iTm1, iTm2] at c_255 | skip
            have hnz := c_255
            refine j_aload_n X dX11_crossArc_259 rfl 6 rfl ?_
            refine j_iconst (v := 4) X dX11_crossArc_260 rfl ?_
            refine j_iconst (v := 3) X dX11_crossArc_261 rfl ?_
            refine j_bipush (v := 9) X dX11_crossArc_262 (by decide) ?_
            refine j_iconst (v := 1) X dX11_crossArc_264 rfl ?_
            obtain ⟨y_81, ey_81⟩ : ∃ zz9 : Int, zz9 = y_5 - y_17 := ⟨_, rfl⟩
            have by_81 : bd 84 y_81 := by rw [ey_81]; exact bd_sub (bd_mono by_5 (by decide)) (bd_mono by_17 (by decide))
            refine j_callV X dX11_crossArc_265 (n_join l G q t n co cr 0 x_1 x_2 [y_40, y_46, y_32, y_5, y_47, y_17, y_44, y_17, z8, y_17, y_77, y_78, v_19, y_79, v_21, y_80] sf_76 rfl hS_sf_76 4 4 rfl (by decide) 3 3 rfl (by decide) 9 9 rfl (by decide) 1 (Or.inr rfl) (by decide) (by decide) y_81 ey_81 by_5 by_17 (by decide) (by decide)) gX11_crossArc_X11_join rfl hy_X11_join_V ⟨Nat.le_of_ble_eq_true rfl, Nat.le_of_ble_eq_true rfl⟩ 0 rfl rfl [0, 7, 8] rfl (by decide) rfl rfl (Nat.le_of_ble_eq_true rfl) ⟨Nat.le_of_ble_eq_true rfl, Nat.le_of_ble_eq_true rfl⟩ ?_
            rintro _ sf_82 ⟨rfl, hS_sf_82⟩
            change J p l e rm_X11_crossArc s m args below meth c Q G A 13 0 0 268 [(11, .int 1), (12, .int 0), (9, .long x_4), (7, .long x_3), (5, .long x_2), (3, .long x_1), (0, .ref (q 0)), (1, .int (nI a)), (2, .int (nI b))] [] [(q 0, .inr (10, mF t n q co cr 0 x_1 x_2)), (q 2, aJ G 200 f1), (q 3, aJ G 200 f2), (q 4, aJ G 200 f3), (q 5, aJ G 200 f4), (q 6, aI G 200 fr), (q 7, aI G 200 to1), (q 10, aI G 320 (rg [y_40, y_46, y_32, y_5, y_81, y_17, y_44, y_17, z8, y_17, y_77, y_78, v_19, y_79, v_21, y_80])), (q 11, aZ G 16 sf_82), (q 12, aI G 2 sig)]
            refine j_aload_n X dX11_crossArc_268 rfl 6 rfl ?_
            refine j_bipush (v := 9) X dX11_crossArc_269 (by decide) ?_
            refine j_iload X dX11_crossArc_271 0 rfl ?_
            refine j_i2l X dX11_crossArc_273 rfl ?_
            refine j_iconst (v := 2) X dX11_crossArc_274 rfl ?_
            refine j_callV X dX11_crossArc_275 (c_X11_signOf_9_2 l G q t n co cr 0 x_1 x_2 y_40 y_46 y_32 y_5 y_81 y_17 y_44 y_17 z8 y_17 y_77 y_78 v_19 y_79 v_21 y_80 sf_82 hS_sf_82 ((1 : Int32).toInt64) c_173 (bd_mono by_17 (by decide)) (bd_mono bd_p1 (by decide)) (bd_mono by_32 (by decide))) gX11_crossArc_X11_signOf rfl hy_X11_signOf_V ⟨Nat.le_of_ble_eq_true rfl, Nat.le_of_ble_eq_true rfl⟩ 0 rfl rfl [0, 7, 8] rfl (by decide) rfl rfl (Nat.le_of_ble_eq_true rfl) ⟨Nat.le_of_ble_eq_true rfl, Nat.le_of_ble_eq_true rfl⟩ ?_
            rintro _ ⟨y_84, y_85, y_86, y_87, sf_83⟩ ⟨rfl, hS_sf_83⟩
            dsimp only at hS_sf_83
            change J p l e rm_X11_crossArc s m args below meth c Q G A 13 0 0 278 [(11, .int 1), (12, .int 0), (9, .long x_4), (7, .long x_3), (5, .long x_2), (3, .long x_1), (0, .ref (q 0)), (1, .int (nI a)), (2, .int (nI b))] [.int (rn y_17 ((1 : Int32).toInt64).toInt y_32)] [(q 0, .inr (10, mF t n q co cr 0 x_1 x_2)), (q 2, aJ G 200 f1), (q 3, aJ G 200 f2), (q 4, aJ G 200 f3), (q 5, aJ G 200 f4), (q 6, aI G 200 fr), (q 7, aI G 200 to1), (q 10, aI G 320 (rg [y_40, y_46, y_32, y_5, y_81, y_17, y_44, y_17, z8, y_17, y_84, y_85, v_19, y_86, v_21, y_87])), (q 11, aZ G 16 sf_83), (q 12, aI G 2 sig)]
            refine j_if_lt (tgt := 299) X dX11_crossArc_278 (by decide) (fun c_278 => ?_) (fun c_278 => ?_)
            · skip
              rw [i64_p] at c_278
              have hp : ¬ saP (f1 a).toInt (f2 a).toInt (f3 a).toInt (f4 a).toInt (f1 b).toInt (f2 b).toInt (f3 b).toInt (fr b).toInt (to1 b).toInt (1) := fun h => h.1 (by rw [← hD, ← hR]; exact c_278)
              refine j_iconst (v := 0) X dX11_crossArc_299 rfl ?_
              refine j_istore (L' := [(12, .int 0), (11, .int 1), (9, .long x_4), (7, .long x_3), (5, .long x_2), (3, .long x_1), (0, .ref (q 0)), (1, .int (nI a)), (2, .int (nI b))]) X dX11_crossArc_300 (by decide) rfl ?_
              refine j_iload X dX11_crossArc_302 0 rfl ?_
              refine j_if_eq (tgt := 323) X dX11_crossArc_304 (by decide) (fun _ => ?_) (fun c9 => absurd c9 (by decide))
              refine j_iinc (v := 3) (L' := [(11, .int 3), (12, .int 0), (9, .long x_4), (7, .long x_3), (5, .long x_2), (3, .long x_1), (0, .ref (q 0)), (1, .int (nI a)), (2, .int (nI b))]) X dX11_crossArc_323 1 rfl (by decide) (by decide) rfl ?_
              refine j_goto (tgt := 238) X dX11_crossArc_326 (by decide) ?_
              refine j_iload X dX11_crossArc_238 0 rfl ?_
              refine j_iconst (v := 2) X dX11_crossArc_240 rfl ?_
              refine j_icmp_ge (tgt := 329) X dX11_crossArc_241 (by decide) (fun _ => ?_) (fun c9 => absurd c9 (by decide))
              exact E.1 329 _ (0, sig, x_1, x_2, [y_40, y_46, y_32, y_5, y_81, y_17, y_44, y_17, z8, y_17, y_84, y_85, v_19, y_86, v_21, y_87], sf_83) dX11_crossArc_329 (⟨rfl, by unfold xG xsa saS; rw [cps_00 (fun h => hn h.2) (fun h => hp h.2)]; exact ⟨rfl, sgL_0 _, fun h => absurd rfl h⟩, rfl, hS_sf_83⟩) hr
            · skip
              rw [i64_p] at c_278
              have ip1 := c_278
              refine j_aload_n X dX11_crossArc_281 rfl 6 rfl ?_
              refine j_iconst (v := 4) X dX11_crossArc_282 rfl ?_
              refine j_lconst (v := 0) X dX11_crossArc_283 rfl ?_
              refine j_iload X dX11_crossArc_284 0 rfl ?_
              refine j_i2l X dX11_crossArc_286 rfl ?_
              refine j_lsub X dX11_crossArc_287 ?_
              refine j_iconst (v := 2) X dX11_crossArc_288 rfl ?_
              refine j_callV X dX11_crossArc_289 (c_X11_signOf_4_2 l G q t n co cr 0 x_1 x_2 y_40 y_46 y_32 y_5 y_81 y_17 y_44 y_17 z8 y_17 y_84 y_85 v_19 y_86 v_21 y_87 sf_83 hS_sf_83 (0 - ((1 : Int32).toInt64)) c_173 (bd_mono by_81 (by decide)) (bd_mono bd_0p (by decide)) (bd_mono by_32 (by decide))) gX11_crossArc_X11_signOf rfl hy_X11_signOf_V ⟨Nat.le_of_ble_eq_true rfl, Nat.le_of_ble_eq_true rfl⟩ 0 rfl rfl [0, 7, 8] rfl (by decide) rfl rfl (Nat.le_of_ble_eq_true rfl) ⟨Nat.le_of_ble_eq_true rfl, Nat.le_of_ble_eq_true rfl⟩ ?_
              rintro _ ⟨y_89, y_90, y_91, y_92, sf_88⟩ ⟨rfl, hS_sf_88⟩
              dsimp only at hS_sf_88
              change J p l e rm_X11_crossArc s m args below meth c Q G A 13 0 0 292 [(11, .int 1), (12, .int 0), (9, .long x_4), (7, .long x_3), (5, .long x_2), (3, .long x_1), (0, .ref (q 0)), (1, .int (nI a)), (2, .int (nI b))] [.int (rn y_81 (0 - ((1 : Int32).toInt64)).toInt y_32)] [(q 0, .inr (10, mF t n q co cr 0 x_1 x_2)), (q 2, aJ G 200 f1), (q 3, aJ G 200 f2), (q 4, aJ G 200 f3), (q 5, aJ G 200 f4), (q 6, aI G 200 fr), (q 7, aI G 200 to1), (q 10, aI G 320 (rg [y_40, y_46, y_32, y_5, y_81, y_17, y_44, y_17, z8, y_17, y_89, y_90, v_19, y_91, v_21, y_92])), (q 11, aZ G 16 sf_88), (q 12, aI G 2 sig)]
              refine j_if_lt (tgt := 299) X dX11_crossArc_292 (by decide) (fun c_292 => ?_) (fun c_292 => ?_)
              · skip
                rw [ey_81, i64_0p] at c_292
                have hp : ¬ saP (f1 a).toInt (f2 a).toInt (f3 a).toInt (f4 a).toInt (f1 b).toInt (f2 b).toInt (f3 b).toInt (fr b).toInt (to1 b).toInt (1) := fun h => h.2.1 (by rw [← hD, ← hR, ← hL]; exact c_292)
                refine j_iconst (v := 0) X dX11_crossArc_299 rfl ?_
                refine j_istore (L' := [(12, .int 0), (11, .int 1), (9, .long x_4), (7, .long x_3), (5, .long x_2), (3, .long x_1), (0, .ref (q 0)), (1, .int (nI a)), (2, .int (nI b))]) X dX11_crossArc_300 (by decide) rfl ?_
                refine j_iload X dX11_crossArc_302 0 rfl ?_
                refine j_if_eq (tgt := 323) X dX11_crossArc_304 (by decide) (fun _ => ?_) (fun c9 => absurd c9 (by decide))
                refine j_iinc (v := 3) (L' := [(11, .int 3), (12, .int 0), (9, .long x_4), (7, .long x_3), (5, .long x_2), (3, .long x_1), (0, .ref (q 0)), (1, .int (nI a)), (2, .int (nI b))]) X dX11_crossArc_323 1 rfl (by decide) (by decide) rfl ?_
                refine j_goto (tgt := 238) X dX11_crossArc_326 (by decide) ?_
                refine j_iload X dX11_crossArc_238 0 rfl ?_
                refine j_iconst (v := 2) X dX11_crossArc_240 rfl ?_
                refine j_icmp_ge (tgt := 329) X dX11_crossArc_241 (by decide) (fun _ => ?_) (fun c9 => absurd c9 (by decide))
                exact E.1 329 _ (0, sig, x_1, x_2, [y_40, y_46, y_32, y_5, y_81, y_17, y_44, y_17, z8, y_17, y_89, y_90, v_19, y_91, v_21, y_92], sf_88) dX11_crossArc_329 (⟨rfl, by unfold xG xsa saS; rw [cps_00 (fun h => hn h.2) (fun h => hp h.2)]; exact ⟨rfl, sgL_0 _, fun h => absurd rfl h⟩, rfl, hS_sf_88⟩) hr
              · skip
                rw [ey_81, i64_0p] at c_292
                have ip2 := c_292
                refine j_iconst (v := 1) X dX11_crossArc_295 rfl ?_
                refine j_goto (tgt := 300) X dX11_crossArc_296 (by decide) ?_
                refine j_istore (L' := [(12, .int 1), (11, .int 1), (9, .long x_4), (7, .long x_3), (5, .long x_2), (3, .long x_1), (0, .ref (q 0)), (1, .int (nI a)), (2, .int (nI b))]) X dX11_crossArc_300 (by decide) rfl ?_
                refine j_iload X dX11_crossArc_302 0 rfl ?_
                refine j_if_eq (tgt := 323) X dX11_crossArc_304 (by decide) (fun c9 => absurd c9 (by decide)) (fun _ => ?_)
                refine j_aload_n X dX11_crossArc_307 rfl 6 rfl ?_
                refine j_iload_n X dX11_crossArc_308 rfl 8 rfl ?_
                refine j_iload X dX11_crossArc_309 1 rfl ?_
                refine j_callV X dX11_crossArc_311 (c_X11_isOfArc_p l G q t n co cr 0 x_1 x_2 y_40 y_46 y_32 y_5 y_81 y_17 y_44 y_17 z8 y_17 y_89 y_90 v_19 y_91 v_21 y_92 sf_88 hS_sf_88 f1 f2 fr to1 b bcb hfb htb gb (bd_mono by_40 (by decide)) (bd_mono by_46 (by decide)) (bd_mono by_32 (by decide)) (bd_mono by_5 (by decide)) c_173 (bd_mono bx_1 (by decide)) (bd_mono bx_2 (by decide))) gX11_crossArc_X11_isOfArc rfl hy_X11_isOfArc_V ⟨Nat.le_of_ble_eq_true rfl, Nat.le_of_ble_eq_true rfl⟩ 0 rfl rfl [0, 1, 2, 5, 6, 7, 8] rfl (by decide) rfl rfl (Nat.le_of_ble_eq_true rfl) ⟨Nat.le_of_ble_eq_true rfl, Nat.le_of_ble_eq_true rfl⟩ ?_
                rintro _ ⟨y_94, y_95, y_96, y_97, y_98, y_99, y_100, y_101, y_102, sf_93⟩ ⟨rfl, hS_sf_93⟩
                dsimp only at hS_sf_93
                change J p l e rm_X11_crossArc s m args below meth c Q G A 13 0 0 314 [(12, .int 1), (11, .int 1), (9, .long x_4), (7, .long x_3), (5, .long x_2), (3, .long x_1), (0, .ref (q 0)), (1, .int (nI a)), (2, .int (nI b))] [.int (bI (ofA (f1 b).toInt (f2 b).toInt (fr b).toInt (to1 b).toInt y_40 y_46 y_32 y_5 x_1.toInt x_2.toInt))] [(q 0, .inr (10, mF t n q co cr 0 x_1 x_2)), (q 2, aJ G 200 f1), (q 3, aJ G 200 f2), (q 4, aJ G 200 f3), (q 5, aJ G 200 f4), (q 6, aI G 200 fr), (q 7, aI G 200 to1), (q 10, aI G 320 (rg [y_40, y_46, y_32, y_5, y_94, y_95, y_96, y_97, y_98, y_17, y_99, y_100, v_19, y_101, v_21, y_102])), (q 11, aZ G 16 sf_93), (q 12, aI G 2 sig)]
                refine j_if_eq (tgt := 323) X dX11_crossArc_314 (by decide) (fun c_314 => ?_) (fun c_314 => ?_)
                · skip
                  first | simp only [bI_0, Decidable.not_not, sg_mul, sg_e0, sg_l0, sg_g0, sg_le0, sg_ge0, cmp_eq, cmp_lt, cmp_ge, cmp_gt, cmp_le, lT0, lT1] at c_314 | simp only [Int32.le_iff_toInt_le, Int32.lt_iff_toInt_lt, ← Int32.toInt_inj, iT0, iT1, iT2, iT3, iT4, iT5, iT6, iT7, iT8, iT9, iT10, iT11, iT12, iT13, iT14, iT15, iT16, iT19, iT20, iT31, iT32, iT42, iT64, iT200, iT318, iT319, iT1000, iTm1, iTm2] at c_314 | skip
                  rw [hU, hV, hR, hL, tx_1, tx_2] at c_314
                  have hp : ¬ saP (f1 a).toInt (f2 a).toInt (f3 a).toInt (f4 a).toInt (f1 b).toInt (f2 b).toInt (f3 b).toInt (fr b).toInt (to1 b).toInt (1) := fun h => c_314 (by have h3 := h.2.2; rw [Int.one_mul, Int.one_mul] at h3; exact h3)
                  refine j_iinc (v := 3) (L' := [(11, .int 3), (12, .int 1), (9, .long x_4), (7, .long x_3), (5, .long x_2), (3, .long x_1), (0, .ref (q 0)), (1, .int (nI a)), (2, .int (nI b))]) X dX11_crossArc_323 1 rfl (by decide) (by decide) rfl ?_
                  refine j_goto (tgt := 238) X dX11_crossArc_326 (by decide) ?_
                  refine j_iload X dX11_crossArc_238 0 rfl ?_
                  refine j_iconst (v := 2) X dX11_crossArc_240 rfl ?_
                  refine j_icmp_ge (tgt := 329) X dX11_crossArc_241 (by decide) (fun _ => ?_) (fun c9 => absurd c9 (by decide))
                  exact E.1 329 _ (0, sig, x_1, x_2, [y_40, y_46, y_32, y_5, y_94, y_95, y_96, y_97, y_98, y_17, y_99, y_100, v_19, y_101, v_21, y_102], sf_93) dX11_crossArc_329 (⟨rfl, by unfold xG xsa saS; rw [cps_00 (fun h => hn h.2) (fun h => hp h.2)]; exact ⟨rfl, sgL_0 _, fun h => absurd rfl h⟩, rfl, hS_sf_93⟩) hr
                · skip
                  first | simp only [bI_0, Decidable.not_not, sg_mul, sg_e0, sg_l0, sg_g0, sg_le0, sg_ge0, cmp_eq, cmp_lt, cmp_ge, cmp_gt, cmp_le, lT0, lT1] at c_314 | simp only [Int32.le_iff_toInt_le, Int32.lt_iff_toInt_lt, ← Int32.toInt_inj, iT0, iT1, iT2, iT3, iT4, iT5, iT6, iT7, iT8, iT9, iT10, iT11, iT12, iT13, iT14, iT15, iT16, iT19, iT20, iT31, iT32, iT42, iT64, iT200, iT318, iT319, iT1000, iTm1, iTm2] at c_314 | skip
                  rw [hU, hV, hR, hL, tx_1, tx_2] at c_314
                  have hp : saP (f1 a).toInt (f2 a).toInt (f3 a).toInt (f4 a).toInt (f1 b).toInt (f2 b).toInt (f3 b).toInt (fr b).toInt (to1 b).toInt (1) := ⟨by rw [← hD, ← hR]; exact ip1, by rw [← hD, ← hR, ← hL]; exact ip2, by rw [Int.one_mul, Int.one_mul]; exact c_314⟩
                  refine j_aload_n X dX11_crossArc_317 rfl 6 rfl ?_
                  refine j_iload X dX11_crossArc_318 1 rfl ?_
                  refine j_callV X dX11_crossArc_320 (c_X11_pointWith_0 l G q t n co cr x_1 x_2 sig 1) gX11_crossArc_X11_pointWith rfl hy_X11_pointWith_V ⟨Nat.le_of_ble_eq_true rfl, Nat.le_of_ble_eq_true rfl⟩ 0 rfl rfl [0, 9] rfl (by decide) rfl rfl (Nat.le_of_ble_eq_true rfl) ⟨Nat.le_of_ble_eq_true rfl, Nat.le_of_ble_eq_true rfl⟩ ?_
                  rintro _ ⟨⟩ rfl
                  change J p l e rm_X11_crossArc s m args below meth c Q G A 13 0 0 323 [(12, .int 1), (11, .int 1), (9, .long x_4), (7, .long x_3), (5, .long x_2), (3, .long x_1), (0, .ref (q 0)), (1, .int (nI a)), (2, .int (nI b))] [] [(q 0, .inr (10, mF t n q co cr 1 x_1 x_2)), (q 2, aJ G 200 f1), (q 3, aJ G 200 f2), (q 4, aJ G 200 f3), (q 5, aJ G 200 f4), (q 6, aI G 200 fr), (q 7, aI G 200 to1), (q 10, aI G 320 (rg [y_40, y_46, y_32, y_5, y_94, y_95, y_96, y_97, y_98, y_17, y_99, y_100, v_19, y_101, v_21, y_102])), (q 11, aZ G 16 sf_93), (q 12, aI G 2 (upd sig 0 1))]
                  refine j_iinc (v := 3) (L' := [(11, .int 3), (12, .int 1), (9, .long x_4), (7, .long x_3), (5, .long x_2), (3, .long x_1), (0, .ref (q 0)), (1, .int (nI a)), (2, .int (nI b))]) X dX11_crossArc_323 1 rfl (by decide) (by decide) rfl ?_
                  refine j_goto (tgt := 238) X dX11_crossArc_326 (by decide) ?_
                  refine j_iload X dX11_crossArc_238 0 rfl ?_
                  refine j_iconst (v := 2) X dX11_crossArc_240 rfl ?_
                  refine j_icmp_ge (tgt := 329) X dX11_crossArc_241 (by decide) (fun _ => ?_) (fun c9 => absurd c9 (by decide))
                  exact E.1 329 _ (1, upd sig 0 1, x_1, x_2, [y_40, y_46, y_32, y_5, y_94, y_95, y_96, y_97, y_98, y_17, y_99, y_100, v_19, y_101, v_21, y_102], sf_93) dX11_crossArc_329 (⟨rfl, by unfold xG xsa saS; rw [cps_01 (fun h => hn h.2) ⟨by rw [← hR]; omega, hp⟩]; exact ⟨rfl, sgL_1 _ _, fun _ => ⟨⟨hU, hV, hR, hL⟩, tx_1, tx_2⟩⟩, rfl, hS_sf_93⟩) hr
          · skip
            first | simp only [bI_0, Decidable.not_not, sg_mul, sg_e0, sg_l0, sg_g0, sg_le0, sg_ge0, cmp_eq, cmp_lt, cmp_ge, cmp_gt, cmp_le, lT0, lT1] at c_255 | simp only [Int32.le_iff_toInt_le, Int32.lt_iff_toInt_lt, ← Int32.toInt_inj, iT0, iT1, iT2, iT3, iT4, iT5, iT6, iT7, iT8, iT9, iT10, iT11, iT12, iT13, iT14, iT15, iT16, iT19, iT20, iT31, iT32, iT42, iT64, iT200, iT318, iT319, iT1000, iTm1, iTm2] at c_255 | skip
            have hz := c_255
            exact E.1 258 _ (0, sig, x_1, x_2, [y_40, y_46, y_32, y_5, y_47, y_17, y_44, y_17, z8, y_17, y_77, y_78, v_19, y_79, v_21, y_80], sf_76) dX11_crossArc_258 (⟨rfl, by unfold xG xsa saS; rw [cps_00 (fun h => hn h.2) (fun h => absurd h.1 (by rw [← hR, hz]; decide))]; exact ⟨rfl, sgL_0 _, fun h => absurd rfl h⟩, rfl, hS_sf_76⟩) hr
        · skip
          rw [ey_47, i64_0n] at c_292
          have in2 := c_292
          refine j_iconst (v := 1) X dX11_crossArc_295 rfl ?_
          refine j_goto (tgt := 300) X dX11_crossArc_296 (by decide) ?_
          refine j_istore (L' := [(12, .int 1), (11, .int (-1)), (9, .long x_4), (7, .long x_3), (5, .long x_2), (3, .long x_1), (0, .ref (q 0)), (1, .int (nI a)), (2, .int (nI b))]) X dX11_crossArc_300 (by decide) rfl ?_
          refine j_iload X dX11_crossArc_302 0 rfl ?_
          refine j_if_eq (tgt := 323) X dX11_crossArc_304 (by decide) (fun c9 => absurd c9 (by decide)) (fun _ => ?_)
          refine j_aload_n X dX11_crossArc_307 rfl 6 rfl ?_
          refine j_iload_n X dX11_crossArc_308 rfl 8 rfl ?_
          refine j_iload X dX11_crossArc_309 1 rfl ?_
          refine j_callV X dX11_crossArc_311 (c_X11_isOfArc_n l G q t n co cr 0 x_1 x_2 y_40 y_46 y_32 y_5 y_47 y_17 y_44 y_17 z8 y_17 y_77 y_78 v_19 y_79 v_21 y_80 sf_76 hS_sf_76 f1 f2 fr to1 b bcb hfb htb gb (bd_mono by_40 (by decide)) (bd_mono by_46 (by decide)) (bd_mono by_32 (by decide)) (bd_mono by_5 (by decide)) c_173 (bd_mono bx_1 (by decide)) (bd_mono bx_2 (by decide))) gX11_crossArc_X11_isOfArc rfl hy_X11_isOfArc_V ⟨Nat.le_of_ble_eq_true rfl, Nat.le_of_ble_eq_true rfl⟩ 0 rfl rfl [0, 1, 2, 5, 6, 7, 8] rfl (by decide) rfl rfl (Nat.le_of_ble_eq_true rfl) ⟨Nat.le_of_ble_eq_true rfl, Nat.le_of_ble_eq_true rfl⟩ ?_
          rintro _ ⟨y_104, y_105, y_106, y_107, y_108, y_109, y_110, y_111, y_112, sf_103⟩ ⟨rfl, hS_sf_103⟩
          dsimp only at hS_sf_103
          change J p l e rm_X11_crossArc s m args below meth c Q G A 13 0 0 314 [(12, .int 1), (11, .int (-1)), (9, .long x_4), (7, .long x_3), (5, .long x_2), (3, .long x_1), (0, .ref (q 0)), (1, .int (nI a)), (2, .int (nI b))] [.int (bI (ofA (f1 b).toInt (f2 b).toInt (fr b).toInt (to1 b).toInt y_40 y_46 y_32 y_5 (-x_1.toInt) (-x_2.toInt)))] [(q 0, .inr (10, mF t n q co cr 0 x_1 x_2)), (q 2, aJ G 200 f1), (q 3, aJ G 200 f2), (q 4, aJ G 200 f3), (q 5, aJ G 200 f4), (q 6, aI G 200 fr), (q 7, aI G 200 to1), (q 10, aI G 320 (rg [y_40, y_46, y_32, y_5, y_104, y_105, y_106, y_107, y_108, y_17, y_109, y_110, v_19, y_111, v_21, y_112])), (q 11, aZ G 16 sf_103), (q 12, aI G 2 sig)]
          refine j_if_eq (tgt := 323) X dX11_crossArc_314 (by decide) (fun c_314 => ?_) (fun c_314 => ?_)
          · skip
            first | simp only [bI_0, Decidable.not_not, sg_mul, sg_e0, sg_l0, sg_g0, sg_le0, sg_ge0, cmp_eq, cmp_lt, cmp_ge, cmp_gt, cmp_le, lT0, lT1] at c_314 | simp only [Int32.le_iff_toInt_le, Int32.lt_iff_toInt_lt, ← Int32.toInt_inj, iT0, iT1, iT2, iT3, iT4, iT5, iT6, iT7, iT8, iT9, iT10, iT11, iT12, iT13, iT14, iT15, iT16, iT19, iT20, iT31, iT32, iT42, iT64, iT200, iT318, iT319, iT1000, iTm1, iTm2] at c_314 | skip
            rw [hU, hV, hR, hL, tx_1, tx_2] at c_314
            have hn : ¬ saP (f1 a).toInt (f2 a).toInt (f3 a).toInt (f4 a).toInt (f1 b).toInt (f2 b).toInt (f3 b).toInt (fr b).toInt (to1 b).toInt (-1) := fun h => c_314 (by have h3 := h.2.2; rw [Int.neg_one_mul, Int.neg_one_mul] at h3; exact h3)
            refine j_iinc (v := 1) (L' := [(11, .int 1), (12, .int 1), (9, .long x_4), (7, .long x_3), (5, .long x_2), (3, .long x_1), (0, .ref (q 0)), (1, .int (nI a)), (2, .int (nI b))]) X dX11_crossArc_323 1 rfl (by decide) (by decide) rfl ?_
            refine j_goto (tgt := 238) X dX11_crossArc_326 (by decide) ?_
            refine j_iload X dX11_crossArc_238 0 rfl ?_
            refine j_iconst (v := 2) X dX11_crossArc_240 rfl ?_
            refine j_icmp_ge (tgt := 329) X dX11_crossArc_241 (by decide) (fun c9 => absurd c9 (by decide)) (fun _ => ?_)
            refine j_iload X dX11_crossArc_244 0 rfl ?_
            refine j_iconst (v := 1) X dX11_crossArc_246 rfl ?_
            refine j_icmp_ne (tgt := 259) X dX11_crossArc_247 (by decide) (fun c9 => absurd c9 (by decide)) (fun _ => ?_)
            refine j_aload_n X dX11_crossArc_250 rfl 6 rfl ?_
            refine j_iconst (v := 2) X dX11_crossArc_251 rfl ?_
            refine j_callV X dX11_crossArc_252 (c_X11_sign l G q t n co cr 0 x_1 x_2 [y_40, y_46, y_32, y_5, y_104, y_105, y_106, y_107, y_108, y_17, y_109, y_110, v_19, y_111, v_21, y_112] rfl sf_103 2 2 rfl (by decide) (hS_sf_103 2 (by decide)) (bd_lt by_32 (by decide))) gX11_crossArc_X11_sign rfl hy_X11_sign_V ⟨Nat.le_of_ble_eq_true rfl, Nat.le_of_ble_eq_true rfl⟩ 0 rfl rfl [0, 7, 8] rfl (by decide) rfl rfl (Nat.le_of_ble_eq_true rfl) ⟨Nat.le_of_ble_eq_true rfl, Nat.le_of_ble_eq_true rfl⟩ ?_
            rintro _ ⟨⟩ rfl
            change J p l e rm_X11_crossArc s m args below meth c Q G A 13 0 0 255 [(11, .int 1), (12, .int 1), (9, .long x_4), (7, .long x_3), (5, .long x_2), (3, .long x_1), (0, .ref (q 0)), (1, .int (nI a)), (2, .int (nI b))] [.int (sg y_32)] [(q 0, .inr (10, mF t n q co cr 0 x_1 x_2)), (q 2, aJ G 200 f1), (q 3, aJ G 200 f2), (q 4, aJ G 200 f3), (q 5, aJ G 200 f4), (q 6, aI G 200 fr), (q 7, aI G 200 to1), (q 10, aI G 320 (rg [y_40, y_46, y_32, y_5, y_104, y_105, y_106, y_107, y_108, y_17, y_109, y_110, v_19, y_111, v_21, y_112])), (q 11, aZ G 16 sf_103), (q 12, aI G 2 sig)]
            refine j_if_ne (tgt := 259) X dX11_crossArc_255 (by decide) (fun c_255 => ?_) (fun c_255 => ?_)
            · skip
              first | simp only [bI_0, Decidable.not_not, sg_mul, sg_e0, sg_l0, sg_g0, sg_le0, sg_ge0, cmp_eq, cmp_lt, cmp_ge, cmp_gt, cmp_le, lT0, lT1] at c_255 | simp only [Int32.le_iff_toInt_le, Int32.lt_iff_toInt_lt, ← Int32.toInt_inj, iT0, iT1, iT2, iT3, iT4, iT5, iT6, iT7, iT8, iT9, iT10, iT11, iT12, iT13, iT14, iT15, iT16, iT19, iT20, iT31, iT32, iT42, iT64, iT200, iT318, iT319, iT1000, iTm1, iTm2] at c_255 | skip
              have hnz := c_255
              refine j_aload_n X dX11_crossArc_259 rfl 6 rfl ?_
              refine j_iconst (v := 4) X dX11_crossArc_260 rfl ?_
              refine j_iconst (v := 3) X dX11_crossArc_261 rfl ?_
              refine j_bipush (v := 9) X dX11_crossArc_262 (by decide) ?_
              refine j_iconst (v := 1) X dX11_crossArc_264 rfl ?_
              obtain ⟨y_113, ey_113⟩ : ∃ zz9 : Int, zz9 = y_5 - y_17 := ⟨_, rfl⟩
              have by_113 : bd 84 y_113 := by rw [ey_113]; exact bd_sub (bd_mono by_5 (by decide)) (bd_mono by_17 (by decide))
              refine j_callV X dX11_crossArc_265 (n_join l G q t n co cr 0 x_1 x_2 [y_40, y_46, y_32, y_5, y_104, y_105, y_106, y_107, y_108, y_17, y_109, y_110, v_19, y_111, v_21, y_112] sf_103 rfl hS_sf_103 4 4 rfl (by decide) 3 3 rfl (by decide) 9 9 rfl (by decide) 1 (Or.inr rfl) (by decide) (by decide) y_113 ey_113 by_5 by_17 (by decide) (by decide)) gX11_crossArc_X11_join rfl hy_X11_join_V ⟨Nat.le_of_ble_eq_true rfl, Nat.le_of_ble_eq_true rfl⟩ 0 rfl rfl [0, 7, 8] rfl (by decide) rfl rfl (Nat.le_of_ble_eq_true rfl) ⟨Nat.le_of_ble_eq_true rfl, Nat.le_of_ble_eq_true rfl⟩ ?_
              rintro _ sf_114 ⟨rfl, hS_sf_114⟩
              change J p l e rm_X11_crossArc s m args below meth c Q G A 13 0 0 268 [(11, .int 1), (12, .int 1), (9, .long x_4), (7, .long x_3), (5, .long x_2), (3, .long x_1), (0, .ref (q 0)), (1, .int (nI a)), (2, .int (nI b))] [] [(q 0, .inr (10, mF t n q co cr 0 x_1 x_2)), (q 2, aJ G 200 f1), (q 3, aJ G 200 f2), (q 4, aJ G 200 f3), (q 5, aJ G 200 f4), (q 6, aI G 200 fr), (q 7, aI G 200 to1), (q 10, aI G 320 (rg [y_40, y_46, y_32, y_5, y_113, y_105, y_106, y_107, y_108, y_17, y_109, y_110, v_19, y_111, v_21, y_112])), (q 11, aZ G 16 sf_114), (q 12, aI G 2 sig)]
              refine j_aload_n X dX11_crossArc_268 rfl 6 rfl ?_
              refine j_bipush (v := 9) X dX11_crossArc_269 (by decide) ?_
              refine j_iload X dX11_crossArc_271 0 rfl ?_
              refine j_i2l X dX11_crossArc_273 rfl ?_
              refine j_iconst (v := 2) X dX11_crossArc_274 rfl ?_
              refine j_callV X dX11_crossArc_275 (c_X11_signOf_9_2 l G q t n co cr 0 x_1 x_2 y_40 y_46 y_32 y_5 y_113 y_105 y_106 y_107 y_108 y_17 y_109 y_110 v_19 y_111 v_21 y_112 sf_114 hS_sf_114 ((1 : Int32).toInt64) c_173 (bd_mono by_17 (by decide)) (bd_mono bd_p1 (by decide)) (bd_mono by_32 (by decide))) gX11_crossArc_X11_signOf rfl hy_X11_signOf_V ⟨Nat.le_of_ble_eq_true rfl, Nat.le_of_ble_eq_true rfl⟩ 0 rfl rfl [0, 7, 8] rfl (by decide) rfl rfl (Nat.le_of_ble_eq_true rfl) ⟨Nat.le_of_ble_eq_true rfl, Nat.le_of_ble_eq_true rfl⟩ ?_
              rintro _ ⟨y_116, y_117, y_118, y_119, sf_115⟩ ⟨rfl, hS_sf_115⟩
              dsimp only at hS_sf_115
              change J p l e rm_X11_crossArc s m args below meth c Q G A 13 0 0 278 [(11, .int 1), (12, .int 1), (9, .long x_4), (7, .long x_3), (5, .long x_2), (3, .long x_1), (0, .ref (q 0)), (1, .int (nI a)), (2, .int (nI b))] [.int (rn y_17 ((1 : Int32).toInt64).toInt y_32)] [(q 0, .inr (10, mF t n q co cr 0 x_1 x_2)), (q 2, aJ G 200 f1), (q 3, aJ G 200 f2), (q 4, aJ G 200 f3), (q 5, aJ G 200 f4), (q 6, aI G 200 fr), (q 7, aI G 200 to1), (q 10, aI G 320 (rg [y_40, y_46, y_32, y_5, y_113, y_105, y_106, y_107, y_108, y_17, y_116, y_117, v_19, y_118, v_21, y_119])), (q 11, aZ G 16 sf_115), (q 12, aI G 2 sig)]
              refine j_if_lt (tgt := 299) X dX11_crossArc_278 (by decide) (fun c_278 => ?_) (fun c_278 => ?_)
              · skip
                rw [i64_p] at c_278
                have hp : ¬ saP (f1 a).toInt (f2 a).toInt (f3 a).toInt (f4 a).toInt (f1 b).toInt (f2 b).toInt (f3 b).toInt (fr b).toInt (to1 b).toInt (1) := fun h => h.1 (by rw [← hD, ← hR]; exact c_278)
                refine j_iconst (v := 0) X dX11_crossArc_299 rfl ?_
                refine j_istore (L' := [(12, .int 0), (11, .int 1), (9, .long x_4), (7, .long x_3), (5, .long x_2), (3, .long x_1), (0, .ref (q 0)), (1, .int (nI a)), (2, .int (nI b))]) X dX11_crossArc_300 (by decide) rfl ?_
                refine j_iload X dX11_crossArc_302 0 rfl ?_
                refine j_if_eq (tgt := 323) X dX11_crossArc_304 (by decide) (fun _ => ?_) (fun c9 => absurd c9 (by decide))
                refine j_iinc (v := 3) (L' := [(11, .int 3), (12, .int 0), (9, .long x_4), (7, .long x_3), (5, .long x_2), (3, .long x_1), (0, .ref (q 0)), (1, .int (nI a)), (2, .int (nI b))]) X dX11_crossArc_323 1 rfl (by decide) (by decide) rfl ?_
                refine j_goto (tgt := 238) X dX11_crossArc_326 (by decide) ?_
                refine j_iload X dX11_crossArc_238 0 rfl ?_
                refine j_iconst (v := 2) X dX11_crossArc_240 rfl ?_
                refine j_icmp_ge (tgt := 329) X dX11_crossArc_241 (by decide) (fun _ => ?_) (fun c9 => absurd c9 (by decide))
                exact E.1 329 _ (0, sig, x_1, x_2, [y_40, y_46, y_32, y_5, y_113, y_105, y_106, y_107, y_108, y_17, y_116, y_117, v_19, y_118, v_21, y_119], sf_115) dX11_crossArc_329 (⟨rfl, by unfold xG xsa saS; rw [cps_00 (fun h => hn h.2) (fun h => hp h.2)]; exact ⟨rfl, sgL_0 _, fun h => absurd rfl h⟩, rfl, hS_sf_115⟩) hr
              · skip
                rw [i64_p] at c_278
                have ip1 := c_278
                refine j_aload_n X dX11_crossArc_281 rfl 6 rfl ?_
                refine j_iconst (v := 4) X dX11_crossArc_282 rfl ?_
                refine j_lconst (v := 0) X dX11_crossArc_283 rfl ?_
                refine j_iload X dX11_crossArc_284 0 rfl ?_
                refine j_i2l X dX11_crossArc_286 rfl ?_
                refine j_lsub X dX11_crossArc_287 ?_
                refine j_iconst (v := 2) X dX11_crossArc_288 rfl ?_
                refine j_callV X dX11_crossArc_289 (c_X11_signOf_4_2 l G q t n co cr 0 x_1 x_2 y_40 y_46 y_32 y_5 y_113 y_105 y_106 y_107 y_108 y_17 y_116 y_117 v_19 y_118 v_21 y_119 sf_115 hS_sf_115 (0 - ((1 : Int32).toInt64)) c_173 (bd_mono by_113 (by decide)) (bd_mono bd_0p (by decide)) (bd_mono by_32 (by decide))) gX11_crossArc_X11_signOf rfl hy_X11_signOf_V ⟨Nat.le_of_ble_eq_true rfl, Nat.le_of_ble_eq_true rfl⟩ 0 rfl rfl [0, 7, 8] rfl (by decide) rfl rfl (Nat.le_of_ble_eq_true rfl) ⟨Nat.le_of_ble_eq_true rfl, Nat.le_of_ble_eq_true rfl⟩ ?_
                rintro _ ⟨y_121, y_122, y_123, y_124, sf_120⟩ ⟨rfl, hS_sf_120⟩
                dsimp only at hS_sf_120
                change J p l e rm_X11_crossArc s m args below meth c Q G A 13 0 0 292 [(11, .int 1), (12, .int 1), (9, .long x_4), (7, .long x_3), (5, .long x_2), (3, .long x_1), (0, .ref (q 0)), (1, .int (nI a)), (2, .int (nI b))] [.int (rn y_113 (0 - ((1 : Int32).toInt64)).toInt y_32)] [(q 0, .inr (10, mF t n q co cr 0 x_1 x_2)), (q 2, aJ G 200 f1), (q 3, aJ G 200 f2), (q 4, aJ G 200 f3), (q 5, aJ G 200 f4), (q 6, aI G 200 fr), (q 7, aI G 200 to1), (q 10, aI G 320 (rg [y_40, y_46, y_32, y_5, y_113, y_105, y_106, y_107, y_108, y_17, y_121, y_122, v_19, y_123, v_21, y_124])), (q 11, aZ G 16 sf_120), (q 12, aI G 2 sig)]
                refine j_if_lt (tgt := 299) X dX11_crossArc_292 (by decide) (fun c_292 => ?_) (fun c_292 => ?_)
                · skip
                  rw [ey_113, i64_0p] at c_292
                  have hp : ¬ saP (f1 a).toInt (f2 a).toInt (f3 a).toInt (f4 a).toInt (f1 b).toInt (f2 b).toInt (f3 b).toInt (fr b).toInt (to1 b).toInt (1) := fun h => h.2.1 (by rw [← hD, ← hR, ← hL]; exact c_292)
                  refine j_iconst (v := 0) X dX11_crossArc_299 rfl ?_
                  refine j_istore (L' := [(12, .int 0), (11, .int 1), (9, .long x_4), (7, .long x_3), (5, .long x_2), (3, .long x_1), (0, .ref (q 0)), (1, .int (nI a)), (2, .int (nI b))]) X dX11_crossArc_300 (by decide) rfl ?_
                  refine j_iload X dX11_crossArc_302 0 rfl ?_
                  refine j_if_eq (tgt := 323) X dX11_crossArc_304 (by decide) (fun _ => ?_) (fun c9 => absurd c9 (by decide))
                  refine j_iinc (v := 3) (L' := [(11, .int 3), (12, .int 0), (9, .long x_4), (7, .long x_3), (5, .long x_2), (3, .long x_1), (0, .ref (q 0)), (1, .int (nI a)), (2, .int (nI b))]) X dX11_crossArc_323 1 rfl (by decide) (by decide) rfl ?_
                  refine j_goto (tgt := 238) X dX11_crossArc_326 (by decide) ?_
                  refine j_iload X dX11_crossArc_238 0 rfl ?_
                  refine j_iconst (v := 2) X dX11_crossArc_240 rfl ?_
                  refine j_icmp_ge (tgt := 329) X dX11_crossArc_241 (by decide) (fun _ => ?_) (fun c9 => absurd c9 (by decide))
                  exact E.1 329 _ (0, sig, x_1, x_2, [y_40, y_46, y_32, y_5, y_113, y_105, y_106, y_107, y_108, y_17, y_121, y_122, v_19, y_123, v_21, y_124], sf_120) dX11_crossArc_329 (⟨rfl, by unfold xG xsa saS; rw [cps_00 (fun h => hn h.2) (fun h => hp h.2)]; exact ⟨rfl, sgL_0 _, fun h => absurd rfl h⟩, rfl, hS_sf_120⟩) hr
                · skip
                  rw [ey_113, i64_0p] at c_292
                  have ip2 := c_292
                  refine j_iconst (v := 1) X dX11_crossArc_295 rfl ?_
                  refine j_goto (tgt := 300) X dX11_crossArc_296 (by decide) ?_
                  refine j_istore (L' := [(12, .int 1), (11, .int 1), (9, .long x_4), (7, .long x_3), (5, .long x_2), (3, .long x_1), (0, .ref (q 0)), (1, .int (nI a)), (2, .int (nI b))]) X dX11_crossArc_300 (by decide) rfl ?_
                  refine j_iload X dX11_crossArc_302 0 rfl ?_
                  refine j_if_eq (tgt := 323) X dX11_crossArc_304 (by decide) (fun c9 => absurd c9 (by decide)) (fun _ => ?_)
                  refine j_aload_n X dX11_crossArc_307 rfl 6 rfl ?_
                  refine j_iload_n X dX11_crossArc_308 rfl 8 rfl ?_
                  refine j_iload X dX11_crossArc_309 1 rfl ?_
                  refine j_callV X dX11_crossArc_311 (c_X11_isOfArc_p l G q t n co cr 0 x_1 x_2 y_40 y_46 y_32 y_5 y_113 y_105 y_106 y_107 y_108 y_17 y_121 y_122 v_19 y_123 v_21 y_124 sf_120 hS_sf_120 f1 f2 fr to1 b bcb hfb htb gb (bd_mono by_40 (by decide)) (bd_mono by_46 (by decide)) (bd_mono by_32 (by decide)) (bd_mono by_5 (by decide)) c_173 (bd_mono bx_1 (by decide)) (bd_mono bx_2 (by decide))) gX11_crossArc_X11_isOfArc rfl hy_X11_isOfArc_V ⟨Nat.le_of_ble_eq_true rfl, Nat.le_of_ble_eq_true rfl⟩ 0 rfl rfl [0, 1, 2, 5, 6, 7, 8] rfl (by decide) rfl rfl (Nat.le_of_ble_eq_true rfl) ⟨Nat.le_of_ble_eq_true rfl, Nat.le_of_ble_eq_true rfl⟩ ?_
                  rintro _ ⟨y_126, y_127, y_128, y_129, y_130, y_131, y_132, y_133, y_134, sf_125⟩ ⟨rfl, hS_sf_125⟩
                  dsimp only at hS_sf_125
                  change J p l e rm_X11_crossArc s m args below meth c Q G A 13 0 0 314 [(12, .int 1), (11, .int 1), (9, .long x_4), (7, .long x_3), (5, .long x_2), (3, .long x_1), (0, .ref (q 0)), (1, .int (nI a)), (2, .int (nI b))] [.int (bI (ofA (f1 b).toInt (f2 b).toInt (fr b).toInt (to1 b).toInt y_40 y_46 y_32 y_5 x_1.toInt x_2.toInt))] [(q 0, .inr (10, mF t n q co cr 0 x_1 x_2)), (q 2, aJ G 200 f1), (q 3, aJ G 200 f2), (q 4, aJ G 200 f3), (q 5, aJ G 200 f4), (q 6, aI G 200 fr), (q 7, aI G 200 to1), (q 10, aI G 320 (rg [y_40, y_46, y_32, y_5, y_126, y_127, y_128, y_129, y_130, y_17, y_131, y_132, v_19, y_133, v_21, y_134])), (q 11, aZ G 16 sf_125), (q 12, aI G 2 sig)]
                  refine j_if_eq (tgt := 323) X dX11_crossArc_314 (by decide) (fun c_314 => ?_) (fun c_314 => ?_)
                  · skip
                    first | simp only [bI_0, Decidable.not_not, sg_mul, sg_e0, sg_l0, sg_g0, sg_le0, sg_ge0, cmp_eq, cmp_lt, cmp_ge, cmp_gt, cmp_le, lT0, lT1] at c_314 | simp only [Int32.le_iff_toInt_le, Int32.lt_iff_toInt_lt, ← Int32.toInt_inj, iT0, iT1, iT2, iT3, iT4, iT5, iT6, iT7, iT8, iT9, iT10, iT11, iT12, iT13, iT14, iT15, iT16, iT19, iT20, iT31, iT32, iT42, iT64, iT200, iT318, iT319, iT1000, iTm1, iTm2] at c_314 | skip
                    rw [hU, hV, hR, hL, tx_1, tx_2] at c_314
                    have hp : ¬ saP (f1 a).toInt (f2 a).toInt (f3 a).toInt (f4 a).toInt (f1 b).toInt (f2 b).toInt (f3 b).toInt (fr b).toInt (to1 b).toInt (1) := fun h => c_314 (by have h3 := h.2.2; rw [Int.one_mul, Int.one_mul] at h3; exact h3)
                    refine j_iinc (v := 3) (L' := [(11, .int 3), (12, .int 1), (9, .long x_4), (7, .long x_3), (5, .long x_2), (3, .long x_1), (0, .ref (q 0)), (1, .int (nI a)), (2, .int (nI b))]) X dX11_crossArc_323 1 rfl (by decide) (by decide) rfl ?_
                    refine j_goto (tgt := 238) X dX11_crossArc_326 (by decide) ?_
                    refine j_iload X dX11_crossArc_238 0 rfl ?_
                    refine j_iconst (v := 2) X dX11_crossArc_240 rfl ?_
                    refine j_icmp_ge (tgt := 329) X dX11_crossArc_241 (by decide) (fun _ => ?_) (fun c9 => absurd c9 (by decide))
                    exact E.1 329 _ (0, sig, x_1, x_2, [y_40, y_46, y_32, y_5, y_126, y_127, y_128, y_129, y_130, y_17, y_131, y_132, v_19, y_133, v_21, y_134], sf_125) dX11_crossArc_329 (⟨rfl, by unfold xG xsa saS; rw [cps_00 (fun h => hn h.2) (fun h => hp h.2)]; exact ⟨rfl, sgL_0 _, fun h => absurd rfl h⟩, rfl, hS_sf_125⟩) hr
                  · skip
                    first | simp only [bI_0, Decidable.not_not, sg_mul, sg_e0, sg_l0, sg_g0, sg_le0, sg_ge0, cmp_eq, cmp_lt, cmp_ge, cmp_gt, cmp_le, lT0, lT1] at c_314 | simp only [Int32.le_iff_toInt_le, Int32.lt_iff_toInt_lt, ← Int32.toInt_inj, iT0, iT1, iT2, iT3, iT4, iT5, iT6, iT7, iT8, iT9, iT10, iT11, iT12, iT13, iT14, iT15, iT16, iT19, iT20, iT31, iT32, iT42, iT64, iT200, iT318, iT319, iT1000, iTm1, iTm2] at c_314 | skip
                    rw [hU, hV, hR, hL, tx_1, tx_2] at c_314
                    have hp : saP (f1 a).toInt (f2 a).toInt (f3 a).toInt (f4 a).toInt (f1 b).toInt (f2 b).toInt (f3 b).toInt (fr b).toInt (to1 b).toInt (1) := ⟨by rw [← hD, ← hR]; exact ip1, by rw [← hD, ← hR, ← hL]; exact ip2, by rw [Int.one_mul, Int.one_mul]; exact c_314⟩
                    refine j_aload_n X dX11_crossArc_317 rfl 6 rfl ?_
                    refine j_iload X dX11_crossArc_318 1 rfl ?_
                    refine j_callV X dX11_crossArc_320 (c_X11_pointWith_0 l G q t n co cr x_1 x_2 sig 1) gX11_crossArc_X11_pointWith rfl hy_X11_pointWith_V ⟨Nat.le_of_ble_eq_true rfl, Nat.le_of_ble_eq_true rfl⟩ 0 rfl rfl [0, 9] rfl (by decide) rfl rfl (Nat.le_of_ble_eq_true rfl) ⟨Nat.le_of_ble_eq_true rfl, Nat.le_of_ble_eq_true rfl⟩ ?_
                    rintro _ ⟨⟩ rfl
                    change J p l e rm_X11_crossArc s m args below meth c Q G A 13 0 0 323 [(12, .int 1), (11, .int 1), (9, .long x_4), (7, .long x_3), (5, .long x_2), (3, .long x_1), (0, .ref (q 0)), (1, .int (nI a)), (2, .int (nI b))] [] [(q 0, .inr (10, mF t n q co cr 1 x_1 x_2)), (q 2, aJ G 200 f1), (q 3, aJ G 200 f2), (q 4, aJ G 200 f3), (q 5, aJ G 200 f4), (q 6, aI G 200 fr), (q 7, aI G 200 to1), (q 10, aI G 320 (rg [y_40, y_46, y_32, y_5, y_126, y_127, y_128, y_129, y_130, y_17, y_131, y_132, v_19, y_133, v_21, y_134])), (q 11, aZ G 16 sf_125), (q 12, aI G 2 (upd sig 0 1))]
                    refine j_iinc (v := 3) (L' := [(11, .int 3), (12, .int 1), (9, .long x_4), (7, .long x_3), (5, .long x_2), (3, .long x_1), (0, .ref (q 0)), (1, .int (nI a)), (2, .int (nI b))]) X dX11_crossArc_323 1 rfl (by decide) (by decide) rfl ?_
                    refine j_goto (tgt := 238) X dX11_crossArc_326 (by decide) ?_
                    refine j_iload X dX11_crossArc_238 0 rfl ?_
                    refine j_iconst (v := 2) X dX11_crossArc_240 rfl ?_
                    refine j_icmp_ge (tgt := 329) X dX11_crossArc_241 (by decide) (fun _ => ?_) (fun c9 => absurd c9 (by decide))
                    exact E.1 329 _ (1, upd sig 0 1, x_1, x_2, [y_40, y_46, y_32, y_5, y_126, y_127, y_128, y_129, y_130, y_17, y_131, y_132, v_19, y_133, v_21, y_134], sf_125) dX11_crossArc_329 (⟨rfl, by unfold xG xsa saS; rw [cps_01 (fun h => hn h.2) ⟨by rw [← hR]; omega, hp⟩]; exact ⟨rfl, sgL_1 _ _, fun _ => ⟨⟨hU, hV, hR, hL⟩, tx_1, tx_2⟩⟩, rfl, hS_sf_125⟩) hr
            · skip
              first | simp only [bI_0, Decidable.not_not, sg_mul, sg_e0, sg_l0, sg_g0, sg_le0, sg_ge0, cmp_eq, cmp_lt, cmp_ge, cmp_gt, cmp_le, lT0, lT1] at c_255 | simp only [Int32.le_iff_toInt_le, Int32.lt_iff_toInt_lt, ← Int32.toInt_inj, iT0, iT1, iT2, iT3, iT4, iT5, iT6, iT7, iT8, iT9, iT10, iT11, iT12, iT13, iT14, iT15, iT16, iT19, iT20, iT31, iT32, iT42, iT64, iT200, iT318, iT319, iT1000, iTm1, iTm2] at c_255 | skip
              have hz := c_255
              exact E.1 258 _ (0, sig, x_1, x_2, [y_40, y_46, y_32, y_5, y_104, y_105, y_106, y_107, y_108, y_17, y_109, y_110, v_19, y_111, v_21, y_112], sf_103) dX11_crossArc_258 (⟨rfl, by unfold xG xsa saS; rw [cps_00 (fun h => hn h.2) (fun h => absurd h.1 (by rw [← hR, hz]; decide))]; exact ⟨rfl, sgL_0 _, fun h => absurd rfl h⟩, rfl, hS_sf_103⟩) hr
          · skip
            first | simp only [bI_0, Decidable.not_not, sg_mul, sg_e0, sg_l0, sg_g0, sg_le0, sg_ge0, cmp_eq, cmp_lt, cmp_ge, cmp_gt, cmp_le, lT0, lT1] at c_314 | simp only [Int32.le_iff_toInt_le, Int32.lt_iff_toInt_lt, ← Int32.toInt_inj, iT0, iT1, iT2, iT3, iT4, iT5, iT6, iT7, iT8, iT9, iT10, iT11, iT12, iT13, iT14, iT15, iT16, iT19, iT20, iT31, iT32, iT42, iT64, iT200, iT318, iT319, iT1000, iTm1, iTm2] at c_314 | skip
            rw [hU, hV, hR, hL, tx_1, tx_2] at c_314
            have hn : saP (f1 a).toInt (f2 a).toInt (f3 a).toInt (f4 a).toInt (f1 b).toInt (f2 b).toInt (f3 b).toInt (fr b).toInt (to1 b).toInt (-1) := ⟨by rw [← hD, ← hR]; exact in1, by rw [← hD, ← hR, ← hL]; exact in2, by rw [Int.neg_one_mul, Int.neg_one_mul]; exact c_314⟩
            refine j_aload_n X dX11_crossArc_317 rfl 6 rfl ?_
            refine j_iload X dX11_crossArc_318 1 rfl ?_
            refine j_callV X dX11_crossArc_320 (c_X11_pointWith_0 l G q t n co cr x_1 x_2 sig (-1)) gX11_crossArc_X11_pointWith rfl hy_X11_pointWith_V ⟨Nat.le_of_ble_eq_true rfl, Nat.le_of_ble_eq_true rfl⟩ 0 rfl rfl [0, 9] rfl (by decide) rfl rfl (Nat.le_of_ble_eq_true rfl) ⟨Nat.le_of_ble_eq_true rfl, Nat.le_of_ble_eq_true rfl⟩ ?_
            rintro _ ⟨⟩ rfl
            change J p l e rm_X11_crossArc s m args below meth c Q G A 13 0 0 323 [(12, .int 1), (11, .int (-1)), (9, .long x_4), (7, .long x_3), (5, .long x_2), (3, .long x_1), (0, .ref (q 0)), (1, .int (nI a)), (2, .int (nI b))] [] [(q 0, .inr (10, mF t n q co cr 1 x_1 x_2)), (q 2, aJ G 200 f1), (q 3, aJ G 200 f2), (q 4, aJ G 200 f3), (q 5, aJ G 200 f4), (q 6, aI G 200 fr), (q 7, aI G 200 to1), (q 10, aI G 320 (rg [y_40, y_46, y_32, y_5, y_104, y_105, y_106, y_107, y_108, y_17, y_109, y_110, v_19, y_111, v_21, y_112])), (q 11, aZ G 16 sf_103), (q 12, aI G 2 (upd sig 0 (-1)))]
            refine j_iinc (v := 1) (L' := [(11, .int 1), (12, .int 1), (9, .long x_4), (7, .long x_3), (5, .long x_2), (3, .long x_1), (0, .ref (q 0)), (1, .int (nI a)), (2, .int (nI b))]) X dX11_crossArc_323 1 rfl (by decide) (by decide) rfl ?_
            refine j_goto (tgt := 238) X dX11_crossArc_326 (by decide) ?_
            refine j_iload X dX11_crossArc_238 0 rfl ?_
            refine j_iconst (v := 2) X dX11_crossArc_240 rfl ?_
            refine j_icmp_ge (tgt := 329) X dX11_crossArc_241 (by decide) (fun c9 => absurd c9 (by decide)) (fun _ => ?_)
            refine j_iload X dX11_crossArc_244 0 rfl ?_
            refine j_iconst (v := 1) X dX11_crossArc_246 rfl ?_
            refine j_icmp_ne (tgt := 259) X dX11_crossArc_247 (by decide) (fun c9 => absurd c9 (by decide)) (fun _ => ?_)
            refine j_aload_n X dX11_crossArc_250 rfl 6 rfl ?_
            refine j_iconst (v := 2) X dX11_crossArc_251 rfl ?_
            refine j_callV X dX11_crossArc_252 (c_X11_sign l G q t n co cr 1 x_1 x_2 [y_40, y_46, y_32, y_5, y_104, y_105, y_106, y_107, y_108, y_17, y_109, y_110, v_19, y_111, v_21, y_112] rfl sf_103 2 2 rfl (by decide) (hS_sf_103 2 (by decide)) (bd_lt by_32 (by decide))) gX11_crossArc_X11_sign rfl hy_X11_sign_V ⟨Nat.le_of_ble_eq_true rfl, Nat.le_of_ble_eq_true rfl⟩ 0 rfl rfl [0, 7, 8] rfl (by decide) rfl rfl (Nat.le_of_ble_eq_true rfl) ⟨Nat.le_of_ble_eq_true rfl, Nat.le_of_ble_eq_true rfl⟩ ?_
            rintro _ ⟨⟩ rfl
            change J p l e rm_X11_crossArc s m args below meth c Q G A 13 0 0 255 [(11, .int 1), (12, .int 1), (9, .long x_4), (7, .long x_3), (5, .long x_2), (3, .long x_1), (0, .ref (q 0)), (1, .int (nI a)), (2, .int (nI b))] [.int (sg y_32)] [(q 0, .inr (10, mF t n q co cr 1 x_1 x_2)), (q 2, aJ G 200 f1), (q 3, aJ G 200 f2), (q 4, aJ G 200 f3), (q 5, aJ G 200 f4), (q 6, aI G 200 fr), (q 7, aI G 200 to1), (q 10, aI G 320 (rg [y_40, y_46, y_32, y_5, y_104, y_105, y_106, y_107, y_108, y_17, y_109, y_110, v_19, y_111, v_21, y_112])), (q 11, aZ G 16 sf_103), (q 12, aI G 2 (upd sig 0 (-1)))]
            refine j_if_ne (tgt := 259) X dX11_crossArc_255 (by decide) (fun c_255 => ?_) (fun c_255 => ?_)
            · skip
              first | simp only [bI_0, Decidable.not_not, sg_mul, sg_e0, sg_l0, sg_g0, sg_le0, sg_ge0, cmp_eq, cmp_lt, cmp_ge, cmp_gt, cmp_le, lT0, lT1] at c_255 | simp only [Int32.le_iff_toInt_le, Int32.lt_iff_toInt_lt, ← Int32.toInt_inj, iT0, iT1, iT2, iT3, iT4, iT5, iT6, iT7, iT8, iT9, iT10, iT11, iT12, iT13, iT14, iT15, iT16, iT19, iT20, iT31, iT32, iT42, iT64, iT200, iT318, iT319, iT1000, iTm1, iTm2] at c_255 | skip
              have hnz := c_255
              refine j_aload_n X dX11_crossArc_259 rfl 6 rfl ?_
              refine j_iconst (v := 4) X dX11_crossArc_260 rfl ?_
              refine j_iconst (v := 3) X dX11_crossArc_261 rfl ?_
              refine j_bipush (v := 9) X dX11_crossArc_262 (by decide) ?_
              refine j_iconst (v := 1) X dX11_crossArc_264 rfl ?_
              obtain ⟨y_135, ey_135⟩ : ∃ zz9 : Int, zz9 = y_5 - y_17 := ⟨_, rfl⟩
              have by_135 : bd 84 y_135 := by rw [ey_135]; exact bd_sub (bd_mono by_5 (by decide)) (bd_mono by_17 (by decide))
              refine j_callV X dX11_crossArc_265 (n_join l G q t n co cr 1 x_1 x_2 [y_40, y_46, y_32, y_5, y_104, y_105, y_106, y_107, y_108, y_17, y_109, y_110, v_19, y_111, v_21, y_112] sf_103 rfl hS_sf_103 4 4 rfl (by decide) 3 3 rfl (by decide) 9 9 rfl (by decide) 1 (Or.inr rfl) (by decide) (by decide) y_135 ey_135 by_5 by_17 (by decide) (by decide)) gX11_crossArc_X11_join rfl hy_X11_join_V ⟨Nat.le_of_ble_eq_true rfl, Nat.le_of_ble_eq_true rfl⟩ 0 rfl rfl [0, 7, 8] rfl (by decide) rfl rfl (Nat.le_of_ble_eq_true rfl) ⟨Nat.le_of_ble_eq_true rfl, Nat.le_of_ble_eq_true rfl⟩ ?_
              rintro _ sf_136 ⟨rfl, hS_sf_136⟩
              change J p l e rm_X11_crossArc s m args below meth c Q G A 13 0 0 268 [(11, .int 1), (12, .int 1), (9, .long x_4), (7, .long x_3), (5, .long x_2), (3, .long x_1), (0, .ref (q 0)), (1, .int (nI a)), (2, .int (nI b))] [] [(q 0, .inr (10, mF t n q co cr 1 x_1 x_2)), (q 2, aJ G 200 f1), (q 3, aJ G 200 f2), (q 4, aJ G 200 f3), (q 5, aJ G 200 f4), (q 6, aI G 200 fr), (q 7, aI G 200 to1), (q 10, aI G 320 (rg [y_40, y_46, y_32, y_5, y_135, y_105, y_106, y_107, y_108, y_17, y_109, y_110, v_19, y_111, v_21, y_112])), (q 11, aZ G 16 sf_136), (q 12, aI G 2 (upd sig 0 (-1)))]
              refine j_aload_n X dX11_crossArc_268 rfl 6 rfl ?_
              refine j_bipush (v := 9) X dX11_crossArc_269 (by decide) ?_
              refine j_iload X dX11_crossArc_271 0 rfl ?_
              refine j_i2l X dX11_crossArc_273 rfl ?_
              refine j_iconst (v := 2) X dX11_crossArc_274 rfl ?_
              refine j_callV X dX11_crossArc_275 (c_X11_signOf_9_2 l G q t n co cr 1 x_1 x_2 y_40 y_46 y_32 y_5 y_135 y_105 y_106 y_107 y_108 y_17 y_109 y_110 v_19 y_111 v_21 y_112 sf_136 hS_sf_136 ((1 : Int32).toInt64) c_173 (bd_mono by_17 (by decide)) (bd_mono bd_p1 (by decide)) (bd_mono by_32 (by decide))) gX11_crossArc_X11_signOf rfl hy_X11_signOf_V ⟨Nat.le_of_ble_eq_true rfl, Nat.le_of_ble_eq_true rfl⟩ 0 rfl rfl [0, 7, 8] rfl (by decide) rfl rfl (Nat.le_of_ble_eq_true rfl) ⟨Nat.le_of_ble_eq_true rfl, Nat.le_of_ble_eq_true rfl⟩ ?_
              rintro _ ⟨y_138, y_139, y_140, y_141, sf_137⟩ ⟨rfl, hS_sf_137⟩
              dsimp only at hS_sf_137
              change J p l e rm_X11_crossArc s m args below meth c Q G A 13 0 0 278 [(11, .int 1), (12, .int 1), (9, .long x_4), (7, .long x_3), (5, .long x_2), (3, .long x_1), (0, .ref (q 0)), (1, .int (nI a)), (2, .int (nI b))] [.int (rn y_17 ((1 : Int32).toInt64).toInt y_32)] [(q 0, .inr (10, mF t n q co cr 1 x_1 x_2)), (q 2, aJ G 200 f1), (q 3, aJ G 200 f2), (q 4, aJ G 200 f3), (q 5, aJ G 200 f4), (q 6, aI G 200 fr), (q 7, aI G 200 to1), (q 10, aI G 320 (rg [y_40, y_46, y_32, y_5, y_135, y_105, y_106, y_107, y_108, y_17, y_138, y_139, v_19, y_140, v_21, y_141])), (q 11, aZ G 16 sf_137), (q 12, aI G 2 (upd sig 0 (-1)))]
              refine j_if_lt (tgt := 299) X dX11_crossArc_278 (by decide) (fun c_278 => ?_) (fun c_278 => ?_)
              · skip
                rw [i64_p] at c_278
                have hp : ¬ saP (f1 a).toInt (f2 a).toInt (f3 a).toInt (f4 a).toInt (f1 b).toInt (f2 b).toInt (f3 b).toInt (fr b).toInt (to1 b).toInt (1) := fun h => h.1 (by rw [← hD, ← hR]; exact c_278)
                refine j_iconst (v := 0) X dX11_crossArc_299 rfl ?_
                refine j_istore (L' := [(12, .int 0), (11, .int 1), (9, .long x_4), (7, .long x_3), (5, .long x_2), (3, .long x_1), (0, .ref (q 0)), (1, .int (nI a)), (2, .int (nI b))]) X dX11_crossArc_300 (by decide) rfl ?_
                refine j_iload X dX11_crossArc_302 0 rfl ?_
                refine j_if_eq (tgt := 323) X dX11_crossArc_304 (by decide) (fun _ => ?_) (fun c9 => absurd c9 (by decide))
                refine j_iinc (v := 3) (L' := [(11, .int 3), (12, .int 0), (9, .long x_4), (7, .long x_3), (5, .long x_2), (3, .long x_1), (0, .ref (q 0)), (1, .int (nI a)), (2, .int (nI b))]) X dX11_crossArc_323 1 rfl (by decide) (by decide) rfl ?_
                refine j_goto (tgt := 238) X dX11_crossArc_326 (by decide) ?_
                refine j_iload X dX11_crossArc_238 0 rfl ?_
                refine j_iconst (v := 2) X dX11_crossArc_240 rfl ?_
                refine j_icmp_ge (tgt := 329) X dX11_crossArc_241 (by decide) (fun _ => ?_) (fun c9 => absurd c9 (by decide))
                exact E.1 329 _ (1, upd sig 0 (-1), x_1, x_2, [y_40, y_46, y_32, y_5, y_135, y_105, y_106, y_107, y_108, y_17, y_138, y_139, v_19, y_140, v_21, y_141], sf_137) dX11_crossArc_329 (⟨rfl, by unfold xG xsa saS; rw [cps_10 ⟨by rw [← hR]; exact c_173, hn⟩ (fun h => hp h.2)]; exact ⟨rfl, sgL_1 _ _, fun _ => ⟨⟨hU, hV, hR, hL⟩, tx_1, tx_2⟩⟩, rfl, hS_sf_137⟩) hr
              · skip
                rw [i64_p] at c_278
                have ip1 := c_278
                refine j_aload_n X dX11_crossArc_281 rfl 6 rfl ?_
                refine j_iconst (v := 4) X dX11_crossArc_282 rfl ?_
                refine j_lconst (v := 0) X dX11_crossArc_283 rfl ?_
                refine j_iload X dX11_crossArc_284 0 rfl ?_
                refine j_i2l X dX11_crossArc_286 rfl ?_
                refine j_lsub X dX11_crossArc_287 ?_
                refine j_iconst (v := 2) X dX11_crossArc_288 rfl ?_
                refine j_callV X dX11_crossArc_289 (c_X11_signOf_4_2 l G q t n co cr 1 x_1 x_2 y_40 y_46 y_32 y_5 y_135 y_105 y_106 y_107 y_108 y_17 y_138 y_139 v_19 y_140 v_21 y_141 sf_137 hS_sf_137 (0 - ((1 : Int32).toInt64)) c_173 (bd_mono by_135 (by decide)) (bd_mono bd_0p (by decide)) (bd_mono by_32 (by decide))) gX11_crossArc_X11_signOf rfl hy_X11_signOf_V ⟨Nat.le_of_ble_eq_true rfl, Nat.le_of_ble_eq_true rfl⟩ 0 rfl rfl [0, 7, 8] rfl (by decide) rfl rfl (Nat.le_of_ble_eq_true rfl) ⟨Nat.le_of_ble_eq_true rfl, Nat.le_of_ble_eq_true rfl⟩ ?_
                rintro _ ⟨y_143, y_144, y_145, y_146, sf_142⟩ ⟨rfl, hS_sf_142⟩
                dsimp only at hS_sf_142
                change J p l e rm_X11_crossArc s m args below meth c Q G A 13 0 0 292 [(11, .int 1), (12, .int 1), (9, .long x_4), (7, .long x_3), (5, .long x_2), (3, .long x_1), (0, .ref (q 0)), (1, .int (nI a)), (2, .int (nI b))] [.int (rn y_135 (0 - ((1 : Int32).toInt64)).toInt y_32)] [(q 0, .inr (10, mF t n q co cr 1 x_1 x_2)), (q 2, aJ G 200 f1), (q 3, aJ G 200 f2), (q 4, aJ G 200 f3), (q 5, aJ G 200 f4), (q 6, aI G 200 fr), (q 7, aI G 200 to1), (q 10, aI G 320 (rg [y_40, y_46, y_32, y_5, y_135, y_105, y_106, y_107, y_108, y_17, y_143, y_144, v_19, y_145, v_21, y_146])), (q 11, aZ G 16 sf_142), (q 12, aI G 2 (upd sig 0 (-1)))]
                refine j_if_lt (tgt := 299) X dX11_crossArc_292 (by decide) (fun c_292 => ?_) (fun c_292 => ?_)
                · skip
                  rw [ey_135, i64_0p] at c_292
                  have hp : ¬ saP (f1 a).toInt (f2 a).toInt (f3 a).toInt (f4 a).toInt (f1 b).toInt (f2 b).toInt (f3 b).toInt (fr b).toInt (to1 b).toInt (1) := fun h => h.2.1 (by rw [← hD, ← hR, ← hL]; exact c_292)
                  refine j_iconst (v := 0) X dX11_crossArc_299 rfl ?_
                  refine j_istore (L' := [(12, .int 0), (11, .int 1), (9, .long x_4), (7, .long x_3), (5, .long x_2), (3, .long x_1), (0, .ref (q 0)), (1, .int (nI a)), (2, .int (nI b))]) X dX11_crossArc_300 (by decide) rfl ?_
                  refine j_iload X dX11_crossArc_302 0 rfl ?_
                  refine j_if_eq (tgt := 323) X dX11_crossArc_304 (by decide) (fun _ => ?_) (fun c9 => absurd c9 (by decide))
                  refine j_iinc (v := 3) (L' := [(11, .int 3), (12, .int 0), (9, .long x_4), (7, .long x_3), (5, .long x_2), (3, .long x_1), (0, .ref (q 0)), (1, .int (nI a)), (2, .int (nI b))]) X dX11_crossArc_323 1 rfl (by decide) (by decide) rfl ?_
                  refine j_goto (tgt := 238) X dX11_crossArc_326 (by decide) ?_
                  refine j_iload X dX11_crossArc_238 0 rfl ?_
                  refine j_iconst (v := 2) X dX11_crossArc_240 rfl ?_
                  refine j_icmp_ge (tgt := 329) X dX11_crossArc_241 (by decide) (fun _ => ?_) (fun c9 => absurd c9 (by decide))
                  exact E.1 329 _ (1, upd sig 0 (-1), x_1, x_2, [y_40, y_46, y_32, y_5, y_135, y_105, y_106, y_107, y_108, y_17, y_143, y_144, v_19, y_145, v_21, y_146], sf_142) dX11_crossArc_329 (⟨rfl, by unfold xG xsa saS; rw [cps_10 ⟨by rw [← hR]; exact c_173, hn⟩ (fun h => hp h.2)]; exact ⟨rfl, sgL_1 _ _, fun _ => ⟨⟨hU, hV, hR, hL⟩, tx_1, tx_2⟩⟩, rfl, hS_sf_142⟩) hr
                · skip
                  rw [ey_135, i64_0p] at c_292
                  have ip2 := c_292
                  refine j_iconst (v := 1) X dX11_crossArc_295 rfl ?_
                  refine j_goto (tgt := 300) X dX11_crossArc_296 (by decide) ?_
                  refine j_istore (L' := [(12, .int 1), (11, .int 1), (9, .long x_4), (7, .long x_3), (5, .long x_2), (3, .long x_1), (0, .ref (q 0)), (1, .int (nI a)), (2, .int (nI b))]) X dX11_crossArc_300 (by decide) rfl ?_
                  refine j_iload X dX11_crossArc_302 0 rfl ?_
                  refine j_if_eq (tgt := 323) X dX11_crossArc_304 (by decide) (fun c9 => absurd c9 (by decide)) (fun _ => ?_)
                  refine j_aload_n X dX11_crossArc_307 rfl 6 rfl ?_
                  refine j_iload_n X dX11_crossArc_308 rfl 8 rfl ?_
                  refine j_iload X dX11_crossArc_309 1 rfl ?_
                  refine j_callV X dX11_crossArc_311 (c_X11_isOfArc_p l G q t n co cr 1 x_1 x_2 y_40 y_46 y_32 y_5 y_135 y_105 y_106 y_107 y_108 y_17 y_143 y_144 v_19 y_145 v_21 y_146 sf_142 hS_sf_142 f1 f2 fr to1 b bcb hfb htb gb (bd_mono by_40 (by decide)) (bd_mono by_46 (by decide)) (bd_mono by_32 (by decide)) (bd_mono by_5 (by decide)) c_173 (bd_mono bx_1 (by decide)) (bd_mono bx_2 (by decide))) gX11_crossArc_X11_isOfArc rfl hy_X11_isOfArc_V ⟨Nat.le_of_ble_eq_true rfl, Nat.le_of_ble_eq_true rfl⟩ 0 rfl rfl [0, 1, 2, 5, 6, 7, 8] rfl (by decide) rfl rfl (Nat.le_of_ble_eq_true rfl) ⟨Nat.le_of_ble_eq_true rfl, Nat.le_of_ble_eq_true rfl⟩ ?_
                  rintro _ ⟨y_148, y_149, y_150, y_151, y_152, y_153, y_154, y_155, y_156, sf_147⟩ ⟨rfl, hS_sf_147⟩
                  dsimp only at hS_sf_147
                  change J p l e rm_X11_crossArc s m args below meth c Q G A 13 0 0 314 [(12, .int 1), (11, .int 1), (9, .long x_4), (7, .long x_3), (5, .long x_2), (3, .long x_1), (0, .ref (q 0)), (1, .int (nI a)), (2, .int (nI b))] [.int (bI (ofA (f1 b).toInt (f2 b).toInt (fr b).toInt (to1 b).toInt y_40 y_46 y_32 y_5 x_1.toInt x_2.toInt))] [(q 0, .inr (10, mF t n q co cr 1 x_1 x_2)), (q 2, aJ G 200 f1), (q 3, aJ G 200 f2), (q 4, aJ G 200 f3), (q 5, aJ G 200 f4), (q 6, aI G 200 fr), (q 7, aI G 200 to1), (q 10, aI G 320 (rg [y_40, y_46, y_32, y_5, y_148, y_149, y_150, y_151, y_152, y_17, y_153, y_154, v_19, y_155, v_21, y_156])), (q 11, aZ G 16 sf_147), (q 12, aI G 2 (upd sig 0 (-1)))]
                  refine j_if_eq (tgt := 323) X dX11_crossArc_314 (by decide) (fun c_314 => ?_) (fun c_314 => ?_)
                  · skip
                    first | simp only [bI_0, Decidable.not_not, sg_mul, sg_e0, sg_l0, sg_g0, sg_le0, sg_ge0, cmp_eq, cmp_lt, cmp_ge, cmp_gt, cmp_le, lT0, lT1] at c_314 | simp only [Int32.le_iff_toInt_le, Int32.lt_iff_toInt_lt, ← Int32.toInt_inj, iT0, iT1, iT2, iT3, iT4, iT5, iT6, iT7, iT8, iT9, iT10, iT11, iT12, iT13, iT14, iT15, iT16, iT19, iT20, iT31, iT32, iT42, iT64, iT200, iT318, iT319, iT1000, iTm1, iTm2] at c_314 | skip
                    rw [hU, hV, hR, hL, tx_1, tx_2] at c_314
                    have hp : ¬ saP (f1 a).toInt (f2 a).toInt (f3 a).toInt (f4 a).toInt (f1 b).toInt (f2 b).toInt (f3 b).toInt (fr b).toInt (to1 b).toInt (1) := fun h => c_314 (by have h3 := h.2.2; rw [Int.one_mul, Int.one_mul] at h3; exact h3)
                    refine j_iinc (v := 3) (L' := [(11, .int 3), (12, .int 1), (9, .long x_4), (7, .long x_3), (5, .long x_2), (3, .long x_1), (0, .ref (q 0)), (1, .int (nI a)), (2, .int (nI b))]) X dX11_crossArc_323 1 rfl (by decide) (by decide) rfl ?_
                    refine j_goto (tgt := 238) X dX11_crossArc_326 (by decide) ?_
                    refine j_iload X dX11_crossArc_238 0 rfl ?_
                    refine j_iconst (v := 2) X dX11_crossArc_240 rfl ?_
                    refine j_icmp_ge (tgt := 329) X dX11_crossArc_241 (by decide) (fun _ => ?_) (fun c9 => absurd c9 (by decide))
                    exact E.1 329 _ (1, upd sig 0 (-1), x_1, x_2, [y_40, y_46, y_32, y_5, y_148, y_149, y_150, y_151, y_152, y_17, y_153, y_154, v_19, y_155, v_21, y_156], sf_147) dX11_crossArc_329 (⟨rfl, by unfold xG xsa saS; rw [cps_10 ⟨by rw [← hR]; exact c_173, hn⟩ (fun h => hp h.2)]; exact ⟨rfl, sgL_1 _ _, fun _ => ⟨⟨hU, hV, hR, hL⟩, tx_1, tx_2⟩⟩, rfl, hS_sf_147⟩) hr
                  · skip
                    first | simp only [bI_0, Decidable.not_not, sg_mul, sg_e0, sg_l0, sg_g0, sg_le0, sg_ge0, cmp_eq, cmp_lt, cmp_ge, cmp_gt, cmp_le, lT0, lT1] at c_314 | simp only [Int32.le_iff_toInt_le, Int32.lt_iff_toInt_lt, ← Int32.toInt_inj, iT0, iT1, iT2, iT3, iT4, iT5, iT6, iT7, iT8, iT9, iT10, iT11, iT12, iT13, iT14, iT15, iT16, iT19, iT20, iT31, iT32, iT42, iT64, iT200, iT318, iT319, iT1000, iTm1, iTm2] at c_314 | skip
                    rw [hU, hV, hR, hL, tx_1, tx_2] at c_314
                    have hp : saP (f1 a).toInt (f2 a).toInt (f3 a).toInt (f4 a).toInt (f1 b).toInt (f2 b).toInt (f3 b).toInt (fr b).toInt (to1 b).toInt (1) := ⟨by rw [← hD, ← hR]; exact ip1, by rw [← hD, ← hR, ← hL]; exact ip2, by rw [Int.one_mul, Int.one_mul]; exact c_314⟩
                    refine j_aload_n X dX11_crossArc_317 rfl 6 rfl ?_
                    refine j_iload X dX11_crossArc_318 1 rfl ?_
                    refine j_callV X dX11_crossArc_320 (c_X11_pointWith_1 l G q t n co cr x_1 x_2 (upd sig 0 (-1)) 1) gX11_crossArc_X11_pointWith rfl hy_X11_pointWith_V ⟨Nat.le_of_ble_eq_true rfl, Nat.le_of_ble_eq_true rfl⟩ 0 rfl rfl [0, 9] rfl (by decide) rfl rfl (Nat.le_of_ble_eq_true rfl) ⟨Nat.le_of_ble_eq_true rfl, Nat.le_of_ble_eq_true rfl⟩ ?_
                    rintro _ ⟨⟩ rfl
                    change J p l e rm_X11_crossArc s m args below meth c Q G A 13 0 0 323 [(12, .int 1), (11, .int 1), (9, .long x_4), (7, .long x_3), (5, .long x_2), (3, .long x_1), (0, .ref (q 0)), (1, .int (nI a)), (2, .int (nI b))] [] [(q 0, .inr (10, mF t n q co cr 2 x_1 x_2)), (q 2, aJ G 200 f1), (q 3, aJ G 200 f2), (q 4, aJ G 200 f3), (q 5, aJ G 200 f4), (q 6, aI G 200 fr), (q 7, aI G 200 to1), (q 10, aI G 320 (rg [y_40, y_46, y_32, y_5, y_148, y_149, y_150, y_151, y_152, y_17, y_153, y_154, v_19, y_155, v_21, y_156])), (q 11, aZ G 16 sf_147), (q 12, aI G 2 (upd (upd sig 0 (-1)) 1 1))]
                    refine j_iinc (v := 3) (L' := [(11, .int 3), (12, .int 1), (9, .long x_4), (7, .long x_3), (5, .long x_2), (3, .long x_1), (0, .ref (q 0)), (1, .int (nI a)), (2, .int (nI b))]) X dX11_crossArc_323 1 rfl (by decide) (by decide) rfl ?_
                    refine j_goto (tgt := 238) X dX11_crossArc_326 (by decide) ?_
                    refine j_iload X dX11_crossArc_238 0 rfl ?_
                    refine j_iconst (v := 2) X dX11_crossArc_240 rfl ?_
                    refine j_icmp_ge (tgt := 329) X dX11_crossArc_241 (by decide) (fun _ => ?_) (fun c9 => absurd c9 (by decide))
                    exact E.1 329 _ (2, upd (upd sig 0 (-1)) 1 1, x_1, x_2, [y_40, y_46, y_32, y_5, y_148, y_149, y_150, y_151, y_152, y_17, y_153, y_154, v_19, y_155, v_21, y_156], sf_147) dX11_crossArc_329 (⟨rfl, by unfold xG xsa saS; rw [cps_11 ⟨by rw [← hR]; exact c_173, hn⟩ ⟨by rw [← hR]; omega, hp⟩]; exact ⟨rfl, sgL_2 _ _ _, fun _ => ⟨⟨hU, hV, hR, hL⟩, tx_1, tx_2⟩⟩, rfl, hS_sf_147⟩) hr
            · skip
              first | simp only [bI_0, Decidable.not_not, sg_mul, sg_e0, sg_l0, sg_g0, sg_le0, sg_ge0, cmp_eq, cmp_lt, cmp_ge, cmp_gt, cmp_le, lT0, lT1] at c_255 | simp only [Int32.le_iff_toInt_le, Int32.lt_iff_toInt_lt, ← Int32.toInt_inj, iT0, iT1, iT2, iT3, iT4, iT5, iT6, iT7, iT8, iT9, iT10, iT11, iT12, iT13, iT14, iT15, iT16, iT19, iT20, iT31, iT32, iT42, iT64, iT200, iT318, iT319, iT1000, iTm1, iTm2] at c_255 | skip
              have hz := c_255
              exact E.1 258 _ (1, upd sig 0 (-1), x_1, x_2, [y_40, y_46, y_32, y_5, y_104, y_105, y_106, y_107, y_108, y_17, y_109, y_110, v_19, y_111, v_21, y_112], sf_103) dX11_crossArc_258 (⟨rfl, by unfold xG xsa saS; rw [cps_10 ⟨by rw [← hR]; exact c_173, hn⟩ (fun h => absurd h.1 (by rw [← hR, hz]; decide))]; exact ⟨rfl, sgL_1 _ _, fun _ => ⟨⟨hU, hV, hR, hL⟩, tx_1, tx_2⟩⟩, rfl, hS_sf_103⟩) hr
    · skip
      first | simp only [bI_0, Decidable.not_not, sg_mul, sg_e0, sg_l0, sg_g0, sg_le0, sg_ge0, cmp_eq, cmp_lt, cmp_ge, cmp_gt, cmp_le, lT0, lT1] at c_173 | simp only [Int32.le_iff_toInt_le, Int32.lt_iff_toInt_lt, ← Int32.toInt_inj, iT0, iT1, iT2, iT3, iT4, iT5, iT6, iT7, iT8, iT9, iT10, iT11, iT12, iT13, iT14, iT15, iT16, iT19, iT20, iT31, iT32, iT42, iT64, iT200, iT318, iT319, iT1000, iTm1, iTm2] at c_173 | skip
      have hL : y_5 = saL (f1 a).toInt (f2 a).toInt (f3 a).toInt (f4 a).toInt := by rw [ey_5, tx_1, tx_2]; rfl
      have hD : y_17 = saD (f1 a).toInt (f2 a).toInt (f3 a).toInt (f4 a).toInt (f1 b).toInt (f2 b).toInt := by rw [ey_17, ey_11, tx_1, tx_2, tx_3, tx_4, Int.mul_comm ((f2 a).toInt - (f2 b).toInt)]; rfl
      have hR : y_32 = saR (f1 a).toInt (f2 a).toInt (f3 a).toInt (f4 a).toInt (f1 b).toInt (f2 b).toInt (f3 b).toInt := by unfold saR; rw [← hD, ← hL, ey_32, ey_30, ey_28, ey_26, ey_18, ey_24, tx_3, tx_4]
      have hR0 := hR
      exact E.1 176 _ (0, sig, tx, ty, [z0, z1, y_32, y_5, y_30, y_26, y_28, y_17, z8, z9, z10, z11, v_19, y_24, v_21, v_22], sf_33) dX11_crossArc_176 (⟨rfl, by unfold xG xsa saS; rw [cps_00 (fun h => absurd h.1 (by rw [← hR0]; omega)) (fun h => absurd h.1 (by rw [← hR0]; omega))]; exact ⟨rfl, sgL_0 _, fun h => absurd rfl h⟩, rfl, hS_sf_33⟩) hr
  · skip
    refine j_iconst (v := 1) X dX11_crossArc_101 rfl ?_
    refine j_goto (tgt := 106) X dX11_crossArc_102 (by decide) ?_
    refine j_zast (ws' := [(q 0, .inr (10, mF t n q co cr 0 tx ty)), (q 2, aJ G 200 f1), (q 3, aJ G 200 f2), (q 4, aJ G 200 f3), (q 5, aJ G 200 f4), (q 6, aI G 200 fr), (q 7, aI G 200 to1), (q 10, aI G 320 (rg [z0, z1, z2, y_5, z4, z5, z6, y_11, z8, z9, z10, z11, v_12, v_13, v_14, v_15])), (q 11, aZ G 16 (upd sf_16 7 1)), (q 12, aI G 2 sig)]) X dX11_crossArc_106 8 rfl 7 rfl (by decide) (by decide) (Or.inr rfl) rfl ?_
    obtain ⟨y_157, ey_157⟩ : ∃ zz9 : Int, zz9 = -y_11 := ⟨_, rfl⟩
    have by_157 : bd 83 y_157 := by rw [ey_157]; exact bd_neg by_11
    have hS_y_157 : okS [z0, z1, z2, y_5, z4, z5, z6, y_157, z8, z9, z10, z11, v_12, v_13, v_14, v_15] (upd sf_16 7 1) := by rw [ey_157]; exact okS_set (d := 7) rfl (by decide) hS_sf_16 (ok_flip0 (hS_sf_16 7 (by decide)) c_98)
    refine j_setI (ws' := [(q 0, .inr (10, mF t n q co cr 0 tx ty)), (q 2, aJ G 200 f1), (q 3, aJ G 200 f2), (q 4, aJ G 200 f3), (q 5, aJ G 200 f4), (q 6, aI G 200 fr), (q 7, aI G 200 to1), (q 10, aI G 320 (rg [z0, z1, z2, y_5, z4, z5, z6, y_157, z8, z9, z10, z11, v_12, v_13, v_14, v_15])), (q 11, aZ G 16 (upd sf_16 7 1)), (q 12, aI G 2 sig)]) (g := rg [z0, z1, z2, y_5, z4, z5, z6, y_157, z8, z9, z10, z11, v_12, v_13, v_14, v_15]) 7 rfl (rg_abs (fun r => by rw [ey_157]; exact rg_flip (zs := [z0, z1, z2, y_5, z4, z5, z6, y_11, z8, z9, z10, z11, v_12, v_13, v_14, v_15]) (d := 7) (Nat.le_of_ble_eq_true rfl) r)) rfl ?_
    refine j_aload_n X dX11_crossArc_107 rfl 4 rfl ?_
    refine j_iconst (v := 4) X dX11_crossArc_108 rfl ?_
    refine j_lload X dX11_crossArc_109 1 rfl ?_
    refine j_lload X dX11_crossArc_111 1 rfl ?_
    refine j_lload X dX11_crossArc_113 0 rfl ?_
    refine j_lload X dX11_crossArc_115 0 rfl ?_
    refine j_iconst (v := 0) X dX11_crossArc_117 rfl ?_
    obtain ⟨y_158, ey_158⟩ : ∃ zz9 : Int, zz9 = x_3.toInt * x_3.toInt + x_4.toInt * x_4.toInt := ⟨_, rfl⟩
    have by_158 : bd 83 y_158 := by rw [ey_158]; exact bd_add (bd_mono (bd_mul bx_3 bx_3) (by decide)) (bd_mono (bd_mul bx_4 bx_4) (by decide))
    refine j_callV X dX11_crossArc_118 (n_products l G q t n co cr 0 tx ty [z0, z1, z2, y_5, z4, z5, z6, y_157, z8, z9, z10, z11, v_12, v_13, v_14, v_15] (upd sf_16 7 1) rfl hS_y_157 4 4 rfl (by decide) x_3 x_3 x_4 x_4 0 (Or.inl rfl) y_158 ey_158) gX11_crossArc_X11_products rfl hy_X11_products_V ⟨Nat.le_of_ble_eq_true rfl, Nat.le_of_ble_eq_true rfl⟩ 0 rfl rfl [0, 7, 8] rfl (by decide) rfl rfl (Nat.le_of_ble_eq_true rfl) ⟨Nat.le_of_ble_eq_true rfl, Nat.le_of_ble_eq_true rfl⟩ ?_
    rintro _ ⟨v_159, v_160, v_161, v_162, sf_163⟩ ⟨rfl, hS_sf_163⟩
    change J p l e rm_X11_crossArc s m args below meth c Q G A 13 0 0 121 [(9, .long x_4), (7, .long x_3), (5, .long x_2), (3, .long x_1), (0, .ref (q 0)), (1, .int (nI a)), (2, .int (nI b))] [] [(q 0, .inr (10, mF t n q co cr 0 tx ty)), (q 2, aJ G 200 f1), (q 3, aJ G 200 f2), (q 4, aJ G 200 f3), (q 5, aJ G 200 f4), (q 6, aI G 200 fr), (q 7, aI G 200 to1), (q 10, aI G 320 (rg [z0, z1, z2, y_5, y_158, z5, z6, y_157, z8, z9, z10, z11, v_159, v_160, v_161, v_162])), (q 11, aZ G 16 sf_163), (q 12, aI G 2 sig)]
    refine j_aload_n X dX11_crossArc_121 rfl 4 rfl ?_
    refine j_bipush (v := 13) X dX11_crossArc_122 (by decide) ?_
    refine j_aload_n X dX11_crossArc_124 rfl 4 rfl ?_
    refine j_get (v := .ref (q 4)) X dX11_crossArc_125 0 rfl 5 rfl in_X11_crossArc_X11 (by decide) fl_X11_crossArc_20 rfl ?_
    refine j_iload_n X dX11_crossArc_128 rfl 6 rfl ?_
    refine j_lald X dX11_crossArc_129 3 rfl b rfl gb (by decide) ?_
    obtain ⟨y_164, ey_164⟩ : ∃ zz9 : Int, zz9 = (f3 b).toInt := ⟨_, rfl⟩
    have by_164 : bd 62 y_164 := by rw [ey_164]; exact (bd_of 62 (B := 4611686018427387904) (by decide) (by omega) brb.2)
    refine j_callV X dX11_crossArc_130 (n_load l G q t n co cr 0 tx ty [z0, z1, z2, y_5, y_158, z5, z6, y_157, z8, z9, z10, z11, v_159, v_160, v_161, v_162] sf_163 rfl hS_sf_163 13 13 rfl (by decide) (f3 b) y_164 ey_164) gX11_crossArc_X11_load rfl hy_X11_load_V ⟨Nat.le_of_ble_eq_true rfl, Nat.le_of_ble_eq_true rfl⟩ 0 rfl rfl [0, 7, 8] rfl (by decide) rfl rfl (Nat.le_of_ble_eq_true rfl) ⟨Nat.le_of_ble_eq_true rfl, Nat.le_of_ble_eq_true rfl⟩ ?_
    rintro _ sf_165 ⟨rfl, hS_sf_165⟩
    change J p l e rm_X11_crossArc s m args below meth c Q G A 13 0 0 133 [(9, .long x_4), (7, .long x_3), (5, .long x_2), (3, .long x_1), (0, .ref (q 0)), (1, .int (nI a)), (2, .int (nI b))] [] [(q 0, .inr (10, mF t n q co cr 0 tx ty)), (q 2, aJ G 200 f1), (q 3, aJ G 200 f2), (q 4, aJ G 200 f3), (q 5, aJ G 200 f4), (q 6, aI G 200 fr), (q 7, aI G 200 to1), (q 10, aI G 320 (rg [z0, z1, z2, y_5, y_158, z5, z6, y_157, z8, z9, z10, z11, v_159, y_164, v_161, v_162])), (q 11, aZ G 16 sf_165), (q 12, aI G 2 sig)]
    refine j_aload_n X dX11_crossArc_133 rfl 4 rfl ?_
    refine j_iconst (v := 5) X dX11_crossArc_134 rfl ?_
    refine j_iconst (v := 4) X dX11_crossArc_135 rfl ?_
    refine j_bipush (v := 13) X dX11_crossArc_136 (by decide) ?_
    refine j_iconst (v := 1) X dX11_crossArc_138 rfl ?_
    obtain ⟨y_166, ey_166⟩ : ∃ zz9 : Int, zz9 = y_158 - y_164 := ⟨_, rfl⟩
    have by_166 : bd 84 y_166 := by rw [ey_166]; exact bd_sub (bd_mono by_158 (by decide)) (bd_mono by_164 (by decide))
    refine j_callV X dX11_crossArc_139 (n_join l G q t n co cr 0 tx ty [z0, z1, z2, y_5, y_158, z5, z6, y_157, z8, z9, z10, z11, v_159, y_164, v_161, v_162] sf_165 rfl hS_sf_165 5 5 rfl (by decide) 4 4 rfl (by decide) 13 13 rfl (by decide) 1 (Or.inr rfl) (by decide) (by decide) y_166 ey_166 by_158 by_164 (by decide) (by decide)) gX11_crossArc_X11_join rfl hy_X11_join_V ⟨Nat.le_of_ble_eq_true rfl, Nat.le_of_ble_eq_true rfl⟩ 0 rfl rfl [0, 7, 8] rfl (by decide) rfl rfl (Nat.le_of_ble_eq_true rfl) ⟨Nat.le_of_ble_eq_true rfl, Nat.le_of_ble_eq_true rfl⟩ ?_
    rintro _ sf_167 ⟨rfl, hS_sf_167⟩
    change J p l e rm_X11_crossArc s m args below meth c Q G A 13 0 0 142 [(9, .long x_4), (7, .long x_3), (5, .long x_2), (3, .long x_1), (0, .ref (q 0)), (1, .int (nI a)), (2, .int (nI b))] [] [(q 0, .inr (10, mF t n q co cr 0 tx ty)), (q 2, aJ G 200 f1), (q 3, aJ G 200 f2), (q 4, aJ G 200 f3), (q 5, aJ G 200 f4), (q 6, aI G 200 fr), (q 7, aI G 200 to1), (q 10, aI G 320 (rg [z0, z1, z2, y_5, y_158, y_166, z6, y_157, z8, z9, z10, z11, v_159, y_164, v_161, v_162])), (q 11, aZ G 16 sf_167), (q 12, aI G 2 sig)]
    refine j_aload_n X dX11_crossArc_142 rfl 4 rfl ?_
    refine j_bipush (v := 6) X dX11_crossArc_143 (by decide) ?_
    refine j_iconst (v := 3) X dX11_crossArc_145 rfl ?_
    refine j_iconst (v := 5) X dX11_crossArc_146 rfl ?_
    obtain ⟨y_168, ey_168⟩ : ∃ zz9 : Int, zz9 = y_5 * y_166 := ⟨_, rfl⟩
    have by_168 : bd 167 y_168 := by rw [ey_168]; exact bd_mul by_5 by_166
    refine j_callV X dX11_crossArc_147 (n_mul l G q t n co cr 0 tx ty [z0, z1, z2, y_5, y_158, y_166, z6, y_157, z8, z9, z10, z11, v_159, y_164, v_161, v_162] sf_167 rfl hS_sf_167 6 6 rfl (by decide) 3 3 rfl (by decide) 5 5 rfl (by decide) (by decide) (by decide) y_168 ey_168) gX11_crossArc_X11_multiply rfl hy_X11_multiply_V ⟨Nat.le_of_ble_eq_true rfl, Nat.le_of_ble_eq_true rfl⟩ 0 rfl rfl [0, 7, 8] rfl (by decide) rfl rfl (Nat.le_of_ble_eq_true rfl) ⟨Nat.le_of_ble_eq_true rfl, Nat.le_of_ble_eq_true rfl⟩ ?_
    rintro _ sf_169 ⟨rfl, hS_sf_169⟩
    change J p l e rm_X11_crossArc s m args below meth c Q G A 13 0 0 150 [(9, .long x_4), (7, .long x_3), (5, .long x_2), (3, .long x_1), (0, .ref (q 0)), (1, .int (nI a)), (2, .int (nI b))] [] [(q 0, .inr (10, mF t n q co cr 0 tx ty)), (q 2, aJ G 200 f1), (q 3, aJ G 200 f2), (q 4, aJ G 200 f3), (q 5, aJ G 200 f4), (q 6, aI G 200 fr), (q 7, aI G 200 to1), (q 10, aI G 320 (rg [z0, z1, z2, y_5, y_158, y_166, y_168, y_157, z8, z9, z10, z11, v_159, y_164, v_161, v_162])), (q 11, aZ G 16 sf_169), (q 12, aI G 2 sig)]
    refine j_aload_n X dX11_crossArc_150 rfl 4 rfl ?_
    refine j_iconst (v := 4) X dX11_crossArc_151 rfl ?_
    refine j_bipush (v := 7) X dX11_crossArc_152 (by decide) ?_
    refine j_bipush (v := 7) X dX11_crossArc_154 (by decide) ?_
    obtain ⟨y_170, ey_170⟩ : ∃ zz9 : Int, zz9 = y_157 * y_157 := ⟨_, rfl⟩
    have by_170 : bd 166 y_170 := by rw [ey_170]; exact bd_mul by_157 by_157
    refine j_callV X dX11_crossArc_156 (n_mul l G q t n co cr 0 tx ty [z0, z1, z2, y_5, y_158, y_166, y_168, y_157, z8, z9, z10, z11, v_159, y_164, v_161, v_162] sf_169 rfl hS_sf_169 4 4 rfl (by decide) 7 7 rfl (by decide) 7 7 rfl (by decide) (by decide) (by decide) y_170 ey_170) gX11_crossArc_X11_multiply rfl hy_X11_multiply_V ⟨Nat.le_of_ble_eq_true rfl, Nat.le_of_ble_eq_true rfl⟩ 0 rfl rfl [0, 7, 8] rfl (by decide) rfl rfl (Nat.le_of_ble_eq_true rfl) ⟨Nat.le_of_ble_eq_true rfl, Nat.le_of_ble_eq_true rfl⟩ ?_
    rintro _ sf_171 ⟨rfl, hS_sf_171⟩
    change J p l e rm_X11_crossArc s m args below meth c Q G A 13 0 0 159 [(9, .long x_4), (7, .long x_3), (5, .long x_2), (3, .long x_1), (0, .ref (q 0)), (1, .int (nI a)), (2, .int (nI b))] [] [(q 0, .inr (10, mF t n q co cr 0 tx ty)), (q 2, aJ G 200 f1), (q 3, aJ G 200 f2), (q 4, aJ G 200 f3), (q 5, aJ G 200 f4), (q 6, aI G 200 fr), (q 7, aI G 200 to1), (q 10, aI G 320 (rg [z0, z1, z2, y_5, y_170, y_166, y_168, y_157, z8, z9, z10, z11, v_159, y_164, v_161, v_162])), (q 11, aZ G 16 sf_171), (q 12, aI G 2 sig)]
    refine j_aload_n X dX11_crossArc_159 rfl 4 rfl ?_
    refine j_iconst (v := 2) X dX11_crossArc_160 rfl ?_
    refine j_iconst (v := 4) X dX11_crossArc_161 rfl ?_
    refine j_bipush (v := 6) X dX11_crossArc_162 (by decide) ?_
    refine j_iconst (v := 1) X dX11_crossArc_164 rfl ?_
    obtain ⟨y_172, ey_172⟩ : ∃ zz9 : Int, zz9 = y_170 - y_168 := ⟨_, rfl⟩
    have by_172 : bd 168 y_172 := by rw [ey_172]; exact bd_sub (bd_mono by_170 (by decide)) (bd_mono by_168 (by decide))
    refine j_callV X dX11_crossArc_165 (n_join l G q t n co cr 0 tx ty [z0, z1, z2, y_5, y_170, y_166, y_168, y_157, z8, z9, z10, z11, v_159, y_164, v_161, v_162] sf_171 rfl hS_sf_171 2 2 rfl (by decide) 4 4 rfl (by decide) 6 6 rfl (by decide) 1 (Or.inr rfl) (by decide) (by decide) y_172 ey_172 by_170 by_168 (by decide) (by decide)) gX11_crossArc_X11_join rfl hy_X11_join_V ⟨Nat.le_of_ble_eq_true rfl, Nat.le_of_ble_eq_true rfl⟩ 0 rfl rfl [0, 7, 8] rfl (by decide) rfl rfl (Nat.le_of_ble_eq_true rfl) ⟨Nat.le_of_ble_eq_true rfl, Nat.le_of_ble_eq_true rfl⟩ ?_
    rintro _ sf_173 ⟨rfl, hS_sf_173⟩
    change J p l e rm_X11_crossArc s m args below meth c Q G A 13 0 0 168 [(9, .long x_4), (7, .long x_3), (5, .long x_2), (3, .long x_1), (0, .ref (q 0)), (1, .int (nI a)), (2, .int (nI b))] [] [(q 0, .inr (10, mF t n q co cr 0 tx ty)), (q 2, aJ G 200 f1), (q 3, aJ G 200 f2), (q 4, aJ G 200 f3), (q 5, aJ G 200 f4), (q 6, aI G 200 fr), (q 7, aI G 200 to1), (q 10, aI G 320 (rg [z0, z1, y_172, y_5, y_170, y_166, y_168, y_157, z8, z9, z10, z11, v_159, y_164, v_161, v_162])), (q 11, aZ G 16 sf_173), (q 12, aI G 2 sig)]
    refine j_aload_n X dX11_crossArc_168 rfl 4 rfl ?_
    refine j_iconst (v := 2) X dX11_crossArc_169 rfl ?_
    refine j_callV X dX11_crossArc_170 (c_X11_sign l G q t n co cr 0 tx ty [z0, z1, y_172, y_5, y_170, y_166, y_168, y_157, z8, z9, z10, z11, v_159, y_164, v_161, v_162] rfl sf_173 2 2 rfl (by decide) (hS_sf_173 2 (by decide)) (bd_lt by_172 (by decide))) gX11_crossArc_X11_sign rfl hy_X11_sign_V ⟨Nat.le_of_ble_eq_true rfl, Nat.le_of_ble_eq_true rfl⟩ 0 rfl rfl [0, 7, 8] rfl (by decide) rfl rfl (Nat.le_of_ble_eq_true rfl) ⟨Nat.le_of_ble_eq_true rfl, Nat.le_of_ble_eq_true rfl⟩ ?_
    rintro _ ⟨⟩ rfl
    change J p l e rm_X11_crossArc s m args below meth c Q G A 13 0 0 173 [(9, .long x_4), (7, .long x_3), (5, .long x_2), (3, .long x_1), (0, .ref (q 0)), (1, .int (nI a)), (2, .int (nI b))] [.int (sg y_172)] [(q 0, .inr (10, mF t n q co cr 0 tx ty)), (q 2, aJ G 200 f1), (q 3, aJ G 200 f2), (q 4, aJ G 200 f3), (q 5, aJ G 200 f4), (q 6, aI G 200 fr), (q 7, aI G 200 to1), (q 10, aI G 320 (rg [z0, z1, y_172, y_5, y_170, y_166, y_168, y_157, z8, z9, z10, z11, v_159, y_164, v_161, v_162])), (q 11, aZ G 16 sf_173), (q 12, aI G 2 sig)]
    refine j_if_ge (tgt := 177) X dX11_crossArc_173 (by decide) (fun c_173 => ?_) (fun c_173 => ?_)
    · skip
      first | simp only [bI_0, Decidable.not_not, sg_mul, sg_e0, sg_l0, sg_g0, sg_le0, sg_ge0, cmp_eq, cmp_lt, cmp_ge, cmp_gt, cmp_le, lT0, lT1] at c_173 | simp only [Int32.le_iff_toInt_le, Int32.lt_iff_toInt_lt, ← Int32.toInt_inj, iT0, iT1, iT2, iT3, iT4, iT5, iT6, iT7, iT8, iT9, iT10, iT11, iT12, iT13, iT14, iT15, iT16, iT19, iT20, iT31, iT32, iT42, iT64, iT200, iT318, iT319, iT1000, iTm1, iTm2] at c_173 | skip
      have hL : y_5 = saL (f1 a).toInt (f2 a).toInt (f3 a).toInt (f4 a).toInt := by rw [ey_5, tx_1, tx_2]; rfl
      have hD : y_157 = saD (f1 a).toInt (f2 a).toInt (f3 a).toInt (f4 a).toInt (f1 b).toInt (f2 b).toInt := by rw [ey_157, ey_11, tx_1, tx_2, tx_3, tx_4, Int.mul_comm ((f2 a).toInt - (f2 b).toInt)]; rfl
      have hR : y_172 = saR (f1 a).toInt (f2 a).toInt (f3 a).toInt (f4 a).toInt (f1 b).toInt (f2 b).toInt (f3 b).toInt := by unfold saR; rw [← hD, ← hL, ey_172, ey_170, ey_168, ey_166, ey_158, ey_164, tx_3, tx_4]
      refine j_aload_n X dX11_crossArc_177 rfl 4 rfl ?_
      refine j_iconst (v := 5) X dX11_crossArc_178 rfl ?_
      refine j_bipush (v := 7) X dX11_crossArc_179 (by decide) ?_
      refine j_callV X dX11_crossArc_181 (h_copy l G q t n co cr 0 tx ty [z0, z1, y_172, y_5, y_170, y_166, y_168, y_157, z8, z9, z10, z11, v_159, y_164, v_161, v_162] sf_173 rfl hS_sf_173 5 5 rfl (by decide) 7 7 rfl (by decide) (by decide)) gX11_crossArc_X11_copy rfl hy_X11_copy_V ⟨Nat.le_of_ble_eq_true rfl, Nat.le_of_ble_eq_true rfl⟩ 0 rfl rfl [0, 7, 8] rfl (by decide) rfl rfl (Nat.le_of_ble_eq_true rfl) ⟨Nat.le_of_ble_eq_true rfl, Nat.le_of_ble_eq_true rfl⟩ ?_
      rintro _ sf_174 ⟨rfl, hS_sf_174⟩
      change J p l e rm_X11_crossArc s m args below meth c Q G A 13 0 0 184 [(9, .long x_4), (7, .long x_3), (5, .long x_2), (3, .long x_1), (0, .ref (q 0)), (1, .int (nI a)), (2, .int (nI b))] [] [(q 0, .inr (10, mF t n q co cr 0 tx ty)), (q 2, aJ G 200 f1), (q 3, aJ G 200 f2), (q 4, aJ G 200 f3), (q 5, aJ G 200 f4), (q 6, aI G 200 fr), (q 7, aI G 200 to1), (q 10, aI G 320 (rg [z0, z1, y_172, y_5, y_170, y_157, y_168, y_157, z8, z9, z10, z11, v_159, y_164, v_161, v_162])), (q 11, aZ G 16 sf_174), (q 12, aI G 2 sig)]
      refine j_aload_n X dX11_crossArc_184 rfl 4 rfl ?_
      refine j_bipush (v := 9) X dX11_crossArc_185 (by decide) ?_
      refine j_bipush (v := 7) X dX11_crossArc_187 (by decide) ?_
      refine j_callV X dX11_crossArc_189 (h_copy l G q t n co cr 0 tx ty [z0, z1, y_172, y_5, y_170, y_157, y_168, y_157, z8, z9, z10, z11, v_159, y_164, v_161, v_162] sf_174 rfl hS_sf_174 9 9 rfl (by decide) 7 7 rfl (by decide) (by decide)) gX11_crossArc_X11_copy rfl hy_X11_copy_V ⟨Nat.le_of_ble_eq_true rfl, Nat.le_of_ble_eq_true rfl⟩ 0 rfl rfl [0, 7, 8] rfl (by decide) rfl rfl (Nat.le_of_ble_eq_true rfl) ⟨Nat.le_of_ble_eq_true rfl, Nat.le_of_ble_eq_true rfl⟩ ?_
      rintro _ sf_175 ⟨rfl, hS_sf_175⟩
      change J p l e rm_X11_crossArc s m args below meth c Q G A 13 0 0 192 [(9, .long x_4), (7, .long x_3), (5, .long x_2), (3, .long x_1), (0, .ref (q 0)), (1, .int (nI a)), (2, .int (nI b))] [] [(q 0, .inr (10, mF t n q co cr 0 tx ty)), (q 2, aJ G 200 f1), (q 3, aJ G 200 f2), (q 4, aJ G 200 f3), (q 5, aJ G 200 f4), (q 6, aI G 200 fr), (q 7, aI G 200 to1), (q 10, aI G 320 (rg [z0, z1, y_172, y_5, y_170, y_157, y_168, y_157, z8, y_157, z10, z11, v_159, y_164, v_161, v_162])), (q 11, aZ G 16 sf_175), (q 12, aI G 2 sig)]
      refine j_aload_n X dX11_crossArc_192 rfl 4 rfl ?_
      refine j_aload_n X dX11_crossArc_193 rfl 4 rfl ?_
      refine j_get (v := .ref (q 2)) X dX11_crossArc_194 0 rfl 3 rfl in_X11_crossArc_X11 (by decide) fl_X11_crossArc_13 rfl ?_
      refine j_iload_n X dX11_crossArc_197 rfl 5 rfl ?_
      refine j_lald X dX11_crossArc_198 1 rfl a rfl ga (by decide) ?_
      refine j_lload_n X dX11_crossArc_199 rfl 3 rfl ?_
      refine j_iconst (v := 0) X dX11_crossArc_200 rfl ?_
      refine j_callV X dX11_crossArc_201 (c_X11_onLine_0 l G q t n co cr 0 tx ty z0 z1 y_172 y_5 y_170 y_157 y_168 y_157 z8 y_157 z10 z11 v_159 y_164 v_161 v_162 sf_175 hS_sf_175 (f1 a) x_1 (bd_mono by_5 (by decide)) (bd_mono by_157 (by decide)) (bd_mono (bd_C ba.1.1) (by decide)) (bd_mono bx_1 (by decide))) gX11_crossArc_X11_onLine rfl hy_X11_onLine_V ⟨Nat.le_of_ble_eq_true rfl, Nat.le_of_ble_eq_true rfl⟩ 0 rfl rfl [0, 7, 8] rfl (by decide) rfl rfl (Nat.le_of_ble_eq_true rfl) ⟨Nat.le_of_ble_eq_true rfl, Nat.le_of_ble_eq_true rfl⟩ ?_
      rintro _ ⟨y_177, y_178, y_179, y_180, sf_176⟩ ⟨rfl, ey_180, hS_sf_176⟩
      dsimp only at ey_180 hS_sf_176
      change J p l e rm_X11_crossArc s m args below meth c Q G A 13 0 0 204 [(9, .long x_4), (7, .long x_3), (5, .long x_2), (3, .long x_1), (0, .ref (q 0)), (1, .int (nI a)), (2, .int (nI b))] [] [(q 0, .inr (10, mF t n q co cr 0 tx ty)), (q 2, aJ G 200 f1), (q 3, aJ G 200 f2), (q 4, aJ G 200 f3), (q 5, aJ G 200 f4), (q 6, aI G 200 fr), (q 7, aI G 200 to1), (q 10, aI G 320 (rg [y_180, z1, y_172, y_5, y_177, y_157, y_178, y_157, z8, y_157, z10, z11, v_159, y_179, v_161, v_162])), (q 11, aZ G 16 sf_176), (q 12, aI G 2 sig)]
      have by_180 : bd 127 y_180 := by rw [ey_180]; exact bd_add (bd_mono (bd_mul (bd_C ba.1.1) by_5) (by decide)) (bd_mono (bd_mul bx_1 by_157) (by decide))
      refine j_aload_n X dX11_crossArc_204 rfl 4 rfl ?_
      refine j_iconst (v := 5) X dX11_crossArc_205 rfl ?_
      refine j_bipush (v := 9) X dX11_crossArc_206 (by decide) ?_
      refine j_callV X dX11_crossArc_208 (h_copy l G q t n co cr 0 tx ty [y_180, z1, y_172, y_5, y_177, y_157, y_178, y_157, z8, y_157, z10, z11, v_159, y_179, v_161, v_162] sf_176 rfl hS_sf_176 5 5 rfl (by decide) 9 9 rfl (by decide) (by decide)) gX11_crossArc_X11_copy rfl hy_X11_copy_V ⟨Nat.le_of_ble_eq_true rfl, Nat.le_of_ble_eq_true rfl⟩ 0 rfl rfl [0, 7, 8] rfl (by decide) rfl rfl (Nat.le_of_ble_eq_true rfl) ⟨Nat.le_of_ble_eq_true rfl, Nat.le_of_ble_eq_true rfl⟩ ?_
      rintro _ sf_181 ⟨rfl, hS_sf_181⟩
      change J p l e rm_X11_crossArc s m args below meth c Q G A 13 0 0 211 [(9, .long x_4), (7, .long x_3), (5, .long x_2), (3, .long x_1), (0, .ref (q 0)), (1, .int (nI a)), (2, .int (nI b))] [] [(q 0, .inr (10, mF t n q co cr 0 tx ty)), (q 2, aJ G 200 f1), (q 3, aJ G 200 f2), (q 4, aJ G 200 f3), (q 5, aJ G 200 f4), (q 6, aI G 200 fr), (q 7, aI G 200 to1), (q 10, aI G 320 (rg [y_180, z1, y_172, y_5, y_177, y_157, y_178, y_157, z8, y_157, z10, z11, v_159, y_179, v_161, v_162])), (q 11, aZ G 16 sf_181), (q 12, aI G 2 sig)]
      refine j_aload_n X dX11_crossArc_211 rfl 4 rfl ?_
      refine j_aload_n X dX11_crossArc_212 rfl 4 rfl ?_
      refine j_get (v := .ref (q 3)) X dX11_crossArc_213 0 rfl 4 rfl in_X11_crossArc_X11 (by decide) fl_X11_crossArc_17 rfl ?_
      refine j_iload_n X dX11_crossArc_216 rfl 5 rfl ?_
      refine j_lald X dX11_crossArc_217 2 rfl a rfl ga (by decide) ?_
      refine j_lload X dX11_crossArc_218 2 rfl ?_
      refine j_iconst (v := 1) X dX11_crossArc_220 rfl ?_
      refine j_callV X dX11_crossArc_221 (c_X11_onLine_1 l G q t n co cr 0 tx ty y_180 z1 y_172 y_5 y_177 y_157 y_178 y_157 z8 y_157 z10 z11 v_159 y_179 v_161 v_162 sf_181 hS_sf_181 (f2 a) x_2 (bd_mono by_5 (by decide)) (bd_mono by_157 (by decide)) (bd_mono (bd_C ba.1.2) (by decide)) (bd_mono bx_2 (by decide))) gX11_crossArc_X11_onLine rfl hy_X11_onLine_V ⟨Nat.le_of_ble_eq_true rfl, Nat.le_of_ble_eq_true rfl⟩ 0 rfl rfl [0, 7, 8] rfl (by decide) rfl rfl (Nat.le_of_ble_eq_true rfl) ⟨Nat.le_of_ble_eq_true rfl, Nat.le_of_ble_eq_true rfl⟩ ?_
      rintro _ ⟨y_183, y_184, y_185, y_186, sf_182⟩ ⟨rfl, ey_186, hS_sf_182⟩
      dsimp only at ey_186 hS_sf_182
      change J p l e rm_X11_crossArc s m args below meth c Q G A 13 0 0 224 [(9, .long x_4), (7, .long x_3), (5, .long x_2), (3, .long x_1), (0, .ref (q 0)), (1, .int (nI a)), (2, .int (nI b))] [] [(q 0, .inr (10, mF t n q co cr 0 tx ty)), (q 2, aJ G 200 f1), (q 3, aJ G 200 f2), (q 4, aJ G 200 f3), (q 5, aJ G 200 f4), (q 6, aI G 200 fr), (q 7, aI G 200 to1), (q 10, aI G 320 (rg [y_180, y_186, y_172, y_5, y_183, y_157, y_184, y_157, z8, y_157, z10, z11, v_159, y_185, v_161, v_162])), (q 11, aZ G 16 sf_182), (q 12, aI G 2 sig)]
      have by_186 : bd 127 y_186 := by rw [ey_186]; exact bd_add (bd_mono (bd_mul (bd_C ba.1.2) by_5) (by decide)) (bd_mono (bd_mul bx_2 by_157) (by decide))
      refine j_aload_n X dX11_crossArc_224 rfl 4 rfl ?_
      refine j_lload_n X dX11_crossArc_225 rfl 3 rfl ?_
      refine j_put (ws' := [(q 0, .inr (10, mF t n q co cr 0 x_1 ty)), (q 2, aJ G 200 f1), (q 3, aJ G 200 f2), (q 4, aJ G 200 f3), (q 5, aJ G 200 f4), (q 6, aI G 200 fr), (q 7, aI G 200 to1), (q 10, aI G 320 (rg [y_180, y_186, y_172, y_5, y_183, y_157, y_184, y_157, z8, y_157, z10, z11, v_159, y_185, v_161, v_162])), (q 11, aZ G 16 sf_182), (q 12, aI G 2 sig)]) X dX11_crossArc_226 0 rfl 17 rfl in_X11_crossArc_X11 tyX11 tyX11_ok nmX11 (by decide) fl_X11_crossArc_159 rfl rfl rfl rfl (Nat.le_of_ble_eq_true rfl) rfl ?_
      refine j_aload_n X dX11_crossArc_229 rfl 4 rfl ?_
      refine j_lload X dX11_crossArc_230 2 rfl ?_
      refine j_put (ws' := [(q 0, .inr (10, mF t n q co cr 0 x_1 x_2)), (q 2, aJ G 200 f1), (q 3, aJ G 200 f2), (q 4, aJ G 200 f3), (q 5, aJ G 200 f4), (q 6, aI G 200 fr), (q 7, aI G 200 to1), (q 10, aI G 320 (rg [y_180, y_186, y_172, y_5, y_183, y_157, y_184, y_157, z8, y_157, z10, z11, v_159, y_185, v_161, v_162])), (q 11, aZ G 16 sf_182), (q 12, aI G 2 sig)]) X dX11_crossArc_232 0 rfl 18 rfl in_X11_crossArc_X11 tyX11 tyX11_ok nmX11 (by decide) fl_X11_crossArc_163 rfl rfl rfl rfl (Nat.le_of_ble_eq_true rfl) rfl ?_
      have hU : y_180 = saU (f1 a).toInt (f2 a).toInt (f3 a).toInt (f4 a).toInt (f1 b).toInt (f2 b).toInt := by unfold saU; rw [← hL, ← hD, ey_180, tx_1]
      have hV : y_186 = saV (f1 a).toInt (f2 a).toInt (f3 a).toInt (f4 a).toInt (f1 b).toInt (f2 b).toInt := by unfold saV; rw [← hL, ← hD, ey_186, tx_2]
      refine j_iconst (v := (-1)) X dX11_crossArc_235 rfl ?_
      refine j_istore (L' := [(11, .int (-1)), (9, .long x_4), (7, .long x_3), (5, .long x_2), (3, .long x_1), (0, .ref (q 0)), (1, .int (nI a)), (2, .int (nI b))]) X dX11_crossArc_236 (by decide) rfl ?_
      refine j_iload X dX11_crossArc_238 0 rfl ?_
      refine j_iconst (v := 2) X dX11_crossArc_240 rfl ?_
      refine j_icmp_ge (tgt := 329) X dX11_crossArc_241 (by decide) (fun c9 => absurd c9 (by decide)) (fun _ => ?_)
      refine j_iload X dX11_crossArc_244 0 rfl ?_
      refine j_iconst (v := 1) X dX11_crossArc_246 rfl ?_
      refine j_icmp_ne (tgt := 259) X dX11_crossArc_247 (by decide) (fun _ => ?_) (fun c9 => absurd c9 (by decide))
      refine j_aload_n X dX11_crossArc_259 rfl 5 rfl ?_
      refine j_iconst (v := 4) X dX11_crossArc_260 rfl ?_
      refine j_iconst (v := 3) X dX11_crossArc_261 rfl ?_
      refine j_bipush (v := 9) X dX11_crossArc_262 (by decide) ?_
      refine j_iconst (v := 1) X dX11_crossArc_264 rfl ?_
      obtain ⟨y_187, ey_187⟩ : ∃ zz9 : Int, zz9 = y_5 - y_157 := ⟨_, rfl⟩
      have by_187 : bd 84 y_187 := by rw [ey_187]; exact bd_sub (bd_mono by_5 (by decide)) (bd_mono by_157 (by decide))
      refine j_callV X dX11_crossArc_265 (n_join l G q t n co cr 0 x_1 x_2 [y_180, y_186, y_172, y_5, y_183, y_157, y_184, y_157, z8, y_157, z10, z11, v_159, y_185, v_161, v_162] sf_182 rfl hS_sf_182 4 4 rfl (by decide) 3 3 rfl (by decide) 9 9 rfl (by decide) 1 (Or.inr rfl) (by decide) (by decide) y_187 ey_187 by_5 by_157 (by decide) (by decide)) gX11_crossArc_X11_join rfl hy_X11_join_V ⟨Nat.le_of_ble_eq_true rfl, Nat.le_of_ble_eq_true rfl⟩ 0 rfl rfl [0, 7, 8] rfl (by decide) rfl rfl (Nat.le_of_ble_eq_true rfl) ⟨Nat.le_of_ble_eq_true rfl, Nat.le_of_ble_eq_true rfl⟩ ?_
      rintro _ sf_188 ⟨rfl, hS_sf_188⟩
      change J p l e rm_X11_crossArc s m args below meth c Q G A 13 0 0 268 [(11, .int (-1)), (9, .long x_4), (7, .long x_3), (5, .long x_2), (3, .long x_1), (0, .ref (q 0)), (1, .int (nI a)), (2, .int (nI b))] [] [(q 0, .inr (10, mF t n q co cr 0 x_1 x_2)), (q 2, aJ G 200 f1), (q 3, aJ G 200 f2), (q 4, aJ G 200 f3), (q 5, aJ G 200 f4), (q 6, aI G 200 fr), (q 7, aI G 200 to1), (q 10, aI G 320 (rg [y_180, y_186, y_172, y_5, y_187, y_157, y_184, y_157, z8, y_157, z10, z11, v_159, y_185, v_161, v_162])), (q 11, aZ G 16 sf_188), (q 12, aI G 2 sig)]
      refine j_aload_n X dX11_crossArc_268 rfl 5 rfl ?_
      refine j_bipush (v := 9) X dX11_crossArc_269 (by decide) ?_
      refine j_iload X dX11_crossArc_271 0 rfl ?_
      refine j_i2l X dX11_crossArc_273 rfl ?_
      refine j_iconst (v := 2) X dX11_crossArc_274 rfl ?_
      refine j_callV X dX11_crossArc_275 (c_X11_signOf_9_2 l G q t n co cr 0 x_1 x_2 y_180 y_186 y_172 y_5 y_187 y_157 y_184 y_157 z8 y_157 z10 z11 v_159 y_185 v_161 v_162 sf_188 hS_sf_188 ((-1 : Int32).toInt64) c_173 (bd_mono by_157 (by decide)) (bd_mono bd_n1 (by decide)) (bd_mono by_172 (by decide))) gX11_crossArc_X11_signOf rfl hy_X11_signOf_V ⟨Nat.le_of_ble_eq_true rfl, Nat.le_of_ble_eq_true rfl⟩ 0 rfl rfl [0, 7, 8] rfl (by decide) rfl rfl (Nat.le_of_ble_eq_true rfl) ⟨Nat.le_of_ble_eq_true rfl, Nat.le_of_ble_eq_true rfl⟩ ?_
      rintro _ ⟨y_190, y_191, y_192, y_193, sf_189⟩ ⟨rfl, hS_sf_189⟩
      dsimp only at hS_sf_189
      change J p l e rm_X11_crossArc s m args below meth c Q G A 13 0 0 278 [(11, .int (-1)), (9, .long x_4), (7, .long x_3), (5, .long x_2), (3, .long x_1), (0, .ref (q 0)), (1, .int (nI a)), (2, .int (nI b))] [.int (rn y_157 ((-1 : Int32).toInt64).toInt y_172)] [(q 0, .inr (10, mF t n q co cr 0 x_1 x_2)), (q 2, aJ G 200 f1), (q 3, aJ G 200 f2), (q 4, aJ G 200 f3), (q 5, aJ G 200 f4), (q 6, aI G 200 fr), (q 7, aI G 200 to1), (q 10, aI G 320 (rg [y_180, y_186, y_172, y_5, y_187, y_157, y_184, y_157, z8, y_157, y_190, y_191, v_159, y_192, v_161, y_193])), (q 11, aZ G 16 sf_189), (q 12, aI G 2 sig)]
      refine j_if_lt (tgt := 299) X dX11_crossArc_278 (by decide) (fun c_278 => ?_) (fun c_278 => ?_)
      · skip
        rw [i64_n] at c_278
        have hn : ¬ saP (f1 a).toInt (f2 a).toInt (f3 a).toInt (f4 a).toInt (f1 b).toInt (f2 b).toInt (f3 b).toInt (fr b).toInt (to1 b).toInt (-1) := fun h => h.1 (by rw [← hD, ← hR]; exact c_278)
        refine j_iconst (v := 0) X dX11_crossArc_299 rfl ?_
        refine j_istore (L' := [(12, .int 0), (11, .int (-1)), (9, .long x_4), (7, .long x_3), (5, .long x_2), (3, .long x_1), (0, .ref (q 0)), (1, .int (nI a)), (2, .int (nI b))]) X dX11_crossArc_300 (by decide) rfl ?_
        refine j_iload X dX11_crossArc_302 0 rfl ?_
        refine j_if_eq (tgt := 323) X dX11_crossArc_304 (by decide) (fun _ => ?_) (fun c9 => absurd c9 (by decide))
        refine j_iinc (v := 1) (L' := [(11, .int 1), (12, .int 0), (9, .long x_4), (7, .long x_3), (5, .long x_2), (3, .long x_1), (0, .ref (q 0)), (1, .int (nI a)), (2, .int (nI b))]) X dX11_crossArc_323 1 rfl (by decide) (by decide) rfl ?_
        refine j_goto (tgt := 238) X dX11_crossArc_326 (by decide) ?_
        refine j_iload X dX11_crossArc_238 0 rfl ?_
        refine j_iconst (v := 2) X dX11_crossArc_240 rfl ?_
        refine j_icmp_ge (tgt := 329) X dX11_crossArc_241 (by decide) (fun c9 => absurd c9 (by decide)) (fun _ => ?_)
        refine j_iload X dX11_crossArc_244 0 rfl ?_
        refine j_iconst (v := 1) X dX11_crossArc_246 rfl ?_
        refine j_icmp_ne (tgt := 259) X dX11_crossArc_247 (by decide) (fun c9 => absurd c9 (by decide)) (fun _ => ?_)
        refine j_aload_n X dX11_crossArc_250 rfl 6 rfl ?_
        refine j_iconst (v := 2) X dX11_crossArc_251 rfl ?_
        refine j_callV X dX11_crossArc_252 (c_X11_sign l G q t n co cr 0 x_1 x_2 [y_180, y_186, y_172, y_5, y_187, y_157, y_184, y_157, z8, y_157, y_190, y_191, v_159, y_192, v_161, y_193] rfl sf_189 2 2 rfl (by decide) (hS_sf_189 2 (by decide)) (bd_lt by_172 (by decide))) gX11_crossArc_X11_sign rfl hy_X11_sign_V ⟨Nat.le_of_ble_eq_true rfl, Nat.le_of_ble_eq_true rfl⟩ 0 rfl rfl [0, 7, 8] rfl (by decide) rfl rfl (Nat.le_of_ble_eq_true rfl) ⟨Nat.le_of_ble_eq_true rfl, Nat.le_of_ble_eq_true rfl⟩ ?_
        rintro _ ⟨⟩ rfl
        change J p l e rm_X11_crossArc s m args below meth c Q G A 13 0 0 255 [(11, .int 1), (12, .int 0), (9, .long x_4), (7, .long x_3), (5, .long x_2), (3, .long x_1), (0, .ref (q 0)), (1, .int (nI a)), (2, .int (nI b))] [.int (sg y_172)] [(q 0, .inr (10, mF t n q co cr 0 x_1 x_2)), (q 2, aJ G 200 f1), (q 3, aJ G 200 f2), (q 4, aJ G 200 f3), (q 5, aJ G 200 f4), (q 6, aI G 200 fr), (q 7, aI G 200 to1), (q 10, aI G 320 (rg [y_180, y_186, y_172, y_5, y_187, y_157, y_184, y_157, z8, y_157, y_190, y_191, v_159, y_192, v_161, y_193])), (q 11, aZ G 16 sf_189), (q 12, aI G 2 sig)]
        refine j_if_ne (tgt := 259) X dX11_crossArc_255 (by decide) (fun c_255 => ?_) (fun c_255 => ?_)
        · skip
          first | simp only [bI_0, Decidable.not_not, sg_mul, sg_e0, sg_l0, sg_g0, sg_le0, sg_ge0, cmp_eq, cmp_lt, cmp_ge, cmp_gt, cmp_le, lT0, lT1] at c_255 | simp only [Int32.le_iff_toInt_le, Int32.lt_iff_toInt_lt, ← Int32.toInt_inj, iT0, iT1, iT2, iT3, iT4, iT5, iT6, iT7, iT8, iT9, iT10, iT11, iT12, iT13, iT14, iT15, iT16, iT19, iT20, iT31, iT32, iT42, iT64, iT200, iT318, iT319, iT1000, iTm1, iTm2] at c_255 | skip
          have hnz := c_255
          refine j_aload_n X dX11_crossArc_259 rfl 6 rfl ?_
          refine j_iconst (v := 4) X dX11_crossArc_260 rfl ?_
          refine j_iconst (v := 3) X dX11_crossArc_261 rfl ?_
          refine j_bipush (v := 9) X dX11_crossArc_262 (by decide) ?_
          refine j_iconst (v := 1) X dX11_crossArc_264 rfl ?_
          obtain ⟨y_194, ey_194⟩ : ∃ zz9 : Int, zz9 = y_5 - y_157 := ⟨_, rfl⟩
          have by_194 : bd 84 y_194 := by rw [ey_194]; exact bd_sub (bd_mono by_5 (by decide)) (bd_mono by_157 (by decide))
          refine j_callV X dX11_crossArc_265 (n_join l G q t n co cr 0 x_1 x_2 [y_180, y_186, y_172, y_5, y_187, y_157, y_184, y_157, z8, y_157, y_190, y_191, v_159, y_192, v_161, y_193] sf_189 rfl hS_sf_189 4 4 rfl (by decide) 3 3 rfl (by decide) 9 9 rfl (by decide) 1 (Or.inr rfl) (by decide) (by decide) y_194 ey_194 by_5 by_157 (by decide) (by decide)) gX11_crossArc_X11_join rfl hy_X11_join_V ⟨Nat.le_of_ble_eq_true rfl, Nat.le_of_ble_eq_true rfl⟩ 0 rfl rfl [0, 7, 8] rfl (by decide) rfl rfl (Nat.le_of_ble_eq_true rfl) ⟨Nat.le_of_ble_eq_true rfl, Nat.le_of_ble_eq_true rfl⟩ ?_
          rintro _ sf_195 ⟨rfl, hS_sf_195⟩
          change J p l e rm_X11_crossArc s m args below meth c Q G A 13 0 0 268 [(11, .int 1), (12, .int 0), (9, .long x_4), (7, .long x_3), (5, .long x_2), (3, .long x_1), (0, .ref (q 0)), (1, .int (nI a)), (2, .int (nI b))] [] [(q 0, .inr (10, mF t n q co cr 0 x_1 x_2)), (q 2, aJ G 200 f1), (q 3, aJ G 200 f2), (q 4, aJ G 200 f3), (q 5, aJ G 200 f4), (q 6, aI G 200 fr), (q 7, aI G 200 to1), (q 10, aI G 320 (rg [y_180, y_186, y_172, y_5, y_194, y_157, y_184, y_157, z8, y_157, y_190, y_191, v_159, y_192, v_161, y_193])), (q 11, aZ G 16 sf_195), (q 12, aI G 2 sig)]
          refine j_aload_n X dX11_crossArc_268 rfl 6 rfl ?_
          refine j_bipush (v := 9) X dX11_crossArc_269 (by decide) ?_
          refine j_iload X dX11_crossArc_271 0 rfl ?_
          refine j_i2l X dX11_crossArc_273 rfl ?_
          refine j_iconst (v := 2) X dX11_crossArc_274 rfl ?_
          refine j_callV X dX11_crossArc_275 (c_X11_signOf_9_2 l G q t n co cr 0 x_1 x_2 y_180 y_186 y_172 y_5 y_194 y_157 y_184 y_157 z8 y_157 y_190 y_191 v_159 y_192 v_161 y_193 sf_195 hS_sf_195 ((1 : Int32).toInt64) c_173 (bd_mono by_157 (by decide)) (bd_mono bd_p1 (by decide)) (bd_mono by_172 (by decide))) gX11_crossArc_X11_signOf rfl hy_X11_signOf_V ⟨Nat.le_of_ble_eq_true rfl, Nat.le_of_ble_eq_true rfl⟩ 0 rfl rfl [0, 7, 8] rfl (by decide) rfl rfl (Nat.le_of_ble_eq_true rfl) ⟨Nat.le_of_ble_eq_true rfl, Nat.le_of_ble_eq_true rfl⟩ ?_
          rintro _ ⟨y_197, y_198, y_199, y_200, sf_196⟩ ⟨rfl, hS_sf_196⟩
          dsimp only at hS_sf_196
          change J p l e rm_X11_crossArc s m args below meth c Q G A 13 0 0 278 [(11, .int 1), (12, .int 0), (9, .long x_4), (7, .long x_3), (5, .long x_2), (3, .long x_1), (0, .ref (q 0)), (1, .int (nI a)), (2, .int (nI b))] [.int (rn y_157 ((1 : Int32).toInt64).toInt y_172)] [(q 0, .inr (10, mF t n q co cr 0 x_1 x_2)), (q 2, aJ G 200 f1), (q 3, aJ G 200 f2), (q 4, aJ G 200 f3), (q 5, aJ G 200 f4), (q 6, aI G 200 fr), (q 7, aI G 200 to1), (q 10, aI G 320 (rg [y_180, y_186, y_172, y_5, y_194, y_157, y_184, y_157, z8, y_157, y_197, y_198, v_159, y_199, v_161, y_200])), (q 11, aZ G 16 sf_196), (q 12, aI G 2 sig)]
          refine j_if_lt (tgt := 299) X dX11_crossArc_278 (by decide) (fun c_278 => ?_) (fun c_278 => ?_)
          · skip
            rw [i64_p] at c_278
            have hp : ¬ saP (f1 a).toInt (f2 a).toInt (f3 a).toInt (f4 a).toInt (f1 b).toInt (f2 b).toInt (f3 b).toInt (fr b).toInt (to1 b).toInt (1) := fun h => h.1 (by rw [← hD, ← hR]; exact c_278)
            refine j_iconst (v := 0) X dX11_crossArc_299 rfl ?_
            refine j_istore (L' := [(12, .int 0), (11, .int 1), (9, .long x_4), (7, .long x_3), (5, .long x_2), (3, .long x_1), (0, .ref (q 0)), (1, .int (nI a)), (2, .int (nI b))]) X dX11_crossArc_300 (by decide) rfl ?_
            refine j_iload X dX11_crossArc_302 0 rfl ?_
            refine j_if_eq (tgt := 323) X dX11_crossArc_304 (by decide) (fun _ => ?_) (fun c9 => absurd c9 (by decide))
            refine j_iinc (v := 3) (L' := [(11, .int 3), (12, .int 0), (9, .long x_4), (7, .long x_3), (5, .long x_2), (3, .long x_1), (0, .ref (q 0)), (1, .int (nI a)), (2, .int (nI b))]) X dX11_crossArc_323 1 rfl (by decide) (by decide) rfl ?_
            refine j_goto (tgt := 238) X dX11_crossArc_326 (by decide) ?_
            refine j_iload X dX11_crossArc_238 0 rfl ?_
            refine j_iconst (v := 2) X dX11_crossArc_240 rfl ?_
            refine j_icmp_ge (tgt := 329) X dX11_crossArc_241 (by decide) (fun _ => ?_) (fun c9 => absurd c9 (by decide))
            exact E.1 329 _ (0, sig, x_1, x_2, [y_180, y_186, y_172, y_5, y_194, y_157, y_184, y_157, z8, y_157, y_197, y_198, v_159, y_199, v_161, y_200], sf_196) dX11_crossArc_329 (⟨rfl, by unfold xG xsa saS; rw [cps_00 (fun h => hn h.2) (fun h => hp h.2)]; exact ⟨rfl, sgL_0 _, fun h => absurd rfl h⟩, rfl, hS_sf_196⟩) hr
          · skip
            rw [i64_p] at c_278
            have ip1 := c_278
            refine j_aload_n X dX11_crossArc_281 rfl 6 rfl ?_
            refine j_iconst (v := 4) X dX11_crossArc_282 rfl ?_
            refine j_lconst (v := 0) X dX11_crossArc_283 rfl ?_
            refine j_iload X dX11_crossArc_284 0 rfl ?_
            refine j_i2l X dX11_crossArc_286 rfl ?_
            refine j_lsub X dX11_crossArc_287 ?_
            refine j_iconst (v := 2) X dX11_crossArc_288 rfl ?_
            refine j_callV X dX11_crossArc_289 (c_X11_signOf_4_2 l G q t n co cr 0 x_1 x_2 y_180 y_186 y_172 y_5 y_194 y_157 y_184 y_157 z8 y_157 y_197 y_198 v_159 y_199 v_161 y_200 sf_196 hS_sf_196 (0 - ((1 : Int32).toInt64)) c_173 (bd_mono by_194 (by decide)) (bd_mono bd_0p (by decide)) (bd_mono by_172 (by decide))) gX11_crossArc_X11_signOf rfl hy_X11_signOf_V ⟨Nat.le_of_ble_eq_true rfl, Nat.le_of_ble_eq_true rfl⟩ 0 rfl rfl [0, 7, 8] rfl (by decide) rfl rfl (Nat.le_of_ble_eq_true rfl) ⟨Nat.le_of_ble_eq_true rfl, Nat.le_of_ble_eq_true rfl⟩ ?_
            rintro _ ⟨y_202, y_203, y_204, y_205, sf_201⟩ ⟨rfl, hS_sf_201⟩
            dsimp only at hS_sf_201
            change J p l e rm_X11_crossArc s m args below meth c Q G A 13 0 0 292 [(11, .int 1), (12, .int 0), (9, .long x_4), (7, .long x_3), (5, .long x_2), (3, .long x_1), (0, .ref (q 0)), (1, .int (nI a)), (2, .int (nI b))] [.int (rn y_194 (0 - ((1 : Int32).toInt64)).toInt y_172)] [(q 0, .inr (10, mF t n q co cr 0 x_1 x_2)), (q 2, aJ G 200 f1), (q 3, aJ G 200 f2), (q 4, aJ G 200 f3), (q 5, aJ G 200 f4), (q 6, aI G 200 fr), (q 7, aI G 200 to1), (q 10, aI G 320 (rg [y_180, y_186, y_172, y_5, y_194, y_157, y_184, y_157, z8, y_157, y_202, y_203, v_159, y_204, v_161, y_205])), (q 11, aZ G 16 sf_201), (q 12, aI G 2 sig)]
            refine j_if_lt (tgt := 299) X dX11_crossArc_292 (by decide) (fun c_292 => ?_) (fun c_292 => ?_)
            · skip
              rw [ey_194, i64_0p] at c_292
              have hp : ¬ saP (f1 a).toInt (f2 a).toInt (f3 a).toInt (f4 a).toInt (f1 b).toInt (f2 b).toInt (f3 b).toInt (fr b).toInt (to1 b).toInt (1) := fun h => h.2.1 (by rw [← hD, ← hR, ← hL]; exact c_292)
              refine j_iconst (v := 0) X dX11_crossArc_299 rfl ?_
              refine j_istore (L' := [(12, .int 0), (11, .int 1), (9, .long x_4), (7, .long x_3), (5, .long x_2), (3, .long x_1), (0, .ref (q 0)), (1, .int (nI a)), (2, .int (nI b))]) X dX11_crossArc_300 (by decide) rfl ?_
              refine j_iload X dX11_crossArc_302 0 rfl ?_
              refine j_if_eq (tgt := 323) X dX11_crossArc_304 (by decide) (fun _ => ?_) (fun c9 => absurd c9 (by decide))
              refine j_iinc (v := 3) (L' := [(11, .int 3), (12, .int 0), (9, .long x_4), (7, .long x_3), (5, .long x_2), (3, .long x_1), (0, .ref (q 0)), (1, .int (nI a)), (2, .int (nI b))]) X dX11_crossArc_323 1 rfl (by decide) (by decide) rfl ?_
              refine j_goto (tgt := 238) X dX11_crossArc_326 (by decide) ?_
              refine j_iload X dX11_crossArc_238 0 rfl ?_
              refine j_iconst (v := 2) X dX11_crossArc_240 rfl ?_
              refine j_icmp_ge (tgt := 329) X dX11_crossArc_241 (by decide) (fun _ => ?_) (fun c9 => absurd c9 (by decide))
              exact E.1 329 _ (0, sig, x_1, x_2, [y_180, y_186, y_172, y_5, y_194, y_157, y_184, y_157, z8, y_157, y_202, y_203, v_159, y_204, v_161, y_205], sf_201) dX11_crossArc_329 (⟨rfl, by unfold xG xsa saS; rw [cps_00 (fun h => hn h.2) (fun h => hp h.2)]; exact ⟨rfl, sgL_0 _, fun h => absurd rfl h⟩, rfl, hS_sf_201⟩) hr
            · skip
              rw [ey_194, i64_0p] at c_292
              have ip2 := c_292
              refine j_iconst (v := 1) X dX11_crossArc_295 rfl ?_
              refine j_goto (tgt := 300) X dX11_crossArc_296 (by decide) ?_
              refine j_istore (L' := [(12, .int 1), (11, .int 1), (9, .long x_4), (7, .long x_3), (5, .long x_2), (3, .long x_1), (0, .ref (q 0)), (1, .int (nI a)), (2, .int (nI b))]) X dX11_crossArc_300 (by decide) rfl ?_
              refine j_iload X dX11_crossArc_302 0 rfl ?_
              refine j_if_eq (tgt := 323) X dX11_crossArc_304 (by decide) (fun c9 => absurd c9 (by decide)) (fun _ => ?_)
              refine j_aload_n X dX11_crossArc_307 rfl 6 rfl ?_
              refine j_iload_n X dX11_crossArc_308 rfl 8 rfl ?_
              refine j_iload X dX11_crossArc_309 1 rfl ?_
              refine j_callV X dX11_crossArc_311 (c_X11_isOfArc_p l G q t n co cr 0 x_1 x_2 y_180 y_186 y_172 y_5 y_194 y_157 y_184 y_157 z8 y_157 y_202 y_203 v_159 y_204 v_161 y_205 sf_201 hS_sf_201 f1 f2 fr to1 b bcb hfb htb gb (bd_mono by_180 (by decide)) (bd_mono by_186 (by decide)) (bd_mono by_172 (by decide)) (bd_mono by_5 (by decide)) c_173 (bd_mono bx_1 (by decide)) (bd_mono bx_2 (by decide))) gX11_crossArc_X11_isOfArc rfl hy_X11_isOfArc_V ⟨Nat.le_of_ble_eq_true rfl, Nat.le_of_ble_eq_true rfl⟩ 0 rfl rfl [0, 1, 2, 5, 6, 7, 8] rfl (by decide) rfl rfl (Nat.le_of_ble_eq_true rfl) ⟨Nat.le_of_ble_eq_true rfl, Nat.le_of_ble_eq_true rfl⟩ ?_
              rintro _ ⟨y_207, y_208, y_209, y_210, y_211, y_212, y_213, y_214, y_215, sf_206⟩ ⟨rfl, hS_sf_206⟩
              dsimp only at hS_sf_206
              change J p l e rm_X11_crossArc s m args below meth c Q G A 13 0 0 314 [(12, .int 1), (11, .int 1), (9, .long x_4), (7, .long x_3), (5, .long x_2), (3, .long x_1), (0, .ref (q 0)), (1, .int (nI a)), (2, .int (nI b))] [.int (bI (ofA (f1 b).toInt (f2 b).toInt (fr b).toInt (to1 b).toInt y_180 y_186 y_172 y_5 x_1.toInt x_2.toInt))] [(q 0, .inr (10, mF t n q co cr 0 x_1 x_2)), (q 2, aJ G 200 f1), (q 3, aJ G 200 f2), (q 4, aJ G 200 f3), (q 5, aJ G 200 f4), (q 6, aI G 200 fr), (q 7, aI G 200 to1), (q 10, aI G 320 (rg [y_180, y_186, y_172, y_5, y_207, y_208, y_209, y_210, y_211, y_157, y_212, y_213, v_159, y_214, v_161, y_215])), (q 11, aZ G 16 sf_206), (q 12, aI G 2 sig)]
              refine j_if_eq (tgt := 323) X dX11_crossArc_314 (by decide) (fun c_314 => ?_) (fun c_314 => ?_)
              · skip
                first | simp only [bI_0, Decidable.not_not, sg_mul, sg_e0, sg_l0, sg_g0, sg_le0, sg_ge0, cmp_eq, cmp_lt, cmp_ge, cmp_gt, cmp_le, lT0, lT1] at c_314 | simp only [Int32.le_iff_toInt_le, Int32.lt_iff_toInt_lt, ← Int32.toInt_inj, iT0, iT1, iT2, iT3, iT4, iT5, iT6, iT7, iT8, iT9, iT10, iT11, iT12, iT13, iT14, iT15, iT16, iT19, iT20, iT31, iT32, iT42, iT64, iT200, iT318, iT319, iT1000, iTm1, iTm2] at c_314 | skip
                rw [hU, hV, hR, hL, tx_1, tx_2] at c_314
                have hp : ¬ saP (f1 a).toInt (f2 a).toInt (f3 a).toInt (f4 a).toInt (f1 b).toInt (f2 b).toInt (f3 b).toInt (fr b).toInt (to1 b).toInt (1) := fun h => c_314 (by have h3 := h.2.2; rw [Int.one_mul, Int.one_mul] at h3; exact h3)
                refine j_iinc (v := 3) (L' := [(11, .int 3), (12, .int 1), (9, .long x_4), (7, .long x_3), (5, .long x_2), (3, .long x_1), (0, .ref (q 0)), (1, .int (nI a)), (2, .int (nI b))]) X dX11_crossArc_323 1 rfl (by decide) (by decide) rfl ?_
                refine j_goto (tgt := 238) X dX11_crossArc_326 (by decide) ?_
                refine j_iload X dX11_crossArc_238 0 rfl ?_
                refine j_iconst (v := 2) X dX11_crossArc_240 rfl ?_
                refine j_icmp_ge (tgt := 329) X dX11_crossArc_241 (by decide) (fun _ => ?_) (fun c9 => absurd c9 (by decide))
                exact E.1 329 _ (0, sig, x_1, x_2, [y_180, y_186, y_172, y_5, y_207, y_208, y_209, y_210, y_211, y_157, y_212, y_213, v_159, y_214, v_161, y_215], sf_206) dX11_crossArc_329 (⟨rfl, by unfold xG xsa saS; rw [cps_00 (fun h => hn h.2) (fun h => hp h.2)]; exact ⟨rfl, sgL_0 _, fun h => absurd rfl h⟩, rfl, hS_sf_206⟩) hr
              · skip
                first | simp only [bI_0, Decidable.not_not, sg_mul, sg_e0, sg_l0, sg_g0, sg_le0, sg_ge0, cmp_eq, cmp_lt, cmp_ge, cmp_gt, cmp_le, lT0, lT1] at c_314 | simp only [Int32.le_iff_toInt_le, Int32.lt_iff_toInt_lt, ← Int32.toInt_inj, iT0, iT1, iT2, iT3, iT4, iT5, iT6, iT7, iT8, iT9, iT10, iT11, iT12, iT13, iT14, iT15, iT16, iT19, iT20, iT31, iT32, iT42, iT64, iT200, iT318, iT319, iT1000, iTm1, iTm2] at c_314 | skip
                rw [hU, hV, hR, hL, tx_1, tx_2] at c_314
                have hp : saP (f1 a).toInt (f2 a).toInt (f3 a).toInt (f4 a).toInt (f1 b).toInt (f2 b).toInt (f3 b).toInt (fr b).toInt (to1 b).toInt (1) := ⟨by rw [← hD, ← hR]; exact ip1, by rw [← hD, ← hR, ← hL]; exact ip2, by rw [Int.one_mul, Int.one_mul]; exact c_314⟩
                refine j_aload_n X dX11_crossArc_317 rfl 6 rfl ?_
                refine j_iload X dX11_crossArc_318 1 rfl ?_
                refine j_callV X dX11_crossArc_320 (c_X11_pointWith_0 l G q t n co cr x_1 x_2 sig 1) gX11_crossArc_X11_pointWith rfl hy_X11_pointWith_V ⟨Nat.le_of_ble_eq_true rfl, Nat.le_of_ble_eq_true rfl⟩ 0 rfl rfl [0, 9] rfl (by decide) rfl rfl (Nat.le_of_ble_eq_true rfl) ⟨Nat.le_of_ble_eq_true rfl, Nat.le_of_ble_eq_true rfl⟩ ?_
                rintro _ ⟨⟩ rfl
                change J p l e rm_X11_crossArc s m args below meth c Q G A 13 0 0 323 [(12, .int 1), (11, .int 1), (9, .long x_4), (7, .long x_3), (5, .long x_2), (3, .long x_1), (0, .ref (q 0)), (1, .int (nI a)), (2, .int (nI b))] [] [(q 0, .inr (10, mF t n q co cr 1 x_1 x_2)), (q 2, aJ G 200 f1), (q 3, aJ G 200 f2), (q 4, aJ G 200 f3), (q 5, aJ G 200 f4), (q 6, aI G 200 fr), (q 7, aI G 200 to1), (q 10, aI G 320 (rg [y_180, y_186, y_172, y_5, y_207, y_208, y_209, y_210, y_211, y_157, y_212, y_213, v_159, y_214, v_161, y_215])), (q 11, aZ G 16 sf_206), (q 12, aI G 2 (upd sig 0 1))]
                refine j_iinc (v := 3) (L' := [(11, .int 3), (12, .int 1), (9, .long x_4), (7, .long x_3), (5, .long x_2), (3, .long x_1), (0, .ref (q 0)), (1, .int (nI a)), (2, .int (nI b))]) X dX11_crossArc_323 1 rfl (by decide) (by decide) rfl ?_
                refine j_goto (tgt := 238) X dX11_crossArc_326 (by decide) ?_
                refine j_iload X dX11_crossArc_238 0 rfl ?_
                refine j_iconst (v := 2) X dX11_crossArc_240 rfl ?_
                refine j_icmp_ge (tgt := 329) X dX11_crossArc_241 (by decide) (fun _ => ?_) (fun c9 => absurd c9 (by decide))
                exact E.1 329 _ (1, upd sig 0 1, x_1, x_2, [y_180, y_186, y_172, y_5, y_207, y_208, y_209, y_210, y_211, y_157, y_212, y_213, v_159, y_214, v_161, y_215], sf_206) dX11_crossArc_329 (⟨rfl, by unfold xG xsa saS; rw [cps_01 (fun h => hn h.2) ⟨by rw [← hR]; omega, hp⟩]; exact ⟨rfl, sgL_1 _ _, fun _ => ⟨⟨hU, hV, hR, hL⟩, tx_1, tx_2⟩⟩, rfl, hS_sf_206⟩) hr
        · skip
          first | simp only [bI_0, Decidable.not_not, sg_mul, sg_e0, sg_l0, sg_g0, sg_le0, sg_ge0, cmp_eq, cmp_lt, cmp_ge, cmp_gt, cmp_le, lT0, lT1] at c_255 | simp only [Int32.le_iff_toInt_le, Int32.lt_iff_toInt_lt, ← Int32.toInt_inj, iT0, iT1, iT2, iT3, iT4, iT5, iT6, iT7, iT8, iT9, iT10, iT11, iT12, iT13, iT14, iT15, iT16, iT19, iT20, iT31, iT32, iT42, iT64, iT200, iT318, iT319, iT1000, iTm1, iTm2] at c_255 | skip
          have hz := c_255
          exact E.1 258 _ (0, sig, x_1, x_2, [y_180, y_186, y_172, y_5, y_187, y_157, y_184, y_157, z8, y_157, y_190, y_191, v_159, y_192, v_161, y_193], sf_189) dX11_crossArc_258 (⟨rfl, by unfold xG xsa saS; rw [cps_00 (fun h => hn h.2) (fun h => absurd h.1 (by rw [← hR, hz]; decide))]; exact ⟨rfl, sgL_0 _, fun h => absurd rfl h⟩, rfl, hS_sf_189⟩) hr
      · skip
        rw [i64_n] at c_278
        have in1 := c_278
        refine j_aload_n X dX11_crossArc_281 rfl 5 rfl ?_
        refine j_iconst (v := 4) X dX11_crossArc_282 rfl ?_
        refine j_lconst (v := 0) X dX11_crossArc_283 rfl ?_
        refine j_iload X dX11_crossArc_284 0 rfl ?_
        refine j_i2l X dX11_crossArc_286 rfl ?_
        refine j_lsub X dX11_crossArc_287 ?_
        refine j_iconst (v := 2) X dX11_crossArc_288 rfl ?_
        refine j_callV X dX11_crossArc_289 (c_X11_signOf_4_2 l G q t n co cr 0 x_1 x_2 y_180 y_186 y_172 y_5 y_187 y_157 y_184 y_157 z8 y_157 y_190 y_191 v_159 y_192 v_161 y_193 sf_189 hS_sf_189 (0 - ((-1 : Int32).toInt64)) c_173 (bd_mono by_187 (by decide)) (bd_mono bd_0n (by decide)) (bd_mono by_172 (by decide))) gX11_crossArc_X11_signOf rfl hy_X11_signOf_V ⟨Nat.le_of_ble_eq_true rfl, Nat.le_of_ble_eq_true rfl⟩ 0 rfl rfl [0, 7, 8] rfl (by decide) rfl rfl (Nat.le_of_ble_eq_true rfl) ⟨Nat.le_of_ble_eq_true rfl, Nat.le_of_ble_eq_true rfl⟩ ?_
        rintro _ ⟨y_217, y_218, y_219, y_220, sf_216⟩ ⟨rfl, hS_sf_216⟩
        dsimp only at hS_sf_216
        change J p l e rm_X11_crossArc s m args below meth c Q G A 13 0 0 292 [(11, .int (-1)), (9, .long x_4), (7, .long x_3), (5, .long x_2), (3, .long x_1), (0, .ref (q 0)), (1, .int (nI a)), (2, .int (nI b))] [.int (rn y_187 (0 - ((-1 : Int32).toInt64)).toInt y_172)] [(q 0, .inr (10, mF t n q co cr 0 x_1 x_2)), (q 2, aJ G 200 f1), (q 3, aJ G 200 f2), (q 4, aJ G 200 f3), (q 5, aJ G 200 f4), (q 6, aI G 200 fr), (q 7, aI G 200 to1), (q 10, aI G 320 (rg [y_180, y_186, y_172, y_5, y_187, y_157, y_184, y_157, z8, y_157, y_217, y_218, v_159, y_219, v_161, y_220])), (q 11, aZ G 16 sf_216), (q 12, aI G 2 sig)]
        refine j_if_lt (tgt := 299) X dX11_crossArc_292 (by decide) (fun c_292 => ?_) (fun c_292 => ?_)
        · skip
          rw [ey_187, i64_0n] at c_292
          have hn : ¬ saP (f1 a).toInt (f2 a).toInt (f3 a).toInt (f4 a).toInt (f1 b).toInt (f2 b).toInt (f3 b).toInt (fr b).toInt (to1 b).toInt (-1) := fun h => h.2.1 (by rw [← hD, ← hR, ← hL]; exact c_292)
          refine j_iconst (v := 0) X dX11_crossArc_299 rfl ?_
          refine j_istore (L' := [(12, .int 0), (11, .int (-1)), (9, .long x_4), (7, .long x_3), (5, .long x_2), (3, .long x_1), (0, .ref (q 0)), (1, .int (nI a)), (2, .int (nI b))]) X dX11_crossArc_300 (by decide) rfl ?_
          refine j_iload X dX11_crossArc_302 0 rfl ?_
          refine j_if_eq (tgt := 323) X dX11_crossArc_304 (by decide) (fun _ => ?_) (fun c9 => absurd c9 (by decide))
          refine j_iinc (v := 1) (L' := [(11, .int 1), (12, .int 0), (9, .long x_4), (7, .long x_3), (5, .long x_2), (3, .long x_1), (0, .ref (q 0)), (1, .int (nI a)), (2, .int (nI b))]) X dX11_crossArc_323 1 rfl (by decide) (by decide) rfl ?_
          refine j_goto (tgt := 238) X dX11_crossArc_326 (by decide) ?_
          refine j_iload X dX11_crossArc_238 0 rfl ?_
          refine j_iconst (v := 2) X dX11_crossArc_240 rfl ?_
          refine j_icmp_ge (tgt := 329) X dX11_crossArc_241 (by decide) (fun c9 => absurd c9 (by decide)) (fun _ => ?_)
          refine j_iload X dX11_crossArc_244 0 rfl ?_
          refine j_iconst (v := 1) X dX11_crossArc_246 rfl ?_
          refine j_icmp_ne (tgt := 259) X dX11_crossArc_247 (by decide) (fun c9 => absurd c9 (by decide)) (fun _ => ?_)
          refine j_aload_n X dX11_crossArc_250 rfl 6 rfl ?_
          refine j_iconst (v := 2) X dX11_crossArc_251 rfl ?_
          refine j_callV X dX11_crossArc_252 (c_X11_sign l G q t n co cr 0 x_1 x_2 [y_180, y_186, y_172, y_5, y_187, y_157, y_184, y_157, z8, y_157, y_217, y_218, v_159, y_219, v_161, y_220] rfl sf_216 2 2 rfl (by decide) (hS_sf_216 2 (by decide)) (bd_lt by_172 (by decide))) gX11_crossArc_X11_sign rfl hy_X11_sign_V ⟨Nat.le_of_ble_eq_true rfl, Nat.le_of_ble_eq_true rfl⟩ 0 rfl rfl [0, 7, 8] rfl (by decide) rfl rfl (Nat.le_of_ble_eq_true rfl) ⟨Nat.le_of_ble_eq_true rfl, Nat.le_of_ble_eq_true rfl⟩ ?_
          rintro _ ⟨⟩ rfl
          change J p l e rm_X11_crossArc s m args below meth c Q G A 13 0 0 255 [(11, .int 1), (12, .int 0), (9, .long x_4), (7, .long x_3), (5, .long x_2), (3, .long x_1), (0, .ref (q 0)), (1, .int (nI a)), (2, .int (nI b))] [.int (sg y_172)] [(q 0, .inr (10, mF t n q co cr 0 x_1 x_2)), (q 2, aJ G 200 f1), (q 3, aJ G 200 f2), (q 4, aJ G 200 f3), (q 5, aJ G 200 f4), (q 6, aI G 200 fr), (q 7, aI G 200 to1), (q 10, aI G 320 (rg [y_180, y_186, y_172, y_5, y_187, y_157, y_184, y_157, z8, y_157, y_217, y_218, v_159, y_219, v_161, y_220])), (q 11, aZ G 16 sf_216), (q 12, aI G 2 sig)]
          refine j_if_ne (tgt := 259) X dX11_crossArc_255 (by decide) (fun c_255 => ?_) (fun c_255 => ?_)
          · skip
            first | simp only [bI_0, Decidable.not_not, sg_mul, sg_e0, sg_l0, sg_g0, sg_le0, sg_ge0, cmp_eq, cmp_lt, cmp_ge, cmp_gt, cmp_le, lT0, lT1] at c_255 | simp only [Int32.le_iff_toInt_le, Int32.lt_iff_toInt_lt, ← Int32.toInt_inj, iT0, iT1, iT2, iT3, iT4, iT5, iT6, iT7, iT8, iT9, iT10, iT11, iT12, iT13, iT14, iT15, iT16, iT19, iT20, iT31, iT32, iT42, iT64, iT200, iT318, iT319, iT1000, iTm1, iTm2] at c_255 | skip
            have hnz := c_255
            refine j_aload_n X dX11_crossArc_259 rfl 6 rfl ?_
            refine j_iconst (v := 4) X dX11_crossArc_260 rfl ?_
            refine j_iconst (v := 3) X dX11_crossArc_261 rfl ?_
            refine j_bipush (v := 9) X dX11_crossArc_262 (by decide) ?_
            refine j_iconst (v := 1) X dX11_crossArc_264 rfl ?_
            obtain ⟨y_221, ey_221⟩ : ∃ zz9 : Int, zz9 = y_5 - y_157 := ⟨_, rfl⟩
            have by_221 : bd 84 y_221 := by rw [ey_221]; exact bd_sub (bd_mono by_5 (by decide)) (bd_mono by_157 (by decide))
            refine j_callV X dX11_crossArc_265 (n_join l G q t n co cr 0 x_1 x_2 [y_180, y_186, y_172, y_5, y_187, y_157, y_184, y_157, z8, y_157, y_217, y_218, v_159, y_219, v_161, y_220] sf_216 rfl hS_sf_216 4 4 rfl (by decide) 3 3 rfl (by decide) 9 9 rfl (by decide) 1 (Or.inr rfl) (by decide) (by decide) y_221 ey_221 by_5 by_157 (by decide) (by decide)) gX11_crossArc_X11_join rfl hy_X11_join_V ⟨Nat.le_of_ble_eq_true rfl, Nat.le_of_ble_eq_true rfl⟩ 0 rfl rfl [0, 7, 8] rfl (by decide) rfl rfl (Nat.le_of_ble_eq_true rfl) ⟨Nat.le_of_ble_eq_true rfl, Nat.le_of_ble_eq_true rfl⟩ ?_
            rintro _ sf_222 ⟨rfl, hS_sf_222⟩
            change J p l e rm_X11_crossArc s m args below meth c Q G A 13 0 0 268 [(11, .int 1), (12, .int 0), (9, .long x_4), (7, .long x_3), (5, .long x_2), (3, .long x_1), (0, .ref (q 0)), (1, .int (nI a)), (2, .int (nI b))] [] [(q 0, .inr (10, mF t n q co cr 0 x_1 x_2)), (q 2, aJ G 200 f1), (q 3, aJ G 200 f2), (q 4, aJ G 200 f3), (q 5, aJ G 200 f4), (q 6, aI G 200 fr), (q 7, aI G 200 to1), (q 10, aI G 320 (rg [y_180, y_186, y_172, y_5, y_221, y_157, y_184, y_157, z8, y_157, y_217, y_218, v_159, y_219, v_161, y_220])), (q 11, aZ G 16 sf_222), (q 12, aI G 2 sig)]
            refine j_aload_n X dX11_crossArc_268 rfl 6 rfl ?_
            refine j_bipush (v := 9) X dX11_crossArc_269 (by decide) ?_
            refine j_iload X dX11_crossArc_271 0 rfl ?_
            refine j_i2l X dX11_crossArc_273 rfl ?_
            refine j_iconst (v := 2) X dX11_crossArc_274 rfl ?_
            refine j_callV X dX11_crossArc_275 (c_X11_signOf_9_2 l G q t n co cr 0 x_1 x_2 y_180 y_186 y_172 y_5 y_221 y_157 y_184 y_157 z8 y_157 y_217 y_218 v_159 y_219 v_161 y_220 sf_222 hS_sf_222 ((1 : Int32).toInt64) c_173 (bd_mono by_157 (by decide)) (bd_mono bd_p1 (by decide)) (bd_mono by_172 (by decide))) gX11_crossArc_X11_signOf rfl hy_X11_signOf_V ⟨Nat.le_of_ble_eq_true rfl, Nat.le_of_ble_eq_true rfl⟩ 0 rfl rfl [0, 7, 8] rfl (by decide) rfl rfl (Nat.le_of_ble_eq_true rfl) ⟨Nat.le_of_ble_eq_true rfl, Nat.le_of_ble_eq_true rfl⟩ ?_
            rintro _ ⟨y_224, y_225, y_226, y_227, sf_223⟩ ⟨rfl, hS_sf_223⟩
            dsimp only at hS_sf_223
            change J p l e rm_X11_crossArc s m args below meth c Q G A 13 0 0 278 [(11, .int 1), (12, .int 0), (9, .long x_4), (7, .long x_3), (5, .long x_2), (3, .long x_1), (0, .ref (q 0)), (1, .int (nI a)), (2, .int (nI b))] [.int (rn y_157 ((1 : Int32).toInt64).toInt y_172)] [(q 0, .inr (10, mF t n q co cr 0 x_1 x_2)), (q 2, aJ G 200 f1), (q 3, aJ G 200 f2), (q 4, aJ G 200 f3), (q 5, aJ G 200 f4), (q 6, aI G 200 fr), (q 7, aI G 200 to1), (q 10, aI G 320 (rg [y_180, y_186, y_172, y_5, y_221, y_157, y_184, y_157, z8, y_157, y_224, y_225, v_159, y_226, v_161, y_227])), (q 11, aZ G 16 sf_223), (q 12, aI G 2 sig)]
            refine j_if_lt (tgt := 299) X dX11_crossArc_278 (by decide) (fun c_278 => ?_) (fun c_278 => ?_)
            · skip
              rw [i64_p] at c_278
              have hp : ¬ saP (f1 a).toInt (f2 a).toInt (f3 a).toInt (f4 a).toInt (f1 b).toInt (f2 b).toInt (f3 b).toInt (fr b).toInt (to1 b).toInt (1) := fun h => h.1 (by rw [← hD, ← hR]; exact c_278)
              refine j_iconst (v := 0) X dX11_crossArc_299 rfl ?_
              refine j_istore (L' := [(12, .int 0), (11, .int 1), (9, .long x_4), (7, .long x_3), (5, .long x_2), (3, .long x_1), (0, .ref (q 0)), (1, .int (nI a)), (2, .int (nI b))]) X dX11_crossArc_300 (by decide) rfl ?_
              refine j_iload X dX11_crossArc_302 0 rfl ?_
              refine j_if_eq (tgt := 323) X dX11_crossArc_304 (by decide) (fun _ => ?_) (fun c9 => absurd c9 (by decide))
              refine j_iinc (v := 3) (L' := [(11, .int 3), (12, .int 0), (9, .long x_4), (7, .long x_3), (5, .long x_2), (3, .long x_1), (0, .ref (q 0)), (1, .int (nI a)), (2, .int (nI b))]) X dX11_crossArc_323 1 rfl (by decide) (by decide) rfl ?_
              refine j_goto (tgt := 238) X dX11_crossArc_326 (by decide) ?_
              refine j_iload X dX11_crossArc_238 0 rfl ?_
              refine j_iconst (v := 2) X dX11_crossArc_240 rfl ?_
              refine j_icmp_ge (tgt := 329) X dX11_crossArc_241 (by decide) (fun _ => ?_) (fun c9 => absurd c9 (by decide))
              exact E.1 329 _ (0, sig, x_1, x_2, [y_180, y_186, y_172, y_5, y_221, y_157, y_184, y_157, z8, y_157, y_224, y_225, v_159, y_226, v_161, y_227], sf_223) dX11_crossArc_329 (⟨rfl, by unfold xG xsa saS; rw [cps_00 (fun h => hn h.2) (fun h => hp h.2)]; exact ⟨rfl, sgL_0 _, fun h => absurd rfl h⟩, rfl, hS_sf_223⟩) hr
            · skip
              rw [i64_p] at c_278
              have ip1 := c_278
              refine j_aload_n X dX11_crossArc_281 rfl 6 rfl ?_
              refine j_iconst (v := 4) X dX11_crossArc_282 rfl ?_
              refine j_lconst (v := 0) X dX11_crossArc_283 rfl ?_
              refine j_iload X dX11_crossArc_284 0 rfl ?_
              refine j_i2l X dX11_crossArc_286 rfl ?_
              refine j_lsub X dX11_crossArc_287 ?_
              refine j_iconst (v := 2) X dX11_crossArc_288 rfl ?_
              refine j_callV X dX11_crossArc_289 (c_X11_signOf_4_2 l G q t n co cr 0 x_1 x_2 y_180 y_186 y_172 y_5 y_221 y_157 y_184 y_157 z8 y_157 y_224 y_225 v_159 y_226 v_161 y_227 sf_223 hS_sf_223 (0 - ((1 : Int32).toInt64)) c_173 (bd_mono by_221 (by decide)) (bd_mono bd_0p (by decide)) (bd_mono by_172 (by decide))) gX11_crossArc_X11_signOf rfl hy_X11_signOf_V ⟨Nat.le_of_ble_eq_true rfl, Nat.le_of_ble_eq_true rfl⟩ 0 rfl rfl [0, 7, 8] rfl (by decide) rfl rfl (Nat.le_of_ble_eq_true rfl) ⟨Nat.le_of_ble_eq_true rfl, Nat.le_of_ble_eq_true rfl⟩ ?_
              rintro _ ⟨y_229, y_230, y_231, y_232, sf_228⟩ ⟨rfl, hS_sf_228⟩
              dsimp only at hS_sf_228
              change J p l e rm_X11_crossArc s m args below meth c Q G A 13 0 0 292 [(11, .int 1), (12, .int 0), (9, .long x_4), (7, .long x_3), (5, .long x_2), (3, .long x_1), (0, .ref (q 0)), (1, .int (nI a)), (2, .int (nI b))] [.int (rn y_221 (0 - ((1 : Int32).toInt64)).toInt y_172)] [(q 0, .inr (10, mF t n q co cr 0 x_1 x_2)), (q 2, aJ G 200 f1), (q 3, aJ G 200 f2), (q 4, aJ G 200 f3), (q 5, aJ G 200 f4), (q 6, aI G 200 fr), (q 7, aI G 200 to1), (q 10, aI G 320 (rg [y_180, y_186, y_172, y_5, y_221, y_157, y_184, y_157, z8, y_157, y_229, y_230, v_159, y_231, v_161, y_232])), (q 11, aZ G 16 sf_228), (q 12, aI G 2 sig)]
              refine j_if_lt (tgt := 299) X dX11_crossArc_292 (by decide) (fun c_292 => ?_) (fun c_292 => ?_)
              · skip
                rw [ey_221, i64_0p] at c_292
                have hp : ¬ saP (f1 a).toInt (f2 a).toInt (f3 a).toInt (f4 a).toInt (f1 b).toInt (f2 b).toInt (f3 b).toInt (fr b).toInt (to1 b).toInt (1) := fun h => h.2.1 (by rw [← hD, ← hR, ← hL]; exact c_292)
                refine j_iconst (v := 0) X dX11_crossArc_299 rfl ?_
                refine j_istore (L' := [(12, .int 0), (11, .int 1), (9, .long x_4), (7, .long x_3), (5, .long x_2), (3, .long x_1), (0, .ref (q 0)), (1, .int (nI a)), (2, .int (nI b))]) X dX11_crossArc_300 (by decide) rfl ?_
                refine j_iload X dX11_crossArc_302 0 rfl ?_
                refine j_if_eq (tgt := 323) X dX11_crossArc_304 (by decide) (fun _ => ?_) (fun c9 => absurd c9 (by decide))
                refine j_iinc (v := 3) (L' := [(11, .int 3), (12, .int 0), (9, .long x_4), (7, .long x_3), (5, .long x_2), (3, .long x_1), (0, .ref (q 0)), (1, .int (nI a)), (2, .int (nI b))]) X dX11_crossArc_323 1 rfl (by decide) (by decide) rfl ?_
                refine j_goto (tgt := 238) X dX11_crossArc_326 (by decide) ?_
                refine j_iload X dX11_crossArc_238 0 rfl ?_
                refine j_iconst (v := 2) X dX11_crossArc_240 rfl ?_
                refine j_icmp_ge (tgt := 329) X dX11_crossArc_241 (by decide) (fun _ => ?_) (fun c9 => absurd c9 (by decide))
                exact E.1 329 _ (0, sig, x_1, x_2, [y_180, y_186, y_172, y_5, y_221, y_157, y_184, y_157, z8, y_157, y_229, y_230, v_159, y_231, v_161, y_232], sf_228) dX11_crossArc_329 (⟨rfl, by unfold xG xsa saS; rw [cps_00 (fun h => hn h.2) (fun h => hp h.2)]; exact ⟨rfl, sgL_0 _, fun h => absurd rfl h⟩, rfl, hS_sf_228⟩) hr
              · skip
                rw [ey_221, i64_0p] at c_292
                have ip2 := c_292
                refine j_iconst (v := 1) X dX11_crossArc_295 rfl ?_
                refine j_goto (tgt := 300) X dX11_crossArc_296 (by decide) ?_
                refine j_istore (L' := [(12, .int 1), (11, .int 1), (9, .long x_4), (7, .long x_3), (5, .long x_2), (3, .long x_1), (0, .ref (q 0)), (1, .int (nI a)), (2, .int (nI b))]) X dX11_crossArc_300 (by decide) rfl ?_
                refine j_iload X dX11_crossArc_302 0 rfl ?_
                refine j_if_eq (tgt := 323) X dX11_crossArc_304 (by decide) (fun c9 => absurd c9 (by decide)) (fun _ => ?_)
                refine j_aload_n X dX11_crossArc_307 rfl 6 rfl ?_
                refine j_iload_n X dX11_crossArc_308 rfl 8 rfl ?_
                refine j_iload X dX11_crossArc_309 1 rfl ?_
                refine j_callV X dX11_crossArc_311 (c_X11_isOfArc_p l G q t n co cr 0 x_1 x_2 y_180 y_186 y_172 y_5 y_221 y_157 y_184 y_157 z8 y_157 y_229 y_230 v_159 y_231 v_161 y_232 sf_228 hS_sf_228 f1 f2 fr to1 b bcb hfb htb gb (bd_mono by_180 (by decide)) (bd_mono by_186 (by decide)) (bd_mono by_172 (by decide)) (bd_mono by_5 (by decide)) c_173 (bd_mono bx_1 (by decide)) (bd_mono bx_2 (by decide))) gX11_crossArc_X11_isOfArc rfl hy_X11_isOfArc_V ⟨Nat.le_of_ble_eq_true rfl, Nat.le_of_ble_eq_true rfl⟩ 0 rfl rfl [0, 1, 2, 5, 6, 7, 8] rfl (by decide) rfl rfl (Nat.le_of_ble_eq_true rfl) ⟨Nat.le_of_ble_eq_true rfl, Nat.le_of_ble_eq_true rfl⟩ ?_
                rintro _ ⟨y_234, y_235, y_236, y_237, y_238, y_239, y_240, y_241, y_242, sf_233⟩ ⟨rfl, hS_sf_233⟩
                dsimp only at hS_sf_233
                change J p l e rm_X11_crossArc s m args below meth c Q G A 13 0 0 314 [(12, .int 1), (11, .int 1), (9, .long x_4), (7, .long x_3), (5, .long x_2), (3, .long x_1), (0, .ref (q 0)), (1, .int (nI a)), (2, .int (nI b))] [.int (bI (ofA (f1 b).toInt (f2 b).toInt (fr b).toInt (to1 b).toInt y_180 y_186 y_172 y_5 x_1.toInt x_2.toInt))] [(q 0, .inr (10, mF t n q co cr 0 x_1 x_2)), (q 2, aJ G 200 f1), (q 3, aJ G 200 f2), (q 4, aJ G 200 f3), (q 5, aJ G 200 f4), (q 6, aI G 200 fr), (q 7, aI G 200 to1), (q 10, aI G 320 (rg [y_180, y_186, y_172, y_5, y_234, y_235, y_236, y_237, y_238, y_157, y_239, y_240, v_159, y_241, v_161, y_242])), (q 11, aZ G 16 sf_233), (q 12, aI G 2 sig)]
                refine j_if_eq (tgt := 323) X dX11_crossArc_314 (by decide) (fun c_314 => ?_) (fun c_314 => ?_)
                · skip
                  first | simp only [bI_0, Decidable.not_not, sg_mul, sg_e0, sg_l0, sg_g0, sg_le0, sg_ge0, cmp_eq, cmp_lt, cmp_ge, cmp_gt, cmp_le, lT0, lT1] at c_314 | simp only [Int32.le_iff_toInt_le, Int32.lt_iff_toInt_lt, ← Int32.toInt_inj, iT0, iT1, iT2, iT3, iT4, iT5, iT6, iT7, iT8, iT9, iT10, iT11, iT12, iT13, iT14, iT15, iT16, iT19, iT20, iT31, iT32, iT42, iT64, iT200, iT318, iT319, iT1000, iTm1, iTm2] at c_314 | skip
                  rw [hU, hV, hR, hL, tx_1, tx_2] at c_314
                  have hp : ¬ saP (f1 a).toInt (f2 a).toInt (f3 a).toInt (f4 a).toInt (f1 b).toInt (f2 b).toInt (f3 b).toInt (fr b).toInt (to1 b).toInt (1) := fun h => c_314 (by have h3 := h.2.2; rw [Int.one_mul, Int.one_mul] at h3; exact h3)
                  refine j_iinc (v := 3) (L' := [(11, .int 3), (12, .int 1), (9, .long x_4), (7, .long x_3), (5, .long x_2), (3, .long x_1), (0, .ref (q 0)), (1, .int (nI a)), (2, .int (nI b))]) X dX11_crossArc_323 1 rfl (by decide) (by decide) rfl ?_
                  refine j_goto (tgt := 238) X dX11_crossArc_326 (by decide) ?_
                  refine j_iload X dX11_crossArc_238 0 rfl ?_
                  refine j_iconst (v := 2) X dX11_crossArc_240 rfl ?_
                  refine j_icmp_ge (tgt := 329) X dX11_crossArc_241 (by decide) (fun _ => ?_) (fun c9 => absurd c9 (by decide))
                  exact E.1 329 _ (0, sig, x_1, x_2, [y_180, y_186, y_172, y_5, y_234, y_235, y_236, y_237, y_238, y_157, y_239, y_240, v_159, y_241, v_161, y_242], sf_233) dX11_crossArc_329 (⟨rfl, by unfold xG xsa saS; rw [cps_00 (fun h => hn h.2) (fun h => hp h.2)]; exact ⟨rfl, sgL_0 _, fun h => absurd rfl h⟩, rfl, hS_sf_233⟩) hr
                · skip
                  first | simp only [bI_0, Decidable.not_not, sg_mul, sg_e0, sg_l0, sg_g0, sg_le0, sg_ge0, cmp_eq, cmp_lt, cmp_ge, cmp_gt, cmp_le, lT0, lT1] at c_314 | simp only [Int32.le_iff_toInt_le, Int32.lt_iff_toInt_lt, ← Int32.toInt_inj, iT0, iT1, iT2, iT3, iT4, iT5, iT6, iT7, iT8, iT9, iT10, iT11, iT12, iT13, iT14, iT15, iT16, iT19, iT20, iT31, iT32, iT42, iT64, iT200, iT318, iT319, iT1000, iTm1, iTm2] at c_314 | skip
                  rw [hU, hV, hR, hL, tx_1, tx_2] at c_314
                  have hp : saP (f1 a).toInt (f2 a).toInt (f3 a).toInt (f4 a).toInt (f1 b).toInt (f2 b).toInt (f3 b).toInt (fr b).toInt (to1 b).toInt (1) := ⟨by rw [← hD, ← hR]; exact ip1, by rw [← hD, ← hR, ← hL]; exact ip2, by rw [Int.one_mul, Int.one_mul]; exact c_314⟩
                  refine j_aload_n X dX11_crossArc_317 rfl 6 rfl ?_
                  refine j_iload X dX11_crossArc_318 1 rfl ?_
                  refine j_callV X dX11_crossArc_320 (c_X11_pointWith_0 l G q t n co cr x_1 x_2 sig 1) gX11_crossArc_X11_pointWith rfl hy_X11_pointWith_V ⟨Nat.le_of_ble_eq_true rfl, Nat.le_of_ble_eq_true rfl⟩ 0 rfl rfl [0, 9] rfl (by decide) rfl rfl (Nat.le_of_ble_eq_true rfl) ⟨Nat.le_of_ble_eq_true rfl, Nat.le_of_ble_eq_true rfl⟩ ?_
                  rintro _ ⟨⟩ rfl
                  change J p l e rm_X11_crossArc s m args below meth c Q G A 13 0 0 323 [(12, .int 1), (11, .int 1), (9, .long x_4), (7, .long x_3), (5, .long x_2), (3, .long x_1), (0, .ref (q 0)), (1, .int (nI a)), (2, .int (nI b))] [] [(q 0, .inr (10, mF t n q co cr 1 x_1 x_2)), (q 2, aJ G 200 f1), (q 3, aJ G 200 f2), (q 4, aJ G 200 f3), (q 5, aJ G 200 f4), (q 6, aI G 200 fr), (q 7, aI G 200 to1), (q 10, aI G 320 (rg [y_180, y_186, y_172, y_5, y_234, y_235, y_236, y_237, y_238, y_157, y_239, y_240, v_159, y_241, v_161, y_242])), (q 11, aZ G 16 sf_233), (q 12, aI G 2 (upd sig 0 1))]
                  refine j_iinc (v := 3) (L' := [(11, .int 3), (12, .int 1), (9, .long x_4), (7, .long x_3), (5, .long x_2), (3, .long x_1), (0, .ref (q 0)), (1, .int (nI a)), (2, .int (nI b))]) X dX11_crossArc_323 1 rfl (by decide) (by decide) rfl ?_
                  refine j_goto (tgt := 238) X dX11_crossArc_326 (by decide) ?_
                  refine j_iload X dX11_crossArc_238 0 rfl ?_
                  refine j_iconst (v := 2) X dX11_crossArc_240 rfl ?_
                  refine j_icmp_ge (tgt := 329) X dX11_crossArc_241 (by decide) (fun _ => ?_) (fun c9 => absurd c9 (by decide))
                  exact E.1 329 _ (1, upd sig 0 1, x_1, x_2, [y_180, y_186, y_172, y_5, y_234, y_235, y_236, y_237, y_238, y_157, y_239, y_240, v_159, y_241, v_161, y_242], sf_233) dX11_crossArc_329 (⟨rfl, by unfold xG xsa saS; rw [cps_01 (fun h => hn h.2) ⟨by rw [← hR]; omega, hp⟩]; exact ⟨rfl, sgL_1 _ _, fun _ => ⟨⟨hU, hV, hR, hL⟩, tx_1, tx_2⟩⟩, rfl, hS_sf_233⟩) hr
          · skip
            first | simp only [bI_0, Decidable.not_not, sg_mul, sg_e0, sg_l0, sg_g0, sg_le0, sg_ge0, cmp_eq, cmp_lt, cmp_ge, cmp_gt, cmp_le, lT0, lT1] at c_255 | simp only [Int32.le_iff_toInt_le, Int32.lt_iff_toInt_lt, ← Int32.toInt_inj, iT0, iT1, iT2, iT3, iT4, iT5, iT6, iT7, iT8, iT9, iT10, iT11, iT12, iT13, iT14, iT15, iT16, iT19, iT20, iT31, iT32, iT42, iT64, iT200, iT318, iT319, iT1000, iTm1, iTm2] at c_255 | skip
            have hz := c_255
            exact E.1 258 _ (0, sig, x_1, x_2, [y_180, y_186, y_172, y_5, y_187, y_157, y_184, y_157, z8, y_157, y_217, y_218, v_159, y_219, v_161, y_220], sf_216) dX11_crossArc_258 (⟨rfl, by unfold xG xsa saS; rw [cps_00 (fun h => hn h.2) (fun h => absurd h.1 (by rw [← hR, hz]; decide))]; exact ⟨rfl, sgL_0 _, fun h => absurd rfl h⟩, rfl, hS_sf_216⟩) hr
        · skip
          rw [ey_187, i64_0n] at c_292
          have in2 := c_292
          refine j_iconst (v := 1) X dX11_crossArc_295 rfl ?_
          refine j_goto (tgt := 300) X dX11_crossArc_296 (by decide) ?_
          refine j_istore (L' := [(12, .int 1), (11, .int (-1)), (9, .long x_4), (7, .long x_3), (5, .long x_2), (3, .long x_1), (0, .ref (q 0)), (1, .int (nI a)), (2, .int (nI b))]) X dX11_crossArc_300 (by decide) rfl ?_
          refine j_iload X dX11_crossArc_302 0 rfl ?_
          refine j_if_eq (tgt := 323) X dX11_crossArc_304 (by decide) (fun c9 => absurd c9 (by decide)) (fun _ => ?_)
          refine j_aload_n X dX11_crossArc_307 rfl 6 rfl ?_
          refine j_iload_n X dX11_crossArc_308 rfl 8 rfl ?_
          refine j_iload X dX11_crossArc_309 1 rfl ?_
          refine j_callV X dX11_crossArc_311 (c_X11_isOfArc_n l G q t n co cr 0 x_1 x_2 y_180 y_186 y_172 y_5 y_187 y_157 y_184 y_157 z8 y_157 y_217 y_218 v_159 y_219 v_161 y_220 sf_216 hS_sf_216 f1 f2 fr to1 b bcb hfb htb gb (bd_mono by_180 (by decide)) (bd_mono by_186 (by decide)) (bd_mono by_172 (by decide)) (bd_mono by_5 (by decide)) c_173 (bd_mono bx_1 (by decide)) (bd_mono bx_2 (by decide))) gX11_crossArc_X11_isOfArc rfl hy_X11_isOfArc_V ⟨Nat.le_of_ble_eq_true rfl, Nat.le_of_ble_eq_true rfl⟩ 0 rfl rfl [0, 1, 2, 5, 6, 7, 8] rfl (by decide) rfl rfl (Nat.le_of_ble_eq_true rfl) ⟨Nat.le_of_ble_eq_true rfl, Nat.le_of_ble_eq_true rfl⟩ ?_
          rintro _ ⟨y_244, y_245, y_246, y_247, y_248, y_249, y_250, y_251, y_252, sf_243⟩ ⟨rfl, hS_sf_243⟩
          dsimp only at hS_sf_243
          change J p l e rm_X11_crossArc s m args below meth c Q G A 13 0 0 314 [(12, .int 1), (11, .int (-1)), (9, .long x_4), (7, .long x_3), (5, .long x_2), (3, .long x_1), (0, .ref (q 0)), (1, .int (nI a)), (2, .int (nI b))] [.int (bI (ofA (f1 b).toInt (f2 b).toInt (fr b).toInt (to1 b).toInt y_180 y_186 y_172 y_5 (-x_1.toInt) (-x_2.toInt)))] [(q 0, .inr (10, mF t n q co cr 0 x_1 x_2)), (q 2, aJ G 200 f1), (q 3, aJ G 200 f2), (q 4, aJ G 200 f3), (q 5, aJ G 200 f4), (q 6, aI G 200 fr), (q 7, aI G 200 to1), (q 10, aI G 320 (rg [y_180, y_186, y_172, y_5, y_244, y_245, y_246, y_247, y_248, y_157, y_249, y_250, v_159, y_251, v_161, y_252])), (q 11, aZ G 16 sf_243), (q 12, aI G 2 sig)]
          refine j_if_eq (tgt := 323) X dX11_crossArc_314 (by decide) (fun c_314 => ?_) (fun c_314 => ?_)
          · skip
            first | simp only [bI_0, Decidable.not_not, sg_mul, sg_e0, sg_l0, sg_g0, sg_le0, sg_ge0, cmp_eq, cmp_lt, cmp_ge, cmp_gt, cmp_le, lT0, lT1] at c_314 | simp only [Int32.le_iff_toInt_le, Int32.lt_iff_toInt_lt, ← Int32.toInt_inj, iT0, iT1, iT2, iT3, iT4, iT5, iT6, iT7, iT8, iT9, iT10, iT11, iT12, iT13, iT14, iT15, iT16, iT19, iT20, iT31, iT32, iT42, iT64, iT200, iT318, iT319, iT1000, iTm1, iTm2] at c_314 | skip
            rw [hU, hV, hR, hL, tx_1, tx_2] at c_314
            have hn : ¬ saP (f1 a).toInt (f2 a).toInt (f3 a).toInt (f4 a).toInt (f1 b).toInt (f2 b).toInt (f3 b).toInt (fr b).toInt (to1 b).toInt (-1) := fun h => c_314 (by have h3 := h.2.2; rw [Int.neg_one_mul, Int.neg_one_mul] at h3; exact h3)
            refine j_iinc (v := 1) (L' := [(11, .int 1), (12, .int 1), (9, .long x_4), (7, .long x_3), (5, .long x_2), (3, .long x_1), (0, .ref (q 0)), (1, .int (nI a)), (2, .int (nI b))]) X dX11_crossArc_323 1 rfl (by decide) (by decide) rfl ?_
            refine j_goto (tgt := 238) X dX11_crossArc_326 (by decide) ?_
            refine j_iload X dX11_crossArc_238 0 rfl ?_
            refine j_iconst (v := 2) X dX11_crossArc_240 rfl ?_
            refine j_icmp_ge (tgt := 329) X dX11_crossArc_241 (by decide) (fun c9 => absurd c9 (by decide)) (fun _ => ?_)
            refine j_iload X dX11_crossArc_244 0 rfl ?_
            refine j_iconst (v := 1) X dX11_crossArc_246 rfl ?_
            refine j_icmp_ne (tgt := 259) X dX11_crossArc_247 (by decide) (fun c9 => absurd c9 (by decide)) (fun _ => ?_)
            refine j_aload_n X dX11_crossArc_250 rfl 6 rfl ?_
            refine j_iconst (v := 2) X dX11_crossArc_251 rfl ?_
            refine j_callV X dX11_crossArc_252 (c_X11_sign l G q t n co cr 0 x_1 x_2 [y_180, y_186, y_172, y_5, y_244, y_245, y_246, y_247, y_248, y_157, y_249, y_250, v_159, y_251, v_161, y_252] rfl sf_243 2 2 rfl (by decide) (hS_sf_243 2 (by decide)) (bd_lt by_172 (by decide))) gX11_crossArc_X11_sign rfl hy_X11_sign_V ⟨Nat.le_of_ble_eq_true rfl, Nat.le_of_ble_eq_true rfl⟩ 0 rfl rfl [0, 7, 8] rfl (by decide) rfl rfl (Nat.le_of_ble_eq_true rfl) ⟨Nat.le_of_ble_eq_true rfl, Nat.le_of_ble_eq_true rfl⟩ ?_
            rintro _ ⟨⟩ rfl
            change J p l e rm_X11_crossArc s m args below meth c Q G A 13 0 0 255 [(11, .int 1), (12, .int 1), (9, .long x_4), (7, .long x_3), (5, .long x_2), (3, .long x_1), (0, .ref (q 0)), (1, .int (nI a)), (2, .int (nI b))] [.int (sg y_172)] [(q 0, .inr (10, mF t n q co cr 0 x_1 x_2)), (q 2, aJ G 200 f1), (q 3, aJ G 200 f2), (q 4, aJ G 200 f3), (q 5, aJ G 200 f4), (q 6, aI G 200 fr), (q 7, aI G 200 to1), (q 10, aI G 320 (rg [y_180, y_186, y_172, y_5, y_244, y_245, y_246, y_247, y_248, y_157, y_249, y_250, v_159, y_251, v_161, y_252])), (q 11, aZ G 16 sf_243), (q 12, aI G 2 sig)]
            refine j_if_ne (tgt := 259) X dX11_crossArc_255 (by decide) (fun c_255 => ?_) (fun c_255 => ?_)
            · skip
              first | simp only [bI_0, Decidable.not_not, sg_mul, sg_e0, sg_l0, sg_g0, sg_le0, sg_ge0, cmp_eq, cmp_lt, cmp_ge, cmp_gt, cmp_le, lT0, lT1] at c_255 | simp only [Int32.le_iff_toInt_le, Int32.lt_iff_toInt_lt, ← Int32.toInt_inj, iT0, iT1, iT2, iT3, iT4, iT5, iT6, iT7, iT8, iT9, iT10, iT11, iT12, iT13, iT14, iT15, iT16, iT19, iT20, iT31, iT32, iT42, iT64, iT200, iT318, iT319, iT1000, iTm1, iTm2] at c_255 | skip
              have hnz := c_255
              refine j_aload_n X dX11_crossArc_259 rfl 6 rfl ?_
              refine j_iconst (v := 4) X dX11_crossArc_260 rfl ?_
              refine j_iconst (v := 3) X dX11_crossArc_261 rfl ?_
              refine j_bipush (v := 9) X dX11_crossArc_262 (by decide) ?_
              refine j_iconst (v := 1) X dX11_crossArc_264 rfl ?_
              obtain ⟨y_253, ey_253⟩ : ∃ zz9 : Int, zz9 = y_5 - y_157 := ⟨_, rfl⟩
              have by_253 : bd 84 y_253 := by rw [ey_253]; exact bd_sub (bd_mono by_5 (by decide)) (bd_mono by_157 (by decide))
              refine j_callV X dX11_crossArc_265 (n_join l G q t n co cr 0 x_1 x_2 [y_180, y_186, y_172, y_5, y_244, y_245, y_246, y_247, y_248, y_157, y_249, y_250, v_159, y_251, v_161, y_252] sf_243 rfl hS_sf_243 4 4 rfl (by decide) 3 3 rfl (by decide) 9 9 rfl (by decide) 1 (Or.inr rfl) (by decide) (by decide) y_253 ey_253 by_5 by_157 (by decide) (by decide)) gX11_crossArc_X11_join rfl hy_X11_join_V ⟨Nat.le_of_ble_eq_true rfl, Nat.le_of_ble_eq_true rfl⟩ 0 rfl rfl [0, 7, 8] rfl (by decide) rfl rfl (Nat.le_of_ble_eq_true rfl) ⟨Nat.le_of_ble_eq_true rfl, Nat.le_of_ble_eq_true rfl⟩ ?_
              rintro _ sf_254 ⟨rfl, hS_sf_254⟩
              change J p l e rm_X11_crossArc s m args below meth c Q G A 13 0 0 268 [(11, .int 1), (12, .int 1), (9, .long x_4), (7, .long x_3), (5, .long x_2), (3, .long x_1), (0, .ref (q 0)), (1, .int (nI a)), (2, .int (nI b))] [] [(q 0, .inr (10, mF t n q co cr 0 x_1 x_2)), (q 2, aJ G 200 f1), (q 3, aJ G 200 f2), (q 4, aJ G 200 f3), (q 5, aJ G 200 f4), (q 6, aI G 200 fr), (q 7, aI G 200 to1), (q 10, aI G 320 (rg [y_180, y_186, y_172, y_5, y_253, y_245, y_246, y_247, y_248, y_157, y_249, y_250, v_159, y_251, v_161, y_252])), (q 11, aZ G 16 sf_254), (q 12, aI G 2 sig)]
              refine j_aload_n X dX11_crossArc_268 rfl 6 rfl ?_
              refine j_bipush (v := 9) X dX11_crossArc_269 (by decide) ?_
              refine j_iload X dX11_crossArc_271 0 rfl ?_
              refine j_i2l X dX11_crossArc_273 rfl ?_
              refine j_iconst (v := 2) X dX11_crossArc_274 rfl ?_
              refine j_callV X dX11_crossArc_275 (c_X11_signOf_9_2 l G q t n co cr 0 x_1 x_2 y_180 y_186 y_172 y_5 y_253 y_245 y_246 y_247 y_248 y_157 y_249 y_250 v_159 y_251 v_161 y_252 sf_254 hS_sf_254 ((1 : Int32).toInt64) c_173 (bd_mono by_157 (by decide)) (bd_mono bd_p1 (by decide)) (bd_mono by_172 (by decide))) gX11_crossArc_X11_signOf rfl hy_X11_signOf_V ⟨Nat.le_of_ble_eq_true rfl, Nat.le_of_ble_eq_true rfl⟩ 0 rfl rfl [0, 7, 8] rfl (by decide) rfl rfl (Nat.le_of_ble_eq_true rfl) ⟨Nat.le_of_ble_eq_true rfl, Nat.le_of_ble_eq_true rfl⟩ ?_
              rintro _ ⟨y_256, y_257, y_258, y_259, sf_255⟩ ⟨rfl, hS_sf_255⟩
              dsimp only at hS_sf_255
              change J p l e rm_X11_crossArc s m args below meth c Q G A 13 0 0 278 [(11, .int 1), (12, .int 1), (9, .long x_4), (7, .long x_3), (5, .long x_2), (3, .long x_1), (0, .ref (q 0)), (1, .int (nI a)), (2, .int (nI b))] [.int (rn y_157 ((1 : Int32).toInt64).toInt y_172)] [(q 0, .inr (10, mF t n q co cr 0 x_1 x_2)), (q 2, aJ G 200 f1), (q 3, aJ G 200 f2), (q 4, aJ G 200 f3), (q 5, aJ G 200 f4), (q 6, aI G 200 fr), (q 7, aI G 200 to1), (q 10, aI G 320 (rg [y_180, y_186, y_172, y_5, y_253, y_245, y_246, y_247, y_248, y_157, y_256, y_257, v_159, y_258, v_161, y_259])), (q 11, aZ G 16 sf_255), (q 12, aI G 2 sig)]
              refine j_if_lt (tgt := 299) X dX11_crossArc_278 (by decide) (fun c_278 => ?_) (fun c_278 => ?_)
              · skip
                rw [i64_p] at c_278
                have hp : ¬ saP (f1 a).toInt (f2 a).toInt (f3 a).toInt (f4 a).toInt (f1 b).toInt (f2 b).toInt (f3 b).toInt (fr b).toInt (to1 b).toInt (1) := fun h => h.1 (by rw [← hD, ← hR]; exact c_278)
                refine j_iconst (v := 0) X dX11_crossArc_299 rfl ?_
                refine j_istore (L' := [(12, .int 0), (11, .int 1), (9, .long x_4), (7, .long x_3), (5, .long x_2), (3, .long x_1), (0, .ref (q 0)), (1, .int (nI a)), (2, .int (nI b))]) X dX11_crossArc_300 (by decide) rfl ?_
                refine j_iload X dX11_crossArc_302 0 rfl ?_
                refine j_if_eq (tgt := 323) X dX11_crossArc_304 (by decide) (fun _ => ?_) (fun c9 => absurd c9 (by decide))
                refine j_iinc (v := 3) (L' := [(11, .int 3), (12, .int 0), (9, .long x_4), (7, .long x_3), (5, .long x_2), (3, .long x_1), (0, .ref (q 0)), (1, .int (nI a)), (2, .int (nI b))]) X dX11_crossArc_323 1 rfl (by decide) (by decide) rfl ?_
                refine j_goto (tgt := 238) X dX11_crossArc_326 (by decide) ?_
                refine j_iload X dX11_crossArc_238 0 rfl ?_
                refine j_iconst (v := 2) X dX11_crossArc_240 rfl ?_
                refine j_icmp_ge (tgt := 329) X dX11_crossArc_241 (by decide) (fun _ => ?_) (fun c9 => absurd c9 (by decide))
                exact E.1 329 _ (0, sig, x_1, x_2, [y_180, y_186, y_172, y_5, y_253, y_245, y_246, y_247, y_248, y_157, y_256, y_257, v_159, y_258, v_161, y_259], sf_255) dX11_crossArc_329 (⟨rfl, by unfold xG xsa saS; rw [cps_00 (fun h => hn h.2) (fun h => hp h.2)]; exact ⟨rfl, sgL_0 _, fun h => absurd rfl h⟩, rfl, hS_sf_255⟩) hr
              · skip
                rw [i64_p] at c_278
                have ip1 := c_278
                refine j_aload_n X dX11_crossArc_281 rfl 6 rfl ?_
                refine j_iconst (v := 4) X dX11_crossArc_282 rfl ?_
                refine j_lconst (v := 0) X dX11_crossArc_283 rfl ?_
                refine j_iload X dX11_crossArc_284 0 rfl ?_
                refine j_i2l X dX11_crossArc_286 rfl ?_
                refine j_lsub X dX11_crossArc_287 ?_
                refine j_iconst (v := 2) X dX11_crossArc_288 rfl ?_
                refine j_callV X dX11_crossArc_289 (c_X11_signOf_4_2 l G q t n co cr 0 x_1 x_2 y_180 y_186 y_172 y_5 y_253 y_245 y_246 y_247 y_248 y_157 y_256 y_257 v_159 y_258 v_161 y_259 sf_255 hS_sf_255 (0 - ((1 : Int32).toInt64)) c_173 (bd_mono by_253 (by decide)) (bd_mono bd_0p (by decide)) (bd_mono by_172 (by decide))) gX11_crossArc_X11_signOf rfl hy_X11_signOf_V ⟨Nat.le_of_ble_eq_true rfl, Nat.le_of_ble_eq_true rfl⟩ 0 rfl rfl [0, 7, 8] rfl (by decide) rfl rfl (Nat.le_of_ble_eq_true rfl) ⟨Nat.le_of_ble_eq_true rfl, Nat.le_of_ble_eq_true rfl⟩ ?_
                rintro _ ⟨y_261, y_262, y_263, y_264, sf_260⟩ ⟨rfl, hS_sf_260⟩
                dsimp only at hS_sf_260
                change J p l e rm_X11_crossArc s m args below meth c Q G A 13 0 0 292 [(11, .int 1), (12, .int 1), (9, .long x_4), (7, .long x_3), (5, .long x_2), (3, .long x_1), (0, .ref (q 0)), (1, .int (nI a)), (2, .int (nI b))] [.int (rn y_253 (0 - ((1 : Int32).toInt64)).toInt y_172)] [(q 0, .inr (10, mF t n q co cr 0 x_1 x_2)), (q 2, aJ G 200 f1), (q 3, aJ G 200 f2), (q 4, aJ G 200 f3), (q 5, aJ G 200 f4), (q 6, aI G 200 fr), (q 7, aI G 200 to1), (q 10, aI G 320 (rg [y_180, y_186, y_172, y_5, y_253, y_245, y_246, y_247, y_248, y_157, y_261, y_262, v_159, y_263, v_161, y_264])), (q 11, aZ G 16 sf_260), (q 12, aI G 2 sig)]
                refine j_if_lt (tgt := 299) X dX11_crossArc_292 (by decide) (fun c_292 => ?_) (fun c_292 => ?_)
                · skip
                  rw [ey_253, i64_0p] at c_292
                  have hp : ¬ saP (f1 a).toInt (f2 a).toInt (f3 a).toInt (f4 a).toInt (f1 b).toInt (f2 b).toInt (f3 b).toInt (fr b).toInt (to1 b).toInt (1) := fun h => h.2.1 (by rw [← hD, ← hR, ← hL]; exact c_292)
                  refine j_iconst (v := 0) X dX11_crossArc_299 rfl ?_
                  refine j_istore (L' := [(12, .int 0), (11, .int 1), (9, .long x_4), (7, .long x_3), (5, .long x_2), (3, .long x_1), (0, .ref (q 0)), (1, .int (nI a)), (2, .int (nI b))]) X dX11_crossArc_300 (by decide) rfl ?_
                  refine j_iload X dX11_crossArc_302 0 rfl ?_
                  refine j_if_eq (tgt := 323) X dX11_crossArc_304 (by decide) (fun _ => ?_) (fun c9 => absurd c9 (by decide))
                  refine j_iinc (v := 3) (L' := [(11, .int 3), (12, .int 0), (9, .long x_4), (7, .long x_3), (5, .long x_2), (3, .long x_1), (0, .ref (q 0)), (1, .int (nI a)), (2, .int (nI b))]) X dX11_crossArc_323 1 rfl (by decide) (by decide) rfl ?_
                  refine j_goto (tgt := 238) X dX11_crossArc_326 (by decide) ?_
                  refine j_iload X dX11_crossArc_238 0 rfl ?_
                  refine j_iconst (v := 2) X dX11_crossArc_240 rfl ?_
                  refine j_icmp_ge (tgt := 329) X dX11_crossArc_241 (by decide) (fun _ => ?_) (fun c9 => absurd c9 (by decide))
                  exact E.1 329 _ (0, sig, x_1, x_2, [y_180, y_186, y_172, y_5, y_253, y_245, y_246, y_247, y_248, y_157, y_261, y_262, v_159, y_263, v_161, y_264], sf_260) dX11_crossArc_329 (⟨rfl, by unfold xG xsa saS; rw [cps_00 (fun h => hn h.2) (fun h => hp h.2)]; exact ⟨rfl, sgL_0 _, fun h => absurd rfl h⟩, rfl, hS_sf_260⟩) hr
                · skip
                  rw [ey_253, i64_0p] at c_292
                  have ip2 := c_292
                  refine j_iconst (v := 1) X dX11_crossArc_295 rfl ?_
                  refine j_goto (tgt := 300) X dX11_crossArc_296 (by decide) ?_
                  refine j_istore (L' := [(12, .int 1), (11, .int 1), (9, .long x_4), (7, .long x_3), (5, .long x_2), (3, .long x_1), (0, .ref (q 0)), (1, .int (nI a)), (2, .int (nI b))]) X dX11_crossArc_300 (by decide) rfl ?_
                  refine j_iload X dX11_crossArc_302 0 rfl ?_
                  refine j_if_eq (tgt := 323) X dX11_crossArc_304 (by decide) (fun c9 => absurd c9 (by decide)) (fun _ => ?_)
                  refine j_aload_n X dX11_crossArc_307 rfl 6 rfl ?_
                  refine j_iload_n X dX11_crossArc_308 rfl 8 rfl ?_
                  refine j_iload X dX11_crossArc_309 1 rfl ?_
                  refine j_callV X dX11_crossArc_311 (c_X11_isOfArc_p l G q t n co cr 0 x_1 x_2 y_180 y_186 y_172 y_5 y_253 y_245 y_246 y_247 y_248 y_157 y_261 y_262 v_159 y_263 v_161 y_264 sf_260 hS_sf_260 f1 f2 fr to1 b bcb hfb htb gb (bd_mono by_180 (by decide)) (bd_mono by_186 (by decide)) (bd_mono by_172 (by decide)) (bd_mono by_5 (by decide)) c_173 (bd_mono bx_1 (by decide)) (bd_mono bx_2 (by decide))) gX11_crossArc_X11_isOfArc rfl hy_X11_isOfArc_V ⟨Nat.le_of_ble_eq_true rfl, Nat.le_of_ble_eq_true rfl⟩ 0 rfl rfl [0, 1, 2, 5, 6, 7, 8] rfl (by decide) rfl rfl (Nat.le_of_ble_eq_true rfl) ⟨Nat.le_of_ble_eq_true rfl, Nat.le_of_ble_eq_true rfl⟩ ?_
                  rintro _ ⟨y_266, y_267, y_268, y_269, y_270, y_271, y_272, y_273, y_274, sf_265⟩ ⟨rfl, hS_sf_265⟩
                  dsimp only at hS_sf_265
                  change J p l e rm_X11_crossArc s m args below meth c Q G A 13 0 0 314 [(12, .int 1), (11, .int 1), (9, .long x_4), (7, .long x_3), (5, .long x_2), (3, .long x_1), (0, .ref (q 0)), (1, .int (nI a)), (2, .int (nI b))] [.int (bI (ofA (f1 b).toInt (f2 b).toInt (fr b).toInt (to1 b).toInt y_180 y_186 y_172 y_5 x_1.toInt x_2.toInt))] [(q 0, .inr (10, mF t n q co cr 0 x_1 x_2)), (q 2, aJ G 200 f1), (q 3, aJ G 200 f2), (q 4, aJ G 200 f3), (q 5, aJ G 200 f4), (q 6, aI G 200 fr), (q 7, aI G 200 to1), (q 10, aI G 320 (rg [y_180, y_186, y_172, y_5, y_266, y_267, y_268, y_269, y_270, y_157, y_271, y_272, v_159, y_273, v_161, y_274])), (q 11, aZ G 16 sf_265), (q 12, aI G 2 sig)]
                  refine j_if_eq (tgt := 323) X dX11_crossArc_314 (by decide) (fun c_314 => ?_) (fun c_314 => ?_)
                  · skip
                    first | simp only [bI_0, Decidable.not_not, sg_mul, sg_e0, sg_l0, sg_g0, sg_le0, sg_ge0, cmp_eq, cmp_lt, cmp_ge, cmp_gt, cmp_le, lT0, lT1] at c_314 | simp only [Int32.le_iff_toInt_le, Int32.lt_iff_toInt_lt, ← Int32.toInt_inj, iT0, iT1, iT2, iT3, iT4, iT5, iT6, iT7, iT8, iT9, iT10, iT11, iT12, iT13, iT14, iT15, iT16, iT19, iT20, iT31, iT32, iT42, iT64, iT200, iT318, iT319, iT1000, iTm1, iTm2] at c_314 | skip
                    rw [hU, hV, hR, hL, tx_1, tx_2] at c_314
                    have hp : ¬ saP (f1 a).toInt (f2 a).toInt (f3 a).toInt (f4 a).toInt (f1 b).toInt (f2 b).toInt (f3 b).toInt (fr b).toInt (to1 b).toInt (1) := fun h => c_314 (by have h3 := h.2.2; rw [Int.one_mul, Int.one_mul] at h3; exact h3)
                    refine j_iinc (v := 3) (L' := [(11, .int 3), (12, .int 1), (9, .long x_4), (7, .long x_3), (5, .long x_2), (3, .long x_1), (0, .ref (q 0)), (1, .int (nI a)), (2, .int (nI b))]) X dX11_crossArc_323 1 rfl (by decide) (by decide) rfl ?_
                    refine j_goto (tgt := 238) X dX11_crossArc_326 (by decide) ?_
                    refine j_iload X dX11_crossArc_238 0 rfl ?_
                    refine j_iconst (v := 2) X dX11_crossArc_240 rfl ?_
                    refine j_icmp_ge (tgt := 329) X dX11_crossArc_241 (by decide) (fun _ => ?_) (fun c9 => absurd c9 (by decide))
                    exact E.1 329 _ (0, sig, x_1, x_2, [y_180, y_186, y_172, y_5, y_266, y_267, y_268, y_269, y_270, y_157, y_271, y_272, v_159, y_273, v_161, y_274], sf_265) dX11_crossArc_329 (⟨rfl, by unfold xG xsa saS; rw [cps_00 (fun h => hn h.2) (fun h => hp h.2)]; exact ⟨rfl, sgL_0 _, fun h => absurd rfl h⟩, rfl, hS_sf_265⟩) hr
                  · skip
                    first | simp only [bI_0, Decidable.not_not, sg_mul, sg_e0, sg_l0, sg_g0, sg_le0, sg_ge0, cmp_eq, cmp_lt, cmp_ge, cmp_gt, cmp_le, lT0, lT1] at c_314 | simp only [Int32.le_iff_toInt_le, Int32.lt_iff_toInt_lt, ← Int32.toInt_inj, iT0, iT1, iT2, iT3, iT4, iT5, iT6, iT7, iT8, iT9, iT10, iT11, iT12, iT13, iT14, iT15, iT16, iT19, iT20, iT31, iT32, iT42, iT64, iT200, iT318, iT319, iT1000, iTm1, iTm2] at c_314 | skip
                    rw [hU, hV, hR, hL, tx_1, tx_2] at c_314
                    have hp : saP (f1 a).toInt (f2 a).toInt (f3 a).toInt (f4 a).toInt (f1 b).toInt (f2 b).toInt (f3 b).toInt (fr b).toInt (to1 b).toInt (1) := ⟨by rw [← hD, ← hR]; exact ip1, by rw [← hD, ← hR, ← hL]; exact ip2, by rw [Int.one_mul, Int.one_mul]; exact c_314⟩
                    refine j_aload_n X dX11_crossArc_317 rfl 6 rfl ?_
                    refine j_iload X dX11_crossArc_318 1 rfl ?_
                    refine j_callV X dX11_crossArc_320 (c_X11_pointWith_0 l G q t n co cr x_1 x_2 sig 1) gX11_crossArc_X11_pointWith rfl hy_X11_pointWith_V ⟨Nat.le_of_ble_eq_true rfl, Nat.le_of_ble_eq_true rfl⟩ 0 rfl rfl [0, 9] rfl (by decide) rfl rfl (Nat.le_of_ble_eq_true rfl) ⟨Nat.le_of_ble_eq_true rfl, Nat.le_of_ble_eq_true rfl⟩ ?_
                    rintro _ ⟨⟩ rfl
                    change J p l e rm_X11_crossArc s m args below meth c Q G A 13 0 0 323 [(12, .int 1), (11, .int 1), (9, .long x_4), (7, .long x_3), (5, .long x_2), (3, .long x_1), (0, .ref (q 0)), (1, .int (nI a)), (2, .int (nI b))] [] [(q 0, .inr (10, mF t n q co cr 1 x_1 x_2)), (q 2, aJ G 200 f1), (q 3, aJ G 200 f2), (q 4, aJ G 200 f3), (q 5, aJ G 200 f4), (q 6, aI G 200 fr), (q 7, aI G 200 to1), (q 10, aI G 320 (rg [y_180, y_186, y_172, y_5, y_266, y_267, y_268, y_269, y_270, y_157, y_271, y_272, v_159, y_273, v_161, y_274])), (q 11, aZ G 16 sf_265), (q 12, aI G 2 (upd sig 0 1))]
                    refine j_iinc (v := 3) (L' := [(11, .int 3), (12, .int 1), (9, .long x_4), (7, .long x_3), (5, .long x_2), (3, .long x_1), (0, .ref (q 0)), (1, .int (nI a)), (2, .int (nI b))]) X dX11_crossArc_323 1 rfl (by decide) (by decide) rfl ?_
                    refine j_goto (tgt := 238) X dX11_crossArc_326 (by decide) ?_
                    refine j_iload X dX11_crossArc_238 0 rfl ?_
                    refine j_iconst (v := 2) X dX11_crossArc_240 rfl ?_
                    refine j_icmp_ge (tgt := 329) X dX11_crossArc_241 (by decide) (fun _ => ?_) (fun c9 => absurd c9 (by decide))
                    exact E.1 329 _ (1, upd sig 0 1, x_1, x_2, [y_180, y_186, y_172, y_5, y_266, y_267, y_268, y_269, y_270, y_157, y_271, y_272, v_159, y_273, v_161, y_274], sf_265) dX11_crossArc_329 (⟨rfl, by unfold xG xsa saS; rw [cps_01 (fun h => hn h.2) ⟨by rw [← hR]; omega, hp⟩]; exact ⟨rfl, sgL_1 _ _, fun _ => ⟨⟨hU, hV, hR, hL⟩, tx_1, tx_2⟩⟩, rfl, hS_sf_265⟩) hr
            · skip
              first | simp only [bI_0, Decidable.not_not, sg_mul, sg_e0, sg_l0, sg_g0, sg_le0, sg_ge0, cmp_eq, cmp_lt, cmp_ge, cmp_gt, cmp_le, lT0, lT1] at c_255 | simp only [Int32.le_iff_toInt_le, Int32.lt_iff_toInt_lt, ← Int32.toInt_inj, iT0, iT1, iT2, iT3, iT4, iT5, iT6, iT7, iT8, iT9, iT10, iT11, iT12, iT13, iT14, iT15, iT16, iT19, iT20, iT31, iT32, iT42, iT64, iT200, iT318, iT319, iT1000, iTm1, iTm2] at c_255 | skip
              have hz := c_255
              exact E.1 258 _ (0, sig, x_1, x_2, [y_180, y_186, y_172, y_5, y_244, y_245, y_246, y_247, y_248, y_157, y_249, y_250, v_159, y_251, v_161, y_252], sf_243) dX11_crossArc_258 (⟨rfl, by unfold xG xsa saS; rw [cps_00 (fun h => hn h.2) (fun h => absurd h.1 (by rw [← hR, hz]; decide))]; exact ⟨rfl, sgL_0 _, fun h => absurd rfl h⟩, rfl, hS_sf_243⟩) hr
          · skip
            first | simp only [bI_0, Decidable.not_not, sg_mul, sg_e0, sg_l0, sg_g0, sg_le0, sg_ge0, cmp_eq, cmp_lt, cmp_ge, cmp_gt, cmp_le, lT0, lT1] at c_314 | simp only [Int32.le_iff_toInt_le, Int32.lt_iff_toInt_lt, ← Int32.toInt_inj, iT0, iT1, iT2, iT3, iT4, iT5, iT6, iT7, iT8, iT9, iT10, iT11, iT12, iT13, iT14, iT15, iT16, iT19, iT20, iT31, iT32, iT42, iT64, iT200, iT318, iT319, iT1000, iTm1, iTm2] at c_314 | skip
            rw [hU, hV, hR, hL, tx_1, tx_2] at c_314
            have hn : saP (f1 a).toInt (f2 a).toInt (f3 a).toInt (f4 a).toInt (f1 b).toInt (f2 b).toInt (f3 b).toInt (fr b).toInt (to1 b).toInt (-1) := ⟨by rw [← hD, ← hR]; exact in1, by rw [← hD, ← hR, ← hL]; exact in2, by rw [Int.neg_one_mul, Int.neg_one_mul]; exact c_314⟩
            refine j_aload_n X dX11_crossArc_317 rfl 6 rfl ?_
            refine j_iload X dX11_crossArc_318 1 rfl ?_
            refine j_callV X dX11_crossArc_320 (c_X11_pointWith_0 l G q t n co cr x_1 x_2 sig (-1)) gX11_crossArc_X11_pointWith rfl hy_X11_pointWith_V ⟨Nat.le_of_ble_eq_true rfl, Nat.le_of_ble_eq_true rfl⟩ 0 rfl rfl [0, 9] rfl (by decide) rfl rfl (Nat.le_of_ble_eq_true rfl) ⟨Nat.le_of_ble_eq_true rfl, Nat.le_of_ble_eq_true rfl⟩ ?_
            rintro _ ⟨⟩ rfl
            change J p l e rm_X11_crossArc s m args below meth c Q G A 13 0 0 323 [(12, .int 1), (11, .int (-1)), (9, .long x_4), (7, .long x_3), (5, .long x_2), (3, .long x_1), (0, .ref (q 0)), (1, .int (nI a)), (2, .int (nI b))] [] [(q 0, .inr (10, mF t n q co cr 1 x_1 x_2)), (q 2, aJ G 200 f1), (q 3, aJ G 200 f2), (q 4, aJ G 200 f3), (q 5, aJ G 200 f4), (q 6, aI G 200 fr), (q 7, aI G 200 to1), (q 10, aI G 320 (rg [y_180, y_186, y_172, y_5, y_244, y_245, y_246, y_247, y_248, y_157, y_249, y_250, v_159, y_251, v_161, y_252])), (q 11, aZ G 16 sf_243), (q 12, aI G 2 (upd sig 0 (-1)))]
            refine j_iinc (v := 1) (L' := [(11, .int 1), (12, .int 1), (9, .long x_4), (7, .long x_3), (5, .long x_2), (3, .long x_1), (0, .ref (q 0)), (1, .int (nI a)), (2, .int (nI b))]) X dX11_crossArc_323 1 rfl (by decide) (by decide) rfl ?_
            refine j_goto (tgt := 238) X dX11_crossArc_326 (by decide) ?_
            refine j_iload X dX11_crossArc_238 0 rfl ?_
            refine j_iconst (v := 2) X dX11_crossArc_240 rfl ?_
            refine j_icmp_ge (tgt := 329) X dX11_crossArc_241 (by decide) (fun c9 => absurd c9 (by decide)) (fun _ => ?_)
            refine j_iload X dX11_crossArc_244 0 rfl ?_
            refine j_iconst (v := 1) X dX11_crossArc_246 rfl ?_
            refine j_icmp_ne (tgt := 259) X dX11_crossArc_247 (by decide) (fun c9 => absurd c9 (by decide)) (fun _ => ?_)
            refine j_aload_n X dX11_crossArc_250 rfl 6 rfl ?_
            refine j_iconst (v := 2) X dX11_crossArc_251 rfl ?_
            refine j_callV X dX11_crossArc_252 (c_X11_sign l G q t n co cr 1 x_1 x_2 [y_180, y_186, y_172, y_5, y_244, y_245, y_246, y_247, y_248, y_157, y_249, y_250, v_159, y_251, v_161, y_252] rfl sf_243 2 2 rfl (by decide) (hS_sf_243 2 (by decide)) (bd_lt by_172 (by decide))) gX11_crossArc_X11_sign rfl hy_X11_sign_V ⟨Nat.le_of_ble_eq_true rfl, Nat.le_of_ble_eq_true rfl⟩ 0 rfl rfl [0, 7, 8] rfl (by decide) rfl rfl (Nat.le_of_ble_eq_true rfl) ⟨Nat.le_of_ble_eq_true rfl, Nat.le_of_ble_eq_true rfl⟩ ?_
            rintro _ ⟨⟩ rfl
            change J p l e rm_X11_crossArc s m args below meth c Q G A 13 0 0 255 [(11, .int 1), (12, .int 1), (9, .long x_4), (7, .long x_3), (5, .long x_2), (3, .long x_1), (0, .ref (q 0)), (1, .int (nI a)), (2, .int (nI b))] [.int (sg y_172)] [(q 0, .inr (10, mF t n q co cr 1 x_1 x_2)), (q 2, aJ G 200 f1), (q 3, aJ G 200 f2), (q 4, aJ G 200 f3), (q 5, aJ G 200 f4), (q 6, aI G 200 fr), (q 7, aI G 200 to1), (q 10, aI G 320 (rg [y_180, y_186, y_172, y_5, y_244, y_245, y_246, y_247, y_248, y_157, y_249, y_250, v_159, y_251, v_161, y_252])), (q 11, aZ G 16 sf_243), (q 12, aI G 2 (upd sig 0 (-1)))]
            refine j_if_ne (tgt := 259) X dX11_crossArc_255 (by decide) (fun c_255 => ?_) (fun c_255 => ?_)
            · skip
              first | simp only [bI_0, Decidable.not_not, sg_mul, sg_e0, sg_l0, sg_g0, sg_le0, sg_ge0, cmp_eq, cmp_lt, cmp_ge, cmp_gt, cmp_le, lT0, lT1] at c_255 | simp only [Int32.le_iff_toInt_le, Int32.lt_iff_toInt_lt, ← Int32.toInt_inj, iT0, iT1, iT2, iT3, iT4, iT5, iT6, iT7, iT8, iT9, iT10, iT11, iT12, iT13, iT14, iT15, iT16, iT19, iT20, iT31, iT32, iT42, iT64, iT200, iT318, iT319, iT1000, iTm1, iTm2] at c_255 | skip
              have hnz := c_255
              refine j_aload_n X dX11_crossArc_259 rfl 6 rfl ?_
              refine j_iconst (v := 4) X dX11_crossArc_260 rfl ?_
              refine j_iconst (v := 3) X dX11_crossArc_261 rfl ?_
              refine j_bipush (v := 9) X dX11_crossArc_262 (by decide) ?_
              refine j_iconst (v := 1) X dX11_crossArc_264 rfl ?_
              obtain ⟨y_275, ey_275⟩ : ∃ zz9 : Int, zz9 = y_5 - y_157 := ⟨_, rfl⟩
              have by_275 : bd 84 y_275 := by rw [ey_275]; exact bd_sub (bd_mono by_5 (by decide)) (bd_mono by_157 (by decide))
              refine j_callV X dX11_crossArc_265 (n_join l G q t n co cr 1 x_1 x_2 [y_180, y_186, y_172, y_5, y_244, y_245, y_246, y_247, y_248, y_157, y_249, y_250, v_159, y_251, v_161, y_252] sf_243 rfl hS_sf_243 4 4 rfl (by decide) 3 3 rfl (by decide) 9 9 rfl (by decide) 1 (Or.inr rfl) (by decide) (by decide) y_275 ey_275 by_5 by_157 (by decide) (by decide)) gX11_crossArc_X11_join rfl hy_X11_join_V ⟨Nat.le_of_ble_eq_true rfl, Nat.le_of_ble_eq_true rfl⟩ 0 rfl rfl [0, 7, 8] rfl (by decide) rfl rfl (Nat.le_of_ble_eq_true rfl) ⟨Nat.le_of_ble_eq_true rfl, Nat.le_of_ble_eq_true rfl⟩ ?_
              rintro _ sf_276 ⟨rfl, hS_sf_276⟩
              change J p l e rm_X11_crossArc s m args below meth c Q G A 13 0 0 268 [(11, .int 1), (12, .int 1), (9, .long x_4), (7, .long x_3), (5, .long x_2), (3, .long x_1), (0, .ref (q 0)), (1, .int (nI a)), (2, .int (nI b))] [] [(q 0, .inr (10, mF t n q co cr 1 x_1 x_2)), (q 2, aJ G 200 f1), (q 3, aJ G 200 f2), (q 4, aJ G 200 f3), (q 5, aJ G 200 f4), (q 6, aI G 200 fr), (q 7, aI G 200 to1), (q 10, aI G 320 (rg [y_180, y_186, y_172, y_5, y_275, y_245, y_246, y_247, y_248, y_157, y_249, y_250, v_159, y_251, v_161, y_252])), (q 11, aZ G 16 sf_276), (q 12, aI G 2 (upd sig 0 (-1)))]
              refine j_aload_n X dX11_crossArc_268 rfl 6 rfl ?_
              refine j_bipush (v := 9) X dX11_crossArc_269 (by decide) ?_
              refine j_iload X dX11_crossArc_271 0 rfl ?_
              refine j_i2l X dX11_crossArc_273 rfl ?_
              refine j_iconst (v := 2) X dX11_crossArc_274 rfl ?_
              refine j_callV X dX11_crossArc_275 (c_X11_signOf_9_2 l G q t n co cr 1 x_1 x_2 y_180 y_186 y_172 y_5 y_275 y_245 y_246 y_247 y_248 y_157 y_249 y_250 v_159 y_251 v_161 y_252 sf_276 hS_sf_276 ((1 : Int32).toInt64) c_173 (bd_mono by_157 (by decide)) (bd_mono bd_p1 (by decide)) (bd_mono by_172 (by decide))) gX11_crossArc_X11_signOf rfl hy_X11_signOf_V ⟨Nat.le_of_ble_eq_true rfl, Nat.le_of_ble_eq_true rfl⟩ 0 rfl rfl [0, 7, 8] rfl (by decide) rfl rfl (Nat.le_of_ble_eq_true rfl) ⟨Nat.le_of_ble_eq_true rfl, Nat.le_of_ble_eq_true rfl⟩ ?_
              rintro _ ⟨y_278, y_279, y_280, y_281, sf_277⟩ ⟨rfl, hS_sf_277⟩
              dsimp only at hS_sf_277
              change J p l e rm_X11_crossArc s m args below meth c Q G A 13 0 0 278 [(11, .int 1), (12, .int 1), (9, .long x_4), (7, .long x_3), (5, .long x_2), (3, .long x_1), (0, .ref (q 0)), (1, .int (nI a)), (2, .int (nI b))] [.int (rn y_157 ((1 : Int32).toInt64).toInt y_172)] [(q 0, .inr (10, mF t n q co cr 1 x_1 x_2)), (q 2, aJ G 200 f1), (q 3, aJ G 200 f2), (q 4, aJ G 200 f3), (q 5, aJ G 200 f4), (q 6, aI G 200 fr), (q 7, aI G 200 to1), (q 10, aI G 320 (rg [y_180, y_186, y_172, y_5, y_275, y_245, y_246, y_247, y_248, y_157, y_278, y_279, v_159, y_280, v_161, y_281])), (q 11, aZ G 16 sf_277), (q 12, aI G 2 (upd sig 0 (-1)))]
              refine j_if_lt (tgt := 299) X dX11_crossArc_278 (by decide) (fun c_278 => ?_) (fun c_278 => ?_)
              · skip
                rw [i64_p] at c_278
                have hp : ¬ saP (f1 a).toInt (f2 a).toInt (f3 a).toInt (f4 a).toInt (f1 b).toInt (f2 b).toInt (f3 b).toInt (fr b).toInt (to1 b).toInt (1) := fun h => h.1 (by rw [← hD, ← hR]; exact c_278)
                refine j_iconst (v := 0) X dX11_crossArc_299 rfl ?_
                refine j_istore (L' := [(12, .int 0), (11, .int 1), (9, .long x_4), (7, .long x_3), (5, .long x_2), (3, .long x_1), (0, .ref (q 0)), (1, .int (nI a)), (2, .int (nI b))]) X dX11_crossArc_300 (by decide) rfl ?_
                refine j_iload X dX11_crossArc_302 0 rfl ?_
                refine j_if_eq (tgt := 323) X dX11_crossArc_304 (by decide) (fun _ => ?_) (fun c9 => absurd c9 (by decide))
                refine j_iinc (v := 3) (L' := [(11, .int 3), (12, .int 0), (9, .long x_4), (7, .long x_3), (5, .long x_2), (3, .long x_1), (0, .ref (q 0)), (1, .int (nI a)), (2, .int (nI b))]) X dX11_crossArc_323 1 rfl (by decide) (by decide) rfl ?_
                refine j_goto (tgt := 238) X dX11_crossArc_326 (by decide) ?_
                refine j_iload X dX11_crossArc_238 0 rfl ?_
                refine j_iconst (v := 2) X dX11_crossArc_240 rfl ?_
                refine j_icmp_ge (tgt := 329) X dX11_crossArc_241 (by decide) (fun _ => ?_) (fun c9 => absurd c9 (by decide))
                exact E.1 329 _ (1, upd sig 0 (-1), x_1, x_2, [y_180, y_186, y_172, y_5, y_275, y_245, y_246, y_247, y_248, y_157, y_278, y_279, v_159, y_280, v_161, y_281], sf_277) dX11_crossArc_329 (⟨rfl, by unfold xG xsa saS; rw [cps_10 ⟨by rw [← hR]; exact c_173, hn⟩ (fun h => hp h.2)]; exact ⟨rfl, sgL_1 _ _, fun _ => ⟨⟨hU, hV, hR, hL⟩, tx_1, tx_2⟩⟩, rfl, hS_sf_277⟩) hr
              · skip
                rw [i64_p] at c_278
                have ip1 := c_278
                refine j_aload_n X dX11_crossArc_281 rfl 6 rfl ?_
                refine j_iconst (v := 4) X dX11_crossArc_282 rfl ?_
                refine j_lconst (v := 0) X dX11_crossArc_283 rfl ?_
                refine j_iload X dX11_crossArc_284 0 rfl ?_
                refine j_i2l X dX11_crossArc_286 rfl ?_
                refine j_lsub X dX11_crossArc_287 ?_
                refine j_iconst (v := 2) X dX11_crossArc_288 rfl ?_
                refine j_callV X dX11_crossArc_289 (c_X11_signOf_4_2 l G q t n co cr 1 x_1 x_2 y_180 y_186 y_172 y_5 y_275 y_245 y_246 y_247 y_248 y_157 y_278 y_279 v_159 y_280 v_161 y_281 sf_277 hS_sf_277 (0 - ((1 : Int32).toInt64)) c_173 (bd_mono by_275 (by decide)) (bd_mono bd_0p (by decide)) (bd_mono by_172 (by decide))) gX11_crossArc_X11_signOf rfl hy_X11_signOf_V ⟨Nat.le_of_ble_eq_true rfl, Nat.le_of_ble_eq_true rfl⟩ 0 rfl rfl [0, 7, 8] rfl (by decide) rfl rfl (Nat.le_of_ble_eq_true rfl) ⟨Nat.le_of_ble_eq_true rfl, Nat.le_of_ble_eq_true rfl⟩ ?_
                rintro _ ⟨y_283, y_284, y_285, y_286, sf_282⟩ ⟨rfl, hS_sf_282⟩
                dsimp only at hS_sf_282
                change J p l e rm_X11_crossArc s m args below meth c Q G A 13 0 0 292 [(11, .int 1), (12, .int 1), (9, .long x_4), (7, .long x_3), (5, .long x_2), (3, .long x_1), (0, .ref (q 0)), (1, .int (nI a)), (2, .int (nI b))] [.int (rn y_275 (0 - ((1 : Int32).toInt64)).toInt y_172)] [(q 0, .inr (10, mF t n q co cr 1 x_1 x_2)), (q 2, aJ G 200 f1), (q 3, aJ G 200 f2), (q 4, aJ G 200 f3), (q 5, aJ G 200 f4), (q 6, aI G 200 fr), (q 7, aI G 200 to1), (q 10, aI G 320 (rg [y_180, y_186, y_172, y_5, y_275, y_245, y_246, y_247, y_248, y_157, y_283, y_284, v_159, y_285, v_161, y_286])), (q 11, aZ G 16 sf_282), (q 12, aI G 2 (upd sig 0 (-1)))]
                refine j_if_lt (tgt := 299) X dX11_crossArc_292 (by decide) (fun c_292 => ?_) (fun c_292 => ?_)
                · skip
                  rw [ey_275, i64_0p] at c_292
                  have hp : ¬ saP (f1 a).toInt (f2 a).toInt (f3 a).toInt (f4 a).toInt (f1 b).toInt (f2 b).toInt (f3 b).toInt (fr b).toInt (to1 b).toInt (1) := fun h => h.2.1 (by rw [← hD, ← hR, ← hL]; exact c_292)
                  refine j_iconst (v := 0) X dX11_crossArc_299 rfl ?_
                  refine j_istore (L' := [(12, .int 0), (11, .int 1), (9, .long x_4), (7, .long x_3), (5, .long x_2), (3, .long x_1), (0, .ref (q 0)), (1, .int (nI a)), (2, .int (nI b))]) X dX11_crossArc_300 (by decide) rfl ?_
                  refine j_iload X dX11_crossArc_302 0 rfl ?_
                  refine j_if_eq (tgt := 323) X dX11_crossArc_304 (by decide) (fun _ => ?_) (fun c9 => absurd c9 (by decide))
                  refine j_iinc (v := 3) (L' := [(11, .int 3), (12, .int 0), (9, .long x_4), (7, .long x_3), (5, .long x_2), (3, .long x_1), (0, .ref (q 0)), (1, .int (nI a)), (2, .int (nI b))]) X dX11_crossArc_323 1 rfl (by decide) (by decide) rfl ?_
                  refine j_goto (tgt := 238) X dX11_crossArc_326 (by decide) ?_
                  refine j_iload X dX11_crossArc_238 0 rfl ?_
                  refine j_iconst (v := 2) X dX11_crossArc_240 rfl ?_
                  refine j_icmp_ge (tgt := 329) X dX11_crossArc_241 (by decide) (fun _ => ?_) (fun c9 => absurd c9 (by decide))
                  exact E.1 329 _ (1, upd sig 0 (-1), x_1, x_2, [y_180, y_186, y_172, y_5, y_275, y_245, y_246, y_247, y_248, y_157, y_283, y_284, v_159, y_285, v_161, y_286], sf_282) dX11_crossArc_329 (⟨rfl, by unfold xG xsa saS; rw [cps_10 ⟨by rw [← hR]; exact c_173, hn⟩ (fun h => hp h.2)]; exact ⟨rfl, sgL_1 _ _, fun _ => ⟨⟨hU, hV, hR, hL⟩, tx_1, tx_2⟩⟩, rfl, hS_sf_282⟩) hr
                · skip
                  rw [ey_275, i64_0p] at c_292
                  have ip2 := c_292
                  refine j_iconst (v := 1) X dX11_crossArc_295 rfl ?_
                  refine j_goto (tgt := 300) X dX11_crossArc_296 (by decide) ?_
                  refine j_istore (L' := [(12, .int 1), (11, .int 1), (9, .long x_4), (7, .long x_3), (5, .long x_2), (3, .long x_1), (0, .ref (q 0)), (1, .int (nI a)), (2, .int (nI b))]) X dX11_crossArc_300 (by decide) rfl ?_
                  refine j_iload X dX11_crossArc_302 0 rfl ?_
                  refine j_if_eq (tgt := 323) X dX11_crossArc_304 (by decide) (fun c9 => absurd c9 (by decide)) (fun _ => ?_)
                  refine j_aload_n X dX11_crossArc_307 rfl 6 rfl ?_
                  refine j_iload_n X dX11_crossArc_308 rfl 8 rfl ?_
                  refine j_iload X dX11_crossArc_309 1 rfl ?_
                  refine j_callV X dX11_crossArc_311 (c_X11_isOfArc_p l G q t n co cr 1 x_1 x_2 y_180 y_186 y_172 y_5 y_275 y_245 y_246 y_247 y_248 y_157 y_283 y_284 v_159 y_285 v_161 y_286 sf_282 hS_sf_282 f1 f2 fr to1 b bcb hfb htb gb (bd_mono by_180 (by decide)) (bd_mono by_186 (by decide)) (bd_mono by_172 (by decide)) (bd_mono by_5 (by decide)) c_173 (bd_mono bx_1 (by decide)) (bd_mono bx_2 (by decide))) gX11_crossArc_X11_isOfArc rfl hy_X11_isOfArc_V ⟨Nat.le_of_ble_eq_true rfl, Nat.le_of_ble_eq_true rfl⟩ 0 rfl rfl [0, 1, 2, 5, 6, 7, 8] rfl (by decide) rfl rfl (Nat.le_of_ble_eq_true rfl) ⟨Nat.le_of_ble_eq_true rfl, Nat.le_of_ble_eq_true rfl⟩ ?_
                  rintro _ ⟨y_288, y_289, y_290, y_291, y_292, y_293, y_294, y_295, y_296, sf_287⟩ ⟨rfl, hS_sf_287⟩
                  dsimp only at hS_sf_287
                  change J p l e rm_X11_crossArc s m args below meth c Q G A 13 0 0 314 [(12, .int 1), (11, .int 1), (9, .long x_4), (7, .long x_3), (5, .long x_2), (3, .long x_1), (0, .ref (q 0)), (1, .int (nI a)), (2, .int (nI b))] [.int (bI (ofA (f1 b).toInt (f2 b).toInt (fr b).toInt (to1 b).toInt y_180 y_186 y_172 y_5 x_1.toInt x_2.toInt))] [(q 0, .inr (10, mF t n q co cr 1 x_1 x_2)), (q 2, aJ G 200 f1), (q 3, aJ G 200 f2), (q 4, aJ G 200 f3), (q 5, aJ G 200 f4), (q 6, aI G 200 fr), (q 7, aI G 200 to1), (q 10, aI G 320 (rg [y_180, y_186, y_172, y_5, y_288, y_289, y_290, y_291, y_292, y_157, y_293, y_294, v_159, y_295, v_161, y_296])), (q 11, aZ G 16 sf_287), (q 12, aI G 2 (upd sig 0 (-1)))]
                  refine j_if_eq (tgt := 323) X dX11_crossArc_314 (by decide) (fun c_314 => ?_) (fun c_314 => ?_)
                  · skip
                    first | simp only [bI_0, Decidable.not_not, sg_mul, sg_e0, sg_l0, sg_g0, sg_le0, sg_ge0, cmp_eq, cmp_lt, cmp_ge, cmp_gt, cmp_le, lT0, lT1] at c_314 | simp only [Int32.le_iff_toInt_le, Int32.lt_iff_toInt_lt, ← Int32.toInt_inj, iT0, iT1, iT2, iT3, iT4, iT5, iT6, iT7, iT8, iT9, iT10, iT11, iT12, iT13, iT14, iT15, iT16, iT19, iT20, iT31, iT32, iT42, iT64, iT200, iT318, iT319, iT1000, iTm1, iTm2] at c_314 | skip
                    rw [hU, hV, hR, hL, tx_1, tx_2] at c_314
                    have hp : ¬ saP (f1 a).toInt (f2 a).toInt (f3 a).toInt (f4 a).toInt (f1 b).toInt (f2 b).toInt (f3 b).toInt (fr b).toInt (to1 b).toInt (1) := fun h => c_314 (by have h3 := h.2.2; rw [Int.one_mul, Int.one_mul] at h3; exact h3)
                    refine j_iinc (v := 3) (L' := [(11, .int 3), (12, .int 1), (9, .long x_4), (7, .long x_3), (5, .long x_2), (3, .long x_1), (0, .ref (q 0)), (1, .int (nI a)), (2, .int (nI b))]) X dX11_crossArc_323 1 rfl (by decide) (by decide) rfl ?_
                    refine j_goto (tgt := 238) X dX11_crossArc_326 (by decide) ?_
                    refine j_iload X dX11_crossArc_238 0 rfl ?_
                    refine j_iconst (v := 2) X dX11_crossArc_240 rfl ?_
                    refine j_icmp_ge (tgt := 329) X dX11_crossArc_241 (by decide) (fun _ => ?_) (fun c9 => absurd c9 (by decide))
                    exact E.1 329 _ (1, upd sig 0 (-1), x_1, x_2, [y_180, y_186, y_172, y_5, y_288, y_289, y_290, y_291, y_292, y_157, y_293, y_294, v_159, y_295, v_161, y_296], sf_287) dX11_crossArc_329 (⟨rfl, by unfold xG xsa saS; rw [cps_10 ⟨by rw [← hR]; exact c_173, hn⟩ (fun h => hp h.2)]; exact ⟨rfl, sgL_1 _ _, fun _ => ⟨⟨hU, hV, hR, hL⟩, tx_1, tx_2⟩⟩, rfl, hS_sf_287⟩) hr
                  · skip
                    first | simp only [bI_0, Decidable.not_not, sg_mul, sg_e0, sg_l0, sg_g0, sg_le0, sg_ge0, cmp_eq, cmp_lt, cmp_ge, cmp_gt, cmp_le, lT0, lT1] at c_314 | simp only [Int32.le_iff_toInt_le, Int32.lt_iff_toInt_lt, ← Int32.toInt_inj, iT0, iT1, iT2, iT3, iT4, iT5, iT6, iT7, iT8, iT9, iT10, iT11, iT12, iT13, iT14, iT15, iT16, iT19, iT20, iT31, iT32, iT42, iT64, iT200, iT318, iT319, iT1000, iTm1, iTm2] at c_314 | skip
                    rw [hU, hV, hR, hL, tx_1, tx_2] at c_314
                    have hp : saP (f1 a).toInt (f2 a).toInt (f3 a).toInt (f4 a).toInt (f1 b).toInt (f2 b).toInt (f3 b).toInt (fr b).toInt (to1 b).toInt (1) := ⟨by rw [← hD, ← hR]; exact ip1, by rw [← hD, ← hR, ← hL]; exact ip2, by rw [Int.one_mul, Int.one_mul]; exact c_314⟩
                    refine j_aload_n X dX11_crossArc_317 rfl 6 rfl ?_
                    refine j_iload X dX11_crossArc_318 1 rfl ?_
                    refine j_callV X dX11_crossArc_320 (c_X11_pointWith_1 l G q t n co cr x_1 x_2 (upd sig 0 (-1)) 1) gX11_crossArc_X11_pointWith rfl hy_X11_pointWith_V ⟨Nat.le_of_ble_eq_true rfl, Nat.le_of_ble_eq_true rfl⟩ 0 rfl rfl [0, 9] rfl (by decide) rfl rfl (Nat.le_of_ble_eq_true rfl) ⟨Nat.le_of_ble_eq_true rfl, Nat.le_of_ble_eq_true rfl⟩ ?_
                    rintro _ ⟨⟩ rfl
                    change J p l e rm_X11_crossArc s m args below meth c Q G A 13 0 0 323 [(12, .int 1), (11, .int 1), (9, .long x_4), (7, .long x_3), (5, .long x_2), (3, .long x_1), (0, .ref (q 0)), (1, .int (nI a)), (2, .int (nI b))] [] [(q 0, .inr (10, mF t n q co cr 2 x_1 x_2)), (q 2, aJ G 200 f1), (q 3, aJ G 200 f2), (q 4, aJ G 200 f3), (q 5, aJ G 200 f4), (q 6, aI G 200 fr), (q 7, aI G 200 to1), (q 10, aI G 320 (rg [y_180, y_186, y_172, y_5, y_288, y_289, y_290, y_291, y_292, y_157, y_293, y_294, v_159, y_295, v_161, y_296])), (q 11, aZ G 16 sf_287), (q 12, aI G 2 (upd (upd sig 0 (-1)) 1 1))]
                    refine j_iinc (v := 3) (L' := [(11, .int 3), (12, .int 1), (9, .long x_4), (7, .long x_3), (5, .long x_2), (3, .long x_1), (0, .ref (q 0)), (1, .int (nI a)), (2, .int (nI b))]) X dX11_crossArc_323 1 rfl (by decide) (by decide) rfl ?_
                    refine j_goto (tgt := 238) X dX11_crossArc_326 (by decide) ?_
                    refine j_iload X dX11_crossArc_238 0 rfl ?_
                    refine j_iconst (v := 2) X dX11_crossArc_240 rfl ?_
                    refine j_icmp_ge (tgt := 329) X dX11_crossArc_241 (by decide) (fun _ => ?_) (fun c9 => absurd c9 (by decide))
                    exact E.1 329 _ (2, upd (upd sig 0 (-1)) 1 1, x_1, x_2, [y_180, y_186, y_172, y_5, y_288, y_289, y_290, y_291, y_292, y_157, y_293, y_294, v_159, y_295, v_161, y_296], sf_287) dX11_crossArc_329 (⟨rfl, by unfold xG xsa saS; rw [cps_11 ⟨by rw [← hR]; exact c_173, hn⟩ ⟨by rw [← hR]; omega, hp⟩]; exact ⟨rfl, sgL_2 _ _ _, fun _ => ⟨⟨hU, hV, hR, hL⟩, tx_1, tx_2⟩⟩, rfl, hS_sf_287⟩) hr
            · skip
              first | simp only [bI_0, Decidable.not_not, sg_mul, sg_e0, sg_l0, sg_g0, sg_le0, sg_ge0, cmp_eq, cmp_lt, cmp_ge, cmp_gt, cmp_le, lT0, lT1] at c_255 | simp only [Int32.le_iff_toInt_le, Int32.lt_iff_toInt_lt, ← Int32.toInt_inj, iT0, iT1, iT2, iT3, iT4, iT5, iT6, iT7, iT8, iT9, iT10, iT11, iT12, iT13, iT14, iT15, iT16, iT19, iT20, iT31, iT32, iT42, iT64, iT200, iT318, iT319, iT1000, iTm1, iTm2] at c_255 | skip
              have hz := c_255
              exact E.1 258 _ (1, upd sig 0 (-1), x_1, x_2, [y_180, y_186, y_172, y_5, y_244, y_245, y_246, y_247, y_248, y_157, y_249, y_250, v_159, y_251, v_161, y_252], sf_243) dX11_crossArc_258 (⟨rfl, by unfold xG xsa saS; rw [cps_10 ⟨by rw [← hR]; exact c_173, hn⟩ (fun h => absurd h.1 (by rw [← hR, hz]; decide))]; exact ⟨rfl, sgL_1 _ _, fun _ => ⟨⟨hU, hV, hR, hL⟩, tx_1, tx_2⟩⟩, rfl, hS_sf_243⟩) hr
    · skip
      first | simp only [bI_0, Decidable.not_not, sg_mul, sg_e0, sg_l0, sg_g0, sg_le0, sg_ge0, cmp_eq, cmp_lt, cmp_ge, cmp_gt, cmp_le, lT0, lT1] at c_173 | simp only [Int32.le_iff_toInt_le, Int32.lt_iff_toInt_lt, ← Int32.toInt_inj, iT0, iT1, iT2, iT3, iT4, iT5, iT6, iT7, iT8, iT9, iT10, iT11, iT12, iT13, iT14, iT15, iT16, iT19, iT20, iT31, iT32, iT42, iT64, iT200, iT318, iT319, iT1000, iTm1, iTm2] at c_173 | skip
      have hL : y_5 = saL (f1 a).toInt (f2 a).toInt (f3 a).toInt (f4 a).toInt := by rw [ey_5, tx_1, tx_2]; rfl
      have hD : y_157 = saD (f1 a).toInt (f2 a).toInt (f3 a).toInt (f4 a).toInt (f1 b).toInt (f2 b).toInt := by rw [ey_157, ey_11, tx_1, tx_2, tx_3, tx_4, Int.mul_comm ((f2 a).toInt - (f2 b).toInt)]; rfl
      have hR : y_172 = saR (f1 a).toInt (f2 a).toInt (f3 a).toInt (f4 a).toInt (f1 b).toInt (f2 b).toInt (f3 b).toInt := by unfold saR; rw [← hD, ← hL, ey_172, ey_170, ey_168, ey_166, ey_158, ey_164, tx_3, tx_4]
      have hR0 := hR
      exact E.1 176 _ (0, sig, tx, ty, [z0, z1, y_172, y_5, y_170, y_166, y_168, y_157, z8, z9, z10, z11, v_159, y_164, v_161, v_162], sf_173) dX11_crossArc_176 (⟨rfl, by unfold xG xsa saS; rw [cps_00 (fun h => absurd h.1 (by rw [← hR0]; omega)) (fun h => absurd h.1 (by rw [← hR0]; omega))]; exact ⟨rfl, sgL_0 _, fun h => absurd rfl h⟩, rfl, hS_sf_173⟩) hr

theorem hy_X11_crossArc_V : yX11_crossArc.cls = RX11 ∧ yX11_crossArc.cls ≠ "java/lang/invoke/MethodHandle" ∧ yX11_crossArc.cls ≠ "java/lang/invoke/VarHandle" ∧ (parseMethodDescriptor yX11_crossArc.desc).map (fun d => d.parameters.length) = some 2 := by decide +kernel
