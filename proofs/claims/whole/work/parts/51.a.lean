abbrev rm_X11_cut : Room := { frames := 3, cells := 0, slots := 0, locals := 81 }
set_option maxHeartbeats 4000000 in
set_option maxRecDepth 100000 in
theorem c_X11_cut_0_1 (l : Launch) (G : jG) (q : Nat → Nat) (t n co cr po : Int32) (tx ty : Int64) (z0 z1 z2 z3 z4 z5 z6 z7 z8 z9 z10 z11 z12 z13 z14 z15 : Int) (sf : Nat → Int32) (hS : okS [z0, z1, z2, z3, z4, z5, z6, z7, z8, z9, z10, z11, z12, z13, z14, z15] sf) (w : Int64) (sx : Int32) (bu : bd 127 z0) (b2 : bd 172 z2) (hR : 0 ≤ z2) (b3 : bd 84 z3) (h3 : 0 < z3) (bw1 : bd 41 w.toInt) (hs : sx = 1 ∨ sx = -1 ∨ (sx = 0 ∧ w.toInt = 0)) : Ct l yX11_cut wsX11_cut rm_X11_cut G [.ref (q 0), .int 0, .long w, .int sx, .int 1, .int 0] [(q 0, .inr (10, mF t n q co cr po tx ty)), (q 10, aI G 320 (rg [z0, z1, z2, z3, z4, z5, z6, z7, z8, z9, z10, z11, z12, z13, z14, z15])), (q 11, aZ G 16 sf)] (S := Int × Int × Int × Int × Int × Int × Int × Int × Int × Int × (Nat → Int32)) (fun r u => r = none ∧ (∃ E, rtR (w.toInt * w.toInt * z2) E ∧ u.2.2.1 = flA (z0) (sg (sx.toInt * w.toInt)) (w.toInt * w.toInt * z2) E (z3)) ∧ okS [z0, z1, z2, z3, u.1, u.2.1, u.2.2.1, u.2.2.2.1, u.2.2.2.2.1, u.2.2.2.2.2.1, z10, z11, u.2.2.2.2.2.2.1, u.2.2.2.2.2.2.2.1, u.2.2.2.2.2.2.2.2.1, u.2.2.2.2.2.2.2.2.2.1] u.2.2.2.2.2.2.2.2.2.2) (fun u => [(q 0, .inr (10, mF t n q co cr po tx ty)), (q 10, aI G 320 (rg [z0, z1, z2, z3, u.1, u.2.1, u.2.2.1, u.2.2.2.1, u.2.2.2.2.1, u.2.2.2.2.2.1, z10, z11, u.2.2.2.2.2.2.1, u.2.2.2.2.2.2.2.1, u.2.2.2.2.2.2.2.2.1, u.2.2.2.2.2.2.2.2.2.1])), (q 11, aZ G 16 u.2.2.2.2.2.2.2.2.2.2)]) (fun _ => []) := by
  refine c_intro (cc := cX11_cut) (maxL := 9) (ret := none) (by decide) rfl (Nat.le_of_ble_eq_true rfl) (fun _ => by simp only [List.map_cons, List.map_nil]) ?_
  intro p e s m args below meth c Q A X hr hin E
  change J p l e rm_X11_cut s m args below meth c Q G A 9 0 0 0 [(0, .ref (q 0)), (1, .int 0), (2, .long w), (4, .int sx), (5, .int 1), (6, .int 0)] [] [(q 0, .inr (10, mF t n q co cr po tx ty)), (q 10, aI G 320 (rg [z0, z1, z2, z3, z4, z5, z6, z7, z8, z9, z10, z11, z12, z13, z14, z15])), (q 11, aZ G 16 sf)]
  have hq9 : (((1 : Int32).toInt64) * w).toInt = w.toInt := sm_p w
  have bq9 : bd 43 (((1 : Int32).toInt64) * w).toInt := by rw [hq9]; exact bd_mono bw1 (by decide)
  rcases hs with rfl | rfl | ⟨rfl, hw0⟩
  · skip
    refine j_aload_n X dX11_cut_0 rfl 0 rfl ?_
    refine j_bipush (v := 13) X dX11_cut_1 (by decide) ?_
    refine j_iload X dX11_cut_3 4 rfl ?_
    refine j_i2l X dX11_cut_5 rfl ?_
    obtain ⟨y_1, ey_1⟩ : ∃ zz9 : Int, zz9 = ((1 : Int32).toInt64).toInt := ⟨_, rfl⟩
    have by_1 : bd 2 y_1 := by rw [ey_1]; exact (bd_mono bd_p1 (by decide))
    refine j_callV X dX11_cut_6 (n_load l G q t n co cr po tx ty [z0, z1, z2, z3, z4, z5, z6, z7, z8, z9, z10, z11, z12, z13, z14, z15] sf rfl hS 13 13 rfl (by decide) ((1 : Int32).toInt64) y_1 ey_1) gX11_cut_X11_load rfl hy_X11_load_V ⟨Nat.le_of_ble_eq_true rfl, Nat.le_of_ble_eq_true rfl⟩ 0 rfl rfl [0, 1, 2] rfl (by decide) rfl rfl (Nat.le_of_ble_eq_true rfl) ⟨Nat.le_of_ble_eq_true rfl, Nat.le_of_ble_eq_true rfl⟩ ?_
    rintro _ sf_2 ⟨rfl, hS_sf_2⟩
    change J p l e rm_X11_cut s m args below meth c Q G A 9 0 0 9 [(0, .ref (q 0)), (1, .int 0), (2, .long w), (4, .int 1), (5, .int 1), (6, .int 0)] [] [(q 0, .inr (10, mF t n q co cr po tx ty)), (q 10, aI G 320 (rg [z0, z1, z2, z3, z4, z5, z6, z7, z8, z9, z10, z11, z12, y_1, z14, z15])), (q 11, aZ G 16 sf_2)]
    refine j_aload_n X dX11_cut_9 rfl 0 rfl ?_
    refine j_iconst (v := 4) X dX11_cut_10 rfl ?_
    refine j_bipush (v := 13) X dX11_cut_11 (by decide) ?_
    refine j_iload_n X dX11_cut_13 rfl 1 rfl ?_
    obtain ⟨y_3, ey_3⟩ : ∃ zz9 : Int, zz9 = y_1 * z0 := ⟨_, rfl⟩
    have by_3 : bd 129 y_3 := by rw [ey_3]; exact bd_mul by_1 bu
    refine j_callV X dX11_cut_14 (n_mul l G q t n co cr po tx ty [z0, z1, z2, z3, z4, z5, z6, z7, z8, z9, z10, z11, z12, y_1, z14, z15] sf_2 rfl hS_sf_2 4 4 rfl (by decide) 13 13 rfl (by decide) 0 0 rfl (by decide) (by decide) (by decide) y_3 ey_3) gX11_cut_X11_multiply rfl hy_X11_multiply_V ⟨Nat.le_of_ble_eq_true rfl, Nat.le_of_ble_eq_true rfl⟩ 0 rfl rfl [0, 1, 2] rfl (by decide) rfl rfl (Nat.le_of_ble_eq_true rfl) ⟨Nat.le_of_ble_eq_true rfl, Nat.le_of_ble_eq_true rfl⟩ ?_
    rintro _ sf_4 ⟨rfl, hS_sf_4⟩
    change J p l e rm_X11_cut s m args below meth c Q G A 9 0 0 17 [(0, .ref (q 0)), (1, .int 0), (2, .long w), (4, .int 1), (5, .int 1), (6, .int 0)] [] [(q 0, .inr (10, mF t n q co cr po tx ty)), (q 10, aI G 320 (rg [z0, z1, z2, z3, y_3, z5, z6, z7, z8, z9, z10, z11, z12, y_1, z14, z15])), (q 11, aZ G 16 sf_4)]
    have hA1 : y_3 = z0 := by rw [ey_3, ey_1, i64_p]; exact Int.one_mul _
    refine j_iload X dX11_cut_17 5 rfl ?_
    refine j_if_eq (tgt := 36) X dX11_cut_19 (by decide) (fun _ => ?_) (fun c9 => absurd c9 (by decide))
    refine j_aload_n X dX11_cut_36 rfl 0 rfl ?_
    refine j_bipush (v := 13) X dX11_cut_37 (by decide) ?_
    refine j_iload X dX11_cut_39 4 rfl ?_
    refine j_i2l X dX11_cut_41 rfl ?_
    refine j_lload_n X dX11_cut_42 rfl 2 rfl ?_
    refine j_lmul X dX11_cut_43 ?_
    obtain ⟨y_5, ey_5⟩ : ∃ zz9 : Int, zz9 = (((1 : Int32).toInt64) * w).toInt := ⟨_, rfl⟩
    have by_5 : bd 43 y_5 := by rw [ey_5]; exact bq9
    refine j_callV X dX11_cut_44 (n_load l G q t n co cr po tx ty [z0, z1, z2, z3, y_3, z5, z6, z7, z8, z9, z10, z11, z12, y_1, z14, z15] sf_4 rfl hS_sf_4 13 13 rfl (by decide) (((1 : Int32).toInt64) * w) y_5 ey_5) gX11_cut_X11_load rfl hy_X11_load_V ⟨Nat.le_of_ble_eq_true rfl, Nat.le_of_ble_eq_true rfl⟩ 0 rfl rfl [0, 1, 2] rfl (by decide) rfl rfl (Nat.le_of_ble_eq_true rfl) ⟨Nat.le_of_ble_eq_true rfl, Nat.le_of_ble_eq_true rfl⟩ ?_
    rintro _ sf_6 ⟨rfl, hS_sf_6⟩
    change J p l e rm_X11_cut s m args below meth c Q G A 9 0 0 47 [(0, .ref (q 0)), (1, .int 0), (2, .long w), (4, .int 1), (5, .int 1), (6, .int 0)] [] [(q 0, .inr (10, mF t n q co cr po tx ty)), (q 10, aI G 320 (rg [z0, z1, z2, z3, y_3, z5, z6, z7, z8, z9, z10, z11, z12, y_5, z14, z15])), (q 11, aZ G 16 sf_6)]
    refine j_aload_n X dX11_cut_47 rfl 0 rfl ?_
    refine j_bipush (v := 15) X dX11_cut_48 (by decide) ?_
    refine j_bipush (v := 13) X dX11_cut_50 (by decide) ?_
    refine j_bipush (v := 13) X dX11_cut_52 (by decide) ?_
    obtain ⟨y_7, ey_7⟩ : ∃ zz9 : Int, zz9 = y_5 * y_5 := ⟨_, rfl⟩
    have by_7 : bd 86 y_7 := by rw [ey_7]; exact bd_mul by_5 by_5
    refine j_callV X dX11_cut_54 (n_mul l G q t n co cr po tx ty [z0, z1, z2, z3, y_3, z5, z6, z7, z8, z9, z10, z11, z12, y_5, z14, z15] sf_6 rfl hS_sf_6 15 15 rfl (by decide) 13 13 rfl (by decide) 13 13 rfl (by decide) (by decide) (by decide) y_7 ey_7) gX11_cut_X11_multiply rfl hy_X11_multiply_V ⟨Nat.le_of_ble_eq_true rfl, Nat.le_of_ble_eq_true rfl⟩ 0 rfl rfl [0, 1, 2] rfl (by decide) rfl rfl (Nat.le_of_ble_eq_true rfl) ⟨Nat.le_of_ble_eq_true rfl, Nat.le_of_ble_eq_true rfl⟩ ?_
    rintro _ sf_8 ⟨rfl, hS_sf_8⟩
    change J p l e rm_X11_cut s m args below meth c Q G A 9 0 0 57 [(0, .ref (q 0)), (1, .int 0), (2, .long w), (4, .int 1), (5, .int 1), (6, .int 0)] [] [(q 0, .inr (10, mF t n q co cr po tx ty)), (q 10, aI G 320 (rg [z0, z1, z2, z3, y_3, z5, z6, z7, z8, z9, z10, z11, z12, y_5, z14, y_7])), (q 11, aZ G 16 sf_8)]
    refine j_aload_n X dX11_cut_57 rfl 0 rfl ?_
    refine j_bipush (v := 7) X dX11_cut_58 (by decide) ?_
    refine j_bipush (v := 15) X dX11_cut_60 (by decide) ?_
    refine j_iconst (v := 2) X dX11_cut_62 rfl ?_
    obtain ⟨y_9, ey_9⟩ : ∃ zz9 : Int, zz9 = y_7 * z2 := ⟨_, rfl⟩
    have by_9 : bd 258 y_9 := by rw [ey_9]; exact bd_mul by_7 b2
    refine j_callV X dX11_cut_63 (n_mul l G q t n co cr po tx ty [z0, z1, z2, z3, y_3, z5, z6, z7, z8, z9, z10, z11, z12, y_5, z14, y_7] sf_8 rfl hS_sf_8 7 7 rfl (by decide) 15 15 rfl (by decide) 2 2 rfl (by decide) (by decide) (by decide) y_9 ey_9) gX11_cut_X11_multiply rfl hy_X11_multiply_V ⟨Nat.le_of_ble_eq_true rfl, Nat.le_of_ble_eq_true rfl⟩ 0 rfl rfl [0, 1, 2] rfl (by decide) rfl rfl (Nat.le_of_ble_eq_true rfl) ⟨Nat.le_of_ble_eq_true rfl, Nat.le_of_ble_eq_true rfl⟩ ?_
    rintro _ sf_10 ⟨rfl, hS_sf_10⟩
    change J p l e rm_X11_cut s m args below meth c Q G A 9 0 0 66 [(0, .ref (q 0)), (1, .int 0), (2, .long w), (4, .int 1), (5, .int 1), (6, .int 0)] [] [(q 0, .inr (10, mF t n q co cr po tx ty)), (q 10, aI G 320 (rg [z0, z1, z2, z3, y_3, z5, z6, y_9, z8, z9, z10, z11, z12, y_5, z14, y_7])), (q 11, aZ G 16 sf_10)]
    refine j_aload_n X dX11_cut_66 rfl 0 rfl ?_
    refine j_bipush (v := 8) X dX11_cut_67 (by decide) ?_
    refine j_bipush (v := 7) X dX11_cut_69 (by decide) ?_
    refine j_callV X dX11_cut_71 (c_X11_rootOf_8_7 l G q t n co cr po tx ty z0 z1 z2 z3 y_3 z5 z6 y_9 z8 z9 z10 z11 z12 y_5 z14 y_7 sf_10 hS_sf_10 (bd_lt319 by_9 (by decide))) gX11_cut_X11_rootOf rfl hy_X11_rootOf_V ⟨Nat.le_of_ble_eq_true rfl, Nat.le_of_ble_eq_true rfl⟩ 0 rfl rfl [0, 1, 2] rfl (by decide) rfl rfl (Nat.le_of_ble_eq_true rfl) ⟨Nat.le_of_ble_eq_true rfl, Nat.le_of_ble_eq_true rfl⟩ ?_
    rintro _ ⟨h_11, v_12, sf_13⟩ ⟨rfl, hh_110, hh_111, hh_112, hS_sf_13⟩
    dsimp only at hh_110 hh_111 hh_112 hS_sf_13
    change J p l e rm_X11_cut s m args below meth c Q G A 9 0 0 74 [(0, .ref (q 0)), (1, .int 0), (2, .long w), (4, .int 1), (5, .int 1), (6, .int 0)] [.int (if h_11 * h_11 = (y_9.natAbs : Int) then 1 else 0)] [(q 0, .inr (10, mF t n q co cr po tx ty)), (q 10, aI G 320 (rg [z0, z1, z2, z3, y_3, z5, z6, y_9, h_11, z9, z10, z11, ((y_9.natAbs : Int) - h_11 * h_11), y_5, v_12, y_7])), (q 11, aZ G 16 sf_13)]
    obtain ⟨w_14, ew_14⟩ : ∃ zz9 : Int, zz9 = (y_9.natAbs : Int) - h_11 * h_11 := ⟨_, rfl⟩
    rw [← ew_14] at hS_sf_13 ⊢
    have hN9 : (y_9.natAbs : Int) = w.toInt * w.toInt * z2 := by rw [ey_9, ey_7, ey_5, hq9]; exact Int.natAbs_of_nonneg (Int.mul_nonneg (sq_nn _) hR)
    rw [hN9] at hh_111 hh_112 ⊢
    have bh_11 : bd 260 h_11 := bd_of_le hh_110 (Int.le_trans (sq_ge hh_110) hh_111) (by rw [← hN9]; exact bd_abs (bd_mono by_9 (by decide)))
    refine j_topi (fun x_15 ex_15 => ?_)
    refine j_istore (L' := [(7, .int x_15), (0, .ref (q 0)), (1, .int 0), (2, .long w), (4, .int 1), (5, .int 1), (6, .int 0)]) X dX11_cut_74 (by decide) rfl ?_
    refine j_lload_n X dX11_cut_76 rfl 3 rfl ?_
    refine j_lconst (v := 0) X dX11_cut_77 rfl ?_
    refine j_lcmp X dX11_cut_78 ?_
    refine j_if_ne (tgt := 86) X dX11_cut_79 (by decide) (fun c_79 => ?_) (fun c_79 => ?_)
    · skip
      first | simp only [bI_0, Decidable.not_not, sg_mul, sg_e0, sg_l0, sg_g0, sg_le0, sg_ge0, cmp_eq, cmp_lt, cmp_ge, cmp_gt, cmp_le, lT0, lT1] at c_79 | simp only [Int32.le_iff_toInt_le, Int32.lt_iff_toInt_lt, ← Int32.toInt_inj, iT0, iT1, iT2, iT3, iT4, iT5, iT6, iT7, iT8, iT9, iT10, iT11, iT12, iT13, iT14, iT15, iT16, iT19, iT20, iT31, iT32, iT42, iT64, iT200, iT318, iT319, iT1000, iTm1, iTm2] at c_79 | skip
      refine j_lload_n X dX11_cut_86 rfl 3 rfl ?_
      refine j_lconst (v := 0) X dX11_cut_87 rfl ?_
      refine j_lcmp X dX11_cut_88 ?_
      refine j_if_ge (tgt := 99) X dX11_cut_89 (by decide) (fun c_89 => ?_) (fun c_89 => ?_)
      · skip
        first | simp only [bI_0, Decidable.not_not, sg_mul, sg_e0, sg_l0, sg_g0, sg_le0, sg_ge0, cmp_eq, cmp_lt, cmp_ge, cmp_gt, cmp_le, lT0, lT1] at c_89 | simp only [Int32.le_iff_toInt_le, Int32.lt_iff_toInt_lt, ← Int32.toInt_inj, iT0, iT1, iT2, iT3, iT4, iT5, iT6, iT7, iT8, iT9, iT10, iT11, iT12, iT13, iT14, iT15, iT16, iT19, iT20, iT31, iT32, iT42, iT64, iT200, iT318, iT319, iT1000, iTm1, iTm2] at c_89 | skip
        refine j_iload X dX11_cut_99 4 rfl ?_
        refine j_istore (L' := [(8, .int 1), (7, .int x_15), (0, .ref (q 0)), (1, .int 0), (2, .long w), (4, .int 1), (5, .int 1), (6, .int 0)]) X dX11_cut_101 (by decide) rfl ?_
        refine j_iload X dX11_cut_103 0 rfl ?_
        refine j_if_eq (tgt := 132) X dX11_cut_105 (by decide) (fun c9 => absurd c9 (by decide)) (fun _ => ?_)
        refine j_aload_n X dX11_cut_108 rfl 2 rfl ?_
        refine j_iconst (v := 5) X dX11_cut_109 rfl ?_
        refine j_iconst (v := 4) X dX11_cut_110 rfl ?_
        refine j_bipush (v := 8) X dX11_cut_111 (by decide) ?_
        refine j_iload X dX11_cut_113 0 rfl ?_
        refine j_if_ge (tgt := 122) X dX11_cut_115 (by decide) (fun _ => ?_) (fun c9 => absurd c9 (by decide))
        refine j_iconst (v := 0) X dX11_cut_122 rfl ?_
        obtain ⟨y_16, ey_16⟩ : ∃ zz9 : Int, zz9 = y_3 + h_11 := ⟨_, rfl⟩
        have by_16 : bd 261 y_16 := by rw [ey_16]; exact bd_add (bd_mono by_3 (by decide)) (bd_mono bh_11 (by decide))
        refine j_callV X dX11_cut_123 (n_join l G q t n co cr po tx ty [z0, z1, z2, z3, y_3, z5, z6, y_9, h_11, z9, z10, z11, w_14, y_5, v_12, y_7] sf_13 rfl hS_sf_13 5 5 rfl (by decide) 4 4 rfl (by decide) 8 8 rfl (by decide) 0 (Or.inl rfl) (by decide) (by decide) y_16 ey_16 by_3 bh_11 (by decide) (by decide)) gX11_cut_X11_join rfl hy_X11_join_V ⟨Nat.le_of_ble_eq_true rfl, Nat.le_of_ble_eq_true rfl⟩ 0 rfl rfl [0, 1, 2] rfl (by decide) rfl rfl (Nat.le_of_ble_eq_true rfl) ⟨Nat.le_of_ble_eq_true rfl, Nat.le_of_ble_eq_true rfl⟩ ?_
        rintro _ sf_17 ⟨rfl, hS_sf_17⟩
        change J p l e rm_X11_cut s m args below meth c Q G A 9 0 0 126 [(8, .int 1), (7, .int x_15), (0, .ref (q 0)), (1, .int 0), (2, .long w), (4, .int 1), (5, .int 1), (6, .int 0)] [] [(q 0, .inr (10, mF t n q co cr po tx ty)), (q 10, aI G 320 (rg [z0, z1, z2, z3, y_3, y_16, z6, y_9, h_11, z9, z10, z11, w_14, y_5, v_12, y_7])), (q 11, aZ G 16 sf_17)]
        refine j_aload_n X dX11_cut_126 rfl 2 rfl ?_
        refine j_iconst (v := 4) X dX11_cut_127 rfl ?_
        refine j_iconst (v := 5) X dX11_cut_128 rfl ?_
        refine j_callV X dX11_cut_129 (h_copy l G q t n co cr po tx ty [z0, z1, z2, z3, y_3, y_16, z6, y_9, h_11, z9, z10, z11, w_14, y_5, v_12, y_7] sf_17 rfl hS_sf_17 4 4 rfl (by decide) 5 5 rfl (by decide) (by decide)) gX11_cut_X11_copy rfl hy_X11_copy_V ⟨Nat.le_of_ble_eq_true rfl, Nat.le_of_ble_eq_true rfl⟩ 0 rfl rfl [0, 1, 2] rfl (by decide) rfl rfl (Nat.le_of_ble_eq_true rfl) ⟨Nat.le_of_ble_eq_true rfl, Nat.le_of_ble_eq_true rfl⟩ ?_
        rintro _ sf_18 ⟨rfl, hS_sf_18⟩
        change J p l e rm_X11_cut s m args below meth c Q G A 9 0 0 132 [(8, .int 1), (7, .int x_15), (0, .ref (q 0)), (1, .int 0), (2, .long w), (4, .int 1), (5, .int 1), (6, .int 0)] [] [(q 0, .inr (10, mF t n q co cr po tx ty)), (q 10, aI G 320 (rg [z0, z1, z2, z3, y_16, y_16, z6, y_9, h_11, z9, z10, z11, w_14, y_5, v_12, y_7])), (q 11, aZ G 16 sf_18)]
        refine j_iload X dX11_cut_132 0 rfl ?_
        refine j_if_ge (tgt := 164) X dX11_cut_134 (by decide) (fun _ => ?_) (fun c9 => absurd c9 (by decide))
        refine j_aload_n X dX11_cut_164 rfl 2 rfl ?_
        refine j_bipush (v := 13) X dX11_cut_165 (by decide) ?_
        refine j_iload X dX11_cut_167 6 rfl ?_
        refine j_i2l X dX11_cut_169 rfl ?_
        obtain ⟨y_19, ey_19⟩ : ∃ zz9 : Int, zz9 = ((1 : Int32).toInt64).toInt := ⟨_, rfl⟩
        have by_19 : bd 2 y_19 := by rw [ey_19]; exact (bd_mono bd_p1 (by decide))
        refine j_callV X dX11_cut_170 (n_load l G q t n co cr po tx ty [z0, z1, z2, z3, y_16, y_16, z6, y_9, h_11, z9, z10, z11, w_14, y_5, v_12, y_7] sf_18 rfl hS_sf_18 13 13 rfl (by decide) ((1 : Int32).toInt64) y_19 ey_19) gX11_cut_X11_load rfl hy_X11_load_V ⟨Nat.le_of_ble_eq_true rfl, Nat.le_of_ble_eq_true rfl⟩ 0 rfl rfl [0, 1, 2] rfl (by decide) rfl rfl (Nat.le_of_ble_eq_true rfl) ⟨Nat.le_of_ble_eq_true rfl, Nat.le_of_ble_eq_true rfl⟩ ?_
        rintro _ sf_20 ⟨rfl, hS_sf_20⟩
        change J p l e rm_X11_cut s m args below meth c Q G A 9 0 0 173 [(8, .int 1), (7, .int x_15), (0, .ref (q 0)), (1, .int 0), (2, .long w), (4, .int 1), (5, .int 1), (6, .int 0)] [] [(q 0, .inr (10, mF t n q co cr po tx ty)), (q 10, aI G 320 (rg [z0, z1, z2, z3, y_16, y_16, z6, y_9, h_11, z9, z10, z11, w_14, y_19, v_12, y_7])), (q 11, aZ G 16 sf_20)]
        refine j_aload_n X dX11_cut_173 rfl 2 rfl ?_
        refine j_bipush (v := 9) X dX11_cut_174 (by decide) ?_
        refine j_bipush (v := 13) X dX11_cut_176 (by decide) ?_
        refine j_iconst (v := 3) X dX11_cut_178 rfl ?_
        obtain ⟨y_21, ey_21⟩ : ∃ zz9 : Int, zz9 = y_19 * z3 := ⟨_, rfl⟩
        have by_21 : bd 86 y_21 := by rw [ey_21]; exact bd_mul by_19 b3
        refine j_callV X dX11_cut_179 (n_mul l G q t n co cr po tx ty [z0, z1, z2, z3, y_16, y_16, z6, y_9, h_11, z9, z10, z11, w_14, y_19, v_12, y_7] sf_20 rfl hS_sf_20 9 9 rfl (by decide) 13 13 rfl (by decide) 3 3 rfl (by decide) (by decide) (by decide) y_21 ey_21) gX11_cut_X11_multiply rfl hy_X11_multiply_V ⟨Nat.le_of_ble_eq_true rfl, Nat.le_of_ble_eq_true rfl⟩ 0 rfl rfl [0, 1, 2] rfl (by decide) rfl rfl (Nat.le_of_ble_eq_true rfl) ⟨Nat.le_of_ble_eq_true rfl, Nat.le_of_ble_eq_true rfl⟩ ?_
        rintro _ sf_22 ⟨rfl, hS_sf_22⟩
        change J p l e rm_X11_cut s m args below meth c Q G A 9 0 0 182 [(8, .int 1), (7, .int x_15), (0, .ref (q 0)), (1, .int 0), (2, .long w), (4, .int 1), (5, .int 1), (6, .int 0)] [] [(q 0, .inr (10, mF t n q co cr po tx ty)), (q 10, aI G 320 (rg [z0, z1, z2, z3, y_16, y_16, z6, y_9, h_11, y_21, z10, z11, w_14, y_19, v_12, y_7])), (q 11, aZ G 16 sf_22)]
        have hM8 : y_21 = z3 := by rw [ey_21, ey_19, i64_p]; exact Int.one_mul _
        have hM9 : (y_21.natAbs : Int) = z3 := by omega
        refine j_aload_n X dX11_cut_182 rfl 2 rfl ?_
        refine j_bipush (v := 6) X dX11_cut_183 (by decide) ?_
        refine j_iconst (v := 4) X dX11_cut_185 rfl ?_
        refine j_bipush (v := 9) X dX11_cut_186 (by decide) ?_
        obtain ⟨y_23, ey_23⟩ : ∃ zz9 : Int, zz9 = y_16 / (y_21.natAbs : Int) := ⟨_, rfl⟩
        obtain ⟨y_24, ey_24⟩ : ∃ zz9 : Int, zz9 = (y_16.natAbs : Int) % (y_21.natAbs : Int) := ⟨_, rfl⟩
        refine j_callV X dX11_cut_188 (n_divide_6_4_9 l G q t n co cr po tx ty z0 z1 z2 z3 y_16 y_16 z6 y_9 h_11 y_21 z10 z11 w_14 y_19 v_12 y_7 sf_22 hS_sf_22 (by omega) by_21 by_16 (by decide) (by decide) y_23 y_24 ey_23 ey_24) gX11_cut_X11_divide rfl hy_X11_divide_V ⟨Nat.le_of_ble_eq_true rfl, Nat.le_of_ble_eq_true rfl⟩ 0 rfl rfl [0, 1, 2] rfl (by decide) rfl rfl (Nat.le_of_ble_eq_true rfl) ⟨Nat.le_of_ble_eq_true rfl, Nat.le_of_ble_eq_true rfl⟩ ?_
        rintro _ ⟨v_25, v_26, sf_27⟩ ⟨rfl, hS_sf_27⟩
        change J p l e rm_X11_cut s m args below meth c Q G A 9 0 0 191 [(8, .int 1), (7, .int x_15), (0, .ref (q 0)), (1, .int 0), (2, .long w), (4, .int 1), (5, .int 1), (6, .int 0)] [] [(q 0, .inr (10, mF t n q co cr po tx ty)), (q 10, aI G 320 (rg [z0, z1, z2, z3, y_16, y_16, y_23, y_9, h_11, y_21, z10, z11, y_24, y_19, v_25, v_26])), (q 11, aZ G 16 sf_27)]
        exact E.1 191 _ (y_16, y_16, y_23, y_9, h_11, y_21, y_24, y_19, v_25, v_26, sf_27) dX11_cut_191 (⟨rfl, ⟨h_11, ⟨hh_110, hh_111, hh_112⟩, by dsimp only; rw [fl_p (show sg ((1 : Int32).toInt * w.toInt) = 1 from by rw [iT1, Int.one_mul]; rw [sg_pos (by omega)]), ey_23, hM9] <;> (congr 1 <;> omega)⟩, hS_sf_27⟩) hr
      · skip
        first | simp only [bI_0, Decidable.not_not, sg_mul, sg_e0, sg_l0, sg_g0, sg_le0, sg_ge0, cmp_eq, cmp_lt, cmp_ge, cmp_gt, cmp_le, lT0, lT1] at c_89 | simp only [Int32.le_iff_toInt_le, Int32.lt_iff_toInt_lt, ← Int32.toInt_inj, iT0, iT1, iT2, iT3, iT4, iT5, iT6, iT7, iT8, iT9, iT10, iT11, iT12, iT13, iT14, iT15, iT16, iT19, iT20, iT31, iT32, iT42, iT64, iT200, iT318, iT319, iT1000, iTm1, iTm2] at c_89 | skip
        refine j_iconst (v := 0) X dX11_cut_92 rfl ?_
        refine j_iload X dX11_cut_93 4 rfl ?_
        refine j_isub X dX11_cut_95 ?_
        rw [show (0 : Int32) - 1 = (-1) from by decide]
        refine j_goto (tgt := 101) X dX11_cut_96 (by decide) ?_
        refine j_istore (L' := [(8, .int (-1)), (7, .int x_15), (0, .ref (q 0)), (1, .int 0), (2, .long w), (4, .int 1), (5, .int 1), (6, .int 0)]) X dX11_cut_101 (by decide) rfl ?_
        refine j_iload X dX11_cut_103 0 rfl ?_
        refine j_if_eq (tgt := 132) X dX11_cut_105 (by decide) (fun c9 => absurd c9 (by decide)) (fun _ => ?_)
        refine j_aload_n X dX11_cut_108 rfl 2 rfl ?_
        refine j_iconst (v := 5) X dX11_cut_109 rfl ?_
        refine j_iconst (v := 4) X dX11_cut_110 rfl ?_
        refine j_bipush (v := 8) X dX11_cut_111 (by decide) ?_
        refine j_iload X dX11_cut_113 0 rfl ?_
        refine j_if_ge (tgt := 122) X dX11_cut_115 (by decide) (fun c9 => absurd c9 (by decide)) (fun _ => ?_)
        refine j_iconst (v := 1) X dX11_cut_118 rfl ?_
        refine j_goto (tgt := 123) X dX11_cut_119 (by decide) ?_
        obtain ⟨y_28, ey_28⟩ : ∃ zz9 : Int, zz9 = y_3 - h_11 := ⟨_, rfl⟩
        have by_28 : bd 261 y_28 := by rw [ey_28]; exact bd_sub (bd_mono by_3 (by decide)) (bd_mono bh_11 (by decide))
        refine j_callV X dX11_cut_123 (n_join l G q t n co cr po tx ty [z0, z1, z2, z3, y_3, z5, z6, y_9, h_11, z9, z10, z11, w_14, y_5, v_12, y_7] sf_13 rfl hS_sf_13 5 5 rfl (by decide) 4 4 rfl (by decide) 8 8 rfl (by decide) 1 (Or.inr rfl) (by decide) (by decide) y_28 ey_28 by_3 bh_11 (by decide) (by decide)) gX11_cut_X11_join rfl hy_X11_join_V ⟨Nat.le_of_ble_eq_true rfl, Nat.le_of_ble_eq_true rfl⟩ 0 rfl rfl [0, 1, 2] rfl (by decide) rfl rfl (Nat.le_of_ble_eq_true rfl) ⟨Nat.le_of_ble_eq_true rfl, Nat.le_of_ble_eq_true rfl⟩ ?_
        rintro _ sf_29 ⟨rfl, hS_sf_29⟩
        change J p l e rm_X11_cut s m args below meth c Q G A 9 0 0 126 [(8, .int (-1)), (7, .int x_15), (0, .ref (q 0)), (1, .int 0), (2, .long w), (4, .int 1), (5, .int 1), (6, .int 0)] [] [(q 0, .inr (10, mF t n q co cr po tx ty)), (q 10, aI G 320 (rg [z0, z1, z2, z3, y_3, y_28, z6, y_9, h_11, z9, z10, z11, w_14, y_5, v_12, y_7])), (q 11, aZ G 16 sf_29)]
        refine j_aload_n X dX11_cut_126 rfl 2 rfl ?_
        refine j_iconst (v := 4) X dX11_cut_127 rfl ?_
        refine j_iconst (v := 5) X dX11_cut_128 rfl ?_
        refine j_callV X dX11_cut_129 (h_copy l G q t n co cr po tx ty [z0, z1, z2, z3, y_3, y_28, z6, y_9, h_11, z9, z10, z11, w_14, y_5, v_12, y_7] sf_29 rfl hS_sf_29 4 4 rfl (by decide) 5 5 rfl (by decide) (by decide)) gX11_cut_X11_copy rfl hy_X11_copy_V ⟨Nat.le_of_ble_eq_true rfl, Nat.le_of_ble_eq_true rfl⟩ 0 rfl rfl [0, 1, 2] rfl (by decide) rfl rfl (Nat.le_of_ble_eq_true rfl) ⟨Nat.le_of_ble_eq_true rfl, Nat.le_of_ble_eq_true rfl⟩ ?_
        rintro _ sf_30 ⟨rfl, hS_sf_30⟩
        change J p l e rm_X11_cut s m args below meth c Q G A 9 0 0 132 [(8, .int (-1)), (7, .int x_15), (0, .ref (q 0)), (1, .int 0), (2, .long w), (4, .int 1), (5, .int 1), (6, .int 0)] [] [(q 0, .inr (10, mF t n q co cr po tx ty)), (q 10, aI G 320 (rg [z0, z1, z2, z3, y_28, y_28, z6, y_9, h_11, z9, z10, z11, w_14, y_5, v_12, y_7])), (q 11, aZ G 16 sf_30)]
        refine j_iload X dX11_cut_132 0 rfl ?_
        refine j_if_ge (tgt := 164) X dX11_cut_134 (by decide) (fun c9 => absurd c9 (by decide)) (fun _ => ?_)
        refine j_iload X dX11_cut_137 1 rfl ?_
        refine j_if_ne (tgt := 164) X dX11_cut_139 (by decide) (fun c_139 => ?_) (fun c_139 => ?_)
        · skip
          rw [ex_15] at c_139
          have hEx : h_11 * h_11 = w.toInt * w.toInt * z2 := by by_cases q9 : h_11 * h_11 = w.toInt * w.toInt * z2; exact q9; rw [if_neg q9] at c_139; exact absurd rfl c_139
          refine j_aload_n X dX11_cut_164 rfl 2 rfl ?_
          refine j_bipush (v := 13) X dX11_cut_165 (by decide) ?_
          refine j_iload X dX11_cut_167 6 rfl ?_
          refine j_i2l X dX11_cut_169 rfl ?_
          obtain ⟨y_31, ey_31⟩ : ∃ zz9 : Int, zz9 = ((1 : Int32).toInt64).toInt := ⟨_, rfl⟩
          have by_31 : bd 2 y_31 := by rw [ey_31]; exact (bd_mono bd_p1 (by decide))
          refine j_callV X dX11_cut_170 (n_load l G q t n co cr po tx ty [z0, z1, z2, z3, y_28, y_28, z6, y_9, h_11, z9, z10, z11, w_14, y_5, v_12, y_7] sf_30 rfl hS_sf_30 13 13 rfl (by decide) ((1 : Int32).toInt64) y_31 ey_31) gX11_cut_X11_load rfl hy_X11_load_V ⟨Nat.le_of_ble_eq_true rfl, Nat.le_of_ble_eq_true rfl⟩ 0 rfl rfl [0, 1, 2] rfl (by decide) rfl rfl (Nat.le_of_ble_eq_true rfl) ⟨Nat.le_of_ble_eq_true rfl, Nat.le_of_ble_eq_true rfl⟩ ?_
          rintro _ sf_32 ⟨rfl, hS_sf_32⟩
          change J p l e rm_X11_cut s m args below meth c Q G A 9 0 0 173 [(8, .int (-1)), (7, .int x_15), (0, .ref (q 0)), (1, .int 0), (2, .long w), (4, .int 1), (5, .int 1), (6, .int 0)] [] [(q 0, .inr (10, mF t n q co cr po tx ty)), (q 10, aI G 320 (rg [z0, z1, z2, z3, y_28, y_28, z6, y_9, h_11, z9, z10, z11, w_14, y_31, v_12, y_7])), (q 11, aZ G 16 sf_32)]
          refine j_aload_n X dX11_cut_173 rfl 2 rfl ?_
          refine j_bipush (v := 9) X dX11_cut_174 (by decide) ?_
          refine j_bipush (v := 13) X dX11_cut_176 (by decide) ?_
          refine j_iconst (v := 3) X dX11_cut_178 rfl ?_
          obtain ⟨y_33, ey_33⟩ : ∃ zz9 : Int, zz9 = y_31 * z3 := ⟨_, rfl⟩
          have by_33 : bd 86 y_33 := by rw [ey_33]; exact bd_mul by_31 b3
          refine j_callV X dX11_cut_179 (n_mul l G q t n co cr po tx ty [z0, z1, z2, z3, y_28, y_28, z6, y_9, h_11, z9, z10, z11, w_14, y_31, v_12, y_7] sf_32 rfl hS_sf_32 9 9 rfl (by decide) 13 13 rfl (by decide) 3 3 rfl (by decide) (by decide) (by decide) y_33 ey_33) gX11_cut_X11_multiply rfl hy_X11_multiply_V ⟨Nat.le_of_ble_eq_true rfl, Nat.le_of_ble_eq_true rfl⟩ 0 rfl rfl [0, 1, 2] rfl (by decide) rfl rfl (Nat.le_of_ble_eq_true rfl) ⟨Nat.le_of_ble_eq_true rfl, Nat.le_of_ble_eq_true rfl⟩ ?_
          rintro _ sf_34 ⟨rfl, hS_sf_34⟩
          change J p l e rm_X11_cut s m args below meth c Q G A 9 0 0 182 [(8, .int (-1)), (7, .int x_15), (0, .ref (q 0)), (1, .int 0), (2, .long w), (4, .int 1), (5, .int 1), (6, .int 0)] [] [(q 0, .inr (10, mF t n q co cr po tx ty)), (q 10, aI G 320 (rg [z0, z1, z2, z3, y_28, y_28, z6, y_9, h_11, y_33, z10, z11, w_14, y_31, v_12, y_7])), (q 11, aZ G 16 sf_34)]
          have hM8 : y_33 = z3 := by rw [ey_33, ey_31, i64_p]; exact Int.one_mul _
          have hM9 : (y_33.natAbs : Int) = z3 := by omega
          refine j_aload_n X dX11_cut_182 rfl 2 rfl ?_
          refine j_bipush (v := 6) X dX11_cut_183 (by decide) ?_
          refine j_iconst (v := 4) X dX11_cut_185 rfl ?_
          refine j_bipush (v := 9) X dX11_cut_186 (by decide) ?_
          obtain ⟨y_35, ey_35⟩ : ∃ zz9 : Int, zz9 = y_28 / (y_33.natAbs : Int) := ⟨_, rfl⟩
          obtain ⟨y_36, ey_36⟩ : ∃ zz9 : Int, zz9 = (y_28.natAbs : Int) % (y_33.natAbs : Int) := ⟨_, rfl⟩
          refine j_callV X dX11_cut_188 (n_divide_6_4_9 l G q t n co cr po tx ty z0 z1 z2 z3 y_28 y_28 z6 y_9 h_11 y_33 z10 z11 w_14 y_31 v_12 y_7 sf_34 hS_sf_34 (by omega) by_33 by_28 (by decide) (by decide) y_35 y_36 ey_35 ey_36) gX11_cut_X11_divide rfl hy_X11_divide_V ⟨Nat.le_of_ble_eq_true rfl, Nat.le_of_ble_eq_true rfl⟩ 0 rfl rfl [0, 1, 2] rfl (by decide) rfl rfl (Nat.le_of_ble_eq_true rfl) ⟨Nat.le_of_ble_eq_true rfl, Nat.le_of_ble_eq_true rfl⟩ ?_
          rintro _ ⟨v_37, v_38, sf_39⟩ ⟨rfl, hS_sf_39⟩
          change J p l e rm_X11_cut s m args below meth c Q G A 9 0 0 191 [(8, .int (-1)), (7, .int x_15), (0, .ref (q 0)), (1, .int 0), (2, .long w), (4, .int 1), (5, .int 1), (6, .int 0)] [] [(q 0, .inr (10, mF t n q co cr po tx ty)), (q 10, aI G 320 (rg [z0, z1, z2, z3, y_28, y_28, y_35, y_9, h_11, y_33, z10, z11, y_36, y_31, v_37, v_38])), (q 11, aZ G 16 sf_39)]
          exact E.1 191 _ (y_28, y_28, y_35, y_9, h_11, y_33, y_36, y_31, v_37, v_38, sf_39) dX11_cut_191 (⟨rfl, ⟨h_11, ⟨hh_110, hh_111, hh_112⟩, by dsimp only; rw [fl_n (show sg ((1 : Int32).toInt * w.toInt) = -1 from by rw [iT1, Int.one_mul]; rw [sg_neg (by omega)]) hEx, ey_35, hM9] <;> (congr 1 <;> omega)⟩, hS_sf_39⟩) hr
        · skip
          rw [ex_15] at c_139
          have hEx : ¬ h_11 * h_11 = w.toInt * w.toInt * z2 := by intro q9; rw [if_pos q9] at c_139; exact absurd c_139 (by decide)
          refine j_aload_n X dX11_cut_142 rfl 2 rfl ?_
          refine j_bipush (v := 15) X dX11_cut_143 (by decide) ?_
          refine j_lconst (v := 1) X dX11_cut_145 rfl ?_
          obtain ⟨y_40, ey_40⟩ : ∃ zz9 : Int, zz9 = 1 := ⟨_, rfl⟩
          have by_40 : bd 1 y_40 := by rw [ey_40]; exact (by decide : Int.natAbs 1 ≤ 2 ^ 1)
          refine j_callV X dX11_cut_146 (n_load l G q t n co cr po tx ty [z0, z1, z2, z3, y_28, y_28, z6, y_9, h_11, z9, z10, z11, w_14, y_5, v_12, y_7] sf_30 rfl hS_sf_30 15 15 rfl (by decide) 1 y_40 (by rw [ey_40]; rfl)) gX11_cut_X11_load rfl hy_X11_load_V ⟨Nat.le_of_ble_eq_true rfl, Nat.le_of_ble_eq_true rfl⟩ 0 rfl rfl [0, 1, 2] rfl (by decide) rfl rfl (Nat.le_of_ble_eq_true rfl) ⟨Nat.le_of_ble_eq_true rfl, Nat.le_of_ble_eq_true rfl⟩ ?_
          rintro _ sf_41 ⟨rfl, hS_sf_41⟩
          change J p l e rm_X11_cut s m args below meth c Q G A 9 0 0 149 [(8, .int (-1)), (7, .int x_15), (0, .ref (q 0)), (1, .int 0), (2, .long w), (4, .int 1), (5, .int 1), (6, .int 0)] [] [(q 0, .inr (10, mF t n q co cr po tx ty)), (q 10, aI G 320 (rg [z0, z1, z2, z3, y_28, y_28, z6, y_9, h_11, z9, z10, z11, w_14, y_5, v_12, y_40])), (q 11, aZ G 16 sf_41)]
          refine j_aload_n X dX11_cut_149 rfl 2 rfl ?_
          refine j_iconst (v := 5) X dX11_cut_150 rfl ?_
          refine j_iconst (v := 4) X dX11_cut_151 rfl ?_
          refine j_bipush (v := 15) X dX11_cut_152 (by decide) ?_
          refine j_iconst (v := 1) X dX11_cut_154 rfl ?_
          obtain ⟨y_42, ey_42⟩ : ∃ zz9 : Int, zz9 = y_28 - y_40 := ⟨_, rfl⟩
          have by_42 : bd 262 y_42 := by rw [ey_42]; exact bd_sub (bd_mono by_28 (by decide)) (bd_mono by_40 (by decide))
          refine j_callV X dX11_cut_155 (n_join l G q t n co cr po tx ty [z0, z1, z2, z3, y_28, y_28, z6, y_9, h_11, z9, z10, z11, w_14, y_5, v_12, y_40] sf_41 rfl hS_sf_41 5 5 rfl (by decide) 4 4 rfl (by decide) 15 15 rfl (by decide) 1 (Or.inr rfl) (by decide) (by decide) y_42 ey_42 by_28 by_40 (by decide) (by decide)) gX11_cut_X11_join rfl hy_X11_join_V ⟨Nat.le_of_ble_eq_true rfl, Nat.le_of_ble_eq_true rfl⟩ 0 rfl rfl [0, 1, 2] rfl (by decide) rfl rfl (Nat.le_of_ble_eq_true rfl) ⟨Nat.le_of_ble_eq_true rfl, Nat.le_of_ble_eq_true rfl⟩ ?_
          rintro _ sf_43 ⟨rfl, hS_sf_43⟩
          change J p l e rm_X11_cut s m args below meth c Q G A 9 0 0 158 [(8, .int (-1)), (7, .int x_15), (0, .ref (q 0)), (1, .int 0), (2, .long w), (4, .int 1), (5, .int 1), (6, .int 0)] [] [(q 0, .inr (10, mF t n q co cr po tx ty)), (q 10, aI G 320 (rg [z0, z1, z2, z3, y_28, y_42, z6, y_9, h_11, z9, z10, z11, w_14, y_5, v_12, y_40])), (q 11, aZ G 16 sf_43)]
          refine j_aload_n X dX11_cut_158 rfl 2 rfl ?_
          refine j_iconst (v := 4) X dX11_cut_159 rfl ?_
          refine j_iconst (v := 5) X dX11_cut_160 rfl ?_
          refine j_callV X dX11_cut_161 (h_copy l G q t n co cr po tx ty [z0, z1, z2, z3, y_28, y_42, z6, y_9, h_11, z9, z10, z11, w_14, y_5, v_12, y_40] sf_43 rfl hS_sf_43 4 4 rfl (by decide) 5 5 rfl (by decide) (by decide)) gX11_cut_X11_copy rfl hy_X11_copy_V ⟨Nat.le_of_ble_eq_true rfl, Nat.le_of_ble_eq_true rfl⟩ 0 rfl rfl [0, 1, 2] rfl (by decide) rfl rfl (Nat.le_of_ble_eq_true rfl) ⟨Nat.le_of_ble_eq_true rfl, Nat.le_of_ble_eq_true rfl⟩ ?_
          rintro _ sf_44 ⟨rfl, hS_sf_44⟩
          change J p l e rm_X11_cut s m args below meth c Q G A 9 0 0 164 [(8, .int (-1)), (7, .int x_15), (0, .ref (q 0)), (1, .int 0), (2, .long w), (4, .int 1), (5, .int 1), (6, .int 0)] [] [(q 0, .inr (10, mF t n q co cr po tx ty)), (q 10, aI G 320 (rg [z0, z1, z2, z3, y_42, y_42, z6, y_9, h_11, z9, z10, z11, w_14, y_5, v_12, y_40])), (q 11, aZ G 16 sf_44)]
          refine j_aload_n X dX11_cut_164 rfl 2 rfl ?_
          refine j_bipush (v := 13) X dX11_cut_165 (by decide) ?_
          refine j_iload X dX11_cut_167 6 rfl ?_
          refine j_i2l X dX11_cut_169 rfl ?_
          obtain ⟨y_45, ey_45⟩ : ∃ zz9 : Int, zz9 = ((1 : Int32).toInt64).toInt := ⟨_, rfl⟩
          have by_45 : bd 2 y_45 := by rw [ey_45]; exact (bd_mono bd_p1 (by decide))
          refine j_callV X dX11_cut_170 (n_load l G q t n co cr po tx ty [z0, z1, z2, z3, y_42, y_42, z6, y_9, h_11, z9, z10, z11, w_14, y_5, v_12, y_40] sf_44 rfl hS_sf_44 13 13 rfl (by decide) ((1 : Int32).toInt64) y_45 ey_45) gX11_cut_X11_load rfl hy_X11_load_V ⟨Nat.le_of_ble_eq_true rfl, Nat.le_of_ble_eq_true rfl⟩ 0 rfl rfl [0, 1, 2] rfl (by decide) rfl rfl (Nat.le_of_ble_eq_true rfl) ⟨Nat.le_of_ble_eq_true rfl, Nat.le_of_ble_eq_true rfl⟩ ?_
          rintro _ sf_46 ⟨rfl, hS_sf_46⟩
          change J p l e rm_X11_cut s m args below meth c Q G A 9 0 0 173 [(8, .int (-1)), (7, .int x_15), (0, .ref (q 0)), (1, .int 0), (2, .long w), (4, .int 1), (5, .int 1), (6, .int 0)] [] [(q 0, .inr (10, mF t n q co cr po tx ty)), (q 10, aI G 320 (rg [z0, z1, z2, z3, y_42, y_42, z6, y_9, h_11, z9, z10, z11, w_14, y_45, v_12, y_40])), (q 11, aZ G 16 sf_46)]
          refine j_aload_n X dX11_cut_173 rfl 2 rfl ?_
          refine j_bipush (v := 9) X dX11_cut_174 (by decide) ?_
          refine j_bipush (v := 13) X dX11_cut_176 (by decide) ?_
          refine j_iconst (v := 3) X dX11_cut_178 rfl ?_
          obtain ⟨y_47, ey_47⟩ : ∃ zz9 : Int, zz9 = y_45 * z3 := ⟨_, rfl⟩
          have by_47 : bd 86 y_47 := by rw [ey_47]; exact bd_mul by_45 b3
          refine j_callV X dX11_cut_179 (n_mul l G q t n co cr po tx ty [z0, z1, z2, z3, y_42, y_42, z6, y_9, h_11, z9, z10, z11, w_14, y_45, v_12, y_40] sf_46 rfl hS_sf_46 9 9 rfl (by decide) 13 13 rfl (by decide) 3 3 rfl (by decide) (by decide) (by decide) y_47 ey_47) gX11_cut_X11_multiply rfl hy_X11_multiply_V ⟨Nat.le_of_ble_eq_true rfl, Nat.le_of_ble_eq_true rfl⟩ 0 rfl rfl [0, 1, 2] rfl (by decide) rfl rfl (Nat.le_of_ble_eq_true rfl) ⟨Nat.le_of_ble_eq_true rfl, Nat.le_of_ble_eq_true rfl⟩ ?_
          rintro _ sf_48 ⟨rfl, hS_sf_48⟩
          change J p l e rm_X11_cut s m args below meth c Q G A 9 0 0 182 [(8, .int (-1)), (7, .int x_15), (0, .ref (q 0)), (1, .int 0), (2, .long w), (4, .int 1), (5, .int 1), (6, .int 0)] [] [(q 0, .inr (10, mF t n q co cr po tx ty)), (q 10, aI G 320 (rg [z0, z1, z2, z3, y_42, y_42, z6, y_9, h_11, y_47, z10, z11, w_14, y_45, v_12, y_40])), (q 11, aZ G 16 sf_48)]
          have hM8 : y_47 = z3 := by rw [ey_47, ey_45, i64_p]; exact Int.one_mul _
          have hM9 : (y_47.natAbs : Int) = z3 := by omega
          refine j_aload_n X dX11_cut_182 rfl 2 rfl ?_
          refine j_bipush (v := 6) X dX11_cut_183 (by decide) ?_
          refine j_iconst (v := 4) X dX11_cut_185 rfl ?_
          refine j_bipush (v := 9) X dX11_cut_186 (by decide) ?_
          obtain ⟨y_49, ey_49⟩ : ∃ zz9 : Int, zz9 = y_42 / (y_47.natAbs : Int) := ⟨_, rfl⟩
          obtain ⟨y_50, ey_50⟩ : ∃ zz9 : Int, zz9 = (y_42.natAbs : Int) % (y_47.natAbs : Int) := ⟨_, rfl⟩
          refine j_callV X dX11_cut_188 (n_divide_6_4_9 l G q t n co cr po tx ty z0 z1 z2 z3 y_42 y_42 z6 y_9 h_11 y_47 z10 z11 w_14 y_45 v_12 y_40 sf_48 hS_sf_48 (by omega) by_47 by_42 (by decide) (by decide) y_49 y_50 ey_49 ey_50) gX11_cut_X11_divide rfl hy_X11_divide_V ⟨Nat.le_of_ble_eq_true rfl, Nat.le_of_ble_eq_true rfl⟩ 0 rfl rfl [0, 1, 2] rfl (by decide) rfl rfl (Nat.le_of_ble_eq_true rfl) ⟨Nat.le_of_ble_eq_true rfl, Nat.le_of_ble_eq_true rfl⟩ ?_
          rintro _ ⟨v_51, v_52, sf_53⟩ ⟨rfl, hS_sf_53⟩
          change J p l e rm_X11_cut s m args below meth c Q G A 9 0 0 191 [(8, .int (-1)), (7, .int x_15), (0, .ref (q 0)), (1, .int 0), (2, .long w), (4, .int 1), (5, .int 1), (6, .int 0)] [] [(q 0, .inr (10, mF t n q co cr po tx ty)), (q 10, aI G 320 (rg [z0, z1, z2, z3, y_42, y_42, y_49, y_9, h_11, y_47, z10, z11, y_50, y_45, v_51, v_52])), (q 11, aZ G 16 sf_53)]
          exact E.1 191 _ (y_42, y_42, y_49, y_9, h_11, y_47, y_50, y_45, v_51, v_52, sf_53) dX11_cut_191 (⟨rfl, ⟨h_11, ⟨hh_110, hh_111, hh_112⟩, by dsimp only; rw [fl_m (show sg ((1 : Int32).toInt * w.toInt) = -1 from by rw [iT1, Int.one_mul]; rw [sg_neg (by omega)]) hEx, ey_49, hM9] <;> (congr 1 <;> omega)⟩, hS_sf_53⟩) hr
    · skip
      first | simp only [bI_0, Decidable.not_not, sg_mul, sg_e0, sg_l0, sg_g0, sg_le0, sg_ge0, cmp_eq, cmp_lt, cmp_ge, cmp_gt, cmp_le, lT0, lT1] at c_79 | simp only [Int32.le_iff_toInt_le, Int32.lt_iff_toInt_lt, ← Int32.toInt_inj, iT0, iT1, iT2, iT3, iT4, iT5, iT6, iT7, iT8, iT9, iT10, iT11, iT12, iT13, iT14, iT15, iT16, iT19, iT20, iT31, iT32, iT42, iT64, iT200, iT318, iT319, iT1000, iTm1, iTm2] at c_79 | skip
      refine j_iconst (v := 0) X dX11_cut_82 rfl ?_
      refine j_goto (tgt := 101) X dX11_cut_83 (by decide) ?_
      refine j_istore (L' := [(8, .int 0), (7, .int x_15), (0, .ref (q 0)), (1, .int 0), (2, .long w), (4, .int 1), (5, .int 1), (6, .int 0)]) X dX11_cut_101 (by decide) rfl ?_
      refine j_iload X dX11_cut_103 0 rfl ?_
      refine j_if_eq (tgt := 132) X dX11_cut_105 (by decide) (fun _ => ?_) (fun c9 => absurd c9 (by decide))
      refine j_iload X dX11_cut_132 0 rfl ?_
      refine j_if_ge (tgt := 164) X dX11_cut_134 (by decide) (fun _ => ?_) (fun c9 => absurd c9 (by decide))
      refine j_aload_n X dX11_cut_164 rfl 2 rfl ?_
      refine j_bipush (v := 13) X dX11_cut_165 (by decide) ?_
      refine j_iload X dX11_cut_167 6 rfl ?_
      refine j_i2l X dX11_cut_169 rfl ?_
      obtain ⟨y_54, ey_54⟩ : ∃ zz9 : Int, zz9 = ((1 : Int32).toInt64).toInt := ⟨_, rfl⟩
      have by_54 : bd 2 y_54 := by rw [ey_54]; exact (bd_mono bd_p1 (by decide))
      refine j_callV X dX11_cut_170 (n_load l G q t n co cr po tx ty [z0, z1, z2, z3, y_3, z5, z6, y_9, h_11, z9, z10, z11, w_14, y_5, v_12, y_7] sf_13 rfl hS_sf_13 13 13 rfl (by decide) ((1 : Int32).toInt64) y_54 ey_54) gX11_cut_X11_load rfl hy_X11_load_V ⟨Nat.le_of_ble_eq_true rfl, Nat.le_of_ble_eq_true rfl⟩ 0 rfl rfl [0, 1, 2] rfl (by decide) rfl rfl (Nat.le_of_ble_eq_true rfl) ⟨Nat.le_of_ble_eq_true rfl, Nat.le_of_ble_eq_true rfl⟩ ?_
      rintro _ sf_55 ⟨rfl, hS_sf_55⟩
      change J p l e rm_X11_cut s m args below meth c Q G A 9 0 0 173 [(8, .int 0), (7, .int x_15), (0, .ref (q 0)), (1, .int 0), (2, .long w), (4, .int 1), (5, .int 1), (6, .int 0)] [] [(q 0, .inr (10, mF t n q co cr po tx ty)), (q 10, aI G 320 (rg [z0, z1, z2, z3, y_3, z5, z6, y_9, h_11, z9, z10, z11, w_14, y_54, v_12, y_7])), (q 11, aZ G 16 sf_55)]
      refine j_aload_n X dX11_cut_173 rfl 2 rfl ?_
      refine j_bipush (v := 9) X dX11_cut_174 (by decide) ?_
      refine j_bipush (v := 13) X dX11_cut_176 (by decide) ?_
      refine j_iconst (v := 3) X dX11_cut_178 rfl ?_
      obtain ⟨y_56, ey_56⟩ : ∃ zz9 : Int, zz9 = y_54 * z3 := ⟨_, rfl⟩
      have by_56 : bd 86 y_56 := by rw [ey_56]; exact bd_mul by_54 b3
      refine j_callV X dX11_cut_179 (n_mul l G q t n co cr po tx ty [z0, z1, z2, z3, y_3, z5, z6, y_9, h_11, z9, z10, z11, w_14, y_54, v_12, y_7] sf_55 rfl hS_sf_55 9 9 rfl (by decide) 13 13 rfl (by decide) 3 3 rfl (by decide) (by decide) (by decide) y_56 ey_56) gX11_cut_X11_multiply rfl hy_X11_multiply_V ⟨Nat.le_of_ble_eq_true rfl, Nat.le_of_ble_eq_true rfl⟩ 0 rfl rfl [0, 1, 2] rfl (by decide) rfl rfl (Nat.le_of_ble_eq_true rfl) ⟨Nat.le_of_ble_eq_true rfl, Nat.le_of_ble_eq_true rfl⟩ ?_
      rintro _ sf_57 ⟨rfl, hS_sf_57⟩
      change J p l e rm_X11_cut s m args below meth c Q G A 9 0 0 182 [(8, .int 0), (7, .int x_15), (0, .ref (q 0)), (1, .int 0), (2, .long w), (4, .int 1), (5, .int 1), (6, .int 0)] [] [(q 0, .inr (10, mF t n q co cr po tx ty)), (q 10, aI G 320 (rg [z0, z1, z2, z3, y_3, z5, z6, y_9, h_11, y_56, z10, z11, w_14, y_54, v_12, y_7])), (q 11, aZ G 16 sf_57)]
      have hM8 : y_56 = z3 := by rw [ey_56, ey_54, i64_p]; exact Int.one_mul _
      have hM9 : (y_56.natAbs : Int) = z3 := by omega
      refine j_aload_n X dX11_cut_182 rfl 2 rfl ?_
      refine j_bipush (v := 6) X dX11_cut_183 (by decide) ?_
      refine j_iconst (v := 4) X dX11_cut_185 rfl ?_
      refine j_bipush (v := 9) X dX11_cut_186 (by decide) ?_
      obtain ⟨y_58, ey_58⟩ : ∃ zz9 : Int, zz9 = y_3 / (y_56.natAbs : Int) := ⟨_, rfl⟩
      obtain ⟨y_59, ey_59⟩ : ∃ zz9 : Int, zz9 = (y_3.natAbs : Int) % (y_56.natAbs : Int) := ⟨_, rfl⟩
      refine j_callV X dX11_cut_188 (n_divide_6_4_9 l G q t n co cr po tx ty z0 z1 z2 z3 y_3 z5 z6 y_9 h_11 y_56 z10 z11 w_14 y_54 v_12 y_7 sf_57 hS_sf_57 (by omega) by_56 by_3 (by decide) (by decide) y_58 y_59 ey_58 ey_59) gX11_cut_X11_divide rfl hy_X11_divide_V ⟨Nat.le_of_ble_eq_true rfl, Nat.le_of_ble_eq_true rfl⟩ 0 rfl rfl [0, 1, 2] rfl (by decide) rfl rfl (Nat.le_of_ble_eq_true rfl) ⟨Nat.le_of_ble_eq_true rfl, Nat.le_of_ble_eq_true rfl⟩ ?_
      rintro _ ⟨v_60, v_61, sf_62⟩ ⟨rfl, hS_sf_62⟩
      change J p l e rm_X11_cut s m args below meth c Q G A 9 0 0 191 [(8, .int 0), (7, .int x_15), (0, .ref (q 0)), (1, .int 0), (2, .long w), (4, .int 1), (5, .int 1), (6, .int 0)] [] [(q 0, .inr (10, mF t n q co cr po tx ty)), (q 10, aI G 320 (rg [z0, z1, z2, z3, y_3, z5, y_58, y_9, h_11, y_56, z10, z11, y_59, y_54, v_60, v_61])), (q 11, aZ G 16 sf_62)]
      exact E.1 191 _ (y_3, z5, y_58, y_9, h_11, y_56, y_59, y_54, v_60, v_61, sf_62) dX11_cut_191 (⟨rfl, ⟨h_11, ⟨hh_110, hh_111, hh_112⟩, by dsimp only; rw [fl_z (show sg ((1 : Int32).toInt * w.toInt) = 0 from by rw [iT1, Int.one_mul]; rw [sg_zero (by omega)]), ey_58, hM9] <;> (congr 1 <;> omega)⟩, hS_sf_62⟩) hr
  · skip
    refine j_aload_n X dX11_cut_0 rfl 0 rfl ?_
    refine j_bipush (v := 13) X dX11_cut_1 (by decide) ?_
    refine j_iload X dX11_cut_3 4 rfl ?_
    refine j_i2l X dX11_cut_5 rfl ?_
    obtain ⟨y_63, ey_63⟩ : ∃ zz9 : Int, zz9 = ((1 : Int32).toInt64).toInt := ⟨_, rfl⟩
    have by_63 : bd 2 y_63 := by rw [ey_63]; exact (bd_mono bd_p1 (by decide))
    refine j_callV X dX11_cut_6 (n_load l G q t n co cr po tx ty [z0, z1, z2, z3, z4, z5, z6, z7, z8, z9, z10, z11, z12, z13, z14, z15] sf rfl hS 13 13 rfl (by decide) ((1 : Int32).toInt64) y_63 ey_63) gX11_cut_X11_load rfl hy_X11_load_V ⟨Nat.le_of_ble_eq_true rfl, Nat.le_of_ble_eq_true rfl⟩ 0 rfl rfl [0, 1, 2] rfl (by decide) rfl rfl (Nat.le_of_ble_eq_true rfl) ⟨Nat.le_of_ble_eq_true rfl, Nat.le_of_ble_eq_true rfl⟩ ?_
    rintro _ sf_64 ⟨rfl, hS_sf_64⟩
    change J p l e rm_X11_cut s m args below meth c Q G A 9 0 0 9 [(0, .ref (q 0)), (1, .int 0), (2, .long w), (4, .int (-1)), (5, .int 1), (6, .int 0)] [] [(q 0, .inr (10, mF t n q co cr po tx ty)), (q 10, aI G 320 (rg [z0, z1, z2, z3, z4, z5, z6, z7, z8, z9, z10, z11, z12, y_63, z14, z15])), (q 11, aZ G 16 sf_64)]
    refine j_aload_n X dX11_cut_9 rfl 0 rfl ?_
    refine j_iconst (v := 4) X dX11_cut_10 rfl ?_
    refine j_bipush (v := 13) X dX11_cut_11 (by decide) ?_
    refine j_iload_n X dX11_cut_13 rfl 1 rfl ?_
    obtain ⟨y_65, ey_65⟩ : ∃ zz9 : Int, zz9 = y_63 * z0 := ⟨_, rfl⟩
    have by_65 : bd 129 y_65 := by rw [ey_65]; exact bd_mul by_63 bu
    refine j_callV X dX11_cut_14 (n_mul l G q t n co cr po tx ty [z0, z1, z2, z3, z4, z5, z6, z7, z8, z9, z10, z11, z12, y_63, z14, z15] sf_64 rfl hS_sf_64 4 4 rfl (by decide) 13 13 rfl (by decide) 0 0 rfl (by decide) (by decide) (by decide) y_65 ey_65) gX11_cut_X11_multiply rfl hy_X11_multiply_V ⟨Nat.le_of_ble_eq_true rfl, Nat.le_of_ble_eq_true rfl⟩ 0 rfl rfl [0, 1, 2] rfl (by decide) rfl rfl (Nat.le_of_ble_eq_true rfl) ⟨Nat.le_of_ble_eq_true rfl, Nat.le_of_ble_eq_true rfl⟩ ?_
    rintro _ sf_66 ⟨rfl, hS_sf_66⟩
    change J p l e rm_X11_cut s m args below meth c Q G A 9 0 0 17 [(0, .ref (q 0)), (1, .int 0), (2, .long w), (4, .int (-1)), (5, .int 1), (6, .int 0)] [] [(q 0, .inr (10, mF t n q co cr po tx ty)), (q 10, aI G 320 (rg [z0, z1, z2, z3, y_65, z5, z6, z7, z8, z9, z10, z11, z12, y_63, z14, z15])), (q 11, aZ G 16 sf_66)]
    have hA1 : y_65 = z0 := by rw [ey_65, ey_63, i64_p]; exact Int.one_mul _
    refine j_iload X dX11_cut_17 5 rfl ?_
    refine j_if_eq (tgt := 36) X dX11_cut_19 (by decide) (fun _ => ?_) (fun c9 => absurd c9 (by decide))
    refine j_aload_n X dX11_cut_36 rfl 0 rfl ?_
    refine j_bipush (v := 13) X dX11_cut_37 (by decide) ?_
    refine j_iload X dX11_cut_39 4 rfl ?_
    refine j_i2l X dX11_cut_41 rfl ?_
    refine j_lload_n X dX11_cut_42 rfl 2 rfl ?_
    refine j_lmul X dX11_cut_43 ?_
    obtain ⟨y_67, ey_67⟩ : ∃ zz9 : Int, zz9 = (((1 : Int32).toInt64) * w).toInt := ⟨_, rfl⟩
    have by_67 : bd 43 y_67 := by rw [ey_67]; exact bq9
    refine j_callV X dX11_cut_44 (n_load l G q t n co cr po tx ty [z0, z1, z2, z3, y_65, z5, z6, z7, z8, z9, z10, z11, z12, y_63, z14, z15] sf_66 rfl hS_sf_66 13 13 rfl (by decide) (((1 : Int32).toInt64) * w) y_67 ey_67) gX11_cut_X11_load rfl hy_X11_load_V ⟨Nat.le_of_ble_eq_true rfl, Nat.le_of_ble_eq_true rfl⟩ 0 rfl rfl [0, 1, 2] rfl (by decide) rfl rfl (Nat.le_of_ble_eq_true rfl) ⟨Nat.le_of_ble_eq_true rfl, Nat.le_of_ble_eq_true rfl⟩ ?_
    rintro _ sf_68 ⟨rfl, hS_sf_68⟩
    change J p l e rm_X11_cut s m args below meth c Q G A 9 0 0 47 [(0, .ref (q 0)), (1, .int 0), (2, .long w), (4, .int (-1)), (5, .int 1), (6, .int 0)] [] [(q 0, .inr (10, mF t n q co cr po tx ty)), (q 10, aI G 320 (rg [z0, z1, z2, z3, y_65, z5, z6, z7, z8, z9, z10, z11, z12, y_67, z14, z15])), (q 11, aZ G 16 sf_68)]
    refine j_aload_n X dX11_cut_47 rfl 0 rfl ?_
    refine j_bipush (v := 15) X dX11_cut_48 (by decide) ?_
    refine j_bipush (v := 13) X dX11_cut_50 (by decide) ?_
    refine j_bipush (v := 13) X dX11_cut_52 (by decide) ?_
    obtain ⟨y_69, ey_69⟩ : ∃ zz9 : Int, zz9 = y_67 * y_67 := ⟨_, rfl⟩
    have by_69 : bd 86 y_69 := by rw [ey_69]; exact bd_mul by_67 by_67
    refine j_callV X dX11_cut_54 (n_mul l G q t n co cr po tx ty [z0, z1, z2, z3, y_65, z5, z6, z7, z8, z9, z10, z11, z12, y_67, z14, z15] sf_68 rfl hS_sf_68 15 15 rfl (by decide) 13 13 rfl (by decide) 13 13 rfl (by decide) (by decide) (by decide) y_69 ey_69) gX11_cut_X11_multiply rfl hy_X11_multiply_V ⟨Nat.le_of_ble_eq_true rfl, Nat.le_of_ble_eq_true rfl⟩ 0 rfl rfl [0, 1, 2] rfl (by decide) rfl rfl (Nat.le_of_ble_eq_true rfl) ⟨Nat.le_of_ble_eq_true rfl, Nat.le_of_ble_eq_true rfl⟩ ?_
    rintro _ sf_70 ⟨rfl, hS_sf_70⟩
    change J p l e rm_X11_cut s m args below meth c Q G A 9 0 0 57 [(0, .ref (q 0)), (1, .int 0), (2, .long w), (4, .int (-1)), (5, .int 1), (6, .int 0)] [] [(q 0, .inr (10, mF t n q co cr po tx ty)), (q 10, aI G 320 (rg [z0, z1, z2, z3, y_65, z5, z6, z7, z8, z9, z10, z11, z12, y_67, z14, y_69])), (q 11, aZ G 16 sf_70)]
    refine j_aload_n X dX11_cut_57 rfl 0 rfl ?_
    refine j_bipush (v := 7) X dX11_cut_58 (by decide) ?_
    refine j_bipush (v := 15) X dX11_cut_60 (by decide) ?_
    refine j_iconst (v := 2) X dX11_cut_62 rfl ?_
    obtain ⟨y_71, ey_71⟩ : ∃ zz9 : Int, zz9 = y_69 * z2 := ⟨_, rfl⟩
    have by_71 : bd 258 y_71 := by rw [ey_71]; exact bd_mul by_69 b2
    refine j_callV X dX11_cut_63 (n_mul l G q t n co cr po tx ty [z0, z1, z2, z3, y_65, z5, z6, z7, z8, z9, z10, z11, z12, y_67, z14, y_69] sf_70 rfl hS_sf_70 7 7 rfl (by decide) 15 15 rfl (by decide) 2 2 rfl (by decide) (by decide) (by decide) y_71 ey_71) gX11_cut_X11_multiply rfl hy_X11_multiply_V ⟨Nat.le_of_ble_eq_true rfl, Nat.le_of_ble_eq_true rfl⟩ 0 rfl rfl [0, 1, 2] rfl (by decide) rfl rfl (Nat.le_of_ble_eq_true rfl) ⟨Nat.le_of_ble_eq_true rfl, Nat.le_of_ble_eq_true rfl⟩ ?_
    rintro _ sf_72 ⟨rfl, hS_sf_72⟩
    change J p l e rm_X11_cut s m args below meth c Q G A 9 0 0 66 [(0, .ref (q 0)), (1, .int 0), (2, .long w), (4, .int (-1)), (5, .int 1), (6, .int 0)] [] [(q 0, .inr (10, mF t n q co cr po tx ty)), (q 10, aI G 320 (rg [z0, z1, z2, z3, y_65, z5, z6, y_71, z8, z9, z10, z11, z12, y_67, z14, y_69])), (q 11, aZ G 16 sf_72)]
    refine j_aload_n X dX11_cut_66 rfl 0 rfl ?_
    refine j_bipush (v := 8) X dX11_cut_67 (by decide) ?_
    refine j_bipush (v := 7) X dX11_cut_69 (by decide) ?_
    refine j_callV X dX11_cut_71 (c_X11_rootOf_8_7 l G q t n co cr po tx ty z0 z1 z2 z3 y_65 z5 z6 y_71 z8 z9 z10 z11 z12 y_67 z14 y_69 sf_72 hS_sf_72 (bd_lt319 by_71 (by decide))) gX11_cut_X11_rootOf rfl hy_X11_rootOf_V ⟨Nat.le_of_ble_eq_true rfl, Nat.le_of_ble_eq_true rfl⟩ 0 rfl rfl [0, 1, 2] rfl (by decide) rfl rfl (Nat.le_of_ble_eq_true rfl) ⟨Nat.le_of_ble_eq_true rfl, Nat.le_of_ble_eq_true rfl⟩ ?_
    rintro _ ⟨h_73, v_74, sf_75⟩ ⟨rfl, hh_730, hh_731, hh_732, hS_sf_75⟩
    dsimp only at hh_730 hh_731 hh_732 hS_sf_75
    change J p l e rm_X11_cut s m args below meth c Q G A 9 0 0 74 [(0, .ref (q 0)), (1, .int 0), (2, .long w), (4, .int (-1)), (5, .int 1), (6, .int 0)] [.int (if h_73 * h_73 = (y_71.natAbs : Int) then 1 else 0)] [(q 0, .inr (10, mF t n q co cr po tx ty)), (q 10, aI G 320 (rg [z0, z1, z2, z3, y_65, z5, z6, y_71, h_73, z9, z10, z11, ((y_71.natAbs : Int) - h_73 * h_73), y_67, v_74, y_69])), (q 11, aZ G 16 sf_75)]
    obtain ⟨w_76, ew_76⟩ : ∃ zz9 : Int, zz9 = (y_71.natAbs : Int) - h_73 * h_73 := ⟨_, rfl⟩
    rw [← ew_76] at hS_sf_75 ⊢
    have hN9 : (y_71.natAbs : Int) = w.toInt * w.toInt * z2 := by rw [ey_71, ey_69, ey_67, hq9]; exact Int.natAbs_of_nonneg (Int.mul_nonneg (sq_nn _) hR)
    rw [hN9] at hh_731 hh_732 ⊢
    have bh_73 : bd 260 h_73 := bd_of_le hh_730 (Int.le_trans (sq_ge hh_730) hh_731) (by rw [← hN9]; exact bd_abs (bd_mono by_71 (by decide)))
    refine j_topi (fun x_77 ex_77 => ?_)
    refine j_istore (L' := [(7, .int x_77), (0, .ref (q 0)), (1, .int 0), (2, .long w), (4, .int (-1)), (5, .int 1), (6, .int 0)]) X dX11_cut_74 (by decide) rfl ?_
    refine j_lload_n X dX11_cut_76 rfl 3 rfl ?_
    refine j_lconst (v := 0) X dX11_cut_77 rfl ?_
    refine j_lcmp X dX11_cut_78 ?_
    refine j_if_ne (tgt := 86) X dX11_cut_79 (by decide) (fun c_79 => ?_) (fun c_79 => ?_)
    · skip
      first | simp only [bI_0, Decidable.not_not, sg_mul, sg_e0, sg_l0, sg_g0, sg_le0, sg_ge0, cmp_eq, cmp_lt, cmp_ge, cmp_gt, cmp_le, lT0, lT1] at c_79 | simp only [Int32.le_iff_toInt_le, Int32.lt_iff_toInt_lt, ← Int32.toInt_inj, iT0, iT1, iT2, iT3, iT4, iT5, iT6, iT7, iT8, iT9, iT10, iT11, iT12, iT13, iT14, iT15, iT16, iT19, iT20, iT31, iT32, iT42, iT64, iT200, iT318, iT319, iT1000, iTm1, iTm2] at c_79 | skip
      refine j_lload_n X dX11_cut_86 rfl 3 rfl ?_
      refine j_lconst (v := 0) X dX11_cut_87 rfl ?_
      refine j_lcmp X dX11_cut_88 ?_
      refine j_if_ge (tgt := 99) X dX11_cut_89 (by decide) (fun c_89 => ?_) (fun c_89 => ?_)
      · skip
        first | simp only [bI_0, Decidable.not_not, sg_mul, sg_e0, sg_l0, sg_g0, sg_le0, sg_ge0, cmp_eq, cmp_lt, cmp_ge, cmp_gt, cmp_le, lT0, lT1] at c_89 | simp only [Int32.le_iff_toInt_le, Int32.lt_iff_toInt_lt, ← Int32.toInt_inj, iT0, iT1, iT2, iT3, iT4, iT5, iT6, iT7, iT8, iT9, iT10, iT11, iT12, iT13, iT14, iT15, iT16, iT19, iT20, iT31, iT32, iT42, iT64, iT200, iT318, iT319, iT1000, iTm1, iTm2] at c_89 | skip
        refine j_iload X dX11_cut_99 4 rfl ?_
        refine j_istore (L' := [(8, .int (-1)), (7, .int x_77), (0, .ref (q 0)), (1, .int 0), (2, .long w), (4, .int (-1)), (5, .int 1), (6, .int 0)]) X dX11_cut_101 (by decide) rfl ?_
        refine j_iload X dX11_cut_103 0 rfl ?_
        refine j_if_eq (tgt := 132) X dX11_cut_105 (by decide) (fun c9 => absurd c9 (by decide)) (fun _ => ?_)
        refine j_aload_n X dX11_cut_108 rfl 2 rfl ?_
        refine j_iconst (v := 5) X dX11_cut_109 rfl ?_
        refine j_iconst (v := 4) X dX11_cut_110 rfl ?_
        refine j_bipush (v := 8) X dX11_cut_111 (by decide) ?_
        refine j_iload X dX11_cut_113 0 rfl ?_
        refine j_if_ge (tgt := 122) X dX11_cut_115 (by decide) (fun c9 => absurd c9 (by decide)) (fun _ => ?_)
        refine j_iconst (v := 1) X dX11_cut_118 rfl ?_
        refine j_goto (tgt := 123) X dX11_cut_119 (by decide) ?_
        obtain ⟨y_78, ey_78⟩ : ∃ zz9 : Int, zz9 = y_65 - h_73 := ⟨_, rfl⟩
        have by_78 : bd 261 y_78 := by rw [ey_78]; exact bd_sub (bd_mono by_65 (by decide)) (bd_mono bh_73 (by decide))
        refine j_callV X dX11_cut_123 (n_join l G q t n co cr po tx ty [z0, z1, z2, z3, y_65, z5, z6, y_71, h_73, z9, z10, z11, w_76, y_67, v_74, y_69] sf_75 rfl hS_sf_75 5 5 rfl (by decide) 4 4 rfl (by decide) 8 8 rfl (by decide) 1 (Or.inr rfl) (by decide) (by decide) y_78 ey_78 by_65 bh_73 (by decide) (by decide)) gX11_cut_X11_join rfl hy_X11_join_V ⟨Nat.le_of_ble_eq_true rfl, Nat.le_of_ble_eq_true rfl⟩ 0 rfl rfl [0, 1, 2] rfl (by decide) rfl rfl (Nat.le_of_ble_eq_true rfl) ⟨Nat.le_of_ble_eq_true rfl, Nat.le_of_ble_eq_true rfl⟩ ?_
        rintro _ sf_79 ⟨rfl, hS_sf_79⟩
        change J p l e rm_X11_cut s m args below meth c Q G A 9 0 0 126 [(8, .int (-1)), (7, .int x_77), (0, .ref (q 0)), (1, .int 0), (2, .long w), (4, .int (-1)), (5, .int 1), (6, .int 0)] [] [(q 0, .inr (10, mF t n q co cr po tx ty)), (q 10, aI G 320 (rg [z0, z1, z2, z3, y_65, y_78, z6, y_71, h_73, z9, z10, z11, w_76, y_67, v_74, y_69])), (q 11, aZ G 16 sf_79)]
        refine j_aload_n X dX11_cut_126 rfl 2 rfl ?_
        refine j_iconst (v := 4) X dX11_cut_127 rfl ?_
        refine j_iconst (v := 5) X dX11_cut_128 rfl ?_
        refine j_callV X dX11_cut_129 (h_copy l G q t n co cr po tx ty [z0, z1, z2, z3, y_65, y_78, z6, y_71, h_73, z9, z10, z11, w_76, y_67, v_74, y_69] sf_79 rfl hS_sf_79 4 4 rfl (by decide) 5 5 rfl (by decide) (by decide)) gX11_cut_X11_copy rfl hy_X11_copy_V ⟨Nat.le_of_ble_eq_true rfl, Nat.le_of_ble_eq_true rfl⟩ 0 rfl rfl [0, 1, 2] rfl (by decide) rfl rfl (Nat.le_of_ble_eq_true rfl) ⟨Nat.le_of_ble_eq_true rfl, Nat.le_of_ble_eq_true rfl⟩ ?_
        rintro _ sf_80 ⟨rfl, hS_sf_80⟩
        change J p l e rm_X11_cut s m args below meth c Q G A 9 0 0 132 [(8, .int (-1)), (7, .int x_77), (0, .ref (q 0)), (1, .int 0), (2, .long w), (4, .int (-1)), (5, .int 1), (6, .int 0)] [] [(q 0, .inr (10, mF t n q co cr po tx ty)), (q 10, aI G 320 (rg [z0, z1, z2, z3, y_78, y_78, z6, y_71, h_73, z9, z10, z11, w_76, y_67, v_74, y_69])), (q 11, aZ G 16 sf_80)]
        refine j_iload X dX11_cut_132 0 rfl ?_
        refine j_if_ge (tgt := 164) X dX11_cut_134 (by decide) (fun c9 => absurd c9 (by decide)) (fun _ => ?_)
        refine j_iload X dX11_cut_137 1 rfl ?_
        refine j_if_ne (tgt := 164) X dX11_cut_139 (by decide) (fun c_139 => ?_) (fun c_139 => ?_)
        · skip
          rw [ex_77] at c_139
          have hEx : h_73 * h_73 = w.toInt * w.toInt * z2 := by by_cases q9 : h_73 * h_73 = w.toInt * w.toInt * z2; exact q9; rw [if_neg q9] at c_139; exact absurd rfl c_139
          refine j_aload_n X dX11_cut_164 rfl 2 rfl ?_
          refine j_bipush (v := 13) X dX11_cut_165 (by decide) ?_
          refine j_iload X dX11_cut_167 6 rfl ?_
          refine j_i2l X dX11_cut_169 rfl ?_
          obtain ⟨y_81, ey_81⟩ : ∃ zz9 : Int, zz9 = ((1 : Int32).toInt64).toInt := ⟨_, rfl⟩
          have by_81 : bd 2 y_81 := by rw [ey_81]; exact (bd_mono bd_p1 (by decide))
          refine j_callV X dX11_cut_170 (n_load l G q t n co cr po tx ty [z0, z1, z2, z3, y_78, y_78, z6, y_71, h_73, z9, z10, z11, w_76, y_67, v_74, y_69] sf_80 rfl hS_sf_80 13 13 rfl (by decide) ((1 : Int32).toInt64) y_81 ey_81) gX11_cut_X11_load rfl hy_X11_load_V ⟨Nat.le_of_ble_eq_true rfl, Nat.le_of_ble_eq_true rfl⟩ 0 rfl rfl [0, 1, 2] rfl (by decide) rfl rfl (Nat.le_of_ble_eq_true rfl) ⟨Nat.le_of_ble_eq_true rfl, Nat.le_of_ble_eq_true rfl⟩ ?_
          rintro _ sf_82 ⟨rfl, hS_sf_82⟩
          change J p l e rm_X11_cut s m args below meth c Q G A 9 0 0 173 [(8, .int (-1)), (7, .int x_77), (0, .ref (q 0)), (1, .int 0), (2, .long w), (4, .int (-1)), (5, .int 1), (6, .int 0)] [] [(q 0, .inr (10, mF t n q co cr po tx ty)), (q 10, aI G 320 (rg [z0, z1, z2, z3, y_78, y_78, z6, y_71, h_73, z9, z10, z11, w_76, y_81, v_74, y_69])), (q 11, aZ G 16 sf_82)]
          refine j_aload_n X dX11_cut_173 rfl 2 rfl ?_
          refine j_bipush (v := 9) X dX11_cut_174 (by decide) ?_
          refine j_bipush (v := 13) X dX11_cut_176 (by decide) ?_
          refine j_iconst (v := 3) X dX11_cut_178 rfl ?_
          obtain ⟨y_83, ey_83⟩ : ∃ zz9 : Int, zz9 = y_81 * z3 := ⟨_, rfl⟩
          have by_83 : bd 86 y_83 := by rw [ey_83]; exact bd_mul by_81 b3
          refine j_callV X dX11_cut_179 (n_mul l G q t n co cr po tx ty [z0, z1, z2, z3, y_78, y_78, z6, y_71, h_73, z9, z10, z11, w_76, y_81, v_74, y_69] sf_82 rfl hS_sf_82 9 9 rfl (by decide) 13 13 rfl (by decide) 3 3 rfl (by decide) (by decide) (by decide) y_83 ey_83) gX11_cut_X11_multiply rfl hy_X11_multiply_V ⟨Nat.le_of_ble_eq_true rfl, Nat.le_of_ble_eq_true rfl⟩ 0 rfl rfl [0, 1, 2] rfl (by decide) rfl rfl (Nat.le_of_ble_eq_true rfl) ⟨Nat.le_of_ble_eq_true rfl, Nat.le_of_ble_eq_true rfl⟩ ?_
          rintro _ sf_84 ⟨rfl, hS_sf_84⟩
          change J p l e rm_X11_cut s m args below meth c Q G A 9 0 0 182 [(8, .int (-1)), (7, .int x_77), (0, .ref (q 0)), (1, .int 0), (2, .long w), (4, .int (-1)), (5, .int 1), (6, .int 0)] [] [(q 0, .inr (10, mF t n q co cr po tx ty)), (q 10, aI G 320 (rg [z0, z1, z2, z3, y_78, y_78, z6, y_71, h_73, y_83, z10, z11, w_76, y_81, v_74, y_69])), (q 11, aZ G 16 sf_84)]
          have hM8 : y_83 = z3 := by rw [ey_83, ey_81, i64_p]; exact Int.one_mul _
          have hM9 : (y_83.natAbs : Int) = z3 := by omega
          refine j_aload_n X dX11_cut_182 rfl 2 rfl ?_
          refine j_bipush (v := 6) X dX11_cut_183 (by decide) ?_
          refine j_iconst (v := 4) X dX11_cut_185 rfl ?_
          refine j_bipush (v := 9) X dX11_cut_186 (by decide) ?_
          obtain ⟨y_85, ey_85⟩ : ∃ zz9 : Int, zz9 = y_78 / (y_83.natAbs : Int) := ⟨_, rfl⟩
          obtain ⟨y_86, ey_86⟩ : ∃ zz9 : Int, zz9 = (y_78.natAbs : Int) % (y_83.natAbs : Int) := ⟨_, rfl⟩
          refine j_callV X dX11_cut_188 (n_divide_6_4_9 l G q t n co cr po tx ty z0 z1 z2 z3 y_78 y_78 z6 y_71 h_73 y_83 z10 z11 w_76 y_81 v_74 y_69 sf_84 hS_sf_84 (by omega) by_83 by_78 (by decide) (by decide) y_85 y_86 ey_85 ey_86) gX11_cut_X11_divide rfl hy_X11_divide_V ⟨Nat.le_of_ble_eq_true rfl, Nat.le_of_ble_eq_true rfl⟩ 0 rfl rfl [0, 1, 2] rfl (by decide) rfl rfl (Nat.le_of_ble_eq_true rfl) ⟨Nat.le_of_ble_eq_true rfl, Nat.le_of_ble_eq_true rfl⟩ ?_
          rintro _ ⟨v_87, v_88, sf_89⟩ ⟨rfl, hS_sf_89⟩
          change J p l e rm_X11_cut s m args below meth c Q G A 9 0 0 191 [(8, .int (-1)), (7, .int x_77), (0, .ref (q 0)), (1, .int 0), (2, .long w), (4, .int (-1)), (5, .int 1), (6, .int 0)] [] [(q 0, .inr (10, mF t n q co cr po tx ty)), (q 10, aI G 320 (rg [z0, z1, z2, z3, y_78, y_78, y_85, y_71, h_73, y_83, z10, z11, y_86, y_81, v_87, v_88])), (q 11, aZ G 16 sf_89)]
          exact E.1 191 _ (y_78, y_78, y_85, y_71, h_73, y_83, y_86, y_81, v_87, v_88, sf_89) dX11_cut_191 (⟨rfl, ⟨h_73, ⟨hh_730, hh_731, hh_732⟩, by dsimp only; rw [fl_n (show sg ((-1 : Int32).toInt * w.toInt) = -1 from by rw [iTm1, Int.neg_one_mul]; rw [sg_neg (by omega)]) hEx, ey_85, hM9] <;> (congr 1 <;> omega)⟩, hS_sf_89⟩) hr
        · skip
          rw [ex_77] at c_139
          have hEx : ¬ h_73 * h_73 = w.toInt * w.toInt * z2 := by intro q9; rw [if_pos q9] at c_139; exact absurd c_139 (by decide)
          refine j_aload_n X dX11_cut_142 rfl 2 rfl ?_
          refine j_bipush (v := 15) X dX11_cut_143 (by decide) ?_
          refine j_lconst (v := 1) X dX11_cut_145 rfl ?_
          obtain ⟨y_90, ey_90⟩ : ∃ zz9 : Int, zz9 = 1 := ⟨_, rfl⟩
          have by_90 : bd 1 y_90 := by rw [ey_90]; exact (by decide : Int.natAbs 1 ≤ 2 ^ 1)
          refine j_callV X dX11_cut_146 (n_load l G q t n co cr po tx ty [z0, z1, z2, z3, y_78, y_78, z6, y_71, h_73, z9, z10, z11, w_76, y_67, v_74, y_69] sf_80 rfl hS_sf_80 15 15 rfl (by decide) 1 y_90 (by rw [ey_90]; rfl)) gX11_cut_X11_load rfl hy_X11_load_V ⟨Nat.le_of_ble_eq_true rfl, Nat.le_of_ble_eq_true rfl⟩ 0 rfl rfl [0, 1, 2] rfl (by decide) rfl rfl (Nat.le_of_ble_eq_true rfl) ⟨Nat.le_of_ble_eq_true rfl, Nat.le_of_ble_eq_true rfl⟩ ?_
          rintro _ sf_91 ⟨rfl, hS_sf_91⟩
          change J p l e rm_X11_cut s m args below meth c Q G A 9 0 0 149 [(8, .int (-1)), (7, .int x_77), (0, .ref (q 0)), (1, .int 0), (2, .long w), (4, .int (-1)), (5, .int 1), (6, .int 0)] [] [(q 0, .inr (10, mF t n q co cr po tx ty)), (q 10, aI G 320 (rg [z0, z1, z2, z3, y_78, y_78, z6, y_71, h_73, z9, z10, z11, w_76, y_67, v_74, y_90])), (q 11, aZ G 16 sf_91)]
          refine j_aload_n X dX11_cut_149 rfl 2 rfl ?_
          refine j_iconst (v := 5) X dX11_cut_150 rfl ?_
          refine j_iconst (v := 4) X dX11_cut_151 rfl ?_
          refine j_bipush (v := 15) X dX11_cut_152 (by decide) ?_
          refine j_iconst (v := 1) X dX11_cut_154 rfl ?_
          obtain ⟨y_92, ey_92⟩ : ∃ zz9 : Int, zz9 = y_78 - y_90 := ⟨_, rfl⟩
          have by_92 : bd 262 y_92 := by rw [ey_92]; exact bd_sub (bd_mono by_78 (by decide)) (bd_mono by_90 (by decide))
          refine j_callV X dX11_cut_155 (n_join l G q t n co cr po tx ty [z0, z1, z2, z3, y_78, y_78, z6, y_71, h_73, z9, z10, z11, w_76, y_67, v_74, y_90] sf_91 rfl hS_sf_91 5 5 rfl (by decide) 4 4 rfl (by decide) 15 15 rfl (by decide) 1 (Or.inr rfl) (by decide) (by decide) y_92 ey_92 by_78 by_90 (by decide) (by decide)) gX11_cut_X11_join rfl hy_X11_join_V ⟨Nat.le_of_ble_eq_true rfl, Nat.le_of_ble_eq_true rfl⟩ 0 rfl rfl [0, 1, 2] rfl (by decide) rfl rfl (Nat.le_of_ble_eq_true rfl) ⟨Nat.le_of_ble_eq_true rfl, Nat.le_of_ble_eq_true rfl⟩ ?_
          rintro _ sf_93 ⟨rfl, hS_sf_93⟩
          change J p l e rm_X11_cut s m args below meth c Q G A 9 0 0 158 [(8, .int (-1)), (7, .int x_77), (0, .ref (q 0)), (1, .int 0), (2, .long w), (4, .int (-1)), (5, .int 1), (6, .int 0)] [] [(q 0, .inr (10, mF t n q co cr po tx ty)), (q 10, aI G 320 (rg [z0, z1, z2, z3, y_78, y_92, z6, y_71, h_73, z9, z10, z11, w_76, y_67, v_74, y_90])), (q 11, aZ G 16 sf_93)]
          refine j_aload_n X dX11_cut_158 rfl 2 rfl ?_
          refine j_iconst (v := 4) X dX11_cut_159 rfl ?_
          refine j_iconst (v := 5) X dX11_cut_160 rfl ?_
          refine j_callV X dX11_cut_161 (h_copy l G q t n co cr po tx ty [z0, z1, z2, z3, y_78, y_92, z6, y_71, h_73, z9, z10, z11, w_76, y_67, v_74, y_90] sf_93 rfl hS_sf_93 4 4 rfl (by decide) 5 5 rfl (by decide) (by decide)) gX11_cut_X11_copy rfl hy_X11_copy_V ⟨Nat.le_of_ble_eq_true rfl, Nat.le_of_ble_eq_true rfl⟩ 0 rfl rfl [0, 1, 2] rfl (by decide) rfl rfl (Nat.le_of_ble_eq_true rfl) ⟨Nat.le_of_ble_eq_true rfl, Nat.le_of_ble_eq_true rfl⟩ ?_
          rintro _ sf_94 ⟨rfl, hS_sf_94⟩
          change J p l e rm_X11_cut s m args below meth c Q G A 9 0 0 164 [(8, .int (-1)), (7, .int x_77), (0, .ref (q 0)), (1, .int 0), (2, .long w), (4, .int (-1)), (5, .int 1), (6, .int 0)] [] [(q 0, .inr (10, mF t n q co cr po tx ty)), (q 10, aI G 320 (rg [z0, z1, z2, z3, y_92, y_92, z6, y_71, h_73, z9, z10, z11, w_76, y_67, v_74, y_90])), (q 11, aZ G 16 sf_94)]
          refine j_aload_n X dX11_cut_164 rfl 2 rfl ?_
          refine j_bipush (v := 13) X dX11_cut_165 (by decide) ?_
          refine j_iload X dX11_cut_167 6 rfl ?_
          refine j_i2l X dX11_cut_169 rfl ?_
          obtain ⟨y_95, ey_95⟩ : ∃ zz9 : Int, zz9 = ((1 : Int32).toInt64).toInt := ⟨_, rfl⟩
          have by_95 : bd 2 y_95 := by rw [ey_95]; exact (bd_mono bd_p1 (by decide))
          refine j_callV X dX11_cut_170 (n_load l G q t n co cr po tx ty [z0, z1, z2, z3, y_92, y_92, z6, y_71, h_73, z9, z10, z11, w_76, y_67, v_74, y_90] sf_94 rfl hS_sf_94 13 13 rfl (by decide) ((1 : Int32).toInt64) y_95 ey_95) gX11_cut_X11_load rfl hy_X11_load_V ⟨Nat.le_of_ble_eq_true rfl, Nat.le_of_ble_eq_true rfl⟩ 0 rfl rfl [0, 1, 2] rfl (by decide) rfl rfl (Nat.le_of_ble_eq_true rfl) ⟨Nat.le_of_ble_eq_true rfl, Nat.le_of_ble_eq_true rfl⟩ ?_
          rintro _ sf_96 ⟨rfl, hS_sf_96⟩
          change J p l e rm_X11_cut s m args below meth c Q G A 9 0 0 173 [(8, .int (-1)), (7, .int x_77), (0, .ref (q 0)), (1, .int 0), (2, .long w), (4, .int (-1)), (5, .int 1), (6, .int 0)] [] [(q 0, .inr (10, mF t n q co cr po tx ty)), (q 10, aI G 320 (rg [z0, z1, z2, z3, y_92, y_92, z6, y_71, h_73, z9, z10, z11, w_76, y_95, v_74, y_90])), (q 11, aZ G 16 sf_96)]
          refine j_aload_n X dX11_cut_173 rfl 2 rfl ?_
          refine j_bipush (v := 9) X dX11_cut_174 (by decide) ?_
          refine j_bipush (v := 13) X dX11_cut_176 (by decide) ?_
          refine j_iconst (v := 3) X dX11_cut_178 rfl ?_
          obtain ⟨y_97, ey_97⟩ : ∃ zz9 : Int, zz9 = y_95 * z3 := ⟨_, rfl⟩
          have by_97 : bd 86 y_97 := by rw [ey_97]; exact bd_mul by_95 b3
          refine j_callV X dX11_cut_179 (n_mul l G q t n co cr po tx ty [z0, z1, z2, z3, y_92, y_92, z6, y_71, h_73, z9, z10, z11, w_76, y_95, v_74, y_90] sf_96 rfl hS_sf_96 9 9 rfl (by decide) 13 13 rfl (by decide) 3 3 rfl (by decide) (by decide) (by decide) y_97 ey_97) gX11_cut_X11_multiply rfl hy_X11_multiply_V ⟨Nat.le_of_ble_eq_true rfl, Nat.le_of_ble_eq_true rfl⟩ 0 rfl rfl [0, 1, 2] rfl (by decide) rfl rfl (Nat.le_of_ble_eq_true rfl) ⟨Nat.le_of_ble_eq_true rfl, Nat.le_of_ble_eq_true rfl⟩ ?_
          rintro _ sf_98 ⟨rfl, hS_sf_98⟩
          change J p l e rm_X11_cut s m args below meth c Q G A 9 0 0 182 [(8, .int (-1)), (7, .int x_77), (0, .ref (q 0)), (1, .int 0), (2, .long w), (4, .int (-1)), (5, .int 1), (6, .int 0)] [] [(q 0, .inr (10, mF t n q co cr po tx ty)), (q 10, aI G 320 (rg [z0, z1, z2, z3, y_92, y_92, z6, y_71, h_73, y_97, z10, z11, w_76, y_95, v_74, y_90])), (q 11, aZ G 16 sf_98)]
          have hM8 : y_97 = z3 := by rw [ey_97, ey_95, i64_p]; exact Int.one_mul _
          have hM9 : (y_97.natAbs : Int) = z3 := by omega
          refine j_aload_n X dX11_cut_182 rfl 2 rfl ?_
          refine j_bipush (v := 6) X dX11_cut_183 (by decide) ?_
          refine j_iconst (v := 4) X dX11_cut_185 rfl ?_
          refine j_bipush (v := 9) X dX11_cut_186 (by decide) ?_
          obtain ⟨y_99, ey_99⟩ : ∃ zz9 : Int, zz9 = y_92 / (y_97.natAbs : Int) := ⟨_, rfl⟩
          obtain ⟨y_100, ey_100⟩ : ∃ zz9 : Int, zz9 = (y_92.natAbs : Int) % (y_97.natAbs : Int) := ⟨_, rfl⟩
          refine j_callV X dX11_cut_188 (n_divide_6_4_9 l G q t n co cr po tx ty z0 z1 z2 z3 y_92 y_92 z6 y_71 h_73 y_97 z10 z11 w_76 y_95 v_74 y_90 sf_98 hS_sf_98 (by omega) by_97 by_92 (by decide) (by decide) y_99 y_100 ey_99 ey_100) gX11_cut_X11_divide rfl hy_X11_divide_V ⟨Nat.le_of_ble_eq_true rfl, Nat.le_of_ble_eq_true rfl⟩ 0 rfl rfl [0, 1, 2] rfl (by decide) rfl rfl (Nat.le_of_ble_eq_true rfl) ⟨Nat.le_of_ble_eq_true rfl, Nat.le_of_ble_eq_true rfl⟩ ?_
          rintro _ ⟨v_101, v_102, sf_103⟩ ⟨rfl, hS_sf_103⟩
          change J p l e rm_X11_cut s m args below meth c Q G A 9 0 0 191 [(8, .int (-1)), (7, .int x_77), (0, .ref (q 0)), (1, .int 0), (2, .long w), (4, .int (-1)), (5, .int 1), (6, .int 0)] [] [(q 0, .inr (10, mF t n q co cr po tx ty)), (q 10, aI G 320 (rg [z0, z1, z2, z3, y_92, y_92, y_99, y_71, h_73, y_97, z10, z11, y_100, y_95, v_101, v_102])), (q 11, aZ G 16 sf_103)]
          exact E.1 191 _ (y_92, y_92, y_99, y_71, h_73, y_97, y_100, y_95, v_101, v_102, sf_103) dX11_cut_191 (⟨rfl, ⟨h_73, ⟨hh_730, hh_731, hh_732⟩, by dsimp only; rw [fl_m (show sg ((-1 : Int32).toInt * w.toInt) = -1 from by rw [iTm1, Int.neg_one_mul]; rw [sg_neg (by omega)]) hEx, ey_99, hM9] <;> (congr 1 <;> omega)⟩, hS_sf_103⟩) hr
      · skip
        first | simp only [bI_0, Decidable.not_not, sg_mul, sg_e0, sg_l0, sg_g0, sg_le0, sg_ge0, cmp_eq, cmp_lt, cmp_ge, cmp_gt, cmp_le, lT0, lT1] at c_89 | simp only [Int32.le_iff_toInt_le, Int32.lt_iff_toInt_lt, ← Int32.toInt_inj, iT0, iT1, iT2, iT3, iT4, iT5, iT6, iT7, iT8, iT9, iT10, iT11, iT12, iT13, iT14, iT15, iT16, iT19, iT20, iT31, iT32, iT42, iT64, iT200, iT318, iT319, iT1000, iTm1, iTm2] at c_89 | skip
        refine j_iconst (v := 0) X dX11_cut_92 rfl ?_
        refine j_iload X dX11_cut_93 4 rfl ?_
        refine j_isub X dX11_cut_95 ?_
        rw [show (0 : Int32) - (-1) = 1 from by decide]
        refine j_goto (tgt := 101) X dX11_cut_96 (by decide) ?_
        refine j_istore (L' := [(8, .int 1), (7, .int x_77), (0, .ref (q 0)), (1, .int 0), (2, .long w), (4, .int (-1)), (5, .int 1), (6, .int 0)]) X dX11_cut_101 (by decide) rfl ?_
        refine j_iload X dX11_cut_103 0 rfl ?_
        refine j_if_eq (tgt := 132) X dX11_cut_105 (by decide) (fun c9 => absurd c9 (by decide)) (fun _ => ?_)
        refine j_aload_n X dX11_cut_108 rfl 2 rfl ?_
        refine j_iconst (v := 5) X dX11_cut_109 rfl ?_
        refine j_iconst (v := 4) X dX11_cut_110 rfl ?_
        refine j_bipush (v := 8) X dX11_cut_111 (by decide) ?_
        refine j_iload X dX11_cut_113 0 rfl ?_
        refine j_if_ge (tgt := 122) X dX11_cut_115 (by decide) (fun _ => ?_) (fun c9 => absurd c9 (by decide))
        refine j_iconst (v := 0) X dX11_cut_122 rfl ?_
        obtain ⟨y_104, ey_104⟩ : ∃ zz9 : Int, zz9 = y_65 + h_73 := ⟨_, rfl⟩
        have by_104 : bd 261 y_104 := by rw [ey_104]; exact bd_add (bd_mono by_65 (by decide)) (bd_mono bh_73 (by decide))
        refine j_callV X dX11_cut_123 (n_join l G q t n co cr po tx ty [z0, z1, z2, z3, y_65, z5, z6, y_71, h_73, z9, z10, z11, w_76, y_67, v_74, y_69] sf_75 rfl hS_sf_75 5 5 rfl (by decide) 4 4 rfl (by decide) 8 8 rfl (by decide) 0 (Or.inl rfl) (by decide) (by decide) y_104 ey_104 by_65 bh_73 (by decide) (by decide)) gX11_cut_X11_join rfl hy_X11_join_V ⟨Nat.le_of_ble_eq_true rfl, Nat.le_of_ble_eq_true rfl⟩ 0 rfl rfl [0, 1, 2] rfl (by decide) rfl rfl (Nat.le_of_ble_eq_true rfl) ⟨Nat.le_of_ble_eq_true rfl, Nat.le_of_ble_eq_true rfl⟩ ?_
        rintro _ sf_105 ⟨rfl, hS_sf_105⟩
        change J p l e rm_X11_cut s m args below meth c Q G A 9 0 0 126 [(8, .int 1), (7, .int x_77), (0, .ref (q 0)), (1, .int 0), (2, .long w), (4, .int (-1)), (5, .int 1), (6, .int 0)] [] [(q 0, .inr (10, mF t n q co cr po tx ty)), (q 10, aI G 320 (rg [z0, z1, z2, z3, y_65, y_104, z6, y_71, h_73, z9, z10, z11, w_76, y_67, v_74, y_69])), (q 11, aZ G 16 sf_105)]
        refine j_aload_n X dX11_cut_126 rfl 2 rfl ?_
        refine j_iconst (v := 4) X dX11_cut_127 rfl ?_
        refine j_iconst (v := 5) X dX11_cut_128 rfl ?_
        refine j_callV X dX11_cut_129 (h_copy l G q t n co cr po tx ty [z0, z1, z2, z3, y_65, y_104, z6, y_71, h_73, z9, z10, z11, w_76, y_67, v_74, y_69] sf_105 rfl hS_sf_105 4 4 rfl (by decide) 5 5 rfl (by decide) (by decide)) gX11_cut_X11_copy rfl hy_X11_copy_V ⟨Nat.le_of_ble_eq_true rfl, Nat.le_of_ble_eq_true rfl⟩ 0 rfl rfl [0, 1, 2] rfl (by decide) rfl rfl (Nat.le_of_ble_eq_true rfl) ⟨Nat.le_of_ble_eq_true rfl, Nat.le_of_ble_eq_true rfl⟩ ?_
        rintro _ sf_106 ⟨rfl, hS_sf_106⟩
        change J p l e rm_X11_cut s m args below meth c Q G A 9 0 0 132 [(8, .int 1), (7, .int x_77), (0, .ref (q 0)), (1, .int 0), (2, .long w), (4, .int (-1)), (5, .int 1), (6, .int 0)] [] [(q 0, .inr (10, mF t n q co cr po tx ty)), (q 10, aI G 320 (rg [z0, z1, z2, z3, y_104, y_104, z6, y_71, h_73, z9, z10, z11, w_76, y_67, v_74, y_69])), (q 11, aZ G 16 sf_106)]
        refine j_iload X dX11_cut_132 0 rfl ?_
        refine j_if_ge (tgt := 164) X dX11_cut_134 (by decide) (fun _ => ?_) (fun c9 => absurd c9 (by decide))
        refine j_aload_n X dX11_cut_164 rfl 2 rfl ?_
        refine j_bipush (v := 13) X dX11_cut_165 (by decide) ?_
        refine j_iload X dX11_cut_167 6 rfl ?_
        refine j_i2l X dX11_cut_169 rfl ?_
        obtain ⟨y_107, ey_107⟩ : ∃ zz9 : Int, zz9 = ((1 : Int32).toInt64).toInt := ⟨_, rfl⟩
        have by_107 : bd 2 y_107 := by rw [ey_107]; exact (bd_mono bd_p1 (by decide))
        refine j_callV X dX11_cut_170 (n_load l G q t n co cr po tx ty [z0, z1, z2, z3, y_104, y_104, z6, y_71, h_73, z9, z10, z11, w_76, y_67, v_74, y_69] sf_106 rfl hS_sf_106 13 13 rfl (by decide) ((1 : Int32).toInt64) y_107 ey_107) gX11_cut_X11_load rfl hy_X11_load_V ⟨Nat.le_of_ble_eq_true rfl, Nat.le_of_ble_eq_true rfl⟩ 0 rfl rfl [0, 1, 2] rfl (by decide) rfl rfl (Nat.le_of_ble_eq_true rfl) ⟨Nat.le_of_ble_eq_true rfl, Nat.le_of_ble_eq_true rfl⟩ ?_
        rintro _ sf_108 ⟨rfl, hS_sf_108⟩
        change J p l e rm_X11_cut s m args below meth c Q G A 9 0 0 173 [(8, .int 1), (7, .int x_77), (0, .ref (q 0)), (1, .int 0), (2, .long w), (4, .int (-1)), (5, .int 1), (6, .int 0)] [] [(q 0, .inr (10, mF t n q co cr po tx ty)), (q 10, aI G 320 (rg [z0, z1, z2, z3, y_104, y_104, z6, y_71, h_73, z9, z10, z11, w_76, y_107, v_74, y_69])), (q 11, aZ G 16 sf_108)]
        refine j_aload_n X dX11_cut_173 rfl 2 rfl ?_
        refine j_bipush (v := 9) X dX11_cut_174 (by decide) ?_
        refine j_bipush (v := 13) X dX11_cut_176 (by decide) ?_
        refine j_iconst (v := 3) X dX11_cut_178 rfl ?_
        obtain ⟨y_109, ey_109⟩ : ∃ zz9 : Int, zz9 = y_107 * z3 := ⟨_, rfl⟩
        have by_109 : bd 86 y_109 := by rw [ey_109]; exact bd_mul by_107 b3
        refine j_callV X dX11_cut_179 (n_mul l G q t n co cr po tx ty [z0, z1, z2, z3, y_104, y_104, z6, y_71, h_73, z9, z10, z11, w_76, y_107, v_74, y_69] sf_108 rfl hS_sf_108 9 9 rfl (by decide) 13 13 rfl (by decide) 3 3 rfl (by decide) (by decide) (by decide) y_109 ey_109) gX11_cut_X11_multiply rfl hy_X11_multiply_V ⟨Nat.le_of_ble_eq_true rfl, Nat.le_of_ble_eq_true rfl⟩ 0 rfl rfl [0, 1, 2] rfl (by decide) rfl rfl (Nat.le_of_ble_eq_true rfl) ⟨Nat.le_of_ble_eq_true rfl, Nat.le_of_ble_eq_true rfl⟩ ?_
        rintro _ sf_110 ⟨rfl, hS_sf_110⟩
        change J p l e rm_X11_cut s m args below meth c Q G A 9 0 0 182 [(8, .int 1), (7, .int x_77), (0, .ref (q 0)), (1, .int 0), (2, .long w), (4, .int (-1)), (5, .int 1), (6, .int 0)] [] [(q 0, .inr (10, mF t n q co cr po tx ty)), (q 10, aI G 320 (rg [z0, z1, z2, z3, y_104, y_104, z6, y_71, h_73, y_109, z10, z11, w_76, y_107, v_74, y_69])), (q 11, aZ G 16 sf_110)]
        have hM8 : y_109 = z3 := by rw [ey_109, ey_107, i64_p]; exact Int.one_mul _
        have hM9 : (y_109.natAbs : Int) = z3 := by omega
        refine j_aload_n X dX11_cut_182 rfl 2 rfl ?_
        refine j_bipush (v := 6) X dX11_cut_183 (by decide) ?_
        refine j_iconst (v := 4) X dX11_cut_185 rfl ?_
        refine j_bipush (v := 9) X dX11_cut_186 (by decide) ?_
        obtain ⟨y_111, ey_111⟩ : ∃ zz9 : Int, zz9 = y_104 / (y_109.natAbs : Int) := ⟨_, rfl⟩
        obtain ⟨y_112, ey_112⟩ : ∃ zz9 : Int, zz9 = (y_104.natAbs : Int) % (y_109.natAbs : Int) := ⟨_, rfl⟩
        refine j_callV X dX11_cut_188 (n_divide_6_4_9 l G q t n co cr po tx ty z0 z1 z2 z3 y_104 y_104 z6 y_71 h_73 y_109 z10 z11 w_76 y_107 v_74 y_69 sf_110 hS_sf_110 (by omega) by_109 by_104 (by decide) (by decide) y_111 y_112 ey_111 ey_112) gX11_cut_X11_divide rfl hy_X11_divide_V ⟨Nat.le_of_ble_eq_true rfl, Nat.le_of_ble_eq_true rfl⟩ 0 rfl rfl [0, 1, 2] rfl (by decide) rfl rfl (Nat.le_of_ble_eq_true rfl) ⟨Nat.le_of_ble_eq_true rfl, Nat.le_of_ble_eq_true rfl⟩ ?_
        rintro _ ⟨v_113, v_114, sf_115⟩ ⟨rfl, hS_sf_115⟩
        change J p l e rm_X11_cut s m args below meth c Q G A 9 0 0 191 [(8, .int 1), (7, .int x_77), (0, .ref (q 0)), (1, .int 0), (2, .long w), (4, .int (-1)), (5, .int 1), (6, .int 0)] [] [(q 0, .inr (10, mF t n q co cr po tx ty)), (q 10, aI G 320 (rg [z0, z1, z2, z3, y_104, y_104, y_111, y_71, h_73, y_109, z10, z11, y_112, y_107, v_113, v_114])), (q 11, aZ G 16 sf_115)]
        exact E.1 191 _ (y_104, y_104, y_111, y_71, h_73, y_109, y_112, y_107, v_113, v_114, sf_115) dX11_cut_191 (⟨rfl, ⟨h_73, ⟨hh_730, hh_731, hh_732⟩, by dsimp only; rw [fl_p (show sg ((-1 : Int32).toInt * w.toInt) = 1 from by rw [iTm1, Int.neg_one_mul]; rw [sg_pos (by omega)]), ey_111, hM9] <;> (congr 1 <;> omega)⟩, hS_sf_115⟩) hr
    · skip
      first | simp only [bI_0, Decidable.not_not, sg_mul, sg_e0, sg_l0, sg_g0, sg_le0, sg_ge0, cmp_eq, cmp_lt, cmp_ge, cmp_gt, cmp_le, lT0, lT1] at c_79 | simp only [Int32.le_iff_toInt_le, Int32.lt_iff_toInt_lt, ← Int32.toInt_inj, iT0, iT1, iT2, iT3, iT4, iT5, iT6, iT7, iT8, iT9, iT10, iT11, iT12, iT13, iT14, iT15, iT16, iT19, iT20, iT31, iT32, iT42, iT64, iT200, iT318, iT319, iT1000, iTm1, iTm2] at c_79 | skip
      refine j_iconst (v := 0) X dX11_cut_82 rfl ?_
      refine j_goto (tgt := 101) X dX11_cut_83 (by decide) ?_
      refine j_istore (L' := [(8, .int 0), (7, .int x_77), (0, .ref (q 0)), (1, .int 0), (2, .long w), (4, .int (-1)), (5, .int 1), (6, .int 0)]) X dX11_cut_101 (by decide) rfl ?_
      refine j_iload X dX11_cut_103 0 rfl ?_
      refine j_if_eq (tgt := 132) X dX11_cut_105 (by decide) (fun _ => ?_) (fun c9 => absurd c9 (by decide))
      refine j_iload X dX11_cut_132 0 rfl ?_
      refine j_if_ge (tgt := 164) X dX11_cut_134 (by decide) (fun _ => ?_) (fun c9 => absurd c9 (by decide))
      refine j_aload_n X dX11_cut_164 rfl 2 rfl ?_
      refine j_bipush (v := 13) X dX11_cut_165 (by decide) ?_
      refine j_iload X dX11_cut_167 6 rfl ?_
      refine j_i2l X dX11_cut_169 rfl ?_
      obtain ⟨y_116, ey_116⟩ : ∃ zz9 : Int, zz9 = ((1 : Int32).toInt64).toInt := ⟨_, rfl⟩
      have by_116 : bd 2 y_116 := by rw [ey_116]; exact (bd_mono bd_p1 (by decide))
      refine j_callV X dX11_cut_170 (n_load l G q t n co cr po tx ty [z0, z1, z2, z3, y_65, z5, z6, y_71, h_73, z9, z10, z11, w_76, y_67, v_74, y_69] sf_75 rfl hS_sf_75 13 13 rfl (by decide) ((1 : Int32).toInt64) y_116 ey_116) gX11_cut_X11_load rfl hy_X11_load_V ⟨Nat.le_of_ble_eq_true rfl, Nat.le_of_ble_eq_true rfl⟩ 0 rfl rfl [0, 1, 2] rfl (by decide) rfl rfl (Nat.le_of_ble_eq_true rfl) ⟨Nat.le_of_ble_eq_true rfl, Nat.le_of_ble_eq_true rfl⟩ ?_
      rintro _ sf_117 ⟨rfl, hS_sf_117⟩
      change J p l e rm_X11_cut s m args below meth c Q G A 9 0 0 173 [(8, .int 0), (7, .int x_77), (0, .ref (q 0)), (1, .int 0), (2, .long w), (4, .int (-1)), (5, .int 1), (6, .int 0)] [] [(q 0, .inr (10, mF t n q co cr po tx ty)), (q 10, aI G 320 (rg [z0, z1, z2, z3, y_65, z5, z6, y_71, h_73, z9, z10, z11, w_76, y_116, v_74, y_69])), (q 11, aZ G 16 sf_117)]
      refine j_aload_n X dX11_cut_173 rfl 2 rfl ?_
      refine j_bipush (v := 9) X dX11_cut_174 (by decide) ?_
      refine j_bipush (v := 13) X dX11_cut_176 (by decide) ?_
      refine j_iconst (v := 3) X dX11_cut_178 rfl ?_
      obtain ⟨y_118, ey_118⟩ : ∃ zz9 : Int, zz9 = y_116 * z3 := ⟨_, rfl⟩
      have by_118 : bd 86 y_118 := by rw [ey_118]; exact bd_mul by_116 b3
      refine j_callV X dX11_cut_179 (n_mul l G q t n co cr po tx ty [z0, z1, z2, z3, y_65, z5, z6, y_71, h_73, z9, z10, z11, w_76, y_116, v_74, y_69] sf_117 rfl hS_sf_117 9 9 rfl (by decide) 13 13 rfl (by decide) 3 3 rfl (by decide) (by decide) (by decide) y_118 ey_118) gX11_cut_X11_multiply rfl hy_X11_multiply_V ⟨Nat.le_of_ble_eq_true rfl, Nat.le_of_ble_eq_true rfl⟩ 0 rfl rfl [0, 1, 2] rfl (by decide) rfl rfl (Nat.le_of_ble_eq_true rfl) ⟨Nat.le_of_ble_eq_true rfl, Nat.le_of_ble_eq_true rfl⟩ ?_
      rintro _ sf_119 ⟨rfl, hS_sf_119⟩
      change J p l e rm_X11_cut s m args below meth c Q G A 9 0 0 182 [(8, .int 0), (7, .int x_77), (0, .ref (q 0)), (1, .int 0), (2, .long w), (4, .int (-1)), (5, .int 1), (6, .int 0)] [] [(q 0, .inr (10, mF t n q co cr po tx ty)), (q 10, aI G 320 (rg [z0, z1, z2, z3, y_65, z5, z6, y_71, h_73, y_118, z10, z11, w_76, y_116, v_74, y_69])), (q 11, aZ G 16 sf_119)]
      have hM8 : y_118 = z3 := by rw [ey_118, ey_116, i64_p]; exact Int.one_mul _
      have hM9 : (y_118.natAbs : Int) = z3 := by omega
      refine j_aload_n X dX11_cut_182 rfl 2 rfl ?_
      refine j_bipush (v := 6) X dX11_cut_183 (by decide) ?_
      refine j_iconst (v := 4) X dX11_cut_185 rfl ?_
      refine j_bipush (v := 9) X dX11_cut_186 (by decide) ?_
      obtain ⟨y_120, ey_120⟩ : ∃ zz9 : Int, zz9 = y_65 / (y_118.natAbs : Int) := ⟨_, rfl⟩
      obtain ⟨y_121, ey_121⟩ : ∃ zz9 : Int, zz9 = (y_65.natAbs : Int) % (y_118.natAbs : Int) := ⟨_, rfl⟩
      refine j_callV X dX11_cut_188 (n_divide_6_4_9 l G q t n co cr po tx ty z0 z1 z2 z3 y_65 z5 z6 y_71 h_73 y_118 z10 z11 w_76 y_116 v_74 y_69 sf_119 hS_sf_119 (by omega) by_118 by_65 (by decide) (by decide) y_120 y_121 ey_120 ey_121) gX11_cut_X11_divide rfl hy_X11_divide_V ⟨Nat.le_of_ble_eq_true rfl, Nat.le_of_ble_eq_true rfl⟩ 0 rfl rfl [0, 1, 2] rfl (by decide) rfl rfl (Nat.le_of_ble_eq_true rfl) ⟨Nat.le_of_ble_eq_true rfl, Nat.le_of_ble_eq_true rfl⟩ ?_
      rintro _ ⟨v_122, v_123, sf_124⟩ ⟨rfl, hS_sf_124⟩
      change J p l e rm_X11_cut s m args below meth c Q G A 9 0 0 191 [(8, .int 0), (7, .int x_77), (0, .ref (q 0)), (1, .int 0), (2, .long w), (4, .int (-1)), (5, .int 1), (6, .int 0)] [] [(q 0, .inr (10, mF t n q co cr po tx ty)), (q 10, aI G 320 (rg [z0, z1, z2, z3, y_65, z5, y_120, y_71, h_73, y_118, z10, z11, y_121, y_116, v_122, v_123])), (q 11, aZ G 16 sf_124)]
      exact E.1 191 _ (y_65, z5, y_120, y_71, h_73, y_118, y_121, y_116, v_122, v_123, sf_124) dX11_cut_191 (⟨rfl, ⟨h_73, ⟨hh_730, hh_731, hh_732⟩, by dsimp only; rw [fl_z (show sg ((-1 : Int32).toInt * w.toInt) = 0 from by rw [iTm1, Int.neg_one_mul]; rw [sg_zero (by omega)]), ey_120, hM9] <;> (congr 1 <;> omega)⟩, hS_sf_124⟩) hr
  · skip
    refine j_aload_n X dX11_cut_0 rfl 0 rfl ?_
    refine j_bipush (v := 13) X dX11_cut_1 (by decide) ?_
    refine j_iload X dX11_cut_3 4 rfl ?_
    refine j_i2l X dX11_cut_5 rfl ?_
    obtain ⟨y_125, ey_125⟩ : ∃ zz9 : Int, zz9 = ((1 : Int32).toInt64).toInt := ⟨_, rfl⟩
    have by_125 : bd 2 y_125 := by rw [ey_125]; exact (bd_mono bd_p1 (by decide))
    refine j_callV X dX11_cut_6 (n_load l G q t n co cr po tx ty [z0, z1, z2, z3, z4, z5, z6, z7, z8, z9, z10, z11, z12, z13, z14, z15] sf rfl hS 13 13 rfl (by decide) ((1 : Int32).toInt64) y_125 ey_125) gX11_cut_X11_load rfl hy_X11_load_V ⟨Nat.le_of_ble_eq_true rfl, Nat.le_of_ble_eq_true rfl⟩ 0 rfl rfl [0, 1, 2] rfl (by decide) rfl rfl (Nat.le_of_ble_eq_true rfl) ⟨Nat.le_of_ble_eq_true rfl, Nat.le_of_ble_eq_true rfl⟩ ?_
    rintro _ sf_126 ⟨rfl, hS_sf_126⟩
    change J p l e rm_X11_cut s m args below meth c Q G A 9 0 0 9 [(0, .ref (q 0)), (1, .int 0), (2, .long w), (4, .int 0), (5, .int 1), (6, .int 0)] [] [(q 0, .inr (10, mF t n q co cr po tx ty)), (q 10, aI G 320 (rg [z0, z1, z2, z3, z4, z5, z6, z7, z8, z9, z10, z11, z12, y_125, z14, z15])), (q 11, aZ G 16 sf_126)]
    refine j_aload_n X dX11_cut_9 rfl 0 rfl ?_
    refine j_iconst (v := 4) X dX11_cut_10 rfl ?_
    refine j_bipush (v := 13) X dX11_cut_11 (by decide) ?_
    refine j_iload_n X dX11_cut_13 rfl 1 rfl ?_
    obtain ⟨y_127, ey_127⟩ : ∃ zz9 : Int, zz9 = y_125 * z0 := ⟨_, rfl⟩
    have by_127 : bd 129 y_127 := by rw [ey_127]; exact bd_mul by_125 bu
    refine j_callV X dX11_cut_14 (n_mul l G q t n co cr po tx ty [z0, z1, z2, z3, z4, z5, z6, z7, z8, z9, z10, z11, z12, y_125, z14, z15] sf_126 rfl hS_sf_126 4 4 rfl (by decide) 13 13 rfl (by decide) 0 0 rfl (by decide) (by decide) (by decide) y_127 ey_127) gX11_cut_X11_multiply rfl hy_X11_multiply_V ⟨Nat.le_of_ble_eq_true rfl, Nat.le_of_ble_eq_true rfl⟩ 0 rfl rfl [0, 1, 2] rfl (by decide) rfl rfl (Nat.le_of_ble_eq_true rfl) ⟨Nat.le_of_ble_eq_true rfl, Nat.le_of_ble_eq_true rfl⟩ ?_
    rintro _ sf_128 ⟨rfl, hS_sf_128⟩
    change J p l e rm_X11_cut s m args below meth c Q G A 9 0 0 17 [(0, .ref (q 0)), (1, .int 0), (2, .long w), (4, .int 0), (5, .int 1), (6, .int 0)] [] [(q 0, .inr (10, mF t n q co cr po tx ty)), (q 10, aI G 320 (rg [z0, z1, z2, z3, y_127, z5, z6, z7, z8, z9, z10, z11, z12, y_125, z14, z15])), (q 11, aZ G 16 sf_128)]
    have hA1 : y_127 = z0 := by rw [ey_127, ey_125, i64_p]; exact Int.one_mul _
    refine j_iload X dX11_cut_17 5 rfl ?_
    refine j_if_eq (tgt := 36) X dX11_cut_19 (by decide) (fun _ => ?_) (fun c9 => absurd c9 (by decide))
    refine j_aload_n X dX11_cut_36 rfl 0 rfl ?_
    refine j_bipush (v := 13) X dX11_cut_37 (by decide) ?_
    refine j_iload X dX11_cut_39 4 rfl ?_
    refine j_i2l X dX11_cut_41 rfl ?_
    refine j_lload_n X dX11_cut_42 rfl 2 rfl ?_
    refine j_lmul X dX11_cut_43 ?_
    obtain ⟨y_129, ey_129⟩ : ∃ zz9 : Int, zz9 = (((1 : Int32).toInt64) * w).toInt := ⟨_, rfl⟩
    have by_129 : bd 43 y_129 := by rw [ey_129]; exact bq9
    refine j_callV X dX11_cut_44 (n_load l G q t n co cr po tx ty [z0, z1, z2, z3, y_127, z5, z6, z7, z8, z9, z10, z11, z12, y_125, z14, z15] sf_128 rfl hS_sf_128 13 13 rfl (by decide) (((1 : Int32).toInt64) * w) y_129 ey_129) gX11_cut_X11_load rfl hy_X11_load_V ⟨Nat.le_of_ble_eq_true rfl, Nat.le_of_ble_eq_true rfl⟩ 0 rfl rfl [0, 1, 2] rfl (by decide) rfl rfl (Nat.le_of_ble_eq_true rfl) ⟨Nat.le_of_ble_eq_true rfl, Nat.le_of_ble_eq_true rfl⟩ ?_
    rintro _ sf_130 ⟨rfl, hS_sf_130⟩
    change J p l e rm_X11_cut s m args below meth c Q G A 9 0 0 47 [(0, .ref (q 0)), (1, .int 0), (2, .long w), (4, .int 0), (5, .int 1), (6, .int 0)] [] [(q 0, .inr (10, mF t n q co cr po tx ty)), (q 10, aI G 320 (rg [z0, z1, z2, z3, y_127, z5, z6, z7, z8, z9, z10, z11, z12, y_129, z14, z15])), (q 11, aZ G 16 sf_130)]
    refine j_aload_n X dX11_cut_47 rfl 0 rfl ?_
    refine j_bipush (v := 15) X dX11_cut_48 (by decide) ?_
    refine j_bipush (v := 13) X dX11_cut_50 (by decide) ?_
    refine j_bipush (v := 13) X dX11_cut_52 (by decide) ?_
    obtain ⟨y_131, ey_131⟩ : ∃ zz9 : Int, zz9 = y_129 * y_129 := ⟨_, rfl⟩
    have by_131 : bd 86 y_131 := by rw [ey_131]; exact bd_mul by_129 by_129
    refine j_callV X dX11_cut_54 (n_mul l G q t n co cr po tx ty [z0, z1, z2, z3, y_127, z5, z6, z7, z8, z9, z10, z11, z12, y_129, z14, z15] sf_130 rfl hS_sf_130 15 15 rfl (by decide) 13 13 rfl (by decide) 13 13 rfl (by decide) (by decide) (by decide) y_131 ey_131) gX11_cut_X11_multiply rfl hy_X11_multiply_V ⟨Nat.le_of_ble_eq_true rfl, Nat.le_of_ble_eq_true rfl⟩ 0 rfl rfl [0, 1, 2] rfl (by decide) rfl rfl (Nat.le_of_ble_eq_true rfl) ⟨Nat.le_of_ble_eq_true rfl, Nat.le_of_ble_eq_true rfl⟩ ?_
    rintro _ sf_132 ⟨rfl, hS_sf_132⟩
    change J p l e rm_X11_cut s m args below meth c Q G A 9 0 0 57 [(0, .ref (q 0)), (1, .int 0), (2, .long w), (4, .int 0), (5, .int 1), (6, .int 0)] [] [(q 0, .inr (10, mF t n q co cr po tx ty)), (q 10, aI G 320 (rg [z0, z1, z2, z3, y_127, z5, z6, z7, z8, z9, z10, z11, z12, y_129, z14, y_131])), (q 11, aZ G 16 sf_132)]
    refine j_aload_n X dX11_cut_57 rfl 0 rfl ?_
    refine j_bipush (v := 7) X dX11_cut_58 (by decide) ?_
    refine j_bipush (v := 15) X dX11_cut_60 (by decide) ?_
    refine j_iconst (v := 2) X dX11_cut_62 rfl ?_
    obtain ⟨y_133, ey_133⟩ : ∃ zz9 : Int, zz9 = y_131 * z2 := ⟨_, rfl⟩
    have by_133 : bd 258 y_133 := by rw [ey_133]; exact bd_mul by_131 b2
    refine j_callV X dX11_cut_63 (n_mul l G q t n co cr po tx ty [z0, z1, z2, z3, y_127, z5, z6, z7, z8, z9, z10, z11, z12, y_129, z14, y_131] sf_132 rfl hS_sf_132 7 7 rfl (by decide) 15 15 rfl (by decide) 2 2 rfl (by decide) (by decide) (by decide) y_133 ey_133) gX11_cut_X11_multiply rfl hy_X11_multiply_V ⟨Nat.le_of_ble_eq_true rfl, Nat.le_of_ble_eq_true rfl⟩ 0 rfl rfl [0, 1, 2] rfl (by decide) rfl rfl (Nat.le_of_ble_eq_true rfl) ⟨Nat.le_of_ble_eq_true rfl, Nat.le_of_ble_eq_true rfl⟩ ?_
    rintro _ sf_134 ⟨rfl, hS_sf_134⟩
    change J p l e rm_X11_cut s m args below meth c Q G A 9 0 0 66 [(0, .ref (q 0)), (1, .int 0), (2, .long w), (4, .int 0), (5, .int 1), (6, .int 0)] [] [(q 0, .inr (10, mF t n q co cr po tx ty)), (q 10, aI G 320 (rg [z0, z1, z2, z3, y_127, z5, z6, y_133, z8, z9, z10, z11, z12, y_129, z14, y_131])), (q 11, aZ G 16 sf_134)]
    refine j_aload_n X dX11_cut_66 rfl 0 rfl ?_
    refine j_bipush (v := 8) X dX11_cut_67 (by decide) ?_
    refine j_bipush (v := 7) X dX11_cut_69 (by decide) ?_
    refine j_callV X dX11_cut_71 (c_X11_rootOf_8_7 l G q t n co cr po tx ty z0 z1 z2 z3 y_127 z5 z6 y_133 z8 z9 z10 z11 z12 y_129 z14 y_131 sf_134 hS_sf_134 (bd_lt319 by_133 (by decide))) gX11_cut_X11_rootOf rfl hy_X11_rootOf_V ⟨Nat.le_of_ble_eq_true rfl, Nat.le_of_ble_eq_true rfl⟩ 0 rfl rfl [0, 1, 2] rfl (by decide) rfl rfl (Nat.le_of_ble_eq_true rfl) ⟨Nat.le_of_ble_eq_true rfl, Nat.le_of_ble_eq_true rfl⟩ ?_
    rintro _ ⟨h_135, v_136, sf_137⟩ ⟨rfl, hh_1350, hh_1351, hh_1352, hS_sf_137⟩
    dsimp only at hh_1350 hh_1351 hh_1352 hS_sf_137
    change J p l e rm_X11_cut s m args below meth c Q G A 9 0 0 74 [(0, .ref (q 0)), (1, .int 0), (2, .long w), (4, .int 0), (5, .int 1), (6, .int 0)] [.int (if h_135 * h_135 = (y_133.natAbs : Int) then 1 else 0)] [(q 0, .inr (10, mF t n q co cr po tx ty)), (q 10, aI G 320 (rg [z0, z1, z2, z3, y_127, z5, z6, y_133, h_135, z9, z10, z11, ((y_133.natAbs : Int) - h_135 * h_135), y_129, v_136, y_131])), (q 11, aZ G 16 sf_137)]
    obtain ⟨w_138, ew_138⟩ : ∃ zz9 : Int, zz9 = (y_133.natAbs : Int) - h_135 * h_135 := ⟨_, rfl⟩
    rw [← ew_138] at hS_sf_137 ⊢
    have hN9 : (y_133.natAbs : Int) = w.toInt * w.toInt * z2 := by rw [ey_133, ey_131, ey_129, hq9]; exact Int.natAbs_of_nonneg (Int.mul_nonneg (sq_nn _) hR)
    rw [hN9] at hh_1351 hh_1352 ⊢
    have bh_135 : bd 260 h_135 := bd_of_le hh_1350 (Int.le_trans (sq_ge hh_1350) hh_1351) (by rw [← hN9]; exact bd_abs (bd_mono by_133 (by decide)))
    refine j_topi (fun x_139 ex_139 => ?_)
    refine j_istore (L' := [(7, .int x_139), (0, .ref (q 0)), (1, .int 0), (2, .long w), (4, .int 0), (5, .int 1), (6, .int 0)]) X dX11_cut_74 (by decide) rfl ?_
    refine j_lload_n X dX11_cut_76 rfl 3 rfl ?_
    refine j_lconst (v := 0) X dX11_cut_77 rfl ?_
    refine j_lcmp X dX11_cut_78 ?_
    refine j_if_ne (tgt := 86) X dX11_cut_79 (by decide) (fun c_79 => ?_) (fun c_79 => ?_)
    · skip
      first | simp only [bI_0, Decidable.not_not, sg_mul, sg_e0, sg_l0, sg_g0, sg_le0, sg_ge0, cmp_eq, cmp_lt, cmp_ge, cmp_gt, cmp_le, lT0, lT1] at c_79 | simp only [Int32.le_iff_toInt_le, Int32.lt_iff_toInt_lt, ← Int32.toInt_inj, iT0, iT1, iT2, iT3, iT4, iT5, iT6, iT7, iT8, iT9, iT10, iT11, iT12, iT13, iT14, iT15, iT16, iT19, iT20, iT31, iT32, iT42, iT64, iT200, iT318, iT319, iT1000, iTm1, iTm2] at c_79 | skip
      exact absurd hw0 c_79
    · skip
      first | simp only [bI_0, Decidable.not_not, sg_mul, sg_e0, sg_l0, sg_g0, sg_le0, sg_ge0, cmp_eq, cmp_lt, cmp_ge, cmp_gt, cmp_le, lT0, lT1] at c_79 | simp only [Int32.le_iff_toInt_le, Int32.lt_iff_toInt_lt, ← Int32.toInt_inj, iT0, iT1, iT2, iT3, iT4, iT5, iT6, iT7, iT8, iT9, iT10, iT11, iT12, iT13, iT14, iT15, iT16, iT19, iT20, iT31, iT32, iT42, iT64, iT200, iT318, iT319, iT1000, iTm1, iTm2] at c_79 | skip
      refine j_iconst (v := 0) X dX11_cut_82 rfl ?_
      refine j_goto (tgt := 101) X dX11_cut_83 (by decide) ?_
      refine j_istore (L' := [(8, .int 0), (7, .int x_139), (0, .ref (q 0)), (1, .int 0), (2, .long w), (4, .int 0), (5, .int 1), (6, .int 0)]) X dX11_cut_101 (by decide) rfl ?_
      refine j_iload X dX11_cut_103 0 rfl ?_
      refine j_if_eq (tgt := 132) X dX11_cut_105 (by decide) (fun _ => ?_) (fun c9 => absurd c9 (by decide))
      refine j_iload X dX11_cut_132 0 rfl ?_
      refine j_if_ge (tgt := 164) X dX11_cut_134 (by decide) (fun _ => ?_) (fun c9 => absurd c9 (by decide))
      refine j_aload_n X dX11_cut_164 rfl 2 rfl ?_
      refine j_bipush (v := 13) X dX11_cut_165 (by decide) ?_
      refine j_iload X dX11_cut_167 6 rfl ?_
      refine j_i2l X dX11_cut_169 rfl ?_
      obtain ⟨y_140, ey_140⟩ : ∃ zz9 : Int, zz9 = ((1 : Int32).toInt64).toInt := ⟨_, rfl⟩
      have by_140 : bd 2 y_140 := by rw [ey_140]; exact (bd_mono bd_p1 (by decide))
      refine j_callV X dX11_cut_170 (n_load l G q t n co cr po tx ty [z0, z1, z2, z3, y_127, z5, z6, y_133, h_135, z9, z10, z11, w_138, y_129, v_136, y_131] sf_137 rfl hS_sf_137 13 13 rfl (by decide) ((1 : Int32).toInt64) y_140 ey_140) gX11_cut_X11_load rfl hy_X11_load_V ⟨Nat.le_of_ble_eq_true rfl, Nat.le_of_ble_eq_true rfl⟩ 0 rfl rfl [0, 1, 2] rfl (by decide) rfl rfl (Nat.le_of_ble_eq_true rfl) ⟨Nat.le_of_ble_eq_true rfl, Nat.le_of_ble_eq_true rfl⟩ ?_
      rintro _ sf_141 ⟨rfl, hS_sf_141⟩
      change J p l e rm_X11_cut s m args below meth c Q G A 9 0 0 173 [(8, .int 0), (7, .int x_139), (0, .ref (q 0)), (1, .int 0), (2, .long w), (4, .int 0), (5, .int 1), (6, .int 0)] [] [(q 0, .inr (10, mF t n q co cr po tx ty)), (q 10, aI G 320 (rg [z0, z1, z2, z3, y_127, z5, z6, y_133, h_135, z9, z10, z11, w_138, y_140, v_136, y_131])), (q 11, aZ G 16 sf_141)]
      refine j_aload_n X dX11_cut_173 rfl 2 rfl ?_
      refine j_bipush (v := 9) X dX11_cut_174 (by decide) ?_
      refine j_bipush (v := 13) X dX11_cut_176 (by decide) ?_
      refine j_iconst (v := 3) X dX11_cut_178 rfl ?_
      obtain ⟨y_142, ey_142⟩ : ∃ zz9 : Int, zz9 = y_140 * z3 := ⟨_, rfl⟩
      have by_142 : bd 86 y_142 := by rw [ey_142]; exact bd_mul by_140 b3
      refine j_callV X dX11_cut_179 (n_mul l G q t n co cr po tx ty [z0, z1, z2, z3, y_127, z5, z6, y_133, h_135, z9, z10, z11, w_138, y_140, v_136, y_131] sf_141 rfl hS_sf_141 9 9 rfl (by decide) 13 13 rfl (by decide) 3 3 rfl (by decide) (by decide) (by decide) y_142 ey_142) gX11_cut_X11_multiply rfl hy_X11_multiply_V ⟨Nat.le_of_ble_eq_true rfl, Nat.le_of_ble_eq_true rfl⟩ 0 rfl rfl [0, 1, 2] rfl (by decide) rfl rfl (Nat.le_of_ble_eq_true rfl) ⟨Nat.le_of_ble_eq_true rfl, Nat.le_of_ble_eq_true rfl⟩ ?_
      rintro _ sf_143 ⟨rfl, hS_sf_143⟩
      change J p l e rm_X11_cut s m args below meth c Q G A 9 0 0 182 [(8, .int 0), (7, .int x_139), (0, .ref (q 0)), (1, .int 0), (2, .long w), (4, .int 0), (5, .int 1), (6, .int 0)] [] [(q 0, .inr (10, mF t n q co cr po tx ty)), (q 10, aI G 320 (rg [z0, z1, z2, z3, y_127, z5, z6, y_133, h_135, y_142, z10, z11, w_138, y_140, v_136, y_131])), (q 11, aZ G 16 sf_143)]
      have hM8 : y_142 = z3 := by rw [ey_142, ey_140, i64_p]; exact Int.one_mul _
      have hM9 : (y_142.natAbs : Int) = z3 := by omega
      refine j_aload_n X dX11_cut_182 rfl 2 rfl ?_
      refine j_bipush (v := 6) X dX11_cut_183 (by decide) ?_
      refine j_iconst (v := 4) X dX11_cut_185 rfl ?_
      refine j_bipush (v := 9) X dX11_cut_186 (by decide) ?_
      obtain ⟨y_144, ey_144⟩ : ∃ zz9 : Int, zz9 = y_127 / (y_142.natAbs : Int) := ⟨_, rfl⟩
      obtain ⟨y_145, ey_145⟩ : ∃ zz9 : Int, zz9 = (y_127.natAbs : Int) % (y_142.natAbs : Int) := ⟨_, rfl⟩
      refine j_callV X dX11_cut_188 (n_divide_6_4_9 l G q t n co cr po tx ty z0 z1 z2 z3 y_127 z5 z6 y_133 h_135 y_142 z10 z11 w_138 y_140 v_136 y_131 sf_143 hS_sf_143 (by omega) by_142 by_127 (by decide) (by decide) y_144 y_145 ey_144 ey_145) gX11_cut_X11_divide rfl hy_X11_divide_V ⟨Nat.le_of_ble_eq_true rfl, Nat.le_of_ble_eq_true rfl⟩ 0 rfl rfl [0, 1, 2] rfl (by decide) rfl rfl (Nat.le_of_ble_eq_true rfl) ⟨Nat.le_of_ble_eq_true rfl, Nat.le_of_ble_eq_true rfl⟩ ?_
      rintro _ ⟨v_146, v_147, sf_148⟩ ⟨rfl, hS_sf_148⟩
      change J p l e rm_X11_cut s m args below meth c Q G A 9 0 0 191 [(8, .int 0), (7, .int x_139), (0, .ref (q 0)), (1, .int 0), (2, .long w), (4, .int 0), (5, .int 1), (6, .int 0)] [] [(q 0, .inr (10, mF t n q co cr po tx ty)), (q 10, aI G 320 (rg [z0, z1, z2, z3, y_127, z5, y_144, y_133, h_135, y_142, z10, z11, y_145, y_140, v_146, v_147])), (q 11, aZ G 16 sf_148)]
      exact E.1 191 _ (y_127, z5, y_144, y_133, h_135, y_142, y_145, y_140, v_146, v_147, sf_148) dX11_cut_191 (⟨rfl, ⟨h_135, ⟨hh_1350, hh_1351, hh_1352⟩, by dsimp only; rw [fl_z (show sg ((0 : Int32).toInt * w.toInt) = 0 from by rw [iT0, Int.zero_mul]; rw [sg_zero (by omega)]), ey_144, hM9] <;> (congr 1 <;> omega)⟩, hS_sf_148⟩) hr

theorem hy_X11_cut_V : yX11_cut.cls = RX11 ∧ yX11_cut.cls ≠ "java/lang/invoke/MethodHandle" ∧ yX11_cut.cls ≠ "java/lang/invoke/VarHandle" ∧ (parseMethodDescriptor yX11_cut.desc).map (fun d => d.parameters.length) = some 5 := by decide +kernel
set_option maxHeartbeats 4000000 in
set_option maxRecDepth 100000 in
theorem c_X11_cut_1_1 (l : Launch) (G : jG) (q : Nat → Nat) (t n co cr po : Int32) (tx ty : Int64) (z0 z1 z2 z3 z4 z5 z6 z7 z8 z9 z10 z11 z12 z13 z14 z15 : Int) (sf : Nat → Int32) (hS : okS [z0, z1, z2, z3, z4, z5, z6, z7, z8, z9, z10, z11, z12, z13, z14, z15] sf) (w : Int64) (sx : Int32) (bu : bd 127 z1) (b2 : bd 172 z2) (hR : 0 ≤ z2) (b3 : bd 84 z3) (h3 : 0 < z3) (bw1 : bd 41 w.toInt) (hs : sx = 1 ∨ sx = -1 ∨ (sx = 0 ∧ w.toInt = 0)) : Ct l yX11_cut wsX11_cut rm_X11_cut G [.ref (q 0), .int 1, .long w, .int sx, .int 1, .int 0] [(q 0, .inr (10, mF t n q co cr po tx ty)), (q 10, aI G 320 (rg [z0, z1, z2, z3, z4, z5, z6, z7, z8, z9, z10, z11, z12, z13, z14, z15])), (q 11, aZ G 16 sf)] (S := Int × Int × Int × Int × Int × Int × Int × Int × Int × Int × (Nat → Int32)) (fun r u => r = none ∧ (∃ E, rtR (w.toInt * w.toInt * z2) E ∧ u.2.2.1 = flA (z1) (sg (sx.toInt * w.toInt)) (w.toInt * w.toInt * z2) E (z3)) ∧ okS [z0, z1, z2, z3, u.1, u.2.1, u.2.2.1, u.2.2.2.1, u.2.2.2.2.1, u.2.2.2.2.2.1, z10, z11, u.2.2.2.2.2.2.1, u.2.2.2.2.2.2.2.1, u.2.2.2.2.2.2.2.2.1, u.2.2.2.2.2.2.2.2.2.1] u.2.2.2.2.2.2.2.2.2.2) (fun u => [(q 0, .inr (10, mF t n q co cr po tx ty)), (q 10, aI G 320 (rg [z0, z1, z2, z3, u.1, u.2.1, u.2.2.1, u.2.2.2.1, u.2.2.2.2.1, u.2.2.2.2.2.1, z10, z11, u.2.2.2.2.2.2.1, u.2.2.2.2.2.2.2.1, u.2.2.2.2.2.2.2.2.1, u.2.2.2.2.2.2.2.2.2.1])), (q 11, aZ G 16 u.2.2.2.2.2.2.2.2.2.2)]) (fun _ => []) := by
  refine c_intro (cc := cX11_cut) (maxL := 9) (ret := none) (by decide) rfl (Nat.le_of_ble_eq_true rfl) (fun _ => by simp only [List.map_cons, List.map_nil]) ?_
  intro p e s m args below meth c Q A X hr hin E
  change J p l e rm_X11_cut s m args below meth c Q G A 9 0 0 0 [(0, .ref (q 0)), (1, .int 1), (2, .long w), (4, .int sx), (5, .int 1), (6, .int 0)] [] [(q 0, .inr (10, mF t n q co cr po tx ty)), (q 10, aI G 320 (rg [z0, z1, z2, z3, z4, z5, z6, z7, z8, z9, z10, z11, z12, z13, z14, z15])), (q 11, aZ G 16 sf)]
  have hq9 : (((1 : Int32).toInt64) * w).toInt = w.toInt := sm_p w
  have bq9 : bd 43 (((1 : Int32).toInt64) * w).toInt := by rw [hq9]; exact bd_mono bw1 (by decide)
  rcases hs with rfl | rfl | ⟨rfl, hw0⟩
  · skip
    refine j_aload_n X dX11_cut_0 rfl 0 rfl ?_
    refine j_bipush (v := 13) X dX11_cut_1 (by decide) ?_
    refine j_iload X dX11_cut_3 4 rfl ?_
    refine j_i2l X dX11_cut_5 rfl ?_
    obtain ⟨y_1, ey_1⟩ : ∃ zz9 : Int, zz9 = ((1 : Int32).toInt64).toInt := ⟨_, rfl⟩
    have by_1 : bd 2 y_1 := by rw [ey_1]; exact (bd_mono bd_p1 (by decide))
    refine j_callV X dX11_cut_6 (n_load l G q t n co cr po tx ty [z0, z1, z2, z3, z4, z5, z6, z7, z8, z9, z10, z11, z12, z13, z14, z15] sf rfl hS 13 13 rfl (by decide) ((1 : Int32).toInt64) y_1 ey_1) gX11_cut_X11_load rfl hy_X11_load_V ⟨Nat.le_of_ble_eq_true rfl, Nat.le_of_ble_eq_true rfl⟩ 0 rfl rfl [0, 1, 2] rfl (by decide) rfl rfl (Nat.le_of_ble_eq_true rfl) ⟨Nat.le_of_ble_eq_true rfl, Nat.le_of_ble_eq_true rfl⟩ ?_
    rintro _ sf_2 ⟨rfl, hS_sf_2⟩
    change J p l e rm_X11_cut s m args below meth c Q G A 9 0 0 9 [(0, .ref (q 0)), (1, .int 1), (2, .long w), (4, .int 1), (5, .int 1), (6, .int 0)] [] [(q 0, .inr (10, mF t n q co cr po tx ty)), (q 10, aI G 320 (rg [z0, z1, z2, z3, z4, z5, z6, z7, z8, z9, z10, z11, z12, y_1, z14, z15])), (q 11, aZ G 16 sf_2)]
    refine j_aload_n X dX11_cut_9 rfl 0 rfl ?_
    refine j_iconst (v := 4) X dX11_cut_10 rfl ?_
    refine j_bipush (v := 13) X dX11_cut_11 (by decide) ?_
    refine j_iload_n X dX11_cut_13 rfl 1 rfl ?_
    obtain ⟨y_3, ey_3⟩ : ∃ zz9 : Int, zz9 = y_1 * z1 := ⟨_, rfl⟩
    have by_3 : bd 129 y_3 := by rw [ey_3]; exact bd_mul by_1 bu
    refine j_callV X dX11_cut_14 (n_mul l G q t n co cr po tx ty [z0, z1, z2, z3, z4, z5, z6, z7, z8, z9, z10, z11, z12, y_1, z14, z15] sf_2 rfl hS_sf_2 4 4 rfl (by decide) 13 13 rfl (by decide) 1 1 rfl (by decide) (by decide) (by decide) y_3 ey_3) gX11_cut_X11_multiply rfl hy_X11_multiply_V ⟨Nat.le_of_ble_eq_true rfl, Nat.le_of_ble_eq_true rfl⟩ 0 rfl rfl [0, 1, 2] rfl (by decide) rfl rfl (Nat.le_of_ble_eq_true rfl) ⟨Nat.le_of_ble_eq_true rfl, Nat.le_of_ble_eq_true rfl⟩ ?_
    rintro _ sf_4 ⟨rfl, hS_sf_4⟩
    change J p l e rm_X11_cut s m args below meth c Q G A 9 0 0 17 [(0, .ref (q 0)), (1, .int 1), (2, .long w), (4, .int 1), (5, .int 1), (6, .int 0)] [] [(q 0, .inr (10, mF t n q co cr po tx ty)), (q 10, aI G 320 (rg [z0, z1, z2, z3, y_3, z5, z6, z7, z8, z9, z10, z11, z12, y_1, z14, z15])), (q 11, aZ G 16 sf_4)]
    have hA1 : y_3 = z1 := by rw [ey_3, ey_1, i64_p]; exact Int.one_mul _
    refine j_iload X dX11_cut_17 5 rfl ?_
    refine j_if_eq (tgt := 36) X dX11_cut_19 (by decide) (fun _ => ?_) (fun c9 => absurd c9 (by decide))
    refine j_aload_n X dX11_cut_36 rfl 0 rfl ?_
    refine j_bipush (v := 13) X dX11_cut_37 (by decide) ?_
    refine j_iload X dX11_cut_39 4 rfl ?_
    refine j_i2l X dX11_cut_41 rfl ?_
    refine j_lload_n X dX11_cut_42 rfl 2 rfl ?_
    refine j_lmul X dX11_cut_43 ?_
    obtain ⟨y_5, ey_5⟩ : ∃ zz9 : Int, zz9 = (((1 : Int32).toInt64) * w).toInt := ⟨_, rfl⟩
    have by_5 : bd 43 y_5 := by rw [ey_5]; exact bq9
    refine j_callV X dX11_cut_44 (n_load l G q t n co cr po tx ty [z0, z1, z2, z3, y_3, z5, z6, z7, z8, z9, z10, z11, z12, y_1, z14, z15] sf_4 rfl hS_sf_4 13 13 rfl (by decide) (((1 : Int32).toInt64) * w) y_5 ey_5) gX11_cut_X11_load rfl hy_X11_load_V ⟨Nat.le_of_ble_eq_true rfl, Nat.le_of_ble_eq_true rfl⟩ 0 rfl rfl [0, 1, 2] rfl (by decide) rfl rfl (Nat.le_of_ble_eq_true rfl) ⟨Nat.le_of_ble_eq_true rfl, Nat.le_of_ble_eq_true rfl⟩ ?_
    rintro _ sf_6 ⟨rfl, hS_sf_6⟩
    change J p l e rm_X11_cut s m args below meth c Q G A 9 0 0 47 [(0, .ref (q 0)), (1, .int 1), (2, .long w), (4, .int 1), (5, .int 1), (6, .int 0)] [] [(q 0, .inr (10, mF t n q co cr po tx ty)), (q 10, aI G 320 (rg [z0, z1, z2, z3, y_3, z5, z6, z7, z8, z9, z10, z11, z12, y_5, z14, z15])), (q 11, aZ G 16 sf_6)]
    refine j_aload_n X dX11_cut_47 rfl 0 rfl ?_
    refine j_bipush (v := 15) X dX11_cut_48 (by decide) ?_
    refine j_bipush (v := 13) X dX11_cut_50 (by decide) ?_
    refine j_bipush (v := 13) X dX11_cut_52 (by decide) ?_
    obtain ⟨y_7, ey_7⟩ : ∃ zz9 : Int, zz9 = y_5 * y_5 := ⟨_, rfl⟩
    have by_7 : bd 86 y_7 := by rw [ey_7]; exact bd_mul by_5 by_5
    refine j_callV X dX11_cut_54 (n_mul l G q t n co cr po tx ty [z0, z1, z2, z3, y_3, z5, z6, z7, z8, z9, z10, z11, z12, y_5, z14, z15] sf_6 rfl hS_sf_6 15 15 rfl (by decide) 13 13 rfl (by decide) 13 13 rfl (by decide) (by decide) (by decide) y_7 ey_7) gX11_cut_X11_multiply rfl hy_X11_multiply_V ⟨Nat.le_of_ble_eq_true rfl, Nat.le_of_ble_eq_true rfl⟩ 0 rfl rfl [0, 1, 2] rfl (by decide) rfl rfl (Nat.le_of_ble_eq_true rfl) ⟨Nat.le_of_ble_eq_true rfl, Nat.le_of_ble_eq_true rfl⟩ ?_
    rintro _ sf_8 ⟨rfl, hS_sf_8⟩
    change J p l e rm_X11_cut s m args below meth c Q G A 9 0 0 57 [(0, .ref (q 0)), (1, .int 1), (2, .long w), (4, .int 1), (5, .int 1), (6, .int 0)] [] [(q 0, .inr (10, mF t n q co cr po tx ty)), (q 10, aI G 320 (rg [z0, z1, z2, z3, y_3, z5, z6, z7, z8, z9, z10, z11, z12, y_5, z14, y_7])), (q 11, aZ G 16 sf_8)]
    refine j_aload_n X dX11_cut_57 rfl 0 rfl ?_
    refine j_bipush (v := 7) X dX11_cut_58 (by decide) ?_
    refine j_bipush (v := 15) X dX11_cut_60 (by decide) ?_
    refine j_iconst (v := 2) X dX11_cut_62 rfl ?_
    obtain ⟨y_9, ey_9⟩ : ∃ zz9 : Int, zz9 = y_7 * z2 := ⟨_, rfl⟩
    have by_9 : bd 258 y_9 := by rw [ey_9]; exact bd_mul by_7 b2
    refine j_callV X dX11_cut_63 (n_mul l G q t n co cr po tx ty [z0, z1, z2, z3, y_3, z5, z6, z7, z8, z9, z10, z11, z12, y_5, z14, y_7] sf_8 rfl hS_sf_8 7 7 rfl (by decide) 15 15 rfl (by decide) 2 2 rfl (by decide) (by decide) (by decide) y_9 ey_9) gX11_cut_X11_multiply rfl hy_X11_multiply_V ⟨Nat.le_of_ble_eq_true rfl, Nat.le_of_ble_eq_true rfl⟩ 0 rfl rfl [0, 1, 2] rfl (by decide) rfl rfl (Nat.le_of_ble_eq_true rfl) ⟨Nat.le_of_ble_eq_true rfl, Nat.le_of_ble_eq_true rfl⟩ ?_
    rintro _ sf_10 ⟨rfl, hS_sf_10⟩
    change J p l e rm_X11_cut s m args below meth c Q G A 9 0 0 66 [(0, .ref (q 0)), (1, .int 1), (2, .long w), (4, .int 1), (5, .int 1), (6, .int 0)] [] [(q 0, .inr (10, mF t n q co cr po tx ty)), (q 10, aI G 320 (rg [z0, z1, z2, z3, y_3, z5, z6, y_9, z8, z9, z10, z11, z12, y_5, z14, y_7])), (q 11, aZ G 16 sf_10)]
    refine j_aload_n X dX11_cut_66 rfl 0 rfl ?_
    refine j_bipush (v := 8) X dX11_cut_67 (by decide) ?_
    refine j_bipush (v := 7) X dX11_cut_69 (by decide) ?_
    refine j_callV X dX11_cut_71 (c_X11_rootOf_8_7 l G q t n co cr po tx ty z0 z1 z2 z3 y_3 z5 z6 y_9 z8 z9 z10 z11 z12 y_5 z14 y_7 sf_10 hS_sf_10 (bd_lt319 by_9 (by decide))) gX11_cut_X11_rootOf rfl hy_X11_rootOf_V ⟨Nat.le_of_ble_eq_true rfl, Nat.le_of_ble_eq_true rfl⟩ 0 rfl rfl [0, 1, 2] rfl (by decide) rfl rfl (Nat.le_of_ble_eq_true rfl) ⟨Nat.le_of_ble_eq_true rfl, Nat.le_of_ble_eq_true rfl⟩ ?_
    rintro _ ⟨h_11, v_12, sf_13⟩ ⟨rfl, hh_110, hh_111, hh_112, hS_sf_13⟩
    dsimp only at hh_110 hh_111 hh_112 hS_sf_13
    change J p l e rm_X11_cut s m args below meth c Q G A 9 0 0 74 [(0, .ref (q 0)), (1, .int 1), (2, .long w), (4, .int 1), (5, .int 1), (6, .int 0)] [.int (if h_11 * h_11 = (y_9.natAbs : Int) then 1 else 0)] [(q 0, .inr (10, mF t n q co cr po tx ty)), (q 10, aI G 320 (rg [z0, z1, z2, z3, y_3, z5, z6, y_9, h_11, z9, z10, z11, ((y_9.natAbs : Int) - h_11 * h_11), y_5, v_12, y_7])), (q 11, aZ G 16 sf_13)]
    obtain ⟨w_14, ew_14⟩ : ∃ zz9 : Int, zz9 = (y_9.natAbs : Int) - h_11 * h_11 := ⟨_, rfl⟩
    rw [← ew_14] at hS_sf_13 ⊢
    have hN9 : (y_9.natAbs : Int) = w.toInt * w.toInt * z2 := by rw [ey_9, ey_7, ey_5, hq9]; exact Int.natAbs_of_nonneg (Int.mul_nonneg (sq_nn _) hR)
    rw [hN9] at hh_111 hh_112 ⊢
    have bh_11 : bd 260 h_11 := bd_of_le hh_110 (Int.le_trans (sq_ge hh_110) hh_111) (by rw [← hN9]; exact bd_abs (bd_mono by_9 (by decide)))
    refine j_topi (fun x_15 ex_15 => ?_)
    refine j_istore (L' := [(7, .int x_15), (0, .ref (q 0)), (1, .int 1), (2, .long w), (4, .int 1), (5, .int 1), (6, .int 0)]) X dX11_cut_74 (by decide) rfl ?_
    refine j_lload_n X dX11_cut_76 rfl 3 rfl ?_
    refine j_lconst (v := 0) X dX11_cut_77 rfl ?_
    refine j_lcmp X dX11_cut_78 ?_
    refine j_if_ne (tgt := 86) X dX11_cut_79 (by decide) (fun c_79 => ?_) (fun c_79 => ?_)
    · skip
      first | simp only [bI_0, Decidable.not_not, sg_mul, sg_e0, sg_l0, sg_g0, sg_le0, sg_ge0, cmp_eq, cmp_lt, cmp_ge, cmp_gt, cmp_le, lT0, lT1] at c_79 | simp only [Int32.le_iff_toInt_le, Int32.lt_iff_toInt_lt, ← Int32.toInt_inj, iT0, iT1, iT2, iT3, iT4, iT5, iT6, iT7, iT8, iT9, iT10, iT11, iT12, iT13, iT14, iT15, iT16, iT19, iT20, iT31, iT32, iT42, iT64, iT200, iT318, iT319, iT1000, iTm1, iTm2] at c_79 | skip
      refine j_lload_n X dX11_cut_86 rfl 3 rfl ?_
      refine j_lconst (v := 0) X dX11_cut_87 rfl ?_
      refine j_lcmp X dX11_cut_88 ?_
      refine j_if_ge (tgt := 99) X dX11_cut_89 (by decide) (fun c_89 => ?_) (fun c_89 => ?_)
      · skip
        first | simp only [bI_0, Decidable.not_not, sg_mul, sg_e0, sg_l0, sg_g0, sg_le0, sg_ge0, cmp_eq, cmp_lt, cmp_ge, cmp_gt, cmp_le, lT0, lT1] at c_89 | simp only [Int32.le_iff_toInt_le, Int32.lt_iff_toInt_lt, ← Int32.toInt_inj, iT0, iT1, iT2, iT3, iT4, iT5, iT6, iT7, iT8, iT9, iT10, iT11, iT12, iT13, iT14, iT15, iT16, iT19, iT20, iT31, iT32, iT42, iT64, iT200, iT318, iT319, iT1000, iTm1, iTm2] at c_89 | skip
        refine j_iload X dX11_cut_99 4 rfl ?_
        refine j_istore (L' := [(8, .int 1), (7, .int x_15), (0, .ref (q 0)), (1, .int 1), (2, .long w), (4, .int 1), (5, .int 1), (6, .int 0)]) X dX11_cut_101 (by decide) rfl ?_
        refine j_iload X dX11_cut_103 0 rfl ?_
        refine j_if_eq (tgt := 132) X dX11_cut_105 (by decide) (fun c9 => absurd c9 (by decide)) (fun _ => ?_)
        refine j_aload_n X dX11_cut_108 rfl 2 rfl ?_
        refine j_iconst (v := 5) X dX11_cut_109 rfl ?_
        refine j_iconst (v := 4) X dX11_cut_110 rfl ?_
        refine j_bipush (v := 8) X dX11_cut_111 (by decide) ?_
        refine j_iload X dX11_cut_113 0 rfl ?_
        refine j_if_ge (tgt := 122) X dX11_cut_115 (by decide) (fun _ => ?_) (fun c9 => absurd c9 (by decide))
        refine j_iconst (v := 0) X dX11_cut_122 rfl ?_
        obtain ⟨y_16, ey_16⟩ : ∃ zz9 : Int, zz9 = y_3 + h_11 := ⟨_, rfl⟩
        have by_16 : bd 261 y_16 := by rw [ey_16]; exact bd_add (bd_mono by_3 (by decide)) (bd_mono bh_11 (by decide))
        refine j_callV X dX11_cut_123 (n_join l G q t n co cr po tx ty [z0, z1, z2, z3, y_3, z5, z6, y_9, h_11, z9, z10, z11, w_14, y_5, v_12, y_7] sf_13 rfl hS_sf_13 5 5 rfl (by decide) 4 4 rfl (by decide) 8 8 rfl (by decide) 0 (Or.inl rfl) (by decide) (by decide) y_16 ey_16 by_3 bh_11 (by decide) (by decide)) gX11_cut_X11_join rfl hy_X11_join_V ⟨Nat.le_of_ble_eq_true rfl, Nat.le_of_ble_eq_true rfl⟩ 0 rfl rfl [0, 1, 2] rfl (by decide) rfl rfl (Nat.le_of_ble_eq_true rfl) ⟨Nat.le_of_ble_eq_true rfl, Nat.le_of_ble_eq_true rfl⟩ ?_
        rintro _ sf_17 ⟨rfl, hS_sf_17⟩
        change J p l e rm_X11_cut s m args below meth c Q G A 9 0 0 126 [(8, .int 1), (7, .int x_15), (0, .ref (q 0)), (1, .int 1), (2, .long w), (4, .int 1), (5, .int 1), (6, .int 0)] [] [(q 0, .inr (10, mF t n q co cr po tx ty)), (q 10, aI G 320 (rg [z0, z1, z2, z3, y_3, y_16, z6, y_9, h_11, z9, z10, z11, w_14, y_5, v_12, y_7])), (q 11, aZ G 16 sf_17)]
        refine j_aload_n X dX11_cut_126 rfl 2 rfl ?_
        refine j_iconst (v := 4) X dX11_cut_127 rfl ?_
        refine j_iconst (v := 5) X dX11_cut_128 rfl ?_
        refine j_callV X dX11_cut_129 (h_copy l G q t n co cr po tx ty [z0, z1, z2, z3, y_3, y_16, z6, y_9, h_11, z9, z10, z11, w_14, y_5, v_12, y_7] sf_17 rfl hS_sf_17 4 4 rfl (by decide) 5 5 rfl (by decide) (by decide)) gX11_cut_X11_copy rfl hy_X11_copy_V ⟨Nat.le_of_ble_eq_true rfl, Nat.le_of_ble_eq_true rfl⟩ 0 rfl rfl [0, 1, 2] rfl (by decide) rfl rfl (Nat.le_of_ble_eq_true rfl) ⟨Nat.le_of_ble_eq_true rfl, Nat.le_of_ble_eq_true rfl⟩ ?_
        rintro _ sf_18 ⟨rfl, hS_sf_18⟩
        change J p l e rm_X11_cut s m args below meth c Q G A 9 0 0 132 [(8, .int 1), (7, .int x_15), (0, .ref (q 0)), (1, .int 1), (2, .long w), (4, .int 1), (5, .int 1), (6, .int 0)] [] [(q 0, .inr (10, mF t n q co cr po tx ty)), (q 10, aI G 320 (rg [z0, z1, z2, z3, y_16, y_16, z6, y_9, h_11, z9, z10, z11, w_14, y_5, v_12, y_7])), (q 11, aZ G 16 sf_18)]
        refine j_iload X dX11_cut_132 0 rfl ?_
        refine j_if_ge (tgt := 164) X dX11_cut_134 (by decide) (fun _ => ?_) (fun c9 => absurd c9 (by decide))
        refine j_aload_n X dX11_cut_164 rfl 2 rfl ?_
        refine j_bipush (v := 13) X dX11_cut_165 (by decide) ?_
        refine j_iload X dX11_cut_167 6 rfl ?_
        refine j_i2l X dX11_cut_169 rfl ?_
        obtain ⟨y_19, ey_19⟩ : ∃ zz9 : Int, zz9 = ((1 : Int32).toInt64).toInt := ⟨_, rfl⟩
        have by_19 : bd 2 y_19 := by rw [ey_19]; exact (bd_mono bd_p1 (by decide))
        refine j_callV X dX11_cut_170 (n_load l G q t n co cr po tx ty [z0, z1, z2, z3, y_16, y_16, z6, y_9, h_11, z9, z10, z11, w_14, y_5, v_12, y_7] sf_18 rfl hS_sf_18 13 13 rfl (by decide) ((1 : Int32).toInt64) y_19 ey_19) gX11_cut_X11_load rfl hy_X11_load_V ⟨Nat.le_of_ble_eq_true rfl, Nat.le_of_ble_eq_true rfl⟩ 0 rfl rfl [0, 1, 2] rfl (by decide) rfl rfl (Nat.le_of_ble_eq_true rfl) ⟨Nat.le_of_ble_eq_true rfl, Nat.le_of_ble_eq_true rfl⟩ ?_
        rintro _ sf_20 ⟨rfl, hS_sf_20⟩
        change J p l e rm_X11_cut s m args below meth c Q G A 9 0 0 173 [(8, .int 1), (7, .int x_15), (0, .ref (q 0)), (1, .int 1), (2, .long w), (4, .int 1), (5, .int 1), (6, .int 0)] [] [(q 0, .inr (10, mF t n q co cr po tx ty)), (q 10, aI G 320 (rg [z0, z1, z2, z3, y_16, y_16, z6, y_9, h_11, z9, z10, z11, w_14, y_19, v_12, y_7])), (q 11, aZ G 16 sf_20)]
        refine j_aload_n X dX11_cut_173 rfl 2 rfl ?_
        refine j_bipush (v := 9) X dX11_cut_174 (by decide) ?_
        refine j_bipush (v := 13) X dX11_cut_176 (by decide) ?_
        refine j_iconst (v := 3) X dX11_cut_178 rfl ?_
        obtain ⟨y_21, ey_21⟩ : ∃ zz9 : Int, zz9 = y_19 * z3 := ⟨_, rfl⟩
        have by_21 : bd 86 y_21 := by rw [ey_21]; exact bd_mul by_19 b3
        refine j_callV X dX11_cut_179 (n_mul l G q t n co cr po tx ty [z0, z1, z2, z3, y_16, y_16, z6, y_9, h_11, z9, z10, z11, w_14, y_19, v_12, y_7] sf_20 rfl hS_sf_20 9 9 rfl (by decide) 13 13 rfl (by decide) 3 3 rfl (by decide) (by decide) (by decide) y_21 ey_21) gX11_cut_X11_multiply rfl hy_X11_multiply_V ⟨Nat.le_of_ble_eq_true rfl, Nat.le_of_ble_eq_true rfl⟩ 0 rfl rfl [0, 1, 2] rfl (by decide) rfl rfl (Nat.le_of_ble_eq_true rfl) ⟨Nat.le_of_ble_eq_true rfl, Nat.le_of_ble_eq_true rfl⟩ ?_
        rintro _ sf_22 ⟨rfl, hS_sf_22⟩
        change J p l e rm_X11_cut s m args below meth c Q G A 9 0 0 182 [(8, .int 1), (7, .int x_15), (0, .ref (q 0)), (1, .int 1), (2, .long w), (4, .int 1), (5, .int 1), (6, .int 0)] [] [(q 0, .inr (10, mF t n q co cr po tx ty)), (q 10, aI G 320 (rg [z0, z1, z2, z3, y_16, y_16, z6, y_9, h_11, y_21, z10, z11, w_14, y_19, v_12, y_7])), (q 11, aZ G 16 sf_22)]
        have hM8 : y_21 = z3 := by rw [ey_21, ey_19, i64_p]; exact Int.one_mul _
        have hM9 : (y_21.natAbs : Int) = z3 := by omega
        refine j_aload_n X dX11_cut_182 rfl 2 rfl ?_
        refine j_bipush (v := 6) X dX11_cut_183 (by decide) ?_
        refine j_iconst (v := 4) X dX11_cut_185 rfl ?_
        refine j_bipush (v := 9) X dX11_cut_186 (by decide) ?_
        obtain ⟨y_23, ey_23⟩ : ∃ zz9 : Int, zz9 = y_16 / (y_21.natAbs : Int) := ⟨_, rfl⟩
        obtain ⟨y_24, ey_24⟩ : ∃ zz9 : Int, zz9 = (y_16.natAbs : Int) % (y_21.natAbs : Int) := ⟨_, rfl⟩
        refine j_callV X dX11_cut_188 (n_divide_6_4_9 l G q t n co cr po tx ty z0 z1 z2 z3 y_16 y_16 z6 y_9 h_11 y_21 z10 z11 w_14 y_19 v_12 y_7 sf_22 hS_sf_22 (by omega) by_21 by_16 (by decide) (by decide) y_23 y_24 ey_23 ey_24) gX11_cut_X11_divide rfl hy_X11_divide_V ⟨Nat.le_of_ble_eq_true rfl, Nat.le_of_ble_eq_true rfl⟩ 0 rfl rfl [0, 1, 2] rfl (by decide) rfl rfl (Nat.le_of_ble_eq_true rfl) ⟨Nat.le_of_ble_eq_true rfl, Nat.le_of_ble_eq_true rfl⟩ ?_
        rintro _ ⟨v_25, v_26, sf_27⟩ ⟨rfl, hS_sf_27⟩
        change J p l e rm_X11_cut s m args below meth c Q G A 9 0 0 191 [(8, .int 1), (7, .int x_15), (0, .ref (q 0)), (1, .int 1), (2, .long w), (4, .int 1), (5, .int 1), (6, .int 0)] [] [(q 0, .inr (10, mF t n q co cr po tx ty)), (q 10, aI G 320 (rg [z0, z1, z2, z3, y_16, y_16, y_23, y_9, h_11, y_21, z10, z11, y_24, y_19, v_25, v_26])), (q 11, aZ G 16 sf_27)]
        exact E.1 191 _ (y_16, y_16, y_23, y_9, h_11, y_21, y_24, y_19, v_25, v_26, sf_27) dX11_cut_191 (⟨rfl, ⟨h_11, ⟨hh_110, hh_111, hh_112⟩, by dsimp only; rw [fl_p (show sg ((1 : Int32).toInt * w.toInt) = 1 from by rw [iT1, Int.one_mul]; rw [sg_pos (by omega)]), ey_23, hM9] <;> (congr 1 <;> omega)⟩, hS_sf_27⟩) hr
      · skip
        first | simp only [bI_0, Decidable.not_not, sg_mul, sg_e0, sg_l0, sg_g0, sg_le0, sg_ge0, cmp_eq, cmp_lt, cmp_ge, cmp_gt, cmp_le, lT0, lT1] at c_89 | simp only [Int32.le_iff_toInt_le, Int32.lt_iff_toInt_lt, ← Int32.toInt_inj, iT0, iT1, iT2, iT3, iT4, iT5, iT6, iT7, iT8, iT9, iT10, iT11, iT12, iT13, iT14, iT15, iT16, iT19, iT20, iT31, iT32, iT42, iT64, iT200, iT318, iT319, iT1000, iTm1, iTm2] at c_89 | skip
        refine j_iconst (v := 0) X dX11_cut_92 rfl ?_
        refine j_iload X dX11_cut_93 4 rfl ?_
        refine j_isub X dX11_cut_95 ?_
        rw [show (0 : Int32) - 1 = (-1) from by decide]
        refine j_goto (tgt := 101) X dX11_cut_96 (by decide) ?_
        refine j_istore (L' := [(8, .int (-1)), (7, .int x_15), (0, .ref (q 0)), (1, .int 1), (2, .long w), (4, .int 1), (5, .int 1), (6, .int 0)]) X dX11_cut_101 (by decide) rfl ?_
        refine j_iload X dX11_cut_103 0 rfl ?_
        refine j_if_eq (tgt := 132) X dX11_cut_105 (by decide) (fun c9 => absurd c9 (by decide)) (fun _ => ?_)
        refine j_aload_n X dX11_cut_108 rfl 2 rfl ?_
        refine j_iconst (v := 5) X dX11_cut_109 rfl ?_
        refine j_iconst (v := 4) X dX11_cut_110 rfl ?_
        refine j_bipush (v := 8) X dX11_cut_111 (by decide) ?_
        refine j_iload X dX11_cut_113 0 rfl ?_
        refine j_if_ge (tgt := 122) X dX11_cut_115 (by decide) (fun c9 => absurd c9 (by decide)) (fun _ => ?_)
        refine j_iconst (v := 1) X dX11_cut_118 rfl ?_
        refine j_goto (tgt := 123) X dX11_cut_119 (by decide) ?_
        obtain ⟨y_28, ey_28⟩ : ∃ zz9 : Int, zz9 = y_3 - h_11 := ⟨_, rfl⟩
        have by_28 : bd 261 y_28 := by rw [ey_28]; exact bd_sub (bd_mono by_3 (by decide)) (bd_mono bh_11 (by decide))
        refine j_callV X dX11_cut_123 (n_join l G q t n co cr po tx ty [z0, z1, z2, z3, y_3, z5, z6, y_9, h_11, z9, z10, z11, w_14, y_5, v_12, y_7] sf_13 rfl hS_sf_13 5 5 rfl (by decide) 4 4 rfl (by decide) 8 8 rfl (by decide) 1 (Or.inr rfl) (by decide) (by decide) y_28 ey_28 by_3 bh_11 (by decide) (by decide)) gX11_cut_X11_join rfl hy_X11_join_V ⟨Nat.le_of_ble_eq_true rfl, Nat.le_of_ble_eq_true rfl⟩ 0 rfl rfl [0, 1, 2] rfl (by decide) rfl rfl (Nat.le_of_ble_eq_true rfl) ⟨Nat.le_of_ble_eq_true rfl, Nat.le_of_ble_eq_true rfl⟩ ?_
        rintro _ sf_29 ⟨rfl, hS_sf_29⟩
        change J p l e rm_X11_cut s m args below meth c Q G A 9 0 0 126 [(8, .int (-1)), (7, .int x_15), (0, .ref (q 0)), (1, .int 1), (2, .long w), (4, .int 1), (5, .int 1), (6, .int 0)] [] [(q 0, .inr (10, mF t n q co cr po tx ty)), (q 10, aI G 320 (rg [z0, z1, z2, z3, y_3, y_28, z6, y_9, h_11, z9, z10, z11, w_14, y_5, v_12, y_7])), (q 11, aZ G 16 sf_29)]
        refine j_aload_n X dX11_cut_126 rfl 2 rfl ?_
        refine j_iconst (v := 4) X dX11_cut_127 rfl ?_
        refine j_iconst (v := 5) X dX11_cut_128 rfl ?_
        refine j_callV X dX11_cut_129 (h_copy l G q t n co cr po tx ty [z0, z1, z2, z3, y_3, y_28, z6, y_9, h_11, z9, z10, z11, w_14, y_5, v_12, y_7] sf_29 rfl hS_sf_29 4 4 rfl (by decide) 5 5 rfl (by decide) (by decide)) gX11_cut_X11_copy rfl hy_X11_copy_V ⟨Nat.le_of_ble_eq_true rfl, Nat.le_of_ble_eq_true rfl⟩ 0 rfl rfl [0, 1, 2] rfl (by decide) rfl rfl (Nat.le_of_ble_eq_true rfl) ⟨Nat.le_of_ble_eq_true rfl, Nat.le_of_ble_eq_true rfl⟩ ?_
        rintro _ sf_30 ⟨rfl, hS_sf_30⟩
        change J p l e rm_X11_cut s m args below meth c Q G A 9 0 0 132 [(8, .int (-1)), (7, .int x_15), (0, .ref (q 0)), (1, .int 1), (2, .long w), (4, .int 1), (5, .int 1), (6, .int 0)] [] [(q 0, .inr (10, mF t n q co cr po tx ty)), (q 10, aI G 320 (rg [z0, z1, z2, z3, y_28, y_28, z6, y_9, h_11, z9, z10, z11, w_14, y_5, v_12, y_7])), (q 11, aZ G 16 sf_30)]
        refine j_iload X dX11_cut_132 0 rfl ?_
        refine j_if_ge (tgt := 164) X dX11_cut_134 (by decide) (fun c9 => absurd c9 (by decide)) (fun _ => ?_)
        refine j_iload X dX11_cut_137 1 rfl ?_
        refine j_if_ne (tgt := 164) X dX11_cut_139 (by decide) (fun c_139 => ?_) (fun c_139 => ?_)
        · skip
          rw [ex_15] at c_139
          have hEx : h_11 * h_11 = w.toInt * w.toInt * z2 := by by_cases q9 : h_11 * h_11 = w.toInt * w.toInt * z2; exact q9; rw [if_neg q9] at c_139; exact absurd rfl c_139
          refine j_aload_n X dX11_cut_164 rfl 2 rfl ?_
          refine j_bipush (v := 13) X dX11_cut_165 (by decide) ?_
          refine j_iload X dX11_cut_167 6 rfl ?_
          refine j_i2l X dX11_cut_169 rfl ?_
          obtain ⟨y_31, ey_31⟩ : ∃ zz9 : Int, zz9 = ((1 : Int32).toInt64).toInt := ⟨_, rfl⟩
          have by_31 : bd 2 y_31 := by rw [ey_31]; exact (bd_mono bd_p1 (by decide))
          refine j_callV X dX11_cut_170 (n_load l G q t n co cr po tx ty [z0, z1, z2, z3, y_28, y_28, z6, y_9, h_11, z9, z10, z11, w_14, y_5, v_12, y_7] sf_30 rfl hS_sf_30 13 13 rfl (by decide) ((1 : Int32).toInt64) y_31 ey_31) gX11_cut_X11_load rfl hy_X11_load_V ⟨Nat.le_of_ble_eq_true rfl, Nat.le_of_ble_eq_true rfl⟩ 0 rfl rfl [0, 1, 2] rfl (by decide) rfl rfl (Nat.le_of_ble_eq_true rfl) ⟨Nat.le_of_ble_eq_true rfl, Nat.le_of_ble_eq_true rfl⟩ ?_
          rintro _ sf_32 ⟨rfl, hS_sf_32⟩
          change J p l e rm_X11_cut s m args below meth c Q G A 9 0 0 173 [(8, .int (-1)), (7, .int x_15), (0, .ref (q 0)), (1, .int 1), (2, .long w), (4, .int 1), (5, .int 1), (6, .int 0)] [] [(q 0, .inr (10, mF t n q co cr po tx ty)), (q 10, aI G 320 (rg [z0, z1, z2, z3, y_28, y_28, z6, y_9, h_11, z9, z10, z11, w_14, y_31, v_12, y_7])), (q 11, aZ G 16 sf_32)]
          refine j_aload_n X dX11_cut_173 rfl 2 rfl ?_
          refine j_bipush (v := 9) X dX11_cut_174 (by decide) ?_
          refine j_bipush (v := 13) X dX11_cut_176 (by decide) ?_
          refine j_iconst (v := 3) X dX11_cut_178 rfl ?_
          obtain ⟨y_33, ey_33⟩ : ∃ zz9 : Int, zz9 = y_31 * z3 := ⟨_, rfl⟩
          have by_33 : bd 86 y_33 := by rw [ey_33]; exact bd_mul by_31 b3
          refine j_callV X dX11_cut_179 (n_mul l G q t n co cr po tx ty [z0, z1, z2, z3, y_28, y_28, z6, y_9, h_11, z9, z10, z11, w_14, y_31, v_12, y_7] sf_32 rfl hS_sf_32 9 9 rfl (by decide) 13 13 rfl (by decide) 3 3 rfl (by decide) (by decide) (by decide) y_33 ey_33) gX11_cut_X11_multiply rfl hy_X11_multiply_V ⟨Nat.le_of_ble_eq_true rfl, Nat.le_of_ble_eq_true rfl⟩ 0 rfl rfl [0, 1, 2] rfl (by decide) rfl rfl (Nat.le_of_ble_eq_true rfl) ⟨Nat.le_of_ble_eq_true rfl, Nat.le_of_ble_eq_true rfl⟩ ?_
          rintro _ sf_34 ⟨rfl, hS_sf_34⟩
          change J p l e rm_X11_cut s m args below meth c Q G A 9 0 0 182 [(8, .int (-1)), (7, .int x_15), (0, .ref (q 0)), (1, .int 1), (2, .long w), (4, .int 1), (5, .int 1), (6, .int 0)] [] [(q 0, .inr (10, mF t n q co cr po tx ty)), (q 10, aI G 320 (rg [z0, z1, z2, z3, y_28, y_28, z6, y_9, h_11, y_33, z10, z11, w_14, y_31, v_12, y_7])), (q 11, aZ G 16 sf_34)]
          have hM8 : y_33 = z3 := by rw [ey_33, ey_31, i64_p]; exact Int.one_mul _
          have hM9 : (y_33.natAbs : Int) = z3 := by omega
          refine j_aload_n X dX11_cut_182 rfl 2 rfl ?_
          refine j_bipush (v := 6) X dX11_cut_183 (by decide) ?_
          refine j_iconst (v := 4) X dX11_cut_185 rfl ?_
          refine j_bipush (v := 9) X dX11_cut_186 (by decide) ?_
          obtain ⟨y_35, ey_35⟩ : ∃ zz9 : Int, zz9 = y_28 / (y_33.natAbs : Int) := ⟨_, rfl⟩
          obtain ⟨y_36, ey_36⟩ : ∃ zz9 : Int, zz9 = (y_28.natAbs : Int) % (y_33.natAbs : Int) := ⟨_, rfl⟩
          refine j_callV X dX11_cut_188 (n_divide_6_4_9 l G q t n co cr po tx ty z0 z1 z2 z3 y_28 y_28 z6 y_9 h_11 y_33 z10 z11 w_14 y_31 v_12 y_7 sf_34 hS_sf_34 (by omega) by_33 by_28 (by decide) (by decide) y_35 y_36 ey_35 ey_36) gX11_cut_X11_divide rfl hy_X11_divide_V ⟨Nat.le_of_ble_eq_true rfl, Nat.le_of_ble_eq_true rfl⟩ 0 rfl rfl [0, 1, 2] rfl (by decide) rfl rfl (Nat.le_of_ble_eq_true rfl) ⟨Nat.le_of_ble_eq_true rfl, Nat.le_of_ble_eq_true rfl⟩ ?_
          rintro _ ⟨v_37, v_38, sf_39⟩ ⟨rfl, hS_sf_39⟩
          change J p l e rm_X11_cut s m args below meth c Q G A 9 0 0 191 [(8, .int (-1)), (7, .int x_15), (0, .ref (q 0)), (1, .int 1), (2, .long w), (4, .int 1), (5, .int 1), (6, .int 0)] [] [(q 0, .inr (10, mF t n q co cr po tx ty)), (q 10, aI G 320 (rg [z0, z1, z2, z3, y_28, y_28, y_35, y_9, h_11, y_33, z10, z11, y_36, y_31, v_37, v_38])), (q 11, aZ G 16 sf_39)]
          exact E.1 191 _ (y_28, y_28, y_35, y_9, h_11, y_33, y_36, y_31, v_37, v_38, sf_39) dX11_cut_191 (⟨rfl, ⟨h_11, ⟨hh_110, hh_111, hh_112⟩, by dsimp only; rw [fl_n (show sg ((1 : Int32).toInt * w.toInt) = -1 from by rw [iT1, Int.one_mul]; rw [sg_neg (by omega)]) hEx, ey_35, hM9] <;> (congr 1 <;> omega)⟩, hS_sf_39⟩) hr
        · skip
          rw [ex_15] at c_139
          have hEx : ¬ h_11 * h_11 = w.toInt * w.toInt * z2 := by intro q9; rw [if_pos q9] at c_139; exact absurd c_139 (by decide)
          refine j_aload_n X dX11_cut_142 rfl 2 rfl ?_
          refine j_bipush (v := 15) X dX11_cut_143 (by decide) ?_
          refine j_lconst (v := 1) X dX11_cut_145 rfl ?_
          obtain ⟨y_40, ey_40⟩ : ∃ zz9 : Int, zz9 = 1 := ⟨_, rfl⟩
          have by_40 : bd 1 y_40 := by rw [ey_40]; exact (by decide : Int.natAbs 1 ≤ 2 ^ 1)
          refine j_callV X dX11_cut_146 (n_load l G q t n co cr po tx ty [z0, z1, z2, z3, y_28, y_28, z6, y_9, h_11, z9, z10, z11, w_14, y_5, v_12, y_7] sf_30 rfl hS_sf_30 15 15 rfl (by decide) 1 y_40 (by rw [ey_40]; rfl)) gX11_cut_X11_load rfl hy_X11_load_V ⟨Nat.le_of_ble_eq_true rfl, Nat.le_of_ble_eq_true rfl⟩ 0 rfl rfl [0, 1, 2] rfl (by decide) rfl rfl (Nat.le_of_ble_eq_true rfl) ⟨Nat.le_of_ble_eq_true rfl, Nat.le_of_ble_eq_true rfl⟩ ?_
          rintro _ sf_41 ⟨rfl, hS_sf_41⟩
          change J p l e rm_X11_cut s m args below meth c Q G A 9 0 0 149 [(8, .int (-1)), (7, .int x_15), (0, .ref (q 0)), (1, .int 1), (2, .long w), (4, .int 1), (5, .int 1), (6, .int 0)] [] [(q 0, .inr (10, mF t n q co cr po tx ty)), (q 10, aI G 320 (rg [z0, z1, z2, z3, y_28, y_28, z6, y_9, h_11, z9, z10, z11, w_14, y_5, v_12, y_40])), (q 11, aZ G 16 sf_41)]
          refine j_aload_n X dX11_cut_149 rfl 2 rfl ?_
          refine j_iconst (v := 5) X dX11_cut_150 rfl ?_
          refine j_iconst (v := 4) X dX11_cut_151 rfl ?_
          refine j_bipush (v := 15) X dX11_cut_152 (by decide) ?_
          refine j_iconst (v := 1) X dX11_cut_154 rfl ?_
          obtain ⟨y_42, ey_42⟩ : ∃ zz9 : Int, zz9 = y_28 - y_40 := ⟨_, rfl⟩
          have by_42 : bd 262 y_42 := by rw [ey_42]; exact bd_sub (bd_mono by_28 (by decide)) (bd_mono by_40 (by decide))
          refine j_callV X dX11_cut_155 (n_join l G q t n co cr po tx ty [z0, z1, z2, z3, y_28, y_28, z6, y_9, h_11, z9, z10, z11, w_14, y_5, v_12, y_40] sf_41 rfl hS_sf_41 5 5 rfl (by decide) 4 4 rfl (by decide) 15 15 rfl (by decide) 1 (Or.inr rfl) (by decide) (by decide) y_42 ey_42 by_28 by_40 (by decide) (by decide)) gX11_cut_X11_join rfl hy_X11_join_V ⟨Nat.le_of_ble_eq_true rfl, Nat.le_of_ble_eq_true rfl⟩ 0 rfl rfl [0, 1, 2] rfl (by decide) rfl rfl (Nat.le_of_ble_eq_true rfl) ⟨Nat.le_of_ble_eq_true rfl, Nat.le_of_ble_eq_true rfl⟩ ?_
          rintro _ sf_43 ⟨rfl, hS_sf_43⟩
          change J p l e rm_X11_cut s m args below meth c Q G A 9 0 0 158 [(8, .int (-1)), (7, .int x_15), (0, .ref (q 0)), (1, .int 1), (2, .long w), (4, .int 1), (5, .int 1), (6, .int 0)] [] [(q 0, .inr (10, mF t n q co cr po tx ty)), (q 10, aI G 320 (rg [z0, z1, z2, z3, y_28, y_42, z6, y_9, h_11, z9, z10, z11, w_14, y_5, v_12, y_40])), (q 11, aZ G 16 sf_43)]
          refine j_aload_n X dX11_cut_158 rfl 2 rfl ?_
          refine j_iconst (v := 4) X dX11_cut_159 rfl ?_
          refine j_iconst (v := 5) X dX11_cut_160 rfl ?_
          refine j_callV X dX11_cut_161 (h_copy l G q t n co cr po tx ty [z0, z1, z2, z3, y_28, y_42, z6, y_9, h_11, z9, z10, z11, w_14, y_5, v_12, y_40] sf_43 rfl hS_sf_43 4 4 rfl (by decide) 5 5 rfl (by decide) (by decide)) gX11_cut_X11_copy rfl hy_X11_copy_V ⟨Nat.le_of_ble_eq_true rfl, Nat.le_of_ble_eq_true rfl⟩ 0 rfl rfl [0, 1, 2] rfl (by decide) rfl rfl (Nat.le_of_ble_eq_true rfl) ⟨Nat.le_of_ble_eq_true rfl, Nat.le_of_ble_eq_true rfl⟩ ?_
          rintro _ sf_44 ⟨rfl, hS_sf_44⟩
          change J p l e rm_X11_cut s m args below meth c Q G A 9 0 0 164 [(8, .int (-1)), (7, .int x_15), (0, .ref (q 0)), (1, .int 1), (2, .long w), (4, .int 1), (5, .int 1), (6, .int 0)] [] [(q 0, .inr (10, mF t n q co cr po tx ty)), (q 10, aI G 320 (rg [z0, z1, z2, z3, y_42, y_42, z6, y_9, h_11, z9, z10, z11, w_14, y_5, v_12, y_40])), (q 11, aZ G 16 sf_44)]
          refine j_aload_n X dX11_cut_164 rfl 2 rfl ?_
          refine j_bipush (v := 13) X dX11_cut_165 (by decide) ?_
          refine j_iload X dX11_cut_167 6 rfl ?_
          refine j_i2l X dX11_cut_169 rfl ?_
          obtain ⟨y_45, ey_45⟩ : ∃ zz9 : Int, zz9 = ((1 : Int32).toInt64).toInt := ⟨_, rfl⟩
          have by_45 : bd 2 y_45 := by rw [ey_45]; exact (bd_mono bd_p1 (by decide))
          refine j_callV X dX11_cut_170 (n_load l G q t n co cr po tx ty [z0, z1, z2, z3, y_42, y_42, z6, y_9, h_11, z9, z10, z11, w_14, y_5, v_12, y_40] sf_44 rfl hS_sf_44 13 13 rfl (by decide) ((1 : Int32).toInt64) y_45 ey_45) gX11_cut_X11_load rfl hy_X11_load_V ⟨Nat.le_of_ble_eq_true rfl, Nat.le_of_ble_eq_true rfl⟩ 0 rfl rfl [0, 1, 2] rfl (by decide) rfl rfl (Nat.le_of_ble_eq_true rfl) ⟨Nat.le_of_ble_eq_true rfl, Nat.le_of_ble_eq_true rfl⟩ ?_
          rintro _ sf_46 ⟨rfl, hS_sf_46⟩
          change J p l e rm_X11_cut s m args below meth c Q G A 9 0 0 173 [(8, .int (-1)), (7, .int x_15), (0, .ref (q 0)), (1, .int 1), (2, .long w), (4, .int 1), (5, .int 1), (6, .int 0)] [] [(q 0, .inr (10, mF t n q co cr po tx ty)), (q 10, aI G 320 (rg [z0, z1, z2, z3, y_42, y_42, z6, y_9, h_11, z9, z10, z11, w_14, y_45, v_12, y_40])), (q 11, aZ G 16 sf_46)]
          refine j_aload_n X dX11_cut_173 rfl 2 rfl ?_
          refine j_bipush (v := 9) X dX11_cut_174 (by decide) ?_
          refine j_bipush (v := 13) X dX11_cut_176 (by decide) ?_
          refine j_iconst (v := 3) X dX11_cut_178 rfl ?_
          obtain ⟨y_47, ey_47⟩ : ∃ zz9 : Int, zz9 = y_45 * z3 := ⟨_, rfl⟩
          have by_47 : bd 86 y_47 := by rw [ey_47]; exact bd_mul by_45 b3
          refine j_callV X dX11_cut_179 (n_mul l G q t n co cr po tx ty [z0, z1, z2, z3, y_42, y_42, z6, y_9, h_11, z9, z10, z11, w_14, y_45, v_12, y_40] sf_46 rfl hS_sf_46 9 9 rfl (by decide) 13 13 rfl (by decide) 3 3 rfl (by decide) (by decide) (by decide) y_47 ey_47) gX11_cut_X11_multiply rfl hy_X11_multiply_V ⟨Nat.le_of_ble_eq_true rfl, Nat.le_of_ble_eq_true rfl⟩ 0 rfl rfl [0, 1, 2] rfl (by decide) rfl rfl (Nat.le_of_ble_eq_true rfl) ⟨Nat.le_of_ble_eq_true rfl, Nat.le_of_ble_eq_true rfl⟩ ?_
          rintro _ sf_48 ⟨rfl, hS_sf_48⟩
          change J p l e rm_X11_cut s m args below meth c Q G A 9 0 0 182 [(8, .int (-1)), (7, .int x_15), (0, .ref (q 0)), (1, .int 1), (2, .long w), (4, .int 1), (5, .int 1), (6, .int 0)] [] [(q 0, .inr (10, mF t n q co cr po tx ty)), (q 10, aI G 320 (rg [z0, z1, z2, z3, y_42, y_42, z6, y_9, h_11, y_47, z10, z11, w_14, y_45, v_12, y_40])), (q 11, aZ G 16 sf_48)]
          have hM8 : y_47 = z3 := by rw [ey_47, ey_45, i64_p]; exact Int.one_mul _
          have hM9 : (y_47.natAbs : Int) = z3 := by omega
          refine j_aload_n X dX11_cut_182 rfl 2 rfl ?_
          refine j_bipush (v := 6) X dX11_cut_183 (by decide) ?_
          refine j_iconst (v := 4) X dX11_cut_185 rfl ?_
          refine j_bipush (v := 9) X dX11_cut_186 (by decide) ?_
          obtain ⟨y_49, ey_49⟩ : ∃ zz9 : Int, zz9 = y_42 / (y_47.natAbs : Int) := ⟨_, rfl⟩
          obtain ⟨y_50, ey_50⟩ : ∃ zz9 : Int, zz9 = (y_42.natAbs : Int) % (y_47.natAbs : Int) := ⟨_, rfl⟩
          refine j_callV X dX11_cut_188 (n_divide_6_4_9 l G q t n co cr po tx ty z0 z1 z2 z3 y_42 y_42 z6 y_9 h_11 y_47 z10 z11 w_14 y_45 v_12 y_40 sf_48 hS_sf_48 (by omega) by_47 by_42 (by decide) (by decide) y_49 y_50 ey_49 ey_50) gX11_cut_X11_divide rfl hy_X11_divide_V ⟨Nat.le_of_ble_eq_true rfl, Nat.le_of_ble_eq_true rfl⟩ 0 rfl rfl [0, 1, 2] rfl (by decide) rfl rfl (Nat.le_of_ble_eq_true rfl) ⟨Nat.le_of_ble_eq_true rfl, Nat.le_of_ble_eq_true rfl⟩ ?_
          rintro _ ⟨v_51, v_52, sf_53⟩ ⟨rfl, hS_sf_53⟩
          change J p l e rm_X11_cut s m args below meth c Q G A 9 0 0 191 [(8, .int (-1)), (7, .int x_15), (0, .ref (q 0)), (1, .int 1), (2, .long w), (4, .int 1), (5, .int 1), (6, .int 0)] [] [(q 0, .inr (10, mF t n q co cr po tx ty)), (q 10, aI G 320 (rg [z0, z1, z2, z3, y_42, y_42, y_49, y_9, h_11, y_47, z10, z11, y_50, y_45, v_51, v_52])), (q 11, aZ G 16 sf_53)]
          exact E.1 191 _ (y_42, y_42, y_49, y_9, h_11, y_47, y_50, y_45, v_51, v_52, sf_53) dX11_cut_191 (⟨rfl, ⟨h_11, ⟨hh_110, hh_111, hh_112⟩, by dsimp only; rw [fl_m (show sg ((1 : Int32).toInt * w.toInt) = -1 from by rw [iT1, Int.one_mul]; rw [sg_neg (by omega)]) hEx, ey_49, hM9] <;> (congr 1 <;> omega)⟩, hS_sf_53⟩) hr
    · skip
      first | simp only [bI_0, Decidable.not_not, sg_mul, sg_e0, sg_l0, sg_g0, sg_le0, sg_ge0, cmp_eq, cmp_lt, cmp_ge, cmp_gt, cmp_le, lT0, lT1] at c_79 | simp only [Int32.le_iff_toInt_le, Int32.lt_iff_toInt_lt, ← Int32.toInt_inj, iT0, iT1, iT2, iT3, iT4, iT5, iT6, iT7, iT8, iT9, iT10, iT11, iT12, iT13, iT14, iT15, iT16, iT19, iT20, iT31, iT32, iT42, iT64, iT200, iT318, iT319, iT1000, iTm1, iTm2] at c_79 | skip
      refine j_iconst (v := 0) X dX11_cut_82 rfl ?_
      refine j_goto (tgt := 101) X dX11_cut_83 (by decide) ?_
      refine j_istore (L' := [(8, .int 0), (7, .int x_15), (0, .ref (q 0)), (1, .int 1), (2, .long w), (4, .int 1), (5, .int 1), (6, .int 0)]) X dX11_cut_101 (by decide) rfl ?_
      refine j_iload X dX11_cut_103 0 rfl ?_
      refine j_if_eq (tgt := 132) X dX11_cut_105 (by decide) (fun _ => ?_) (fun c9 => absurd c9 (by decide))
      refine j_iload X dX11_cut_132 0 rfl ?_
      refine j_if_ge (tgt := 164) X dX11_cut_134 (by decide) (fun _ => ?_) (fun c9 => absurd c9 (by decide))
      refine j_aload_n X dX11_cut_164 rfl 2 rfl ?_
      refine j_bipush (v := 13) X dX11_cut_165 (by decide) ?_
      refine j_iload X dX11_cut_167 6 rfl ?_
      refine j_i2l X dX11_cut_169 rfl ?_
      obtain ⟨y_54, ey_54⟩ : ∃ zz9 : Int, zz9 = ((1 : Int32).toInt64).toInt := ⟨_, rfl⟩
      have by_54 : bd 2 y_54 := by rw [ey_54]; exact (bd_mono bd_p1 (by decide))
      refine j_callV X dX11_cut_170 (n_load l G q t n co cr po tx ty [z0, z1, z2, z3, y_3, z5, z6, y_9, h_11, z9, z10, z11, w_14, y_5, v_12, y_7] sf_13 rfl hS_sf_13 13 13 rfl (by decide) ((1 : Int32).toInt64) y_54 ey_54) gX11_cut_X11_load rfl hy_X11_load_V ⟨Nat.le_of_ble_eq_true rfl, Nat.le_of_ble_eq_true rfl⟩ 0 rfl rfl [0, 1, 2] rfl (by decide) rfl rfl (Nat.le_of_ble_eq_true rfl) ⟨Nat.le_of_ble_eq_true rfl, Nat.le_of_ble_eq_true rfl⟩ ?_
      rintro _ sf_55 ⟨rfl, hS_sf_55⟩
      change J p l e rm_X11_cut s m args below meth c Q G A 9 0 0 173 [(8, .int 0), (7, .int x_15), (0, .ref (q 0)), (1, .int 1), (2, .long w), (4, .int 1), (5, .int 1), (6, .int 0)] [] [(q 0, .inr (10, mF t n q co cr po tx ty)), (q 10, aI G 320 (rg [z0, z1, z2, z3, y_3, z5, z6, y_9, h_11, z9, z10, z11, w_14, y_54, v_12, y_7])), (q 11, aZ G 16 sf_55)]
      refine j_aload_n X dX11_cut_173 rfl 2 rfl ?_
      refine j_bipush (v := 9) X dX11_cut_174 (by decide) ?_
      refine j_bipush (v := 13) X dX11_cut_176 (by decide) ?_
      refine j_iconst (v := 3) X dX11_cut_178 rfl ?_
      obtain ⟨y_56, ey_56⟩ : ∃ zz9 : Int, zz9 = y_54 * z3 := ⟨_, rfl⟩
      have by_56 : bd 86 y_56 := by rw [ey_56]; exact bd_mul by_54 b3
      refine j_callV X dX11_cut_179 (n_mul l G q t n co cr po tx ty [z0, z1, z2, z3, y_3, z5, z6, y_9, h_11, z9, z10, z11, w_14, y_54, v_12, y_7] sf_55 rfl hS_sf_55 9 9 rfl (by decide) 13 13 rfl (by decide) 3 3 rfl (by decide) (by decide) (by decide) y_56 ey_56) gX11_cut_X11_multiply rfl hy_X11_multiply_V ⟨Nat.le_of_ble_eq_true rfl, Nat.le_of_ble_eq_true rfl⟩ 0 rfl rfl [0, 1, 2] rfl (by decide) rfl rfl (Nat.le_of_ble_eq_true rfl) ⟨Nat.le_of_ble_eq_true rfl, Nat.le_of_ble_eq_true rfl⟩ ?_
      rintro _ sf_57 ⟨rfl, hS_sf_57⟩
      change J p l e rm_X11_cut s m args below meth c Q G A 9 0 0 182 [(8, .int 0), (7, .int x_15), (0, .ref (q 0)), (1, .int 1), (2, .long w), (4, .int 1), (5, .int 1), (6, .int 0)] [] [(q 0, .inr (10, mF t n q co cr po tx ty)), (q 10, aI G 320 (rg [z0, z1, z2, z3, y_3, z5, z6, y_9, h_11, y_56, z10, z11, w_14, y_54, v_12, y_7])), (q 11, aZ G 16 sf_57)]
      have hM8 : y_56 = z3 := by rw [ey_56, ey_54, i64_p]; exact Int.one_mul _
      have hM9 : (y_56.natAbs : Int) = z3 := by omega
      refine j_aload_n X dX11_cut_182 rfl 2 rfl ?_
      refine j_bipush (v := 6) X dX11_cut_183 (by decide) ?_
      refine j_iconst (v := 4) X dX11_cut_185 rfl ?_
      refine j_bipush (v := 9) X dX11_cut_186 (by decide) ?_
      obtain ⟨y_58, ey_58⟩ : ∃ zz9 : Int, zz9 = y_3 / (y_56.natAbs : Int) := ⟨_, rfl⟩
      obtain ⟨y_59, ey_59⟩ : ∃ zz9 : Int, zz9 = (y_3.natAbs : Int) % (y_56.natAbs : Int) := ⟨_, rfl⟩
      refine j_callV X dX11_cut_188 (n_divide_6_4_9 l G q t n co cr po tx ty z0 z1 z2 z3 y_3 z5 z6 y_9 h_11 y_56 z10 z11 w_14 y_54 v_12 y_7 sf_57 hS_sf_57 (by omega) by_56 by_3 (by decide) (by decide) y_58 y_59 ey_58 ey_59) gX11_cut_X11_divide rfl hy_X11_divide_V ⟨Nat.le_of_ble_eq_true rfl, Nat.le_of_ble_eq_true rfl⟩ 0 rfl rfl [0, 1, 2] rfl (by decide) rfl rfl (Nat.le_of_ble_eq_true rfl) ⟨Nat.le_of_ble_eq_true rfl, Nat.le_of_ble_eq_true rfl⟩ ?_
      rintro _ ⟨v_60, v_61, sf_62⟩ ⟨rfl, hS_sf_62⟩
      change J p l e rm_X11_cut s m args below meth c Q G A 9 0 0 191 [(8, .int 0), (7, .int x_15), (0, .ref (q 0)), (1, .int 1), (2, .long w), (4, .int 1), (5, .int 1), (6, .int 0)] [] [(q 0, .inr (10, mF t n q co cr po tx ty)), (q 10, aI G 320 (rg [z0, z1, z2, z3, y_3, z5, y_58, y_9, h_11, y_56, z10, z11, y_59, y_54, v_60, v_61])), (q 11, aZ G 16 sf_62)]
      exact E.1 191 _ (y_3, z5, y_58, y_9, h_11, y_56, y_59, y_54, v_60, v_61, sf_62) dX11_cut_191 (⟨rfl, ⟨h_11, ⟨hh_110, hh_111, hh_112⟩, by dsimp only; rw [fl_z (show sg ((1 : Int32).toInt * w.toInt) = 0 from by rw [iT1, Int.one_mul]; rw [sg_zero (by omega)]), ey_58, hM9] <;> (congr 1 <;> omega)⟩, hS_sf_62⟩) hr
  · skip
    refine j_aload_n X dX11_cut_0 rfl 0 rfl ?_
    refine j_bipush (v := 13) X dX11_cut_1 (by decide) ?_
    refine j_iload X dX11_cut_3 4 rfl ?_
    refine j_i2l X dX11_cut_5 rfl ?_
    obtain ⟨y_63, ey_63⟩ : ∃ zz9 : Int, zz9 = ((1 : Int32).toInt64).toInt := ⟨_, rfl⟩
    have by_63 : bd 2 y_63 := by rw [ey_63]; exact (bd_mono bd_p1 (by decide))
    refine j_callV X dX11_cut_6 (n_load l G q t n co cr po tx ty [z0, z1, z2, z3, z4, z5, z6, z7, z8, z9, z10, z11, z12, z13, z14, z15] sf rfl hS 13 13 rfl (by decide) ((1 : Int32).toInt64) y_63 ey_63) gX11_cut_X11_load rfl hy_X11_load_V ⟨Nat.le_of_ble_eq_true rfl, Nat.le_of_ble_eq_true rfl⟩ 0 rfl rfl [0, 1, 2] rfl (by decide) rfl rfl (Nat.le_of_ble_eq_true rfl) ⟨Nat.le_of_ble_eq_true rfl, Nat.le_of_ble_eq_true rfl⟩ ?_
    rintro _ sf_64 ⟨rfl, hS_sf_64⟩
    change J p l e rm_X11_cut s m args below meth c Q G A 9 0 0 9 [(0, .ref (q 0)), (1, .int 1), (2, .long w), (4, .int (-1)), (5, .int 1), (6, .int 0)] [] [(q 0, .inr (10, mF t n q co cr po tx ty)), (q 10, aI G 320 (rg [z0, z1, z2, z3, z4, z5, z6, z7, z8, z9, z10, z11, z12, y_63, z14, z15])), (q 11, aZ G 16 sf_64)]
    refine j_aload_n X dX11_cut_9 rfl 0 rfl ?_
    refine j_iconst (v := 4) X dX11_cut_10 rfl ?_
    refine j_bipush (v := 13) X dX11_cut_11 (by decide) ?_
    refine j_iload_n X dX11_cut_13 rfl 1 rfl ?_
    obtain ⟨y_65, ey_65⟩ : ∃ zz9 : Int, zz9 = y_63 * z1 := ⟨_, rfl⟩
    have by_65 : bd 129 y_65 := by rw [ey_65]; exact bd_mul by_63 bu
    refine j_callV X dX11_cut_14 (n_mul l G q t n co cr po tx ty [z0, z1, z2, z3, z4, z5, z6, z7, z8, z9, z10, z11, z12, y_63, z14, z15] sf_64 rfl hS_sf_64 4 4 rfl (by decide) 13 13 rfl (by decide) 1 1 rfl (by decide) (by decide) (by decide) y_65 ey_65) gX11_cut_X11_multiply rfl hy_X11_multiply_V ⟨Nat.le_of_ble_eq_true rfl, Nat.le_of_ble_eq_true rfl⟩ 0 rfl rfl [0, 1, 2] rfl (by decide) rfl rfl (Nat.le_of_ble_eq_true rfl) ⟨Nat.le_of_ble_eq_true rfl, Nat.le_of_ble_eq_true rfl⟩ ?_
    rintro _ sf_66 ⟨rfl, hS_sf_66⟩
    change J p l e rm_X11_cut s m args below meth c Q G A 9 0 0 17 [(0, .ref (q 0)), (1, .int 1), (2, .long w), (4, .int (-1)), (5, .int 1), (6, .int 0)] [] [(q 0, .inr (10, mF t n q co cr po tx ty)), (q 10, aI G 320 (rg [z0, z1, z2, z3, y_65, z5, z6, z7, z8, z9, z10, z11, z12, y_63, z14, z15])), (q 11, aZ G 16 sf_66)]
    have hA1 : y_65 = z1 := by rw [ey_65, ey_63, i64_p]; exact Int.one_mul _
    refine j_iload X dX11_cut_17 5 rfl ?_
    refine j_if_eq (tgt := 36) X dX11_cut_19 (by decide) (fun _ => ?_) (fun c9 => absurd c9 (by decide))
    refine j_aload_n X dX11_cut_36 rfl 0 rfl ?_
    refine j_bipush (v := 13) X dX11_cut_37 (by decide) ?_
    refine j_iload X dX11_cut_39 4 rfl ?_
    refine j_i2l X dX11_cut_41 rfl ?_
    refine j_lload_n X dX11_cut_42 rfl 2 rfl ?_
    refine j_lmul X dX11_cut_43 ?_
    obtain ⟨y_67, ey_67⟩ : ∃ zz9 : Int, zz9 = (((1 : Int32).toInt64) * w).toInt := ⟨_, rfl⟩
    have by_67 : bd 43 y_67 := by rw [ey_67]; exact bq9
    refine j_callV X dX11_cut_44 (n_load l G q t n co cr po tx ty [z0, z1, z2, z3, y_65, z5, z6, z7, z8, z9, z10, z11, z12, y_63, z14, z15] sf_66 rfl hS_sf_66 13 13 rfl (by decide) (((1 : Int32).toInt64) * w) y_67 ey_67) gX11_cut_X11_load rfl hy_X11_load_V ⟨Nat.le_of_ble_eq_true rfl, Nat.le_of_ble_eq_true rfl⟩ 0 rfl rfl [0, 1, 2] rfl (by decide) rfl rfl (Nat.le_of_ble_eq_true rfl) ⟨Nat.le_of_ble_eq_true rfl, Nat.le_of_ble_eq_true rfl⟩ ?_
    rintro _ sf_68 ⟨rfl, hS_sf_68⟩
    change J p l e rm_X11_cut s m args below meth c Q G A 9 0 0 47 [(0, .ref (q 0)), (1, .int 1), (2, .long w), (4, .int (-1)), (5, .int 1), (6, .int 0)] [] [(q 0, .inr (10, mF t n q co cr po tx ty)), (q 10, aI G 320 (rg [z0, z1, z2, z3, y_65, z5, z6, z7, z8, z9, z10, z11, z12, y_67, z14, z15])), (q 11, aZ G 16 sf_68)]
    refine j_aload_n X dX11_cut_47 rfl 0 rfl ?_
    refine j_bipush (v := 15) X dX11_cut_48 (by decide) ?_
    refine j_bipush (v := 13) X dX11_cut_50 (by decide) ?_
    refine j_bipush (v := 13) X dX11_cut_52 (by decide) ?_
    obtain ⟨y_69, ey_69⟩ : ∃ zz9 : Int, zz9 = y_67 * y_67 := ⟨_, rfl⟩
    have by_69 : bd 86 y_69 := by rw [ey_69]; exact bd_mul by_67 by_67
    refine j_callV X dX11_cut_54 (n_mul l G q t n co cr po tx ty [z0, z1, z2, z3, y_65, z5, z6, z7, z8, z9, z10, z11, z12, y_67, z14, z15] sf_68 rfl hS_sf_68 15 15 rfl (by decide) 13 13 rfl (by decide) 13 13 rfl (by decide) (by decide) (by decide) y_69 ey_69) gX11_cut_X11_multiply rfl hy_X11_multiply_V ⟨Nat.le_of_ble_eq_true rfl, Nat.le_of_ble_eq_true rfl⟩ 0 rfl rfl [0, 1, 2] rfl (by decide) rfl rfl (Nat.le_of_ble_eq_true rfl) ⟨Nat.le_of_ble_eq_true rfl, Nat.le_of_ble_eq_true rfl⟩ ?_
    rintro _ sf_70 ⟨rfl, hS_sf_70⟩
    change J p l e rm_X11_cut s m args below meth c Q G A 9 0 0 57 [(0, .ref (q 0)), (1, .int 1), (2, .long w), (4, .int (-1)), (5, .int 1), (6, .int 0)] [] [(q 0, .inr (10, mF t n q co cr po tx ty)), (q 10, aI G 320 (rg [z0, z1, z2, z3, y_65, z5, z6, z7, z8, z9, z10, z11, z12, y_67, z14, y_69])), (q 11, aZ G 16 sf_70)]
    refine j_aload_n X dX11_cut_57 rfl 0 rfl ?_
    refine j_bipush (v := 7) X dX11_cut_58 (by decide) ?_
    refine j_bipush (v := 15) X dX11_cut_60 (by decide) ?_
    refine j_iconst (v := 2) X dX11_cut_62 rfl ?_
    obtain ⟨y_71, ey_71⟩ : ∃ zz9 : Int, zz9 = y_69 * z2 := ⟨_, rfl⟩
    have by_71 : bd 258 y_71 := by rw [ey_71]; exact bd_mul by_69 b2
    refine j_callV X dX11_cut_63 (n_mul l G q t n co cr po tx ty [z0, z1, z2, z3, y_65, z5, z6, z7, z8, z9, z10, z11, z12, y_67, z14, y_69] sf_70 rfl hS_sf_70 7 7 rfl (by decide) 15 15 rfl (by decide) 2 2 rfl (by decide) (by decide) (by decide) y_71 ey_71) gX11_cut_X11_multiply rfl hy_X11_multiply_V ⟨Nat.le_of_ble_eq_true rfl, Nat.le_of_ble_eq_true rfl⟩ 0 rfl rfl [0, 1, 2] rfl (by decide) rfl rfl (Nat.le_of_ble_eq_true rfl) ⟨Nat.le_of_ble_eq_true rfl, Nat.le_of_ble_eq_true rfl⟩ ?_
    rintro _ sf_72 ⟨rfl, hS_sf_72⟩
    change J p l e rm_X11_cut s m args below meth c Q G A 9 0 0 66 [(0, .ref (q 0)), (1, .int 1), (2, .long w), (4, .int (-1)), (5, .int 1), (6, .int 0)] [] [(q 0, .inr (10, mF t n q co cr po tx ty)), (q 10, aI G 320 (rg [z0, z1, z2, z3, y_65, z5, z6, y_71, z8, z9, z10, z11, z12, y_67, z14, y_69])), (q 11, aZ G 16 sf_72)]
    refine j_aload_n X dX11_cut_66 rfl 0 rfl ?_
    refine j_bipush (v := 8) X dX11_cut_67 (by decide) ?_
    refine j_bipush (v := 7) X dX11_cut_69 (by decide) ?_
    refine j_callV X dX11_cut_71 (c_X11_rootOf_8_7 l G q t n co cr po tx ty z0 z1 z2 z3 y_65 z5 z6 y_71 z8 z9 z10 z11 z12 y_67 z14 y_69 sf_72 hS_sf_72 (bd_lt319 by_71 (by decide))) gX11_cut_X11_rootOf rfl hy_X11_rootOf_V ⟨Nat.le_of_ble_eq_true rfl, Nat.le_of_ble_eq_true rfl⟩ 0 rfl rfl [0, 1, 2] rfl (by decide) rfl rfl (Nat.le_of_ble_eq_true rfl) ⟨Nat.le_of_ble_eq_true rfl, Nat.le_of_ble_eq_true rfl⟩ ?_
    rintro _ ⟨h_73, v_74, sf_75⟩ ⟨rfl, hh_730, hh_731, hh_732, hS_sf_75⟩
    dsimp only at hh_730 hh_731 hh_732 hS_sf_75
    change J p l e rm_X11_cut s m args below meth c Q G A 9 0 0 74 [(0, .ref (q 0)), (1, .int 1), (2, .long w), (4, .int (-1)), (5, .int 1), (6, .int 0)] [.int (if h_73 * h_73 = (y_71.natAbs : Int) then 1 else 0)] [(q 0, .inr (10, mF t n q co cr po tx ty)), (q 10, aI G 320 (rg [z0, z1, z2, z3, y_65, z5, z6, y_71, h_73, z9, z10, z11, ((y_71.natAbs : Int) - h_73 * h_73), y_67, v_74, y_69])), (q 11, aZ G 16 sf_75)]
    obtain ⟨w_76, ew_76⟩ : ∃ zz9 : Int, zz9 = (y_71.natAbs : Int) - h_73 * h_73 := ⟨_, rfl⟩
    rw [← ew_76] at hS_sf_75 ⊢
    have hN9 : (y_71.natAbs : Int) = w.toInt * w.toInt * z2 := by rw [ey_71, ey_69, ey_67, hq9]; exact Int.natAbs_of_nonneg (Int.mul_nonneg (sq_nn _) hR)
    rw [hN9] at hh_731 hh_732 ⊢
    have bh_73 : bd 260 h_73 := bd_of_le hh_730 (Int.le_trans (sq_ge hh_730) hh_731) (by rw [← hN9]; exact bd_abs (bd_mono by_71 (by decide)))
    refine j_topi (fun x_77 ex_77 => ?_)
    refine j_istore (L' := [(7, .int x_77), (0, .ref (q 0)), (1, .int 1), (2, .long w), (4, .int (-1)), (5, .int 1), (6, .int 0)]) X dX11_cut_74 (by decide) rfl ?_
    refine j_lload_n X dX11_cut_76 rfl 3 rfl ?_
    refine j_lconst (v := 0) X dX11_cut_77 rfl ?_
    refine j_lcmp X dX11_cut_78 ?_
    refine j_if_ne (tgt := 86) X dX11_cut_79 (by decide) (fun c_79 => ?_) (fun c_79 => ?_)
    · skip
      first | simp only [bI_0, Decidable.not_not, sg_mul, sg_e0, sg_l0, sg_g0, sg_le0, sg_ge0, cmp_eq, cmp_lt, cmp_ge, cmp_gt, cmp_le, lT0, lT1] at c_79 | simp only [Int32.le_iff_toInt_le, Int32.lt_iff_toInt_lt, ← Int32.toInt_inj, iT0, iT1, iT2, iT3, iT4, iT5, iT6, iT7, iT8, iT9, iT10, iT11, iT12, iT13, iT14, iT15, iT16, iT19, iT20, iT31, iT32, iT42, iT64, iT200, iT318, iT319, iT1000, iTm1, iTm2] at c_79 | skip
      refine j_lload_n X dX11_cut_86 rfl 3 rfl ?_
      refine j_lconst (v := 0) X dX11_cut_87 rfl ?_
      refine j_lcmp X dX11_cut_88 ?_
      refine j_if_ge (tgt := 99) X dX11_cut_89 (by decide) (fun c_89 => ?_) (fun c_89 => ?_)
      · skip
        first | simp only [bI_0, Decidable.not_not, sg_mul, sg_e0, sg_l0, sg_g0, sg_le0, sg_ge0, cmp_eq, cmp_lt, cmp_ge, cmp_gt, cmp_le, lT0, lT1] at c_89 | simp only [Int32.le_iff_toInt_le, Int32.lt_iff_toInt_lt, ← Int32.toInt_inj, iT0, iT1, iT2, iT3, iT4, iT5, iT6, iT7, iT8, iT9, iT10, iT11, iT12, iT13, iT14, iT15, iT16, iT19, iT20, iT31, iT32, iT42, iT64, iT200, iT318, iT319, iT1000, iTm1, iTm2] at c_89 | skip
        refine j_iload X dX11_cut_99 4 rfl ?_
        refine j_istore (L' := [(8, .int (-1)), (7, .int x_77), (0, .ref (q 0)), (1, .int 1), (2, .long w), (4, .int (-1)), (5, .int 1), (6, .int 0)]) X dX11_cut_101 (by decide) rfl ?_
        refine j_iload X dX11_cut_103 0 rfl ?_
        refine j_if_eq (tgt := 132) X dX11_cut_105 (by decide) (fun c9 => absurd c9 (by decide)) (fun _ => ?_)
        refine j_aload_n X dX11_cut_108 rfl 2 rfl ?_
        refine j_iconst (v := 5) X dX11_cut_109 rfl ?_
        refine j_iconst (v := 4) X dX11_cut_110 rfl ?_
        refine j_bipush (v := 8) X dX11_cut_111 (by decide) ?_
        refine j_iload X dX11_cut_113 0 rfl ?_
        refine j_if_ge (tgt := 122) X dX11_cut_115 (by decide) (fun c9 => absurd c9 (by decide)) (fun _ => ?_)
        refine j_iconst (v := 1) X dX11_cut_118 rfl ?_
        refine j_goto (tgt := 123) X dX11_cut_119 (by decide) ?_
        obtain ⟨y_78, ey_78⟩ : ∃ zz9 : Int, zz9 = y_65 - h_73 := ⟨_, rfl⟩
        have by_78 : bd 261 y_78 := by rw [ey_78]; exact bd_sub (bd_mono by_65 (by decide)) (bd_mono bh_73 (by decide))
        refine j_callV X dX11_cut_123 (n_join l G q t n co cr po tx ty [z0, z1, z2, z3, y_65, z5, z6, y_71, h_73, z9, z10, z11, w_76, y_67, v_74, y_69] sf_75 rfl hS_sf_75 5 5 rfl (by decide) 4 4 rfl (by decide) 8 8 rfl (by decide) 1 (Or.inr rfl) (by decide) (by decide) y_78 ey_78 by_65 bh_73 (by decide) (by decide)) gX11_cut_X11_join rfl hy_X11_join_V ⟨Nat.le_of_ble_eq_true rfl, Nat.le_of_ble_eq_true rfl⟩ 0 rfl rfl [0, 1, 2] rfl (by decide) rfl rfl (Nat.le_of_ble_eq_true rfl) ⟨Nat.le_of_ble_eq_true rfl, Nat.le_of_ble_eq_true rfl⟩ ?_
        rintro _ sf_79 ⟨rfl, hS_sf_79⟩
        change J p l e rm_X11_cut s m args below meth c Q G A 9 0 0 126 [(8, .int (-1)), (7, .int x_77), (0, .ref (q 0)), (1, .int 1), (2, .long w), (4, .int (-1)), (5, .int 1), (6, .int 0)] [] [(q 0, .inr (10, mF t n q co cr po tx ty)), (q 10, aI G 320 (rg [z0, z1, z2, z3, y_65, y_78, z6, y_71, h_73, z9, z10, z11, w_76, y_67, v_74, y_69])), (q 11, aZ G 16 sf_79)]
        refine j_aload_n X dX11_cut_126 rfl 2 rfl ?_
        refine j_iconst (v := 4) X dX11_cut_127 rfl ?_
        refine j_iconst (v := 5) X dX11_cut_128 rfl ?_
        refine j_callV X dX11_cut_129 (h_copy l G q t n co cr po tx ty [z0, z1, z2, z3, y_65, y_78, z6, y_71, h_73, z9, z10, z11, w_76, y_67, v_74, y_69] sf_79 rfl hS_sf_79 4 4 rfl (by decide) 5 5 rfl (by decide) (by decide)) gX11_cut_X11_copy rfl hy_X11_copy_V ⟨Nat.le_of_ble_eq_true rfl, Nat.le_of_ble_eq_true rfl⟩ 0 rfl rfl [0, 1, 2] rfl (by decide) rfl rfl (Nat.le_of_ble_eq_true rfl) ⟨Nat.le_of_ble_eq_true rfl, Nat.le_of_ble_eq_true rfl⟩ ?_
        rintro _ sf_80 ⟨rfl, hS_sf_80⟩
        change J p l e rm_X11_cut s m args below meth c Q G A 9 0 0 132 [(8, .int (-1)), (7, .int x_77), (0, .ref (q 0)), (1, .int 1), (2, .long w), (4, .int (-1)), (5, .int 1), (6, .int 0)] [] [(q 0, .inr (10, mF t n q co cr po tx ty)), (q 10, aI G 320 (rg [z0, z1, z2, z3, y_78, y_78, z6, y_71, h_73, z9, z10, z11, w_76, y_67, v_74, y_69])), (q 11, aZ G 16 sf_80)]
        refine j_iload X dX11_cut_132 0 rfl ?_
        refine j_if_ge (tgt := 164) X dX11_cut_134 (by decide) (fun c9 => absurd c9 (by decide)) (fun _ => ?_)
        refine j_iload X dX11_cut_137 1 rfl ?_
        refine j_if_ne (tgt := 164) X dX11_cut_139 (by decide) (fun c_139 => ?_) (fun c_139 => ?_)
        · skip
          rw [ex_77] at c_139
          have hEx : h_73 * h_73 = w.toInt * w.toInt * z2 := by by_cases q9 : h_73 * h_73 = w.toInt * w.toInt * z2; exact q9; rw [if_neg q9] at c_139; exact absurd rfl c_139
          refine j_aload_n X dX11_cut_164 rfl 2 rfl ?_
          refine j_bipush (v := 13) X dX11_cut_165 (by decide) ?_
          refine j_iload X dX11_cut_167 6 rfl ?_
          refine j_i2l X dX11_cut_169 rfl ?_
          obtain ⟨y_81, ey_81⟩ : ∃ zz9 : Int, zz9 = ((1 : Int32).toInt64).toInt := ⟨_, rfl⟩
          have by_81 : bd 2 y_81 := by rw [ey_81]; exact (bd_mono bd_p1 (by decide))
          refine j_callV X dX11_cut_170 (n_load l G q t n co cr po tx ty [z0, z1, z2, z3, y_78, y_78, z6, y_71, h_73, z9, z10, z11, w_76, y_67, v_74, y_69] sf_80 rfl hS_sf_80 13 13 rfl (by decide) ((1 : Int32).toInt64) y_81 ey_81) gX11_cut_X11_load rfl hy_X11_load_V ⟨Nat.le_of_ble_eq_true rfl, Nat.le_of_ble_eq_true rfl⟩ 0 rfl rfl [0, 1, 2] rfl (by decide) rfl rfl (Nat.le_of_ble_eq_true rfl) ⟨Nat.le_of_ble_eq_true rfl, Nat.le_of_ble_eq_true rfl⟩ ?_
          rintro _ sf_82 ⟨rfl, hS_sf_82⟩
          change J p l e rm_X11_cut s m args below meth c Q G A 9 0 0 173 [(8, .int (-1)), (7, .int x_77), (0, .ref (q 0)), (1, .int 1), (2, .long w), (4, .int (-1)), (5, .int 1), (6, .int 0)] [] [(q 0, .inr (10, mF t n q co cr po tx ty)), (q 10, aI G 320 (rg [z0, z1, z2, z3, y_78, y_78, z6, y_71, h_73, z9, z10, z11, w_76, y_81, v_74, y_69])), (q 11, aZ G 16 sf_82)]
          refine j_aload_n X dX11_cut_173 rfl 2 rfl ?_
          refine j_bipush (v := 9) X dX11_cut_174 (by decide) ?_
          refine j_bipush (v := 13) X dX11_cut_176 (by decide) ?_
          refine j_iconst (v := 3) X dX11_cut_178 rfl ?_
          obtain ⟨y_83, ey_83⟩ : ∃ zz9 : Int, zz9 = y_81 * z3 := ⟨_, rfl⟩
          have by_83 : bd 86 y_83 := by rw [ey_83]; exact bd_mul by_81 b3
          refine j_callV X dX11_cut_179 (n_mul l G q t n co cr po tx ty [z0, z1, z2, z3, y_78, y_78, z6, y_71, h_73, z9, z10, z11, w_76, y_81, v_74, y_69] sf_82 rfl hS_sf_82 9 9 rfl (by decide) 13 13 rfl (by decide) 3 3 rfl (by decide) (by decide) (by decide) y_83 ey_83) gX11_cut_X11_multiply rfl hy_X11_multiply_V ⟨Nat.le_of_ble_eq_true rfl, Nat.le_of_ble_eq_true rfl⟩ 0 rfl rfl [0, 1, 2] rfl (by decide) rfl rfl (Nat.le_of_ble_eq_true rfl) ⟨Nat.le_of_ble_eq_true rfl, Nat.le_of_ble_eq_true rfl⟩ ?_
          rintro _ sf_84 ⟨rfl, hS_sf_84⟩
          change J p l e rm_X11_cut s m args below meth c Q G A 9 0 0 182 [(8, .int (-1)), (7, .int x_77), (0, .ref (q 0)), (1, .int 1), (2, .long w), (4, .int (-1)), (5, .int 1), (6, .int 0)] [] [(q 0, .inr (10, mF t n q co cr po tx ty)), (q 10, aI G 320 (rg [z0, z1, z2, z3, y_78, y_78, z6, y_71, h_73, y_83, z10, z11, w_76, y_81, v_74, y_69])), (q 11, aZ G 16 sf_84)]
          have hM8 : y_83 = z3 := by rw [ey_83, ey_81, i64_p]; exact Int.one_mul _
          have hM9 : (y_83.natAbs : Int) = z3 := by omega
          refine j_aload_n X dX11_cut_182 rfl 2 rfl ?_
          refine j_bipush (v := 6) X dX11_cut_183 (by decide) ?_
          refine j_iconst (v := 4) X dX11_cut_185 rfl ?_
          refine j_bipush (v := 9) X dX11_cut_186 (by decide) ?_
          obtain ⟨y_85, ey_85⟩ : ∃ zz9 : Int, zz9 = y_78 / (y_83.natAbs : Int) := ⟨_, rfl⟩
          obtain ⟨y_86, ey_86⟩ : ∃ zz9 : Int, zz9 = (y_78.natAbs : Int) % (y_83.natAbs : Int) := ⟨_, rfl⟩
          refine j_callV X dX11_cut_188 (n_divide_6_4_9 l G q t n co cr po tx ty z0 z1 z2 z3 y_78 y_78 z6 y_71 h_73 y_83 z10 z11 w_76 y_81 v_74 y_69 sf_84 hS_sf_84 (by omega) by_83 by_78 (by decide) (by decide) y_85 y_86 ey_85 ey_86) gX11_cut_X11_divide rfl hy_X11_divide_V ⟨Nat.le_of_ble_eq_true rfl, Nat.le_of_ble_eq_true rfl⟩ 0 rfl rfl [0, 1, 2] rfl (by decide) rfl rfl (Nat.le_of_ble_eq_true rfl) ⟨Nat.le_of_ble_eq_true rfl, Nat.le_of_ble_eq_true rfl⟩ ?_
          rintro _ ⟨v_87, v_88, sf_89⟩ ⟨rfl, hS_sf_89⟩
          change J p l e rm_X11_cut s m args below meth c Q G A 9 0 0 191 [(8, .int (-1)), (7, .int x_77), (0, .ref (q 0)), (1, .int 1), (2, .long w), (4, .int (-1)), (5, .int 1), (6, .int 0)] [] [(q 0, .inr (10, mF t n q co cr po tx ty)), (q 10, aI G 320 (rg [z0, z1, z2, z3, y_78, y_78, y_85, y_71, h_73, y_83, z10, z11, y_86, y_81, v_87, v_88])), (q 11, aZ G 16 sf_89)]
          exact E.1 191 _ (y_78, y_78, y_85, y_71, h_73, y_83, y_86, y_81, v_87, v_88, sf_89) dX11_cut_191 (⟨rfl, ⟨h_73, ⟨hh_730, hh_731, hh_732⟩, by dsimp only; rw [fl_n (show sg ((-1 : Int32).toInt * w.toInt) = -1 from by rw [iTm1, Int.neg_one_mul]; rw [sg_neg (by omega)]) hEx, ey_85, hM9] <;> (congr 1 <;> omega)⟩, hS_sf_89⟩) hr
        · skip
          rw [ex_77] at c_139
          have hEx : ¬ h_73 * h_73 = w.toInt * w.toInt * z2 := by intro q9; rw [if_pos q9] at c_139; exact absurd c_139 (by decide)
          refine j_aload_n X dX11_cut_142 rfl 2 rfl ?_
          refine j_bipush (v := 15) X dX11_cut_143 (by decide) ?_
          refine j_lconst (v := 1) X dX11_cut_145 rfl ?_
          obtain ⟨y_90, ey_90⟩ : ∃ zz9 : Int, zz9 = 1 := ⟨_, rfl⟩
          have by_90 : bd 1 y_90 := by rw [ey_90]; exact (by decide : Int.natAbs 1 ≤ 2 ^ 1)
          refine j_callV X dX11_cut_146 (n_load l G q t n co cr po tx ty [z0, z1, z2, z3, y_78, y_78, z6, y_71, h_73, z9, z10, z11, w_76, y_67, v_74, y_69] sf_80 rfl hS_sf_80 15 15 rfl (by decide) 1 y_90 (by rw [ey_90]; rfl)) gX11_cut_X11_load rfl hy_X11_load_V ⟨Nat.le_of_ble_eq_true rfl, Nat.le_of_ble_eq_true rfl⟩ 0 rfl rfl [0, 1, 2] rfl (by decide) rfl rfl (Nat.le_of_ble_eq_true rfl) ⟨Nat.le_of_ble_eq_true rfl, Nat.le_of_ble_eq_true rfl⟩ ?_
          rintro _ sf_91 ⟨rfl, hS_sf_91⟩
          change J p l e rm_X11_cut s m args below meth c Q G A 9 0 0 149 [(8, .int (-1)), (7, .int x_77), (0, .ref (q 0)), (1, .int 1), (2, .long w), (4, .int (-1)), (5, .int 1), (6, .int 0)] [] [(q 0, .inr (10, mF t n q co cr po tx ty)), (q 10, aI G 320 (rg [z0, z1, z2, z3, y_78, y_78, z6, y_71, h_73, z9, z10, z11, w_76, y_67, v_74, y_90])), (q 11, aZ G 16 sf_91)]
          refine j_aload_n X dX11_cut_149 rfl 2 rfl ?_
          refine j_iconst (v := 5) X dX11_cut_150 rfl ?_
          refine j_iconst (v := 4) X dX11_cut_151 rfl ?_
          refine j_bipush (v := 15) X dX11_cut_152 (by decide) ?_
          refine j_iconst (v := 1) X dX11_cut_154 rfl ?_
          obtain ⟨y_92, ey_92⟩ : ∃ zz9 : Int, zz9 = y_78 - y_90 := ⟨_, rfl⟩
          have by_92 : bd 262 y_92 := by rw [ey_92]; exact bd_sub (bd_mono by_78 (by decide)) (bd_mono by_90 (by decide))
          refine j_callV X dX11_cut_155 (n_join l G q t n co cr po tx ty [z0, z1, z2, z3, y_78, y_78, z6, y_71, h_73, z9, z10, z11, w_76, y_67, v_74, y_90] sf_91 rfl hS_sf_91 5 5 rfl (by decide) 4 4 rfl (by decide) 15 15 rfl (by decide) 1 (Or.inr rfl) (by decide) (by decide) y_92 ey_92 by_78 by_90 (by decide) (by decide)) gX11_cut_X11_join rfl hy_X11_join_V ⟨Nat.le_of_ble_eq_true rfl, Nat.le_of_ble_eq_true rfl⟩ 0 rfl rfl [0, 1, 2] rfl (by decide) rfl rfl (Nat.le_of_ble_eq_true rfl) ⟨Nat.le_of_ble_eq_true rfl, Nat.le_of_ble_eq_true rfl⟩ ?_
          rintro _ sf_93 ⟨rfl, hS_sf_93⟩
          change J p l e rm_X11_cut s m args below meth c Q G A 9 0 0 158 [(8, .int (-1)), (7, .int x_77), (0, .ref (q 0)), (1, .int 1), (2, .long w), (4, .int (-1)), (5, .int 1), (6, .int 0)] [] [(q 0, .inr (10, mF t n q co cr po tx ty)), (q 10, aI G 320 (rg [z0, z1, z2, z3, y_78, y_92, z6, y_71, h_73, z9, z10, z11, w_76, y_67, v_74, y_90])), (q 11, aZ G 16 sf_93)]
          refine j_aload_n X dX11_cut_158 rfl 2 rfl ?_
          refine j_iconst (v := 4) X dX11_cut_159 rfl ?_
          refine j_iconst (v := 5) X dX11_cut_160 rfl ?_
          refine j_callV X dX11_cut_161 (h_copy l G q t n co cr po tx ty [z0, z1, z2, z3, y_78, y_92, z6, y_71, h_73, z9, z10, z11, w_76, y_67, v_74, y_90] sf_93 rfl hS_sf_93 4 4 rfl (by decide) 5 5 rfl (by decide) (by decide)) gX11_cut_X11_copy rfl hy_X11_copy_V ⟨Nat.le_of_ble_eq_true rfl, Nat.le_of_ble_eq_true rfl⟩ 0 rfl rfl [0, 1, 2] rfl (by decide) rfl rfl (Nat.le_of_ble_eq_true rfl) ⟨Nat.le_of_ble_eq_true rfl, Nat.le_of_ble_eq_true rfl⟩ ?_
          rintro _ sf_94 ⟨rfl, hS_sf_94⟩
          change J p l e rm_X11_cut s m args below meth c Q G A 9 0 0 164 [(8, .int (-1)), (7, .int x_77), (0, .ref (q 0)), (1, .int 1), (2, .long w), (4, .int (-1)), (5, .int 1), (6, .int 0)] [] [(q 0, .inr (10, mF t n q co cr po tx ty)), (q 10, aI G 320 (rg [z0, z1, z2, z3, y_92, y_92, z6, y_71, h_73, z9, z10, z11, w_76, y_67, v_74, y_90])), (q 11, aZ G 16 sf_94)]
          refine j_aload_n X dX11_cut_164 rfl 2 rfl ?_
          refine j_bipush (v := 13) X dX11_cut_165 (by decide) ?_
          refine j_iload X dX11_cut_167 6 rfl ?_
          refine j_i2l X dX11_cut_169 rfl ?_
          obtain ⟨y_95, ey_95⟩ : ∃ zz9 : Int, zz9 = ((1 : Int32).toInt64).toInt := ⟨_, rfl⟩
          have by_95 : bd 2 y_95 := by rw [ey_95]; exact (bd_mono bd_p1 (by decide))
          refine j_callV X dX11_cut_170 (n_load l G q t n co cr po tx ty [z0, z1, z2, z3, y_92, y_92, z6, y_71, h_73, z9, z10, z11, w_76, y_67, v_74, y_90] sf_94 rfl hS_sf_94 13 13 rfl (by decide) ((1 : Int32).toInt64) y_95 ey_95) gX11_cut_X11_load rfl hy_X11_load_V ⟨Nat.le_of_ble_eq_true rfl, Nat.le_of_ble_eq_true rfl⟩ 0 rfl rfl [0, 1, 2] rfl (by decide) rfl rfl (Nat.le_of_ble_eq_true rfl) ⟨Nat.le_of_ble_eq_true rfl, Nat.le_of_ble_eq_true rfl⟩ ?_
          rintro _ sf_96 ⟨rfl, hS_sf_96⟩
          change J p l e rm_X11_cut s m args below meth c Q G A 9 0 0 173 [(8, .int (-1)), (7, .int x_77), (0, .ref (q 0)), (1, .int 1), (2, .long w), (4, .int (-1)), (5, .int 1), (6, .int 0)] [] [(q 0, .inr (10, mF t n q co cr po tx ty)), (q 10, aI G 320 (rg [z0, z1, z2, z3, y_92, y_92, z6, y_71, h_73, z9, z10, z11, w_76, y_95, v_74, y_90])), (q 11, aZ G 16 sf_96)]
          refine j_aload_n X dX11_cut_173 rfl 2 rfl ?_
          refine j_bipush (v := 9) X dX11_cut_174 (by decide) ?_
          refine j_bipush (v := 13) X dX11_cut_176 (by decide) ?_
          refine j_iconst (v := 3) X dX11_cut_178 rfl ?_
          obtain ⟨y_97, ey_97⟩ : ∃ zz9 : Int, zz9 = y_95 * z3 := ⟨_, rfl⟩
          have by_97 : bd 86 y_97 := by rw [ey_97]; exact bd_mul by_95 b3
          refine j_callV X dX11_cut_179 (n_mul l G q t n co cr po tx ty [z0, z1, z2, z3, y_92, y_92, z6, y_71, h_73, z9, z10, z11, w_76, y_95, v_74, y_90] sf_96 rfl hS_sf_96 9 9 rfl (by decide) 13 13 rfl (by decide) 3 3 rfl (by decide) (by decide) (by decide) y_97 ey_97) gX11_cut_X11_multiply rfl hy_X11_multiply_V ⟨Nat.le_of_ble_eq_true rfl, Nat.le_of_ble_eq_true rfl⟩ 0 rfl rfl [0, 1, 2] rfl (by decide) rfl rfl (Nat.le_of_ble_eq_true rfl) ⟨Nat.le_of_ble_eq_true rfl, Nat.le_of_ble_eq_true rfl⟩ ?_
          rintro _ sf_98 ⟨rfl, hS_sf_98⟩
          change J p l e rm_X11_cut s m args below meth c Q G A 9 0 0 182 [(8, .int (-1)), (7, .int x_77), (0, .ref (q 0)), (1, .int 1), (2, .long w), (4, .int (-1)), (5, .int 1), (6, .int 0)] [] [(q 0, .inr (10, mF t n q co cr po tx ty)), (q 10, aI G 320 (rg [z0, z1, z2, z3, y_92, y_92, z6, y_71, h_73, y_97, z10, z11, w_76, y_95, v_74, y_90])), (q 11, aZ G 16 sf_98)]
          have hM8 : y_97 = z3 := by rw [ey_97, ey_95, i64_p]; exact Int.one_mul _
          have hM9 : (y_97.natAbs : Int) = z3 := by omega
          refine j_aload_n X dX11_cut_182 rfl 2 rfl ?_
          refine j_bipush (v := 6) X dX11_cut_183 (by decide) ?_
          refine j_iconst (v := 4) X dX11_cut_185 rfl ?_
          refine j_bipush (v := 9) X dX11_cut_186 (by decide) ?_
          obtain ⟨y_99, ey_99⟩ : ∃ zz9 : Int, zz9 = y_92 / (y_97.natAbs : Int) := ⟨_, rfl⟩
          obtain ⟨y_100, ey_100⟩ : ∃ zz9 : Int, zz9 = (y_92.natAbs : Int) % (y_97.natAbs : Int) := ⟨_, rfl⟩
          refine j_callV X dX11_cut_188 (n_divide_6_4_9 l G q t n co cr po tx ty z0 z1 z2 z3 y_92 y_92 z6 y_71 h_73 y_97 z10 z11 w_76 y_95 v_74 y_90 sf_98 hS_sf_98 (by omega) by_97 by_92 (by decide) (by decide) y_99 y_100 ey_99 ey_100) gX11_cut_X11_divide rfl hy_X11_divide_V ⟨Nat.le_of_ble_eq_true rfl, Nat.le_of_ble_eq_true rfl⟩ 0 rfl rfl [0, 1, 2] rfl (by decide) rfl rfl (Nat.le_of_ble_eq_true rfl) ⟨Nat.le_of_ble_eq_true rfl, Nat.le_of_ble_eq_true rfl⟩ ?_
          rintro _ ⟨v_101, v_102, sf_103⟩ ⟨rfl, hS_sf_103⟩
          change J p l e rm_X11_cut s m args below meth c Q G A 9 0 0 191 [(8, .int (-1)), (7, .int x_77), (0, .ref (q 0)), (1, .int 1), (2, .long w), (4, .int (-1)), (5, .int 1), (6, .int 0)] [] [(q 0, .inr (10, mF t n q co cr po tx ty)), (q 10, aI G 320 (rg [z0, z1, z2, z3, y_92, y_92, y_99, y_71, h_73, y_97, z10, z11, y_100, y_95, v_101, v_102])), (q 11, aZ G 16 sf_103)]
          exact E.1 191 _ (y_92, y_92, y_99, y_71, h_73, y_97, y_100, y_95, v_101, v_102, sf_103) dX11_cut_191 (⟨rfl, ⟨h_73, ⟨hh_730, hh_731, hh_732⟩, by dsimp only; rw [fl_m (show sg ((-1 : Int32).toInt * w.toInt) = -1 from by rw [iTm1, Int.neg_one_mul]; rw [sg_neg (by omega)]) hEx, ey_99, hM9] <;> (congr 1 <;> omega)⟩, hS_sf_103⟩) hr
      · skip
        first | simp only [bI_0, Decidable.not_not, sg_mul, sg_e0, sg_l0, sg_g0, sg_le0, sg_ge0, cmp_eq, cmp_lt, cmp_ge, cmp_gt, cmp_le, lT0, lT1] at c_89 | simp only [Int32.le_iff_toInt_le, Int32.lt_iff_toInt_lt, ← Int32.toInt_inj, iT0, iT1, iT2, iT3, iT4, iT5, iT6, iT7, iT8, iT9, iT10, iT11, iT12, iT13, iT14, iT15, iT16, iT19, iT20, iT31, iT32, iT42, iT64, iT200, iT318, iT319, iT1000, iTm1, iTm2] at c_89 | skip
        refine j_iconst (v := 0) X dX11_cut_92 rfl ?_
        refine j_iload X dX11_cut_93 4 rfl ?_
        refine j_isub X dX11_cut_95 ?_
        rw [show (0 : Int32) - (-1) = 1 from by decide]
        refine j_goto (tgt := 101) X dX11_cut_96 (by decide) ?_
        refine j_istore (L' := [(8, .int 1), (7, .int x_77), (0, .ref (q 0)), (1, .int 1), (2, .long w), (4, .int (-1)), (5, .int 1), (6, .int 0)]) X dX11_cut_101 (by decide) rfl ?_
        refine j_iload X dX11_cut_103 0 rfl ?_
        refine j_if_eq (tgt := 132) X dX11_cut_105 (by decide) (fun c9 => absurd c9 (by decide)) (fun _ => ?_)
        refine j_aload_n X dX11_cut_108 rfl 2 rfl ?_
        refine j_iconst (v := 5) X dX11_cut_109 rfl ?_
        refine j_iconst (v := 4) X dX11_cut_110 rfl ?_
        refine j_bipush (v := 8) X dX11_cut_111 (by decide) ?_
        refine j_iload X dX11_cut_113 0 rfl ?_
        refine j_if_ge (tgt := 122) X dX11_cut_115 (by decide) (fun _ => ?_) (fun c9 => absurd c9 (by decide))
        refine j_iconst (v := 0) X dX11_cut_122 rfl ?_
        obtain ⟨y_104, ey_104⟩ : ∃ zz9 : Int, zz9 = y_65 + h_73 := ⟨_, rfl⟩
        have by_104 : bd 261 y_104 := by rw [ey_104]; exact bd_add (bd_mono by_65 (by decide)) (bd_mono bh_73 (by decide))
        refine j_callV X dX11_cut_123 (n_join l G q t n co cr po tx ty [z0, z1, z2, z3, y_65, z5, z6, y_71, h_73, z9, z10, z11, w_76, y_67, v_74, y_69] sf_75 rfl hS_sf_75 5 5 rfl (by decide) 4 4 rfl (by decide) 8 8 rfl (by decide) 0 (Or.inl rfl) (by decide) (by decide) y_104 ey_104 by_65 bh_73 (by decide) (by decide)) gX11_cut_X11_join rfl hy_X11_join_V ⟨Nat.le_of_ble_eq_true rfl, Nat.le_of_ble_eq_true rfl⟩ 0 rfl rfl [0, 1, 2] rfl (by decide) rfl rfl (Nat.le_of_ble_eq_true rfl) ⟨Nat.le_of_ble_eq_true rfl, Nat.le_of_ble_eq_true rfl⟩ ?_
        rintro _ sf_105 ⟨rfl, hS_sf_105⟩
        change J p l e rm_X11_cut s m args below meth c Q G A 9 0 0 126 [(8, .int 1), (7, .int x_77), (0, .ref (q 0)), (1, .int 1), (2, .long w), (4, .int (-1)), (5, .int 1), (6, .int 0)] [] [(q 0, .inr (10, mF t n q co cr po tx ty)), (q 10, aI G 320 (rg [z0, z1, z2, z3, y_65, y_104, z6, y_71, h_73, z9, z10, z11, w_76, y_67, v_74, y_69])), (q 11, aZ G 16 sf_105)]
        refine j_aload_n X dX11_cut_126 rfl 2 rfl ?_
        refine j_iconst (v := 4) X dX11_cut_127 rfl ?_
        refine j_iconst (v := 5) X dX11_cut_128 rfl ?_
        refine j_callV X dX11_cut_129 (h_copy l G q t n co cr po tx ty [z0, z1, z2, z3, y_65, y_104, z6, y_71, h_73, z9, z10, z11, w_76, y_67, v_74, y_69] sf_105 rfl hS_sf_105 4 4 rfl (by decide) 5 5 rfl (by decide) (by decide)) gX11_cut_X11_copy rfl hy_X11_copy_V ⟨Nat.le_of_ble_eq_true rfl, Nat.le_of_ble_eq_true rfl⟩ 0 rfl rfl [0, 1, 2] rfl (by decide) rfl rfl (Nat.le_of_ble_eq_true rfl) ⟨Nat.le_of_ble_eq_true rfl, Nat.le_of_ble_eq_true rfl⟩ ?_
        rintro _ sf_106 ⟨rfl, hS_sf_106⟩
        change J p l e rm_X11_cut s m args below meth c Q G A 9 0 0 132 [(8, .int 1), (7, .int x_77), (0, .ref (q 0)), (1, .int 1), (2, .long w), (4, .int (-1)), (5, .int 1), (6, .int 0)] [] [(q 0, .inr (10, mF t n q co cr po tx ty)), (q 10, aI G 320 (rg [z0, z1, z2, z3, y_104, y_104, z6, y_71, h_73, z9, z10, z11, w_76, y_67, v_74, y_69])), (q 11, aZ G 16 sf_106)]
        refine j_iload X dX11_cut_132 0 rfl ?_
        refine j_if_ge (tgt := 164) X dX11_cut_134 (by decide) (fun _ => ?_) (fun c9 => absurd c9 (by decide))
        refine j_aload_n X dX11_cut_164 rfl 2 rfl ?_
        refine j_bipush (v := 13) X dX11_cut_165 (by decide) ?_
        refine j_iload X dX11_cut_167 6 rfl ?_
        refine j_i2l X dX11_cut_169 rfl ?_
        obtain ⟨y_107, ey_107⟩ : ∃ zz9 : Int, zz9 = ((1 : Int32).toInt64).toInt := ⟨_, rfl⟩
        have by_107 : bd 2 y_107 := by rw [ey_107]; exact (bd_mono bd_p1 (by decide))
        refine j_callV X dX11_cut_170 (n_load l G q t n co cr po tx ty [z0, z1, z2, z3, y_104, y_104, z6, y_71, h_73, z9, z10, z11, w_76, y_67, v_74, y_69] sf_106 rfl hS_sf_106 13 13 rfl (by decide) ((1 : Int32).toInt64) y_107 ey_107) gX11_cut_X11_load rfl hy_X11_load_V ⟨Nat.le_of_ble_eq_true rfl, Nat.le_of_ble_eq_true rfl⟩ 0 rfl rfl [0, 1, 2] rfl (by decide) rfl rfl (Nat.le_of_ble_eq_true rfl) ⟨Nat.le_of_ble_eq_true rfl, Nat.le_of_ble_eq_true rfl⟩ ?_
        rintro _ sf_108 ⟨rfl, hS_sf_108⟩
        change J p l e rm_X11_cut s m args below meth c Q G A 9 0 0 173 [(8, .int 1), (7, .int x_77), (0, .ref (q 0)), (1, .int 1), (2, .long w), (4, .int (-1)), (5, .int 1), (6, .int 0)] [] [(q 0, .inr (10, mF t n q co cr po tx ty)), (q 10, aI G 320 (rg [z0, z1, z2, z3, y_104, y_104, z6, y_71, h_73, z9, z10, z11, w_76, y_107, v_74, y_69])), (q 11, aZ G 16 sf_108)]
        refine j_aload_n X dX11_cut_173 rfl 2 rfl ?_
        refine j_bipush (v := 9) X dX11_cut_174 (by decide) ?_
        refine j_bipush (v := 13) X dX11_cut_176 (by decide) ?_
        refine j_iconst (v := 3) X dX11_cut_178 rfl ?_
        obtain ⟨y_109, ey_109⟩ : ∃ zz9 : Int, zz9 = y_107 * z3 := ⟨_, rfl⟩
        have by_109 : bd 86 y_109 := by rw [ey_109]; exact bd_mul by_107 b3
        refine j_callV X dX11_cut_179 (n_mul l G q t n co cr po tx ty [z0, z1, z2, z3, y_104, y_104, z6, y_71, h_73, z9, z10, z11, w_76, y_107, v_74, y_69] sf_108 rfl hS_sf_108 9 9 rfl (by decide) 13 13 rfl (by decide) 3 3 rfl (by decide) (by decide) (by decide) y_109 ey_109) gX11_cut_X11_multiply rfl hy_X11_multiply_V ⟨Nat.le_of_ble_eq_true rfl, Nat.le_of_ble_eq_true rfl⟩ 0 rfl rfl [0, 1, 2] rfl (by decide) rfl rfl (Nat.le_of_ble_eq_true rfl) ⟨Nat.le_of_ble_eq_true rfl, Nat.le_of_ble_eq_true rfl⟩ ?_
        rintro _ sf_110 ⟨rfl, hS_sf_110⟩
        change J p l e rm_X11_cut s m args below meth c Q G A 9 0 0 182 [(8, .int 1), (7, .int x_77), (0, .ref (q 0)), (1, .int 1), (2, .long w), (4, .int (-1)), (5, .int 1), (6, .int 0)] [] [(q 0, .inr (10, mF t n q co cr po tx ty)), (q 10, aI G 320 (rg [z0, z1, z2, z3, y_104, y_104, z6, y_71, h_73, y_109, z10, z11, w_76, y_107, v_74, y_69])), (q 11, aZ G 16 sf_110)]
        have hM8 : y_109 = z3 := by rw [ey_109, ey_107, i64_p]; exact Int.one_mul _
        have hM9 : (y_109.natAbs : Int) = z3 := by omega
        refine j_aload_n X dX11_cut_182 rfl 2 rfl ?_
        refine j_bipush (v := 6) X dX11_cut_183 (by decide) ?_
        refine j_iconst (v := 4) X dX11_cut_185 rfl ?_
        refine j_bipush (v := 9) X dX11_cut_186 (by decide) ?_
        obtain ⟨y_111, ey_111⟩ : ∃ zz9 : Int, zz9 = y_104 / (y_109.natAbs : Int) := ⟨_, rfl⟩
        obtain ⟨y_112, ey_112⟩ : ∃ zz9 : Int, zz9 = (y_104.natAbs : Int) % (y_109.natAbs : Int) := ⟨_, rfl⟩
        refine j_callV X dX11_cut_188 (n_divide_6_4_9 l G q t n co cr po tx ty z0 z1 z2 z3 y_104 y_104 z6 y_71 h_73 y_109 z10 z11 w_76 y_107 v_74 y_69 sf_110 hS_sf_110 (by omega) by_109 by_104 (by decide) (by decide) y_111 y_112 ey_111 ey_112) gX11_cut_X11_divide rfl hy_X11_divide_V ⟨Nat.le_of_ble_eq_true rfl, Nat.le_of_ble_eq_true rfl⟩ 0 rfl rfl [0, 1, 2] rfl (by decide) rfl rfl (Nat.le_of_ble_eq_true rfl) ⟨Nat.le_of_ble_eq_true rfl, Nat.le_of_ble_eq_true rfl⟩ ?_
        rintro _ ⟨v_113, v_114, sf_115⟩ ⟨rfl, hS_sf_115⟩
        change J p l e rm_X11_cut s m args below meth c Q G A 9 0 0 191 [(8, .int 1), (7, .int x_77), (0, .ref (q 0)), (1, .int 1), (2, .long w), (4, .int (-1)), (5, .int 1), (6, .int 0)] [] [(q 0, .inr (10, mF t n q co cr po tx ty)), (q 10, aI G 320 (rg [z0, z1, z2, z3, y_104, y_104, y_111, y_71, h_73, y_109, z10, z11, y_112, y_107, v_113, v_114])), (q 11, aZ G 16 sf_115)]
        exact E.1 191 _ (y_104, y_104, y_111, y_71, h_73, y_109, y_112, y_107, v_113, v_114, sf_115) dX11_cut_191 (⟨rfl, ⟨h_73, ⟨hh_730, hh_731, hh_732⟩, by dsimp only; rw [fl_p (show sg ((-1 : Int32).toInt * w.toInt) = 1 from by rw [iTm1, Int.neg_one_mul]; rw [sg_pos (by omega)]), ey_111, hM9] <;> (congr 1 <;> omega)⟩, hS_sf_115⟩) hr
    · skip
      first | simp only [bI_0, Decidable.not_not, sg_mul, sg_e0, sg_l0, sg_g0, sg_le0, sg_ge0, cmp_eq, cmp_lt, cmp_ge, cmp_gt, cmp_le, lT0, lT1] at c_79 | simp only [Int32.le_iff_toInt_le, Int32.lt_iff_toInt_lt, ← Int32.toInt_inj, iT0, iT1, iT2, iT3, iT4, iT5, iT6, iT7, iT8, iT9, iT10, iT11, iT12, iT13, iT14, iT15, iT16, iT19, iT20, iT31, iT32, iT42, iT64, iT200, iT318, iT319, iT1000, iTm1, iTm2] at c_79 | skip
      refine j_iconst (v := 0) X dX11_cut_82 rfl ?_
      refine j_goto (tgt := 101) X dX11_cut_83 (by decide) ?_
      refine j_istore (L' := [(8, .int 0), (7, .int x_77), (0, .ref (q 0)), (1, .int 1), (2, .long w), (4, .int (-1)), (5, .int 1), (6, .int 0)]) X dX11_cut_101 (by decide) rfl ?_
      refine j_iload X dX11_cut_103 0 rfl ?_
      refine j_if_eq (tgt := 132) X dX11_cut_105 (by decide) (fun _ => ?_) (fun c9 => absurd c9 (by decide))
      refine j_iload X dX11_cut_132 0 rfl ?_
      refine j_if_ge (tgt := 164) X dX11_cut_134 (by decide) (fun _ => ?_) (fun c9 => absurd c9 (by decide))
      refine j_aload_n X dX11_cut_164 rfl 2 rfl ?_
      refine j_bipush (v := 13) X dX11_cut_165 (by decide) ?_
      refine j_iload X dX11_cut_167 6 rfl ?_
      refine j_i2l X dX11_cut_169 rfl ?_
      obtain ⟨y_116, ey_116⟩ : ∃ zz9 : Int, zz9 = ((1 : Int32).toInt64).toInt := ⟨_, rfl⟩
      have by_116 : bd 2 y_116 := by rw [ey_116]; exact (bd_mono bd_p1 (by decide))
      refine j_callV X dX11_cut_170 (n_load l G q t n co cr po tx ty [z0, z1, z2, z3, y_65, z5, z6, y_71, h_73, z9, z10, z11, w_76, y_67, v_74, y_69] sf_75 rfl hS_sf_75 13 13 rfl (by decide) ((1 : Int32).toInt64) y_116 ey_116) gX11_cut_X11_load rfl hy_X11_load_V ⟨Nat.le_of_ble_eq_true rfl, Nat.le_of_ble_eq_true rfl⟩ 0 rfl rfl [0, 1, 2] rfl (by decide) rfl rfl (Nat.le_of_ble_eq_true rfl) ⟨Nat.le_of_ble_eq_true rfl, Nat.le_of_ble_eq_true rfl⟩ ?_
      rintro _ sf_117 ⟨rfl, hS_sf_117⟩
      change J p l e rm_X11_cut s m args below meth c Q G A 9 0 0 173 [(8, .int 0), (7, .int x_77), (0, .ref (q 0)), (1, .int 1), (2, .long w), (4, .int (-1)), (5, .int 1), (6, .int 0)] [] [(q 0, .inr (10, mF t n q co cr po tx ty)), (q 10, aI G 320 (rg [z0, z1, z2, z3, y_65, z5, z6, y_71, h_73, z9, z10, z11, w_76, y_116, v_74, y_69])), (q 11, aZ G 16 sf_117)]
      refine j_aload_n X dX11_cut_173 rfl 2 rfl ?_
      refine j_bipush (v := 9) X dX11_cut_174 (by decide) ?_
      refine j_bipush (v := 13) X dX11_cut_176 (by decide) ?_
      refine j_iconst (v := 3) X dX11_cut_178 rfl ?_
      obtain ⟨y_118, ey_118⟩ : ∃ zz9 : Int, zz9 = y_116 * z3 := ⟨_, rfl⟩
      have by_118 : bd 86 y_118 := by rw [ey_118]; exact bd_mul by_116 b3
      refine j_callV X dX11_cut_179 (n_mul l G q t n co cr po tx ty [z0, z1, z2, z3, y_65, z5, z6, y_71, h_73, z9, z10, z11, w_76, y_116, v_74, y_69] sf_117 rfl hS_sf_117 9 9 rfl (by decide) 13 13 rfl (by decide) 3 3 rfl (by decide) (by decide) (by decide) y_118 ey_118) gX11_cut_X11_multiply rfl hy_X11_multiply_V ⟨Nat.le_of_ble_eq_true rfl, Nat.le_of_ble_eq_true rfl⟩ 0 rfl rfl [0, 1, 2] rfl (by decide) rfl rfl (Nat.le_of_ble_eq_true rfl) ⟨Nat.le_of_ble_eq_true rfl, Nat.le_of_ble_eq_true rfl⟩ ?_
      rintro _ sf_119 ⟨rfl, hS_sf_119⟩
      change J p l e rm_X11_cut s m args below meth c Q G A 9 0 0 182 [(8, .int 0), (7, .int x_77), (0, .ref (q 0)), (1, .int 1), (2, .long w), (4, .int (-1)), (5, .int 1), (6, .int 0)] [] [(q 0, .inr (10, mF t n q co cr po tx ty)), (q 10, aI G 320 (rg [z0, z1, z2, z3, y_65, z5, z6, y_71, h_73, y_118, z10, z11, w_76, y_116, v_74, y_69])), (q 11, aZ G 16 sf_119)]
      have hM8 : y_118 = z3 := by rw [ey_118, ey_116, i64_p]; exact Int.one_mul _
      have hM9 : (y_118.natAbs : Int) = z3 := by omega
      refine j_aload_n X dX11_cut_182 rfl 2 rfl ?_
      refine j_bipush (v := 6) X dX11_cut_183 (by decide) ?_
      refine j_iconst (v := 4) X dX11_cut_185 rfl ?_
      refine j_bipush (v := 9) X dX11_cut_186 (by decide) ?_
      obtain ⟨y_120, ey_120⟩ : ∃ zz9 : Int, zz9 = y_65 / (y_118.natAbs : Int) := ⟨_, rfl⟩
      obtain ⟨y_121, ey_121⟩ : ∃ zz9 : Int, zz9 = (y_65.natAbs : Int) % (y_118.natAbs : Int) := ⟨_, rfl⟩
      refine j_callV X dX11_cut_188 (n_divide_6_4_9 l G q t n co cr po tx ty z0 z1 z2 z3 y_65 z5 z6 y_71 h_73 y_118 z10 z11 w_76 y_116 v_74 y_69 sf_119 hS_sf_119 (by omega) by_118 by_65 (by decide) (by decide) y_120 y_121 ey_120 ey_121) gX11_cut_X11_divide rfl hy_X11_divide_V ⟨Nat.le_of_ble_eq_true rfl, Nat.le_of_ble_eq_true rfl⟩ 0 rfl rfl [0, 1, 2] rfl (by decide) rfl rfl (Nat.le_of_ble_eq_true rfl) ⟨Nat.le_of_ble_eq_true rfl, Nat.le_of_ble_eq_true rfl⟩ ?_
      rintro _ ⟨v_122, v_123, sf_124⟩ ⟨rfl, hS_sf_124⟩
      change J p l e rm_X11_cut s m args below meth c Q G A 9 0 0 191 [(8, .int 0), (7, .int x_77), (0, .ref (q 0)), (1, .int 1), (2, .long w), (4, .int (-1)), (5, .int 1), (6, .int 0)] [] [(q 0, .inr (10, mF t n q co cr po tx ty)), (q 10, aI G 320 (rg [z0, z1, z2, z3, y_65, z5, y_120, y_71, h_73, y_118, z10, z11, y_121, y_116, v_122, v_123])), (q 11, aZ G 16 sf_124)]
      exact E.1 191 _ (y_65, z5, y_120, y_71, h_73, y_118, y_121, y_116, v_122, v_123, sf_124) dX11_cut_191 (⟨rfl, ⟨h_73, ⟨hh_730, hh_731, hh_732⟩, by dsimp only; rw [fl_z (show sg ((-1 : Int32).toInt * w.toInt) = 0 from by rw [iTm1, Int.neg_one_mul]; rw [sg_zero (by omega)]), ey_120, hM9] <;> (congr 1 <;> omega)⟩, hS_sf_124⟩) hr
  · skip
    refine j_aload_n X dX11_cut_0 rfl 0 rfl ?_
    refine j_bipush (v := 13) X dX11_cut_1 (by decide) ?_
    refine j_iload X dX11_cut_3 4 rfl ?_
    refine j_i2l X dX11_cut_5 rfl ?_
    obtain ⟨y_125, ey_125⟩ : ∃ zz9 : Int, zz9 = ((1 : Int32).toInt64).toInt := ⟨_, rfl⟩
    have by_125 : bd 2 y_125 := by rw [ey_125]; exact (bd_mono bd_p1 (by decide))
    refine j_callV X dX11_cut_6 (n_load l G q t n co cr po tx ty [z0, z1, z2, z3, z4, z5, z6, z7, z8, z9, z10, z11, z12, z13, z14, z15] sf rfl hS 13 13 rfl (by decide) ((1 : Int32).toInt64) y_125 ey_125) gX11_cut_X11_load rfl hy_X11_load_V ⟨Nat.le_of_ble_eq_true rfl, Nat.le_of_ble_eq_true rfl⟩ 0 rfl rfl [0, 1, 2] rfl (by decide) rfl rfl (Nat.le_of_ble_eq_true rfl) ⟨Nat.le_of_ble_eq_true rfl, Nat.le_of_ble_eq_true rfl⟩ ?_
    rintro _ sf_126 ⟨rfl, hS_sf_126⟩
    change J p l e rm_X11_cut s m args below meth c Q G A 9 0 0 9 [(0, .ref (q 0)), (1, .int 1), (2, .long w), (4, .int 0), (5, .int 1), (6, .int 0)] [] [(q 0, .inr (10, mF t n q co cr po tx ty)), (q 10, aI G 320 (rg [z0, z1, z2, z3, z4, z5, z6, z7, z8, z9, z10, z11, z12, y_125, z14, z15])), (q 11, aZ G 16 sf_126)]
    refine j_aload_n X dX11_cut_9 rfl 0 rfl ?_
    refine j_iconst (v := 4) X dX11_cut_10 rfl ?_
    refine j_bipush (v := 13) X dX11_cut_11 (by decide) ?_
    refine j_iload_n X dX11_cut_13 rfl 1 rfl ?_
    obtain ⟨y_127, ey_127⟩ : ∃ zz9 : Int, zz9 = y_125 * z1 := ⟨_, rfl⟩
    have by_127 : bd 129 y_127 := by rw [ey_127]; exact bd_mul by_125 bu
    refine j_callV X dX11_cut_14 (n_mul l G q t n co cr po tx ty [z0, z1, z2, z3, z4, z5, z6, z7, z8, z9, z10, z11, z12, y_125, z14, z15] sf_126 rfl hS_sf_126 4 4 rfl (by decide) 13 13 rfl (by decide) 1 1 rfl (by decide) (by decide) (by decide) y_127 ey_127) gX11_cut_X11_multiply rfl hy_X11_multiply_V ⟨Nat.le_of_ble_eq_true rfl, Nat.le_of_ble_eq_true rfl⟩ 0 rfl rfl [0, 1, 2] rfl (by decide) rfl rfl (Nat.le_of_ble_eq_true rfl) ⟨Nat.le_of_ble_eq_true rfl, Nat.le_of_ble_eq_true rfl⟩ ?_
    rintro _ sf_128 ⟨rfl, hS_sf_128⟩
    change J p l e rm_X11_cut s m args below meth c Q G A 9 0 0 17 [(0, .ref (q 0)), (1, .int 1), (2, .long w), (4, .int 0), (5, .int 1), (6, .int 0)] [] [(q 0, .inr (10, mF t n q co cr po tx ty)), (q 10, aI G 320 (rg [z0, z1, z2, z3, y_127, z5, z6, z7, z8, z9, z10, z11, z12, y_125, z14, z15])), (q 11, aZ G 16 sf_128)]
    have hA1 : y_127 = z1 := by rw [ey_127, ey_125, i64_p]; exact Int.one_mul _
    refine j_iload X dX11_cut_17 5 rfl ?_
    refine j_if_eq (tgt := 36) X dX11_cut_19 (by decide) (fun _ => ?_) (fun c9 => absurd c9 (by decide))
    refine j_aload_n X dX11_cut_36 rfl 0 rfl ?_
    refine j_bipush (v := 13) X dX11_cut_37 (by decide) ?_
    refine j_iload X dX11_cut_39 4 rfl ?_
    refine j_i2l X dX11_cut_41 rfl ?_
    refine j_lload_n X dX11_cut_42 rfl 2 rfl ?_
    refine j_lmul X dX11_cut_43 ?_
    obtain ⟨y_129, ey_129⟩ : ∃ zz9 : Int, zz9 = (((1 : Int32).toInt64) * w).toInt := ⟨_, rfl⟩
    have by_129 : bd 43 y_129 := by rw [ey_129]; exact bq9
    refine j_callV X dX11_cut_44 (n_load l G q t n co cr po tx ty [z0, z1, z2, z3, y_127, z5, z6, z7, z8, z9, z10, z11, z12, y_125, z14, z15] sf_128 rfl hS_sf_128 13 13 rfl (by decide) (((1 : Int32).toInt64) * w) y_129 ey_129) gX11_cut_X11_load rfl hy_X11_load_V ⟨Nat.le_of_ble_eq_true rfl, Nat.le_of_ble_eq_true rfl⟩ 0 rfl rfl [0, 1, 2] rfl (by decide) rfl rfl (Nat.le_of_ble_eq_true rfl) ⟨Nat.le_of_ble_eq_true rfl, Nat.le_of_ble_eq_true rfl⟩ ?_
    rintro _ sf_130 ⟨rfl, hS_sf_130⟩
    change J p l e rm_X11_cut s m args below meth c Q G A 9 0 0 47 [(0, .ref (q 0)), (1, .int 1), (2, .long w), (4, .int 0), (5, .int 1), (6, .int 0)] [] [(q 0, .inr (10, mF t n q co cr po tx ty)), (q 10, aI G 320 (rg [z0, z1, z2, z3, y_127, z5, z6, z7, z8, z9, z10, z11, z12, y_129, z14, z15])), (q 11, aZ G 16 sf_130)]
    refine j_aload_n X dX11_cut_47 rfl 0 rfl ?_
    refine j_bipush (v := 15) X dX11_cut_48 (by decide) ?_
    refine j_bipush (v := 13) X dX11_cut_50 (by decide) ?_
    refine j_bipush (v := 13) X dX11_cut_52 (by decide) ?_
    obtain ⟨y_131, ey_131⟩ : ∃ zz9 : Int, zz9 = y_129 * y_129 := ⟨_, rfl⟩
    have by_131 : bd 86 y_131 := by rw [ey_131]; exact bd_mul by_129 by_129
    refine j_callV X dX11_cut_54 (n_mul l G q t n co cr po tx ty [z0, z1, z2, z3, y_127, z5, z6, z7, z8, z9, z10, z11, z12, y_129, z14, z15] sf_130 rfl hS_sf_130 15 15 rfl (by decide) 13 13 rfl (by decide) 13 13 rfl (by decide) (by decide) (by decide) y_131 ey_131) gX11_cut_X11_multiply rfl hy_X11_multiply_V ⟨Nat.le_of_ble_eq_true rfl, Nat.le_of_ble_eq_true rfl⟩ 0 rfl rfl [0, 1, 2] rfl (by decide) rfl rfl (Nat.le_of_ble_eq_true rfl) ⟨Nat.le_of_ble_eq_true rfl, Nat.le_of_ble_eq_true rfl⟩ ?_
    rintro _ sf_132 ⟨rfl, hS_sf_132⟩
    change J p l e rm_X11_cut s m args below meth c Q G A 9 0 0 57 [(0, .ref (q 0)), (1, .int 1), (2, .long w), (4, .int 0), (5, .int 1), (6, .int 0)] [] [(q 0, .inr (10, mF t n q co cr po tx ty)), (q 10, aI G 320 (rg [z0, z1, z2, z3, y_127, z5, z6, z7, z8, z9, z10, z11, z12, y_129, z14, y_131])), (q 11, aZ G 16 sf_132)]
    refine j_aload_n X dX11_cut_57 rfl 0 rfl ?_
    refine j_bipush (v := 7) X dX11_cut_58 (by decide) ?_
    refine j_bipush (v := 15) X dX11_cut_60 (by decide) ?_
    refine j_iconst (v := 2) X dX11_cut_62 rfl ?_
    obtain ⟨y_133, ey_133⟩ : ∃ zz9 : Int, zz9 = y_131 * z2 := ⟨_, rfl⟩
    have by_133 : bd 258 y_133 := by rw [ey_133]; exact bd_mul by_131 b2
    refine j_callV X dX11_cut_63 (n_mul l G q t n co cr po tx ty [z0, z1, z2, z3, y_127, z5, z6, z7, z8, z9, z10, z11, z12, y_129, z14, y_131] sf_132 rfl hS_sf_132 7 7 rfl (by decide) 15 15 rfl (by decide) 2 2 rfl (by decide) (by decide) (by decide) y_133 ey_133) gX11_cut_X11_multiply rfl hy_X11_multiply_V ⟨Nat.le_of_ble_eq_true rfl, Nat.le_of_ble_eq_true rfl⟩ 0 rfl rfl [0, 1, 2] rfl (by decide) rfl rfl (Nat.le_of_ble_eq_true rfl) ⟨Nat.le_of_ble_eq_true rfl, Nat.le_of_ble_eq_true rfl⟩ ?_
    rintro _ sf_134 ⟨rfl, hS_sf_134⟩
    change J p l e rm_X11_cut s m args below meth c Q G A 9 0 0 66 [(0, .ref (q 0)), (1, .int 1), (2, .long w), (4, .int 0), (5, .int 1), (6, .int 0)] [] [(q 0, .inr (10, mF t n q co cr po tx ty)), (q 10, aI G 320 (rg [z0, z1, z2, z3, y_127, z5, z6, y_133, z8, z9, z10, z11, z12, y_129, z14, y_131])), (q 11, aZ G 16 sf_134)]
    refine j_aload_n X dX11_cut_66 rfl 0 rfl ?_
    refine j_bipush (v := 8) X dX11_cut_67 (by decide) ?_
    refine j_bipush (v := 7) X dX11_cut_69 (by decide) ?_
    refine j_callV X dX11_cut_71 (c_X11_rootOf_8_7 l G q t n co cr po tx ty z0 z1 z2 z3 y_127 z5 z6 y_133 z8 z9 z10 z11 z12 y_129 z14 y_131 sf_134 hS_sf_134 (bd_lt319 by_133 (by decide))) gX11_cut_X11_rootOf rfl hy_X11_rootOf_V ⟨Nat.le_of_ble_eq_true rfl, Nat.le_of_ble_eq_true rfl⟩ 0 rfl rfl [0, 1, 2] rfl (by decide) rfl rfl (Nat.le_of_ble_eq_true rfl) ⟨Nat.le_of_ble_eq_true rfl, Nat.le_of_ble_eq_true rfl⟩ ?_
    rintro _ ⟨h_135, v_136, sf_137⟩ ⟨rfl, hh_1350, hh_1351, hh_1352, hS_sf_137⟩
    dsimp only at hh_1350 hh_1351 hh_1352 hS_sf_137
    change J p l e rm_X11_cut s m args below meth c Q G A 9 0 0 74 [(0, .ref (q 0)), (1, .int 1), (2, .long w), (4, .int 0), (5, .int 1), (6, .int 0)] [.int (if h_135 * h_135 = (y_133.natAbs : Int) then 1 else 0)] [(q 0, .inr (10, mF t n q co cr po tx ty)), (q 10, aI G 320 (rg [z0, z1, z2, z3, y_127, z5, z6, y_133, h_135, z9, z10, z11, ((y_133.natAbs : Int) - h_135 * h_135), y_129, v_136, y_131])), (q 11, aZ G 16 sf_137)]
    obtain ⟨w_138, ew_138⟩ : ∃ zz9 : Int, zz9 = (y_133.natAbs : Int) - h_135 * h_135 := ⟨_, rfl⟩
    rw [← ew_138] at hS_sf_137 ⊢
    have hN9 : (y_133.natAbs : Int) = w.toInt * w.toInt * z2 := by rw [ey_133, ey_131, ey_129, hq9]; exact Int.natAbs_of_nonneg (Int.mul_nonneg (sq_nn _) hR)
    rw [hN9] at hh_1351 hh_1352 ⊢
    have bh_135 : bd 260 h_135 := bd_of_le hh_1350 (Int.le_trans (sq_ge hh_1350) hh_1351) (by rw [← hN9]; exact bd_abs (bd_mono by_133 (by decide)))
    refine j_topi (fun x_139 ex_139 => ?_)
    refine j_istore (L' := [(7, .int x_139), (0, .ref (q 0)), (1, .int 1), (2, .long w), (4, .int 0), (5, .int 1), (6, .int 0)]) X dX11_cut_74 (by decide) rfl ?_
    refine j_lload_n X dX11_cut_76 rfl 3 rfl ?_
    refine j_lconst (v := 0) X dX11_cut_77 rfl ?_
    refine j_lcmp X dX11_cut_78 ?_
    refine j_if_ne (tgt := 86) X dX11_cut_79 (by decide) (fun c_79 => ?_) (fun c_79 => ?_)
    · skip
      first | simp only [bI_0, Decidable.not_not, sg_mul, sg_e0, sg_l0, sg_g0, sg_le0, sg_ge0, cmp_eq, cmp_lt, cmp_ge, cmp_gt, cmp_le, lT0, lT1] at c_79 | simp only [Int32.le_iff_toInt_le, Int32.lt_iff_toInt_lt, ← Int32.toInt_inj, iT0, iT1, iT2, iT3, iT4, iT5, iT6, iT7, iT8, iT9, iT10, iT11, iT12, iT13, iT14, iT15, iT16, iT19, iT20, iT31, iT32, iT42, iT64, iT200, iT318, iT319, iT1000, iTm1, iTm2] at c_79 | skip
      exact absurd hw0 c_79
    · skip
      first | simp only [bI_0, Decidable.not_not, sg_mul, sg_e0, sg_l0, sg_g0, sg_le0, sg_ge0, cmp_eq, cmp_lt, cmp_ge, cmp_gt, cmp_le, lT0, lT1] at c_79 | simp only [Int32.le_iff_toInt_le, Int32.lt_iff_toInt_lt, ← Int32.toInt_inj, iT0, iT1, iT2, iT3, iT4, iT5, iT6, iT7, iT8, iT9, iT10, iT11, iT12, iT13, iT14, iT15, iT16, iT19, iT20, iT31, iT32, iT42, iT64, iT200, iT318, iT319, iT1000, iTm1, iTm2] at c_79 | skip
      refine j_iconst (v := 0) X dX11_cut_82 rfl ?_
      refine j_goto (tgt := 101) X dX11_cut_83 (by decide) ?_
      refine j_istore (L' := [(8, .int 0), (7, .int x_139), (0, .ref (q 0)), (1, .int 1), (2, .long w), (4, .int 0), (5, .int 1), (6, .int 0)]) X dX11_cut_101 (by decide) rfl ?_
      refine j_iload X dX11_cut_103 0 rfl ?_
      refine j_if_eq (tgt := 132) X dX11_cut_105 (by decide) (fun _ => ?_) (fun c9 => absurd c9 (by decide))
      refine j_iload X dX11_cut_132 0 rfl ?_
      refine j_if_ge (tgt := 164) X dX11_cut_134 (by decide) (fun _ => ?_) (fun c9 => absurd c9 (by decide))
      refine j_aload_n X dX11_cut_164 rfl 2 rfl ?_
      refine j_bipush (v := 13) X dX11_cut_165 (by decide) ?_
      refine j_iload X dX11_cut_167 6 rfl ?_
      refine j_i2l X dX11_cut_169 rfl ?_
      obtain ⟨y_140, ey_140⟩ : ∃ zz9 : Int, zz9 = ((1 : Int32).toInt64).toInt := ⟨_, rfl⟩
      have by_140 : bd 2 y_140 := by rw [ey_140]; exact (bd_mono bd_p1 (by decide))
      refine j_callV X dX11_cut_170 (n_load l G q t n co cr po tx ty [z0, z1, z2, z3, y_127, z5, z6, y_133, h_135, z9, z10, z11, w_138, y_129, v_136, y_131] sf_137 rfl hS_sf_137 13 13 rfl (by decide) ((1 : Int32).toInt64) y_140 ey_140) gX11_cut_X11_load rfl hy_X11_load_V ⟨Nat.le_of_ble_eq_true rfl, Nat.le_of_ble_eq_true rfl⟩ 0 rfl rfl [0, 1, 2] rfl (by decide) rfl rfl (Nat.le_of_ble_eq_true rfl) ⟨Nat.le_of_ble_eq_true rfl, Nat.le_of_ble_eq_true rfl⟩ ?_
      rintro _ sf_141 ⟨rfl, hS_sf_141⟩
      change J p l e rm_X11_cut s m args below meth c Q G A 9 0 0 173 [(8, .int 0), (7, .int x_139), (0, .ref (q 0)), (1, .int 1), (2, .long w), (4, .int 0), (5, .int 1), (6, .int 0)] [] [(q 0, .inr (10, mF t n q co cr po tx ty)), (q 10, aI G 320 (rg [z0, z1, z2, z3, y_127, z5, z6, y_133, h_135, z9, z10, z11, w_138, y_140, v_136, y_131])), (q 11, aZ G 16 sf_141)]
      refine j_aload_n X dX11_cut_173 rfl 2 rfl ?_
      refine j_bipush (v := 9) X dX11_cut_174 (by decide) ?_
      refine j_bipush (v := 13) X dX11_cut_176 (by decide) ?_
      refine j_iconst (v := 3) X dX11_cut_178 rfl ?_
      obtain ⟨y_142, ey_142⟩ : ∃ zz9 : Int, zz9 = y_140 * z3 := ⟨_, rfl⟩
      have by_142 : bd 86 y_142 := by rw [ey_142]; exact bd_mul by_140 b3
      refine j_callV X dX11_cut_179 (n_mul l G q t n co cr po tx ty [z0, z1, z2, z3, y_127, z5, z6, y_133, h_135, z9, z10, z11, w_138, y_140, v_136, y_131] sf_141 rfl hS_sf_141 9 9 rfl (by decide) 13 13 rfl (by decide) 3 3 rfl (by decide) (by decide) (by decide) y_142 ey_142) gX11_cut_X11_multiply rfl hy_X11_multiply_V ⟨Nat.le_of_ble_eq_true rfl, Nat.le_of_ble_eq_true rfl⟩ 0 rfl rfl [0, 1, 2] rfl (by decide) rfl rfl (Nat.le_of_ble_eq_true rfl) ⟨Nat.le_of_ble_eq_true rfl, Nat.le_of_ble_eq_true rfl⟩ ?_
      rintro _ sf_143 ⟨rfl, hS_sf_143⟩
      change J p l e rm_X11_cut s m args below meth c Q G A 9 0 0 182 [(8, .int 0), (7, .int x_139), (0, .ref (q 0)), (1, .int 1), (2, .long w), (4, .int 0), (5, .int 1), (6, .int 0)] [] [(q 0, .inr (10, mF t n q co cr po tx ty)), (q 10, aI G 320 (rg [z0, z1, z2, z3, y_127, z5, z6, y_133, h_135, y_142, z10, z11, w_138, y_140, v_136, y_131])), (q 11, aZ G 16 sf_143)]
      have hM8 : y_142 = z3 := by rw [ey_142, ey_140, i64_p]; exact Int.one_mul _
      have hM9 : (y_142.natAbs : Int) = z3 := by omega
      refine j_aload_n X dX11_cut_182 rfl 2 rfl ?_
      refine j_bipush (v := 6) X dX11_cut_183 (by decide) ?_
      refine j_iconst (v := 4) X dX11_cut_185 rfl ?_
      refine j_bipush (v := 9) X dX11_cut_186 (by decide) ?_
      obtain ⟨y_144, ey_144⟩ : ∃ zz9 : Int, zz9 = y_127 / (y_142.natAbs : Int) := ⟨_, rfl⟩
      obtain ⟨y_145, ey_145⟩ : ∃ zz9 : Int, zz9 = (y_127.natAbs : Int) % (y_142.natAbs : Int) := ⟨_, rfl⟩
      refine j_callV X dX11_cut_188 (n_divide_6_4_9 l G q t n co cr po tx ty z0 z1 z2 z3 y_127 z5 z6 y_133 h_135 y_142 z10 z11 w_138 y_140 v_136 y_131 sf_143 hS_sf_143 (by omega) by_142 by_127 (by decide) (by decide) y_144 y_145 ey_144 ey_145) gX11_cut_X11_divide rfl hy_X11_divide_V ⟨Nat.le_of_ble_eq_true rfl, Nat.le_of_ble_eq_true rfl⟩ 0 rfl rfl [0, 1, 2] rfl (by decide) rfl rfl (Nat.le_of_ble_eq_true rfl) ⟨Nat.le_of_ble_eq_true rfl, Nat.le_of_ble_eq_true rfl⟩ ?_
      rintro _ ⟨v_146, v_147, sf_148⟩ ⟨rfl, hS_sf_148⟩
      change J p l e rm_X11_cut s m args below meth c Q G A 9 0 0 191 [(8, .int 0), (7, .int x_139), (0, .ref (q 0)), (1, .int 1), (2, .long w), (4, .int 0), (5, .int 1), (6, .int 0)] [] [(q 0, .inr (10, mF t n q co cr po tx ty)), (q 10, aI G 320 (rg [z0, z1, z2, z3, y_127, z5, y_144, y_133, h_135, y_142, z10, z11, y_145, y_140, v_146, v_147])), (q 11, aZ G 16 sf_148)]
      exact E.1 191 _ (y_127, z5, y_144, y_133, h_135, y_142, y_145, y_140, v_146, v_147, sf_148) dX11_cut_191 (⟨rfl, ⟨h_135, ⟨hh_1350, hh_1351, hh_1352⟩, by dsimp only; rw [fl_z (show sg ((0 : Int32).toInt * w.toInt) = 0 from by rw [iT0, Int.zero_mul]; rw [sg_zero (by omega)]), ey_144, hM9] <;> (congr 1 <;> omega)⟩, hS_sf_148⟩) hr

set_option maxHeartbeats 4000000 in
set_option maxRecDepth 100000 in
theorem c_X11_cut_10_1 (l : Launch) (G : jG) (q : Nat → Nat) (t n co cr po : Int32) (tx ty : Int64) (z0 z1 z2 z3 z4 z5 z6 z7 z8 z9 z10 z11 z12 z13 z14 z15 : Int) (sf : Nat → Int32) (hS : okS [z0, z1, z2, z3, z4, z5, z6, z7, z8, z9, z10, z11, z12, z13, z14, z15] sf) (w : Int64) (sx : Int32) (bu : bd 127 z10) (b2 : bd 172 z2) (hR : 0 ≤ z2) (b3 : bd 84 z3) (h3 : 0 < z3) (bw1 : bd 41 w.toInt) (hs : sx = 1 ∨ sx = -1 ∨ (sx = 0 ∧ w.toInt = 0)) : Ct l yX11_cut wsX11_cut rm_X11_cut G [.ref (q 0), .int 10, .long w, .int sx, .int 1, .int 0] [(q 0, .inr (10, mF t n q co cr po tx ty)), (q 10, aI G 320 (rg [z0, z1, z2, z3, z4, z5, z6, z7, z8, z9, z10, z11, z12, z13, z14, z15])), (q 11, aZ G 16 sf)] (S := Int × Int × Int × Int × Int × Int × Int × Int × Int × Int × (Nat → Int32)) (fun r u => r = none ∧ (∃ E, rtR (w.toInt * w.toInt * z2) E ∧ u.2.2.1 = flA (z10) (sg (sx.toInt * w.toInt)) (w.toInt * w.toInt * z2) E (z3)) ∧ okS [z0, z1, z2, z3, u.1, u.2.1, u.2.2.1, u.2.2.2.1, u.2.2.2.2.1, u.2.2.2.2.2.1, z10, z11, u.2.2.2.2.2.2.1, u.2.2.2.2.2.2.2.1, u.2.2.2.2.2.2.2.2.1, u.2.2.2.2.2.2.2.2.2.1] u.2.2.2.2.2.2.2.2.2.2) (fun u => [(q 0, .inr (10, mF t n q co cr po tx ty)), (q 10, aI G 320 (rg [z0, z1, z2, z3, u.1, u.2.1, u.2.2.1, u.2.2.2.1, u.2.2.2.2.1, u.2.2.2.2.2.1, z10, z11, u.2.2.2.2.2.2.1, u.2.2.2.2.2.2.2.1, u.2.2.2.2.2.2.2.2.1, u.2.2.2.2.2.2.2.2.2.1])), (q 11, aZ G 16 u.2.2.2.2.2.2.2.2.2.2)]) (fun _ => []) := by
  refine c_intro (cc := cX11_cut) (maxL := 9) (ret := none) (by decide) rfl (Nat.le_of_ble_eq_true rfl) (fun _ => by simp only [List.map_cons, List.map_nil]) ?_
  intro p e s m args below meth c Q A X hr hin E
  change J p l e rm_X11_cut s m args below meth c Q G A 9 0 0 0 [(0, .ref (q 0)), (1, .int 10), (2, .long w), (4, .int sx), (5, .int 1), (6, .int 0)] [] [(q 0, .inr (10, mF t n q co cr po tx ty)), (q 10, aI G 320 (rg [z0, z1, z2, z3, z4, z5, z6, z7, z8, z9, z10, z11, z12, z13, z14, z15])), (q 11, aZ G 16 sf)]
  have hq9 : (((1 : Int32).toInt64) * w).toInt = w.toInt := sm_p w
  have bq9 : bd 43 (((1 : Int32).toInt64) * w).toInt := by rw [hq9]; exact bd_mono bw1 (by decide)
  rcases hs with rfl | rfl | ⟨rfl, hw0⟩
  · skip
    refine j_aload_n X dX11_cut_0 rfl 0 rfl ?_
    refine j_bipush (v := 13) X dX11_cut_1 (by decide) ?_
    refine j_iload X dX11_cut_3 4 rfl ?_
    refine j_i2l X dX11_cut_5 rfl ?_
    obtain ⟨y_1, ey_1⟩ : ∃ zz9 : Int, zz9 = ((1 : Int32).toInt64).toInt := ⟨_, rfl⟩
    have by_1 : bd 2 y_1 := by rw [ey_1]; exact (bd_mono bd_p1 (by decide))
    refine j_callV X dX11_cut_6 (n_load l G q t n co cr po tx ty [z0, z1, z2, z3, z4, z5, z6, z7, z8, z9, z10, z11, z12, z13, z14, z15] sf rfl hS 13 13 rfl (by decide) ((1 : Int32).toInt64) y_1 ey_1) gX11_cut_X11_load rfl hy_X11_load_V ⟨Nat.le_of_ble_eq_true rfl, Nat.le_of_ble_eq_true rfl⟩ 0 rfl rfl [0, 1, 2] rfl (by decide) rfl rfl (Nat.le_of_ble_eq_true rfl) ⟨Nat.le_of_ble_eq_true rfl, Nat.le_of_ble_eq_true rfl⟩ ?_
    rintro _ sf_2 ⟨rfl, hS_sf_2⟩
    change J p l e rm_X11_cut s m args below meth c Q G A 9 0 0 9 [(0, .ref (q 0)), (1, .int 10), (2, .long w), (4, .int 1), (5, .int 1), (6, .int 0)] [] [(q 0, .inr (10, mF t n q co cr po tx ty)), (q 10, aI G 320 (rg [z0, z1, z2, z3, z4, z5, z6, z7, z8, z9, z10, z11, z12, y_1, z14, z15])), (q 11, aZ G 16 sf_2)]
    refine j_aload_n X dX11_cut_9 rfl 0 rfl ?_
    refine j_iconst (v := 4) X dX11_cut_10 rfl ?_
    refine j_bipush (v := 13) X dX11_cut_11 (by decide) ?_
    refine j_iload_n X dX11_cut_13 rfl 1 rfl ?_
    obtain ⟨y_3, ey_3⟩ : ∃ zz9 : Int, zz9 = y_1 * z10 := ⟨_, rfl⟩
    have by_3 : bd 129 y_3 := by rw [ey_3]; exact bd_mul by_1 bu
    refine j_callV X dX11_cut_14 (n_mul l G q t n co cr po tx ty [z0, z1, z2, z3, z4, z5, z6, z7, z8, z9, z10, z11, z12, y_1, z14, z15] sf_2 rfl hS_sf_2 4 4 rfl (by decide) 13 13 rfl (by decide) 10 10 rfl (by decide) (by decide) (by decide) y_3 ey_3) gX11_cut_X11_multiply rfl hy_X11_multiply_V ⟨Nat.le_of_ble_eq_true rfl, Nat.le_of_ble_eq_true rfl⟩ 0 rfl rfl [0, 1, 2] rfl (by decide) rfl rfl (Nat.le_of_ble_eq_true rfl) ⟨Nat.le_of_ble_eq_true rfl, Nat.le_of_ble_eq_true rfl⟩ ?_
    rintro _ sf_4 ⟨rfl, hS_sf_4⟩
    change J p l e rm_X11_cut s m args below meth c Q G A 9 0 0 17 [(0, .ref (q 0)), (1, .int 10), (2, .long w), (4, .int 1), (5, .int 1), (6, .int 0)] [] [(q 0, .inr (10, mF t n q co cr po tx ty)), (q 10, aI G 320 (rg [z0, z1, z2, z3, y_3, z5, z6, z7, z8, z9, z10, z11, z12, y_1, z14, z15])), (q 11, aZ G 16 sf_4)]
    have hA1 : y_3 = z10 := by rw [ey_3, ey_1, i64_p]; exact Int.one_mul _
    refine j_iload X dX11_cut_17 5 rfl ?_
    refine j_if_eq (tgt := 36) X dX11_cut_19 (by decide) (fun _ => ?_) (fun c9 => absurd c9 (by decide))
    refine j_aload_n X dX11_cut_36 rfl 0 rfl ?_
    refine j_bipush (v := 13) X dX11_cut_37 (by decide) ?_
    refine j_iload X dX11_cut_39 4 rfl ?_
    refine j_i2l X dX11_cut_41 rfl ?_
    refine j_lload_n X dX11_cut_42 rfl 2 rfl ?_
    refine j_lmul X dX11_cut_43 ?_
    obtain ⟨y_5, ey_5⟩ : ∃ zz9 : Int, zz9 = (((1 : Int32).toInt64) * w).toInt := ⟨_, rfl⟩
    have by_5 : bd 43 y_5 := by rw [ey_5]; exact bq9
    refine j_callV X dX11_cut_44 (n_load l G q t n co cr po tx ty [z0, z1, z2, z3, y_3, z5, z6, z7, z8, z9, z10, z11, z12, y_1, z14, z15] sf_4 rfl hS_sf_4 13 13 rfl (by decide) (((1 : Int32).toInt64) * w) y_5 ey_5) gX11_cut_X11_load rfl hy_X11_load_V ⟨Nat.le_of_ble_eq_true rfl, Nat.le_of_ble_eq_true rfl⟩ 0 rfl rfl [0, 1, 2] rfl (by decide) rfl rfl (Nat.le_of_ble_eq_true rfl) ⟨Nat.le_of_ble_eq_true rfl, Nat.le_of_ble_eq_true rfl⟩ ?_
    rintro _ sf_6 ⟨rfl, hS_sf_6⟩
    change J p l e rm_X11_cut s m args below meth c Q G A 9 0 0 47 [(0, .ref (q 0)), (1, .int 10), (2, .long w), (4, .int 1), (5, .int 1), (6, .int 0)] [] [(q 0, .inr (10, mF t n q co cr po tx ty)), (q 10, aI G 320 (rg [z0, z1, z2, z3, y_3, z5, z6, z7, z8, z9, z10, z11, z12, y_5, z14, z15])), (q 11, aZ G 16 sf_6)]
    refine j_aload_n X dX11_cut_47 rfl 0 rfl ?_
    refine j_bipush (v := 15) X dX11_cut_48 (by decide) ?_
    refine j_bipush (v := 13) X dX11_cut_50 (by decide) ?_
    refine j_bipush (v := 13) X dX11_cut_52 (by decide) ?_
    obtain ⟨y_7, ey_7⟩ : ∃ zz9 : Int, zz9 = y_5 * y_5 := ⟨_, rfl⟩
    have by_7 : bd 86 y_7 := by rw [ey_7]; exact bd_mul by_5 by_5
    refine j_callV X dX11_cut_54 (n_mul l G q t n co cr po tx ty [z0, z1, z2, z3, y_3, z5, z6, z7, z8, z9, z10, z11, z12, y_5, z14, z15] sf_6 rfl hS_sf_6 15 15 rfl (by decide) 13 13 rfl (by decide) 13 13 rfl (by decide) (by decide) (by decide) y_7 ey_7) gX11_cut_X11_multiply rfl hy_X11_multiply_V ⟨Nat.le_of_ble_eq_true rfl, Nat.le_of_ble_eq_true rfl⟩ 0 rfl rfl [0, 1, 2] rfl (by decide) rfl rfl (Nat.le_of_ble_eq_true rfl) ⟨Nat.le_of_ble_eq_true rfl, Nat.le_of_ble_eq_true rfl⟩ ?_
    rintro _ sf_8 ⟨rfl, hS_sf_8⟩
    change J p l e rm_X11_cut s m args below meth c Q G A 9 0 0 57 [(0, .ref (q 0)), (1, .int 10), (2, .long w), (4, .int 1), (5, .int 1), (6, .int 0)] [] [(q 0, .inr (10, mF t n q co cr po tx ty)), (q 10, aI G 320 (rg [z0, z1, z2, z3, y_3, z5, z6, z7, z8, z9, z10, z11, z12, y_5, z14, y_7])), (q 11, aZ G 16 sf_8)]
    refine j_aload_n X dX11_cut_57 rfl 0 rfl ?_
    refine j_bipush (v := 7) X dX11_cut_58 (by decide) ?_
    refine j_bipush (v := 15) X dX11_cut_60 (by decide) ?_
    refine j_iconst (v := 2) X dX11_cut_62 rfl ?_
    obtain ⟨y_9, ey_9⟩ : ∃ zz9 : Int, zz9 = y_7 * z2 := ⟨_, rfl⟩
    have by_9 : bd 258 y_9 := by rw [ey_9]; exact bd_mul by_7 b2
    refine j_callV X dX11_cut_63 (n_mul l G q t n co cr po tx ty [z0, z1, z2, z3, y_3, z5, z6, z7, z8, z9, z10, z11, z12, y_5, z14, y_7] sf_8 rfl hS_sf_8 7 7 rfl (by decide) 15 15 rfl (by decide) 2 2 rfl (by decide) (by decide) (by decide) y_9 ey_9) gX11_cut_X11_multiply rfl hy_X11_multiply_V ⟨Nat.le_of_ble_eq_true rfl, Nat.le_of_ble_eq_true rfl⟩ 0 rfl rfl [0, 1, 2] rfl (by decide) rfl rfl (Nat.le_of_ble_eq_true rfl) ⟨Nat.le_of_ble_eq_true rfl, Nat.le_of_ble_eq_true rfl⟩ ?_
    rintro _ sf_10 ⟨rfl, hS_sf_10⟩
    change J p l e rm_X11_cut s m args below meth c Q G A 9 0 0 66 [(0, .ref (q 0)), (1, .int 10), (2, .long w), (4, .int 1), (5, .int 1), (6, .int 0)] [] [(q 0, .inr (10, mF t n q co cr po tx ty)), (q 10, aI G 320 (rg [z0, z1, z2, z3, y_3, z5, z6, y_9, z8, z9, z10, z11, z12, y_5, z14, y_7])), (q 11, aZ G 16 sf_10)]
    refine j_aload_n X dX11_cut_66 rfl 0 rfl ?_
    refine j_bipush (v := 8) X dX11_cut_67 (by decide) ?_
    refine j_bipush (v := 7) X dX11_cut_69 (by decide) ?_
    refine j_callV X dX11_cut_71 (c_X11_rootOf_8_7 l G q t n co cr po tx ty z0 z1 z2 z3 y_3 z5 z6 y_9 z8 z9 z10 z11 z12 y_5 z14 y_7 sf_10 hS_sf_10 (bd_lt319 by_9 (by decide))) gX11_cut_X11_rootOf rfl hy_X11_rootOf_V ⟨Nat.le_of_ble_eq_true rfl, Nat.le_of_ble_eq_true rfl⟩ 0 rfl rfl [0, 1, 2] rfl (by decide) rfl rfl (Nat.le_of_ble_eq_true rfl) ⟨Nat.le_of_ble_eq_true rfl, Nat.le_of_ble_eq_true rfl⟩ ?_
    rintro _ ⟨h_11, v_12, sf_13⟩ ⟨rfl, hh_110, hh_111, hh_112, hS_sf_13⟩
    dsimp only at hh_110 hh_111 hh_112 hS_sf_13
    change J p l e rm_X11_cut s m args below meth c Q G A 9 0 0 74 [(0, .ref (q 0)), (1, .int 10), (2, .long w), (4, .int 1), (5, .int 1), (6, .int 0)] [.int (if h_11 * h_11 = (y_9.natAbs : Int) then 1 else 0)] [(q 0, .inr (10, mF t n q co cr po tx ty)), (q 10, aI G 320 (rg [z0, z1, z2, z3, y_3, z5, z6, y_9, h_11, z9, z10, z11, ((y_9.natAbs : Int) - h_11 * h_11), y_5, v_12, y_7])), (q 11, aZ G 16 sf_13)]
    obtain ⟨w_14, ew_14⟩ : ∃ zz9 : Int, zz9 = (y_9.natAbs : Int) - h_11 * h_11 := ⟨_, rfl⟩
    rw [← ew_14] at hS_sf_13 ⊢
    have hN9 : (y_9.natAbs : Int) = w.toInt * w.toInt * z2 := by rw [ey_9, ey_7, ey_5, hq9]; exact Int.natAbs_of_nonneg (Int.mul_nonneg (sq_nn _) hR)
    rw [hN9] at hh_111 hh_112 ⊢
    have bh_11 : bd 260 h_11 := bd_of_le hh_110 (Int.le_trans (sq_ge hh_110) hh_111) (by rw [← hN9]; exact bd_abs (bd_mono by_9 (by decide)))
    refine j_topi (fun x_15 ex_15 => ?_)
    refine j_istore (L' := [(7, .int x_15), (0, .ref (q 0)), (1, .int 10), (2, .long w), (4, .int 1), (5, .int 1), (6, .int 0)]) X dX11_cut_74 (by decide) rfl ?_
    refine j_lload_n X dX11_cut_76 rfl 3 rfl ?_
    refine j_lconst (v := 0) X dX11_cut_77 rfl ?_
    refine j_lcmp X dX11_cut_78 ?_
    refine j_if_ne (tgt := 86) X dX11_cut_79 (by decide) (fun c_79 => ?_) (fun c_79 => ?_)
    · skip
      first | simp only [bI_0, Decidable.not_not, sg_mul, sg_e0, sg_l0, sg_g0, sg_le0, sg_ge0, cmp_eq, cmp_lt, cmp_ge, cmp_gt, cmp_le, lT0, lT1] at c_79 | simp only [Int32.le_iff_toInt_le, Int32.lt_iff_toInt_lt, ← Int32.toInt_inj, iT0, iT1, iT2, iT3, iT4, iT5, iT6, iT7, iT8, iT9, iT10, iT11, iT12, iT13, iT14, iT15, iT16, iT19, iT20, iT31, iT32, iT42, iT64, iT200, iT318, iT319, iT1000, iTm1, iTm2] at c_79 | skip
      refine j_lload_n X dX11_cut_86 rfl 3 rfl ?_
      refine j_lconst (v := 0) X dX11_cut_87 rfl ?_
      refine j_lcmp X dX11_cut_88 ?_
      refine j_if_ge (tgt := 99) X dX11_cut_89 (by decide) (fun c_89 => ?_) (fun c_89 => ?_)
      · skip
        first | simp only [bI_0, Decidable.not_not, sg_mul, sg_e0, sg_l0, sg_g0, sg_le0, sg_ge0, cmp_eq, cmp_lt, cmp_ge, cmp_gt, cmp_le, lT0, lT1] at c_89 | simp only [Int32.le_iff_toInt_le, Int32.lt_iff_toInt_lt, ← Int32.toInt_inj, iT0, iT1, iT2, iT3, iT4, iT5, iT6, iT7, iT8, iT9, iT10, iT11, iT12, iT13, iT14, iT15, iT16, iT19, iT20, iT31, iT32, iT42, iT64, iT200, iT318, iT319, iT1000, iTm1, iTm2] at c_89 | skip
        refine j_iload X dX11_cut_99 4 rfl ?_
        refine j_istore (L' := [(8, .int 1), (7, .int x_15), (0, .ref (q 0)), (1, .int 10), (2, .long w), (4, .int 1), (5, .int 1), (6, .int 0)]) X dX11_cut_101 (by decide) rfl ?_
        refine j_iload X dX11_cut_103 0 rfl ?_
        refine j_if_eq (tgt := 132) X dX11_cut_105 (by decide) (fun c9 => absurd c9 (by decide)) (fun _ => ?_)
        refine j_aload_n X dX11_cut_108 rfl 2 rfl ?_
        refine j_iconst (v := 5) X dX11_cut_109 rfl ?_
        refine j_iconst (v := 4) X dX11_cut_110 rfl ?_
        refine j_bipush (v := 8) X dX11_cut_111 (by decide) ?_
        refine j_iload X dX11_cut_113 0 rfl ?_
        refine j_if_ge (tgt := 122) X dX11_cut_115 (by decide) (fun _ => ?_) (fun c9 => absurd c9 (by decide))
        refine j_iconst (v := 0) X dX11_cut_122 rfl ?_
        obtain ⟨y_16, ey_16⟩ : ∃ zz9 : Int, zz9 = y_3 + h_11 := ⟨_, rfl⟩
        have by_16 : bd 261 y_16 := by rw [ey_16]; exact bd_add (bd_mono by_3 (by decide)) (bd_mono bh_11 (by decide))
        refine j_callV X dX11_cut_123 (n_join l G q t n co cr po tx ty [z0, z1, z2, z3, y_3, z5, z6, y_9, h_11, z9, z10, z11, w_14, y_5, v_12, y_7] sf_13 rfl hS_sf_13 5 5 rfl (by decide) 4 4 rfl (by decide) 8 8 rfl (by decide) 0 (Or.inl rfl) (by decide) (by decide) y_16 ey_16 by_3 bh_11 (by decide) (by decide)) gX11_cut_X11_join rfl hy_X11_join_V ⟨Nat.le_of_ble_eq_true rfl, Nat.le_of_ble_eq_true rfl⟩ 0 rfl rfl [0, 1, 2] rfl (by decide) rfl rfl (Nat.le_of_ble_eq_true rfl) ⟨Nat.le_of_ble_eq_true rfl, Nat.le_of_ble_eq_true rfl⟩ ?_
        rintro _ sf_17 ⟨rfl, hS_sf_17⟩
        change J p l e rm_X11_cut s m args below meth c Q G A 9 0 0 126 [(8, .int 1), (7, .int x_15), (0, .ref (q 0)), (1, .int 10), (2, .long w), (4, .int 1), (5, .int 1), (6, .int 0)] [] [(q 0, .inr (10, mF t n q co cr po tx ty)), (q 10, aI G 320 (rg [z0, z1, z2, z3, y_3, y_16, z6, y_9, h_11, z9, z10, z11, w_14, y_5, v_12, y_7])), (q 11, aZ G 16 sf_17)]
        refine j_aload_n X dX11_cut_126 rfl 2 rfl ?_
        refine j_iconst (v := 4) X dX11_cut_127 rfl ?_
        refine j_iconst (v := 5) X dX11_cut_128 rfl ?_
        refine j_callV X dX11_cut_129 (h_copy l G q t n co cr po tx ty [z0, z1, z2, z3, y_3, y_16, z6, y_9, h_11, z9, z10, z11, w_14, y_5, v_12, y_7] sf_17 rfl hS_sf_17 4 4 rfl (by decide) 5 5 rfl (by decide) (by decide)) gX11_cut_X11_copy rfl hy_X11_copy_V ⟨Nat.le_of_ble_eq_true rfl, Nat.le_of_ble_eq_true rfl⟩ 0 rfl rfl [0, 1, 2] rfl (by decide) rfl rfl (Nat.le_of_ble_eq_true rfl) ⟨Nat.le_of_ble_eq_true rfl, Nat.le_of_ble_eq_true rfl⟩ ?_
        rintro _ sf_18 ⟨rfl, hS_sf_18⟩
        change J p l e rm_X11_cut s m args below meth c Q G A 9 0 0 132 [(8, .int 1), (7, .int x_15), (0, .ref (q 0)), (1, .int 10), (2, .long w), (4, .int 1), (5, .int 1), (6, .int 0)] [] [(q 0, .inr (10, mF t n q co cr po tx ty)), (q 10, aI G 320 (rg [z0, z1, z2, z3, y_16, y_16, z6, y_9, h_11, z9, z10, z11, w_14, y_5, v_12, y_7])), (q 11, aZ G 16 sf_18)]
        refine j_iload X dX11_cut_132 0 rfl ?_
        refine j_if_ge (tgt := 164) X dX11_cut_134 (by decide) (fun _ => ?_) (fun c9 => absurd c9 (by decide))
        refine j_aload_n X dX11_cut_164 rfl 2 rfl ?_
        refine j_bipush (v := 13) X dX11_cut_165 (by decide) ?_
        refine j_iload X dX11_cut_167 6 rfl ?_
        refine j_i2l X dX11_cut_169 rfl ?_
        obtain ⟨y_19, ey_19⟩ : ∃ zz9 : Int, zz9 = ((1 : Int32).toInt64).toInt := ⟨_, rfl⟩
        have by_19 : bd 2 y_19 := by rw [ey_19]; exact (bd_mono bd_p1 (by decide))
        refine j_callV X dX11_cut_170 (n_load l G q t n co cr po tx ty [z0, z1, z2, z3, y_16, y_16, z6, y_9, h_11, z9, z10, z11, w_14, y_5, v_12, y_7] sf_18 rfl hS_sf_18 13 13 rfl (by decide) ((1 : Int32).toInt64) y_19 ey_19) gX11_cut_X11_load rfl hy_X11_load_V ⟨Nat.le_of_ble_eq_true rfl, Nat.le_of_ble_eq_true rfl⟩ 0 rfl rfl [0, 1, 2] rfl (by decide) rfl rfl (Nat.le_of_ble_eq_true rfl) ⟨Nat.le_of_ble_eq_true rfl, Nat.le_of_ble_eq_true rfl⟩ ?_
        rintro _ sf_20 ⟨rfl, hS_sf_20⟩
        change J p l e rm_X11_cut s m args below meth c Q G A 9 0 0 173 [(8, .int 1), (7, .int x_15), (0, .ref (q 0)), (1, .int 10), (2, .long w), (4, .int 1), (5, .int 1), (6, .int 0)] [] [(q 0, .inr (10, mF t n q co cr po tx ty)), (q 10, aI G 320 (rg [z0, z1, z2, z3, y_16, y_16, z6, y_9, h_11, z9, z10, z11, w_14, y_19, v_12, y_7])), (q 11, aZ G 16 sf_20)]
        refine j_aload_n X dX11_cut_173 rfl 2 rfl ?_
        refine j_bipush (v := 9) X dX11_cut_174 (by decide) ?_
        refine j_bipush (v := 13) X dX11_cut_176 (by decide) ?_
        refine j_iconst (v := 3) X dX11_cut_178 rfl ?_
        obtain ⟨y_21, ey_21⟩ : ∃ zz9 : Int, zz9 = y_19 * z3 := ⟨_, rfl⟩
        have by_21 : bd 86 y_21 := by rw [ey_21]; exact bd_mul by_19 b3
        refine j_callV X dX11_cut_179 (n_mul l G q t n co cr po tx ty [z0, z1, z2, z3, y_16, y_16, z6, y_9, h_11, z9, z10, z11, w_14, y_19, v_12, y_7] sf_20 rfl hS_sf_20 9 9 rfl (by decide) 13 13 rfl (by decide) 3 3 rfl (by decide) (by decide) (by decide) y_21 ey_21) gX11_cut_X11_multiply rfl hy_X11_multiply_V ⟨Nat.le_of_ble_eq_true rfl, Nat.le_of_ble_eq_true rfl⟩ 0 rfl rfl [0, 1, 2] rfl (by decide) rfl rfl (Nat.le_of_ble_eq_true rfl) ⟨Nat.le_of_ble_eq_true rfl, Nat.le_of_ble_eq_true rfl⟩ ?_
        rintro _ sf_22 ⟨rfl, hS_sf_22⟩
        change J p l e rm_X11_cut s m args below meth c Q G A 9 0 0 182 [(8, .int 1), (7, .int x_15), (0, .ref (q 0)), (1, .int 10), (2, .long w), (4, .int 1), (5, .int 1), (6, .int 0)] [] [(q 0, .inr (10, mF t n q co cr po tx ty)), (q 10, aI G 320 (rg [z0, z1, z2, z3, y_16, y_16, z6, y_9, h_11, y_21, z10, z11, w_14, y_19, v_12, y_7])), (q 11, aZ G 16 sf_22)]
        have hM8 : y_21 = z3 := by rw [ey_21, ey_19, i64_p]; exact Int.one_mul _
        have hM9 : (y_21.natAbs : Int) = z3 := by omega
        refine j_aload_n X dX11_cut_182 rfl 2 rfl ?_
        refine j_bipush (v := 6) X dX11_cut_183 (by decide) ?_
        refine j_iconst (v := 4) X dX11_cut_185 rfl ?_
        refine j_bipush (v := 9) X dX11_cut_186 (by decide) ?_
        obtain ⟨y_23, ey_23⟩ : ∃ zz9 : Int, zz9 = y_16 / (y_21.natAbs : Int) := ⟨_, rfl⟩
        obtain ⟨y_24, ey_24⟩ : ∃ zz9 : Int, zz9 = (y_16.natAbs : Int) % (y_21.natAbs : Int) := ⟨_, rfl⟩
        refine j_callV X dX11_cut_188 (n_divide_6_4_9 l G q t n co cr po tx ty z0 z1 z2 z3 y_16 y_16 z6 y_9 h_11 y_21 z10 z11 w_14 y_19 v_12 y_7 sf_22 hS_sf_22 (by omega) by_21 by_16 (by decide) (by decide) y_23 y_24 ey_23 ey_24) gX11_cut_X11_divide rfl hy_X11_divide_V ⟨Nat.le_of_ble_eq_true rfl, Nat.le_of_ble_eq_true rfl⟩ 0 rfl rfl [0, 1, 2] rfl (by decide) rfl rfl (Nat.le_of_ble_eq_true rfl) ⟨Nat.le_of_ble_eq_true rfl, Nat.le_of_ble_eq_true rfl⟩ ?_
        rintro _ ⟨v_25, v_26, sf_27⟩ ⟨rfl, hS_sf_27⟩
        change J p l e rm_X11_cut s m args below meth c Q G A 9 0 0 191 [(8, .int 1), (7, .int x_15), (0, .ref (q 0)), (1, .int 10), (2, .long w), (4, .int 1), (5, .int 1), (6, .int 0)] [] [(q 0, .inr (10, mF t n q co cr po tx ty)), (q 10, aI G 320 (rg [z0, z1, z2, z3, y_16, y_16, y_23, y_9, h_11, y_21, z10, z11, y_24, y_19, v_25, v_26])), (q 11, aZ G 16 sf_27)]
        exact E.1 191 _ (y_16, y_16, y_23, y_9, h_11, y_21, y_24, y_19, v_25, v_26, sf_27) dX11_cut_191 (⟨rfl, ⟨h_11, ⟨hh_110, hh_111, hh_112⟩, by dsimp only; rw [fl_p (show sg ((1 : Int32).toInt * w.toInt) = 1 from by rw [iT1, Int.one_mul]; rw [sg_pos (by omega)]), ey_23, hM9] <;> (congr 1 <;> omega)⟩, hS_sf_27⟩) hr
      · skip
        first | simp only [bI_0, Decidable.not_not, sg_mul, sg_e0, sg_l0, sg_g0, sg_le0, sg_ge0, cmp_eq, cmp_lt, cmp_ge, cmp_gt, cmp_le, lT0, lT1] at c_89 | simp only [Int32.le_iff_toInt_le, Int32.lt_iff_toInt_lt, ← Int32.toInt_inj, iT0, iT1, iT2, iT3, iT4, iT5, iT6, iT7, iT8, iT9, iT10, iT11, iT12, iT13, iT14, iT15, iT16, iT19, iT20, iT31, iT32, iT42, iT64, iT200, iT318, iT319, iT1000, iTm1, iTm2] at c_89 | skip
        refine j_iconst (v := 0) X dX11_cut_92 rfl ?_
        refine j_iload X dX11_cut_93 4 rfl ?_
        refine j_isub X dX11_cut_95 ?_
        rw [show (0 : Int32) - 1 = (-1) from by decide]
        refine j_goto (tgt := 101) X dX11_cut_96 (by decide) ?_
        refine j_istore (L' := [(8, .int (-1)), (7, .int x_15), (0, .ref (q 0)), (1, .int 10), (2, .long w), (4, .int 1), (5, .int 1), (6, .int 0)]) X dX11_cut_101 (by decide) rfl ?_
        refine j_iload X dX11_cut_103 0 rfl ?_
        refine j_if_eq (tgt := 132) X dX11_cut_105 (by decide) (fun c9 => absurd c9 (by decide)) (fun _ => ?_)
        refine j_aload_n X dX11_cut_108 rfl 2 rfl ?_
        refine j_iconst (v := 5) X dX11_cut_109 rfl ?_
        refine j_iconst (v := 4) X dX11_cut_110 rfl ?_
        refine j_bipush (v := 8) X dX11_cut_111 (by decide) ?_
        refine j_iload X dX11_cut_113 0 rfl ?_
        refine j_if_ge (tgt := 122) X dX11_cut_115 (by decide) (fun c9 => absurd c9 (by decide)) (fun _ => ?_)
        refine j_iconst (v := 1) X dX11_cut_118 rfl ?_
        refine j_goto (tgt := 123) X dX11_cut_119 (by decide) ?_
        obtain ⟨y_28, ey_28⟩ : ∃ zz9 : Int, zz9 = y_3 - h_11 := ⟨_, rfl⟩
        have by_28 : bd 261 y_28 := by rw [ey_28]; exact bd_sub (bd_mono by_3 (by decide)) (bd_mono bh_11 (by decide))
        refine j_callV X dX11_cut_123 (n_join l G q t n co cr po tx ty [z0, z1, z2, z3, y_3, z5, z6, y_9, h_11, z9, z10, z11, w_14, y_5, v_12, y_7] sf_13 rfl hS_sf_13 5 5 rfl (by decide) 4 4 rfl (by decide) 8 8 rfl (by decide) 1 (Or.inr rfl) (by decide) (by decide) y_28 ey_28 by_3 bh_11 (by decide) (by decide)) gX11_cut_X11_join rfl hy_X11_join_V ⟨Nat.le_of_ble_eq_true rfl, Nat.le_of_ble_eq_true rfl⟩ 0 rfl rfl [0, 1, 2] rfl (by decide) rfl rfl (Nat.le_of_ble_eq_true rfl) ⟨Nat.le_of_ble_eq_true rfl, Nat.le_of_ble_eq_true rfl⟩ ?_
        rintro _ sf_29 ⟨rfl, hS_sf_29⟩
        change J p l e rm_X11_cut s m args below meth c Q G A 9 0 0 126 [(8, .int (-1)), (7, .int x_15), (0, .ref (q 0)), (1, .int 10), (2, .long w), (4, .int 1), (5, .int 1), (6, .int 0)] [] [(q 0, .inr (10, mF t n q co cr po tx ty)), (q 10, aI G 320 (rg [z0, z1, z2, z3, y_3, y_28, z6, y_9, h_11, z9, z10, z11, w_14, y_5, v_12, y_7])), (q 11, aZ G 16 sf_29)]
        refine j_aload_n X dX11_cut_126 rfl 2 rfl ?_
        refine j_iconst (v := 4) X dX11_cut_127 rfl ?_
        refine j_iconst (v := 5) X dX11_cut_128 rfl ?_
        refine j_callV X dX11_cut_129 (h_copy l G q t n co cr po tx ty [z0, z1, z2, z3, y_3, y_28, z6, y_9, h_11, z9, z10, z11, w_14, y_5, v_12, y_7] sf_29 rfl hS_sf_29 4 4 rfl (by decide) 5 5 rfl (by decide) (by decide)) gX11_cut_X11_copy rfl hy_X11_copy_V ⟨Nat.le_of_ble_eq_true rfl, Nat.le_of_ble_eq_true rfl⟩ 0 rfl rfl [0, 1, 2] rfl (by decide) rfl rfl (Nat.le_of_ble_eq_true rfl) ⟨Nat.le_of_ble_eq_true rfl, Nat.le_of_ble_eq_true rfl⟩ ?_
        rintro _ sf_30 ⟨rfl, hS_sf_30⟩
        change J p l e rm_X11_cut s m args below meth c Q G A 9 0 0 132 [(8, .int (-1)), (7, .int x_15), (0, .ref (q 0)), (1, .int 10), (2, .long w), (4, .int 1), (5, .int 1), (6, .int 0)] [] [(q 0, .inr (10, mF t n q co cr po tx ty)), (q 10, aI G 320 (rg [z0, z1, z2, z3, y_28, y_28, z6, y_9, h_11, z9, z10, z11, w_14, y_5, v_12, y_7])), (q 11, aZ G 16 sf_30)]
        refine j_iload X dX11_cut_132 0 rfl ?_
        refine j_if_ge (tgt := 164) X dX11_cut_134 (by decide) (fun c9 => absurd c9 (by decide)) (fun _ => ?_)
        refine j_iload X dX11_cut_137 1 rfl ?_
        refine j_if_ne (tgt := 164) X dX11_cut_139 (by decide) (fun c_139 => ?_) (fun c_139 => ?_)
        · skip
          rw [ex_15] at c_139
          have hEx : h_11 * h_11 = w.toInt * w.toInt * z2 := by by_cases q9 : h_11 * h_11 = w.toInt * w.toInt * z2; exact q9; rw [if_neg q9] at c_139; exact absurd rfl c_139
          refine j_aload_n X dX11_cut_164 rfl 2 rfl ?_
          refine j_bipush (v := 13) X dX11_cut_165 (by decide) ?_
          refine j_iload X dX11_cut_167 6 rfl ?_
          refine j_i2l X dX11_cut_169 rfl ?_
          obtain ⟨y_31, ey_31⟩ : ∃ zz9 : Int, zz9 = ((1 : Int32).toInt64).toInt := ⟨_, rfl⟩
          have by_31 : bd 2 y_31 := by rw [ey_31]; exact (bd_mono bd_p1 (by decide))
          refine j_callV X dX11_cut_170 (n_load l G q t n co cr po tx ty [z0, z1, z2, z3, y_28, y_28, z6, y_9, h_11, z9, z10, z11, w_14, y_5, v_12, y_7] sf_30 rfl hS_sf_30 13 13 rfl (by decide) ((1 : Int32).toInt64) y_31 ey_31) gX11_cut_X11_load rfl hy_X11_load_V ⟨Nat.le_of_ble_eq_true rfl, Nat.le_of_ble_eq_true rfl⟩ 0 rfl rfl [0, 1, 2] rfl (by decide) rfl rfl (Nat.le_of_ble_eq_true rfl) ⟨Nat.le_of_ble_eq_true rfl, Nat.le_of_ble_eq_true rfl⟩ ?_
          rintro _ sf_32 ⟨rfl, hS_sf_32⟩
          change J p l e rm_X11_cut s m args below meth c Q G A 9 0 0 173 [(8, .int (-1)), (7, .int x_15), (0, .ref (q 0)), (1, .int 10), (2, .long w), (4, .int 1), (5, .int 1), (6, .int 0)] [] [(q 0, .inr (10, mF t n q co cr po tx ty)), (q 10, aI G 320 (rg [z0, z1, z2, z3, y_28, y_28, z6, y_9, h_11, z9, z10, z11, w_14, y_31, v_12, y_7])), (q 11, aZ G 16 sf_32)]
          refine j_aload_n X dX11_cut_173 rfl 2 rfl ?_
          refine j_bipush (v := 9) X dX11_cut_174 (by decide) ?_
          refine j_bipush (v := 13) X dX11_cut_176 (by decide) ?_
          refine j_iconst (v := 3) X dX11_cut_178 rfl ?_
          obtain ⟨y_33, ey_33⟩ : ∃ zz9 : Int, zz9 = y_31 * z3 := ⟨_, rfl⟩
          have by_33 : bd 86 y_33 := by rw [ey_33]; exact bd_mul by_31 b3
          refine j_callV X dX11_cut_179 (n_mul l G q t n co cr po tx ty [z0, z1, z2, z3, y_28, y_28, z6, y_9, h_11, z9, z10, z11, w_14, y_31, v_12, y_7] sf_32 rfl hS_sf_32 9 9 rfl (by decide) 13 13 rfl (by decide) 3 3 rfl (by decide) (by decide) (by decide) y_33 ey_33) gX11_cut_X11_multiply rfl hy_X11_multiply_V ⟨Nat.le_of_ble_eq_true rfl, Nat.le_of_ble_eq_true rfl⟩ 0 rfl rfl [0, 1, 2] rfl (by decide) rfl rfl (Nat.le_of_ble_eq_true rfl) ⟨Nat.le_of_ble_eq_true rfl, Nat.le_of_ble_eq_true rfl⟩ ?_
          rintro _ sf_34 ⟨rfl, hS_sf_34⟩
          change J p l e rm_X11_cut s m args below meth c Q G A 9 0 0 182 [(8, .int (-1)), (7, .int x_15), (0, .ref (q 0)), (1, .int 10), (2, .long w), (4, .int 1), (5, .int 1), (6, .int 0)] [] [(q 0, .inr (10, mF t n q co cr po tx ty)), (q 10, aI G 320 (rg [z0, z1, z2, z3, y_28, y_28, z6, y_9, h_11, y_33, z10, z11, w_14, y_31, v_12, y_7])), (q 11, aZ G 16 sf_34)]
          have hM8 : y_33 = z3 := by rw [ey_33, ey_31, i64_p]; exact Int.one_mul _
          have hM9 : (y_33.natAbs : Int) = z3 := by omega
          refine j_aload_n X dX11_cut_182 rfl 2 rfl ?_
          refine j_bipush (v := 6) X dX11_cut_183 (by decide) ?_
          refine j_iconst (v := 4) X dX11_cut_185 rfl ?_
          refine j_bipush (v := 9) X dX11_cut_186 (by decide) ?_
          obtain ⟨y_35, ey_35⟩ : ∃ zz9 : Int, zz9 = y_28 / (y_33.natAbs : Int) := ⟨_, rfl⟩
          obtain ⟨y_36, ey_36⟩ : ∃ zz9 : Int, zz9 = (y_28.natAbs : Int) % (y_33.natAbs : Int) := ⟨_, rfl⟩
          refine j_callV X dX11_cut_188 (n_divide_6_4_9 l G q t n co cr po tx ty z0 z1 z2 z3 y_28 y_28 z6 y_9 h_11 y_33 z10 z11 w_14 y_31 v_12 y_7 sf_34 hS_sf_34 (by omega) by_33 by_28 (by decide) (by decide) y_35 y_36 ey_35 ey_36) gX11_cut_X11_divide rfl hy_X11_divide_V ⟨Nat.le_of_ble_eq_true rfl, Nat.le_of_ble_eq_true rfl⟩ 0 rfl rfl [0, 1, 2] rfl (by decide) rfl rfl (Nat.le_of_ble_eq_true rfl) ⟨Nat.le_of_ble_eq_true rfl, Nat.le_of_ble_eq_true rfl⟩ ?_
          rintro _ ⟨v_37, v_38, sf_39⟩ ⟨rfl, hS_sf_39⟩
          change J p l e rm_X11_cut s m args below meth c Q G A 9 0 0 191 [(8, .int (-1)), (7, .int x_15), (0, .ref (q 0)), (1, .int 10), (2, .long w), (4, .int 1), (5, .int 1), (6, .int 0)] [] [(q 0, .inr (10, mF t n q co cr po tx ty)), (q 10, aI G 320 (rg [z0, z1, z2, z3, y_28, y_28, y_35, y_9, h_11, y_33, z10, z11, y_36, y_31, v_37, v_38])), (q 11, aZ G 16 sf_39)]
          exact E.1 191 _ (y_28, y_28, y_35, y_9, h_11, y_33, y_36, y_31, v_37, v_38, sf_39) dX11_cut_191 (⟨rfl, ⟨h_11, ⟨hh_110, hh_111, hh_112⟩, by dsimp only; rw [fl_n (show sg ((1 : Int32).toInt * w.toInt) = -1 from by rw [iT1, Int.one_mul]; rw [sg_neg (by omega)]) hEx, ey_35, hM9] <;> (congr 1 <;> omega)⟩, hS_sf_39⟩) hr
        · skip
          rw [ex_15] at c_139
          have hEx : ¬ h_11 * h_11 = w.toInt * w.toInt * z2 := by intro q9; rw [if_pos q9] at c_139; exact absurd c_139 (by decide)
          refine j_aload_n X dX11_cut_142 rfl 2 rfl ?_
          refine j_bipush (v := 15) X dX11_cut_143 (by decide) ?_
          refine j_lconst (v := 1) X dX11_cut_145 rfl ?_
          obtain ⟨y_40, ey_40⟩ : ∃ zz9 : Int, zz9 = 1 := ⟨_, rfl⟩
          have by_40 : bd 1 y_40 := by rw [ey_40]; exact (by decide : Int.natAbs 1 ≤ 2 ^ 1)
          refine j_callV X dX11_cut_146 (n_load l G q t n co cr po tx ty [z0, z1, z2, z3, y_28, y_28, z6, y_9, h_11, z9, z10, z11, w_14, y_5, v_12, y_7] sf_30 rfl hS_sf_30 15 15 rfl (by decide) 1 y_40 (by rw [ey_40]; rfl)) gX11_cut_X11_load rfl hy_X11_load_V ⟨Nat.le_of_ble_eq_true rfl, Nat.le_of_ble_eq_true rfl⟩ 0 rfl rfl [0, 1, 2] rfl (by decide) rfl rfl (Nat.le_of_ble_eq_true rfl) ⟨Nat.le_of_ble_eq_true rfl, Nat.le_of_ble_eq_true rfl⟩ ?_
          rintro _ sf_41 ⟨rfl, hS_sf_41⟩
          change J p l e rm_X11_cut s m args below meth c Q G A 9 0 0 149 [(8, .int (-1)), (7, .int x_15), (0, .ref (q 0)), (1, .int 10), (2, .long w), (4, .int 1), (5, .int 1), (6, .int 0)] [] [(q 0, .inr (10, mF t n q co cr po tx ty)), (q 10, aI G 320 (rg [z0, z1, z2, z3, y_28, y_28, z6, y_9, h_11, z9, z10, z11, w_14, y_5, v_12, y_40])), (q 11, aZ G 16 sf_41)]
          refine j_aload_n X dX11_cut_149 rfl 2 rfl ?_
          refine j_iconst (v := 5) X dX11_cut_150 rfl ?_
          refine j_iconst (v := 4) X dX11_cut_151 rfl ?_
          refine j_bipush (v := 15) X dX11_cut_152 (by decide) ?_
          refine j_iconst (v := 1) X dX11_cut_154 rfl ?_
          obtain ⟨y_42, ey_42⟩ : ∃ zz9 : Int, zz9 = y_28 - y_40 := ⟨_, rfl⟩
          have by_42 : bd 262 y_42 := by rw [ey_42]; exact bd_sub (bd_mono by_28 (by decide)) (bd_mono by_40 (by decide))
          refine j_callV X dX11_cut_155 (n_join l G q t n co cr po tx ty [z0, z1, z2, z3, y_28, y_28, z6, y_9, h_11, z9, z10, z11, w_14, y_5, v_12, y_40] sf_41 rfl hS_sf_41 5 5 rfl (by decide) 4 4 rfl (by decide) 15 15 rfl (by decide) 1 (Or.inr rfl) (by decide) (by decide) y_42 ey_42 by_28 by_40 (by decide) (by decide)) gX11_cut_X11_join rfl hy_X11_join_V ⟨Nat.le_of_ble_eq_true rfl, Nat.le_of_ble_eq_true rfl⟩ 0 rfl rfl [0, 1, 2] rfl (by decide) rfl rfl (Nat.le_of_ble_eq_true rfl) ⟨Nat.le_of_ble_eq_true rfl, Nat.le_of_ble_eq_true rfl⟩ ?_
          rintro _ sf_43 ⟨rfl, hS_sf_43⟩
          change J p l e rm_X11_cut s m args below meth c Q G A 9 0 0 158 [(8, .int (-1)), (7, .int x_15), (0, .ref (q 0)), (1, .int 10), (2, .long w), (4, .int 1), (5, .int 1), (6, .int 0)] [] [(q 0, .inr (10, mF t n q co cr po tx ty)), (q 10, aI G 320 (rg [z0, z1, z2, z3, y_28, y_42, z6, y_9, h_11, z9, z10, z11, w_14, y_5, v_12, y_40])), (q 11, aZ G 16 sf_43)]
          refine j_aload_n X dX11_cut_158 rfl 2 rfl ?_
          refine j_iconst (v := 4) X dX11_cut_159 rfl ?_
          refine j_iconst (v := 5) X dX11_cut_160 rfl ?_
          refine j_callV X dX11_cut_161 (h_copy l G q t n co cr po tx ty [z0, z1, z2, z3, y_28, y_42, z6, y_9, h_11, z9, z10, z11, w_14, y_5, v_12, y_40] sf_43 rfl hS_sf_43 4 4 rfl (by decide) 5 5 rfl (by decide) (by decide)) gX11_cut_X11_copy rfl hy_X11_copy_V ⟨Nat.le_of_ble_eq_true rfl, Nat.le_of_ble_eq_true rfl⟩ 0 rfl rfl [0, 1, 2] rfl (by decide) rfl rfl (Nat.le_of_ble_eq_true rfl) ⟨Nat.le_of_ble_eq_true rfl, Nat.le_of_ble_eq_true rfl⟩ ?_
          rintro _ sf_44 ⟨rfl, hS_sf_44⟩
          change J p l e rm_X11_cut s m args below meth c Q G A 9 0 0 164 [(8, .int (-1)), (7, .int x_15), (0, .ref (q 0)), (1, .int 10), (2, .long w), (4, .int 1), (5, .int 1), (6, .int 0)] [] [(q 0, .inr (10, mF t n q co cr po tx ty)), (q 10, aI G 320 (rg [z0, z1, z2, z3, y_42, y_42, z6, y_9, h_11, z9, z10, z11, w_14, y_5, v_12, y_40])), (q 11, aZ G 16 sf_44)]
          refine j_aload_n X dX11_cut_164 rfl 2 rfl ?_
          refine j_bipush (v := 13) X dX11_cut_165 (by decide) ?_
          refine j_iload X dX11_cut_167 6 rfl ?_
          refine j_i2l X dX11_cut_169 rfl ?_
          obtain ⟨y_45, ey_45⟩ : ∃ zz9 : Int, zz9 = ((1 : Int32).toInt64).toInt := ⟨_, rfl⟩
          have by_45 : bd 2 y_45 := by rw [ey_45]; exact (bd_mono bd_p1 (by decide))
          refine j_callV X dX11_cut_170 (n_load l G q t n co cr po tx ty [z0, z1, z2, z3, y_42, y_42, z6, y_9, h_11, z9, z10, z11, w_14, y_5, v_12, y_40] sf_44 rfl hS_sf_44 13 13 rfl (by decide) ((1 : Int32).toInt64) y_45 ey_45) gX11_cut_X11_load rfl hy_X11_load_V ⟨Nat.le_of_ble_eq_true rfl, Nat.le_of_ble_eq_true rfl⟩ 0 rfl rfl [0, 1, 2] rfl (by decide) rfl rfl (Nat.le_of_ble_eq_true rfl) ⟨Nat.le_of_ble_eq_true rfl, Nat.le_of_ble_eq_true rfl⟩ ?_
          rintro _ sf_46 ⟨rfl, hS_sf_46⟩
          change J p l e rm_X11_cut s m args below meth c Q G A 9 0 0 173 [(8, .int (-1)), (7, .int x_15), (0, .ref (q 0)), (1, .int 10), (2, .long w), (4, .int 1), (5, .int 1), (6, .int 0)] [] [(q 0, .inr (10, mF t n q co cr po tx ty)), (q 10, aI G 320 (rg [z0, z1, z2, z3, y_42, y_42, z6, y_9, h_11, z9, z10, z11, w_14, y_45, v_12, y_40])), (q 11, aZ G 16 sf_46)]
          refine j_aload_n X dX11_cut_173 rfl 2 rfl ?_
          refine j_bipush (v := 9) X dX11_cut_174 (by decide) ?_
          refine j_bipush (v := 13) X dX11_cut_176 (by decide) ?_
          refine j_iconst (v := 3) X dX11_cut_178 rfl ?_
          obtain ⟨y_47, ey_47⟩ : ∃ zz9 : Int, zz9 = y_45 * z3 := ⟨_, rfl⟩
          have by_47 : bd 86 y_47 := by rw [ey_47]; exact bd_mul by_45 b3
          refine j_callV X dX11_cut_179 (n_mul l G q t n co cr po tx ty [z0, z1, z2, z3, y_42, y_42, z6, y_9, h_11, z9, z10, z11, w_14, y_45, v_12, y_40] sf_46 rfl hS_sf_46 9 9 rfl (by decide) 13 13 rfl (by decide) 3 3 rfl (by decide) (by decide) (by decide) y_47 ey_47) gX11_cut_X11_multiply rfl hy_X11_multiply_V ⟨Nat.le_of_ble_eq_true rfl, Nat.le_of_ble_eq_true rfl⟩ 0 rfl rfl [0, 1, 2] rfl (by decide) rfl rfl (Nat.le_of_ble_eq_true rfl) ⟨Nat.le_of_ble_eq_true rfl, Nat.le_of_ble_eq_true rfl⟩ ?_
          rintro _ sf_48 ⟨rfl, hS_sf_48⟩
          change J p l e rm_X11_cut s m args below meth c Q G A 9 0 0 182 [(8, .int (-1)), (7, .int x_15), (0, .ref (q 0)), (1, .int 10), (2, .long w), (4, .int 1), (5, .int 1), (6, .int 0)] [] [(q 0, .inr (10, mF t n q co cr po tx ty)), (q 10, aI G 320 (rg [z0, z1, z2, z3, y_42, y_42, z6, y_9, h_11, y_47, z10, z11, w_14, y_45, v_12, y_40])), (q 11, aZ G 16 sf_48)]
          have hM8 : y_47 = z3 := by rw [ey_47, ey_45, i64_p]; exact Int.one_mul _
          have hM9 : (y_47.natAbs : Int) = z3 := by omega
          refine j_aload_n X dX11_cut_182 rfl 2 rfl ?_
          refine j_bipush (v := 6) X dX11_cut_183 (by decide) ?_
          refine j_iconst (v := 4) X dX11_cut_185 rfl ?_
          refine j_bipush (v := 9) X dX11_cut_186 (by decide) ?_
          obtain ⟨y_49, ey_49⟩ : ∃ zz9 : Int, zz9 = y_42 / (y_47.natAbs : Int) := ⟨_, rfl⟩
          obtain ⟨y_50, ey_50⟩ : ∃ zz9 : Int, zz9 = (y_42.natAbs : Int) % (y_47.natAbs : Int) := ⟨_, rfl⟩
          refine j_callV X dX11_cut_188 (n_divide_6_4_9 l G q t n co cr po tx ty z0 z1 z2 z3 y_42 y_42 z6 y_9 h_11 y_47 z10 z11 w_14 y_45 v_12 y_40 sf_48 hS_sf_48 (by omega) by_47 by_42 (by decide) (by decide) y_49 y_50 ey_49 ey_50) gX11_cut_X11_divide rfl hy_X11_divide_V ⟨Nat.le_of_ble_eq_true rfl, Nat.le_of_ble_eq_true rfl⟩ 0 rfl rfl [0, 1, 2] rfl (by decide) rfl rfl (Nat.le_of_ble_eq_true rfl) ⟨Nat.le_of_ble_eq_true rfl, Nat.le_of_ble_eq_true rfl⟩ ?_
          rintro _ ⟨v_51, v_52, sf_53⟩ ⟨rfl, hS_sf_53⟩
          change J p l e rm_X11_cut s m args below meth c Q G A 9 0 0 191 [(8, .int (-1)), (7, .int x_15), (0, .ref (q 0)), (1, .int 10), (2, .long w), (4, .int 1), (5, .int 1), (6, .int 0)] [] [(q 0, .inr (10, mF t n q co cr po tx ty)), (q 10, aI G 320 (rg [z0, z1, z2, z3, y_42, y_42, y_49, y_9, h_11, y_47, z10, z11, y_50, y_45, v_51, v_52])), (q 11, aZ G 16 sf_53)]
          exact E.1 191 _ (y_42, y_42, y_49, y_9, h_11, y_47, y_50, y_45, v_51, v_52, sf_53) dX11_cut_191 (⟨rfl, ⟨h_11, ⟨hh_110, hh_111, hh_112⟩, by dsimp only; rw [fl_m (show sg ((1 : Int32).toInt * w.toInt) = -1 from by rw [iT1, Int.one_mul]; rw [sg_neg (by omega)]) hEx, ey_49, hM9] <;> (congr 1 <;> omega)⟩, hS_sf_53⟩) hr
    · skip
      first | simp only [bI_0, Decidable.not_not, sg_mul, sg_e0, sg_l0, sg_g0, sg_le0, sg_ge0, cmp_eq, cmp_lt, cmp_ge, cmp_gt, cmp_le, lT0, lT1] at c_79 | simp only [Int32.le_iff_toInt_le, Int32.lt_iff_toInt_lt, ← Int32.toInt_inj, iT0, iT1, iT2, iT3, iT4, iT5, iT6, iT7, iT8, iT9, iT10, iT11, iT12, iT13, iT14, iT15, iT16, iT19, iT20, iT31, iT32, iT42, iT64, iT200, iT318, iT319, iT1000, iTm1, iTm2] at c_79 | skip
      refine j_iconst (v := 0) X dX11_cut_82 rfl ?_
      refine j_goto (tgt := 101) X dX11_cut_83 (by decide) ?_
      refine j_istore (L' := [(8, .int 0), (7, .int x_15), (0, .ref (q 0)), (1, .int 10), (2, .long w), (4, .int 1), (5, .int 1), (6, .int 0)]) X dX11_cut_101 (by decide) rfl ?_
      refine j_iload X dX11_cut_103 0 rfl ?_
      refine j_if_eq (tgt := 132) X dX11_cut_105 (by decide) (fun _ => ?_) (fun c9 => absurd c9 (by decide))
      refine j_iload X dX11_cut_132 0 rfl ?_
      refine j_if_ge (tgt := 164) X dX11_cut_134 (by decide) (fun _ => ?_) (fun c9 => absurd c9 (by decide))
      refine j_aload_n X dX11_cut_164 rfl 2 rfl ?_
      refine j_bipush (v := 13) X dX11_cut_165 (by decide) ?_
      refine j_iload X dX11_cut_167 6 rfl ?_
      refine j_i2l X dX11_cut_169 rfl ?_
      obtain ⟨y_54, ey_54⟩ : ∃ zz9 : Int, zz9 = ((1 : Int32).toInt64).toInt := ⟨_, rfl⟩
      have by_54 : bd 2 y_54 := by rw [ey_54]; exact (bd_mono bd_p1 (by decide))
      refine j_callV X dX11_cut_170 (n_load l G q t n co cr po tx ty [z0, z1, z2, z3, y_3, z5, z6, y_9, h_11, z9, z10, z11, w_14, y_5, v_12, y_7] sf_13 rfl hS_sf_13 13 13 rfl (by decide) ((1 : Int32).toInt64) y_54 ey_54) gX11_cut_X11_load rfl hy_X11_load_V ⟨Nat.le_of_ble_eq_true rfl, Nat.le_of_ble_eq_true rfl⟩ 0 rfl rfl [0, 1, 2] rfl (by decide) rfl rfl (Nat.le_of_ble_eq_true rfl) ⟨Nat.le_of_ble_eq_true rfl, Nat.le_of_ble_eq_true rfl⟩ ?_
      rintro _ sf_55 ⟨rfl, hS_sf_55⟩
      change J p l e rm_X11_cut s m args below meth c Q G A 9 0 0 173 [(8, .int 0), (7, .int x_15), (0, .ref (q 0)), (1, .int 10), (2, .long w), (4, .int 1), (5, .int 1), (6, .int 0)] [] [(q 0, .inr (10, mF t n q co cr po tx ty)), (q 10, aI G 320 (rg [z0, z1, z2, z3, y_3, z5, z6, y_9, h_11, z9, z10, z11, w_14, y_54, v_12, y_7])), (q 11, aZ G 16 sf_55)]
      refine j_aload_n X dX11_cut_173 rfl 2 rfl ?_
      refine j_bipush (v := 9) X dX11_cut_174 (by decide) ?_
      refine j_bipush (v := 13) X dX11_cut_176 (by decide) ?_
      refine j_iconst (v := 3) X dX11_cut_178 rfl ?_
      obtain ⟨y_56, ey_56⟩ : ∃ zz9 : Int, zz9 = y_54 * z3 := ⟨_, rfl⟩
      have by_56 : bd 86 y_56 := by rw [ey_56]; exact bd_mul by_54 b3
      refine j_callV X dX11_cut_179 (n_mul l G q t n co cr po tx ty [z0, z1, z2, z3, y_3, z5, z6, y_9, h_11, z9, z10, z11, w_14, y_54, v_12, y_7] sf_55 rfl hS_sf_55 9 9 rfl (by decide) 13 13 rfl (by decide) 3 3 rfl (by decide) (by decide) (by decide) y_56 ey_56) gX11_cut_X11_multiply rfl hy_X11_multiply_V ⟨Nat.le_of_ble_eq_true rfl, Nat.le_of_ble_eq_true rfl⟩ 0 rfl rfl [0, 1, 2] rfl (by decide) rfl rfl (Nat.le_of_ble_eq_true rfl) ⟨Nat.le_of_ble_eq_true rfl, Nat.le_of_ble_eq_true rfl⟩ ?_
      rintro _ sf_57 ⟨rfl, hS_sf_57⟩
      change J p l e rm_X11_cut s m args below meth c Q G A 9 0 0 182 [(8, .int 0), (7, .int x_15), (0, .ref (q 0)), (1, .int 10), (2, .long w), (4, .int 1), (5, .int 1), (6, .int 0)] [] [(q 0, .inr (10, mF t n q co cr po tx ty)), (q 10, aI G 320 (rg [z0, z1, z2, z3, y_3, z5, z6, y_9, h_11, y_56, z10, z11, w_14, y_54, v_12, y_7])), (q 11, aZ G 16 sf_57)]
      have hM8 : y_56 = z3 := by rw [ey_56, ey_54, i64_p]; exact Int.one_mul _
      have hM9 : (y_56.natAbs : Int) = z3 := by omega
      refine j_aload_n X dX11_cut_182 rfl 2 rfl ?_
      refine j_bipush (v := 6) X dX11_cut_183 (by decide) ?_
      refine j_iconst (v := 4) X dX11_cut_185 rfl ?_
      refine j_bipush (v := 9) X dX11_cut_186 (by decide) ?_
      obtain ⟨y_58, ey_58⟩ : ∃ zz9 : Int, zz9 = y_3 / (y_56.natAbs : Int) := ⟨_, rfl⟩
      obtain ⟨y_59, ey_59⟩ : ∃ zz9 : Int, zz9 = (y_3.natAbs : Int) % (y_56.natAbs : Int) := ⟨_, rfl⟩
      refine j_callV X dX11_cut_188 (n_divide_6_4_9 l G q t n co cr po tx ty z0 z1 z2 z3 y_3 z5 z6 y_9 h_11 y_56 z10 z11 w_14 y_54 v_12 y_7 sf_57 hS_sf_57 (by omega) by_56 by_3 (by decide) (by decide) y_58 y_59 ey_58 ey_59) gX11_cut_X11_divide rfl hy_X11_divide_V ⟨Nat.le_of_ble_eq_true rfl, Nat.le_of_ble_eq_true rfl⟩ 0 rfl rfl [0, 1, 2] rfl (by decide) rfl rfl (Nat.le_of_ble_eq_true rfl) ⟨Nat.le_of_ble_eq_true rfl, Nat.le_of_ble_eq_true rfl⟩ ?_
      rintro _ ⟨v_60, v_61, sf_62⟩ ⟨rfl, hS_sf_62⟩
      change J p l e rm_X11_cut s m args below meth c Q G A 9 0 0 191 [(8, .int 0), (7, .int x_15), (0, .ref (q 0)), (1, .int 10), (2, .long w), (4, .int 1), (5, .int 1), (6, .int 0)] [] [(q 0, .inr (10, mF t n q co cr po tx ty)), (q 10, aI G 320 (rg [z0, z1, z2, z3, y_3, z5, y_58, y_9, h_11, y_56, z10, z11, y_59, y_54, v_60, v_61])), (q 11, aZ G 16 sf_62)]
      exact E.1 191 _ (y_3, z5, y_58, y_9, h_11, y_56, y_59, y_54, v_60, v_61, sf_62) dX11_cut_191 (⟨rfl, ⟨h_11, ⟨hh_110, hh_111, hh_112⟩, by dsimp only; rw [fl_z (show sg ((1 : Int32).toInt * w.toInt) = 0 from by rw [iT1, Int.one_mul]; rw [sg_zero (by omega)]), ey_58, hM9] <;> (congr 1 <;> omega)⟩, hS_sf_62⟩) hr
  · skip
    refine j_aload_n X dX11_cut_0 rfl 0 rfl ?_
    refine j_bipush (v := 13) X dX11_cut_1 (by decide) ?_
    refine j_iload X dX11_cut_3 4 rfl ?_
    refine j_i2l X dX11_cut_5 rfl ?_
    obtain ⟨y_63, ey_63⟩ : ∃ zz9 : Int, zz9 = ((1 : Int32).toInt64).toInt := ⟨_, rfl⟩
    have by_63 : bd 2 y_63 := by rw [ey_63]; exact (bd_mono bd_p1 (by decide))
    refine j_callV X dX11_cut_6 (n_load l G q t n co cr po tx ty [z0, z1, z2, z3, z4, z5, z6, z7, z8, z9, z10, z11, z12, z13, z14, z15] sf rfl hS 13 13 rfl (by decide) ((1 : Int32).toInt64) y_63 ey_63) gX11_cut_X11_load rfl hy_X11_load_V ⟨Nat.le_of_ble_eq_true rfl, Nat.le_of_ble_eq_true rfl⟩ 0 rfl rfl [0, 1, 2] rfl (by decide) rfl rfl (Nat.le_of_ble_eq_true rfl) ⟨Nat.le_of_ble_eq_true rfl, Nat.le_of_ble_eq_true rfl⟩ ?_
    rintro _ sf_64 ⟨rfl, hS_sf_64⟩
    change J p l e rm_X11_cut s m args below meth c Q G A 9 0 0 9 [(0, .ref (q 0)), (1, .int 10), (2, .long w), (4, .int (-1)), (5, .int 1), (6, .int 0)] [] [(q 0, .inr (10, mF t n q co cr po tx ty)), (q 10, aI G 320 (rg [z0, z1, z2, z3, z4, z5, z6, z7, z8, z9, z10, z11, z12, y_63, z14, z15])), (q 11, aZ G 16 sf_64)]
    refine j_aload_n X dX11_cut_9 rfl 0 rfl ?_
    refine j_iconst (v := 4) X dX11_cut_10 rfl ?_
    refine j_bipush (v := 13) X dX11_cut_11 (by decide) ?_
    refine j_iload_n X dX11_cut_13 rfl 1 rfl ?_
    obtain ⟨y_65, ey_65⟩ : ∃ zz9 : Int, zz9 = y_63 * z10 := ⟨_, rfl⟩
    have by_65 : bd 129 y_65 := by rw [ey_65]; exact bd_mul by_63 bu
    refine j_callV X dX11_cut_14 (n_mul l G q t n co cr po tx ty [z0, z1, z2, z3, z4, z5, z6, z7, z8, z9, z10, z11, z12, y_63, z14, z15] sf_64 rfl hS_sf_64 4 4 rfl (by decide) 13 13 rfl (by decide) 10 10 rfl (by decide) (by decide) (by decide) y_65 ey_65) gX11_cut_X11_multiply rfl hy_X11_multiply_V ⟨Nat.le_of_ble_eq_true rfl, Nat.le_of_ble_eq_true rfl⟩ 0 rfl rfl [0, 1, 2] rfl (by decide) rfl rfl (Nat.le_of_ble_eq_true rfl) ⟨Nat.le_of_ble_eq_true rfl, Nat.le_of_ble_eq_true rfl⟩ ?_
    rintro _ sf_66 ⟨rfl, hS_sf_66⟩
    change J p l e rm_X11_cut s m args below meth c Q G A 9 0 0 17 [(0, .ref (q 0)), (1, .int 10), (2, .long w), (4, .int (-1)), (5, .int 1), (6, .int 0)] [] [(q 0, .inr (10, mF t n q co cr po tx ty)), (q 10, aI G 320 (rg [z0, z1, z2, z3, y_65, z5, z6, z7, z8, z9, z10, z11, z12, y_63, z14, z15])), (q 11, aZ G 16 sf_66)]
    have hA1 : y_65 = z10 := by rw [ey_65, ey_63, i64_p]; exact Int.one_mul _
    refine j_iload X dX11_cut_17 5 rfl ?_
    refine j_if_eq (tgt := 36) X dX11_cut_19 (by decide) (fun _ => ?_) (fun c9 => absurd c9 (by decide))
    refine j_aload_n X dX11_cut_36 rfl 0 rfl ?_
    refine j_bipush (v := 13) X dX11_cut_37 (by decide) ?_
    refine j_iload X dX11_cut_39 4 rfl ?_
    refine j_i2l X dX11_cut_41 rfl ?_
    refine j_lload_n X dX11_cut_42 rfl 2 rfl ?_
    refine j_lmul X dX11_cut_43 ?_
    obtain ⟨y_67, ey_67⟩ : ∃ zz9 : Int, zz9 = (((1 : Int32).toInt64) * w).toInt := ⟨_, rfl⟩
    have by_67 : bd 43 y_67 := by rw [ey_67]; exact bq9
    refine j_callV X dX11_cut_44 (n_load l G q t n co cr po tx ty [z0, z1, z2, z3, y_65, z5, z6, z7, z8, z9, z10, z11, z12, y_63, z14, z15] sf_66 rfl hS_sf_66 13 13 rfl (by decide) (((1 : Int32).toInt64) * w) y_67 ey_67) gX11_cut_X11_load rfl hy_X11_load_V ⟨Nat.le_of_ble_eq_true rfl, Nat.le_of_ble_eq_true rfl⟩ 0 rfl rfl [0, 1, 2] rfl (by decide) rfl rfl (Nat.le_of_ble_eq_true rfl) ⟨Nat.le_of_ble_eq_true rfl, Nat.le_of_ble_eq_true rfl⟩ ?_
    rintro _ sf_68 ⟨rfl, hS_sf_68⟩
    change J p l e rm_X11_cut s m args below meth c Q G A 9 0 0 47 [(0, .ref (q 0)), (1, .int 10), (2, .long w), (4, .int (-1)), (5, .int 1), (6, .int 0)] [] [(q 0, .inr (10, mF t n q co cr po tx ty)), (q 10, aI G 320 (rg [z0, z1, z2, z3, y_65, z5, z6, z7, z8, z9, z10, z11, z12, y_67, z14, z15])), (q 11, aZ G 16 sf_68)]
    refine j_aload_n X dX11_cut_47 rfl 0 rfl ?_
    refine j_bipush (v := 15) X dX11_cut_48 (by decide) ?_
    refine j_bipush (v := 13) X dX11_cut_50 (by decide) ?_
    refine j_bipush (v := 13) X dX11_cut_52 (by decide) ?_
    obtain ⟨y_69, ey_69⟩ : ∃ zz9 : Int, zz9 = y_67 * y_67 := ⟨_, rfl⟩
    have by_69 : bd 86 y_69 := by rw [ey_69]; exact bd_mul by_67 by_67
    refine j_callV X dX11_cut_54 (n_mul l G q t n co cr po tx ty [z0, z1, z2, z3, y_65, z5, z6, z7, z8, z9, z10, z11, z12, y_67, z14, z15] sf_68 rfl hS_sf_68 15 15 rfl (by decide) 13 13 rfl (by decide) 13 13 rfl (by decide) (by decide) (by decide) y_69 ey_69) gX11_cut_X11_multiply rfl hy_X11_multiply_V ⟨Nat.le_of_ble_eq_true rfl, Nat.le_of_ble_eq_true rfl⟩ 0 rfl rfl [0, 1, 2] rfl (by decide) rfl rfl (Nat.le_of_ble_eq_true rfl) ⟨Nat.le_of_ble_eq_true rfl, Nat.le_of_ble_eq_true rfl⟩ ?_
    rintro _ sf_70 ⟨rfl, hS_sf_70⟩
    change J p l e rm_X11_cut s m args below meth c Q G A 9 0 0 57 [(0, .ref (q 0)), (1, .int 10), (2, .long w), (4, .int (-1)), (5, .int 1), (6, .int 0)] [] [(q 0, .inr (10, mF t n q co cr po tx ty)), (q 10, aI G 320 (rg [z0, z1, z2, z3, y_65, z5, z6, z7, z8, z9, z10, z11, z12, y_67, z14, y_69])), (q 11, aZ G 16 sf_70)]
    refine j_aload_n X dX11_cut_57 rfl 0 rfl ?_
    refine j_bipush (v := 7) X dX11_cut_58 (by decide) ?_
    refine j_bipush (v := 15) X dX11_cut_60 (by decide) ?_
    refine j_iconst (v := 2) X dX11_cut_62 rfl ?_
    obtain ⟨y_71, ey_71⟩ : ∃ zz9 : Int, zz9 = y_69 * z2 := ⟨_, rfl⟩
    have by_71 : bd 258 y_71 := by rw [ey_71]; exact bd_mul by_69 b2
    refine j_callV X dX11_cut_63 (n_mul l G q t n co cr po tx ty [z0, z1, z2, z3, y_65, z5, z6, z7, z8, z9, z10, z11, z12, y_67, z14, y_69] sf_70 rfl hS_sf_70 7 7 rfl (by decide) 15 15 rfl (by decide) 2 2 rfl (by decide) (by decide) (by decide) y_71 ey_71) gX11_cut_X11_multiply rfl hy_X11_multiply_V ⟨Nat.le_of_ble_eq_true rfl, Nat.le_of_ble_eq_true rfl⟩ 0 rfl rfl [0, 1, 2] rfl (by decide) rfl rfl (Nat.le_of_ble_eq_true rfl) ⟨Nat.le_of_ble_eq_true rfl, Nat.le_of_ble_eq_true rfl⟩ ?_
    rintro _ sf_72 ⟨rfl, hS_sf_72⟩
    change J p l e rm_X11_cut s m args below meth c Q G A 9 0 0 66 [(0, .ref (q 0)), (1, .int 10), (2, .long w), (4, .int (-1)), (5, .int 1), (6, .int 0)] [] [(q 0, .inr (10, mF t n q co cr po tx ty)), (q 10, aI G 320 (rg [z0, z1, z2, z3, y_65, z5, z6, y_71, z8, z9, z10, z11, z12, y_67, z14, y_69])), (q 11, aZ G 16 sf_72)]
    refine j_aload_n X dX11_cut_66 rfl 0 rfl ?_
    refine j_bipush (v := 8) X dX11_cut_67 (by decide) ?_
    refine j_bipush (v := 7) X dX11_cut_69 (by decide) ?_
    refine j_callV X dX11_cut_71 (c_X11_rootOf_8_7 l G q t n co cr po tx ty z0 z1 z2 z3 y_65 z5 z6 y_71 z8 z9 z10 z11 z12 y_67 z14 y_69 sf_72 hS_sf_72 (bd_lt319 by_71 (by decide))) gX11_cut_X11_rootOf rfl hy_X11_rootOf_V ⟨Nat.le_of_ble_eq_true rfl, Nat.le_of_ble_eq_true rfl⟩ 0 rfl rfl [0, 1, 2] rfl (by decide) rfl rfl (Nat.le_of_ble_eq_true rfl) ⟨Nat.le_of_ble_eq_true rfl, Nat.le_of_ble_eq_true rfl⟩ ?_
    rintro _ ⟨h_73, v_74, sf_75⟩ ⟨rfl, hh_730, hh_731, hh_732, hS_sf_75⟩
    dsimp only at hh_730 hh_731 hh_732 hS_sf_75
    change J p l e rm_X11_cut s m args below meth c Q G A 9 0 0 74 [(0, .ref (q 0)), (1, .int 10), (2, .long w), (4, .int (-1)), (5, .int 1), (6, .int 0)] [.int (if h_73 * h_73 = (y_71.natAbs : Int) then 1 else 0)] [(q 0, .inr (10, mF t n q co cr po tx ty)), (q 10, aI G 320 (rg [z0, z1, z2, z3, y_65, z5, z6, y_71, h_73, z9, z10, z11, ((y_71.natAbs : Int) - h_73 * h_73), y_67, v_74, y_69])), (q 11, aZ G 16 sf_75)]
    obtain ⟨w_76, ew_76⟩ : ∃ zz9 : Int, zz9 = (y_71.natAbs : Int) - h_73 * h_73 := ⟨_, rfl⟩
    rw [← ew_76] at hS_sf_75 ⊢
    have hN9 : (y_71.natAbs : Int) = w.toInt * w.toInt * z2 := by rw [ey_71, ey_69, ey_67, hq9]; exact Int.natAbs_of_nonneg (Int.mul_nonneg (sq_nn _) hR)
    rw [hN9] at hh_731 hh_732 ⊢
    have bh_73 : bd 260 h_73 := bd_of_le hh_730 (Int.le_trans (sq_ge hh_730) hh_731) (by rw [← hN9]; exact bd_abs (bd_mono by_71 (by decide)))
    refine j_topi (fun x_77 ex_77 => ?_)
    refine j_istore (L' := [(7, .int x_77), (0, .ref (q 0)), (1, .int 10), (2, .long w), (4, .int (-1)), (5, .int 1), (6, .int 0)]) X dX11_cut_74 (by decide) rfl ?_
    refine j_lload_n X dX11_cut_76 rfl 3 rfl ?_
    refine j_lconst (v := 0) X dX11_cut_77 rfl ?_
    refine j_lcmp X dX11_cut_78 ?_
    refine j_if_ne (tgt := 86) X dX11_cut_79 (by decide) (fun c_79 => ?_) (fun c_79 => ?_)
    · skip
      first | simp only [bI_0, Decidable.not_not, sg_mul, sg_e0, sg_l0, sg_g0, sg_le0, sg_ge0, cmp_eq, cmp_lt, cmp_ge, cmp_gt, cmp_le, lT0, lT1] at c_79 | simp only [Int32.le_iff_toInt_le, Int32.lt_iff_toInt_lt, ← Int32.toInt_inj, iT0, iT1, iT2, iT3, iT4, iT5, iT6, iT7, iT8, iT9, iT10, iT11, iT12, iT13, iT14, iT15, iT16, iT19, iT20, iT31, iT32, iT42, iT64, iT200, iT318, iT319, iT1000, iTm1, iTm2] at c_79 | skip
      refine j_lload_n X dX11_cut_86 rfl 3 rfl ?_
      refine j_lconst (v := 0) X dX11_cut_87 rfl ?_
      refine j_lcmp X dX11_cut_88 ?_
      refine j_if_ge (tgt := 99) X dX11_cut_89 (by decide) (fun c_89 => ?_) (fun c_89 => ?_)
      · skip
        first | simp only [bI_0, Decidable.not_not, sg_mul, sg_e0, sg_l0, sg_g0, sg_le0, sg_ge0, cmp_eq, cmp_lt, cmp_ge, cmp_gt, cmp_le, lT0, lT1] at c_89 | simp only [Int32.le_iff_toInt_le, Int32.lt_iff_toInt_lt, ← Int32.toInt_inj, iT0, iT1, iT2, iT3, iT4, iT5, iT6, iT7, iT8, iT9, iT10, iT11, iT12, iT13, iT14, iT15, iT16, iT19, iT20, iT31, iT32, iT42, iT64, iT200, iT318, iT319, iT1000, iTm1, iTm2] at c_89 | skip
        refine j_iload X dX11_cut_99 4 rfl ?_
        refine j_istore (L' := [(8, .int (-1)), (7, .int x_77), (0, .ref (q 0)), (1, .int 10), (2, .long w), (4, .int (-1)), (5, .int 1), (6, .int 0)]) X dX11_cut_101 (by decide) rfl ?_
        refine j_iload X dX11_cut_103 0 rfl ?_
        refine j_if_eq (tgt := 132) X dX11_cut_105 (by decide) (fun c9 => absurd c9 (by decide)) (fun _ => ?_)
        refine j_aload_n X dX11_cut_108 rfl 2 rfl ?_
        refine j_iconst (v := 5) X dX11_cut_109 rfl ?_
        refine j_iconst (v := 4) X dX11_cut_110 rfl ?_
        refine j_bipush (v := 8) X dX11_cut_111 (by decide) ?_
        refine j_iload X dX11_cut_113 0 rfl ?_
        refine j_if_ge (tgt := 122) X dX11_cut_115 (by decide) (fun c9 => absurd c9 (by decide)) (fun _ => ?_)
        refine j_iconst (v := 1) X dX11_cut_118 rfl ?_
        refine j_goto (tgt := 123) X dX11_cut_119 (by decide) ?_
        obtain ⟨y_78, ey_78⟩ : ∃ zz9 : Int, zz9 = y_65 - h_73 := ⟨_, rfl⟩
        have by_78 : bd 261 y_78 := by rw [ey_78]; exact bd_sub (bd_mono by_65 (by decide)) (bd_mono bh_73 (by decide))
        refine j_callV X dX11_cut_123 (n_join l G q t n co cr po tx ty [z0, z1, z2, z3, y_65, z5, z6, y_71, h_73, z9, z10, z11, w_76, y_67, v_74, y_69] sf_75 rfl hS_sf_75 5 5 rfl (by decide) 4 4 rfl (by decide) 8 8 rfl (by decide) 1 (Or.inr rfl) (by decide) (by decide) y_78 ey_78 by_65 bh_73 (by decide) (by decide)) gX11_cut_X11_join rfl hy_X11_join_V ⟨Nat.le_of_ble_eq_true rfl, Nat.le_of_ble_eq_true rfl⟩ 0 rfl rfl [0, 1, 2] rfl (by decide) rfl rfl (Nat.le_of_ble_eq_true rfl) ⟨Nat.le_of_ble_eq_true rfl, Nat.le_of_ble_eq_true rfl⟩ ?_
        rintro _ sf_79 ⟨rfl, hS_sf_79⟩
        change J p l e rm_X11_cut s m args below meth c Q G A 9 0 0 126 [(8, .int (-1)), (7, .int x_77), (0, .ref (q 0)), (1, .int 10), (2, .long w), (4, .int (-1)), (5, .int 1), (6, .int 0)] [] [(q 0, .inr (10, mF t n q co cr po tx ty)), (q 10, aI G 320 (rg [z0, z1, z2, z3, y_65, y_78, z6, y_71, h_73, z9, z10, z11, w_76, y_67, v_74, y_69])), (q 11, aZ G 16 sf_79)]
        refine j_aload_n X dX11_cut_126 rfl 2 rfl ?_
        refine j_iconst (v := 4) X dX11_cut_127 rfl ?_
        refine j_iconst (v := 5) X dX11_cut_128 rfl ?_
        refine j_callV X dX11_cut_129 (h_copy l G q t n co cr po tx ty [z0, z1, z2, z3, y_65, y_78, z6, y_71, h_73, z9, z10, z11, w_76, y_67, v_74, y_69] sf_79 rfl hS_sf_79 4 4 rfl (by decide) 5 5 rfl (by decide) (by decide)) gX11_cut_X11_copy rfl hy_X11_copy_V ⟨Nat.le_of_ble_eq_true rfl, Nat.le_of_ble_eq_true rfl⟩ 0 rfl rfl [0, 1, 2] rfl (by decide) rfl rfl (Nat.le_of_ble_eq_true rfl) ⟨Nat.le_of_ble_eq_true rfl, Nat.le_of_ble_eq_true rfl⟩ ?_
        rintro _ sf_80 ⟨rfl, hS_sf_80⟩
        change J p l e rm_X11_cut s m args below meth c Q G A 9 0 0 132 [(8, .int (-1)), (7, .int x_77), (0, .ref (q 0)), (1, .int 10), (2, .long w), (4, .int (-1)), (5, .int 1), (6, .int 0)] [] [(q 0, .inr (10, mF t n q co cr po tx ty)), (q 10, aI G 320 (rg [z0, z1, z2, z3, y_78, y_78, z6, y_71, h_73, z9, z10, z11, w_76, y_67, v_74, y_69])), (q 11, aZ G 16 sf_80)]
        refine j_iload X dX11_cut_132 0 rfl ?_
        refine j_if_ge (tgt := 164) X dX11_cut_134 (by decide) (fun c9 => absurd c9 (by decide)) (fun _ => ?_)
        refine j_iload X dX11_cut_137 1 rfl ?_
        refine j_if_ne (tgt := 164) X dX11_cut_139 (by decide) (fun c_139 => ?_) (fun c_139 => ?_)
        · skip
          rw [ex_77] at c_139
          have hEx : h_73 * h_73 = w.toInt * w.toInt * z2 := by by_cases q9 : h_73 * h_73 = w.toInt * w.toInt * z2; exact q9; rw [if_neg q9] at c_139; exact absurd rfl c_139
          refine j_aload_n X dX11_cut_164 rfl 2 rfl ?_
          refine j_bipush (v := 13) X dX11_cut_165 (by decide) ?_
          refine j_iload X dX11_cut_167 6 rfl ?_
          refine j_i2l X dX11_cut_169 rfl ?_
          obtain ⟨y_81, ey_81⟩ : ∃ zz9 : Int, zz9 = ((1 : Int32).toInt64).toInt := ⟨_, rfl⟩
          have by_81 : bd 2 y_81 := by rw [ey_81]; exact (bd_mono bd_p1 (by decide))
          refine j_callV X dX11_cut_170 (n_load l G q t n co cr po tx ty [z0, z1, z2, z3, y_78, y_78, z6, y_71, h_73, z9, z10, z11, w_76, y_67, v_74, y_69] sf_80 rfl hS_sf_80 13 13 rfl (by decide) ((1 : Int32).toInt64) y_81 ey_81) gX11_cut_X11_load rfl hy_X11_load_V ⟨Nat.le_of_ble_eq_true rfl, Nat.le_of_ble_eq_true rfl⟩ 0 rfl rfl [0, 1, 2] rfl (by decide) rfl rfl (Nat.le_of_ble_eq_true rfl) ⟨Nat.le_of_ble_eq_true rfl, Nat.le_of_ble_eq_true rfl⟩ ?_
          rintro _ sf_82 ⟨rfl, hS_sf_82⟩
          change J p l e rm_X11_cut s m args below meth c Q G A 9 0 0 173 [(8, .int (-1)), (7, .int x_77), (0, .ref (q 0)), (1, .int 10), (2, .long w), (4, .int (-1)), (5, .int 1), (6, .int 0)] [] [(q 0, .inr (10, mF t n q co cr po tx ty)), (q 10, aI G 320 (rg [z0, z1, z2, z3, y_78, y_78, z6, y_71, h_73, z9, z10, z11, w_76, y_81, v_74, y_69])), (q 11, aZ G 16 sf_82)]
          refine j_aload_n X dX11_cut_173 rfl 2 rfl ?_
          refine j_bipush (v := 9) X dX11_cut_174 (by decide) ?_
          refine j_bipush (v := 13) X dX11_cut_176 (by decide) ?_
          refine j_iconst (v := 3) X dX11_cut_178 rfl ?_
          obtain ⟨y_83, ey_83⟩ : ∃ zz9 : Int, zz9 = y_81 * z3 := ⟨_, rfl⟩
          have by_83 : bd 86 y_83 := by rw [ey_83]; exact bd_mul by_81 b3
          refine j_callV X dX11_cut_179 (n_mul l G q t n co cr po tx ty [z0, z1, z2, z3, y_78, y_78, z6, y_71, h_73, z9, z10, z11, w_76, y_81, v_74, y_69] sf_82 rfl hS_sf_82 9 9 rfl (by decide) 13 13 rfl (by decide) 3 3 rfl (by decide) (by decide) (by decide) y_83 ey_83) gX11_cut_X11_multiply rfl hy_X11_multiply_V ⟨Nat.le_of_ble_eq_true rfl, Nat.le_of_ble_eq_true rfl⟩ 0 rfl rfl [0, 1, 2] rfl (by decide) rfl rfl (Nat.le_of_ble_eq_true rfl) ⟨Nat.le_of_ble_eq_true rfl, Nat.le_of_ble_eq_true rfl⟩ ?_
          rintro _ sf_84 ⟨rfl, hS_sf_84⟩
          change J p l e rm_X11_cut s m args below meth c Q G A 9 0 0 182 [(8, .int (-1)), (7, .int x_77), (0, .ref (q 0)), (1, .int 10), (2, .long w), (4, .int (-1)), (5, .int 1), (6, .int 0)] [] [(q 0, .inr (10, mF t n q co cr po tx ty)), (q 10, aI G 320 (rg [z0, z1, z2, z3, y_78, y_78, z6, y_71, h_73, y_83, z10, z11, w_76, y_81, v_74, y_69])), (q 11, aZ G 16 sf_84)]
          have hM8 : y_83 = z3 := by rw [ey_83, ey_81, i64_p]; exact Int.one_mul _
          have hM9 : (y_83.natAbs : Int) = z3 := by omega
          refine j_aload_n X dX11_cut_182 rfl 2 rfl ?_
          refine j_bipush (v := 6) X dX11_cut_183 (by decide) ?_
          refine j_iconst (v := 4) X dX11_cut_185 rfl ?_
          refine j_bipush (v := 9) X dX11_cut_186 (by decide) ?_
          obtain ⟨y_85, ey_85⟩ : ∃ zz9 : Int, zz9 = y_78 / (y_83.natAbs : Int) := ⟨_, rfl⟩
          obtain ⟨y_86, ey_86⟩ : ∃ zz9 : Int, zz9 = (y_78.natAbs : Int) % (y_83.natAbs : Int) := ⟨_, rfl⟩
          refine j_callV X dX11_cut_188 (n_divide_6_4_9 l G q t n co cr po tx ty z0 z1 z2 z3 y_78 y_78 z6 y_71 h_73 y_83 z10 z11 w_76 y_81 v_74 y_69 sf_84 hS_sf_84 (by omega) by_83 by_78 (by decide) (by decide) y_85 y_86 ey_85 ey_86) gX11_cut_X11_divide rfl hy_X11_divide_V ⟨Nat.le_of_ble_eq_true rfl, Nat.le_of_ble_eq_true rfl⟩ 0 rfl rfl [0, 1, 2] rfl (by decide) rfl rfl (Nat.le_of_ble_eq_true rfl) ⟨Nat.le_of_ble_eq_true rfl, Nat.le_of_ble_eq_true rfl⟩ ?_
          rintro _ ⟨v_87, v_88, sf_89⟩ ⟨rfl, hS_sf_89⟩
          change J p l e rm_X11_cut s m args below meth c Q G A 9 0 0 191 [(8, .int (-1)), (7, .int x_77), (0, .ref (q 0)), (1, .int 10), (2, .long w), (4, .int (-1)), (5, .int 1), (6, .int 0)] [] [(q 0, .inr (10, mF t n q co cr po tx ty)), (q 10, aI G 320 (rg [z0, z1, z2, z3, y_78, y_78, y_85, y_71, h_73, y_83, z10, z11, y_86, y_81, v_87, v_88])), (q 11, aZ G 16 sf_89)]
          exact E.1 191 _ (y_78, y_78, y_85, y_71, h_73, y_83, y_86, y_81, v_87, v_88, sf_89) dX11_cut_191 (⟨rfl, ⟨h_73, ⟨hh_730, hh_731, hh_732⟩, by dsimp only; rw [fl_n (show sg ((-1 : Int32).toInt * w.toInt) = -1 from by rw [iTm1, Int.neg_one_mul]; rw [sg_neg (by omega)]) hEx, ey_85, hM9] <;> (congr 1 <;> omega)⟩, hS_sf_89⟩) hr
        · skip
          rw [ex_77] at c_139
          have hEx : ¬ h_73 * h_73 = w.toInt * w.toInt * z2 := by intro q9; rw [if_pos q9] at c_139; exact absurd c_139 (by decide)
          refine j_aload_n X dX11_cut_142 rfl 2 rfl ?_
          refine j_bipush (v := 15) X dX11_cut_143 (by decide) ?_
          refine j_lconst (v := 1) X dX11_cut_145 rfl ?_
          obtain ⟨y_90, ey_90⟩ : ∃ zz9 : Int, zz9 = 1 := ⟨_, rfl⟩
          have by_90 : bd 1 y_90 := by rw [ey_90]; exact (by decide : Int.natAbs 1 ≤ 2 ^ 1)
          refine j_callV X dX11_cut_146 (n_load l G q t n co cr po tx ty [z0, z1, z2, z3, y_78, y_78, z6, y_71, h_73, z9, z10, z11, w_76, y_67, v_74, y_69] sf_80 rfl hS_sf_80 15 15 rfl (by decide) 1 y_90 (by rw [ey_90]; rfl)) gX11_cut_X11_load rfl hy_X11_load_V ⟨Nat.le_of_ble_eq_true rfl, Nat.le_of_ble_eq_true rfl⟩ 0 rfl rfl [0, 1, 2] rfl (by decide) rfl rfl (Nat.le_of_ble_eq_true rfl) ⟨Nat.le_of_ble_eq_true rfl, Nat.le_of_ble_eq_true rfl⟩ ?_
          rintro _ sf_91 ⟨rfl, hS_sf_91⟩
          change J p l e rm_X11_cut s m args below meth c Q G A 9 0 0 149 [(8, .int (-1)), (7, .int x_77), (0, .ref (q 0)), (1, .int 10), (2, .long w), (4, .int (-1)), (5, .int 1), (6, .int 0)] [] [(q 0, .inr (10, mF t n q co cr po tx ty)), (q 10, aI G 320 (rg [z0, z1, z2, z3, y_78, y_78, z6, y_71, h_73, z9, z10, z11, w_76, y_67, v_74, y_90])), (q 11, aZ G 16 sf_91)]
          refine j_aload_n X dX11_cut_149 rfl 2 rfl ?_
          refine j_iconst (v := 5) X dX11_cut_150 rfl ?_
          refine j_iconst (v := 4) X dX11_cut_151 rfl ?_
          refine j_bipush (v := 15) X dX11_cut_152 (by decide) ?_
          refine j_iconst (v := 1) X dX11_cut_154 rfl ?_
          obtain ⟨y_92, ey_92⟩ : ∃ zz9 : Int, zz9 = y_78 - y_90 := ⟨_, rfl⟩
          have by_92 : bd 262 y_92 := by rw [ey_92]; exact bd_sub (bd_mono by_78 (by decide)) (bd_mono by_90 (by decide))
          refine j_callV X dX11_cut_155 (n_join l G q t n co cr po tx ty [z0, z1, z2, z3, y_78, y_78, z6, y_71, h_73, z9, z10, z11, w_76, y_67, v_74, y_90] sf_91 rfl hS_sf_91 5 5 rfl (by decide) 4 4 rfl (by decide) 15 15 rfl (by decide) 1 (Or.inr rfl) (by decide) (by decide) y_92 ey_92 by_78 by_90 (by decide) (by decide)) gX11_cut_X11_join rfl hy_X11_join_V ⟨Nat.le_of_ble_eq_true rfl, Nat.le_of_ble_eq_true rfl⟩ 0 rfl rfl [0, 1, 2] rfl (by decide) rfl rfl (Nat.le_of_ble_eq_true rfl) ⟨Nat.le_of_ble_eq_true rfl, Nat.le_of_ble_eq_true rfl⟩ ?_
          rintro _ sf_93 ⟨rfl, hS_sf_93⟩
          change J p l e rm_X11_cut s m args below meth c Q G A 9 0 0 158 [(8, .int (-1)), (7, .int x_77), (0, .ref (q 0)), (1, .int 10), (2, .long w), (4, .int (-1)), (5, .int 1), (6, .int 0)] [] [(q 0, .inr (10, mF t n q co cr po tx ty)), (q 10, aI G 320 (rg [z0, z1, z2, z3, y_78, y_92, z6, y_71, h_73, z9, z10, z11, w_76, y_67, v_74, y_90])), (q 11, aZ G 16 sf_93)]
          refine j_aload_n X dX11_cut_158 rfl 2 rfl ?_
          refine j_iconst (v := 4) X dX11_cut_159 rfl ?_
          refine j_iconst (v := 5) X dX11_cut_160 rfl ?_
          refine j_callV X dX11_cut_161 (h_copy l G q t n co cr po tx ty [z0, z1, z2, z3, y_78, y_92, z6, y_71, h_73, z9, z10, z11, w_76, y_67, v_74, y_90] sf_93 rfl hS_sf_93 4 4 rfl (by decide) 5 5 rfl (by decide) (by decide)) gX11_cut_X11_copy rfl hy_X11_copy_V ⟨Nat.le_of_ble_eq_true rfl, Nat.le_of_ble_eq_true rfl⟩ 0 rfl rfl [0, 1, 2] rfl (by decide) rfl rfl (Nat.le_of_ble_eq_true rfl) ⟨Nat.le_of_ble_eq_true rfl, Nat.le_of_ble_eq_true rfl⟩ ?_
          rintro _ sf_94 ⟨rfl, hS_sf_94⟩
          change J p l e rm_X11_cut s m args below meth c Q G A 9 0 0 164 [(8, .int (-1)), (7, .int x_77), (0, .ref (q 0)), (1, .int 10), (2, .long w), (4, .int (-1)), (5, .int 1), (6, .int 0)] [] [(q 0, .inr (10, mF t n q co cr po tx ty)), (q 10, aI G 320 (rg [z0, z1, z2, z3, y_92, y_92, z6, y_71, h_73, z9, z10, z11, w_76, y_67, v_74, y_90])), (q 11, aZ G 16 sf_94)]
          refine j_aload_n X dX11_cut_164 rfl 2 rfl ?_
          refine j_bipush (v := 13) X dX11_cut_165 (by decide) ?_
          refine j_iload X dX11_cut_167 6 rfl ?_
          refine j_i2l X dX11_cut_169 rfl ?_
          obtain ⟨y_95, ey_95⟩ : ∃ zz9 : Int, zz9 = ((1 : Int32).toInt64).toInt := ⟨_, rfl⟩
          have by_95 : bd 2 y_95 := by rw [ey_95]; exact (bd_mono bd_p1 (by decide))
          refine j_callV X dX11_cut_170 (n_load l G q t n co cr po tx ty [z0, z1, z2, z3, y_92, y_92, z6, y_71, h_73, z9, z10, z11, w_76, y_67, v_74, y_90] sf_94 rfl hS_sf_94 13 13 rfl (by decide) ((1 : Int32).toInt64) y_95 ey_95) gX11_cut_X11_load rfl hy_X11_load_V ⟨Nat.le_of_ble_eq_true rfl, Nat.le_of_ble_eq_true rfl⟩ 0 rfl rfl [0, 1, 2] rfl (by decide) rfl rfl (Nat.le_of_ble_eq_true rfl) ⟨Nat.le_of_ble_eq_true rfl, Nat.le_of_ble_eq_true rfl⟩ ?_
          rintro _ sf_96 ⟨rfl, hS_sf_96⟩
          change J p l e rm_X11_cut s m args below meth c Q G A 9 0 0 173 [(8, .int (-1)), (7, .int x_77), (0, .ref (q 0)), (1, .int 10), (2, .long w), (4, .int (-1)), (5, .int 1), (6, .int 0)] [] [(q 0, .inr (10, mF t n q co cr po tx ty)), (q 10, aI G 320 (rg [z0, z1, z2, z3, y_92, y_92, z6, y_71, h_73, z9, z10, z11, w_76, y_95, v_74, y_90])), (q 11, aZ G 16 sf_96)]
          refine j_aload_n X dX11_cut_173 rfl 2 rfl ?_
          refine j_bipush (v := 9) X dX11_cut_174 (by decide) ?_
          refine j_bipush (v := 13) X dX11_cut_176 (by decide) ?_
          refine j_iconst (v := 3) X dX11_cut_178 rfl ?_
          obtain ⟨y_97, ey_97⟩ : ∃ zz9 : Int, zz9 = y_95 * z3 := ⟨_, rfl⟩
          have by_97 : bd 86 y_97 := by rw [ey_97]; exact bd_mul by_95 b3
          refine j_callV X dX11_cut_179 (n_mul l G q t n co cr po tx ty [z0, z1, z2, z3, y_92, y_92, z6, y_71, h_73, z9, z10, z11, w_76, y_95, v_74, y_90] sf_96 rfl hS_sf_96 9 9 rfl (by decide) 13 13 rfl (by decide) 3 3 rfl (by decide) (by decide) (by decide) y_97 ey_97) gX11_cut_X11_multiply rfl hy_X11_multiply_V ⟨Nat.le_of_ble_eq_true rfl, Nat.le_of_ble_eq_true rfl⟩ 0 rfl rfl [0, 1, 2] rfl (by decide) rfl rfl (Nat.le_of_ble_eq_true rfl) ⟨Nat.le_of_ble_eq_true rfl, Nat.le_of_ble_eq_true rfl⟩ ?_
          rintro _ sf_98 ⟨rfl, hS_sf_98⟩
          change J p l e rm_X11_cut s m args below meth c Q G A 9 0 0 182 [(8, .int (-1)), (7, .int x_77), (0, .ref (q 0)), (1, .int 10), (2, .long w), (4, .int (-1)), (5, .int 1), (6, .int 0)] [] [(q 0, .inr (10, mF t n q co cr po tx ty)), (q 10, aI G 320 (rg [z0, z1, z2, z3, y_92, y_92, z6, y_71, h_73, y_97, z10, z11, w_76, y_95, v_74, y_90])), (q 11, aZ G 16 sf_98)]
          have hM8 : y_97 = z3 := by rw [ey_97, ey_95, i64_p]; exact Int.one_mul _
          have hM9 : (y_97.natAbs : Int) = z3 := by omega
          refine j_aload_n X dX11_cut_182 rfl 2 rfl ?_
          refine j_bipush (v := 6) X dX11_cut_183 (by decide) ?_
          refine j_iconst (v := 4) X dX11_cut_185 rfl ?_
          refine j_bipush (v := 9) X dX11_cut_186 (by decide) ?_
          obtain ⟨y_99, ey_99⟩ : ∃ zz9 : Int, zz9 = y_92 / (y_97.natAbs : Int) := ⟨_, rfl⟩
          obtain ⟨y_100, ey_100⟩ : ∃ zz9 : Int, zz9 = (y_92.natAbs : Int) % (y_97.natAbs : Int) := ⟨_, rfl⟩
          refine j_callV X dX11_cut_188 (n_divide_6_4_9 l G q t n co cr po tx ty z0 z1 z2 z3 y_92 y_92 z6 y_71 h_73 y_97 z10 z11 w_76 y_95 v_74 y_90 sf_98 hS_sf_98 (by omega) by_97 by_92 (by decide) (by decide) y_99 y_100 ey_99 ey_100) gX11_cut_X11_divide rfl hy_X11_divide_V ⟨Nat.le_of_ble_eq_true rfl, Nat.le_of_ble_eq_true rfl⟩ 0 rfl rfl [0, 1, 2] rfl (by decide) rfl rfl (Nat.le_of_ble_eq_true rfl) ⟨Nat.le_of_ble_eq_true rfl, Nat.le_of_ble_eq_true rfl⟩ ?_
          rintro _ ⟨v_101, v_102, sf_103⟩ ⟨rfl, hS_sf_103⟩
          change J p l e rm_X11_cut s m args below meth c Q G A 9 0 0 191 [(8, .int (-1)), (7, .int x_77), (0, .ref (q 0)), (1, .int 10), (2, .long w), (4, .int (-1)), (5, .int 1), (6, .int 0)] [] [(q 0, .inr (10, mF t n q co cr po tx ty)), (q 10, aI G 320 (rg [z0, z1, z2, z3, y_92, y_92, y_99, y_71, h_73, y_97, z10, z11, y_100, y_95, v_101, v_102])), (q 11, aZ G 16 sf_103)]
          exact E.1 191 _ (y_92, y_92, y_99, y_71, h_73, y_97, y_100, y_95, v_101, v_102, sf_103) dX11_cut_191 (⟨rfl, ⟨h_73, ⟨hh_730, hh_731, hh_732⟩, by dsimp only; rw [fl_m (show sg ((-1 : Int32).toInt * w.toInt) = -1 from by rw [iTm1, Int.neg_one_mul]; rw [sg_neg (by omega)]) hEx, ey_99, hM9] <;> (congr 1 <;> omega)⟩, hS_sf_103⟩) hr
      · skip
        first | simp only [bI_0, Decidable.not_not, sg_mul, sg_e0, sg_l0, sg_g0, sg_le0, sg_ge0, cmp_eq, cmp_lt, cmp_ge, cmp_gt, cmp_le, lT0, lT1] at c_89 | simp only [Int32.le_iff_toInt_le, Int32.lt_iff_toInt_lt, ← Int32.toInt_inj, iT0, iT1, iT2, iT3, iT4, iT5, iT6, iT7, iT8, iT9, iT10, iT11, iT12, iT13, iT14, iT15, iT16, iT19, iT20, iT31, iT32, iT42, iT64, iT200, iT318, iT319, iT1000, iTm1, iTm2] at c_89 | skip
        refine j_iconst (v := 0) X dX11_cut_92 rfl ?_
        refine j_iload X dX11_cut_93 4 rfl ?_
        refine j_isub X dX11_cut_95 ?_
        rw [show (0 : Int32) - (-1) = 1 from by decide]
        refine j_goto (tgt := 101) X dX11_cut_96 (by decide) ?_
        refine j_istore (L' := [(8, .int 1), (7, .int x_77), (0, .ref (q 0)), (1, .int 10), (2, .long w), (4, .int (-1)), (5, .int 1), (6, .int 0)]) X dX11_cut_101 (by decide) rfl ?_
        refine j_iload X dX11_cut_103 0 rfl ?_
        refine j_if_eq (tgt := 132) X dX11_cut_105 (by decide) (fun c9 => absurd c9 (by decide)) (fun _ => ?_)
        refine j_aload_n X dX11_cut_108 rfl 2 rfl ?_
        refine j_iconst (v := 5) X dX11_cut_109 rfl ?_
        refine j_iconst (v := 4) X dX11_cut_110 rfl ?_
        refine j_bipush (v := 8) X dX11_cut_111 (by decide) ?_
        refine j_iload X dX11_cut_113 0 rfl ?_
        refine j_if_ge (tgt := 122) X dX11_cut_115 (by decide) (fun _ => ?_) (fun c9 => absurd c9 (by decide))
        refine j_iconst (v := 0) X dX11_cut_122 rfl ?_
        obtain ⟨y_104, ey_104⟩ : ∃ zz9 : Int, zz9 = y_65 + h_73 := ⟨_, rfl⟩
        have by_104 : bd 261 y_104 := by rw [ey_104]; exact bd_add (bd_mono by_65 (by decide)) (bd_mono bh_73 (by decide))
        refine j_callV X dX11_cut_123 (n_join l G q t n co cr po tx ty [z0, z1, z2, z3, y_65, z5, z6, y_71, h_73, z9, z10, z11, w_76, y_67, v_74, y_69] sf_75 rfl hS_sf_75 5 5 rfl (by decide) 4 4 rfl (by decide) 8 8 rfl (by decide) 0 (Or.inl rfl) (by decide) (by decide) y_104 ey_104 by_65 bh_73 (by decide) (by decide)) gX11_cut_X11_join rfl hy_X11_join_V ⟨Nat.le_of_ble_eq_true rfl, Nat.le_of_ble_eq_true rfl⟩ 0 rfl rfl [0, 1, 2] rfl (by decide) rfl rfl (Nat.le_of_ble_eq_true rfl) ⟨Nat.le_of_ble_eq_true rfl, Nat.le_of_ble_eq_true rfl⟩ ?_
        rintro _ sf_105 ⟨rfl, hS_sf_105⟩
        change J p l e rm_X11_cut s m args below meth c Q G A 9 0 0 126 [(8, .int 1), (7, .int x_77), (0, .ref (q 0)), (1, .int 10), (2, .long w), (4, .int (-1)), (5, .int 1), (6, .int 0)] [] [(q 0, .inr (10, mF t n q co cr po tx ty)), (q 10, aI G 320 (rg [z0, z1, z2, z3, y_65, y_104, z6, y_71, h_73, z9, z10, z11, w_76, y_67, v_74, y_69])), (q 11, aZ G 16 sf_105)]
        refine j_aload_n X dX11_cut_126 rfl 2 rfl ?_
        refine j_iconst (v := 4) X dX11_cut_127 rfl ?_
        refine j_iconst (v := 5) X dX11_cut_128 rfl ?_
        refine j_callV X dX11_cut_129 (h_copy l G q t n co cr po tx ty [z0, z1, z2, z3, y_65, y_104, z6, y_71, h_73, z9, z10, z11, w_76, y_67, v_74, y_69] sf_105 rfl hS_sf_105 4 4 rfl (by decide) 5 5 rfl (by decide) (by decide)) gX11_cut_X11_copy rfl hy_X11_copy_V ⟨Nat.le_of_ble_eq_true rfl, Nat.le_of_ble_eq_true rfl⟩ 0 rfl rfl [0, 1, 2] rfl (by decide) rfl rfl (Nat.le_of_ble_eq_true rfl) ⟨Nat.le_of_ble_eq_true rfl, Nat.le_of_ble_eq_true rfl⟩ ?_
        rintro _ sf_106 ⟨rfl, hS_sf_106⟩
        change J p l e rm_X11_cut s m args below meth c Q G A 9 0 0 132 [(8, .int 1), (7, .int x_77), (0, .ref (q 0)), (1, .int 10), (2, .long w), (4, .int (-1)), (5, .int 1), (6, .int 0)] [] [(q 0, .inr (10, mF t n q co cr po tx ty)), (q 10, aI G 320 (rg [z0, z1, z2, z3, y_104, y_104, z6, y_71, h_73, z9, z10, z11, w_76, y_67, v_74, y_69])), (q 11, aZ G 16 sf_106)]
        refine j_iload X dX11_cut_132 0 rfl ?_
        refine j_if_ge (tgt := 164) X dX11_cut_134 (by decide) (fun _ => ?_) (fun c9 => absurd c9 (by decide))
        refine j_aload_n X dX11_cut_164 rfl 2 rfl ?_
        refine j_bipush (v := 13) X dX11_cut_165 (by decide) ?_
        refine j_iload X dX11_cut_167 6 rfl ?_
        refine j_i2l X dX11_cut_169 rfl ?_
        obtain ⟨y_107, ey_107⟩ : ∃ zz9 : Int, zz9 = ((1 : Int32).toInt64).toInt := ⟨_, rfl⟩
        have by_107 : bd 2 y_107 := by rw [ey_107]; exact (bd_mono bd_p1 (by decide))
        refine j_callV X dX11_cut_170 (n_load l G q t n co cr po tx ty [z0, z1, z2, z3, y_104, y_104, z6, y_71, h_73, z9, z10, z11, w_76, y_67, v_74, y_69] sf_106 rfl hS_sf_106 13 13 rfl (by decide) ((1 : Int32).toInt64) y_107 ey_107) gX11_cut_X11_load rfl hy_X11_load_V ⟨Nat.le_of_ble_eq_true rfl, Nat.le_of_ble_eq_true rfl⟩ 0 rfl rfl [0, 1, 2] rfl (by decide) rfl rfl (Nat.le_of_ble_eq_true rfl) ⟨Nat.le_of_ble_eq_true rfl, Nat.le_of_ble_eq_true rfl⟩ ?_
        rintro _ sf_108 ⟨rfl, hS_sf_108⟩
        change J p l e rm_X11_cut s m args below meth c Q G A 9 0 0 173 [(8, .int 1), (7, .int x_77), (0, .ref (q 0)), (1, .int 10), (2, .long w), (4, .int (-1)), (5, .int 1), (6, .int 0)] [] [(q 0, .inr (10, mF t n q co cr po tx ty)), (q 10, aI G 320 (rg [z0, z1, z2, z3, y_104, y_104, z6, y_71, h_73, z9, z10, z11, w_76, y_107, v_74, y_69])), (q 11, aZ G 16 sf_108)]
        refine j_aload_n X dX11_cut_173 rfl 2 rfl ?_
        refine j_bipush (v := 9) X dX11_cut_174 (by decide) ?_
        refine j_bipush (v := 13) X dX11_cut_176 (by decide) ?_
        refine j_iconst (v := 3) X dX11_cut_178 rfl ?_
        obtain ⟨y_109, ey_109⟩ : ∃ zz9 : Int, zz9 = y_107 * z3 := ⟨_, rfl⟩
        have by_109 : bd 86 y_109 := by rw [ey_109]; exact bd_mul by_107 b3
        refine j_callV X dX11_cut_179 (n_mul l G q t n co cr po tx ty [z0, z1, z2, z3, y_104, y_104, z6, y_71, h_73, z9, z10, z11, w_76, y_107, v_74, y_69] sf_108 rfl hS_sf_108 9 9 rfl (by decide) 13 13 rfl (by decide) 3 3 rfl (by decide) (by decide) (by decide) y_109 ey_109) gX11_cut_X11_multiply rfl hy_X11_multiply_V ⟨Nat.le_of_ble_eq_true rfl, Nat.le_of_ble_eq_true rfl⟩ 0 rfl rfl [0, 1, 2] rfl (by decide) rfl rfl (Nat.le_of_ble_eq_true rfl) ⟨Nat.le_of_ble_eq_true rfl, Nat.le_of_ble_eq_true rfl⟩ ?_
        rintro _ sf_110 ⟨rfl, hS_sf_110⟩
        change J p l e rm_X11_cut s m args below meth c Q G A 9 0 0 182 [(8, .int 1), (7, .int x_77), (0, .ref (q 0)), (1, .int 10), (2, .long w), (4, .int (-1)), (5, .int 1), (6, .int 0)] [] [(q 0, .inr (10, mF t n q co cr po tx ty)), (q 10, aI G 320 (rg [z0, z1, z2, z3, y_104, y_104, z6, y_71, h_73, y_109, z10, z11, w_76, y_107, v_74, y_69])), (q 11, aZ G 16 sf_110)]
        have hM8 : y_109 = z3 := by rw [ey_109, ey_107, i64_p]; exact Int.one_mul _
        have hM9 : (y_109.natAbs : Int) = z3 := by omega
        refine j_aload_n X dX11_cut_182 rfl 2 rfl ?_
        refine j_bipush (v := 6) X dX11_cut_183 (by decide) ?_
        refine j_iconst (v := 4) X dX11_cut_185 rfl ?_
        refine j_bipush (v := 9) X dX11_cut_186 (by decide) ?_
        obtain ⟨y_111, ey_111⟩ : ∃ zz9 : Int, zz9 = y_104 / (y_109.natAbs : Int) := ⟨_, rfl⟩
        obtain ⟨y_112, ey_112⟩ : ∃ zz9 : Int, zz9 = (y_104.natAbs : Int) % (y_109.natAbs : Int) := ⟨_, rfl⟩
        refine j_callV X dX11_cut_188 (n_divide_6_4_9 l G q t n co cr po tx ty z0 z1 z2 z3 y_104 y_104 z6 y_71 h_73 y_109 z10 z11 w_76 y_107 v_74 y_69 sf_110 hS_sf_110 (by omega) by_109 by_104 (by decide) (by decide) y_111 y_112 ey_111 ey_112) gX11_cut_X11_divide rfl hy_X11_divide_V ⟨Nat.le_of_ble_eq_true rfl, Nat.le_of_ble_eq_true rfl⟩ 0 rfl rfl [0, 1, 2] rfl (by decide) rfl rfl (Nat.le_of_ble_eq_true rfl) ⟨Nat.le_of_ble_eq_true rfl, Nat.le_of_ble_eq_true rfl⟩ ?_
        rintro _ ⟨v_113, v_114, sf_115⟩ ⟨rfl, hS_sf_115⟩
        change J p l e rm_X11_cut s m args below meth c Q G A 9 0 0 191 [(8, .int 1), (7, .int x_77), (0, .ref (q 0)), (1, .int 10), (2, .long w), (4, .int (-1)), (5, .int 1), (6, .int 0)] [] [(q 0, .inr (10, mF t n q co cr po tx ty)), (q 10, aI G 320 (rg [z0, z1, z2, z3, y_104, y_104, y_111, y_71, h_73, y_109, z10, z11, y_112, y_107, v_113, v_114])), (q 11, aZ G 16 sf_115)]
        exact E.1 191 _ (y_104, y_104, y_111, y_71, h_73, y_109, y_112, y_107, v_113, v_114, sf_115) dX11_cut_191 (⟨rfl, ⟨h_73, ⟨hh_730, hh_731, hh_732⟩, by dsimp only; rw [fl_p (show sg ((-1 : Int32).toInt * w.toInt) = 1 from by rw [iTm1, Int.neg_one_mul]; rw [sg_pos (by omega)]), ey_111, hM9] <;> (congr 1 <;> omega)⟩, hS_sf_115⟩) hr
    · skip
      first | simp only [bI_0, Decidable.not_not, sg_mul, sg_e0, sg_l0, sg_g0, sg_le0, sg_ge0, cmp_eq, cmp_lt, cmp_ge, cmp_gt, cmp_le, lT0, lT1] at c_79 | simp only [Int32.le_iff_toInt_le, Int32.lt_iff_toInt_lt, ← Int32.toInt_inj, iT0, iT1, iT2, iT3, iT4, iT5, iT6, iT7, iT8, iT9, iT10, iT11, iT12, iT13, iT14, iT15, iT16, iT19, iT20, iT31, iT32, iT42, iT64, iT200, iT318, iT319, iT1000, iTm1, iTm2] at c_79 | skip
      refine j_iconst (v := 0) X dX11_cut_82 rfl ?_
      refine j_goto (tgt := 101) X dX11_cut_83 (by decide) ?_
      refine j_istore (L' := [(8, .int 0), (7, .int x_77), (0, .ref (q 0)), (1, .int 10), (2, .long w), (4, .int (-1)), (5, .int 1), (6, .int 0)]) X dX11_cut_101 (by decide) rfl ?_
      refine j_iload X dX11_cut_103 0 rfl ?_
      refine j_if_eq (tgt := 132) X dX11_cut_105 (by decide) (fun _ => ?_) (fun c9 => absurd c9 (by decide))
      refine j_iload X dX11_cut_132 0 rfl ?_
      refine j_if_ge (tgt := 164) X dX11_cut_134 (by decide) (fun _ => ?_) (fun c9 => absurd c9 (by decide))
      refine j_aload_n X dX11_cut_164 rfl 2 rfl ?_
      refine j_bipush (v := 13) X dX11_cut_165 (by decide) ?_
      refine j_iload X dX11_cut_167 6 rfl ?_
      refine j_i2l X dX11_cut_169 rfl ?_
      obtain ⟨y_116, ey_116⟩ : ∃ zz9 : Int, zz9 = ((1 : Int32).toInt64).toInt := ⟨_, rfl⟩
      have by_116 : bd 2 y_116 := by rw [ey_116]; exact (bd_mono bd_p1 (by decide))
      refine j_callV X dX11_cut_170 (n_load l G q t n co cr po tx ty [z0, z1, z2, z3, y_65, z5, z6, y_71, h_73, z9, z10, z11, w_76, y_67, v_74, y_69] sf_75 rfl hS_sf_75 13 13 rfl (by decide) ((1 : Int32).toInt64) y_116 ey_116) gX11_cut_X11_load rfl hy_X11_load_V ⟨Nat.le_of_ble_eq_true rfl, Nat.le_of_ble_eq_true rfl⟩ 0 rfl rfl [0, 1, 2] rfl (by decide) rfl rfl (Nat.le_of_ble_eq_true rfl) ⟨Nat.le_of_ble_eq_true rfl, Nat.le_of_ble_eq_true rfl⟩ ?_
      rintro _ sf_117 ⟨rfl, hS_sf_117⟩
      change J p l e rm_X11_cut s m args below meth c Q G A 9 0 0 173 [(8, .int 0), (7, .int x_77), (0, .ref (q 0)), (1, .int 10), (2, .long w), (4, .int (-1)), (5, .int 1), (6, .int 0)] [] [(q 0, .inr (10, mF t n q co cr po tx ty)), (q 10, aI G 320 (rg [z0, z1, z2, z3, y_65, z5, z6, y_71, h_73, z9, z10, z11, w_76, y_116, v_74, y_69])), (q 11, aZ G 16 sf_117)]
      refine j_aload_n X dX11_cut_173 rfl 2 rfl ?_
      refine j_bipush (v := 9) X dX11_cut_174 (by decide) ?_
      refine j_bipush (v := 13) X dX11_cut_176 (by decide) ?_
      refine j_iconst (v := 3) X dX11_cut_178 rfl ?_
      obtain ⟨y_118, ey_118⟩ : ∃ zz9 : Int, zz9 = y_116 * z3 := ⟨_, rfl⟩
      have by_118 : bd 86 y_118 := by rw [ey_118]; exact bd_mul by_116 b3
      refine j_callV X dX11_cut_179 (n_mul l G q t n co cr po tx ty [z0, z1, z2, z3, y_65, z5, z6, y_71, h_73, z9, z10, z11, w_76, y_116, v_74, y_69] sf_117 rfl hS_sf_117 9 9 rfl (by decide) 13 13 rfl (by decide) 3 3 rfl (by decide) (by decide) (by decide) y_118 ey_118) gX11_cut_X11_multiply rfl hy_X11_multiply_V ⟨Nat.le_of_ble_eq_true rfl, Nat.le_of_ble_eq_true rfl⟩ 0 rfl rfl [0, 1, 2] rfl (by decide) rfl rfl (Nat.le_of_ble_eq_true rfl) ⟨Nat.le_of_ble_eq_true rfl, Nat.le_of_ble_eq_true rfl⟩ ?_
      rintro _ sf_119 ⟨rfl, hS_sf_119⟩
      change J p l e rm_X11_cut s m args below meth c Q G A 9 0 0 182 [(8, .int 0), (7, .int x_77), (0, .ref (q 0)), (1, .int 10), (2, .long w), (4, .int (-1)), (5, .int 1), (6, .int 0)] [] [(q 0, .inr (10, mF t n q co cr po tx ty)), (q 10, aI G 320 (rg [z0, z1, z2, z3, y_65, z5, z6, y_71, h_73, y_118, z10, z11, w_76, y_116, v_74, y_69])), (q 11, aZ G 16 sf_119)]
      have hM8 : y_118 = z3 := by rw [ey_118, ey_116, i64_p]; exact Int.one_mul _
      have hM9 : (y_118.natAbs : Int) = z3 := by omega
      refine j_aload_n X dX11_cut_182 rfl 2 rfl ?_
      refine j_bipush (v := 6) X dX11_cut_183 (by decide) ?_
      refine j_iconst (v := 4) X dX11_cut_185 rfl ?_
      refine j_bipush (v := 9) X dX11_cut_186 (by decide) ?_
      obtain ⟨y_120, ey_120⟩ : ∃ zz9 : Int, zz9 = y_65 / (y_118.natAbs : Int) := ⟨_, rfl⟩
      obtain ⟨y_121, ey_121⟩ : ∃ zz9 : Int, zz9 = (y_65.natAbs : Int) % (y_118.natAbs : Int) := ⟨_, rfl⟩
      refine j_callV X dX11_cut_188 (n_divide_6_4_9 l G q t n co cr po tx ty z0 z1 z2 z3 y_65 z5 z6 y_71 h_73 y_118 z10 z11 w_76 y_116 v_74 y_69 sf_119 hS_sf_119 (by omega) by_118 by_65 (by decide) (by decide) y_120 y_121 ey_120 ey_121) gX11_cut_X11_divide rfl hy_X11_divide_V ⟨Nat.le_of_ble_eq_true rfl, Nat.le_of_ble_eq_true rfl⟩ 0 rfl rfl [0, 1, 2] rfl (by decide) rfl rfl (Nat.le_of_ble_eq_true rfl) ⟨Nat.le_of_ble_eq_true rfl, Nat.le_of_ble_eq_true rfl⟩ ?_
      rintro _ ⟨v_122, v_123, sf_124⟩ ⟨rfl, hS_sf_124⟩
      change J p l e rm_X11_cut s m args below meth c Q G A 9 0 0 191 [(8, .int 0), (7, .int x_77), (0, .ref (q 0)), (1, .int 10), (2, .long w), (4, .int (-1)), (5, .int 1), (6, .int 0)] [] [(q 0, .inr (10, mF t n q co cr po tx ty)), (q 10, aI G 320 (rg [z0, z1, z2, z3, y_65, z5, y_120, y_71, h_73, y_118, z10, z11, y_121, y_116, v_122, v_123])), (q 11, aZ G 16 sf_124)]
      exact E.1 191 _ (y_65, z5, y_120, y_71, h_73, y_118, y_121, y_116, v_122, v_123, sf_124) dX11_cut_191 (⟨rfl, ⟨h_73, ⟨hh_730, hh_731, hh_732⟩, by dsimp only; rw [fl_z (show sg ((-1 : Int32).toInt * w.toInt) = 0 from by rw [iTm1, Int.neg_one_mul]; rw [sg_zero (by omega)]), ey_120, hM9] <;> (congr 1 <;> omega)⟩, hS_sf_124⟩) hr
  · skip
    refine j_aload_n X dX11_cut_0 rfl 0 rfl ?_
    refine j_bipush (v := 13) X dX11_cut_1 (by decide) ?_
    refine j_iload X dX11_cut_3 4 rfl ?_
    refine j_i2l X dX11_cut_5 rfl ?_
    obtain ⟨y_125, ey_125⟩ : ∃ zz9 : Int, zz9 = ((1 : Int32).toInt64).toInt := ⟨_, rfl⟩
    have by_125 : bd 2 y_125 := by rw [ey_125]; exact (bd_mono bd_p1 (by decide))
    refine j_callV X dX11_cut_6 (n_load l G q t n co cr po tx ty [z0, z1, z2, z3, z4, z5, z6, z7, z8, z9, z10, z11, z12, z13, z14, z15] sf rfl hS 13 13 rfl (by decide) ((1 : Int32).toInt64) y_125 ey_125) gX11_cut_X11_load rfl hy_X11_load_V ⟨Nat.le_of_ble_eq_true rfl, Nat.le_of_ble_eq_true rfl⟩ 0 rfl rfl [0, 1, 2] rfl (by decide) rfl rfl (Nat.le_of_ble_eq_true rfl) ⟨Nat.le_of_ble_eq_true rfl, Nat.le_of_ble_eq_true rfl⟩ ?_
    rintro _ sf_126 ⟨rfl, hS_sf_126⟩
    change J p l e rm_X11_cut s m args below meth c Q G A 9 0 0 9 [(0, .ref (q 0)), (1, .int 10), (2, .long w), (4, .int 0), (5, .int 1), (6, .int 0)] [] [(q 0, .inr (10, mF t n q co cr po tx ty)), (q 10, aI G 320 (rg [z0, z1, z2, z3, z4, z5, z6, z7, z8, z9, z10, z11, z12, y_125, z14, z15])), (q 11, aZ G 16 sf_126)]
    refine j_aload_n X dX11_cut_9 rfl 0 rfl ?_
    refine j_iconst (v := 4) X dX11_cut_10 rfl ?_
    refine j_bipush (v := 13) X dX11_cut_11 (by decide) ?_
    refine j_iload_n X dX11_cut_13 rfl 1 rfl ?_
    obtain ⟨y_127, ey_127⟩ : ∃ zz9 : Int, zz9 = y_125 * z10 := ⟨_, rfl⟩
    have by_127 : bd 129 y_127 := by rw [ey_127]; exact bd_mul by_125 bu
    refine j_callV X dX11_cut_14 (n_mul l G q t n co cr po tx ty [z0, z1, z2, z3, z4, z5, z6, z7, z8, z9, z10, z11, z12, y_125, z14, z15] sf_126 rfl hS_sf_126 4 4 rfl (by decide) 13 13 rfl (by decide) 10 10 rfl (by decide) (by decide) (by decide) y_127 ey_127) gX11_cut_X11_multiply rfl hy_X11_multiply_V ⟨Nat.le_of_ble_eq_true rfl, Nat.le_of_ble_eq_true rfl⟩ 0 rfl rfl [0, 1, 2] rfl (by decide) rfl rfl (Nat.le_of_ble_eq_true rfl) ⟨Nat.le_of_ble_eq_true rfl, Nat.le_of_ble_eq_true rfl⟩ ?_
    rintro _ sf_128 ⟨rfl, hS_sf_128⟩
    change J p l e rm_X11_cut s m args below meth c Q G A 9 0 0 17 [(0, .ref (q 0)), (1, .int 10), (2, .long w), (4, .int 0), (5, .int 1), (6, .int 0)] [] [(q 0, .inr (10, mF t n q co cr po tx ty)), (q 10, aI G 320 (rg [z0, z1, z2, z3, y_127, z5, z6, z7, z8, z9, z10, z11, z12, y_125, z14, z15])), (q 11, aZ G 16 sf_128)]
    have hA1 : y_127 = z10 := by rw [ey_127, ey_125, i64_p]; exact Int.one_mul _
    refine j_iload X dX11_cut_17 5 rfl ?_
    refine j_if_eq (tgt := 36) X dX11_cut_19 (by decide) (fun _ => ?_) (fun c9 => absurd c9 (by decide))
    refine j_aload_n X dX11_cut_36 rfl 0 rfl ?_
    refine j_bipush (v := 13) X dX11_cut_37 (by decide) ?_
    refine j_iload X dX11_cut_39 4 rfl ?_
    refine j_i2l X dX11_cut_41 rfl ?_
    refine j_lload_n X dX11_cut_42 rfl 2 rfl ?_
    refine j_lmul X dX11_cut_43 ?_
    obtain ⟨y_129, ey_129⟩ : ∃ zz9 : Int, zz9 = (((1 : Int32).toInt64) * w).toInt := ⟨_, rfl⟩
    have by_129 : bd 43 y_129 := by rw [ey_129]; exact bq9
    refine j_callV X dX11_cut_44 (n_load l G q t n co cr po tx ty [z0, z1, z2, z3, y_127, z5, z6, z7, z8, z9, z10, z11, z12, y_125, z14, z15] sf_128 rfl hS_sf_128 13 13 rfl (by decide) (((1 : Int32).toInt64) * w) y_129 ey_129) gX11_cut_X11_load rfl hy_X11_load_V ⟨Nat.le_of_ble_eq_true rfl, Nat.le_of_ble_eq_true rfl⟩ 0 rfl rfl [0, 1, 2] rfl (by decide) rfl rfl (Nat.le_of_ble_eq_true rfl) ⟨Nat.le_of_ble_eq_true rfl, Nat.le_of_ble_eq_true rfl⟩ ?_
    rintro _ sf_130 ⟨rfl, hS_sf_130⟩
    change J p l e rm_X11_cut s m args below meth c Q G A 9 0 0 47 [(0, .ref (q 0)), (1, .int 10), (2, .long w), (4, .int 0), (5, .int 1), (6, .int 0)] [] [(q 0, .inr (10, mF t n q co cr po tx ty)), (q 10, aI G 320 (rg [z0, z1, z2, z3, y_127, z5, z6, z7, z8, z9, z10, z11, z12, y_129, z14, z15])), (q 11, aZ G 16 sf_130)]
    refine j_aload_n X dX11_cut_47 rfl 0 rfl ?_
    refine j_bipush (v := 15) X dX11_cut_48 (by decide) ?_
    refine j_bipush (v := 13) X dX11_cut_50 (by decide) ?_
    refine j_bipush (v := 13) X dX11_cut_52 (by decide) ?_
    obtain ⟨y_131, ey_131⟩ : ∃ zz9 : Int, zz9 = y_129 * y_129 := ⟨_, rfl⟩
    have by_131 : bd 86 y_131 := by rw [ey_131]; exact bd_mul by_129 by_129
    refine j_callV X dX11_cut_54 (n_mul l G q t n co cr po tx ty [z0, z1, z2, z3, y_127, z5, z6, z7, z8, z9, z10, z11, z12, y_129, z14, z15] sf_130 rfl hS_sf_130 15 15 rfl (by decide) 13 13 rfl (by decide) 13 13 rfl (by decide) (by decide) (by decide) y_131 ey_131) gX11_cut_X11_multiply rfl hy_X11_multiply_V ⟨Nat.le_of_ble_eq_true rfl, Nat.le_of_ble_eq_true rfl⟩ 0 rfl rfl [0, 1, 2] rfl (by decide) rfl rfl (Nat.le_of_ble_eq_true rfl) ⟨Nat.le_of_ble_eq_true rfl, Nat.le_of_ble_eq_true rfl⟩ ?_
    rintro _ sf_132 ⟨rfl, hS_sf_132⟩
    change J p l e rm_X11_cut s m args below meth c Q G A 9 0 0 57 [(0, .ref (q 0)), (1, .int 10), (2, .long w), (4, .int 0), (5, .int 1), (6, .int 0)] [] [(q 0, .inr (10, mF t n q co cr po tx ty)), (q 10, aI G 320 (rg [z0, z1, z2, z3, y_127, z5, z6, z7, z8, z9, z10, z11, z12, y_129, z14, y_131])), (q 11, aZ G 16 sf_132)]
    refine j_aload_n X dX11_cut_57 rfl 0 rfl ?_
    refine j_bipush (v := 7) X dX11_cut_58 (by decide) ?_
    refine j_bipush (v := 15) X dX11_cut_60 (by decide) ?_
    refine j_iconst (v := 2) X dX11_cut_62 rfl ?_
    obtain ⟨y_133, ey_133⟩ : ∃ zz9 : Int, zz9 = y_131 * z2 := ⟨_, rfl⟩
    have by_133 : bd 258 y_133 := by rw [ey_133]; exact bd_mul by_131 b2
    refine j_callV X dX11_cut_63 (n_mul l G q t n co cr po tx ty [z0, z1, z2, z3, y_127, z5, z6, z7, z8, z9, z10, z11, z12, y_129, z14, y_131] sf_132 rfl hS_sf_132 7 7 rfl (by decide) 15 15 rfl (by decide) 2 2 rfl (by decide) (by decide) (by decide) y_133 ey_133) gX11_cut_X11_multiply rfl hy_X11_multiply_V ⟨Nat.le_of_ble_eq_true rfl, Nat.le_of_ble_eq_true rfl⟩ 0 rfl rfl [0, 1, 2] rfl (by decide) rfl rfl (Nat.le_of_ble_eq_true rfl) ⟨Nat.le_of_ble_eq_true rfl, Nat.le_of_ble_eq_true rfl⟩ ?_
    rintro _ sf_134 ⟨rfl, hS_sf_134⟩
    change J p l e rm_X11_cut s m args below meth c Q G A 9 0 0 66 [(0, .ref (q 0)), (1, .int 10), (2, .long w), (4, .int 0), (5, .int 1), (6, .int 0)] [] [(q 0, .inr (10, mF t n q co cr po tx ty)), (q 10, aI G 320 (rg [z0, z1, z2, z3, y_127, z5, z6, y_133, z8, z9, z10, z11, z12, y_129, z14, y_131])), (q 11, aZ G 16 sf_134)]
    refine j_aload_n X dX11_cut_66 rfl 0 rfl ?_
    refine j_bipush (v := 8) X dX11_cut_67 (by decide) ?_
    refine j_bipush (v := 7) X dX11_cut_69 (by decide) ?_
    refine j_callV X dX11_cut_71 (c_X11_rootOf_8_7 l G q t n co cr po tx ty z0 z1 z2 z3 y_127 z5 z6 y_133 z8 z9 z10 z11 z12 y_129 z14 y_131 sf_134 hS_sf_134 (bd_lt319 by_133 (by decide))) gX11_cut_X11_rootOf rfl hy_X11_rootOf_V ⟨Nat.le_of_ble_eq_true rfl, Nat.le_of_ble_eq_true rfl⟩ 0 rfl rfl [0, 1, 2] rfl (by decide) rfl rfl (Nat.le_of_ble_eq_true rfl) ⟨Nat.le_of_ble_eq_true rfl, Nat.le_of_ble_eq_true rfl⟩ ?_
    rintro _ ⟨h_135, v_136, sf_137⟩ ⟨rfl, hh_1350, hh_1351, hh_1352, hS_sf_137⟩
    dsimp only at hh_1350 hh_1351 hh_1352 hS_sf_137
    change J p l e rm_X11_cut s m args below meth c Q G A 9 0 0 74 [(0, .ref (q 0)), (1, .int 10), (2, .long w), (4, .int 0), (5, .int 1), (6, .int 0)] [.int (if h_135 * h_135 = (y_133.natAbs : Int) then 1 else 0)] [(q 0, .inr (10, mF t n q co cr po tx ty)), (q 10, aI G 320 (rg [z0, z1, z2, z3, y_127, z5, z6, y_133, h_135, z9, z10, z11, ((y_133.natAbs : Int) - h_135 * h_135), y_129, v_136, y_131])), (q 11, aZ G 16 sf_137)]
    obtain ⟨w_138, ew_138⟩ : ∃ zz9 : Int, zz9 = (y_133.natAbs : Int) - h_135 * h_135 := ⟨_, rfl⟩
    rw [← ew_138] at hS_sf_137 ⊢
    have hN9 : (y_133.natAbs : Int) = w.toInt * w.toInt * z2 := by rw [ey_133, ey_131, ey_129, hq9]; exact Int.natAbs_of_nonneg (Int.mul_nonneg (sq_nn _) hR)
    rw [hN9] at hh_1351 hh_1352 ⊢
    have bh_135 : bd 260 h_135 := bd_of_le hh_1350 (Int.le_trans (sq_ge hh_1350) hh_1351) (by rw [← hN9]; exact bd_abs (bd_mono by_133 (by decide)))
    refine j_topi (fun x_139 ex_139 => ?_)
    refine j_istore (L' := [(7, .int x_139), (0, .ref (q 0)), (1, .int 10), (2, .long w), (4, .int 0), (5, .int 1), (6, .int 0)]) X dX11_cut_74 (by decide) rfl ?_
    refine j_lload_n X dX11_cut_76 rfl 3 rfl ?_
    refine j_lconst (v := 0) X dX11_cut_77 rfl ?_
    refine j_lcmp X dX11_cut_78 ?_
    refine j_if_ne (tgt := 86) X dX11_cut_79 (by decide) (fun c_79 => ?_) (fun c_79 => ?_)
    · skip
      first | simp only [bI_0, Decidable.not_not, sg_mul, sg_e0, sg_l0, sg_g0, sg_le0, sg_ge0, cmp_eq, cmp_lt, cmp_ge, cmp_gt, cmp_le, lT0, lT1] at c_79 | simp only [Int32.le_iff_toInt_le, Int32.lt_iff_toInt_lt, ← Int32.toInt_inj, iT0, iT1, iT2, iT3, iT4, iT5, iT6, iT7, iT8, iT9, iT10, iT11, iT12, iT13, iT14, iT15, iT16, iT19, iT20, iT31, iT32, iT42, iT64, iT200, iT318, iT319, iT1000, iTm1, iTm2] at c_79 | skip
      exact absurd hw0 c_79
    · skip
      first | simp only [bI_0, Decidable.not_not, sg_mul, sg_e0, sg_l0, sg_g0, sg_le0, sg_ge0, cmp_eq, cmp_lt, cmp_ge, cmp_gt, cmp_le, lT0, lT1] at c_79 | simp only [Int32.le_iff_toInt_le, Int32.lt_iff_toInt_lt, ← Int32.toInt_inj, iT0, iT1, iT2, iT3, iT4, iT5, iT6, iT7, iT8, iT9, iT10, iT11, iT12, iT13, iT14, iT15, iT16, iT19, iT20, iT31, iT32, iT42, iT64, iT200, iT318, iT319, iT1000, iTm1, iTm2] at c_79 | skip
      refine j_iconst (v := 0) X dX11_cut_82 rfl ?_
      refine j_goto (tgt := 101) X dX11_cut_83 (by decide) ?_
      refine j_istore (L' := [(8, .int 0), (7, .int x_139), (0, .ref (q 0)), (1, .int 10), (2, .long w), (4, .int 0), (5, .int 1), (6, .int 0)]) X dX11_cut_101 (by decide) rfl ?_
      refine j_iload X dX11_cut_103 0 rfl ?_
      refine j_if_eq (tgt := 132) X dX11_cut_105 (by decide) (fun _ => ?_) (fun c9 => absurd c9 (by decide))
      refine j_iload X dX11_cut_132 0 rfl ?_
      refine j_if_ge (tgt := 164) X dX11_cut_134 (by decide) (fun _ => ?_) (fun c9 => absurd c9 (by decide))
      refine j_aload_n X dX11_cut_164 rfl 2 rfl ?_
      refine j_bipush (v := 13) X dX11_cut_165 (by decide) ?_
      refine j_iload X dX11_cut_167 6 rfl ?_
      refine j_i2l X dX11_cut_169 rfl ?_
      obtain ⟨y_140, ey_140⟩ : ∃ zz9 : Int, zz9 = ((1 : Int32).toInt64).toInt := ⟨_, rfl⟩
      have by_140 : bd 2 y_140 := by rw [ey_140]; exact (bd_mono bd_p1 (by decide))
      refine j_callV X dX11_cut_170 (n_load l G q t n co cr po tx ty [z0, z1, z2, z3, y_127, z5, z6, y_133, h_135, z9, z10, z11, w_138, y_129, v_136, y_131] sf_137 rfl hS_sf_137 13 13 rfl (by decide) ((1 : Int32).toInt64) y_140 ey_140) gX11_cut_X11_load rfl hy_X11_load_V ⟨Nat.le_of_ble_eq_true rfl, Nat.le_of_ble_eq_true rfl⟩ 0 rfl rfl [0, 1, 2] rfl (by decide) rfl rfl (Nat.le_of_ble_eq_true rfl) ⟨Nat.le_of_ble_eq_true rfl, Nat.le_of_ble_eq_true rfl⟩ ?_
      rintro _ sf_141 ⟨rfl, hS_sf_141⟩
      change J p l e rm_X11_cut s m args below meth c Q G A 9 0 0 173 [(8, .int 0), (7, .int x_139), (0, .ref (q 0)), (1, .int 10), (2, .long w), (4, .int 0), (5, .int 1), (6, .int 0)] [] [(q 0, .inr (10, mF t n q co cr po tx ty)), (q 10, aI G 320 (rg [z0, z1, z2, z3, y_127, z5, z6, y_133, h_135, z9, z10, z11, w_138, y_140, v_136, y_131])), (q 11, aZ G 16 sf_141)]
      refine j_aload_n X dX11_cut_173 rfl 2 rfl ?_
      refine j_bipush (v := 9) X dX11_cut_174 (by decide) ?_
      refine j_bipush (v := 13) X dX11_cut_176 (by decide) ?_
      refine j_iconst (v := 3) X dX11_cut_178 rfl ?_
      obtain ⟨y_142, ey_142⟩ : ∃ zz9 : Int, zz9 = y_140 * z3 := ⟨_, rfl⟩
      have by_142 : bd 86 y_142 := by rw [ey_142]; exact bd_mul by_140 b3
      refine j_callV X dX11_cut_179 (n_mul l G q t n co cr po tx ty [z0, z1, z2, z3, y_127, z5, z6, y_133, h_135, z9, z10, z11, w_138, y_140, v_136, y_131] sf_141 rfl hS_sf_141 9 9 rfl (by decide) 13 13 rfl (by decide) 3 3 rfl (by decide) (by decide) (by decide) y_142 ey_142) gX11_cut_X11_multiply rfl hy_X11_multiply_V ⟨Nat.le_of_ble_eq_true rfl, Nat.le_of_ble_eq_true rfl⟩ 0 rfl rfl [0, 1, 2] rfl (by decide) rfl rfl (Nat.le_of_ble_eq_true rfl) ⟨Nat.le_of_ble_eq_true rfl, Nat.le_of_ble_eq_true rfl⟩ ?_
      rintro _ sf_143 ⟨rfl, hS_sf_143⟩
      change J p l e rm_X11_cut s m args below meth c Q G A 9 0 0 182 [(8, .int 0), (7, .int x_139), (0, .ref (q 0)), (1, .int 10), (2, .long w), (4, .int 0), (5, .int 1), (6, .int 0)] [] [(q 0, .inr (10, mF t n q co cr po tx ty)), (q 10, aI G 320 (rg [z0, z1, z2, z3, y_127, z5, z6, y_133, h_135, y_142, z10, z11, w_138, y_140, v_136, y_131])), (q 11, aZ G 16 sf_143)]
      have hM8 : y_142 = z3 := by rw [ey_142, ey_140, i64_p]; exact Int.one_mul _
      have hM9 : (y_142.natAbs : Int) = z3 := by omega
      refine j_aload_n X dX11_cut_182 rfl 2 rfl ?_
      refine j_bipush (v := 6) X dX11_cut_183 (by decide) ?_
      refine j_iconst (v := 4) X dX11_cut_185 rfl ?_
      refine j_bipush (v := 9) X dX11_cut_186 (by decide) ?_
      obtain ⟨y_144, ey_144⟩ : ∃ zz9 : Int, zz9 = y_127 / (y_142.natAbs : Int) := ⟨_, rfl⟩
      obtain ⟨y_145, ey_145⟩ : ∃ zz9 : Int, zz9 = (y_127.natAbs : Int) % (y_142.natAbs : Int) := ⟨_, rfl⟩
      refine j_callV X dX11_cut_188 (n_divide_6_4_9 l G q t n co cr po tx ty z0 z1 z2 z3 y_127 z5 z6 y_133 h_135 y_142 z10 z11 w_138 y_140 v_136 y_131 sf_143 hS_sf_143 (by omega) by_142 by_127 (by decide) (by decide) y_144 y_145 ey_144 ey_145) gX11_cut_X11_divide rfl hy_X11_divide_V ⟨Nat.le_of_ble_eq_true rfl, Nat.le_of_ble_eq_true rfl⟩ 0 rfl rfl [0, 1, 2] rfl (by decide) rfl rfl (Nat.le_of_ble_eq_true rfl) ⟨Nat.le_of_ble_eq_true rfl, Nat.le_of_ble_eq_true rfl⟩ ?_
      rintro _ ⟨v_146, v_147, sf_148⟩ ⟨rfl, hS_sf_148⟩
      change J p l e rm_X11_cut s m args below meth c Q G A 9 0 0 191 [(8, .int 0), (7, .int x_139), (0, .ref (q 0)), (1, .int 10), (2, .long w), (4, .int 0), (5, .int 1), (6, .int 0)] [] [(q 0, .inr (10, mF t n q co cr po tx ty)), (q 10, aI G 320 (rg [z0, z1, z2, z3, y_127, z5, y_144, y_133, h_135, y_142, z10, z11, y_145, y_140, v_146, v_147])), (q 11, aZ G 16 sf_148)]
      exact E.1 191 _ (y_127, z5, y_144, y_133, h_135, y_142, y_145, y_140, v_146, v_147, sf_148) dX11_cut_191 (⟨rfl, ⟨h_135, ⟨hh_1350, hh_1351, hh_1352⟩, by dsimp only; rw [fl_z (show sg ((0 : Int32).toInt * w.toInt) = 0 from by rw [iT0, Int.zero_mul]; rw [sg_zero (by omega)]), ey_144, hM9] <;> (congr 1 <;> omega)⟩, hS_sf_148⟩) hr

set_option maxHeartbeats 4000000 in
set_option maxRecDepth 100000 in
theorem c_X11_cut_0_2 (l : Launch) (G : jG) (q : Nat → Nat) (t n co cr po : Int32) (tx ty : Int64) (z0 z1 z2 z3 z4 z5 z6 z7 z8 z9 z10 z11 z12 z13 z14 z15 : Int) (sf : Nat → Int32) (hS : okS [z0, z1, z2, z3, z4, z5, z6, z7, z8, z9, z10, z11, z12, z13, z14, z15] sf) (w : Int64) (sx : Int32) (bu : bd 127 z0) (b2 : bd 172 z2) (hR : 0 ≤ z2) (b3 : bd 84 z3) (h3 : 0 < z3) (bw1 : bd 41 w.toInt) (hs : sx = 1 ∨ sx = -1 ∨ (sx = 0 ∧ w.toInt = 0)) : Ct l yX11_cut wsX11_cut rm_X11_cut G [.ref (q 0), .int 0, .long w, .int sx, .int 2, .int 1] [(q 0, .inr (10, mF t n q co cr po tx ty)), (q 10, aI G 320 (rg [z0, z1, z2, z3, z4, z5, z6, z7, z8, z9, z10, z11, z12, z13, z14, z15])), (q 11, aZ G 16 sf)] (S := Int × Int × Int × Int × Int × Int × Int × Int × Int × Int × (Nat → Int32)) (fun r u => r = none ∧ (∃ E, rtR (2 * w.toInt * (2 * w.toInt) * z2) E ∧ u.2.2.1 = flA (2 * z0 + z3) (sg (sx.toInt * w.toInt)) (2 * w.toInt * (2 * w.toInt) * z2) E (2 * z3)) ∧ okS [z0, z1, z2, z3, u.1, u.2.1, u.2.2.1, u.2.2.2.1, u.2.2.2.2.1, u.2.2.2.2.2.1, z10, z11, u.2.2.2.2.2.2.1, u.2.2.2.2.2.2.2.1, u.2.2.2.2.2.2.2.2.1, u.2.2.2.2.2.2.2.2.2.1] u.2.2.2.2.2.2.2.2.2.2) (fun u => [(q 0, .inr (10, mF t n q co cr po tx ty)), (q 10, aI G 320 (rg [z0, z1, z2, z3, u.1, u.2.1, u.2.2.1, u.2.2.2.1, u.2.2.2.2.1, u.2.2.2.2.2.1, z10, z11, u.2.2.2.2.2.2.1, u.2.2.2.2.2.2.2.1, u.2.2.2.2.2.2.2.2.1, u.2.2.2.2.2.2.2.2.2.1])), (q 11, aZ G 16 u.2.2.2.2.2.2.2.2.2.2)]) (fun _ => []) := by
  refine c_intro (cc := cX11_cut) (maxL := 9) (ret := none) (by decide) rfl (Nat.le_of_ble_eq_true rfl) (fun _ => by simp only [List.map_cons, List.map_nil]) ?_
  intro p e s m args below meth c Q A X hr hin E
  change J p l e rm_X11_cut s m args below meth c Q G A 9 0 0 0 [(0, .ref (q 0)), (1, .int 0), (2, .long w), (4, .int sx), (5, .int 2), (6, .int 1)] [] [(q 0, .inr (10, mF t n q co cr po tx ty)), (q 10, aI G 320 (rg [z0, z1, z2, z3, z4, z5, z6, z7, z8, z9, z10, z11, z12, z13, z14, z15])), (q 11, aZ G 16 sf)]
  have hq9 : (((2 : Int32).toInt64) * w).toInt = 2 * w.toInt := sm_2 bw1 (by decide)
  have bq9 : bd 43 (((2 : Int32).toInt64) * w).toInt := by rw [hq9]; exact bd_mono (bd_mul (show bd 2 2 from (by decide : Int.natAbs 2 ≤ 2 ^ 2)) bw1) (by decide)
  rcases hs with rfl | rfl | ⟨rfl, hw0⟩
  · skip
    refine j_aload_n X dX11_cut_0 rfl 0 rfl ?_
    refine j_bipush (v := 13) X dX11_cut_1 (by decide) ?_
    refine j_iload X dX11_cut_3 4 rfl ?_
    refine j_i2l X dX11_cut_5 rfl ?_
    obtain ⟨y_1, ey_1⟩ : ∃ zz9 : Int, zz9 = ((2 : Int32).toInt64).toInt := ⟨_, rfl⟩
    have by_1 : bd 2 y_1 := by rw [ey_1]; exact bd_2
    refine j_callV X dX11_cut_6 (n_load l G q t n co cr po tx ty [z0, z1, z2, z3, z4, z5, z6, z7, z8, z9, z10, z11, z12, z13, z14, z15] sf rfl hS 13 13 rfl (by decide) ((2 : Int32).toInt64) y_1 ey_1) gX11_cut_X11_load rfl hy_X11_load_V ⟨Nat.le_of_ble_eq_true rfl, Nat.le_of_ble_eq_true rfl⟩ 0 rfl rfl [0, 1, 2] rfl (by decide) rfl rfl (Nat.le_of_ble_eq_true rfl) ⟨Nat.le_of_ble_eq_true rfl, Nat.le_of_ble_eq_true rfl⟩ ?_
    rintro _ sf_2 ⟨rfl, hS_sf_2⟩
    change J p l e rm_X11_cut s m args below meth c Q G A 9 0 0 9 [(0, .ref (q 0)), (1, .int 0), (2, .long w), (4, .int 1), (5, .int 2), (6, .int 1)] [] [(q 0, .inr (10, mF t n q co cr po tx ty)), (q 10, aI G 320 (rg [z0, z1, z2, z3, z4, z5, z6, z7, z8, z9, z10, z11, z12, y_1, z14, z15])), (q 11, aZ G 16 sf_2)]
    refine j_aload_n X dX11_cut_9 rfl 0 rfl ?_
    refine j_iconst (v := 4) X dX11_cut_10 rfl ?_
    refine j_bipush (v := 13) X dX11_cut_11 (by decide) ?_
    refine j_iload_n X dX11_cut_13 rfl 1 rfl ?_
    obtain ⟨y_3, ey_3⟩ : ∃ zz9 : Int, zz9 = y_1 * z0 := ⟨_, rfl⟩
    have by_3 : bd 129 y_3 := by rw [ey_3]; exact bd_mul by_1 bu
    refine j_callV X dX11_cut_14 (n_mul l G q t n co cr po tx ty [z0, z1, z2, z3, z4, z5, z6, z7, z8, z9, z10, z11, z12, y_1, z14, z15] sf_2 rfl hS_sf_2 4 4 rfl (by decide) 13 13 rfl (by decide) 0 0 rfl (by decide) (by decide) (by decide) y_3 ey_3) gX11_cut_X11_multiply rfl hy_X11_multiply_V ⟨Nat.le_of_ble_eq_true rfl, Nat.le_of_ble_eq_true rfl⟩ 0 rfl rfl [0, 1, 2] rfl (by decide) rfl rfl (Nat.le_of_ble_eq_true rfl) ⟨Nat.le_of_ble_eq_true rfl, Nat.le_of_ble_eq_true rfl⟩ ?_
    rintro _ sf_4 ⟨rfl, hS_sf_4⟩
    change J p l e rm_X11_cut s m args below meth c Q G A 9 0 0 17 [(0, .ref (q 0)), (1, .int 0), (2, .long w), (4, .int 1), (5, .int 2), (6, .int 1)] [] [(q 0, .inr (10, mF t n q co cr po tx ty)), (q 10, aI G 320 (rg [z0, z1, z2, z3, y_3, z5, z6, z7, z8, z9, z10, z11, z12, y_1, z14, z15])), (q 11, aZ G 16 sf_4)]
    have hA1 : y_3 = 2 * z0 := by rw [ey_3, ey_1, i64_2]
    refine j_iload X dX11_cut_17 5 rfl ?_
    refine j_if_eq (tgt := 36) X dX11_cut_19 (by decide) (fun c9 => absurd c9 (by decide)) (fun _ => ?_)
    refine j_aload_n X dX11_cut_22 rfl 0 rfl ?_
    refine j_iconst (v := 5) X dX11_cut_23 rfl ?_
    refine j_iconst (v := 4) X dX11_cut_24 rfl ?_
    refine j_iconst (v := 3) X dX11_cut_25 rfl ?_
    refine j_iconst (v := 0) X dX11_cut_26 rfl ?_
    obtain ⟨y_5, ey_5⟩ : ∃ zz9 : Int, zz9 = y_3 + z3 := ⟨_, rfl⟩
    have by_5 : bd 130 y_5 := by rw [ey_5]; exact bd_add (bd_mono by_3 (by decide)) (bd_mono b3 (by decide))
    refine j_callV X dX11_cut_27 (n_join l G q t n co cr po tx ty [z0, z1, z2, z3, y_3, z5, z6, z7, z8, z9, z10, z11, z12, y_1, z14, z15] sf_4 rfl hS_sf_4 5 5 rfl (by decide) 4 4 rfl (by decide) 3 3 rfl (by decide) 0 (Or.inl rfl) (by decide) (by decide) y_5 ey_5 by_3 b3 (by decide) (by decide)) gX11_cut_X11_join rfl hy_X11_join_V ⟨Nat.le_of_ble_eq_true rfl, Nat.le_of_ble_eq_true rfl⟩ 0 rfl rfl [0, 1, 2] rfl (by decide) rfl rfl (Nat.le_of_ble_eq_true rfl) ⟨Nat.le_of_ble_eq_true rfl, Nat.le_of_ble_eq_true rfl⟩ ?_
    rintro _ sf_6 ⟨rfl, hS_sf_6⟩
    change J p l e rm_X11_cut s m args below meth c Q G A 9 0 0 30 [(0, .ref (q 0)), (1, .int 0), (2, .long w), (4, .int 1), (5, .int 2), (6, .int 1)] [] [(q 0, .inr (10, mF t n q co cr po tx ty)), (q 10, aI G 320 (rg [z0, z1, z2, z3, y_3, y_5, z6, z7, z8, z9, z10, z11, z12, y_1, z14, z15])), (q 11, aZ G 16 sf_6)]
    refine j_aload_n X dX11_cut_30 rfl 0 rfl ?_
    refine j_iconst (v := 4) X dX11_cut_31 rfl ?_
    refine j_iconst (v := 5) X dX11_cut_32 rfl ?_
    refine j_callV X dX11_cut_33 (h_copy l G q t n co cr po tx ty [z0, z1, z2, z3, y_3, y_5, z6, z7, z8, z9, z10, z11, z12, y_1, z14, z15] sf_6 rfl hS_sf_6 4 4 rfl (by decide) 5 5 rfl (by decide) (by decide)) gX11_cut_X11_copy rfl hy_X11_copy_V ⟨Nat.le_of_ble_eq_true rfl, Nat.le_of_ble_eq_true rfl⟩ 0 rfl rfl [0, 1, 2] rfl (by decide) rfl rfl (Nat.le_of_ble_eq_true rfl) ⟨Nat.le_of_ble_eq_true rfl, Nat.le_of_ble_eq_true rfl⟩ ?_
    rintro _ sf_7 ⟨rfl, hS_sf_7⟩
    change J p l e rm_X11_cut s m args below meth c Q G A 9 0 0 36 [(0, .ref (q 0)), (1, .int 0), (2, .long w), (4, .int 1), (5, .int 2), (6, .int 1)] [] [(q 0, .inr (10, mF t n q co cr po tx ty)), (q 10, aI G 320 (rg [z0, z1, z2, z3, y_5, y_5, z6, z7, z8, z9, z10, z11, z12, y_1, z14, z15])), (q 11, aZ G 16 sf_7)]
    refine j_aload_n X dX11_cut_36 rfl 0 rfl ?_
    refine j_bipush (v := 13) X dX11_cut_37 (by decide) ?_
    refine j_iload X dX11_cut_39 4 rfl ?_
    refine j_i2l X dX11_cut_41 rfl ?_
    refine j_lload_n X dX11_cut_42 rfl 2 rfl ?_
    refine j_lmul X dX11_cut_43 ?_
    obtain ⟨y_8, ey_8⟩ : ∃ zz9 : Int, zz9 = (((2 : Int32).toInt64) * w).toInt := ⟨_, rfl⟩
    have by_8 : bd 43 y_8 := by rw [ey_8]; exact bq9
    refine j_callV X dX11_cut_44 (n_load l G q t n co cr po tx ty [z0, z1, z2, z3, y_5, y_5, z6, z7, z8, z9, z10, z11, z12, y_1, z14, z15] sf_7 rfl hS_sf_7 13 13 rfl (by decide) (((2 : Int32).toInt64) * w) y_8 ey_8) gX11_cut_X11_load rfl hy_X11_load_V ⟨Nat.le_of_ble_eq_true rfl, Nat.le_of_ble_eq_true rfl⟩ 0 rfl rfl [0, 1, 2] rfl (by decide) rfl rfl (Nat.le_of_ble_eq_true rfl) ⟨Nat.le_of_ble_eq_true rfl, Nat.le_of_ble_eq_true rfl⟩ ?_
    rintro _ sf_9 ⟨rfl, hS_sf_9⟩
    change J p l e rm_X11_cut s m args below meth c Q G A 9 0 0 47 [(0, .ref (q 0)), (1, .int 0), (2, .long w), (4, .int 1), (5, .int 2), (6, .int 1)] [] [(q 0, .inr (10, mF t n q co cr po tx ty)), (q 10, aI G 320 (rg [z0, z1, z2, z3, y_5, y_5, z6, z7, z8, z9, z10, z11, z12, y_8, z14, z15])), (q 11, aZ G 16 sf_9)]
    refine j_aload_n X dX11_cut_47 rfl 0 rfl ?_
    refine j_bipush (v := 15) X dX11_cut_48 (by decide) ?_
    refine j_bipush (v := 13) X dX11_cut_50 (by decide) ?_
    refine j_bipush (v := 13) X dX11_cut_52 (by decide) ?_
    obtain ⟨y_10, ey_10⟩ : ∃ zz9 : Int, zz9 = y_8 * y_8 := ⟨_, rfl⟩
    have by_10 : bd 86 y_10 := by rw [ey_10]; exact bd_mul by_8 by_8
    refine j_callV X dX11_cut_54 (n_mul l G q t n co cr po tx ty [z0, z1, z2, z3, y_5, y_5, z6, z7, z8, z9, z10, z11, z12, y_8, z14, z15] sf_9 rfl hS_sf_9 15 15 rfl (by decide) 13 13 rfl (by decide) 13 13 rfl (by decide) (by decide) (by decide) y_10 ey_10) gX11_cut_X11_multiply rfl hy_X11_multiply_V ⟨Nat.le_of_ble_eq_true rfl, Nat.le_of_ble_eq_true rfl⟩ 0 rfl rfl [0, 1, 2] rfl (by decide) rfl rfl (Nat.le_of_ble_eq_true rfl) ⟨Nat.le_of_ble_eq_true rfl, Nat.le_of_ble_eq_true rfl⟩ ?_
    rintro _ sf_11 ⟨rfl, hS_sf_11⟩
    change J p l e rm_X11_cut s m args below meth c Q G A 9 0 0 57 [(0, .ref (q 0)), (1, .int 0), (2, .long w), (4, .int 1), (5, .int 2), (6, .int 1)] [] [(q 0, .inr (10, mF t n q co cr po tx ty)), (q 10, aI G 320 (rg [z0, z1, z2, z3, y_5, y_5, z6, z7, z8, z9, z10, z11, z12, y_8, z14, y_10])), (q 11, aZ G 16 sf_11)]
    refine j_aload_n X dX11_cut_57 rfl 0 rfl ?_
    refine j_bipush (v := 7) X dX11_cut_58 (by decide) ?_
    refine j_bipush (v := 15) X dX11_cut_60 (by decide) ?_
    refine j_iconst (v := 2) X dX11_cut_62 rfl ?_
    obtain ⟨y_12, ey_12⟩ : ∃ zz9 : Int, zz9 = y_10 * z2 := ⟨_, rfl⟩
    have by_12 : bd 258 y_12 := by rw [ey_12]; exact bd_mul by_10 b2
    refine j_callV X dX11_cut_63 (n_mul l G q t n co cr po tx ty [z0, z1, z2, z3, y_5, y_5, z6, z7, z8, z9, z10, z11, z12, y_8, z14, y_10] sf_11 rfl hS_sf_11 7 7 rfl (by decide) 15 15 rfl (by decide) 2 2 rfl (by decide) (by decide) (by decide) y_12 ey_12) gX11_cut_X11_multiply rfl hy_X11_multiply_V ⟨Nat.le_of_ble_eq_true rfl, Nat.le_of_ble_eq_true rfl⟩ 0 rfl rfl [0, 1, 2] rfl (by decide) rfl rfl (Nat.le_of_ble_eq_true rfl) ⟨Nat.le_of_ble_eq_true rfl, Nat.le_of_ble_eq_true rfl⟩ ?_
    rintro _ sf_13 ⟨rfl, hS_sf_13⟩
    change J p l e rm_X11_cut s m args below meth c Q G A 9 0 0 66 [(0, .ref (q 0)), (1, .int 0), (2, .long w), (4, .int 1), (5, .int 2), (6, .int 1)] [] [(q 0, .inr (10, mF t n q co cr po tx ty)), (q 10, aI G 320 (rg [z0, z1, z2, z3, y_5, y_5, z6, y_12, z8, z9, z10, z11, z12, y_8, z14, y_10])), (q 11, aZ G 16 sf_13)]
    refine j_aload_n X dX11_cut_66 rfl 0 rfl ?_
    refine j_bipush (v := 8) X dX11_cut_67 (by decide) ?_
    refine j_bipush (v := 7) X dX11_cut_69 (by decide) ?_
    refine j_callV X dX11_cut_71 (c_X11_rootOf_8_7 l G q t n co cr po tx ty z0 z1 z2 z3 y_5 y_5 z6 y_12 z8 z9 z10 z11 z12 y_8 z14 y_10 sf_13 hS_sf_13 (bd_lt319 by_12 (by decide))) gX11_cut_X11_rootOf rfl hy_X11_rootOf_V ⟨Nat.le_of_ble_eq_true rfl, Nat.le_of_ble_eq_true rfl⟩ 0 rfl rfl [0, 1, 2] rfl (by decide) rfl rfl (Nat.le_of_ble_eq_true rfl) ⟨Nat.le_of_ble_eq_true rfl, Nat.le_of_ble_eq_true rfl⟩ ?_
    rintro _ ⟨h_14, v_15, sf_16⟩ ⟨rfl, hh_140, hh_141, hh_142, hS_sf_16⟩
    dsimp only at hh_140 hh_141 hh_142 hS_sf_16
    change J p l e rm_X11_cut s m args below meth c Q G A 9 0 0 74 [(0, .ref (q 0)), (1, .int 0), (2, .long w), (4, .int 1), (5, .int 2), (6, .int 1)] [.int (if h_14 * h_14 = (y_12.natAbs : Int) then 1 else 0)] [(q 0, .inr (10, mF t n q co cr po tx ty)), (q 10, aI G 320 (rg [z0, z1, z2, z3, y_5, y_5, z6, y_12, h_14, z9, z10, z11, ((y_12.natAbs : Int) - h_14 * h_14), y_8, v_15, y_10])), (q 11, aZ G 16 sf_16)]
    obtain ⟨w_17, ew_17⟩ : ∃ zz9 : Int, zz9 = (y_12.natAbs : Int) - h_14 * h_14 := ⟨_, rfl⟩
    rw [← ew_17] at hS_sf_16 ⊢
    have hN9 : (y_12.natAbs : Int) = 2 * w.toInt * (2 * w.toInt) * z2 := by rw [ey_12, ey_10, ey_8, hq9]; exact Int.natAbs_of_nonneg (Int.mul_nonneg (sq_nn _) hR)
    rw [hN9] at hh_141 hh_142 ⊢
    have bh_14 : bd 260 h_14 := bd_of_le hh_140 (Int.le_trans (sq_ge hh_140) hh_141) (by rw [← hN9]; exact bd_abs (bd_mono by_12 (by decide)))
    refine j_topi (fun x_18 ex_18 => ?_)
    refine j_istore (L' := [(7, .int x_18), (0, .ref (q 0)), (1, .int 0), (2, .long w), (4, .int 1), (5, .int 2), (6, .int 1)]) X dX11_cut_74 (by decide) rfl ?_
    refine j_lload_n X dX11_cut_76 rfl 3 rfl ?_
    refine j_lconst (v := 0) X dX11_cut_77 rfl ?_
    refine j_lcmp X dX11_cut_78 ?_
    refine j_if_ne (tgt := 86) X dX11_cut_79 (by decide) (fun c_79 => ?_) (fun c_79 => ?_)
    · skip
      first | simp only [bI_0, Decidable.not_not, sg_mul, sg_e0, sg_l0, sg_g0, sg_le0, sg_ge0, cmp_eq, cmp_lt, cmp_ge, cmp_gt, cmp_le, lT0, lT1] at c_79 | simp only [Int32.le_iff_toInt_le, Int32.lt_iff_toInt_lt, ← Int32.toInt_inj, iT0, iT1, iT2, iT3, iT4, iT5, iT6, iT7, iT8, iT9, iT10, iT11, iT12, iT13, iT14, iT15, iT16, iT19, iT20, iT31, iT32, iT42, iT64, iT200, iT318, iT319, iT1000, iTm1, iTm2] at c_79 | skip
      refine j_lload_n X dX11_cut_86 rfl 3 rfl ?_
      refine j_lconst (v := 0) X dX11_cut_87 rfl ?_
      refine j_lcmp X dX11_cut_88 ?_
      refine j_if_ge (tgt := 99) X dX11_cut_89 (by decide) (fun c_89 => ?_) (fun c_89 => ?_)
      · skip
        first | simp only [bI_0, Decidable.not_not, sg_mul, sg_e0, sg_l0, sg_g0, sg_le0, sg_ge0, cmp_eq, cmp_lt, cmp_ge, cmp_gt, cmp_le, lT0, lT1] at c_89 | simp only [Int32.le_iff_toInt_le, Int32.lt_iff_toInt_lt, ← Int32.toInt_inj, iT0, iT1, iT2, iT3, iT4, iT5, iT6, iT7, iT8, iT9, iT10, iT11, iT12, iT13, iT14, iT15, iT16, iT19, iT20, iT31, iT32, iT42, iT64, iT200, iT318, iT319, iT1000, iTm1, iTm2] at c_89 | skip
        refine j_iload X dX11_cut_99 4 rfl ?_
        refine j_istore (L' := [(8, .int 1), (7, .int x_18), (0, .ref (q 0)), (1, .int 0), (2, .long w), (4, .int 1), (5, .int 2), (6, .int 1)]) X dX11_cut_101 (by decide) rfl ?_
        refine j_iload X dX11_cut_103 0 rfl ?_
        refine j_if_eq (tgt := 132) X dX11_cut_105 (by decide) (fun c9 => absurd c9 (by decide)) (fun _ => ?_)
        refine j_aload_n X dX11_cut_108 rfl 2 rfl ?_
        refine j_iconst (v := 5) X dX11_cut_109 rfl ?_
        refine j_iconst (v := 4) X dX11_cut_110 rfl ?_
        refine j_bipush (v := 8) X dX11_cut_111 (by decide) ?_
        refine j_iload X dX11_cut_113 0 rfl ?_
        refine j_if_ge (tgt := 122) X dX11_cut_115 (by decide) (fun _ => ?_) (fun c9 => absurd c9 (by decide))
        refine j_iconst (v := 0) X dX11_cut_122 rfl ?_
        obtain ⟨y_19, ey_19⟩ : ∃ zz9 : Int, zz9 = y_5 + h_14 := ⟨_, rfl⟩
        have by_19 : bd 261 y_19 := by rw [ey_19]; exact bd_add (bd_mono by_5 (by decide)) (bd_mono bh_14 (by decide))
        refine j_callV X dX11_cut_123 (n_join l G q t n co cr po tx ty [z0, z1, z2, z3, y_5, y_5, z6, y_12, h_14, z9, z10, z11, w_17, y_8, v_15, y_10] sf_16 rfl hS_sf_16 5 5 rfl (by decide) 4 4 rfl (by decide) 8 8 rfl (by decide) 0 (Or.inl rfl) (by decide) (by decide) y_19 ey_19 by_5 bh_14 (by decide) (by decide)) gX11_cut_X11_join rfl hy_X11_join_V ⟨Nat.le_of_ble_eq_true rfl, Nat.le_of_ble_eq_true rfl⟩ 0 rfl rfl [0, 1, 2] rfl (by decide) rfl rfl (Nat.le_of_ble_eq_true rfl) ⟨Nat.le_of_ble_eq_true rfl, Nat.le_of_ble_eq_true rfl⟩ ?_
        rintro _ sf_20 ⟨rfl, hS_sf_20⟩
        change J p l e rm_X11_cut s m args below meth c Q G A 9 0 0 126 [(8, .int 1), (7, .int x_18), (0, .ref (q 0)), (1, .int 0), (2, .long w), (4, .int 1), (5, .int 2), (6, .int 1)] [] [(q 0, .inr (10, mF t n q co cr po tx ty)), (q 10, aI G 320 (rg [z0, z1, z2, z3, y_5, y_19, z6, y_12, h_14, z9, z10, z11, w_17, y_8, v_15, y_10])), (q 11, aZ G 16 sf_20)]
        refine j_aload_n X dX11_cut_126 rfl 2 rfl ?_
        refine j_iconst (v := 4) X dX11_cut_127 rfl ?_
        refine j_iconst (v := 5) X dX11_cut_128 rfl ?_
        refine j_callV X dX11_cut_129 (h_copy l G q t n co cr po tx ty [z0, z1, z2, z3, y_5, y_19, z6, y_12, h_14, z9, z10, z11, w_17, y_8, v_15, y_10] sf_20 rfl hS_sf_20 4 4 rfl (by decide) 5 5 rfl (by decide) (by decide)) gX11_cut_X11_copy rfl hy_X11_copy_V ⟨Nat.le_of_ble_eq_true rfl, Nat.le_of_ble_eq_true rfl⟩ 0 rfl rfl [0, 1, 2] rfl (by decide) rfl rfl (Nat.le_of_ble_eq_true rfl) ⟨Nat.le_of_ble_eq_true rfl, Nat.le_of_ble_eq_true rfl⟩ ?_
        rintro _ sf_21 ⟨rfl, hS_sf_21⟩
        change J p l e rm_X11_cut s m args below meth c Q G A 9 0 0 132 [(8, .int 1), (7, .int x_18), (0, .ref (q 0)), (1, .int 0), (2, .long w), (4, .int 1), (5, .int 2), (6, .int 1)] [] [(q 0, .inr (10, mF t n q co cr po tx ty)), (q 10, aI G 320 (rg [z0, z1, z2, z3, y_19, y_19, z6, y_12, h_14, z9, z10, z11, w_17, y_8, v_15, y_10])), (q 11, aZ G 16 sf_21)]
        refine j_iload X dX11_cut_132 0 rfl ?_
        refine j_if_ge (tgt := 164) X dX11_cut_134 (by decide) (fun _ => ?_) (fun c9 => absurd c9 (by decide))
        refine j_aload_n X dX11_cut_164 rfl 2 rfl ?_
        refine j_bipush (v := 13) X dX11_cut_165 (by decide) ?_
        refine j_iload X dX11_cut_167 6 rfl ?_
        refine j_i2l X dX11_cut_169 rfl ?_
        obtain ⟨y_22, ey_22⟩ : ∃ zz9 : Int, zz9 = ((2 : Int32).toInt64).toInt := ⟨_, rfl⟩
        have by_22 : bd 2 y_22 := by rw [ey_22]; exact bd_2
        refine j_callV X dX11_cut_170 (n_load l G q t n co cr po tx ty [z0, z1, z2, z3, y_19, y_19, z6, y_12, h_14, z9, z10, z11, w_17, y_8, v_15, y_10] sf_21 rfl hS_sf_21 13 13 rfl (by decide) ((2 : Int32).toInt64) y_22 ey_22) gX11_cut_X11_load rfl hy_X11_load_V ⟨Nat.le_of_ble_eq_true rfl, Nat.le_of_ble_eq_true rfl⟩ 0 rfl rfl [0, 1, 2] rfl (by decide) rfl rfl (Nat.le_of_ble_eq_true rfl) ⟨Nat.le_of_ble_eq_true rfl, Nat.le_of_ble_eq_true rfl⟩ ?_
        rintro _ sf_23 ⟨rfl, hS_sf_23⟩
        change J p l e rm_X11_cut s m args below meth c Q G A 9 0 0 173 [(8, .int 1), (7, .int x_18), (0, .ref (q 0)), (1, .int 0), (2, .long w), (4, .int 1), (5, .int 2), (6, .int 1)] [] [(q 0, .inr (10, mF t n q co cr po tx ty)), (q 10, aI G 320 (rg [z0, z1, z2, z3, y_19, y_19, z6, y_12, h_14, z9, z10, z11, w_17, y_22, v_15, y_10])), (q 11, aZ G 16 sf_23)]
        refine j_aload_n X dX11_cut_173 rfl 2 rfl ?_
        refine j_bipush (v := 9) X dX11_cut_174 (by decide) ?_
        refine j_bipush (v := 13) X dX11_cut_176 (by decide) ?_
        refine j_iconst (v := 3) X dX11_cut_178 rfl ?_
        obtain ⟨y_24, ey_24⟩ : ∃ zz9 : Int, zz9 = y_22 * z3 := ⟨_, rfl⟩
        have by_24 : bd 86 y_24 := by rw [ey_24]; exact bd_mul by_22 b3
        refine j_callV X dX11_cut_179 (n_mul l G q t n co cr po tx ty [z0, z1, z2, z3, y_19, y_19, z6, y_12, h_14, z9, z10, z11, w_17, y_22, v_15, y_10] sf_23 rfl hS_sf_23 9 9 rfl (by decide) 13 13 rfl (by decide) 3 3 rfl (by decide) (by decide) (by decide) y_24 ey_24) gX11_cut_X11_multiply rfl hy_X11_multiply_V ⟨Nat.le_of_ble_eq_true rfl, Nat.le_of_ble_eq_true rfl⟩ 0 rfl rfl [0, 1, 2] rfl (by decide) rfl rfl (Nat.le_of_ble_eq_true rfl) ⟨Nat.le_of_ble_eq_true rfl, Nat.le_of_ble_eq_true rfl⟩ ?_
        rintro _ sf_25 ⟨rfl, hS_sf_25⟩
        change J p l e rm_X11_cut s m args below meth c Q G A 9 0 0 182 [(8, .int 1), (7, .int x_18), (0, .ref (q 0)), (1, .int 0), (2, .long w), (4, .int 1), (5, .int 2), (6, .int 1)] [] [(q 0, .inr (10, mF t n q co cr po tx ty)), (q 10, aI G 320 (rg [z0, z1, z2, z3, y_19, y_19, z6, y_12, h_14, y_24, z10, z11, w_17, y_22, v_15, y_10])), (q 11, aZ G 16 sf_25)]
        have hM8 : y_24 = 2 * z3 := by rw [ey_24, ey_22, i64_2]
        have hM9 : (y_24.natAbs : Int) = 2 * z3 := by omega
        refine j_aload_n X dX11_cut_182 rfl 2 rfl ?_
        refine j_bipush (v := 6) X dX11_cut_183 (by decide) ?_
        refine j_iconst (v := 4) X dX11_cut_185 rfl ?_
        refine j_bipush (v := 9) X dX11_cut_186 (by decide) ?_
        obtain ⟨y_26, ey_26⟩ : ∃ zz9 : Int, zz9 = y_19 / (y_24.natAbs : Int) := ⟨_, rfl⟩
        obtain ⟨y_27, ey_27⟩ : ∃ zz9 : Int, zz9 = (y_19.natAbs : Int) % (y_24.natAbs : Int) := ⟨_, rfl⟩
        refine j_callV X dX11_cut_188 (n_divide_6_4_9 l G q t n co cr po tx ty z0 z1 z2 z3 y_19 y_19 z6 y_12 h_14 y_24 z10 z11 w_17 y_22 v_15 y_10 sf_25 hS_sf_25 (by omega) by_24 by_19 (by decide) (by decide) y_26 y_27 ey_26 ey_27) gX11_cut_X11_divide rfl hy_X11_divide_V ⟨Nat.le_of_ble_eq_true rfl, Nat.le_of_ble_eq_true rfl⟩ 0 rfl rfl [0, 1, 2] rfl (by decide) rfl rfl (Nat.le_of_ble_eq_true rfl) ⟨Nat.le_of_ble_eq_true rfl, Nat.le_of_ble_eq_true rfl⟩ ?_
        rintro _ ⟨v_28, v_29, sf_30⟩ ⟨rfl, hS_sf_30⟩
        change J p l e rm_X11_cut s m args below meth c Q G A 9 0 0 191 [(8, .int 1), (7, .int x_18), (0, .ref (q 0)), (1, .int 0), (2, .long w), (4, .int 1), (5, .int 2), (6, .int 1)] [] [(q 0, .inr (10, mF t n q co cr po tx ty)), (q 10, aI G 320 (rg [z0, z1, z2, z3, y_19, y_19, y_26, y_12, h_14, y_24, z10, z11, y_27, y_22, v_28, v_29])), (q 11, aZ G 16 sf_30)]
        exact E.1 191 _ (y_19, y_19, y_26, y_12, h_14, y_24, y_27, y_22, v_28, v_29, sf_30) dX11_cut_191 (⟨rfl, ⟨h_14, ⟨hh_140, hh_141, hh_142⟩, by dsimp only; rw [fl_p (show sg ((1 : Int32).toInt * w.toInt) = 1 from by rw [iT1, Int.one_mul]; rw [sg_pos (by omega)]), ey_26, hM9] <;> (congr 1 <;> omega)⟩, hS_sf_30⟩) hr
      · skip
        first | simp only [bI_0, Decidable.not_not, sg_mul, sg_e0, sg_l0, sg_g0, sg_le0, sg_ge0, cmp_eq, cmp_lt, cmp_ge, cmp_gt, cmp_le, lT0, lT1] at c_89 | simp only [Int32.le_iff_toInt_le, Int32.lt_iff_toInt_lt, ← Int32.toInt_inj, iT0, iT1, iT2, iT3, iT4, iT5, iT6, iT7, iT8, iT9, iT10, iT11, iT12, iT13, iT14, iT15, iT16, iT19, iT20, iT31, iT32, iT42, iT64, iT200, iT318, iT319, iT1000, iTm1, iTm2] at c_89 | skip
        refine j_iconst (v := 0) X dX11_cut_92 rfl ?_
        refine j_iload X dX11_cut_93 4 rfl ?_
        refine j_isub X dX11_cut_95 ?_
        rw [show (0 : Int32) - 1 = (-1) from by decide]
        refine j_goto (tgt := 101) X dX11_cut_96 (by decide) ?_
        refine j_istore (L' := [(8, .int (-1)), (7, .int x_18), (0, .ref (q 0)), (1, .int 0), (2, .long w), (4, .int 1), (5, .int 2), (6, .int 1)]) X dX11_cut_101 (by decide) rfl ?_
        refine j_iload X dX11_cut_103 0 rfl ?_
        refine j_if_eq (tgt := 132) X dX11_cut_105 (by decide) (fun c9 => absurd c9 (by decide)) (fun _ => ?_)
        refine j_aload_n X dX11_cut_108 rfl 2 rfl ?_
        refine j_iconst (v := 5) X dX11_cut_109 rfl ?_
        refine j_iconst (v := 4) X dX11_cut_110 rfl ?_
        refine j_bipush (v := 8) X dX11_cut_111 (by decide) ?_
        refine j_iload X dX11_cut_113 0 rfl ?_
        refine j_if_ge (tgt := 122) X dX11_cut_115 (by decide) (fun c9 => absurd c9 (by decide)) (fun _ => ?_)
        refine j_iconst (v := 1) X dX11_cut_118 rfl ?_
        refine j_goto (tgt := 123) X dX11_cut_119 (by decide) ?_
        obtain ⟨y_31, ey_31⟩ : ∃ zz9 : Int, zz9 = y_5 - h_14 := ⟨_, rfl⟩
        have by_31 : bd 261 y_31 := by rw [ey_31]; exact bd_sub (bd_mono by_5 (by decide)) (bd_mono bh_14 (by decide))
        refine j_callV X dX11_cut_123 (n_join l G q t n co cr po tx ty [z0, z1, z2, z3, y_5, y_5, z6, y_12, h_14, z9, z10, z11, w_17, y_8, v_15, y_10] sf_16 rfl hS_sf_16 5 5 rfl (by decide) 4 4 rfl (by decide) 8 8 rfl (by decide) 1 (Or.inr rfl) (by decide) (by decide) y_31 ey_31 by_5 bh_14 (by decide) (by decide)) gX11_cut_X11_join rfl hy_X11_join_V ⟨Nat.le_of_ble_eq_true rfl, Nat.le_of_ble_eq_true rfl⟩ 0 rfl rfl [0, 1, 2] rfl (by decide) rfl rfl (Nat.le_of_ble_eq_true rfl) ⟨Nat.le_of_ble_eq_true rfl, Nat.le_of_ble_eq_true rfl⟩ ?_
        rintro _ sf_32 ⟨rfl, hS_sf_32⟩
        change J p l e rm_X11_cut s m args below meth c Q G A 9 0 0 126 [(8, .int (-1)), (7, .int x_18), (0, .ref (q 0)), (1, .int 0), (2, .long w), (4, .int 1), (5, .int 2), (6, .int 1)] [] [(q 0, .inr (10, mF t n q co cr po tx ty)), (q 10, aI G 320 (rg [z0, z1, z2, z3, y_5, y_31, z6, y_12, h_14, z9, z10, z11, w_17, y_8, v_15, y_10])), (q 11, aZ G 16 sf_32)]
        refine j_aload_n X dX11_cut_126 rfl 2 rfl ?_
        refine j_iconst (v := 4) X dX11_cut_127 rfl ?_
        refine j_iconst (v := 5) X dX11_cut_128 rfl ?_
        refine j_callV X dX11_cut_129 (h_copy l G q t n co cr po tx ty [z0, z1, z2, z3, y_5, y_31, z6, y_12, h_14, z9, z10, z11, w_17, y_8, v_15, y_10] sf_32 rfl hS_sf_32 4 4 rfl (by decide) 5 5 rfl (by decide) (by decide)) gX11_cut_X11_copy rfl hy_X11_copy_V ⟨Nat.le_of_ble_eq_true rfl, Nat.le_of_ble_eq_true rfl⟩ 0 rfl rfl [0, 1, 2] rfl (by decide) rfl rfl (Nat.le_of_ble_eq_true rfl) ⟨Nat.le_of_ble_eq_true rfl, Nat.le_of_ble_eq_true rfl⟩ ?_
        rintro _ sf_33 ⟨rfl, hS_sf_33⟩
        change J p l e rm_X11_cut s m args below meth c Q G A 9 0 0 132 [(8, .int (-1)), (7, .int x_18), (0, .ref (q 0)), (1, .int 0), (2, .long w), (4, .int 1), (5, .int 2), (6, .int 1)] [] [(q 0, .inr (10, mF t n q co cr po tx ty)), (q 10, aI G 320 (rg [z0, z1, z2, z3, y_31, y_31, z6, y_12, h_14, z9, z10, z11, w_17, y_8, v_15, y_10])), (q 11, aZ G 16 sf_33)]
        refine j_iload X dX11_cut_132 0 rfl ?_
        refine j_if_ge (tgt := 164) X dX11_cut_134 (by decide) (fun c9 => absurd c9 (by decide)) (fun _ => ?_)
        refine j_iload X dX11_cut_137 1 rfl ?_
        refine j_if_ne (tgt := 164) X dX11_cut_139 (by decide) (fun c_139 => ?_) (fun c_139 => ?_)
        · skip
          rw [ex_18] at c_139
          have hEx : h_14 * h_14 = 2 * w.toInt * (2 * w.toInt) * z2 := by by_cases q9 : h_14 * h_14 = 2 * w.toInt * (2 * w.toInt) * z2; exact q9; rw [if_neg q9] at c_139; exact absurd rfl c_139
          refine j_aload_n X dX11_cut_164 rfl 2 rfl ?_
          refine j_bipush (v := 13) X dX11_cut_165 (by decide) ?_
          refine j_iload X dX11_cut_167 6 rfl ?_
          refine j_i2l X dX11_cut_169 rfl ?_
          obtain ⟨y_34, ey_34⟩ : ∃ zz9 : Int, zz9 = ((2 : Int32).toInt64).toInt := ⟨_, rfl⟩
          have by_34 : bd 2 y_34 := by rw [ey_34]; exact bd_2
          refine j_callV X dX11_cut_170 (n_load l G q t n co cr po tx ty [z0, z1, z2, z3, y_31, y_31, z6, y_12, h_14, z9, z10, z11, w_17, y_8, v_15, y_10] sf_33 rfl hS_sf_33 13 13 rfl (by decide) ((2 : Int32).toInt64) y_34 ey_34) gX11_cut_X11_load rfl hy_X11_load_V ⟨Nat.le_of_ble_eq_true rfl, Nat.le_of_ble_eq_true rfl⟩ 0 rfl rfl [0, 1, 2] rfl (by decide) rfl rfl (Nat.le_of_ble_eq_true rfl) ⟨Nat.le_of_ble_eq_true rfl, Nat.le_of_ble_eq_true rfl⟩ ?_
          rintro _ sf_35 ⟨rfl, hS_sf_35⟩
          change J p l e rm_X11_cut s m args below meth c Q G A 9 0 0 173 [(8, .int (-1)), (7, .int x_18), (0, .ref (q 0)), (1, .int 0), (2, .long w), (4, .int 1), (5, .int 2), (6, .int 1)] [] [(q 0, .inr (10, mF t n q co cr po tx ty)), (q 10, aI G 320 (rg [z0, z1, z2, z3, y_31, y_31, z6, y_12, h_14, z9, z10, z11, w_17, y_34, v_15, y_10])), (q 11, aZ G 16 sf_35)]
          refine j_aload_n X dX11_cut_173 rfl 2 rfl ?_
          refine j_bipush (v := 9) X dX11_cut_174 (by decide) ?_
          refine j_bipush (v := 13) X dX11_cut_176 (by decide) ?_
          refine j_iconst (v := 3) X dX11_cut_178 rfl ?_
          obtain ⟨y_36, ey_36⟩ : ∃ zz9 : Int, zz9 = y_34 * z3 := ⟨_, rfl⟩
          have by_36 : bd 86 y_36 := by rw [ey_36]; exact bd_mul by_34 b3
          refine j_callV X dX11_cut_179 (n_mul l G q t n co cr po tx ty [z0, z1, z2, z3, y_31, y_31, z6, y_12, h_14, z9, z10, z11, w_17, y_34, v_15, y_10] sf_35 rfl hS_sf_35 9 9 rfl (by decide) 13 13 rfl (by decide) 3 3 rfl (by decide) (by decide) (by decide) y_36 ey_36) gX11_cut_X11_multiply rfl hy_X11_multiply_V ⟨Nat.le_of_ble_eq_true rfl, Nat.le_of_ble_eq_true rfl⟩ 0 rfl rfl [0, 1, 2] rfl (by decide) rfl rfl (Nat.le_of_ble_eq_true rfl) ⟨Nat.le_of_ble_eq_true rfl, Nat.le_of_ble_eq_true rfl⟩ ?_
          rintro _ sf_37 ⟨rfl, hS_sf_37⟩
          change J p l e rm_X11_cut s m args below meth c Q G A 9 0 0 182 [(8, .int (-1)), (7, .int x_18), (0, .ref (q 0)), (1, .int 0), (2, .long w), (4, .int 1), (5, .int 2), (6, .int 1)] [] [(q 0, .inr (10, mF t n q co cr po tx ty)), (q 10, aI G 320 (rg [z0, z1, z2, z3, y_31, y_31, z6, y_12, h_14, y_36, z10, z11, w_17, y_34, v_15, y_10])), (q 11, aZ G 16 sf_37)]
          have hM8 : y_36 = 2 * z3 := by rw [ey_36, ey_34, i64_2]
          have hM9 : (y_36.natAbs : Int) = 2 * z3 := by omega
          refine j_aload_n X dX11_cut_182 rfl 2 rfl ?_
          refine j_bipush (v := 6) X dX11_cut_183 (by decide) ?_
          refine j_iconst (v := 4) X dX11_cut_185 rfl ?_
          refine j_bipush (v := 9) X dX11_cut_186 (by decide) ?_
          obtain ⟨y_38, ey_38⟩ : ∃ zz9 : Int, zz9 = y_31 / (y_36.natAbs : Int) := ⟨_, rfl⟩
          obtain ⟨y_39, ey_39⟩ : ∃ zz9 : Int, zz9 = (y_31.natAbs : Int) % (y_36.natAbs : Int) := ⟨_, rfl⟩
          refine j_callV X dX11_cut_188 (n_divide_6_4_9 l G q t n co cr po tx ty z0 z1 z2 z3 y_31 y_31 z6 y_12 h_14 y_36 z10 z11 w_17 y_34 v_15 y_10 sf_37 hS_sf_37 (by omega) by_36 by_31 (by decide) (by decide) y_38 y_39 ey_38 ey_39) gX11_cut_X11_divide rfl hy_X11_divide_V ⟨Nat.le_of_ble_eq_true rfl, Nat.le_of_ble_eq_true rfl⟩ 0 rfl rfl [0, 1, 2] rfl (by decide) rfl rfl (Nat.le_of_ble_eq_true rfl) ⟨Nat.le_of_ble_eq_true rfl, Nat.le_of_ble_eq_true rfl⟩ ?_
          rintro _ ⟨v_40, v_41, sf_42⟩ ⟨rfl, hS_sf_42⟩
          change J p l e rm_X11_cut s m args below meth c Q G A 9 0 0 191 [(8, .int (-1)), (7, .int x_18), (0, .ref (q 0)), (1, .int 0), (2, .long w), (4, .int 1), (5, .int 2), (6, .int 1)] [] [(q 0, .inr (10, mF t n q co cr po tx ty)), (q 10, aI G 320 (rg [z0, z1, z2, z3, y_31, y_31, y_38, y_12, h_14, y_36, z10, z11, y_39, y_34, v_40, v_41])), (q 11, aZ G 16 sf_42)]
          exact E.1 191 _ (y_31, y_31, y_38, y_12, h_14, y_36, y_39, y_34, v_40, v_41, sf_42) dX11_cut_191 (⟨rfl, ⟨h_14, ⟨hh_140, hh_141, hh_142⟩, by dsimp only; rw [fl_n (show sg ((1 : Int32).toInt * w.toInt) = -1 from by rw [iT1, Int.one_mul]; rw [sg_neg (by omega)]) hEx, ey_38, hM9] <;> (congr 1 <;> omega)⟩, hS_sf_42⟩) hr
        · skip
          rw [ex_18] at c_139
          have hEx : ¬ h_14 * h_14 = 2 * w.toInt * (2 * w.toInt) * z2 := by intro q9; rw [if_pos q9] at c_139; exact absurd c_139 (by decide)
          refine j_aload_n X dX11_cut_142 rfl 2 rfl ?_
          refine j_bipush (v := 15) X dX11_cut_143 (by decide) ?_
          refine j_lconst (v := 1) X dX11_cut_145 rfl ?_
          obtain ⟨y_43, ey_43⟩ : ∃ zz9 : Int, zz9 = 1 := ⟨_, rfl⟩
          have by_43 : bd 1 y_43 := by rw [ey_43]; exact (by decide : Int.natAbs 1 ≤ 2 ^ 1)
          refine j_callV X dX11_cut_146 (n_load l G q t n co cr po tx ty [z0, z1, z2, z3, y_31, y_31, z6, y_12, h_14, z9, z10, z11, w_17, y_8, v_15, y_10] sf_33 rfl hS_sf_33 15 15 rfl (by decide) 1 y_43 (by rw [ey_43]; rfl)) gX11_cut_X11_load rfl hy_X11_load_V ⟨Nat.le_of_ble_eq_true rfl, Nat.le_of_ble_eq_true rfl⟩ 0 rfl rfl [0, 1, 2] rfl (by decide) rfl rfl (Nat.le_of_ble_eq_true rfl) ⟨Nat.le_of_ble_eq_true rfl, Nat.le_of_ble_eq_true rfl⟩ ?_
          rintro _ sf_44 ⟨rfl, hS_sf_44⟩
          change J p l e rm_X11_cut s m args below meth c Q G A 9 0 0 149 [(8, .int (-1)), (7, .int x_18), (0, .ref (q 0)), (1, .int 0), (2, .long w), (4, .int 1), (5, .int 2), (6, .int 1)] [] [(q 0, .inr (10, mF t n q co cr po tx ty)), (q 10, aI G 320 (rg [z0, z1, z2, z3, y_31, y_31, z6, y_12, h_14, z9, z10, z11, w_17, y_8, v_15, y_43])), (q 11, aZ G 16 sf_44)]
          refine j_aload_n X dX11_cut_149 rfl 2 rfl ?_
          refine j_iconst (v := 5) X dX11_cut_150 rfl ?_
          refine j_iconst (v := 4) X dX11_cut_151 rfl ?_
          refine j_bipush (v := 15) X dX11_cut_152 (by decide) ?_
          refine j_iconst (v := 1) X dX11_cut_154 rfl ?_
          obtain ⟨y_45, ey_45⟩ : ∃ zz9 : Int, zz9 = y_31 - y_43 := ⟨_, rfl⟩
          have by_45 : bd 262 y_45 := by rw [ey_45]; exact bd_sub (bd_mono by_31 (by decide)) (bd_mono by_43 (by decide))
          refine j_callV X dX11_cut_155 (n_join l G q t n co cr po tx ty [z0, z1, z2, z3, y_31, y_31, z6, y_12, h_14, z9, z10, z11, w_17, y_8, v_15, y_43] sf_44 rfl hS_sf_44 5 5 rfl (by decide) 4 4 rfl (by decide) 15 15 rfl (by decide) 1 (Or.inr rfl) (by decide) (by decide) y_45 ey_45 by_31 by_43 (by decide) (by decide)) gX11_cut_X11_join rfl hy_X11_join_V ⟨Nat.le_of_ble_eq_true rfl, Nat.le_of_ble_eq_true rfl⟩ 0 rfl rfl [0, 1, 2] rfl (by decide) rfl rfl (Nat.le_of_ble_eq_true rfl) ⟨Nat.le_of_ble_eq_true rfl, Nat.le_of_ble_eq_true rfl⟩ ?_
          rintro _ sf_46 ⟨rfl, hS_sf_46⟩
          change J p l e rm_X11_cut s m args below meth c Q G A 9 0 0 158 [(8, .int (-1)), (7, .int x_18), (0, .ref (q 0)), (1, .int 0), (2, .long w), (4, .int 1), (5, .int 2), (6, .int 1)] [] [(q 0, .inr (10, mF t n q co cr po tx ty)), (q 10, aI G 320 (rg [z0, z1, z2, z3, y_31, y_45, z6, y_12, h_14, z9, z10, z11, w_17, y_8, v_15, y_43])), (q 11, aZ G 16 sf_46)]
          refine j_aload_n X dX11_cut_158 rfl 2 rfl ?_
          refine j_iconst (v := 4) X dX11_cut_159 rfl ?_
          refine j_iconst (v := 5) X dX11_cut_160 rfl ?_
          refine j_callV X dX11_cut_161 (h_copy l G q t n co cr po tx ty [z0, z1, z2, z3, y_31, y_45, z6, y_12, h_14, z9, z10, z11, w_17, y_8, v_15, y_43] sf_46 rfl hS_sf_46 4 4 rfl (by decide) 5 5 rfl (by decide) (by decide)) gX11_cut_X11_copy rfl hy_X11_copy_V ⟨Nat.le_of_ble_eq_true rfl, Nat.le_of_ble_eq_true rfl⟩ 0 rfl rfl [0, 1, 2] rfl (by decide) rfl rfl (Nat.le_of_ble_eq_true rfl) ⟨Nat.le_of_ble_eq_true rfl, Nat.le_of_ble_eq_true rfl⟩ ?_
          rintro _ sf_47 ⟨rfl, hS_sf_47⟩
          change J p l e rm_X11_cut s m args below meth c Q G A 9 0 0 164 [(8, .int (-1)), (7, .int x_18), (0, .ref (q 0)), (1, .int 0), (2, .long w), (4, .int 1), (5, .int 2), (6, .int 1)] [] [(q 0, .inr (10, mF t n q co cr po tx ty)), (q 10, aI G 320 (rg [z0, z1, z2, z3, y_45, y_45, z6, y_12, h_14, z9, z10, z11, w_17, y_8, v_15, y_43])), (q 11, aZ G 16 sf_47)]
          refine j_aload_n X dX11_cut_164 rfl 2 rfl ?_
          refine j_bipush (v := 13) X dX11_cut_165 (by decide) ?_
          refine j_iload X dX11_cut_167 6 rfl ?_
          refine j_i2l X dX11_cut_169 rfl ?_
          obtain ⟨y_48, ey_48⟩ : ∃ zz9 : Int, zz9 = ((2 : Int32).toInt64).toInt := ⟨_, rfl⟩
          have by_48 : bd 2 y_48 := by rw [ey_48]; exact bd_2
          refine j_callV X dX11_cut_170 (n_load l G q t n co cr po tx ty [z0, z1, z2, z3, y_45, y_45, z6, y_12, h_14, z9, z10, z11, w_17, y_8, v_15, y_43] sf_47 rfl hS_sf_47 13 13 rfl (by decide) ((2 : Int32).toInt64) y_48 ey_48) gX11_cut_X11_load rfl hy_X11_load_V ⟨Nat.le_of_ble_eq_true rfl, Nat.le_of_ble_eq_true rfl⟩ 0 rfl rfl [0, 1, 2] rfl (by decide) rfl rfl (Nat.le_of_ble_eq_true rfl) ⟨Nat.le_of_ble_eq_true rfl, Nat.le_of_ble_eq_true rfl⟩ ?_
          rintro _ sf_49 ⟨rfl, hS_sf_49⟩
          change J p l e rm_X11_cut s m args below meth c Q G A 9 0 0 173 [(8, .int (-1)), (7, .int x_18), (0, .ref (q 0)), (1, .int 0), (2, .long w), (4, .int 1), (5, .int 2), (6, .int 1)] [] [(q 0, .inr (10, mF t n q co cr po tx ty)), (q 10, aI G 320 (rg [z0, z1, z2, z3, y_45, y_45, z6, y_12, h_14, z9, z10, z11, w_17, y_48, v_15, y_43])), (q 11, aZ G 16 sf_49)]
          refine j_aload_n X dX11_cut_173 rfl 2 rfl ?_
          refine j_bipush (v := 9) X dX11_cut_174 (by decide) ?_
          refine j_bipush (v := 13) X dX11_cut_176 (by decide) ?_
          refine j_iconst (v := 3) X dX11_cut_178 rfl ?_
          obtain ⟨y_50, ey_50⟩ : ∃ zz9 : Int, zz9 = y_48 * z3 := ⟨_, rfl⟩
          have by_50 : bd 86 y_50 := by rw [ey_50]; exact bd_mul by_48 b3
          refine j_callV X dX11_cut_179 (n_mul l G q t n co cr po tx ty [z0, z1, z2, z3, y_45, y_45, z6, y_12, h_14, z9, z10, z11, w_17, y_48, v_15, y_43] sf_49 rfl hS_sf_49 9 9 rfl (by decide) 13 13 rfl (by decide) 3 3 rfl (by decide) (by decide) (by decide) y_50 ey_50) gX11_cut_X11_multiply rfl hy_X11_multiply_V ⟨Nat.le_of_ble_eq_true rfl, Nat.le_of_ble_eq_true rfl⟩ 0 rfl rfl [0, 1, 2] rfl (by decide) rfl rfl (Nat.le_of_ble_eq_true rfl) ⟨Nat.le_of_ble_eq_true rfl, Nat.le_of_ble_eq_true rfl⟩ ?_
          rintro _ sf_51 ⟨rfl, hS_sf_51⟩
          change J p l e rm_X11_cut s m args below meth c Q G A 9 0 0 182 [(8, .int (-1)), (7, .int x_18), (0, .ref (q 0)), (1, .int 0), (2, .long w), (4, .int 1), (5, .int 2), (6, .int 1)] [] [(q 0, .inr (10, mF t n q co cr po tx ty)), (q 10, aI G 320 (rg [z0, z1, z2, z3, y_45, y_45, z6, y_12, h_14, y_50, z10, z11, w_17, y_48, v_15, y_43])), (q 11, aZ G 16 sf_51)]
          have hM8 : y_50 = 2 * z3 := by rw [ey_50, ey_48, i64_2]
          have hM9 : (y_50.natAbs : Int) = 2 * z3 := by omega
          refine j_aload_n X dX11_cut_182 rfl 2 rfl ?_
          refine j_bipush (v := 6) X dX11_cut_183 (by decide) ?_
          refine j_iconst (v := 4) X dX11_cut_185 rfl ?_
          refine j_bipush (v := 9) X dX11_cut_186 (by decide) ?_
          obtain ⟨y_52, ey_52⟩ : ∃ zz9 : Int, zz9 = y_45 / (y_50.natAbs : Int) := ⟨_, rfl⟩
          obtain ⟨y_53, ey_53⟩ : ∃ zz9 : Int, zz9 = (y_45.natAbs : Int) % (y_50.natAbs : Int) := ⟨_, rfl⟩
          refine j_callV X dX11_cut_188 (n_divide_6_4_9 l G q t n co cr po tx ty z0 z1 z2 z3 y_45 y_45 z6 y_12 h_14 y_50 z10 z11 w_17 y_48 v_15 y_43 sf_51 hS_sf_51 (by omega) by_50 by_45 (by decide) (by decide) y_52 y_53 ey_52 ey_53) gX11_cut_X11_divide rfl hy_X11_divide_V ⟨Nat.le_of_ble_eq_true rfl, Nat.le_of_ble_eq_true rfl⟩ 0 rfl rfl [0, 1, 2] rfl (by decide) rfl rfl (Nat.le_of_ble_eq_true rfl) ⟨Nat.le_of_ble_eq_true rfl, Nat.le_of_ble_eq_true rfl⟩ ?_
          rintro _ ⟨v_54, v_55, sf_56⟩ ⟨rfl, hS_sf_56⟩
          change J p l e rm_X11_cut s m args below meth c Q G A 9 0 0 191 [(8, .int (-1)), (7, .int x_18), (0, .ref (q 0)), (1, .int 0), (2, .long w), (4, .int 1), (5, .int 2), (6, .int 1)] [] [(q 0, .inr (10, mF t n q co cr po tx ty)), (q 10, aI G 320 (rg [z0, z1, z2, z3, y_45, y_45, y_52, y_12, h_14, y_50, z10, z11, y_53, y_48, v_54, v_55])), (q 11, aZ G 16 sf_56)]
          exact E.1 191 _ (y_45, y_45, y_52, y_12, h_14, y_50, y_53, y_48, v_54, v_55, sf_56) dX11_cut_191 (⟨rfl, ⟨h_14, ⟨hh_140, hh_141, hh_142⟩, by dsimp only; rw [fl_m (show sg ((1 : Int32).toInt * w.toInt) = -1 from by rw [iT1, Int.one_mul]; rw [sg_neg (by omega)]) hEx, ey_52, hM9] <;> (congr 1 <;> omega)⟩, hS_sf_56⟩) hr
    · skip
      first | simp only [bI_0, Decidable.not_not, sg_mul, sg_e0, sg_l0, sg_g0, sg_le0, sg_ge0, cmp_eq, cmp_lt, cmp_ge, cmp_gt, cmp_le, lT0, lT1] at c_79 | simp only [Int32.le_iff_toInt_le, Int32.lt_iff_toInt_lt, ← Int32.toInt_inj, iT0, iT1, iT2, iT3, iT4, iT5, iT6, iT7, iT8, iT9, iT10, iT11, iT12, iT13, iT14, iT15, iT16, iT19, iT20, iT31, iT32, iT42, iT64, iT200, iT318, iT319, iT1000, iTm1, iTm2] at c_79 | skip
      refine j_iconst (v := 0) X dX11_cut_82 rfl ?_
      refine j_goto (tgt := 101) X dX11_cut_83 (by decide) ?_
      refine j_istore (L' := [(8, .int 0), (7, .int x_18), (0, .ref (q 0)), (1, .int 0), (2, .long w), (4, .int 1), (5, .int 2), (6, .int 1)]) X dX11_cut_101 (by decide) rfl ?_
      refine j_iload X dX11_cut_103 0 rfl ?_
      refine j_if_eq (tgt := 132) X dX11_cut_105 (by decide) (fun _ => ?_) (fun c9 => absurd c9 (by decide))
      refine j_iload X dX11_cut_132 0 rfl ?_
      refine j_if_ge (tgt := 164) X dX11_cut_134 (by decide) (fun _ => ?_) (fun c9 => absurd c9 (by decide))
      refine j_aload_n X dX11_cut_164 rfl 2 rfl ?_
      refine j_bipush (v := 13) X dX11_cut_165 (by decide) ?_
      refine j_iload X dX11_cut_167 6 rfl ?_
      refine j_i2l X dX11_cut_169 rfl ?_
      obtain ⟨y_57, ey_57⟩ : ∃ zz9 : Int, zz9 = ((2 : Int32).toInt64).toInt := ⟨_, rfl⟩
      have by_57 : bd 2 y_57 := by rw [ey_57]; exact bd_2
      refine j_callV X dX11_cut_170 (n_load l G q t n co cr po tx ty [z0, z1, z2, z3, y_5, y_5, z6, y_12, h_14, z9, z10, z11, w_17, y_8, v_15, y_10] sf_16 rfl hS_sf_16 13 13 rfl (by decide) ((2 : Int32).toInt64) y_57 ey_57) gX11_cut_X11_load rfl hy_X11_load_V ⟨Nat.le_of_ble_eq_true rfl, Nat.le_of_ble_eq_true rfl⟩ 0 rfl rfl [0, 1, 2] rfl (by decide) rfl rfl (Nat.le_of_ble_eq_true rfl) ⟨Nat.le_of_ble_eq_true rfl, Nat.le_of_ble_eq_true rfl⟩ ?_
      rintro _ sf_58 ⟨rfl, hS_sf_58⟩
      change J p l e rm_X11_cut s m args below meth c Q G A 9 0 0 173 [(8, .int 0), (7, .int x_18), (0, .ref (q 0)), (1, .int 0), (2, .long w), (4, .int 1), (5, .int 2), (6, .int 1)] [] [(q 0, .inr (10, mF t n q co cr po tx ty)), (q 10, aI G 320 (rg [z0, z1, z2, z3, y_5, y_5, z6, y_12, h_14, z9, z10, z11, w_17, y_57, v_15, y_10])), (q 11, aZ G 16 sf_58)]
      refine j_aload_n X dX11_cut_173 rfl 2 rfl ?_
      refine j_bipush (v := 9) X dX11_cut_174 (by decide) ?_
      refine j_bipush (v := 13) X dX11_cut_176 (by decide) ?_
      refine j_iconst (v := 3) X dX11_cut_178 rfl ?_
      obtain ⟨y_59, ey_59⟩ : ∃ zz9 : Int, zz9 = y_57 * z3 := ⟨_, rfl⟩
      have by_59 : bd 86 y_59 := by rw [ey_59]; exact bd_mul by_57 b3
      refine j_callV X dX11_cut_179 (n_mul l G q t n co cr po tx ty [z0, z1, z2, z3, y_5, y_5, z6, y_12, h_14, z9, z10, z11, w_17, y_57, v_15, y_10] sf_58 rfl hS_sf_58 9 9 rfl (by decide) 13 13 rfl (by decide) 3 3 rfl (by decide) (by decide) (by decide) y_59 ey_59) gX11_cut_X11_multiply rfl hy_X11_multiply_V ⟨Nat.le_of_ble_eq_true rfl, Nat.le_of_ble_eq_true rfl⟩ 0 rfl rfl [0, 1, 2] rfl (by decide) rfl rfl (Nat.le_of_ble_eq_true rfl) ⟨Nat.le_of_ble_eq_true rfl, Nat.le_of_ble_eq_true rfl⟩ ?_
      rintro _ sf_60 ⟨rfl, hS_sf_60⟩
      change J p l e rm_X11_cut s m args below meth c Q G A 9 0 0 182 [(8, .int 0), (7, .int x_18), (0, .ref (q 0)), (1, .int 0), (2, .long w), (4, .int 1), (5, .int 2), (6, .int 1)] [] [(q 0, .inr (10, mF t n q co cr po tx ty)), (q 10, aI G 320 (rg [z0, z1, z2, z3, y_5, y_5, z6, y_12, h_14, y_59, z10, z11, w_17, y_57, v_15, y_10])), (q 11, aZ G 16 sf_60)]
      have hM8 : y_59 = 2 * z3 := by rw [ey_59, ey_57, i64_2]
      have hM9 : (y_59.natAbs : Int) = 2 * z3 := by omega
      refine j_aload_n X dX11_cut_182 rfl 2 rfl ?_
      refine j_bipush (v := 6) X dX11_cut_183 (by decide) ?_
      refine j_iconst (v := 4) X dX11_cut_185 rfl ?_
      refine j_bipush (v := 9) X dX11_cut_186 (by decide) ?_
      obtain ⟨y_61, ey_61⟩ : ∃ zz9 : Int, zz9 = y_5 / (y_59.natAbs : Int) := ⟨_, rfl⟩
      obtain ⟨y_62, ey_62⟩ : ∃ zz9 : Int, zz9 = (y_5.natAbs : Int) % (y_59.natAbs : Int) := ⟨_, rfl⟩
      refine j_callV X dX11_cut_188 (n_divide_6_4_9 l G q t n co cr po tx ty z0 z1 z2 z3 y_5 y_5 z6 y_12 h_14 y_59 z10 z11 w_17 y_57 v_15 y_10 sf_60 hS_sf_60 (by omega) by_59 by_5 (by decide) (by decide) y_61 y_62 ey_61 ey_62) gX11_cut_X11_divide rfl hy_X11_divide_V ⟨Nat.le_of_ble_eq_true rfl, Nat.le_of_ble_eq_true rfl⟩ 0 rfl rfl [0, 1, 2] rfl (by decide) rfl rfl (Nat.le_of_ble_eq_true rfl) ⟨Nat.le_of_ble_eq_true rfl, Nat.le_of_ble_eq_true rfl⟩ ?_
      rintro _ ⟨v_63, v_64, sf_65⟩ ⟨rfl, hS_sf_65⟩
      change J p l e rm_X11_cut s m args below meth c Q G A 9 0 0 191 [(8, .int 0), (7, .int x_18), (0, .ref (q 0)), (1, .int 0), (2, .long w), (4, .int 1), (5, .int 2), (6, .int 1)] [] [(q 0, .inr (10, mF t n q co cr po tx ty)), (q 10, aI G 320 (rg [z0, z1, z2, z3, y_5, y_5, y_61, y_12, h_14, y_59, z10, z11, y_62, y_57, v_63, v_64])), (q 11, aZ G 16 sf_65)]
      exact E.1 191 _ (y_5, y_5, y_61, y_12, h_14, y_59, y_62, y_57, v_63, v_64, sf_65) dX11_cut_191 (⟨rfl, ⟨h_14, ⟨hh_140, hh_141, hh_142⟩, by dsimp only; rw [fl_z (show sg ((1 : Int32).toInt * w.toInt) = 0 from by rw [iT1, Int.one_mul]; rw [sg_zero (by omega)]), ey_61, hM9] <;> (congr 1 <;> omega)⟩, hS_sf_65⟩) hr
  · skip
    refine j_aload_n X dX11_cut_0 rfl 0 rfl ?_
    refine j_bipush (v := 13) X dX11_cut_1 (by decide) ?_
    refine j_iload X dX11_cut_3 4 rfl ?_
    refine j_i2l X dX11_cut_5 rfl ?_
    obtain ⟨y_66, ey_66⟩ : ∃ zz9 : Int, zz9 = ((2 : Int32).toInt64).toInt := ⟨_, rfl⟩
    have by_66 : bd 2 y_66 := by rw [ey_66]; exact bd_2
    refine j_callV X dX11_cut_6 (n_load l G q t n co cr po tx ty [z0, z1, z2, z3, z4, z5, z6, z7, z8, z9, z10, z11, z12, z13, z14, z15] sf rfl hS 13 13 rfl (by decide) ((2 : Int32).toInt64) y_66 ey_66) gX11_cut_X11_load rfl hy_X11_load_V ⟨Nat.le_of_ble_eq_true rfl, Nat.le_of_ble_eq_true rfl⟩ 0 rfl rfl [0, 1, 2] rfl (by decide) rfl rfl (Nat.le_of_ble_eq_true rfl) ⟨Nat.le_of_ble_eq_true rfl, Nat.le_of_ble_eq_true rfl⟩ ?_
    rintro _ sf_67 ⟨rfl, hS_sf_67⟩
    change J p l e rm_X11_cut s m args below meth c Q G A 9 0 0 9 [(0, .ref (q 0)), (1, .int 0), (2, .long w), (4, .int (-1)), (5, .int 2), (6, .int 1)] [] [(q 0, .inr (10, mF t n q co cr po tx ty)), (q 10, aI G 320 (rg [z0, z1, z2, z3, z4, z5, z6, z7, z8, z9, z10, z11, z12, y_66, z14, z15])), (q 11, aZ G 16 sf_67)]
    refine j_aload_n X dX11_cut_9 rfl 0 rfl ?_
    refine j_iconst (v := 4) X dX11_cut_10 rfl ?_
    refine j_bipush (v := 13) X dX11_cut_11 (by decide) ?_
    refine j_iload_n X dX11_cut_13 rfl 1 rfl ?_
    obtain ⟨y_68, ey_68⟩ : ∃ zz9 : Int, zz9 = y_66 * z0 := ⟨_, rfl⟩
    have by_68 : bd 129 y_68 := by rw [ey_68]; exact bd_mul by_66 bu
    refine j_callV X dX11_cut_14 (n_mul l G q t n co cr po tx ty [z0, z1, z2, z3, z4, z5, z6, z7, z8, z9, z10, z11, z12, y_66, z14, z15] sf_67 rfl hS_sf_67 4 4 rfl (by decide) 13 13 rfl (by decide) 0 0 rfl (by decide) (by decide) (by decide) y_68 ey_68) gX11_cut_X11_multiply rfl hy_X11_multiply_V ⟨Nat.le_of_ble_eq_true rfl, Nat.le_of_ble_eq_true rfl⟩ 0 rfl rfl [0, 1, 2] rfl (by decide) rfl rfl (Nat.le_of_ble_eq_true rfl) ⟨Nat.le_of_ble_eq_true rfl, Nat.le_of_ble_eq_true rfl⟩ ?_
    rintro _ sf_69 ⟨rfl, hS_sf_69⟩
    change J p l e rm_X11_cut s m args below meth c Q G A 9 0 0 17 [(0, .ref (q 0)), (1, .int 0), (2, .long w), (4, .int (-1)), (5, .int 2), (6, .int 1)] [] [(q 0, .inr (10, mF t n q co cr po tx ty)), (q 10, aI G 320 (rg [z0, z1, z2, z3, y_68, z5, z6, z7, z8, z9, z10, z11, z12, y_66, z14, z15])), (q 11, aZ G 16 sf_69)]
    have hA1 : y_68 = 2 * z0 := by rw [ey_68, ey_66, i64_2]
    refine j_iload X dX11_cut_17 5 rfl ?_
    refine j_if_eq (tgt := 36) X dX11_cut_19 (by decide) (fun c9 => absurd c9 (by decide)) (fun _ => ?_)
    refine j_aload_n X dX11_cut_22 rfl 0 rfl ?_
    refine j_iconst (v := 5) X dX11_cut_23 rfl ?_
    refine j_iconst (v := 4) X dX11_cut_24 rfl ?_
    refine j_iconst (v := 3) X dX11_cut_25 rfl ?_
    refine j_iconst (v := 0) X dX11_cut_26 rfl ?_
    obtain ⟨y_70, ey_70⟩ : ∃ zz9 : Int, zz9 = y_68 + z3 := ⟨_, rfl⟩
    have by_70 : bd 130 y_70 := by rw [ey_70]; exact bd_add (bd_mono by_68 (by decide)) (bd_mono b3 (by decide))
    refine j_callV X dX11_cut_27 (n_join l G q t n co cr po tx ty [z0, z1, z2, z3, y_68, z5, z6, z7, z8, z9, z10, z11, z12, y_66, z14, z15] sf_69 rfl hS_sf_69 5 5 rfl (by decide) 4 4 rfl (by decide) 3 3 rfl (by decide) 0 (Or.inl rfl) (by decide) (by decide) y_70 ey_70 by_68 b3 (by decide) (by decide)) gX11_cut_X11_join rfl hy_X11_join_V ⟨Nat.le_of_ble_eq_true rfl, Nat.le_of_ble_eq_true rfl⟩ 0 rfl rfl [0, 1, 2] rfl (by decide) rfl rfl (Nat.le_of_ble_eq_true rfl) ⟨Nat.le_of_ble_eq_true rfl, Nat.le_of_ble_eq_true rfl⟩ ?_
    rintro _ sf_71 ⟨rfl, hS_sf_71⟩
    change J p l e rm_X11_cut s m args below meth c Q G A 9 0 0 30 [(0, .ref (q 0)), (1, .int 0), (2, .long w), (4, .int (-1)), (5, .int 2), (6, .int 1)] [] [(q 0, .inr (10, mF t n q co cr po tx ty)), (q 10, aI G 320 (rg [z0, z1, z2, z3, y_68, y_70, z6, z7, z8, z9, z10, z11, z12, y_66, z14, z15])), (q 11, aZ G 16 sf_71)]
    refine j_aload_n X dX11_cut_30 rfl 0 rfl ?_
    refine j_iconst (v := 4) X dX11_cut_31 rfl ?_
    refine j_iconst (v := 5) X dX11_cut_32 rfl ?_
    refine j_callV X dX11_cut_33 (h_copy l G q t n co cr po tx ty [z0, z1, z2, z3, y_68, y_70, z6, z7, z8, z9, z10, z11, z12, y_66, z14, z15] sf_71 rfl hS_sf_71 4 4 rfl (by decide) 5 5 rfl (by decide) (by decide)) gX11_cut_X11_copy rfl hy_X11_copy_V ⟨Nat.le_of_ble_eq_true rfl, Nat.le_of_ble_eq_true rfl⟩ 0 rfl rfl [0, 1, 2] rfl (by decide) rfl rfl (Nat.le_of_ble_eq_true rfl) ⟨Nat.le_of_ble_eq_true rfl, Nat.le_of_ble_eq_true rfl⟩ ?_
    rintro _ sf_72 ⟨rfl, hS_sf_72⟩
    change J p l e rm_X11_cut s m args below meth c Q G A 9 0 0 36 [(0, .ref (q 0)), (1, .int 0), (2, .long w), (4, .int (-1)), (5, .int 2), (6, .int 1)] [] [(q 0, .inr (10, mF t n q co cr po tx ty)), (q 10, aI G 320 (rg [z0, z1, z2, z3, y_70, y_70, z6, z7, z8, z9, z10, z11, z12, y_66, z14, z15])), (q 11, aZ G 16 sf_72)]
    refine j_aload_n X dX11_cut_36 rfl 0 rfl ?_
    refine j_bipush (v := 13) X dX11_cut_37 (by decide) ?_
    refine j_iload X dX11_cut_39 4 rfl ?_
    refine j_i2l X dX11_cut_41 rfl ?_
    refine j_lload_n X dX11_cut_42 rfl 2 rfl ?_
    refine j_lmul X dX11_cut_43 ?_
    obtain ⟨y_73, ey_73⟩ : ∃ zz9 : Int, zz9 = (((2 : Int32).toInt64) * w).toInt := ⟨_, rfl⟩
    have by_73 : bd 43 y_73 := by rw [ey_73]; exact bq9
    refine j_callV X dX11_cut_44 (n_load l G q t n co cr po tx ty [z0, z1, z2, z3, y_70, y_70, z6, z7, z8, z9, z10, z11, z12, y_66, z14, z15] sf_72 rfl hS_sf_72 13 13 rfl (by decide) (((2 : Int32).toInt64) * w) y_73 ey_73) gX11_cut_X11_load rfl hy_X11_load_V ⟨Nat.le_of_ble_eq_true rfl, Nat.le_of_ble_eq_true rfl⟩ 0 rfl rfl [0, 1, 2] rfl (by decide) rfl rfl (Nat.le_of_ble_eq_true rfl) ⟨Nat.le_of_ble_eq_true rfl, Nat.le_of_ble_eq_true rfl⟩ ?_
    rintro _ sf_74 ⟨rfl, hS_sf_74⟩
    change J p l e rm_X11_cut s m args below meth c Q G A 9 0 0 47 [(0, .ref (q 0)), (1, .int 0), (2, .long w), (4, .int (-1)), (5, .int 2), (6, .int 1)] [] [(q 0, .inr (10, mF t n q co cr po tx ty)), (q 10, aI G 320 (rg [z0, z1, z2, z3, y_70, y_70, z6, z7, z8, z9, z10, z11, z12, y_73, z14, z15])), (q 11, aZ G 16 sf_74)]
    refine j_aload_n X dX11_cut_47 rfl 0 rfl ?_
    refine j_bipush (v := 15) X dX11_cut_48 (by decide) ?_
    refine j_bipush (v := 13) X dX11_cut_50 (by decide) ?_
    refine j_bipush (v := 13) X dX11_cut_52 (by decide) ?_
    obtain ⟨y_75, ey_75⟩ : ∃ zz9 : Int, zz9 = y_73 * y_73 := ⟨_, rfl⟩
    have by_75 : bd 86 y_75 := by rw [ey_75]; exact bd_mul by_73 by_73
    refine j_callV X dX11_cut_54 (n_mul l G q t n co cr po tx ty [z0, z1, z2, z3, y_70, y_70, z6, z7, z8, z9, z10, z11, z12, y_73, z14, z15] sf_74 rfl hS_sf_74 15 15 rfl (by decide) 13 13 rfl (by decide) 13 13 rfl (by decide) (by decide) (by decide) y_75 ey_75) gX11_cut_X11_multiply rfl hy_X11_multiply_V ⟨Nat.le_of_ble_eq_true rfl, Nat.le_of_ble_eq_true rfl⟩ 0 rfl rfl [0, 1, 2] rfl (by decide) rfl rfl (Nat.le_of_ble_eq_true rfl) ⟨Nat.le_of_ble_eq_true rfl, Nat.le_of_ble_eq_true rfl⟩ ?_
    rintro _ sf_76 ⟨rfl, hS_sf_76⟩
    change J p l e rm_X11_cut s m args below meth c Q G A 9 0 0 57 [(0, .ref (q 0)), (1, .int 0), (2, .long w), (4, .int (-1)), (5, .int 2), (6, .int 1)] [] [(q 0, .inr (10, mF t n q co cr po tx ty)), (q 10, aI G 320 (rg [z0, z1, z2, z3, y_70, y_70, z6, z7, z8, z9, z10, z11, z12, y_73, z14, y_75])), (q 11, aZ G 16 sf_76)]
    refine j_aload_n X dX11_cut_57 rfl 0 rfl ?_
    refine j_bipush (v := 7) X dX11_cut_58 (by decide) ?_
    refine j_bipush (v := 15) X dX11_cut_60 (by decide) ?_
    refine j_iconst (v := 2) X dX11_cut_62 rfl ?_
    obtain ⟨y_77, ey_77⟩ : ∃ zz9 : Int, zz9 = y_75 * z2 := ⟨_, rfl⟩
    have by_77 : bd 258 y_77 := by rw [ey_77]; exact bd_mul by_75 b2
    refine j_callV X dX11_cut_63 (n_mul l G q t n co cr po tx ty [z0, z1, z2, z3, y_70, y_70, z6, z7, z8, z9, z10, z11, z12, y_73, z14, y_75] sf_76 rfl hS_sf_76 7 7 rfl (by decide) 15 15 rfl (by decide) 2 2 rfl (by decide) (by decide) (by decide) y_77 ey_77) gX11_cut_X11_multiply rfl hy_X11_multiply_V ⟨Nat.le_of_ble_eq_true rfl, Nat.le_of_ble_eq_true rfl⟩ 0 rfl rfl [0, 1, 2] rfl (by decide) rfl rfl (Nat.le_of_ble_eq_true rfl) ⟨Nat.le_of_ble_eq_true rfl, Nat.le_of_ble_eq_true rfl⟩ ?_
    rintro _ sf_78 ⟨rfl, hS_sf_78⟩
    change J p l e rm_X11_cut s m args below meth c Q G A 9 0 0 66 [(0, .ref (q 0)), (1, .int 0), (2, .long w), (4, .int (-1)), (5, .int 2), (6, .int 1)] [] [(q 0, .inr (10, mF t n q co cr po tx ty)), (q 10, aI G 320 (rg [z0, z1, z2, z3, y_70, y_70, z6, y_77, z8, z9, z10, z11, z12, y_73, z14, y_75])), (q 11, aZ G 16 sf_78)]
    refine j_aload_n X dX11_cut_66 rfl 0 rfl ?_
    refine j_bipush (v := 8) X dX11_cut_67 (by decide) ?_
    refine j_bipush (v := 7) X dX11_cut_69 (by decide) ?_
    refine j_callV X dX11_cut_71 (c_X11_rootOf_8_7 l G q t n co cr po tx ty z0 z1 z2 z3 y_70 y_70 z6 y_77 z8 z9 z10 z11 z12 y_73 z14 y_75 sf_78 hS_sf_78 (bd_lt319 by_77 (by decide))) gX11_cut_X11_rootOf rfl hy_X11_rootOf_V ⟨Nat.le_of_ble_eq_true rfl, Nat.le_of_ble_eq_true rfl⟩ 0 rfl rfl [0, 1, 2] rfl (by decide) rfl rfl (Nat.le_of_ble_eq_true rfl) ⟨Nat.le_of_ble_eq_true rfl, Nat.le_of_ble_eq_true rfl⟩ ?_
    rintro _ ⟨h_79, v_80, sf_81⟩ ⟨rfl, hh_790, hh_791, hh_792, hS_sf_81⟩
    dsimp only at hh_790 hh_791 hh_792 hS_sf_81
    change J p l e rm_X11_cut s m args below meth c Q G A 9 0 0 74 [(0, .ref (q 0)), (1, .int 0), (2, .long w), (4, .int (-1)), (5, .int 2), (6, .int 1)] [.int (if h_79 * h_79 = (y_77.natAbs : Int) then 1 else 0)] [(q 0, .inr (10, mF t n q co cr po tx ty)), (q 10, aI G 320 (rg [z0, z1, z2, z3, y_70, y_70, z6, y_77, h_79, z9, z10, z11, ((y_77.natAbs : Int) - h_79 * h_79), y_73, v_80, y_75])), (q 11, aZ G 16 sf_81)]
    obtain ⟨w_82, ew_82⟩ : ∃ zz9 : Int, zz9 = (y_77.natAbs : Int) - h_79 * h_79 := ⟨_, rfl⟩
    rw [← ew_82] at hS_sf_81 ⊢
    have hN9 : (y_77.natAbs : Int) = 2 * w.toInt * (2 * w.toInt) * z2 := by rw [ey_77, ey_75, ey_73, hq9]; exact Int.natAbs_of_nonneg (Int.mul_nonneg (sq_nn _) hR)
    rw [hN9] at hh_791 hh_792 ⊢
    have bh_79 : bd 260 h_79 := bd_of_le hh_790 (Int.le_trans (sq_ge hh_790) hh_791) (by rw [← hN9]; exact bd_abs (bd_mono by_77 (by decide)))
    refine j_topi (fun x_83 ex_83 => ?_)
    refine j_istore (L' := [(7, .int x_83), (0, .ref (q 0)), (1, .int 0), (2, .long w), (4, .int (-1)), (5, .int 2), (6, .int 1)]) X dX11_cut_74 (by decide) rfl ?_
    refine j_lload_n X dX11_cut_76 rfl 3 rfl ?_
    refine j_lconst (v := 0) X dX11_cut_77 rfl ?_
    refine j_lcmp X dX11_cut_78 ?_
    refine j_if_ne (tgt := 86) X dX11_cut_79 (by decide) (fun c_79 => ?_) (fun c_79 => ?_)
    · skip
      first | simp only [bI_0, Decidable.not_not, sg_mul, sg_e0, sg_l0, sg_g0, sg_le0, sg_ge0, cmp_eq, cmp_lt, cmp_ge, cmp_gt, cmp_le, lT0, lT1] at c_79 | simp only [Int32.le_iff_toInt_le, Int32.lt_iff_toInt_lt, ← Int32.toInt_inj, iT0, iT1, iT2, iT3, iT4, iT5, iT6, iT7, iT8, iT9, iT10, iT11, iT12, iT13, iT14, iT15, iT16, iT19, iT20, iT31, iT32, iT42, iT64, iT200, iT318, iT319, iT1000, iTm1, iTm2] at c_79 | skip
      refine j_lload_n X dX11_cut_86 rfl 3 rfl ?_
      refine j_lconst (v := 0) X dX11_cut_87 rfl ?_
      refine j_lcmp X dX11_cut_88 ?_
      refine j_if_ge (tgt := 99) X dX11_cut_89 (by decide) (fun c_89 => ?_) (fun c_89 => ?_)
      · skip
        first | simp only [bI_0, Decidable.not_not, sg_mul, sg_e0, sg_l0, sg_g0, sg_le0, sg_ge0, cmp_eq, cmp_lt, cmp_ge, cmp_gt, cmp_le, lT0, lT1] at c_89 | simp only [Int32.le_iff_toInt_le, Int32.lt_iff_toInt_lt, ← Int32.toInt_inj, iT0, iT1, iT2, iT3, iT4, iT5, iT6, iT7, iT8, iT9, iT10, iT11, iT12, iT13, iT14, iT15, iT16, iT19, iT20, iT31, iT32, iT42, iT64, iT200, iT318, iT319, iT1000, iTm1, iTm2] at c_89 | skip
        refine j_iload X dX11_cut_99 4 rfl ?_
        refine j_istore (L' := [(8, .int (-1)), (7, .int x_83), (0, .ref (q 0)), (1, .int 0), (2, .long w), (4, .int (-1)), (5, .int 2), (6, .int 1)]) X dX11_cut_101 (by decide) rfl ?_
        refine j_iload X dX11_cut_103 0 rfl ?_
        refine j_if_eq (tgt := 132) X dX11_cut_105 (by decide) (fun c9 => absurd c9 (by decide)) (fun _ => ?_)
        refine j_aload_n X dX11_cut_108 rfl 2 rfl ?_
        refine j_iconst (v := 5) X dX11_cut_109 rfl ?_
        refine j_iconst (v := 4) X dX11_cut_110 rfl ?_
        refine j_bipush (v := 8) X dX11_cut_111 (by decide) ?_
        refine j_iload X dX11_cut_113 0 rfl ?_
        refine j_if_ge (tgt := 122) X dX11_cut_115 (by decide) (fun c9 => absurd c9 (by decide)) (fun _ => ?_)
        refine j_iconst (v := 1) X dX11_cut_118 rfl ?_
        refine j_goto (tgt := 123) X dX11_cut_119 (by decide) ?_
        obtain ⟨y_84, ey_84⟩ : ∃ zz9 : Int, zz9 = y_70 - h_79 := ⟨_, rfl⟩
        have by_84 : bd 261 y_84 := by rw [ey_84]; exact bd_sub (bd_mono by_70 (by decide)) (bd_mono bh_79 (by decide))
        refine j_callV X dX11_cut_123 (n_join l G q t n co cr po tx ty [z0, z1, z2, z3, y_70, y_70, z6, y_77, h_79, z9, z10, z11, w_82, y_73, v_80, y_75] sf_81 rfl hS_sf_81 5 5 rfl (by decide) 4 4 rfl (by decide) 8 8 rfl (by decide) 1 (Or.inr rfl) (by decide) (by decide) y_84 ey_84 by_70 bh_79 (by decide) (by decide)) gX11_cut_X11_join rfl hy_X11_join_V ⟨Nat.le_of_ble_eq_true rfl, Nat.le_of_ble_eq_true rfl⟩ 0 rfl rfl [0, 1, 2] rfl (by decide) rfl rfl (Nat.le_of_ble_eq_true rfl) ⟨Nat.le_of_ble_eq_true rfl, Nat.le_of_ble_eq_true rfl⟩ ?_
        rintro _ sf_85 ⟨rfl, hS_sf_85⟩
        change J p l e rm_X11_cut s m args below meth c Q G A 9 0 0 126 [(8, .int (-1)), (7, .int x_83), (0, .ref (q 0)), (1, .int 0), (2, .long w), (4, .int (-1)), (5, .int 2), (6, .int 1)] [] [(q 0, .inr (10, mF t n q co cr po tx ty)), (q 10, aI G 320 (rg [z0, z1, z2, z3, y_70, y_84, z6, y_77, h_79, z9, z10, z11, w_82, y_73, v_80, y_75])), (q 11, aZ G 16 sf_85)]
        refine j_aload_n X dX11_cut_126 rfl 2 rfl ?_
        refine j_iconst (v := 4) X dX11_cut_127 rfl ?_
        refine j_iconst (v := 5) X dX11_cut_128 rfl ?_
        refine j_callV X dX11_cut_129 (h_copy l G q t n co cr po tx ty [z0, z1, z2, z3, y_70, y_84, z6, y_77, h_79, z9, z10, z11, w_82, y_73, v_80, y_75] sf_85 rfl hS_sf_85 4 4 rfl (by decide) 5 5 rfl (by decide) (by decide)) gX11_cut_X11_copy rfl hy_X11_copy_V ⟨Nat.le_of_ble_eq_true rfl, Nat.le_of_ble_eq_true rfl⟩ 0 rfl rfl [0, 1, 2] rfl (by decide) rfl rfl (Nat.le_of_ble_eq_true rfl) ⟨Nat.le_of_ble_eq_true rfl, Nat.le_of_ble_eq_true rfl⟩ ?_
        rintro _ sf_86 ⟨rfl, hS_sf_86⟩
        change J p l e rm_X11_cut s m args below meth c Q G A 9 0 0 132 [(8, .int (-1)), (7, .int x_83), (0, .ref (q 0)), (1, .int 0), (2, .long w), (4, .int (-1)), (5, .int 2), (6, .int 1)] [] [(q 0, .inr (10, mF t n q co cr po tx ty)), (q 10, aI G 320 (rg [z0, z1, z2, z3, y_84, y_84, z6, y_77, h_79, z9, z10, z11, w_82, y_73, v_80, y_75])), (q 11, aZ G 16 sf_86)]
        refine j_iload X dX11_cut_132 0 rfl ?_
        refine j_if_ge (tgt := 164) X dX11_cut_134 (by decide) (fun c9 => absurd c9 (by decide)) (fun _ => ?_)
        refine j_iload X dX11_cut_137 1 rfl ?_
        refine j_if_ne (tgt := 164) X dX11_cut_139 (by decide) (fun c_139 => ?_) (fun c_139 => ?_)
        · skip
          rw [ex_83] at c_139
          have hEx : h_79 * h_79 = 2 * w.toInt * (2 * w.toInt) * z2 := by by_cases q9 : h_79 * h_79 = 2 * w.toInt * (2 * w.toInt) * z2; exact q9; rw [if_neg q9] at c_139; exact absurd rfl c_139
          refine j_aload_n X dX11_cut_164 rfl 2 rfl ?_
          refine j_bipush (v := 13) X dX11_cut_165 (by decide) ?_
          refine j_iload X dX11_cut_167 6 rfl ?_
          refine j_i2l X dX11_cut_169 rfl ?_
          obtain ⟨y_87, ey_87⟩ : ∃ zz9 : Int, zz9 = ((2 : Int32).toInt64).toInt := ⟨_, rfl⟩
          have by_87 : bd 2 y_87 := by rw [ey_87]; exact bd_2
          refine j_callV X dX11_cut_170 (n_load l G q t n co cr po tx ty [z0, z1, z2, z3, y_84, y_84, z6, y_77, h_79, z9, z10, z11, w_82, y_73, v_80, y_75] sf_86 rfl hS_sf_86 13 13 rfl (by decide) ((2 : Int32).toInt64) y_87 ey_87) gX11_cut_X11_load rfl hy_X11_load_V ⟨Nat.le_of_ble_eq_true rfl, Nat.le_of_ble_eq_true rfl⟩ 0 rfl rfl [0, 1, 2] rfl (by decide) rfl rfl (Nat.le_of_ble_eq_true rfl) ⟨Nat.le_of_ble_eq_true rfl, Nat.le_of_ble_eq_true rfl⟩ ?_
          rintro _ sf_88 ⟨rfl, hS_sf_88⟩
          change J p l e rm_X11_cut s m args below meth c Q G A 9 0 0 173 [(8, .int (-1)), (7, .int x_83), (0, .ref (q 0)), (1, .int 0), (2, .long w), (4, .int (-1)), (5, .int 2), (6, .int 1)] [] [(q 0, .inr (10, mF t n q co cr po tx ty)), (q 10, aI G 320 (rg [z0, z1, z2, z3, y_84, y_84, z6, y_77, h_79, z9, z10, z11, w_82, y_87, v_80, y_75])), (q 11, aZ G 16 sf_88)]
          refine j_aload_n X dX11_cut_173 rfl 2 rfl ?_
          refine j_bipush (v := 9) X dX11_cut_174 (by decide) ?_
          refine j_bipush (v := 13) X dX11_cut_176 (by decide) ?_
          refine j_iconst (v := 3) X dX11_cut_178 rfl ?_
          obtain ⟨y_89, ey_89⟩ : ∃ zz9 : Int, zz9 = y_87 * z3 := ⟨_, rfl⟩
          have by_89 : bd 86 y_89 := by rw [ey_89]; exact bd_mul by_87 b3
          refine j_callV X dX11_cut_179 (n_mul l G q t n co cr po tx ty [z0, z1, z2, z3, y_84, y_84, z6, y_77, h_79, z9, z10, z11, w_82, y_87, v_80, y_75] sf_88 rfl hS_sf_88 9 9 rfl (by decide) 13 13 rfl (by decide) 3 3 rfl (by decide) (by decide) (by decide) y_89 ey_89) gX11_cut_X11_multiply rfl hy_X11_multiply_V ⟨Nat.le_of_ble_eq_true rfl, Nat.le_of_ble_eq_true rfl⟩ 0 rfl rfl [0, 1, 2] rfl (by decide) rfl rfl (Nat.le_of_ble_eq_true rfl) ⟨Nat.le_of_ble_eq_true rfl, Nat.le_of_ble_eq_true rfl⟩ ?_
          rintro _ sf_90 ⟨rfl, hS_sf_90⟩
          change J p l e rm_X11_cut s m args below meth c Q G A 9 0 0 182 [(8, .int (-1)), (7, .int x_83), (0, .ref (q 0)), (1, .int 0), (2, .long w), (4, .int (-1)), (5, .int 2), (6, .int 1)] [] [(q 0, .inr (10, mF t n q co cr po tx ty)), (q 10, aI G 320 (rg [z0, z1, z2, z3, y_84, y_84, z6, y_77, h_79, y_89, z10, z11, w_82, y_87, v_80, y_75])), (q 11, aZ G 16 sf_90)]
          have hM8 : y_89 = 2 * z3 := by rw [ey_89, ey_87, i64_2]
          have hM9 : (y_89.natAbs : Int) = 2 * z3 := by omega
          refine j_aload_n X dX11_cut_182 rfl 2 rfl ?_
          refine j_bipush (v := 6) X dX11_cut_183 (by decide) ?_
          refine j_iconst (v := 4) X dX11_cut_185 rfl ?_
          refine j_bipush (v := 9) X dX11_cut_186 (by decide) ?_
          obtain ⟨y_91, ey_91⟩ : ∃ zz9 : Int, zz9 = y_84 / (y_89.natAbs : Int) := ⟨_, rfl⟩
          obtain ⟨y_92, ey_92⟩ : ∃ zz9 : Int, zz9 = (y_84.natAbs : Int) % (y_89.natAbs : Int) := ⟨_, rfl⟩
          refine j_callV X dX11_cut_188 (n_divide_6_4_9 l G q t n co cr po tx ty z0 z1 z2 z3 y_84 y_84 z6 y_77 h_79 y_89 z10 z11 w_82 y_87 v_80 y_75 sf_90 hS_sf_90 (by omega) by_89 by_84 (by decide) (by decide) y_91 y_92 ey_91 ey_92) gX11_cut_X11_divide rfl hy_X11_divide_V ⟨Nat.le_of_ble_eq_true rfl, Nat.le_of_ble_eq_true rfl⟩ 0 rfl rfl [0, 1, 2] rfl (by decide) rfl rfl (Nat.le_of_ble_eq_true rfl) ⟨Nat.le_of_ble_eq_true rfl, Nat.le_of_ble_eq_true rfl⟩ ?_
          rintro _ ⟨v_93, v_94, sf_95⟩ ⟨rfl, hS_sf_95⟩
          change J p l e rm_X11_cut s m args below meth c Q G A 9 0 0 191 [(8, .int (-1)), (7, .int x_83), (0, .ref (q 0)), (1, .int 0), (2, .long w), (4, .int (-1)), (5, .int 2), (6, .int 1)] [] [(q 0, .inr (10, mF t n q co cr po tx ty)), (q 10, aI G 320 (rg [z0, z1, z2, z3, y_84, y_84, y_91, y_77, h_79, y_89, z10, z11, y_92, y_87, v_93, v_94])), (q 11, aZ G 16 sf_95)]
          exact E.1 191 _ (y_84, y_84, y_91, y_77, h_79, y_89, y_92, y_87, v_93, v_94, sf_95) dX11_cut_191 (⟨rfl, ⟨h_79, ⟨hh_790, hh_791, hh_792⟩, by dsimp only; rw [fl_n (show sg ((-1 : Int32).toInt * w.toInt) = -1 from by rw [iTm1, Int.neg_one_mul]; rw [sg_neg (by omega)]) hEx, ey_91, hM9] <;> (congr 1 <;> omega)⟩, hS_sf_95⟩) hr
        · skip
          rw [ex_83] at c_139
          have hEx : ¬ h_79 * h_79 = 2 * w.toInt * (2 * w.toInt) * z2 := by intro q9; rw [if_pos q9] at c_139; exact absurd c_139 (by decide)
          refine j_aload_n X dX11_cut_142 rfl 2 rfl ?_
          refine j_bipush (v := 15) X dX11_cut_143 (by decide) ?_
          refine j_lconst (v := 1) X dX11_cut_145 rfl ?_
          obtain ⟨y_96, ey_96⟩ : ∃ zz9 : Int, zz9 = 1 := ⟨_, rfl⟩
          have by_96 : bd 1 y_96 := by rw [ey_96]; exact (by decide : Int.natAbs 1 ≤ 2 ^ 1)
          refine j_callV X dX11_cut_146 (n_load l G q t n co cr po tx ty [z0, z1, z2, z3, y_84, y_84, z6, y_77, h_79, z9, z10, z11, w_82, y_73, v_80, y_75] sf_86 rfl hS_sf_86 15 15 rfl (by decide) 1 y_96 (by rw [ey_96]; rfl)) gX11_cut_X11_load rfl hy_X11_load_V ⟨Nat.le_of_ble_eq_true rfl, Nat.le_of_ble_eq_true rfl⟩ 0 rfl rfl [0, 1, 2] rfl (by decide) rfl rfl (Nat.le_of_ble_eq_true rfl) ⟨Nat.le_of_ble_eq_true rfl, Nat.le_of_ble_eq_true rfl⟩ ?_
          rintro _ sf_97 ⟨rfl, hS_sf_97⟩
          change J p l e rm_X11_cut s m args below meth c Q G A 9 0 0 149 [(8, .int (-1)), (7, .int x_83), (0, .ref (q 0)), (1, .int 0), (2, .long w), (4, .int (-1)), (5, .int 2), (6, .int 1)] [] [(q 0, .inr (10, mF t n q co cr po tx ty)), (q 10, aI G 320 (rg [z0, z1, z2, z3, y_84, y_84, z6, y_77, h_79, z9, z10, z11, w_82, y_73, v_80, y_96])), (q 11, aZ G 16 sf_97)]
          refine j_aload_n X dX11_cut_149 rfl 2 rfl ?_
          refine j_iconst (v := 5) X dX11_cut_150 rfl ?_
          refine j_iconst (v := 4) X dX11_cut_151 rfl ?_
          refine j_bipush (v := 15) X dX11_cut_152 (by decide) ?_
          refine j_iconst (v := 1) X dX11_cut_154 rfl ?_
          obtain ⟨y_98, ey_98⟩ : ∃ zz9 : Int, zz9 = y_84 - y_96 := ⟨_, rfl⟩
          have by_98 : bd 262 y_98 := by rw [ey_98]; exact bd_sub (bd_mono by_84 (by decide)) (bd_mono by_96 (by decide))
          refine j_callV X dX11_cut_155 (n_join l G q t n co cr po tx ty [z0, z1, z2, z3, y_84, y_84, z6, y_77, h_79, z9, z10, z11, w_82, y_73, v_80, y_96] sf_97 rfl hS_sf_97 5 5 rfl (by decide) 4 4 rfl (by decide) 15 15 rfl (by decide) 1 (Or.inr rfl) (by decide) (by decide) y_98 ey_98 by_84 by_96 (by decide) (by decide)) gX11_cut_X11_join rfl hy_X11_join_V ⟨Nat.le_of_ble_eq_true rfl, Nat.le_of_ble_eq_true rfl⟩ 0 rfl rfl [0, 1, 2] rfl (by decide) rfl rfl (Nat.le_of_ble_eq_true rfl) ⟨Nat.le_of_ble_eq_true rfl, Nat.le_of_ble_eq_true rfl⟩ ?_
          rintro _ sf_99 ⟨rfl, hS_sf_99⟩
          change J p l e rm_X11_cut s m args below meth c Q G A 9 0 0 158 [(8, .int (-1)), (7, .int x_83), (0, .ref (q 0)), (1, .int 0), (2, .long w), (4, .int (-1)), (5, .int 2), (6, .int 1)] [] [(q 0, .inr (10, mF t n q co cr po tx ty)), (q 10, aI G 320 (rg [z0, z1, z2, z3, y_84, y_98, z6, y_77, h_79, z9, z10, z11, w_82, y_73, v_80, y_96])), (q 11, aZ G 16 sf_99)]
          refine j_aload_n X dX11_cut_158 rfl 2 rfl ?_
          refine j_iconst (v := 4) X dX11_cut_159 rfl ?_
          refine j_iconst (v := 5) X dX11_cut_160 rfl ?_
          refine j_callV X dX11_cut_161 (h_copy l G q t n co cr po tx ty [z0, z1, z2, z3, y_84, y_98, z6, y_77, h_79, z9, z10, z11, w_82, y_73, v_80, y_96] sf_99 rfl hS_sf_99 4 4 rfl (by decide) 5 5 rfl (by decide) (by decide)) gX11_cut_X11_copy rfl hy_X11_copy_V ⟨Nat.le_of_ble_eq_true rfl, Nat.le_of_ble_eq_true rfl⟩ 0 rfl rfl [0, 1, 2] rfl (by decide) rfl rfl (Nat.le_of_ble_eq_true rfl) ⟨Nat.le_of_ble_eq_true rfl, Nat.le_of_ble_eq_true rfl⟩ ?_
          rintro _ sf_100 ⟨rfl, hS_sf_100⟩
          change J p l e rm_X11_cut s m args below meth c Q G A 9 0 0 164 [(8, .int (-1)), (7, .int x_83), (0, .ref (q 0)), (1, .int 0), (2, .long w), (4, .int (-1)), (5, .int 2), (6, .int 1)] [] [(q 0, .inr (10, mF t n q co cr po tx ty)), (q 10, aI G 320 (rg [z0, z1, z2, z3, y_98, y_98, z6, y_77, h_79, z9, z10, z11, w_82, y_73, v_80, y_96])), (q 11, aZ G 16 sf_100)]
          refine j_aload_n X dX11_cut_164 rfl 2 rfl ?_
          refine j_bipush (v := 13) X dX11_cut_165 (by decide) ?_
          refine j_iload X dX11_cut_167 6 rfl ?_
          refine j_i2l X dX11_cut_169 rfl ?_
          obtain ⟨y_101, ey_101⟩ : ∃ zz9 : Int, zz9 = ((2 : Int32).toInt64).toInt := ⟨_, rfl⟩
          have by_101 : bd 2 y_101 := by rw [ey_101]; exact bd_2
          refine j_callV X dX11_cut_170 (n_load l G q t n co cr po tx ty [z0, z1, z2, z3, y_98, y_98, z6, y_77, h_79, z9, z10, z11, w_82, y_73, v_80, y_96] sf_100 rfl hS_sf_100 13 13 rfl (by decide) ((2 : Int32).toInt64) y_101 ey_101) gX11_cut_X11_load rfl hy_X11_load_V ⟨Nat.le_of_ble_eq_true rfl, Nat.le_of_ble_eq_true rfl⟩ 0 rfl rfl [0, 1, 2] rfl (by decide) rfl rfl (Nat.le_of_ble_eq_true rfl) ⟨Nat.le_of_ble_eq_true rfl, Nat.le_of_ble_eq_true rfl⟩ ?_
          rintro _ sf_102 ⟨rfl, hS_sf_102⟩
          change J p l e rm_X11_cut s m args below meth c Q G A 9 0 0 173 [(8, .int (-1)), (7, .int x_83), (0, .ref (q 0)), (1, .int 0), (2, .long w), (4, .int (-1)), (5, .int 2), (6, .int 1)] [] [(q 0, .inr (10, mF t n q co cr po tx ty)), (q 10, aI G 320 (rg [z0, z1, z2, z3, y_98, y_98, z6, y_77, h_79, z9, z10, z11, w_82, y_101, v_80, y_96])), (q 11, aZ G 16 sf_102)]
          refine j_aload_n X dX11_cut_173 rfl 2 rfl ?_
          refine j_bipush (v := 9) X dX11_cut_174 (by decide) ?_
          refine j_bipush (v := 13) X dX11_cut_176 (by decide) ?_
          refine j_iconst (v := 3) X dX11_cut_178 rfl ?_
          obtain ⟨y_103, ey_103⟩ : ∃ zz9 : Int, zz9 = y_101 * z3 := ⟨_, rfl⟩
          have by_103 : bd 86 y_103 := by rw [ey_103]; exact bd_mul by_101 b3
          refine j_callV X dX11_cut_179 (n_mul l G q t n co cr po tx ty [z0, z1, z2, z3, y_98, y_98, z6, y_77, h_79, z9, z10, z11, w_82, y_101, v_80, y_96] sf_102 rfl hS_sf_102 9 9 rfl (by decide) 13 13 rfl (by decide) 3 3 rfl (by decide) (by decide) (by decide) y_103 ey_103) gX11_cut_X11_multiply rfl hy_X11_multiply_V ⟨Nat.le_of_ble_eq_true rfl, Nat.le_of_ble_eq_true rfl⟩ 0 rfl rfl [0, 1, 2] rfl (by decide) rfl rfl (Nat.le_of_ble_eq_true rfl) ⟨Nat.le_of_ble_eq_true rfl, Nat.le_of_ble_eq_true rfl⟩ ?_
          rintro _ sf_104 ⟨rfl, hS_sf_104⟩
          change J p l e rm_X11_cut s m args below meth c Q G A 9 0 0 182 [(8, .int (-1)), (7, .int x_83), (0, .ref (q 0)), (1, .int 0), (2, .long w), (4, .int (-1)), (5, .int 2), (6, .int 1)] [] [(q 0, .inr (10, mF t n q co cr po tx ty)), (q 10, aI G 320 (rg [z0, z1, z2, z3, y_98, y_98, z6, y_77, h_79, y_103, z10, z11, w_82, y_101, v_80, y_96])), (q 11, aZ G 16 sf_104)]
          have hM8 : y_103 = 2 * z3 := by rw [ey_103, ey_101, i64_2]
          have hM9 : (y_103.natAbs : Int) = 2 * z3 := by omega
          refine j_aload_n X dX11_cut_182 rfl 2 rfl ?_
          refine j_bipush (v := 6) X dX11_cut_183 (by decide) ?_
          refine j_iconst (v := 4) X dX11_cut_185 rfl ?_
          refine j_bipush (v := 9) X dX11_cut_186 (by decide) ?_
          obtain ⟨y_105, ey_105⟩ : ∃ zz9 : Int, zz9 = y_98 / (y_103.natAbs : Int) := ⟨_, rfl⟩
          obtain ⟨y_106, ey_106⟩ : ∃ zz9 : Int, zz9 = (y_98.natAbs : Int) % (y_103.natAbs : Int) := ⟨_, rfl⟩
          refine j_callV X dX11_cut_188 (n_divide_6_4_9 l G q t n co cr po tx ty z0 z1 z2 z3 y_98 y_98 z6 y_77 h_79 y_103 z10 z11 w_82 y_101 v_80 y_96 sf_104 hS_sf_104 (by omega) by_103 by_98 (by decide) (by decide) y_105 y_106 ey_105 ey_106) gX11_cut_X11_divide rfl hy_X11_divide_V ⟨Nat.le_of_ble_eq_true rfl, Nat.le_of_ble_eq_true rfl⟩ 0 rfl rfl [0, 1, 2] rfl (by decide) rfl rfl (Nat.le_of_ble_eq_true rfl) ⟨Nat.le_of_ble_eq_true rfl, Nat.le_of_ble_eq_true rfl⟩ ?_
          rintro _ ⟨v_107, v_108, sf_109⟩ ⟨rfl, hS_sf_109⟩
          change J p l e rm_X11_cut s m args below meth c Q G A 9 0 0 191 [(8, .int (-1)), (7, .int x_83), (0, .ref (q 0)), (1, .int 0), (2, .long w), (4, .int (-1)), (5, .int 2), (6, .int 1)] [] [(q 0, .inr (10, mF t n q co cr po tx ty)), (q 10, aI G 320 (rg [z0, z1, z2, z3, y_98, y_98, y_105, y_77, h_79, y_103, z10, z11, y_106, y_101, v_107, v_108])), (q 11, aZ G 16 sf_109)]
          exact E.1 191 _ (y_98, y_98, y_105, y_77, h_79, y_103, y_106, y_101, v_107, v_108, sf_109) dX11_cut_191 (⟨rfl, ⟨h_79, ⟨hh_790, hh_791, hh_792⟩, by dsimp only; rw [fl_m (show sg ((-1 : Int32).toInt * w.toInt) = -1 from by rw [iTm1, Int.neg_one_mul]; rw [sg_neg (by omega)]) hEx, ey_105, hM9] <;> (congr 1 <;> omega)⟩, hS_sf_109⟩) hr
      · skip
        first | simp only [bI_0, Decidable.not_not, sg_mul, sg_e0, sg_l0, sg_g0, sg_le0, sg_ge0, cmp_eq, cmp_lt, cmp_ge, cmp_gt, cmp_le, lT0, lT1] at c_89 | simp only [Int32.le_iff_toInt_le, Int32.lt_iff_toInt_lt, ← Int32.toInt_inj, iT0, iT1, iT2, iT3, iT4, iT5, iT6, iT7, iT8, iT9, iT10, iT11, iT12, iT13, iT14, iT15, iT16, iT19, iT20, iT31, iT32, iT42, iT64, iT200, iT318, iT319, iT1000, iTm1, iTm2] at c_89 | skip
        refine j_iconst (v := 0) X dX11_cut_92 rfl ?_
        refine j_iload X dX11_cut_93 4 rfl ?_
        refine j_isub X dX11_cut_95 ?_
        rw [show (0 : Int32) - (-1) = 1 from by decide]
        refine j_goto (tgt := 101) X dX11_cut_96 (by decide) ?_
        refine j_istore (L' := [(8, .int 1), (7, .int x_83), (0, .ref (q 0)), (1, .int 0), (2, .long w), (4, .int (-1)), (5, .int 2), (6, .int 1)]) X dX11_cut_101 (by decide) rfl ?_
        refine j_iload X dX11_cut_103 0 rfl ?_
        refine j_if_eq (tgt := 132) X dX11_cut_105 (by decide) (fun c9 => absurd c9 (by decide)) (fun _ => ?_)
        refine j_aload_n X dX11_cut_108 rfl 2 rfl ?_
        refine j_iconst (v := 5) X dX11_cut_109 rfl ?_
        refine j_iconst (v := 4) X dX11_cut_110 rfl ?_
        refine j_bipush (v := 8) X dX11_cut_111 (by decide) ?_
        refine j_iload X dX11_cut_113 0 rfl ?_
        refine j_if_ge (tgt := 122) X dX11_cut_115 (by decide) (fun _ => ?_) (fun c9 => absurd c9 (by decide))
        refine j_iconst (v := 0) X dX11_cut_122 rfl ?_
        obtain ⟨y_110, ey_110⟩ : ∃ zz9 : Int, zz9 = y_70 + h_79 := ⟨_, rfl⟩
        have by_110 : bd 261 y_110 := by rw [ey_110]; exact bd_add (bd_mono by_70 (by decide)) (bd_mono bh_79 (by decide))
        refine j_callV X dX11_cut_123 (n_join l G q t n co cr po tx ty [z0, z1, z2, z3, y_70, y_70, z6, y_77, h_79, z9, z10, z11, w_82, y_73, v_80, y_75] sf_81 rfl hS_sf_81 5 5 rfl (by decide) 4 4 rfl (by decide) 8 8 rfl (by decide) 0 (Or.inl rfl) (by decide) (by decide) y_110 ey_110 by_70 bh_79 (by decide) (by decide)) gX11_cut_X11_join rfl hy_X11_join_V ⟨Nat.le_of_ble_eq_true rfl, Nat.le_of_ble_eq_true rfl⟩ 0 rfl rfl [0, 1, 2] rfl (by decide) rfl rfl (Nat.le_of_ble_eq_true rfl) ⟨Nat.le_of_ble_eq_true rfl, Nat.le_of_ble_eq_true rfl⟩ ?_
        rintro _ sf_111 ⟨rfl, hS_sf_111⟩
        change J p l e rm_X11_cut s m args below meth c Q G A 9 0 0 126 [(8, .int 1), (7, .int x_83), (0, .ref (q 0)), (1, .int 0), (2, .long w), (4, .int (-1)), (5, .int 2), (6, .int 1)] [] [(q 0, .inr (10, mF t n q co cr po tx ty)), (q 10, aI G 320 (rg [z0, z1, z2, z3, y_70, y_110, z6, y_77, h_79, z9, z10, z11, w_82, y_73, v_80, y_75])), (q 11, aZ G 16 sf_111)]
        refine j_aload_n X dX11_cut_126 rfl 2 rfl ?_
        refine j_iconst (v := 4) X dX11_cut_127 rfl ?_
        refine j_iconst (v := 5) X dX11_cut_128 rfl ?_
        refine j_callV X dX11_cut_129 (h_copy l G q t n co cr po tx ty [z0, z1, z2, z3, y_70, y_110, z6, y_77, h_79, z9, z10, z11, w_82, y_73, v_80, y_75] sf_111 rfl hS_sf_111 4 4 rfl (by decide) 5 5 rfl (by decide) (by decide)) gX11_cut_X11_copy rfl hy_X11_copy_V ⟨Nat.le_of_ble_eq_true rfl, Nat.le_of_ble_eq_true rfl⟩ 0 rfl rfl [0, 1, 2] rfl (by decide) rfl rfl (Nat.le_of_ble_eq_true rfl) ⟨Nat.le_of_ble_eq_true rfl, Nat.le_of_ble_eq_true rfl⟩ ?_
        rintro _ sf_112 ⟨rfl, hS_sf_112⟩
        change J p l e rm_X11_cut s m args below meth c Q G A 9 0 0 132 [(8, .int 1), (7, .int x_83), (0, .ref (q 0)), (1, .int 0), (2, .long w), (4, .int (-1)), (5, .int 2), (6, .int 1)] [] [(q 0, .inr (10, mF t n q co cr po tx ty)), (q 10, aI G 320 (rg [z0, z1, z2, z3, y_110, y_110, z6, y_77, h_79, z9, z10, z11, w_82, y_73, v_80, y_75])), (q 11, aZ G 16 sf_112)]
        refine j_iload X dX11_cut_132 0 rfl ?_
        refine j_if_ge (tgt := 164) X dX11_cut_134 (by decide) (fun _ => ?_) (fun c9 => absurd c9 (by decide))
        refine j_aload_n X dX11_cut_164 rfl 2 rfl ?_
        refine j_bipush (v := 13) X dX11_cut_165 (by decide) ?_
        refine j_iload X dX11_cut_167 6 rfl ?_
        refine j_i2l X dX11_cut_169 rfl ?_
        obtain ⟨y_113, ey_113⟩ : ∃ zz9 : Int, zz9 = ((2 : Int32).toInt64).toInt := ⟨_, rfl⟩
        have by_113 : bd 2 y_113 := by rw [ey_113]; exact bd_2
        refine j_callV X dX11_cut_170 (n_load l G q t n co cr po tx ty [z0, z1, z2, z3, y_110, y_110, z6, y_77, h_79, z9, z10, z11, w_82, y_73, v_80, y_75] sf_112 rfl hS_sf_112 13 13 rfl (by decide) ((2 : Int32).toInt64) y_113 ey_113) gX11_cut_X11_load rfl hy_X11_load_V ⟨Nat.le_of_ble_eq_true rfl, Nat.le_of_ble_eq_true rfl⟩ 0 rfl rfl [0, 1, 2] rfl (by decide) rfl rfl (Nat.le_of_ble_eq_true rfl) ⟨Nat.le_of_ble_eq_true rfl, Nat.le_of_ble_eq_true rfl⟩ ?_
        rintro _ sf_114 ⟨rfl, hS_sf_114⟩
        change J p l e rm_X11_cut s m args below meth c Q G A 9 0 0 173 [(8, .int 1), (7, .int x_83), (0, .ref (q 0)), (1, .int 0), (2, .long w), (4, .int (-1)), (5, .int 2), (6, .int 1)] [] [(q 0, .inr (10, mF t n q co cr po tx ty)), (q 10, aI G 320 (rg [z0, z1, z2, z3, y_110, y_110, z6, y_77, h_79, z9, z10, z11, w_82, y_113, v_80, y_75])), (q 11, aZ G 16 sf_114)]
        refine j_aload_n X dX11_cut_173 rfl 2 rfl ?_
        refine j_bipush (v := 9) X dX11_cut_174 (by decide) ?_
        refine j_bipush (v := 13) X dX11_cut_176 (by decide) ?_
        refine j_iconst (v := 3) X dX11_cut_178 rfl ?_
        obtain ⟨y_115, ey_115⟩ : ∃ zz9 : Int, zz9 = y_113 * z3 := ⟨_, rfl⟩
        have by_115 : bd 86 y_115 := by rw [ey_115]; exact bd_mul by_113 b3
        refine j_callV X dX11_cut_179 (n_mul l G q t n co cr po tx ty [z0, z1, z2, z3, y_110, y_110, z6, y_77, h_79, z9, z10, z11, w_82, y_113, v_80, y_75] sf_114 rfl hS_sf_114 9 9 rfl (by decide) 13 13 rfl (by decide) 3 3 rfl (by decide) (by decide) (by decide) y_115 ey_115) gX11_cut_X11_multiply rfl hy_X11_multiply_V ⟨Nat.le_of_ble_eq_true rfl, Nat.le_of_ble_eq_true rfl⟩ 0 rfl rfl [0, 1, 2] rfl (by decide) rfl rfl (Nat.le_of_ble_eq_true rfl) ⟨Nat.le_of_ble_eq_true rfl, Nat.le_of_ble_eq_true rfl⟩ ?_
        rintro _ sf_116 ⟨rfl, hS_sf_116⟩
        change J p l e rm_X11_cut s m args below meth c Q G A 9 0 0 182 [(8, .int 1), (7, .int x_83), (0, .ref (q 0)), (1, .int 0), (2, .long w), (4, .int (-1)), (5, .int 2), (6, .int 1)] [] [(q 0, .inr (10, mF t n q co cr po tx ty)), (q 10, aI G 320 (rg [z0, z1, z2, z3, y_110, y_110, z6, y_77, h_79, y_115, z10, z11, w_82, y_113, v_80, y_75])), (q 11, aZ G 16 sf_116)]
        have hM8 : y_115 = 2 * z3 := by rw [ey_115, ey_113, i64_2]
        have hM9 : (y_115.natAbs : Int) = 2 * z3 := by omega
        refine j_aload_n X dX11_cut_182 rfl 2 rfl ?_
        refine j_bipush (v := 6) X dX11_cut_183 (by decide) ?_
        refine j_iconst (v := 4) X dX11_cut_185 rfl ?_
        refine j_bipush (v := 9) X dX11_cut_186 (by decide) ?_
        obtain ⟨y_117, ey_117⟩ : ∃ zz9 : Int, zz9 = y_110 / (y_115.natAbs : Int) := ⟨_, rfl⟩
        obtain ⟨y_118, ey_118⟩ : ∃ zz9 : Int, zz9 = (y_110.natAbs : Int) % (y_115.natAbs : Int) := ⟨_, rfl⟩
        refine j_callV X dX11_cut_188 (n_divide_6_4_9 l G q t n co cr po tx ty z0 z1 z2 z3 y_110 y_110 z6 y_77 h_79 y_115 z10 z11 w_82 y_113 v_80 y_75 sf_116 hS_sf_116 (by omega) by_115 by_110 (by decide) (by decide) y_117 y_118 ey_117 ey_118) gX11_cut_X11_divide rfl hy_X11_divide_V ⟨Nat.le_of_ble_eq_true rfl, Nat.le_of_ble_eq_true rfl⟩ 0 rfl rfl [0, 1, 2] rfl (by decide) rfl rfl (Nat.le_of_ble_eq_true rfl) ⟨Nat.le_of_ble_eq_true rfl, Nat.le_of_ble_eq_true rfl⟩ ?_
        rintro _ ⟨v_119, v_120, sf_121⟩ ⟨rfl, hS_sf_121⟩
        change J p l e rm_X11_cut s m args below meth c Q G A 9 0 0 191 [(8, .int 1), (7, .int x_83), (0, .ref (q 0)), (1, .int 0), (2, .long w), (4, .int (-1)), (5, .int 2), (6, .int 1)] [] [(q 0, .inr (10, mF t n q co cr po tx ty)), (q 10, aI G 320 (rg [z0, z1, z2, z3, y_110, y_110, y_117, y_77, h_79, y_115, z10, z11, y_118, y_113, v_119, v_120])), (q 11, aZ G 16 sf_121)]
        exact E.1 191 _ (y_110, y_110, y_117, y_77, h_79, y_115, y_118, y_113, v_119, v_120, sf_121) dX11_cut_191 (⟨rfl, ⟨h_79, ⟨hh_790, hh_791, hh_792⟩, by dsimp only; rw [fl_p (show sg ((-1 : Int32).toInt * w.toInt) = 1 from by rw [iTm1, Int.neg_one_mul]; rw [sg_pos (by omega)]), ey_117, hM9] <;> (congr 1 <;> omega)⟩, hS_sf_121⟩) hr
    · skip
      first | simp only [bI_0, Decidable.not_not, sg_mul, sg_e0, sg_l0, sg_g0, sg_le0, sg_ge0, cmp_eq, cmp_lt, cmp_ge, cmp_gt, cmp_le, lT0, lT1] at c_79 | simp only [Int32.le_iff_toInt_le, Int32.lt_iff_toInt_lt, ← Int32.toInt_inj, iT0, iT1, iT2, iT3, iT4, iT5, iT6, iT7, iT8, iT9, iT10, iT11, iT12, iT13, iT14, iT15, iT16, iT19, iT20, iT31, iT32, iT42, iT64, iT200, iT318, iT319, iT1000, iTm1, iTm2] at c_79 | skip
      refine j_iconst (v := 0) X dX11_cut_82 rfl ?_
      refine j_goto (tgt := 101) X dX11_cut_83 (by decide) ?_
      refine j_istore (L' := [(8, .int 0), (7, .int x_83), (0, .ref (q 0)), (1, .int 0), (2, .long w), (4, .int (-1)), (5, .int 2), (6, .int 1)]) X dX11_cut_101 (by decide) rfl ?_
      refine j_iload X dX11_cut_103 0 rfl ?_
      refine j_if_eq (tgt := 132) X dX11_cut_105 (by decide) (fun _ => ?_) (fun c9 => absurd c9 (by decide))
      refine j_iload X dX11_cut_132 0 rfl ?_
      refine j_if_ge (tgt := 164) X dX11_cut_134 (by decide) (fun _ => ?_) (fun c9 => absurd c9 (by decide))
      refine j_aload_n X dX11_cut_164 rfl 2 rfl ?_
      refine j_bipush (v := 13) X dX11_cut_165 (by decide) ?_
      refine j_iload X dX11_cut_167 6 rfl ?_
      refine j_i2l X dX11_cut_169 rfl ?_
      obtain ⟨y_122, ey_122⟩ : ∃ zz9 : Int, zz9 = ((2 : Int32).toInt64).toInt := ⟨_, rfl⟩
      have by_122 : bd 2 y_122 := by rw [ey_122]; exact bd_2
      refine j_callV X dX11_cut_170 (n_load l G q t n co cr po tx ty [z0, z1, z2, z3, y_70, y_70, z6, y_77, h_79, z9, z10, z11, w_82, y_73, v_80, y_75] sf_81 rfl hS_sf_81 13 13 rfl (by decide) ((2 : Int32).toInt64) y_122 ey_122) gX11_cut_X11_load rfl hy_X11_load_V ⟨Nat.le_of_ble_eq_true rfl, Nat.le_of_ble_eq_true rfl⟩ 0 rfl rfl [0, 1, 2] rfl (by decide) rfl rfl (Nat.le_of_ble_eq_true rfl) ⟨Nat.le_of_ble_eq_true rfl, Nat.le_of_ble_eq_true rfl⟩ ?_
      rintro _ sf_123 ⟨rfl, hS_sf_123⟩
      change J p l e rm_X11_cut s m args below meth c Q G A 9 0 0 173 [(8, .int 0), (7, .int x_83), (0, .ref (q 0)), (1, .int 0), (2, .long w), (4, .int (-1)), (5, .int 2), (6, .int 1)] [] [(q 0, .inr (10, mF t n q co cr po tx ty)), (q 10, aI G 320 (rg [z0, z1, z2, z3, y_70, y_70, z6, y_77, h_79, z9, z10, z11, w_82, y_122, v_80, y_75])), (q 11, aZ G 16 sf_123)]
      refine j_aload_n X dX11_cut_173 rfl 2 rfl ?_
      refine j_bipush (v := 9) X dX11_cut_174 (by decide) ?_
      refine j_bipush (v := 13) X dX11_cut_176 (by decide) ?_
      refine j_iconst (v := 3) X dX11_cut_178 rfl ?_
      obtain ⟨y_124, ey_124⟩ : ∃ zz9 : Int, zz9 = y_122 * z3 := ⟨_, rfl⟩
      have by_124 : bd 86 y_124 := by rw [ey_124]; exact bd_mul by_122 b3
      refine j_callV X dX11_cut_179 (n_mul l G q t n co cr po tx ty [z0, z1, z2, z3, y_70, y_70, z6, y_77, h_79, z9, z10, z11, w_82, y_122, v_80, y_75] sf_123 rfl hS_sf_123 9 9 rfl (by decide) 13 13 rfl (by decide) 3 3 rfl (by decide) (by decide) (by decide) y_124 ey_124) gX11_cut_X11_multiply rfl hy_X11_multiply_V ⟨Nat.le_of_ble_eq_true rfl, Nat.le_of_ble_eq_true rfl⟩ 0 rfl rfl [0, 1, 2] rfl (by decide) rfl rfl (Nat.le_of_ble_eq_true rfl) ⟨Nat.le_of_ble_eq_true rfl, Nat.le_of_ble_eq_true rfl⟩ ?_
      rintro _ sf_125 ⟨rfl, hS_sf_125⟩
      change J p l e rm_X11_cut s m args below meth c Q G A 9 0 0 182 [(8, .int 0), (7, .int x_83), (0, .ref (q 0)), (1, .int 0), (2, .long w), (4, .int (-1)), (5, .int 2), (6, .int 1)] [] [(q 0, .inr (10, mF t n q co cr po tx ty)), (q 10, aI G 320 (rg [z0, z1, z2, z3, y_70, y_70, z6, y_77, h_79, y_124, z10, z11, w_82, y_122, v_80, y_75])), (q 11, aZ G 16 sf_125)]
      have hM8 : y_124 = 2 * z3 := by rw [ey_124, ey_122, i64_2]
      have hM9 : (y_124.natAbs : Int) = 2 * z3 := by omega
      refine j_aload_n X dX11_cut_182 rfl 2 rfl ?_
      refine j_bipush (v := 6) X dX11_cut_183 (by decide) ?_
      refine j_iconst (v := 4) X dX11_cut_185 rfl ?_
      refine j_bipush (v := 9) X dX11_cut_186 (by decide) ?_
      obtain ⟨y_126, ey_126⟩ : ∃ zz9 : Int, zz9 = y_70 / (y_124.natAbs : Int) := ⟨_, rfl⟩
      obtain ⟨y_127, ey_127⟩ : ∃ zz9 : Int, zz9 = (y_70.natAbs : Int) % (y_124.natAbs : Int) := ⟨_, rfl⟩
      refine j_callV X dX11_cut_188 (n_divide_6_4_9 l G q t n co cr po tx ty z0 z1 z2 z3 y_70 y_70 z6 y_77 h_79 y_124 z10 z11 w_82 y_122 v_80 y_75 sf_125 hS_sf_125 (by omega) by_124 by_70 (by decide) (by decide) y_126 y_127 ey_126 ey_127) gX11_cut_X11_divide rfl hy_X11_divide_V ⟨Nat.le_of_ble_eq_true rfl, Nat.le_of_ble_eq_true rfl⟩ 0 rfl rfl [0, 1, 2] rfl (by decide) rfl rfl (Nat.le_of_ble_eq_true rfl) ⟨Nat.le_of_ble_eq_true rfl, Nat.le_of_ble_eq_true rfl⟩ ?_
      rintro _ ⟨v_128, v_129, sf_130⟩ ⟨rfl, hS_sf_130⟩
      change J p l e rm_X11_cut s m args below meth c Q G A 9 0 0 191 [(8, .int 0), (7, .int x_83), (0, .ref (q 0)), (1, .int 0), (2, .long w), (4, .int (-1)), (5, .int 2), (6, .int 1)] [] [(q 0, .inr (10, mF t n q co cr po tx ty)), (q 10, aI G 320 (rg [z0, z1, z2, z3, y_70, y_70, y_126, y_77, h_79, y_124, z10, z11, y_127, y_122, v_128, v_129])), (q 11, aZ G 16 sf_130)]
      exact E.1 191 _ (y_70, y_70, y_126, y_77, h_79, y_124, y_127, y_122, v_128, v_129, sf_130) dX11_cut_191 (⟨rfl, ⟨h_79, ⟨hh_790, hh_791, hh_792⟩, by dsimp only; rw [fl_z (show sg ((-1 : Int32).toInt * w.toInt) = 0 from by rw [iTm1, Int.neg_one_mul]; rw [sg_zero (by omega)]), ey_126, hM9] <;> (congr 1 <;> omega)⟩, hS_sf_130⟩) hr
  · skip
    refine j_aload_n X dX11_cut_0 rfl 0 rfl ?_
    refine j_bipush (v := 13) X dX11_cut_1 (by decide) ?_
    refine j_iload X dX11_cut_3 4 rfl ?_
    refine j_i2l X dX11_cut_5 rfl ?_
    obtain ⟨y_131, ey_131⟩ : ∃ zz9 : Int, zz9 = ((2 : Int32).toInt64).toInt := ⟨_, rfl⟩
    have by_131 : bd 2 y_131 := by rw [ey_131]; exact bd_2
    refine j_callV X dX11_cut_6 (n_load l G q t n co cr po tx ty [z0, z1, z2, z3, z4, z5, z6, z7, z8, z9, z10, z11, z12, z13, z14, z15] sf rfl hS 13 13 rfl (by decide) ((2 : Int32).toInt64) y_131 ey_131) gX11_cut_X11_load rfl hy_X11_load_V ⟨Nat.le_of_ble_eq_true rfl, Nat.le_of_ble_eq_true rfl⟩ 0 rfl rfl [0, 1, 2] rfl (by decide) rfl rfl (Nat.le_of_ble_eq_true rfl) ⟨Nat.le_of_ble_eq_true rfl, Nat.le_of_ble_eq_true rfl⟩ ?_
    rintro _ sf_132 ⟨rfl, hS_sf_132⟩
    change J p l e rm_X11_cut s m args below meth c Q G A 9 0 0 9 [(0, .ref (q 0)), (1, .int 0), (2, .long w), (4, .int 0), (5, .int 2), (6, .int 1)] [] [(q 0, .inr (10, mF t n q co cr po tx ty)), (q 10, aI G 320 (rg [z0, z1, z2, z3, z4, z5, z6, z7, z8, z9, z10, z11, z12, y_131, z14, z15])), (q 11, aZ G 16 sf_132)]
    refine j_aload_n X dX11_cut_9 rfl 0 rfl ?_
    refine j_iconst (v := 4) X dX11_cut_10 rfl ?_
    refine j_bipush (v := 13) X dX11_cut_11 (by decide) ?_
    refine j_iload_n X dX11_cut_13 rfl 1 rfl ?_
    obtain ⟨y_133, ey_133⟩ : ∃ zz9 : Int, zz9 = y_131 * z0 := ⟨_, rfl⟩
    have by_133 : bd 129 y_133 := by rw [ey_133]; exact bd_mul by_131 bu
    refine j_callV X dX11_cut_14 (n_mul l G q t n co cr po tx ty [z0, z1, z2, z3, z4, z5, z6, z7, z8, z9, z10, z11, z12, y_131, z14, z15] sf_132 rfl hS_sf_132 4 4 rfl (by decide) 13 13 rfl (by decide) 0 0 rfl (by decide) (by decide) (by decide) y_133 ey_133) gX11_cut_X11_multiply rfl hy_X11_multiply_V ⟨Nat.le_of_ble_eq_true rfl, Nat.le_of_ble_eq_true rfl⟩ 0 rfl rfl [0, 1, 2] rfl (by decide) rfl rfl (Nat.le_of_ble_eq_true rfl) ⟨Nat.le_of_ble_eq_true rfl, Nat.le_of_ble_eq_true rfl⟩ ?_
    rintro _ sf_134 ⟨rfl, hS_sf_134⟩
    change J p l e rm_X11_cut s m args below meth c Q G A 9 0 0 17 [(0, .ref (q 0)), (1, .int 0), (2, .long w), (4, .int 0), (5, .int 2), (6, .int 1)] [] [(q 0, .inr (10, mF t n q co cr po tx ty)), (q 10, aI G 320 (rg [z0, z1, z2, z3, y_133, z5, z6, z7, z8, z9, z10, z11, z12, y_131, z14, z15])), (q 11, aZ G 16 sf_134)]
    have hA1 : y_133 = 2 * z0 := by rw [ey_133, ey_131, i64_2]
    refine j_iload X dX11_cut_17 5 rfl ?_
    refine j_if_eq (tgt := 36) X dX11_cut_19 (by decide) (fun c9 => absurd c9 (by decide)) (fun _ => ?_)
    refine j_aload_n X dX11_cut_22 rfl 0 rfl ?_
    refine j_iconst (v := 5) X dX11_cut_23 rfl ?_
    refine j_iconst (v := 4) X dX11_cut_24 rfl ?_
    refine j_iconst (v := 3) X dX11_cut_25 rfl ?_
    refine j_iconst (v := 0) X dX11_cut_26 rfl ?_
    obtain ⟨y_135, ey_135⟩ : ∃ zz9 : Int, zz9 = y_133 + z3 := ⟨_, rfl⟩
    have by_135 : bd 130 y_135 := by rw [ey_135]; exact bd_add (bd_mono by_133 (by decide)) (bd_mono b3 (by decide))
    refine j_callV X dX11_cut_27 (n_join l G q t n co cr po tx ty [z0, z1, z2, z3, y_133, z5, z6, z7, z8, z9, z10, z11, z12, y_131, z14, z15] sf_134 rfl hS_sf_134 5 5 rfl (by decide) 4 4 rfl (by decide) 3 3 rfl (by decide) 0 (Or.inl rfl) (by decide) (by decide) y_135 ey_135 by_133 b3 (by decide) (by decide)) gX11_cut_X11_join rfl hy_X11_join_V ⟨Nat.le_of_ble_eq_true rfl, Nat.le_of_ble_eq_true rfl⟩ 0 rfl rfl [0, 1, 2] rfl (by decide) rfl rfl (Nat.le_of_ble_eq_true rfl) ⟨Nat.le_of_ble_eq_true rfl, Nat.le_of_ble_eq_true rfl⟩ ?_
    rintro _ sf_136 ⟨rfl, hS_sf_136⟩
    change J p l e rm_X11_cut s m args below meth c Q G A 9 0 0 30 [(0, .ref (q 0)), (1, .int 0), (2, .long w), (4, .int 0), (5, .int 2), (6, .int 1)] [] [(q 0, .inr (10, mF t n q co cr po tx ty)), (q 10, aI G 320 (rg [z0, z1, z2, z3, y_133, y_135, z6, z7, z8, z9, z10, z11, z12, y_131, z14, z15])), (q 11, aZ G 16 sf_136)]
    refine j_aload_n X dX11_cut_30 rfl 0 rfl ?_
    refine j_iconst (v := 4) X dX11_cut_31 rfl ?_
    refine j_iconst (v := 5) X dX11_cut_32 rfl ?_
    refine j_callV X dX11_cut_33 (h_copy l G q t n co cr po tx ty [z0, z1, z2, z3, y_133, y_135, z6, z7, z8, z9, z10, z11, z12, y_131, z14, z15] sf_136 rfl hS_sf_136 4 4 rfl (by decide) 5 5 rfl (by decide) (by decide)) gX11_cut_X11_copy rfl hy_X11_copy_V ⟨Nat.le_of_ble_eq_true rfl, Nat.le_of_ble_eq_true rfl⟩ 0 rfl rfl [0, 1, 2] rfl (by decide) rfl rfl (Nat.le_of_ble_eq_true rfl) ⟨Nat.le_of_ble_eq_true rfl, Nat.le_of_ble_eq_true rfl⟩ ?_
    rintro _ sf_137 ⟨rfl, hS_sf_137⟩
    change J p l e rm_X11_cut s m args below meth c Q G A 9 0 0 36 [(0, .ref (q 0)), (1, .int 0), (2, .long w), (4, .int 0), (5, .int 2), (6, .int 1)] [] [(q 0, .inr (10, mF t n q co cr po tx ty)), (q 10, aI G 320 (rg [z0, z1, z2, z3, y_135, y_135, z6, z7, z8, z9, z10, z11, z12, y_131, z14, z15])), (q 11, aZ G 16 sf_137)]
    refine j_aload_n X dX11_cut_36 rfl 0 rfl ?_
    refine j_bipush (v := 13) X dX11_cut_37 (by decide) ?_
    refine j_iload X dX11_cut_39 4 rfl ?_
    refine j_i2l X dX11_cut_41 rfl ?_
    refine j_lload_n X dX11_cut_42 rfl 2 rfl ?_
    refine j_lmul X dX11_cut_43 ?_
    obtain ⟨y_138, ey_138⟩ : ∃ zz9 : Int, zz9 = (((2 : Int32).toInt64) * w).toInt := ⟨_, rfl⟩
    have by_138 : bd 43 y_138 := by rw [ey_138]; exact bq9
    refine j_callV X dX11_cut_44 (n_load l G q t n co cr po tx ty [z0, z1, z2, z3, y_135, y_135, z6, z7, z8, z9, z10, z11, z12, y_131, z14, z15] sf_137 rfl hS_sf_137 13 13 rfl (by decide) (((2 : Int32).toInt64) * w) y_138 ey_138) gX11_cut_X11_load rfl hy_X11_load_V ⟨Nat.le_of_ble_eq_true rfl, Nat.le_of_ble_eq_true rfl⟩ 0 rfl rfl [0, 1, 2] rfl (by decide) rfl rfl (Nat.le_of_ble_eq_true rfl) ⟨Nat.le_of_ble_eq_true rfl, Nat.le_of_ble_eq_true rfl⟩ ?_
    rintro _ sf_139 ⟨rfl, hS_sf_139⟩
    change J p l e rm_X11_cut s m args below meth c Q G A 9 0 0 47 [(0, .ref (q 0)), (1, .int 0), (2, .long w), (4, .int 0), (5, .int 2), (6, .int 1)] [] [(q 0, .inr (10, mF t n q co cr po tx ty)), (q 10, aI G 320 (rg [z0, z1, z2, z3, y_135, y_135, z6, z7, z8, z9, z10, z11, z12, y_138, z14, z15])), (q 11, aZ G 16 sf_139)]
    refine j_aload_n X dX11_cut_47 rfl 0 rfl ?_
    refine j_bipush (v := 15) X dX11_cut_48 (by decide) ?_
    refine j_bipush (v := 13) X dX11_cut_50 (by decide) ?_
    refine j_bipush (v := 13) X dX11_cut_52 (by decide) ?_
    obtain ⟨y_140, ey_140⟩ : ∃ zz9 : Int, zz9 = y_138 * y_138 := ⟨_, rfl⟩
    have by_140 : bd 86 y_140 := by rw [ey_140]; exact bd_mul by_138 by_138
    refine j_callV X dX11_cut_54 (n_mul l G q t n co cr po tx ty [z0, z1, z2, z3, y_135, y_135, z6, z7, z8, z9, z10, z11, z12, y_138, z14, z15] sf_139 rfl hS_sf_139 15 15 rfl (by decide) 13 13 rfl (by decide) 13 13 rfl (by decide) (by decide) (by decide) y_140 ey_140) gX11_cut_X11_multiply rfl hy_X11_multiply_V ⟨Nat.le_of_ble_eq_true rfl, Nat.le_of_ble_eq_true rfl⟩ 0 rfl rfl [0, 1, 2] rfl (by decide) rfl rfl (Nat.le_of_ble_eq_true rfl) ⟨Nat.le_of_ble_eq_true rfl, Nat.le_of_ble_eq_true rfl⟩ ?_
    rintro _ sf_141 ⟨rfl, hS_sf_141⟩
    change J p l e rm_X11_cut s m args below meth c Q G A 9 0 0 57 [(0, .ref (q 0)), (1, .int 0), (2, .long w), (4, .int 0), (5, .int 2), (6, .int 1)] [] [(q 0, .inr (10, mF t n q co cr po tx ty)), (q 10, aI G 320 (rg [z0, z1, z2, z3, y_135, y_135, z6, z7, z8, z9, z10, z11, z12, y_138, z14, y_140])), (q 11, aZ G 16 sf_141)]
    refine j_aload_n X dX11_cut_57 rfl 0 rfl ?_
    refine j_bipush (v := 7) X dX11_cut_58 (by decide) ?_
    refine j_bipush (v := 15) X dX11_cut_60 (by decide) ?_
    refine j_iconst (v := 2) X dX11_cut_62 rfl ?_
    obtain ⟨y_142, ey_142⟩ : ∃ zz9 : Int, zz9 = y_140 * z2 := ⟨_, rfl⟩
    have by_142 : bd 258 y_142 := by rw [ey_142]; exact bd_mul by_140 b2
    refine j_callV X dX11_cut_63 (n_mul l G q t n co cr po tx ty [z0, z1, z2, z3, y_135, y_135, z6, z7, z8, z9, z10, z11, z12, y_138, z14, y_140] sf_141 rfl hS_sf_141 7 7 rfl (by decide) 15 15 rfl (by decide) 2 2 rfl (by decide) (by decide) (by decide) y_142 ey_142) gX11_cut_X11_multiply rfl hy_X11_multiply_V ⟨Nat.le_of_ble_eq_true rfl, Nat.le_of_ble_eq_true rfl⟩ 0 rfl rfl [0, 1, 2] rfl (by decide) rfl rfl (Nat.le_of_ble_eq_true rfl) ⟨Nat.le_of_ble_eq_true rfl, Nat.le_of_ble_eq_true rfl⟩ ?_
    rintro _ sf_143 ⟨rfl, hS_sf_143⟩
    change J p l e rm_X11_cut s m args below meth c Q G A 9 0 0 66 [(0, .ref (q 0)), (1, .int 0), (2, .long w), (4, .int 0), (5, .int 2), (6, .int 1)] [] [(q 0, .inr (10, mF t n q co cr po tx ty)), (q 10, aI G 320 (rg [z0, z1, z2, z3, y_135, y_135, z6, y_142, z8, z9, z10, z11, z12, y_138, z14, y_140])), (q 11, aZ G 16 sf_143)]
    refine j_aload_n X dX11_cut_66 rfl 0 rfl ?_
    refine j_bipush (v := 8) X dX11_cut_67 (by decide) ?_
    refine j_bipush (v := 7) X dX11_cut_69 (by decide) ?_
    refine j_callV X dX11_cut_71 (c_X11_rootOf_8_7 l G q t n co cr po tx ty z0 z1 z2 z3 y_135 y_135 z6 y_142 z8 z9 z10 z11 z12 y_138 z14 y_140 sf_143 hS_sf_143 (bd_lt319 by_142 (by decide))) gX11_cut_X11_rootOf rfl hy_X11_rootOf_V ⟨Nat.le_of_ble_eq_true rfl, Nat.le_of_ble_eq_true rfl⟩ 0 rfl rfl [0, 1, 2] rfl (by decide) rfl rfl (Nat.le_of_ble_eq_true rfl) ⟨Nat.le_of_ble_eq_true rfl, Nat.le_of_ble_eq_true rfl⟩ ?_
    rintro _ ⟨h_144, v_145, sf_146⟩ ⟨rfl, hh_1440, hh_1441, hh_1442, hS_sf_146⟩
    dsimp only at hh_1440 hh_1441 hh_1442 hS_sf_146
    change J p l e rm_X11_cut s m args below meth c Q G A 9 0 0 74 [(0, .ref (q 0)), (1, .int 0), (2, .long w), (4, .int 0), (5, .int 2), (6, .int 1)] [.int (if h_144 * h_144 = (y_142.natAbs : Int) then 1 else 0)] [(q 0, .inr (10, mF t n q co cr po tx ty)), (q 10, aI G 320 (rg [z0, z1, z2, z3, y_135, y_135, z6, y_142, h_144, z9, z10, z11, ((y_142.natAbs : Int) - h_144 * h_144), y_138, v_145, y_140])), (q 11, aZ G 16 sf_146)]
    obtain ⟨w_147, ew_147⟩ : ∃ zz9 : Int, zz9 = (y_142.natAbs : Int) - h_144 * h_144 := ⟨_, rfl⟩
    rw [← ew_147] at hS_sf_146 ⊢
    have hN9 : (y_142.natAbs : Int) = 2 * w.toInt * (2 * w.toInt) * z2 := by rw [ey_142, ey_140, ey_138, hq9]; exact Int.natAbs_of_nonneg (Int.mul_nonneg (sq_nn _) hR)
    rw [hN9] at hh_1441 hh_1442 ⊢
    have bh_144 : bd 260 h_144 := bd_of_le hh_1440 (Int.le_trans (sq_ge hh_1440) hh_1441) (by rw [← hN9]; exact bd_abs (bd_mono by_142 (by decide)))
    refine j_topi (fun x_148 ex_148 => ?_)
    refine j_istore (L' := [(7, .int x_148), (0, .ref (q 0)), (1, .int 0), (2, .long w), (4, .int 0), (5, .int 2), (6, .int 1)]) X dX11_cut_74 (by decide) rfl ?_
    refine j_lload_n X dX11_cut_76 rfl 3 rfl ?_
    refine j_lconst (v := 0) X dX11_cut_77 rfl ?_
    refine j_lcmp X dX11_cut_78 ?_
    refine j_if_ne (tgt := 86) X dX11_cut_79 (by decide) (fun c_79 => ?_) (fun c_79 => ?_)
    · skip
      first | simp only [bI_0, Decidable.not_not, sg_mul, sg_e0, sg_l0, sg_g0, sg_le0, sg_ge0, cmp_eq, cmp_lt, cmp_ge, cmp_gt, cmp_le, lT0, lT1] at c_79 | simp only [Int32.le_iff_toInt_le, Int32.lt_iff_toInt_lt, ← Int32.toInt_inj, iT0, iT1, iT2, iT3, iT4, iT5, iT6, iT7, iT8, iT9, iT10, iT11, iT12, iT13, iT14, iT15, iT16, iT19, iT20, iT31, iT32, iT42, iT64, iT200, iT318, iT319, iT1000, iTm1, iTm2] at c_79 | skip
      exact absurd hw0 c_79
    · skip
      first | simp only [bI_0, Decidable.not_not, sg_mul, sg_e0, sg_l0, sg_g0, sg_le0, sg_ge0, cmp_eq, cmp_lt, cmp_ge, cmp_gt, cmp_le, lT0, lT1] at c_79 | simp only [Int32.le_iff_toInt_le, Int32.lt_iff_toInt_lt, ← Int32.toInt_inj, iT0, iT1, iT2, iT3, iT4, iT5, iT6, iT7, iT8, iT9, iT10, iT11, iT12, iT13, iT14, iT15, iT16, iT19, iT20, iT31, iT32, iT42, iT64, iT200, iT318, iT319, iT1000, iTm1, iTm2] at c_79 | skip
      refine j_iconst (v := 0) X dX11_cut_82 rfl ?_
      refine j_goto (tgt := 101) X dX11_cut_83 (by decide) ?_
      refine j_istore (L' := [(8, .int 0), (7, .int x_148), (0, .ref (q 0)), (1, .int 0), (2, .long w), (4, .int 0), (5, .int 2), (6, .int 1)]) X dX11_cut_101 (by decide) rfl ?_
      refine j_iload X dX11_cut_103 0 rfl ?_
      refine j_if_eq (tgt := 132) X dX11_cut_105 (by decide) (fun _ => ?_) (fun c9 => absurd c9 (by decide))
      refine j_iload X dX11_cut_132 0 rfl ?_
      refine j_if_ge (tgt := 164) X dX11_cut_134 (by decide) (fun _ => ?_) (fun c9 => absurd c9 (by decide))
      refine j_aload_n X dX11_cut_164 rfl 2 rfl ?_
      refine j_bipush (v := 13) X dX11_cut_165 (by decide) ?_
      refine j_iload X dX11_cut_167 6 rfl ?_
      refine j_i2l X dX11_cut_169 rfl ?_
      obtain ⟨y_149, ey_149⟩ : ∃ zz9 : Int, zz9 = ((2 : Int32).toInt64).toInt := ⟨_, rfl⟩
      have by_149 : bd 2 y_149 := by rw [ey_149]; exact bd_2
      refine j_callV X dX11_cut_170 (n_load l G q t n co cr po tx ty [z0, z1, z2, z3, y_135, y_135, z6, y_142, h_144, z9, z10, z11, w_147, y_138, v_145, y_140] sf_146 rfl hS_sf_146 13 13 rfl (by decide) ((2 : Int32).toInt64) y_149 ey_149) gX11_cut_X11_load rfl hy_X11_load_V ⟨Nat.le_of_ble_eq_true rfl, Nat.le_of_ble_eq_true rfl⟩ 0 rfl rfl [0, 1, 2] rfl (by decide) rfl rfl (Nat.le_of_ble_eq_true rfl) ⟨Nat.le_of_ble_eq_true rfl, Nat.le_of_ble_eq_true rfl⟩ ?_
      rintro _ sf_150 ⟨rfl, hS_sf_150⟩
      change J p l e rm_X11_cut s m args below meth c Q G A 9 0 0 173 [(8, .int 0), (7, .int x_148), (0, .ref (q 0)), (1, .int 0), (2, .long w), (4, .int 0), (5, .int 2), (6, .int 1)] [] [(q 0, .inr (10, mF t n q co cr po tx ty)), (q 10, aI G 320 (rg [z0, z1, z2, z3, y_135, y_135, z6, y_142, h_144, z9, z10, z11, w_147, y_149, v_145, y_140])), (q 11, aZ G 16 sf_150)]
      refine j_aload_n X dX11_cut_173 rfl 2 rfl ?_
      refine j_bipush (v := 9) X dX11_cut_174 (by decide) ?_
      refine j_bipush (v := 13) X dX11_cut_176 (by decide) ?_
      refine j_iconst (v := 3) X dX11_cut_178 rfl ?_
      obtain ⟨y_151, ey_151⟩ : ∃ zz9 : Int, zz9 = y_149 * z3 := ⟨_, rfl⟩
      have by_151 : bd 86 y_151 := by rw [ey_151]; exact bd_mul by_149 b3
      refine j_callV X dX11_cut_179 (n_mul l G q t n co cr po tx ty [z0, z1, z2, z3, y_135, y_135, z6, y_142, h_144, z9, z10, z11, w_147, y_149, v_145, y_140] sf_150 rfl hS_sf_150 9 9 rfl (by decide) 13 13 rfl (by decide) 3 3 rfl (by decide) (by decide) (by decide) y_151 ey_151) gX11_cut_X11_multiply rfl hy_X11_multiply_V ⟨Nat.le_of_ble_eq_true rfl, Nat.le_of_ble_eq_true rfl⟩ 0 rfl rfl [0, 1, 2] rfl (by decide) rfl rfl (Nat.le_of_ble_eq_true rfl) ⟨Nat.le_of_ble_eq_true rfl, Nat.le_of_ble_eq_true rfl⟩ ?_
      rintro _ sf_152 ⟨rfl, hS_sf_152⟩
      change J p l e rm_X11_cut s m args below meth c Q G A 9 0 0 182 [(8, .int 0), (7, .int x_148), (0, .ref (q 0)), (1, .int 0), (2, .long w), (4, .int 0), (5, .int 2), (6, .int 1)] [] [(q 0, .inr (10, mF t n q co cr po tx ty)), (q 10, aI G 320 (rg [z0, z1, z2, z3, y_135, y_135, z6, y_142, h_144, y_151, z10, z11, w_147, y_149, v_145, y_140])), (q 11, aZ G 16 sf_152)]
      have hM8 : y_151 = 2 * z3 := by rw [ey_151, ey_149, i64_2]
      have hM9 : (y_151.natAbs : Int) = 2 * z3 := by omega
      refine j_aload_n X dX11_cut_182 rfl 2 rfl ?_
      refine j_bipush (v := 6) X dX11_cut_183 (by decide) ?_
      refine j_iconst (v := 4) X dX11_cut_185 rfl ?_
      refine j_bipush (v := 9) X dX11_cut_186 (by decide) ?_
      obtain ⟨y_153, ey_153⟩ : ∃ zz9 : Int, zz9 = y_135 / (y_151.natAbs : Int) := ⟨_, rfl⟩
      obtain ⟨y_154, ey_154⟩ : ∃ zz9 : Int, zz9 = (y_135.natAbs : Int) % (y_151.natAbs : Int) := ⟨_, rfl⟩
      refine j_callV X dX11_cut_188 (n_divide_6_4_9 l G q t n co cr po tx ty z0 z1 z2 z3 y_135 y_135 z6 y_142 h_144 y_151 z10 z11 w_147 y_149 v_145 y_140 sf_152 hS_sf_152 (by omega) by_151 by_135 (by decide) (by decide) y_153 y_154 ey_153 ey_154) gX11_cut_X11_divide rfl hy_X11_divide_V ⟨Nat.le_of_ble_eq_true rfl, Nat.le_of_ble_eq_true rfl⟩ 0 rfl rfl [0, 1, 2] rfl (by decide) rfl rfl (Nat.le_of_ble_eq_true rfl) ⟨Nat.le_of_ble_eq_true rfl, Nat.le_of_ble_eq_true rfl⟩ ?_
      rintro _ ⟨v_155, v_156, sf_157⟩ ⟨rfl, hS_sf_157⟩
      change J p l e rm_X11_cut s m args below meth c Q G A 9 0 0 191 [(8, .int 0), (7, .int x_148), (0, .ref (q 0)), (1, .int 0), (2, .long w), (4, .int 0), (5, .int 2), (6, .int 1)] [] [(q 0, .inr (10, mF t n q co cr po tx ty)), (q 10, aI G 320 (rg [z0, z1, z2, z3, y_135, y_135, y_153, y_142, h_144, y_151, z10, z11, y_154, y_149, v_155, v_156])), (q 11, aZ G 16 sf_157)]
      exact E.1 191 _ (y_135, y_135, y_153, y_142, h_144, y_151, y_154, y_149, v_155, v_156, sf_157) dX11_cut_191 (⟨rfl, ⟨h_144, ⟨hh_1440, hh_1441, hh_1442⟩, by dsimp only; rw [fl_z (show sg ((0 : Int32).toInt * w.toInt) = 0 from by rw [iT0, Int.zero_mul]; rw [sg_zero (by omega)]), ey_153, hM9] <;> (congr 1 <;> omega)⟩, hS_sf_157⟩) hr

set_option maxHeartbeats 4000000 in
set_option maxRecDepth 100000 in
theorem c_X11_cut_1_2 (l : Launch) (G : jG) (q : Nat → Nat) (t n co cr po : Int32) (tx ty : Int64) (z0 z1 z2 z3 z4 z5 z6 z7 z8 z9 z10 z11 z12 z13 z14 z15 : Int) (sf : Nat → Int32) (hS : okS [z0, z1, z2, z3, z4, z5, z6, z7, z8, z9, z10, z11, z12, z13, z14, z15] sf) (w : Int64) (sx : Int32) (bu : bd 127 z1) (b2 : bd 172 z2) (hR : 0 ≤ z2) (b3 : bd 84 z3) (h3 : 0 < z3) (bw1 : bd 41 w.toInt) (hs : sx = 1 ∨ sx = -1 ∨ (sx = 0 ∧ w.toInt = 0)) : Ct l yX11_cut wsX11_cut rm_X11_cut G [.ref (q 0), .int 1, .long w, .int sx, .int 2, .int 1] [(q 0, .inr (10, mF t n q co cr po tx ty)), (q 10, aI G 320 (rg [z0, z1, z2, z3, z4, z5, z6, z7, z8, z9, z10, z11, z12, z13, z14, z15])), (q 11, aZ G 16 sf)] (S := Int × Int × Int × Int × Int × Int × Int × Int × Int × Int × (Nat → Int32)) (fun r u => r = none ∧ (∃ E, rtR (2 * w.toInt * (2 * w.toInt) * z2) E ∧ u.2.2.1 = flA (2 * z1 + z3) (sg (sx.toInt * w.toInt)) (2 * w.toInt * (2 * w.toInt) * z2) E (2 * z3)) ∧ okS [z0, z1, z2, z3, u.1, u.2.1, u.2.2.1, u.2.2.2.1, u.2.2.2.2.1, u.2.2.2.2.2.1, z10, z11, u.2.2.2.2.2.2.1, u.2.2.2.2.2.2.2.1, u.2.2.2.2.2.2.2.2.1, u.2.2.2.2.2.2.2.2.2.1] u.2.2.2.2.2.2.2.2.2.2) (fun u => [(q 0, .inr (10, mF t n q co cr po tx ty)), (q 10, aI G 320 (rg [z0, z1, z2, z3, u.1, u.2.1, u.2.2.1, u.2.2.2.1, u.2.2.2.2.1, u.2.2.2.2.2.1, z10, z11, u.2.2.2.2.2.2.1, u.2.2.2.2.2.2.2.1, u.2.2.2.2.2.2.2.2.1, u.2.2.2.2.2.2.2.2.2.1])), (q 11, aZ G 16 u.2.2.2.2.2.2.2.2.2.2)]) (fun _ => []) := by
  refine c_intro (cc := cX11_cut) (maxL := 9) (ret := none) (by decide) rfl (Nat.le_of_ble_eq_true rfl) (fun _ => by simp only [List.map_cons, List.map_nil]) ?_
  intro p e s m args below meth c Q A X hr hin E
  change J p l e rm_X11_cut s m args below meth c Q G A 9 0 0 0 [(0, .ref (q 0)), (1, .int 1), (2, .long w), (4, .int sx), (5, .int 2), (6, .int 1)] [] [(q 0, .inr (10, mF t n q co cr po tx ty)), (q 10, aI G 320 (rg [z0, z1, z2, z3, z4, z5, z6, z7, z8, z9, z10, z11, z12, z13, z14, z15])), (q 11, aZ G 16 sf)]
  have hq9 : (((2 : Int32).toInt64) * w).toInt = 2 * w.toInt := sm_2 bw1 (by decide)
  have bq9 : bd 43 (((2 : Int32).toInt64) * w).toInt := by rw [hq9]; exact bd_mono (bd_mul (show bd 2 2 from (by decide : Int.natAbs 2 ≤ 2 ^ 2)) bw1) (by decide)
  rcases hs with rfl | rfl | ⟨rfl, hw0⟩
  · skip
    refine j_aload_n X dX11_cut_0 rfl 0 rfl ?_
    refine j_bipush (v := 13) X dX11_cut_1 (by decide) ?_
    refine j_iload X dX11_cut_3 4 rfl ?_
    refine j_i2l X dX11_cut_5 rfl ?_
    obtain ⟨y_1, ey_1⟩ : ∃ zz9 : Int, zz9 = ((2 : Int32).toInt64).toInt := ⟨_, rfl⟩
    have by_1 : bd 2 y_1 := by rw [ey_1]; exact bd_2
    refine j_callV X dX11_cut_6 (n_load l G q t n co cr po tx ty [z0, z1, z2, z3, z4, z5, z6, z7, z8, z9, z10, z11, z12, z13, z14, z15] sf rfl hS 13 13 rfl (by decide) ((2 : Int32).toInt64) y_1 ey_1) gX11_cut_X11_load rfl hy_X11_load_V ⟨Nat.le_of_ble_eq_true rfl, Nat.le_of_ble_eq_true rfl⟩ 0 rfl rfl [0, 1, 2] rfl (by decide) rfl rfl (Nat.le_of_ble_eq_true rfl) ⟨Nat.le_of_ble_eq_true rfl, Nat.le_of_ble_eq_true rfl⟩ ?_
    rintro _ sf_2 ⟨rfl, hS_sf_2⟩
    change J p l e rm_X11_cut s m args below meth c Q G A 9 0 0 9 [(0, .ref (q 0)), (1, .int 1), (2, .long w), (4, .int 1), (5, .int 2), (6, .int 1)] [] [(q 0, .inr (10, mF t n q co cr po tx ty)), (q 10, aI G 320 (rg [z0, z1, z2, z3, z4, z5, z6, z7, z8, z9, z10, z11, z12, y_1, z14, z15])), (q 11, aZ G 16 sf_2)]
    refine j_aload_n X dX11_cut_9 rfl 0 rfl ?_
    refine j_iconst (v := 4) X dX11_cut_10 rfl ?_
    refine j_bipush (v := 13) X dX11_cut_11 (by decide) ?_
    refine j_iload_n X dX11_cut_13 rfl 1 rfl ?_
    obtain ⟨y_3, ey_3⟩ : ∃ zz9 : Int, zz9 = y_1 * z1 := ⟨_, rfl⟩
    have by_3 : bd 129 y_3 := by rw [ey_3]; exact bd_mul by_1 bu
    refine j_callV X dX11_cut_14 (n_mul l G q t n co cr po tx ty [z0, z1, z2, z3, z4, z5, z6, z7, z8, z9, z10, z11, z12, y_1, z14, z15] sf_2 rfl hS_sf_2 4 4 rfl (by decide) 13 13 rfl (by decide) 1 1 rfl (by decide) (by decide) (by decide) y_3 ey_3) gX11_cut_X11_multiply rfl hy_X11_multiply_V ⟨Nat.le_of_ble_eq_true rfl, Nat.le_of_ble_eq_true rfl⟩ 0 rfl rfl [0, 1, 2] rfl (by decide) rfl rfl (Nat.le_of_ble_eq_true rfl) ⟨Nat.le_of_ble_eq_true rfl, Nat.le_of_ble_eq_true rfl⟩ ?_
    rintro _ sf_4 ⟨rfl, hS_sf_4⟩
    change J p l e rm_X11_cut s m args below meth c Q G A 9 0 0 17 [(0, .ref (q 0)), (1, .int 1), (2, .long w), (4, .int 1), (5, .int 2), (6, .int 1)] [] [(q 0, .inr (10, mF t n q co cr po tx ty)), (q 10, aI G 320 (rg [z0, z1, z2, z3, y_3, z5, z6, z7, z8, z9, z10, z11, z12, y_1, z14, z15])), (q 11, aZ G 16 sf_4)]
    have hA1 : y_3 = 2 * z1 := by rw [ey_3, ey_1, i64_2]
    refine j_iload X dX11_cut_17 5 rfl ?_
    refine j_if_eq (tgt := 36) X dX11_cut_19 (by decide) (fun c9 => absurd c9 (by decide)) (fun _ => ?_)
    refine j_aload_n X dX11_cut_22 rfl 0 rfl ?_
    refine j_iconst (v := 5) X dX11_cut_23 rfl ?_
    refine j_iconst (v := 4) X dX11_cut_24 rfl ?_
    refine j_iconst (v := 3) X dX11_cut_25 rfl ?_
    refine j_iconst (v := 0) X dX11_cut_26 rfl ?_
    obtain ⟨y_5, ey_5⟩ : ∃ zz9 : Int, zz9 = y_3 + z3 := ⟨_, rfl⟩
    have by_5 : bd 130 y_5 := by rw [ey_5]; exact bd_add (bd_mono by_3 (by decide)) (bd_mono b3 (by decide))
    refine j_callV X dX11_cut_27 (n_join l G q t n co cr po tx ty [z0, z1, z2, z3, y_3, z5, z6, z7, z8, z9, z10, z11, z12, y_1, z14, z15] sf_4 rfl hS_sf_4 5 5 rfl (by decide) 4 4 rfl (by decide) 3 3 rfl (by decide) 0 (Or.inl rfl) (by decide) (by decide) y_5 ey_5 by_3 b3 (by decide) (by decide)) gX11_cut_X11_join rfl hy_X11_join_V ⟨Nat.le_of_ble_eq_true rfl, Nat.le_of_ble_eq_true rfl⟩ 0 rfl rfl [0, 1, 2] rfl (by decide) rfl rfl (Nat.le_of_ble_eq_true rfl) ⟨Nat.le_of_ble_eq_true rfl, Nat.le_of_ble_eq_true rfl⟩ ?_
    rintro _ sf_6 ⟨rfl, hS_sf_6⟩
    change J p l e rm_X11_cut s m args below meth c Q G A 9 0 0 30 [(0, .ref (q 0)), (1, .int 1), (2, .long w), (4, .int 1), (5, .int 2), (6, .int 1)] [] [(q 0, .inr (10, mF t n q co cr po tx ty)), (q 10, aI G 320 (rg [z0, z1, z2, z3, y_3, y_5, z6, z7, z8, z9, z10, z11, z12, y_1, z14, z15])), (q 11, aZ G 16 sf_6)]
    refine j_aload_n X dX11_cut_30 rfl 0 rfl ?_
    refine j_iconst (v := 4) X dX11_cut_31 rfl ?_
    refine j_iconst (v := 5) X dX11_cut_32 rfl ?_
    refine j_callV X dX11_cut_33 (h_copy l G q t n co cr po tx ty [z0, z1, z2, z3, y_3, y_5, z6, z7, z8, z9, z10, z11, z12, y_1, z14, z15] sf_6 rfl hS_sf_6 4 4 rfl (by decide) 5 5 rfl (by decide) (by decide)) gX11_cut_X11_copy rfl hy_X11_copy_V ⟨Nat.le_of_ble_eq_true rfl, Nat.le_of_ble_eq_true rfl⟩ 0 rfl rfl [0, 1, 2] rfl (by decide) rfl rfl (Nat.le_of_ble_eq_true rfl) ⟨Nat.le_of_ble_eq_true rfl, Nat.le_of_ble_eq_true rfl⟩ ?_
    rintro _ sf_7 ⟨rfl, hS_sf_7⟩
    change J p l e rm_X11_cut s m args below meth c Q G A 9 0 0 36 [(0, .ref (q 0)), (1, .int 1), (2, .long w), (4, .int 1), (5, .int 2), (6, .int 1)] [] [(q 0, .inr (10, mF t n q co cr po tx ty)), (q 10, aI G 320 (rg [z0, z1, z2, z3, y_5, y_5, z6, z7, z8, z9, z10, z11, z12, y_1, z14, z15])), (q 11, aZ G 16 sf_7)]
    refine j_aload_n X dX11_cut_36 rfl 0 rfl ?_
    refine j_bipush (v := 13) X dX11_cut_37 (by decide) ?_
    refine j_iload X dX11_cut_39 4 rfl ?_
    refine j_i2l X dX11_cut_41 rfl ?_
    refine j_lload_n X dX11_cut_42 rfl 2 rfl ?_
    refine j_lmul X dX11_cut_43 ?_
    obtain ⟨y_8, ey_8⟩ : ∃ zz9 : Int, zz9 = (((2 : Int32).toInt64) * w).toInt := ⟨_, rfl⟩
    have by_8 : bd 43 y_8 := by rw [ey_8]; exact bq9
    refine j_callV X dX11_cut_44 (n_load l G q t n co cr po tx ty [z0, z1, z2, z3, y_5, y_5, z6, z7, z8, z9, z10, z11, z12, y_1, z14, z15] sf_7 rfl hS_sf_7 13 13 rfl (by decide) (((2 : Int32).toInt64) * w) y_8 ey_8) gX11_cut_X11_load rfl hy_X11_load_V ⟨Nat.le_of_ble_eq_true rfl, Nat.le_of_ble_eq_true rfl⟩ 0 rfl rfl [0, 1, 2] rfl (by decide) rfl rfl (Nat.le_of_ble_eq_true rfl) ⟨Nat.le_of_ble_eq_true rfl, Nat.le_of_ble_eq_true rfl⟩ ?_
    rintro _ sf_9 ⟨rfl, hS_sf_9⟩
    change J p l e rm_X11_cut s m args below meth c Q G A 9 0 0 47 [(0, .ref (q 0)), (1, .int 1), (2, .long w), (4, .int 1), (5, .int 2), (6, .int 1)] [] [(q 0, .inr (10, mF t n q co cr po tx ty)), (q 10, aI G 320 (rg [z0, z1, z2, z3, y_5, y_5, z6, z7, z8, z9, z10, z11, z12, y_8, z14, z15])), (q 11, aZ G 16 sf_9)]
    refine j_aload_n X dX11_cut_47 rfl 0 rfl ?_
    refine j_bipush (v := 15) X dX11_cut_48 (by decide) ?_
    refine j_bipush (v := 13) X dX11_cut_50 (by decide) ?_
    refine j_bipush (v := 13) X dX11_cut_52 (by decide) ?_
    obtain ⟨y_10, ey_10⟩ : ∃ zz9 : Int, zz9 = y_8 * y_8 := ⟨_, rfl⟩
    have by_10 : bd 86 y_10 := by rw [ey_10]; exact bd_mul by_8 by_8
    refine j_callV X dX11_cut_54 (n_mul l G q t n co cr po tx ty [z0, z1, z2, z3, y_5, y_5, z6, z7, z8, z9, z10, z11, z12, y_8, z14, z15] sf_9 rfl hS_sf_9 15 15 rfl (by decide) 13 13 rfl (by decide) 13 13 rfl (by decide) (by decide) (by decide) y_10 ey_10) gX11_cut_X11_multiply rfl hy_X11_multiply_V ⟨Nat.le_of_ble_eq_true rfl, Nat.le_of_ble_eq_true rfl⟩ 0 rfl rfl [0, 1, 2] rfl (by decide) rfl rfl (Nat.le_of_ble_eq_true rfl) ⟨Nat.le_of_ble_eq_true rfl, Nat.le_of_ble_eq_true rfl⟩ ?_
    rintro _ sf_11 ⟨rfl, hS_sf_11⟩
    change J p l e rm_X11_cut s m args below meth c Q G A 9 0 0 57 [(0, .ref (q 0)), (1, .int 1), (2, .long w), (4, .int 1), (5, .int 2), (6, .int 1)] [] [(q 0, .inr (10, mF t n q co cr po tx ty)), (q 10, aI G 320 (rg [z0, z1, z2, z3, y_5, y_5, z6, z7, z8, z9, z10, z11, z12, y_8, z14, y_10])), (q 11, aZ G 16 sf_11)]
    refine j_aload_n X dX11_cut_57 rfl 0 rfl ?_
    refine j_bipush (v := 7) X dX11_cut_58 (by decide) ?_
    refine j_bipush (v := 15) X dX11_cut_60 (by decide) ?_
    refine j_iconst (v := 2) X dX11_cut_62 rfl ?_
    obtain ⟨y_12, ey_12⟩ : ∃ zz9 : Int, zz9 = y_10 * z2 := ⟨_, rfl⟩
    have by_12 : bd 258 y_12 := by rw [ey_12]; exact bd_mul by_10 b2
    refine j_callV X dX11_cut_63 (n_mul l G q t n co cr po tx ty [z0, z1, z2, z3, y_5, y_5, z6, z7, z8, z9, z10, z11, z12, y_8, z14, y_10] sf_11 rfl hS_sf_11 7 7 rfl (by decide) 15 15 rfl (by decide) 2 2 rfl (by decide) (by decide) (by decide) y_12 ey_12) gX11_cut_X11_multiply rfl hy_X11_multiply_V ⟨Nat.le_of_ble_eq_true rfl, Nat.le_of_ble_eq_true rfl⟩ 0 rfl rfl [0, 1, 2] rfl (by decide) rfl rfl (Nat.le_of_ble_eq_true rfl) ⟨Nat.le_of_ble_eq_true rfl, Nat.le_of_ble_eq_true rfl⟩ ?_
    rintro _ sf_13 ⟨rfl, hS_sf_13⟩
    change J p l e rm_X11_cut s m args below meth c Q G A 9 0 0 66 [(0, .ref (q 0)), (1, .int 1), (2, .long w), (4, .int 1), (5, .int 2), (6, .int 1)] [] [(q 0, .inr (10, mF t n q co cr po tx ty)), (q 10, aI G 320 (rg [z0, z1, z2, z3, y_5, y_5, z6, y_12, z8, z9, z10, z11, z12, y_8, z14, y_10])), (q 11, aZ G 16 sf_13)]
    refine j_aload_n X dX11_cut_66 rfl 0 rfl ?_
    refine j_bipush (v := 8) X dX11_cut_67 (by decide) ?_
    refine j_bipush (v := 7) X dX11_cut_69 (by decide) ?_
    refine j_callV X dX11_cut_71 (c_X11_rootOf_8_7 l G q t n co cr po tx ty z0 z1 z2 z3 y_5 y_5 z6 y_12 z8 z9 z10 z11 z12 y_8 z14 y_10 sf_13 hS_sf_13 (bd_lt319 by_12 (by decide))) gX11_cut_X11_rootOf rfl hy_X11_rootOf_V ⟨Nat.le_of_ble_eq_true rfl, Nat.le_of_ble_eq_true rfl⟩ 0 rfl rfl [0, 1, 2] rfl (by decide) rfl rfl (Nat.le_of_ble_eq_true rfl) ⟨Nat.le_of_ble_eq_true rfl, Nat.le_of_ble_eq_true rfl⟩ ?_
    rintro _ ⟨h_14, v_15, sf_16⟩ ⟨rfl, hh_140, hh_141, hh_142, hS_sf_16⟩
    dsimp only at hh_140 hh_141 hh_142 hS_sf_16
    change J p l e rm_X11_cut s m args below meth c Q G A 9 0 0 74 [(0, .ref (q 0)), (1, .int 1), (2, .long w), (4, .int 1), (5, .int 2), (6, .int 1)] [.int (if h_14 * h_14 = (y_12.natAbs : Int) then 1 else 0)] [(q 0, .inr (10, mF t n q co cr po tx ty)), (q 10, aI G 320 (rg [z0, z1, z2, z3, y_5, y_5, z6, y_12, h_14, z9, z10, z11, ((y_12.natAbs : Int) - h_14 * h_14), y_8, v_15, y_10])), (q 11, aZ G 16 sf_16)]
    obtain ⟨w_17, ew_17⟩ : ∃ zz9 : Int, zz9 = (y_12.natAbs : Int) - h_14 * h_14 := ⟨_, rfl⟩
    rw [← ew_17] at hS_sf_16 ⊢
    have hN9 : (y_12.natAbs : Int) = 2 * w.toInt * (2 * w.toInt) * z2 := by rw [ey_12, ey_10, ey_8, hq9]; exact Int.natAbs_of_nonneg (Int.mul_nonneg (sq_nn _) hR)
    rw [hN9] at hh_141 hh_142 ⊢
    have bh_14 : bd 260 h_14 := bd_of_le hh_140 (Int.le_trans (sq_ge hh_140) hh_141) (by rw [← hN9]; exact bd_abs (bd_mono by_12 (by decide)))
    refine j_topi (fun x_18 ex_18 => ?_)
    refine j_istore (L' := [(7, .int x_18), (0, .ref (q 0)), (1, .int 1), (2, .long w), (4, .int 1), (5, .int 2), (6, .int 1)]) X dX11_cut_74 (by decide) rfl ?_
    refine j_lload_n X dX11_cut_76 rfl 3 rfl ?_
    refine j_lconst (v := 0) X dX11_cut_77 rfl ?_
    refine j_lcmp X dX11_cut_78 ?_
    refine j_if_ne (tgt := 86) X dX11_cut_79 (by decide) (fun c_79 => ?_) (fun c_79 => ?_)
    · skip
      first | simp only [bI_0, Decidable.not_not, sg_mul, sg_e0, sg_l0, sg_g0, sg_le0, sg_ge0, cmp_eq, cmp_lt, cmp_ge, cmp_gt, cmp_le, lT0, lT1] at c_79 | simp only [Int32.le_iff_toInt_le, Int32.lt_iff_toInt_lt, ← Int32.toInt_inj, iT0, iT1, iT2, iT3, iT4, iT5, iT6, iT7, iT8, iT9, iT10, iT11, iT12, iT13, iT14, iT15, iT16, iT19, iT20, iT31, iT32, iT42, iT64, iT200, iT318, iT319, iT1000, iTm1, iTm2] at c_79 | skip
      refine j_lload_n X dX11_cut_86 rfl 3 rfl ?_
      refine j_lconst (v := 0) X dX11_cut_87 rfl ?_
      refine j_lcmp X dX11_cut_88 ?_
      refine j_if_ge (tgt := 99) X dX11_cut_89 (by decide) (fun c_89 => ?_) (fun c_89 => ?_)
      · skip
        first | simp only [bI_0, Decidable.not_not, sg_mul, sg_e0, sg_l0, sg_g0, sg_le0, sg_ge0, cmp_eq, cmp_lt, cmp_ge, cmp_gt, cmp_le, lT0, lT1] at c_89 | simp only [Int32.le_iff_toInt_le, Int32.lt_iff_toInt_lt, ← Int32.toInt_inj, iT0, iT1, iT2, iT3, iT4, iT5, iT6, iT7, iT8, iT9, iT10, iT11, iT12, iT13, iT14, iT15, iT16, iT19, iT20, iT31, iT32, iT42, iT64, iT200, iT318, iT319, iT1000, iTm1, iTm2] at c_89 | skip
        refine j_iload X dX11_cut_99 4 rfl ?_
        refine j_istore (L' := [(8, .int 1), (7, .int x_18), (0, .ref (q 0)), (1, .int 1), (2, .long w), (4, .int 1), (5, .int 2), (6, .int 1)]) X dX11_cut_101 (by decide) rfl ?_
        refine j_iload X dX11_cut_103 0 rfl ?_
        refine j_if_eq (tgt := 132) X dX11_cut_105 (by decide) (fun c9 => absurd c9 (by decide)) (fun _ => ?_)
        refine j_aload_n X dX11_cut_108 rfl 2 rfl ?_
        refine j_iconst (v := 5) X dX11_cut_109 rfl ?_
        refine j_iconst (v := 4) X dX11_cut_110 rfl ?_
        refine j_bipush (v := 8) X dX11_cut_111 (by decide) ?_
        refine j_iload X dX11_cut_113 0 rfl ?_
        refine j_if_ge (tgt := 122) X dX11_cut_115 (by decide) (fun _ => ?_) (fun c9 => absurd c9 (by decide))
        refine j_iconst (v := 0) X dX11_cut_122 rfl ?_
        obtain ⟨y_19, ey_19⟩ : ∃ zz9 : Int, zz9 = y_5 + h_14 := ⟨_, rfl⟩
        have by_19 : bd 261 y_19 := by rw [ey_19]; exact bd_add (bd_mono by_5 (by decide)) (bd_mono bh_14 (by decide))
        refine j_callV X dX11_cut_123 (n_join l G q t n co cr po tx ty [z0, z1, z2, z3, y_5, y_5, z6, y_12, h_14, z9, z10, z11, w_17, y_8, v_15, y_10] sf_16 rfl hS_sf_16 5 5 rfl (by decide) 4 4 rfl (by decide) 8 8 rfl (by decide) 0 (Or.inl rfl) (by decide) (by decide) y_19 ey_19 by_5 bh_14 (by decide) (by decide)) gX11_cut_X11_join rfl hy_X11_join_V ⟨Nat.le_of_ble_eq_true rfl, Nat.le_of_ble_eq_true rfl⟩ 0 rfl rfl [0, 1, 2] rfl (by decide) rfl rfl (Nat.le_of_ble_eq_true rfl) ⟨Nat.le_of_ble_eq_true rfl, Nat.le_of_ble_eq_true rfl⟩ ?_
        rintro _ sf_20 ⟨rfl, hS_sf_20⟩
        change J p l e rm_X11_cut s m args below meth c Q G A 9 0 0 126 [(8, .int 1), (7, .int x_18), (0, .ref (q 0)), (1, .int 1), (2, .long w), (4, .int 1), (5, .int 2), (6, .int 1)] [] [(q 0, .inr (10, mF t n q co cr po tx ty)), (q 10, aI G 320 (rg [z0, z1, z2, z3, y_5, y_19, z6, y_12, h_14, z9, z10, z11, w_17, y_8, v_15, y_10])), (q 11, aZ G 16 sf_20)]
        refine j_aload_n X dX11_cut_126 rfl 2 rfl ?_
        refine j_iconst (v := 4) X dX11_cut_127 rfl ?_
        refine j_iconst (v := 5) X dX11_cut_128 rfl ?_
        refine j_callV X dX11_cut_129 (h_copy l G q t n co cr po tx ty [z0, z1, z2, z3, y_5, y_19, z6, y_12, h_14, z9, z10, z11, w_17, y_8, v_15, y_10] sf_20 rfl hS_sf_20 4 4 rfl (by decide) 5 5 rfl (by decide) (by decide)) gX11_cut_X11_copy rfl hy_X11_copy_V ⟨Nat.le_of_ble_eq_true rfl, Nat.le_of_ble_eq_true rfl⟩ 0 rfl rfl [0, 1, 2] rfl (by decide) rfl rfl (Nat.le_of_ble_eq_true rfl) ⟨Nat.le_of_ble_eq_true rfl, Nat.le_of_ble_eq_true rfl⟩ ?_
        rintro _ sf_21 ⟨rfl, hS_sf_21⟩
        change J p l e rm_X11_cut s m args below meth c Q G A 9 0 0 132 [(8, .int 1), (7, .int x_18), (0, .ref (q 0)), (1, .int 1), (2, .long w), (4, .int 1), (5, .int 2), (6, .int 1)] [] [(q 0, .inr (10, mF t n q co cr po tx ty)), (q 10, aI G 320 (rg [z0, z1, z2, z3, y_19, y_19, z6, y_12, h_14, z9, z10, z11, w_17, y_8, v_15, y_10])), (q 11, aZ G 16 sf_21)]
        refine j_iload X dX11_cut_132 0 rfl ?_
        refine j_if_ge (tgt := 164) X dX11_cut_134 (by decide) (fun _ => ?_) (fun c9 => absurd c9 (by decide))
        refine j_aload_n X dX11_cut_164 rfl 2 rfl ?_
        refine j_bipush (v := 13) X dX11_cut_165 (by decide) ?_
        refine j_iload X dX11_cut_167 6 rfl ?_
        refine j_i2l X dX11_cut_169 rfl ?_
        obtain ⟨y_22, ey_22⟩ : ∃ zz9 : Int, zz9 = ((2 : Int32).toInt64).toInt := ⟨_, rfl⟩
        have by_22 : bd 2 y_22 := by rw [ey_22]; exact bd_2
        refine j_callV X dX11_cut_170 (n_load l G q t n co cr po tx ty [z0, z1, z2, z3, y_19, y_19, z6, y_12, h_14, z9, z10, z11, w_17, y_8, v_15, y_10] sf_21 rfl hS_sf_21 13 13 rfl (by decide) ((2 : Int32).toInt64) y_22 ey_22) gX11_cut_X11_load rfl hy_X11_load_V ⟨Nat.le_of_ble_eq_true rfl, Nat.le_of_ble_eq_true rfl⟩ 0 rfl rfl [0, 1, 2] rfl (by decide) rfl rfl (Nat.le_of_ble_eq_true rfl) ⟨Nat.le_of_ble_eq_true rfl, Nat.le_of_ble_eq_true rfl⟩ ?_
        rintro _ sf_23 ⟨rfl, hS_sf_23⟩
        change J p l e rm_X11_cut s m args below meth c Q G A 9 0 0 173 [(8, .int 1), (7, .int x_18), (0, .ref (q 0)), (1, .int 1), (2, .long w), (4, .int 1), (5, .int 2), (6, .int 1)] [] [(q 0, .inr (10, mF t n q co cr po tx ty)), (q 10, aI G 320 (rg [z0, z1, z2, z3, y_19, y_19, z6, y_12, h_14, z9, z10, z11, w_17, y_22, v_15, y_10])), (q 11, aZ G 16 sf_23)]
        refine j_aload_n X dX11_cut_173 rfl 2 rfl ?_
        refine j_bipush (v := 9) X dX11_cut_174 (by decide) ?_
        refine j_bipush (v := 13) X dX11_cut_176 (by decide) ?_
        refine j_iconst (v := 3) X dX11_cut_178 rfl ?_
        obtain ⟨y_24, ey_24⟩ : ∃ zz9 : Int, zz9 = y_22 * z3 := ⟨_, rfl⟩
        have by_24 : bd 86 y_24 := by rw [ey_24]; exact bd_mul by_22 b3
        refine j_callV X dX11_cut_179 (n_mul l G q t n co cr po tx ty [z0, z1, z2, z3, y_19, y_19, z6, y_12, h_14, z9, z10, z11, w_17, y_22, v_15, y_10] sf_23 rfl hS_sf_23 9 9 rfl (by decide) 13 13 rfl (by decide) 3 3 rfl (by decide) (by decide) (by decide) y_24 ey_24) gX11_cut_X11_multiply rfl hy_X11_multiply_V ⟨Nat.le_of_ble_eq_true rfl, Nat.le_of_ble_eq_true rfl⟩ 0 rfl rfl [0, 1, 2] rfl (by decide) rfl rfl (Nat.le_of_ble_eq_true rfl) ⟨Nat.le_of_ble_eq_true rfl, Nat.le_of_ble_eq_true rfl⟩ ?_
        rintro _ sf_25 ⟨rfl, hS_sf_25⟩
        change J p l e rm_X11_cut s m args below meth c Q G A 9 0 0 182 [(8, .int 1), (7, .int x_18), (0, .ref (q 0)), (1, .int 1), (2, .long w), (4, .int 1), (5, .int 2), (6, .int 1)] [] [(q 0, .inr (10, mF t n q co cr po tx ty)), (q 10, aI G 320 (rg [z0, z1, z2, z3, y_19, y_19, z6, y_12, h_14, y_24, z10, z11, w_17, y_22, v_15, y_10])), (q 11, aZ G 16 sf_25)]
        have hM8 : y_24 = 2 * z3 := by rw [ey_24, ey_22, i64_2]
        have hM9 : (y_24.natAbs : Int) = 2 * z3 := by omega
        refine j_aload_n X dX11_cut_182 rfl 2 rfl ?_
        refine j_bipush (v := 6) X dX11_cut_183 (by decide) ?_
        refine j_iconst (v := 4) X dX11_cut_185 rfl ?_
        refine j_bipush (v := 9) X dX11_cut_186 (by decide) ?_
        obtain ⟨y_26, ey_26⟩ : ∃ zz9 : Int, zz9 = y_19 / (y_24.natAbs : Int) := ⟨_, rfl⟩
        obtain ⟨y_27, ey_27⟩ : ∃ zz9 : Int, zz9 = (y_19.natAbs : Int) % (y_24.natAbs : Int) := ⟨_, rfl⟩
        refine j_callV X dX11_cut_188 (n_divide_6_4_9 l G q t n co cr po tx ty z0 z1 z2 z3 y_19 y_19 z6 y_12 h_14 y_24 z10 z11 w_17 y_22 v_15 y_10 sf_25 hS_sf_25 (by omega) by_24 by_19 (by decide) (by decide) y_26 y_27 ey_26 ey_27) gX11_cut_X11_divide rfl hy_X11_divide_V ⟨Nat.le_of_ble_eq_true rfl, Nat.le_of_ble_eq_true rfl⟩ 0 rfl rfl [0, 1, 2] rfl (by decide) rfl rfl (Nat.le_of_ble_eq_true rfl) ⟨Nat.le_of_ble_eq_true rfl, Nat.le_of_ble_eq_true rfl⟩ ?_
        rintro _ ⟨v_28, v_29, sf_30⟩ ⟨rfl, hS_sf_30⟩
        change J p l e rm_X11_cut s m args below meth c Q G A 9 0 0 191 [(8, .int 1), (7, .int x_18), (0, .ref (q 0)), (1, .int 1), (2, .long w), (4, .int 1), (5, .int 2), (6, .int 1)] [] [(q 0, .inr (10, mF t n q co cr po tx ty)), (q 10, aI G 320 (rg [z0, z1, z2, z3, y_19, y_19, y_26, y_12, h_14, y_24, z10, z11, y_27, y_22, v_28, v_29])), (q 11, aZ G 16 sf_30)]
        exact E.1 191 _ (y_19, y_19, y_26, y_12, h_14, y_24, y_27, y_22, v_28, v_29, sf_30) dX11_cut_191 (⟨rfl, ⟨h_14, ⟨hh_140, hh_141, hh_142⟩, by dsimp only; rw [fl_p (show sg ((1 : Int32).toInt * w.toInt) = 1 from by rw [iT1, Int.one_mul]; rw [sg_pos (by omega)]), ey_26, hM9] <;> (congr 1 <;> omega)⟩, hS_sf_30⟩) hr
      · skip
        first | simp only [bI_0, Decidable.not_not, sg_mul, sg_e0, sg_l0, sg_g0, sg_le0, sg_ge0, cmp_eq, cmp_lt, cmp_ge, cmp_gt, cmp_le, lT0, lT1] at c_89 | simp only [Int32.le_iff_toInt_le, Int32.lt_iff_toInt_lt, ← Int32.toInt_inj, iT0, iT1, iT2, iT3, iT4, iT5, iT6, iT7, iT8, iT9, iT10, iT11, iT12, iT13, iT14, iT15, iT16, iT19, iT20, iT31, iT32, iT42, iT64, iT200, iT318, iT319, iT1000, iTm1, iTm2] at c_89 | skip
        refine j_iconst (v := 0) X dX11_cut_92 rfl ?_
        refine j_iload X dX11_cut_93 4 rfl ?_
        refine j_isub X dX11_cut_95 ?_
        rw [show (0 : Int32) - 1 = (-1) from by decide]
        refine j_goto (tgt := 101) X dX11_cut_96 (by decide) ?_
        refine j_istore (L' := [(8, .int (-1)), (7, .int x_18), (0, .ref (q 0)), (1, .int 1), (2, .long w), (4, .int 1), (5, .int 2), (6, .int 1)]) X dX11_cut_101 (by decide) rfl ?_
        refine j_iload X dX11_cut_103 0 rfl ?_
        refine j_if_eq (tgt := 132) X dX11_cut_105 (by decide) (fun c9 => absurd c9 (by decide)) (fun _ => ?_)
        refine j_aload_n X dX11_cut_108 rfl 2 rfl ?_
        refine j_iconst (v := 5) X dX11_cut_109 rfl ?_
        refine j_iconst (v := 4) X dX11_cut_110 rfl ?_
        refine j_bipush (v := 8) X dX11_cut_111 (by decide) ?_
        refine j_iload X dX11_cut_113 0 rfl ?_
        refine j_if_ge (tgt := 122) X dX11_cut_115 (by decide) (fun c9 => absurd c9 (by decide)) (fun _ => ?_)
        refine j_iconst (v := 1) X dX11_cut_118 rfl ?_
        refine j_goto (tgt := 123) X dX11_cut_119 (by decide) ?_
        obtain ⟨y_31, ey_31⟩ : ∃ zz9 : Int, zz9 = y_5 - h_14 := ⟨_, rfl⟩
        have by_31 : bd 261 y_31 := by rw [ey_31]; exact bd_sub (bd_mono by_5 (by decide)) (bd_mono bh_14 (by decide))
        refine j_callV X dX11_cut_123 (n_join l G q t n co cr po tx ty [z0, z1, z2, z3, y_5, y_5, z6, y_12, h_14, z9, z10, z11, w_17, y_8, v_15, y_10] sf_16 rfl hS_sf_16 5 5 rfl (by decide) 4 4 rfl (by decide) 8 8 rfl (by decide) 1 (Or.inr rfl) (by decide) (by decide) y_31 ey_31 by_5 bh_14 (by decide) (by decide)) gX11_cut_X11_join rfl hy_X11_join_V ⟨Nat.le_of_ble_eq_true rfl, Nat.le_of_ble_eq_true rfl⟩ 0 rfl rfl [0, 1, 2] rfl (by decide) rfl rfl (Nat.le_of_ble_eq_true rfl) ⟨Nat.le_of_ble_eq_true rfl, Nat.le_of_ble_eq_true rfl⟩ ?_
        rintro _ sf_32 ⟨rfl, hS_sf_32⟩
        change J p l e rm_X11_cut s m args below meth c Q G A 9 0 0 126 [(8, .int (-1)), (7, .int x_18), (0, .ref (q 0)), (1, .int 1), (2, .long w), (4, .int 1), (5, .int 2), (6, .int 1)] [] [(q 0, .inr (10, mF t n q co cr po tx ty)), (q 10, aI G 320 (rg [z0, z1, z2, z3, y_5, y_31, z6, y_12, h_14, z9, z10, z11, w_17, y_8, v_15, y_10])), (q 11, aZ G 16 sf_32)]
        refine j_aload_n X dX11_cut_126 rfl 2 rfl ?_
        refine j_iconst (v := 4) X dX11_cut_127 rfl ?_
        refine j_iconst (v := 5) X dX11_cut_128 rfl ?_
        refine j_callV X dX11_cut_129 (h_copy l G q t n co cr po tx ty [z0, z1, z2, z3, y_5, y_31, z6, y_12, h_14, z9, z10, z11, w_17, y_8, v_15, y_10] sf_32 rfl hS_sf_32 4 4 rfl (by decide) 5 5 rfl (by decide) (by decide)) gX11_cut_X11_copy rfl hy_X11_copy_V ⟨Nat.le_of_ble_eq_true rfl, Nat.le_of_ble_eq_true rfl⟩ 0 rfl rfl [0, 1, 2] rfl (by decide) rfl rfl (Nat.le_of_ble_eq_true rfl) ⟨Nat.le_of_ble_eq_true rfl, Nat.le_of_ble_eq_true rfl⟩ ?_
        rintro _ sf_33 ⟨rfl, hS_sf_33⟩
        change J p l e rm_X11_cut s m args below meth c Q G A 9 0 0 132 [(8, .int (-1)), (7, .int x_18), (0, .ref (q 0)), (1, .int 1), (2, .long w), (4, .int 1), (5, .int 2), (6, .int 1)] [] [(q 0, .inr (10, mF t n q co cr po tx ty)), (q 10, aI G 320 (rg [z0, z1, z2, z3, y_31, y_31, z6, y_12, h_14, z9, z10, z11, w_17, y_8, v_15, y_10])), (q 11, aZ G 16 sf_33)]
        refine j_iload X dX11_cut_132 0 rfl ?_
        refine j_if_ge (tgt := 164) X dX11_cut_134 (by decide) (fun c9 => absurd c9 (by decide)) (fun _ => ?_)
        refine j_iload X dX11_cut_137 1 rfl ?_
        refine j_if_ne (tgt := 164) X dX11_cut_139 (by decide) (fun c_139 => ?_) (fun c_139 => ?_)
        · skip
          rw [ex_18] at c_139
          have hEx : h_14 * h_14 = 2 * w.toInt * (2 * w.toInt) * z2 := by by_cases q9 : h_14 * h_14 = 2 * w.toInt * (2 * w.toInt) * z2; exact q9; rw [if_neg q9] at c_139; exact absurd rfl c_139
          refine j_aload_n X dX11_cut_164 rfl 2 rfl ?_
          refine j_bipush (v := 13) X dX11_cut_165 (by decide) ?_
          refine j_iload X dX11_cut_167 6 rfl ?_
          refine j_i2l X dX11_cut_169 rfl ?_
          obtain ⟨y_34, ey_34⟩ : ∃ zz9 : Int, zz9 = ((2 : Int32).toInt64).toInt := ⟨_, rfl⟩
          have by_34 : bd 2 y_34 := by rw [ey_34]; exact bd_2
          refine j_callV X dX11_cut_170 (n_load l G q t n co cr po tx ty [z0, z1, z2, z3, y_31, y_31, z6, y_12, h_14, z9, z10, z11, w_17, y_8, v_15, y_10] sf_33 rfl hS_sf_33 13 13 rfl (by decide) ((2 : Int32).toInt64) y_34 ey_34) gX11_cut_X11_load rfl hy_X11_load_V ⟨Nat.le_of_ble_eq_true rfl, Nat.le_of_ble_eq_true rfl⟩ 0 rfl rfl [0, 1, 2] rfl (by decide) rfl rfl (Nat.le_of_ble_eq_true rfl) ⟨Nat.le_of_ble_eq_true rfl, Nat.le_of_ble_eq_true rfl⟩ ?_
          rintro _ sf_35 ⟨rfl, hS_sf_35⟩
          change J p l e rm_X11_cut s m args below meth c Q G A 9 0 0 173 [(8, .int (-1)), (7, .int x_18), (0, .ref (q 0)), (1, .int 1), (2, .long w), (4, .int 1), (5, .int 2), (6, .int 1)] [] [(q 0, .inr (10, mF t n q co cr po tx ty)), (q 10, aI G 320 (rg [z0, z1, z2, z3, y_31, y_31, z6, y_12, h_14, z9, z10, z11, w_17, y_34, v_15, y_10])), (q 11, aZ G 16 sf_35)]
          refine j_aload_n X dX11_cut_173 rfl 2 rfl ?_
          refine j_bipush (v := 9) X dX11_cut_174 (by decide) ?_
          refine j_bipush (v := 13) X dX11_cut_176 (by decide) ?_
          refine j_iconst (v := 3) X dX11_cut_178 rfl ?_
          obtain ⟨y_36, ey_36⟩ : ∃ zz9 : Int, zz9 = y_34 * z3 := ⟨_, rfl⟩
          have by_36 : bd 86 y_36 := by rw [ey_36]; exact bd_mul by_34 b3
          refine j_callV X dX11_cut_179 (n_mul l G q t n co cr po tx ty [z0, z1, z2, z3, y_31, y_31, z6, y_12, h_14, z9, z10, z11, w_17, y_34, v_15, y_10] sf_35 rfl hS_sf_35 9 9 rfl (by decide) 13 13 rfl (by decide) 3 3 rfl (by decide) (by decide) (by decide) y_36 ey_36) gX11_cut_X11_multiply rfl hy_X11_multiply_V ⟨Nat.le_of_ble_eq_true rfl, Nat.le_of_ble_eq_true rfl⟩ 0 rfl rfl [0, 1, 2] rfl (by decide) rfl rfl (Nat.le_of_ble_eq_true rfl) ⟨Nat.le_of_ble_eq_true rfl, Nat.le_of_ble_eq_true rfl⟩ ?_
          rintro _ sf_37 ⟨rfl, hS_sf_37⟩
          change J p l e rm_X11_cut s m args below meth c Q G A 9 0 0 182 [(8, .int (-1)), (7, .int x_18), (0, .ref (q 0)), (1, .int 1), (2, .long w), (4, .int 1), (5, .int 2), (6, .int 1)] [] [(q 0, .inr (10, mF t n q co cr po tx ty)), (q 10, aI G 320 (rg [z0, z1, z2, z3, y_31, y_31, z6, y_12, h_14, y_36, z10, z11, w_17, y_34, v_15, y_10])), (q 11, aZ G 16 sf_37)]
          have hM8 : y_36 = 2 * z3 := by rw [ey_36, ey_34, i64_2]
          have hM9 : (y_36.natAbs : Int) = 2 * z3 := by omega
          refine j_aload_n X dX11_cut_182 rfl 2 rfl ?_
          refine j_bipush (v := 6) X dX11_cut_183 (by decide) ?_
          refine j_iconst (v := 4) X dX11_cut_185 rfl ?_
          refine j_bipush (v := 9) X dX11_cut_186 (by decide) ?_
          obtain ⟨y_38, ey_38⟩ : ∃ zz9 : Int, zz9 = y_31 / (y_36.natAbs : Int) := ⟨_, rfl⟩
          obtain ⟨y_39, ey_39⟩ : ∃ zz9 : Int, zz9 = (y_31.natAbs : Int) % (y_36.natAbs : Int) := ⟨_, rfl⟩
          refine j_callV X dX11_cut_188 (n_divide_6_4_9 l G q t n co cr po tx ty z0 z1 z2 z3 y_31 y_31 z6 y_12 h_14 y_36 z10 z11 w_17 y_34 v_15 y_10 sf_37 hS_sf_37 (by omega) by_36 by_31 (by decide) (by decide) y_38 y_39 ey_38 ey_39) gX11_cut_X11_divide rfl hy_X11_divide_V ⟨Nat.le_of_ble_eq_true rfl, Nat.le_of_ble_eq_true rfl⟩ 0 rfl rfl [0, 1, 2] rfl (by decide) rfl rfl (Nat.le_of_ble_eq_true rfl) ⟨Nat.le_of_ble_eq_true rfl, Nat.le_of_ble_eq_true rfl⟩ ?_
          rintro _ ⟨v_40, v_41, sf_42⟩ ⟨rfl, hS_sf_42⟩
          change J p l e rm_X11_cut s m args below meth c Q G A 9 0 0 191 [(8, .int (-1)), (7, .int x_18), (0, .ref (q 0)), (1, .int 1), (2, .long w), (4, .int 1), (5, .int 2), (6, .int 1)] [] [(q 0, .inr (10, mF t n q co cr po tx ty)), (q 10, aI G 320 (rg [z0, z1, z2, z3, y_31, y_31, y_38, y_12, h_14, y_36, z10, z11, y_39, y_34, v_40, v_41])), (q 11, aZ G 16 sf_42)]
          exact E.1 191 _ (y_31, y_31, y_38, y_12, h_14, y_36, y_39, y_34, v_40, v_41, sf_42) dX11_cut_191 (⟨rfl, ⟨h_14, ⟨hh_140, hh_141, hh_142⟩, by dsimp only; rw [fl_n (show sg ((1 : Int32).toInt * w.toInt) = -1 from by rw [iT1, Int.one_mul]; rw [sg_neg (by omega)]) hEx, ey_38, hM9] <;> (congr 1 <;> omega)⟩, hS_sf_42⟩) hr
        · skip
          rw [ex_18] at c_139
          have hEx : ¬ h_14 * h_14 = 2 * w.toInt * (2 * w.toInt) * z2 := by intro q9; rw [if_pos q9] at c_139; exact absurd c_139 (by decide)
          refine j_aload_n X dX11_cut_142 rfl 2 rfl ?_
          refine j_bipush (v := 15) X dX11_cut_143 (by decide) ?_
          refine j_lconst (v := 1) X dX11_cut_145 rfl ?_
          obtain ⟨y_43, ey_43⟩ : ∃ zz9 : Int, zz9 = 1 := ⟨_, rfl⟩
          have by_43 : bd 1 y_43 := by rw [ey_43]; exact (by decide : Int.natAbs 1 ≤ 2 ^ 1)
          refine j_callV X dX11_cut_146 (n_load l G q t n co cr po tx ty [z0, z1, z2, z3, y_31, y_31, z6, y_12, h_14, z9, z10, z11, w_17, y_8, v_15, y_10] sf_33 rfl hS_sf_33 15 15 rfl (by decide) 1 y_43 (by rw [ey_43]; rfl)) gX11_cut_X11_load rfl hy_X11_load_V ⟨Nat.le_of_ble_eq_true rfl, Nat.le_of_ble_eq_true rfl⟩ 0 rfl rfl [0, 1, 2] rfl (by decide) rfl rfl (Nat.le_of_ble_eq_true rfl) ⟨Nat.le_of_ble_eq_true rfl, Nat.le_of_ble_eq_true rfl⟩ ?_
          rintro _ sf_44 ⟨rfl, hS_sf_44⟩
          change J p l e rm_X11_cut s m args below meth c Q G A 9 0 0 149 [(8, .int (-1)), (7, .int x_18), (0, .ref (q 0)), (1, .int 1), (2, .long w), (4, .int 1), (5, .int 2), (6, .int 1)] [] [(q 0, .inr (10, mF t n q co cr po tx ty)), (q 10, aI G 320 (rg [z0, z1, z2, z3, y_31, y_31, z6, y_12, h_14, z9, z10, z11, w_17, y_8, v_15, y_43])), (q 11, aZ G 16 sf_44)]
          refine j_aload_n X dX11_cut_149 rfl 2 rfl ?_
          refine j_iconst (v := 5) X dX11_cut_150 rfl ?_
          refine j_iconst (v := 4) X dX11_cut_151 rfl ?_
          refine j_bipush (v := 15) X dX11_cut_152 (by decide) ?_
          refine j_iconst (v := 1) X dX11_cut_154 rfl ?_
          obtain ⟨y_45, ey_45⟩ : ∃ zz9 : Int, zz9 = y_31 - y_43 := ⟨_, rfl⟩
          have by_45 : bd 262 y_45 := by rw [ey_45]; exact bd_sub (bd_mono by_31 (by decide)) (bd_mono by_43 (by decide))
          refine j_callV X dX11_cut_155 (n_join l G q t n co cr po tx ty [z0, z1, z2, z3, y_31, y_31, z6, y_12, h_14, z9, z10, z11, w_17, y_8, v_15, y_43] sf_44 rfl hS_sf_44 5 5 rfl (by decide) 4 4 rfl (by decide) 15 15 rfl (by decide) 1 (Or.inr rfl) (by decide) (by decide) y_45 ey_45 by_31 by_43 (by decide) (by decide)) gX11_cut_X11_join rfl hy_X11_join_V ⟨Nat.le_of_ble_eq_true rfl, Nat.le_of_ble_eq_true rfl⟩ 0 rfl rfl [0, 1, 2] rfl (by decide) rfl rfl (Nat.le_of_ble_eq_true rfl) ⟨Nat.le_of_ble_eq_true rfl, Nat.le_of_ble_eq_true rfl⟩ ?_
          rintro _ sf_46 ⟨rfl, hS_sf_46⟩
          change J p l e rm_X11_cut s m args below meth c Q G A 9 0 0 158 [(8, .int (-1)), (7, .int x_18), (0, .ref (q 0)), (1, .int 1), (2, .long w), (4, .int 1), (5, .int 2), (6, .int 1)] [] [(q 0, .inr (10, mF t n q co cr po tx ty)), (q 10, aI G 320 (rg [z0, z1, z2, z3, y_31, y_45, z6, y_12, h_14, z9, z10, z11, w_17, y_8, v_15, y_43])), (q 11, aZ G 16 sf_46)]
          refine j_aload_n X dX11_cut_158 rfl 2 rfl ?_
          refine j_iconst (v := 4) X dX11_cut_159 rfl ?_
          refine j_iconst (v := 5) X dX11_cut_160 rfl ?_
          refine j_callV X dX11_cut_161 (h_copy l G q t n co cr po tx ty [z0, z1, z2, z3, y_31, y_45, z6, y_12, h_14, z9, z10, z11, w_17, y_8, v_15, y_43] sf_46 rfl hS_sf_46 4 4 rfl (by decide) 5 5 rfl (by decide) (by decide)) gX11_cut_X11_copy rfl hy_X11_copy_V ⟨Nat.le_of_ble_eq_true rfl, Nat.le_of_ble_eq_true rfl⟩ 0 rfl rfl [0, 1, 2] rfl (by decide) rfl rfl (Nat.le_of_ble_eq_true rfl) ⟨Nat.le_of_ble_eq_true rfl, Nat.le_of_ble_eq_true rfl⟩ ?_
          rintro _ sf_47 ⟨rfl, hS_sf_47⟩
          change J p l e rm_X11_cut s m args below meth c Q G A 9 0 0 164 [(8, .int (-1)), (7, .int x_18), (0, .ref (q 0)), (1, .int 1), (2, .long w), (4, .int 1), (5, .int 2), (6, .int 1)] [] [(q 0, .inr (10, mF t n q co cr po tx ty)), (q 10, aI G 320 (rg [z0, z1, z2, z3, y_45, y_45, z6, y_12, h_14, z9, z10, z11, w_17, y_8, v_15, y_43])), (q 11, aZ G 16 sf_47)]
          refine j_aload_n X dX11_cut_164 rfl 2 rfl ?_
          refine j_bipush (v := 13) X dX11_cut_165 (by decide) ?_
          refine j_iload X dX11_cut_167 6 rfl ?_
          refine j_i2l X dX11_cut_169 rfl ?_
          obtain ⟨y_48, ey_48⟩ : ∃ zz9 : Int, zz9 = ((2 : Int32).toInt64).toInt := ⟨_, rfl⟩
          have by_48 : bd 2 y_48 := by rw [ey_48]; exact bd_2
          refine j_callV X dX11_cut_170 (n_load l G q t n co cr po tx ty [z0, z1, z2, z3, y_45, y_45, z6, y_12, h_14, z9, z10, z11, w_17, y_8, v_15, y_43] sf_47 rfl hS_sf_47 13 13 rfl (by decide) ((2 : Int32).toInt64) y_48 ey_48) gX11_cut_X11_load rfl hy_X11_load_V ⟨Nat.le_of_ble_eq_true rfl, Nat.le_of_ble_eq_true rfl⟩ 0 rfl rfl [0, 1, 2] rfl (by decide) rfl rfl (Nat.le_of_ble_eq_true rfl) ⟨Nat.le_of_ble_eq_true rfl, Nat.le_of_ble_eq_true rfl⟩ ?_
          rintro _ sf_49 ⟨rfl, hS_sf_49⟩
          change J p l e rm_X11_cut s m args below meth c Q G A 9 0 0 173 [(8, .int (-1)), (7, .int x_18), (0, .ref (q 0)), (1, .int 1), (2, .long w), (4, .int 1), (5, .int 2), (6, .int 1)] [] [(q 0, .inr (10, mF t n q co cr po tx ty)), (q 10, aI G 320 (rg [z0, z1, z2, z3, y_45, y_45, z6, y_12, h_14, z9, z10, z11, w_17, y_48, v_15, y_43])), (q 11, aZ G 16 sf_49)]
          refine j_aload_n X dX11_cut_173 rfl 2 rfl ?_
          refine j_bipush (v := 9) X dX11_cut_174 (by decide) ?_
          refine j_bipush (v := 13) X dX11_cut_176 (by decide) ?_
          refine j_iconst (v := 3) X dX11_cut_178 rfl ?_
          obtain ⟨y_50, ey_50⟩ : ∃ zz9 : Int, zz9 = y_48 * z3 := ⟨_, rfl⟩
          have by_50 : bd 86 y_50 := by rw [ey_50]; exact bd_mul by_48 b3
          refine j_callV X dX11_cut_179 (n_mul l G q t n co cr po tx ty [z0, z1, z2, z3, y_45, y_45, z6, y_12, h_14, z9, z10, z11, w_17, y_48, v_15, y_43] sf_49 rfl hS_sf_49 9 9 rfl (by decide) 13 13 rfl (by decide) 3 3 rfl (by decide) (by decide) (by decide) y_50 ey_50) gX11_cut_X11_multiply rfl hy_X11_multiply_V ⟨Nat.le_of_ble_eq_true rfl, Nat.le_of_ble_eq_true rfl⟩ 0 rfl rfl [0, 1, 2] rfl (by decide) rfl rfl (Nat.le_of_ble_eq_true rfl) ⟨Nat.le_of_ble_eq_true rfl, Nat.le_of_ble_eq_true rfl⟩ ?_
          rintro _ sf_51 ⟨rfl, hS_sf_51⟩
          change J p l e rm_X11_cut s m args below meth c Q G A 9 0 0 182 [(8, .int (-1)), (7, .int x_18), (0, .ref (q 0)), (1, .int 1), (2, .long w), (4, .int 1), (5, .int 2), (6, .int 1)] [] [(q 0, .inr (10, mF t n q co cr po tx ty)), (q 10, aI G 320 (rg [z0, z1, z2, z3, y_45, y_45, z6, y_12, h_14, y_50, z10, z11, w_17, y_48, v_15, y_43])), (q 11, aZ G 16 sf_51)]
          have hM8 : y_50 = 2 * z3 := by rw [ey_50, ey_48, i64_2]
          have hM9 : (y_50.natAbs : Int) = 2 * z3 := by omega
          refine j_aload_n X dX11_cut_182 rfl 2 rfl ?_
          refine j_bipush (v := 6) X dX11_cut_183 (by decide) ?_
          refine j_iconst (v := 4) X dX11_cut_185 rfl ?_
          refine j_bipush (v := 9) X dX11_cut_186 (by decide) ?_
          obtain ⟨y_52, ey_52⟩ : ∃ zz9 : Int, zz9 = y_45 / (y_50.natAbs : Int) := ⟨_, rfl⟩
          obtain ⟨y_53, ey_53⟩ : ∃ zz9 : Int, zz9 = (y_45.natAbs : Int) % (y_50.natAbs : Int) := ⟨_, rfl⟩
          refine j_callV X dX11_cut_188 (n_divide_6_4_9 l G q t n co cr po tx ty z0 z1 z2 z3 y_45 y_45 z6 y_12 h_14 y_50 z10 z11 w_17 y_48 v_15 y_43 sf_51 hS_sf_51 (by omega) by_50 by_45 (by decide) (by decide) y_52 y_53 ey_52 ey_53) gX11_cut_X11_divide rfl hy_X11_divide_V ⟨Nat.le_of_ble_eq_true rfl, Nat.le_of_ble_eq_true rfl⟩ 0 rfl rfl [0, 1, 2] rfl (by decide) rfl rfl (Nat.le_of_ble_eq_true rfl) ⟨Nat.le_of_ble_eq_true rfl, Nat.le_of_ble_eq_true rfl⟩ ?_
          rintro _ ⟨v_54, v_55, sf_56⟩ ⟨rfl, hS_sf_56⟩
          change J p l e rm_X11_cut s m args below meth c Q G A 9 0 0 191 [(8, .int (-1)), (7, .int x_18), (0, .ref (q 0)), (1, .int 1), (2, .long w), (4, .int 1), (5, .int 2), (6, .int 1)] [] [(q 0, .inr (10, mF t n q co cr po tx ty)), (q 10, aI G 320 (rg [z0, z1, z2, z3, y_45, y_45, y_52, y_12, h_14, y_50, z10, z11, y_53, y_48, v_54, v_55])), (q 11, aZ G 16 sf_56)]
          exact E.1 191 _ (y_45, y_45, y_52, y_12, h_14, y_50, y_53, y_48, v_54, v_55, sf_56) dX11_cut_191 (⟨rfl, ⟨h_14, ⟨hh_140, hh_141, hh_142⟩, by dsimp only; rw [fl_m (show sg ((1 : Int32).toInt * w.toInt) = -1 from by rw [iT1, Int.one_mul]; rw [sg_neg (by omega)]) hEx, ey_52, hM9] <;> (congr 1 <;> omega)⟩, hS_sf_56⟩) hr
    · skip
      first | simp only [bI_0, Decidable.not_not, sg_mul, sg_e0, sg_l0, sg_g0, sg_le0, sg_ge0, cmp_eq, cmp_lt, cmp_ge, cmp_gt, cmp_le, lT0, lT1] at c_79 | simp only [Int32.le_iff_toInt_le, Int32.lt_iff_toInt_lt, ← Int32.toInt_inj, iT0, iT1, iT2, iT3, iT4, iT5, iT6, iT7, iT8, iT9, iT10, iT11, iT12, iT13, iT14, iT15, iT16, iT19, iT20, iT31, iT32, iT42, iT64, iT200, iT318, iT319, iT1000, iTm1, iTm2] at c_79 | skip
      refine j_iconst (v := 0) X dX11_cut_82 rfl ?_
      refine j_goto (tgt := 101) X dX11_cut_83 (by decide) ?_
      refine j_istore (L' := [(8, .int 0), (7, .int x_18), (0, .ref (q 0)), (1, .int 1), (2, .long w), (4, .int 1), (5, .int 2), (6, .int 1)]) X dX11_cut_101 (by decide) rfl ?_
      refine j_iload X dX11_cut_103 0 rfl ?_
      refine j_if_eq (tgt := 132) X dX11_cut_105 (by decide) (fun _ => ?_) (fun c9 => absurd c9 (by decide))
      refine j_iload X dX11_cut_132 0 rfl ?_
      refine j_if_ge (tgt := 164) X dX11_cut_134 (by decide) (fun _ => ?_) (fun c9 => absurd c9 (by decide))
      refine j_aload_n X dX11_cut_164 rfl 2 rfl ?_
      refine j_bipush (v := 13) X dX11_cut_165 (by decide) ?_
      refine j_iload X dX11_cut_167 6 rfl ?_
      refine j_i2l X dX11_cut_169 rfl ?_
      obtain ⟨y_57, ey_57⟩ : ∃ zz9 : Int, zz9 = ((2 : Int32).toInt64).toInt := ⟨_, rfl⟩
      have by_57 : bd 2 y_57 := by rw [ey_57]; exact bd_2
      refine j_callV X dX11_cut_170 (n_load l G q t n co cr po tx ty [z0, z1, z2, z3, y_5, y_5, z6, y_12, h_14, z9, z10, z11, w_17, y_8, v_15, y_10] sf_16 rfl hS_sf_16 13 13 rfl (by decide) ((2 : Int32).toInt64) y_57 ey_57) gX11_cut_X11_load rfl hy_X11_load_V ⟨Nat.le_of_ble_eq_true rfl, Nat.le_of_ble_eq_true rfl⟩ 0 rfl rfl [0, 1, 2] rfl (by decide) rfl rfl (Nat.le_of_ble_eq_true rfl) ⟨Nat.le_of_ble_eq_true rfl, Nat.le_of_ble_eq_true rfl⟩ ?_
      rintro _ sf_58 ⟨rfl, hS_sf_58⟩
      change J p l e rm_X11_cut s m args below meth c Q G A 9 0 0 173 [(8, .int 0), (7, .int x_18), (0, .ref (q 0)), (1, .int 1), (2, .long w), (4, .int 1), (5, .int 2), (6, .int 1)] [] [(q 0, .inr (10, mF t n q co cr po tx ty)), (q 10, aI G 320 (rg [z0, z1, z2, z3, y_5, y_5, z6, y_12, h_14, z9, z10, z11, w_17, y_57, v_15, y_10])), (q 11, aZ G 16 sf_58)]
      refine j_aload_n X dX11_cut_173 rfl 2 rfl ?_
      refine j_bipush (v := 9) X dX11_cut_174 (by decide) ?_
      refine j_bipush (v := 13) X dX11_cut_176 (by decide) ?_
      refine j_iconst (v := 3) X dX11_cut_178 rfl ?_
      obtain ⟨y_59, ey_59⟩ : ∃ zz9 : Int, zz9 = y_57 * z3 := ⟨_, rfl⟩
      have by_59 : bd 86 y_59 := by rw [ey_59]; exact bd_mul by_57 b3
      refine j_callV X dX11_cut_179 (n_mul l G q t n co cr po tx ty [z0, z1, z2, z3, y_5, y_5, z6, y_12, h_14, z9, z10, z11, w_17, y_57, v_15, y_10] sf_58 rfl hS_sf_58 9 9 rfl (by decide) 13 13 rfl (by decide) 3 3 rfl (by decide) (by decide) (by decide) y_59 ey_59) gX11_cut_X11_multiply rfl hy_X11_multiply_V ⟨Nat.le_of_ble_eq_true rfl, Nat.le_of_ble_eq_true rfl⟩ 0 rfl rfl [0, 1, 2] rfl (by decide) rfl rfl (Nat.le_of_ble_eq_true rfl) ⟨Nat.le_of_ble_eq_true rfl, Nat.le_of_ble_eq_true rfl⟩ ?_
      rintro _ sf_60 ⟨rfl, hS_sf_60⟩
      change J p l e rm_X11_cut s m args below meth c Q G A 9 0 0 182 [(8, .int 0), (7, .int x_18), (0, .ref (q 0)), (1, .int 1), (2, .long w), (4, .int 1), (5, .int 2), (6, .int 1)] [] [(q 0, .inr (10, mF t n q co cr po tx ty)), (q 10, aI G 320 (rg [z0, z1, z2, z3, y_5, y_5, z6, y_12, h_14, y_59, z10, z11, w_17, y_57, v_15, y_10])), (q 11, aZ G 16 sf_60)]
      have hM8 : y_59 = 2 * z3 := by rw [ey_59, ey_57, i64_2]
      have hM9 : (y_59.natAbs : Int) = 2 * z3 := by omega
      refine j_aload_n X dX11_cut_182 rfl 2 rfl ?_
      refine j_bipush (v := 6) X dX11_cut_183 (by decide) ?_
      refine j_iconst (v := 4) X dX11_cut_185 rfl ?_
      refine j_bipush (v := 9) X dX11_cut_186 (by decide) ?_
      obtain ⟨y_61, ey_61⟩ : ∃ zz9 : Int, zz9 = y_5 / (y_59.natAbs : Int) := ⟨_, rfl⟩
      obtain ⟨y_62, ey_62⟩ : ∃ zz9 : Int, zz9 = (y_5.natAbs : Int) % (y_59.natAbs : Int) := ⟨_, rfl⟩
      refine j_callV X dX11_cut_188 (n_divide_6_4_9 l G q t n co cr po tx ty z0 z1 z2 z3 y_5 y_5 z6 y_12 h_14 y_59 z10 z11 w_17 y_57 v_15 y_10 sf_60 hS_sf_60 (by omega) by_59 by_5 (by decide) (by decide) y_61 y_62 ey_61 ey_62) gX11_cut_X11_divide rfl hy_X11_divide_V ⟨Nat.le_of_ble_eq_true rfl, Nat.le_of_ble_eq_true rfl⟩ 0 rfl rfl [0, 1, 2] rfl (by decide) rfl rfl (Nat.le_of_ble_eq_true rfl) ⟨Nat.le_of_ble_eq_true rfl, Nat.le_of_ble_eq_true rfl⟩ ?_
      rintro _ ⟨v_63, v_64, sf_65⟩ ⟨rfl, hS_sf_65⟩
      change J p l e rm_X11_cut s m args below meth c Q G A 9 0 0 191 [(8, .int 0), (7, .int x_18), (0, .ref (q 0)), (1, .int 1), (2, .long w), (4, .int 1), (5, .int 2), (6, .int 1)] [] [(q 0, .inr (10, mF t n q co cr po tx ty)), (q 10, aI G 320 (rg [z0, z1, z2, z3, y_5, y_5, y_61, y_12, h_14, y_59, z10, z11, y_62, y_57, v_63, v_64])), (q 11, aZ G 16 sf_65)]
      exact E.1 191 _ (y_5, y_5, y_61, y_12, h_14, y_59, y_62, y_57, v_63, v_64, sf_65) dX11_cut_191 (⟨rfl, ⟨h_14, ⟨hh_140, hh_141, hh_142⟩, by dsimp only; rw [fl_z (show sg ((1 : Int32).toInt * w.toInt) = 0 from by rw [iT1, Int.one_mul]; rw [sg_zero (by omega)]), ey_61, hM9] <;> (congr 1 <;> omega)⟩, hS_sf_65⟩) hr
  · skip
    refine j_aload_n X dX11_cut_0 rfl 0 rfl ?_
    refine j_bipush (v := 13) X dX11_cut_1 (by decide) ?_
    refine j_iload X dX11_cut_3 4 rfl ?_
    refine j_i2l X dX11_cut_5 rfl ?_
    obtain ⟨y_66, ey_66⟩ : ∃ zz9 : Int, zz9 = ((2 : Int32).toInt64).toInt := ⟨_, rfl⟩
    have by_66 : bd 2 y_66 := by rw [ey_66]; exact bd_2
    refine j_callV X dX11_cut_6 (n_load l G q t n co cr po tx ty [z0, z1, z2, z3, z4, z5, z6, z7, z8, z9, z10, z11, z12, z13, z14, z15] sf rfl hS 13 13 rfl (by decide) ((2 : Int32).toInt64) y_66 ey_66) gX11_cut_X11_load rfl hy_X11_load_V ⟨Nat.le_of_ble_eq_true rfl, Nat.le_of_ble_eq_true rfl⟩ 0 rfl rfl [0, 1, 2] rfl (by decide) rfl rfl (Nat.le_of_ble_eq_true rfl) ⟨Nat.le_of_ble_eq_true rfl, Nat.le_of_ble_eq_true rfl⟩ ?_
    rintro _ sf_67 ⟨rfl, hS_sf_67⟩
    change J p l e rm_X11_cut s m args below meth c Q G A 9 0 0 9 [(0, .ref (q 0)), (1, .int 1), (2, .long w), (4, .int (-1)), (5, .int 2), (6, .int 1)] [] [(q 0, .inr (10, mF t n q co cr po tx ty)), (q 10, aI G 320 (rg [z0, z1, z2, z3, z4, z5, z6, z7, z8, z9, z10, z11, z12, y_66, z14, z15])), (q 11, aZ G 16 sf_67)]
    refine j_aload_n X dX11_cut_9 rfl 0 rfl ?_
    refine j_iconst (v := 4) X dX11_cut_10 rfl ?_
    refine j_bipush (v := 13) X dX11_cut_11 (by decide) ?_
    refine j_iload_n X dX11_cut_13 rfl 1 rfl ?_
    obtain ⟨y_68, ey_68⟩ : ∃ zz9 : Int, zz9 = y_66 * z1 := ⟨_, rfl⟩
    have by_68 : bd 129 y_68 := by rw [ey_68]; exact bd_mul by_66 bu
    refine j_callV X dX11_cut_14 (n_mul l G q t n co cr po tx ty [z0, z1, z2, z3, z4, z5, z6, z7, z8, z9, z10, z11, z12, y_66, z14, z15] sf_67 rfl hS_sf_67 4 4 rfl (by decide) 13 13 rfl (by decide) 1 1 rfl (by decide) (by decide) (by decide) y_68 ey_68) gX11_cut_X11_multiply rfl hy_X11_multiply_V ⟨Nat.le_of_ble_eq_true rfl, Nat.le_of_ble_eq_true rfl⟩ 0 rfl rfl [0, 1, 2] rfl (by decide) rfl rfl (Nat.le_of_ble_eq_true rfl) ⟨Nat.le_of_ble_eq_true rfl, Nat.le_of_ble_eq_true rfl⟩ ?_
    rintro _ sf_69 ⟨rfl, hS_sf_69⟩
    change J p l e rm_X11_cut s m args below meth c Q G A 9 0 0 17 [(0, .ref (q 0)), (1, .int 1), (2, .long w), (4, .int (-1)), (5, .int 2), (6, .int 1)] [] [(q 0, .inr (10, mF t n q co cr po tx ty)), (q 10, aI G 320 (rg [z0, z1, z2, z3, y_68, z5, z6, z7, z8, z9, z10, z11, z12, y_66, z14, z15])), (q 11, aZ G 16 sf_69)]
    have hA1 : y_68 = 2 * z1 := by rw [ey_68, ey_66, i64_2]
    refine j_iload X dX11_cut_17 5 rfl ?_
    refine j_if_eq (tgt := 36) X dX11_cut_19 (by decide) (fun c9 => absurd c9 (by decide)) (fun _ => ?_)
    refine j_aload_n X dX11_cut_22 rfl 0 rfl ?_
    refine j_iconst (v := 5) X dX11_cut_23 rfl ?_
    refine j_iconst (v := 4) X dX11_cut_24 rfl ?_
    refine j_iconst (v := 3) X dX11_cut_25 rfl ?_
    refine j_iconst (v := 0) X dX11_cut_26 rfl ?_
    obtain ⟨y_70, ey_70⟩ : ∃ zz9 : Int, zz9 = y_68 + z3 := ⟨_, rfl⟩
    have by_70 : bd 130 y_70 := by rw [ey_70]; exact bd_add (bd_mono by_68 (by decide)) (bd_mono b3 (by decide))
    refine j_callV X dX11_cut_27 (n_join l G q t n co cr po tx ty [z0, z1, z2, z3, y_68, z5, z6, z7, z8, z9, z10, z11, z12, y_66, z14, z15] sf_69 rfl hS_sf_69 5 5 rfl (by decide) 4 4 rfl (by decide) 3 3 rfl (by decide) 0 (Or.inl rfl) (by decide) (by decide) y_70 ey_70 by_68 b3 (by decide) (by decide)) gX11_cut_X11_join rfl hy_X11_join_V ⟨Nat.le_of_ble_eq_true rfl, Nat.le_of_ble_eq_true rfl⟩ 0 rfl rfl [0, 1, 2] rfl (by decide) rfl rfl (Nat.le_of_ble_eq_true rfl) ⟨Nat.le_of_ble_eq_true rfl, Nat.le_of_ble_eq_true rfl⟩ ?_
    rintro _ sf_71 ⟨rfl, hS_sf_71⟩
    change J p l e rm_X11_cut s m args below meth c Q G A 9 0 0 30 [(0, .ref (q 0)), (1, .int 1), (2, .long w), (4, .int (-1)), (5, .int 2), (6, .int 1)] [] [(q 0, .inr (10, mF t n q co cr po tx ty)), (q 10, aI G 320 (rg [z0, z1, z2, z3, y_68, y_70, z6, z7, z8, z9, z10, z11, z12, y_66, z14, z15])), (q 11, aZ G 16 sf_71)]
    refine j_aload_n X dX11_cut_30 rfl 0 rfl ?_
    refine j_iconst (v := 4) X dX11_cut_31 rfl ?_
    refine j_iconst (v := 5) X dX11_cut_32 rfl ?_
    refine j_callV X dX11_cut_33 (h_copy l G q t n co cr po tx ty [z0, z1, z2, z3, y_68, y_70, z6, z7, z8, z9, z10, z11, z12, y_66, z14, z15] sf_71 rfl hS_sf_71 4 4 rfl (by decide) 5 5 rfl (by decide) (by decide)) gX11_cut_X11_copy rfl hy_X11_copy_V ⟨Nat.le_of_ble_eq_true rfl, Nat.le_of_ble_eq_true rfl⟩ 0 rfl rfl [0, 1, 2] rfl (by decide) rfl rfl (Nat.le_of_ble_eq_true rfl) ⟨Nat.le_of_ble_eq_true rfl, Nat.le_of_ble_eq_true rfl⟩ ?_
    rintro _ sf_72 ⟨rfl, hS_sf_72⟩
    change J p l e rm_X11_cut s m args below meth c Q G A 9 0 0 36 [(0, .ref (q 0)), (1, .int 1), (2, .long w), (4, .int (-1)), (5, .int 2), (6, .int 1)] [] [(q 0, .inr (10, mF t n q co cr po tx ty)), (q 10, aI G 320 (rg [z0, z1, z2, z3, y_70, y_70, z6, z7, z8, z9, z10, z11, z12, y_66, z14, z15])), (q 11, aZ G 16 sf_72)]
    refine j_aload_n X dX11_cut_36 rfl 0 rfl ?_
    refine j_bipush (v := 13) X dX11_cut_37 (by decide) ?_
    refine j_iload X dX11_cut_39 4 rfl ?_
    refine j_i2l X dX11_cut_41 rfl ?_
    refine j_lload_n X dX11_cut_42 rfl 2 rfl ?_
    refine j_lmul X dX11_cut_43 ?_
    obtain ⟨y_73, ey_73⟩ : ∃ zz9 : Int, zz9 = (((2 : Int32).toInt64) * w).toInt := ⟨_, rfl⟩
    have by_73 : bd 43 y_73 := by rw [ey_73]; exact bq9
    refine j_callV X dX11_cut_44 (n_load l G q t n co cr po tx ty [z0, z1, z2, z3, y_70, y_70, z6, z7, z8, z9, z10, z11, z12, y_66, z14, z15] sf_72 rfl hS_sf_72 13 13 rfl (by decide) (((2 : Int32).toInt64) * w) y_73 ey_73) gX11_cut_X11_load rfl hy_X11_load_V ⟨Nat.le_of_ble_eq_true rfl, Nat.le_of_ble_eq_true rfl⟩ 0 rfl rfl [0, 1, 2] rfl (by decide) rfl rfl (Nat.le_of_ble_eq_true rfl) ⟨Nat.le_of_ble_eq_true rfl, Nat.le_of_ble_eq_true rfl⟩ ?_
    rintro _ sf_74 ⟨rfl, hS_sf_74⟩
    change J p l e rm_X11_cut s m args below meth c Q G A 9 0 0 47 [(0, .ref (q 0)), (1, .int 1), (2, .long w), (4, .int (-1)), (5, .int 2), (6, .int 1)] [] [(q 0, .inr (10, mF t n q co cr po tx ty)), (q 10, aI G 320 (rg [z0, z1, z2, z3, y_70, y_70, z6, z7, z8, z9, z10, z11, z12, y_73, z14, z15])), (q 11, aZ G 16 sf_74)]
    refine j_aload_n X dX11_cut_47 rfl 0 rfl ?_
    refine j_bipush (v := 15) X dX11_cut_48 (by decide) ?_
    refine j_bipush (v := 13) X dX11_cut_50 (by decide) ?_
    refine j_bipush (v := 13) X dX11_cut_52 (by decide) ?_
    obtain ⟨y_75, ey_75⟩ : ∃ zz9 : Int, zz9 = y_73 * y_73 := ⟨_, rfl⟩
    have by_75 : bd 86 y_75 := by rw [ey_75]; exact bd_mul by_73 by_73
    refine j_callV X dX11_cut_54 (n_mul l G q t n co cr po tx ty [z0, z1, z2, z3, y_70, y_70, z6, z7, z8, z9, z10, z11, z12, y_73, z14, z15] sf_74 rfl hS_sf_74 15 15 rfl (by decide) 13 13 rfl (by decide) 13 13 rfl (by decide) (by decide) (by decide) y_75 ey_75) gX11_cut_X11_multiply rfl hy_X11_multiply_V ⟨Nat.le_of_ble_eq_true rfl, Nat.le_of_ble_eq_true rfl⟩ 0 rfl rfl [0, 1, 2] rfl (by decide) rfl rfl (Nat.le_of_ble_eq_true rfl) ⟨Nat.le_of_ble_eq_true rfl, Nat.le_of_ble_eq_true rfl⟩ ?_
    rintro _ sf_76 ⟨rfl, hS_sf_76⟩
    change J p l e rm_X11_cut s m args below meth c Q G A 9 0 0 57 [(0, .ref (q 0)), (1, .int 1), (2, .long w), (4, .int (-1)), (5, .int 2), (6, .int 1)] [] [(q 0, .inr (10, mF t n q co cr po tx ty)), (q 10, aI G 320 (rg [z0, z1, z2, z3, y_70, y_70, z6, z7, z8, z9, z10, z11, z12, y_73, z14, y_75])), (q 11, aZ G 16 sf_76)]
    refine j_aload_n X dX11_cut_57 rfl 0 rfl ?_
    refine j_bipush (v := 7) X dX11_cut_58 (by decide) ?_
    refine j_bipush (v := 15) X dX11_cut_60 (by decide) ?_
    refine j_iconst (v := 2) X dX11_cut_62 rfl ?_
    obtain ⟨y_77, ey_77⟩ : ∃ zz9 : Int, zz9 = y_75 * z2 := ⟨_, rfl⟩
    have by_77 : bd 258 y_77 := by rw [ey_77]; exact bd_mul by_75 b2
    refine j_callV X dX11_cut_63 (n_mul l G q t n co cr po tx ty [z0, z1, z2, z3, y_70, y_70, z6, z7, z8, z9, z10, z11, z12, y_73, z14, y_75] sf_76 rfl hS_sf_76 7 7 rfl (by decide) 15 15 rfl (by decide) 2 2 rfl (by decide) (by decide) (by decide) y_77 ey_77) gX11_cut_X11_multiply rfl hy_X11_multiply_V ⟨Nat.le_of_ble_eq_true rfl, Nat.le_of_ble_eq_true rfl⟩ 0 rfl rfl [0, 1, 2] rfl (by decide) rfl rfl (Nat.le_of_ble_eq_true rfl) ⟨Nat.le_of_ble_eq_true rfl, Nat.le_of_ble_eq_true rfl⟩ ?_
    rintro _ sf_78 ⟨rfl, hS_sf_78⟩
    change J p l e rm_X11_cut s m args below meth c Q G A 9 0 0 66 [(0, .ref (q 0)), (1, .int 1), (2, .long w), (4, .int (-1)), (5, .int 2), (6, .int 1)] [] [(q 0, .inr (10, mF t n q co cr po tx ty)), (q 10, aI G 320 (rg [z0, z1, z2, z3, y_70, y_70, z6, y_77, z8, z9, z10, z11, z12, y_73, z14, y_75])), (q 11, aZ G 16 sf_78)]
    refine j_aload_n X dX11_cut_66 rfl 0 rfl ?_
    refine j_bipush (v := 8) X dX11_cut_67 (by decide) ?_
    refine j_bipush (v := 7) X dX11_cut_69 (by decide) ?_
    refine j_callV X dX11_cut_71 (c_X11_rootOf_8_7 l G q t n co cr po tx ty z0 z1 z2 z3 y_70 y_70 z6 y_77 z8 z9 z10 z11 z12 y_73 z14 y_75 sf_78 hS_sf_78 (bd_lt319 by_77 (by decide))) gX11_cut_X11_rootOf rfl hy_X11_rootOf_V ⟨Nat.le_of_ble_eq_true rfl, Nat.le_of_ble_eq_true rfl⟩ 0 rfl rfl [0, 1, 2] rfl (by decide) rfl rfl (Nat.le_of_ble_eq_true rfl) ⟨Nat.le_of_ble_eq_true rfl, Nat.le_of_ble_eq_true rfl⟩ ?_
    rintro _ ⟨h_79, v_80, sf_81⟩ ⟨rfl, hh_790, hh_791, hh_792, hS_sf_81⟩
    dsimp only at hh_790 hh_791 hh_792 hS_sf_81
    change J p l e rm_X11_cut s m args below meth c Q G A 9 0 0 74 [(0, .ref (q 0)), (1, .int 1), (2, .long w), (4, .int (-1)), (5, .int 2), (6, .int 1)] [.int (if h_79 * h_79 = (y_77.natAbs : Int) then 1 else 0)] [(q 0, .inr (10, mF t n q co cr po tx ty)), (q 10, aI G 320 (rg [z0, z1, z2, z3, y_70, y_70, z6, y_77, h_79, z9, z10, z11, ((y_77.natAbs : Int) - h_79 * h_79), y_73, v_80, y_75])), (q 11, aZ G 16 sf_81)]
    obtain ⟨w_82, ew_82⟩ : ∃ zz9 : Int, zz9 = (y_77.natAbs : Int) - h_79 * h_79 := ⟨_, rfl⟩
    rw [← ew_82] at hS_sf_81 ⊢
    have hN9 : (y_77.natAbs : Int) = 2 * w.toInt * (2 * w.toInt) * z2 := by rw [ey_77, ey_75, ey_73, hq9]; exact Int.natAbs_of_nonneg (Int.mul_nonneg (sq_nn _) hR)
    rw [hN9] at hh_791 hh_792 ⊢
    have bh_79 : bd 260 h_79 := bd_of_le hh_790 (Int.le_trans (sq_ge hh_790) hh_791) (by rw [← hN9]; exact bd_abs (bd_mono by_77 (by decide)))
    refine j_topi (fun x_83 ex_83 => ?_)
    refine j_istore (L' := [(7, .int x_83), (0, .ref (q 0)), (1, .int 1), (2, .long w), (4, .int (-1)), (5, .int 2), (6, .int 1)]) X dX11_cut_74 (by decide) rfl ?_
    refine j_lload_n X dX11_cut_76 rfl 3 rfl ?_
    refine j_lconst (v := 0) X dX11_cut_77 rfl ?_
    refine j_lcmp X dX11_cut_78 ?_
    refine j_if_ne (tgt := 86) X dX11_cut_79 (by decide) (fun c_79 => ?_) (fun c_79 => ?_)
    · skip
      first | simp only [bI_0, Decidable.not_not, sg_mul, sg_e0, sg_l0, sg_g0, sg_le0, sg_ge0, cmp_eq, cmp_lt, cmp_ge, cmp_gt, cmp_le, lT0, lT1] at c_79 | simp only [Int32.le_iff_toInt_le, Int32.lt_iff_toInt_lt, ← Int32.toInt_inj, iT0, iT1, iT2, iT3, iT4, iT5, iT6, iT7, iT8, iT9, iT10, iT11, iT12, iT13, iT14, iT15, iT16, iT19, iT20, iT31, iT32, iT42, iT64, iT200, iT318, iT319, iT1000, iTm1, iTm2] at c_79 | skip
      refine j_lload_n X dX11_cut_86 rfl 3 rfl ?_
      refine j_lconst (v := 0) X dX11_cut_87 rfl ?_
      refine j_lcmp X dX11_cut_88 ?_
      refine j_if_ge (tgt := 99) X dX11_cut_89 (by decide) (fun c_89 => ?_) (fun c_89 => ?_)
      · skip
        first | simp only [bI_0, Decidable.not_not, sg_mul, sg_e0, sg_l0, sg_g0, sg_le0, sg_ge0, cmp_eq, cmp_lt, cmp_ge, cmp_gt, cmp_le, lT0, lT1] at c_89 | simp only [Int32.le_iff_toInt_le, Int32.lt_iff_toInt_lt, ← Int32.toInt_inj, iT0, iT1, iT2, iT3, iT4, iT5, iT6, iT7, iT8, iT9, iT10, iT11, iT12, iT13, iT14, iT15, iT16, iT19, iT20, iT31, iT32, iT42, iT64, iT200, iT318, iT319, iT1000, iTm1, iTm2] at c_89 | skip
        refine j_iload X dX11_cut_99 4 rfl ?_
        refine j_istore (L' := [(8, .int (-1)), (7, .int x_83), (0, .ref (q 0)), (1, .int 1), (2, .long w), (4, .int (-1)), (5, .int 2), (6, .int 1)]) X dX11_cut_101 (by decide) rfl ?_
        refine j_iload X dX11_cut_103 0 rfl ?_
        refine j_if_eq (tgt := 132) X dX11_cut_105 (by decide) (fun c9 => absurd c9 (by decide)) (fun _ => ?_)
        refine j_aload_n X dX11_cut_108 rfl 2 rfl ?_
        refine j_iconst (v := 5) X dX11_cut_109 rfl ?_
        refine j_iconst (v := 4) X dX11_cut_110 rfl ?_
        refine j_bipush (v := 8) X dX11_cut_111 (by decide) ?_
        refine j_iload X dX11_cut_113 0 rfl ?_
        refine j_if_ge (tgt := 122) X dX11_cut_115 (by decide) (fun c9 => absurd c9 (by decide)) (fun _ => ?_)
        refine j_iconst (v := 1) X dX11_cut_118 rfl ?_
        refine j_goto (tgt := 123) X dX11_cut_119 (by decide) ?_
        obtain ⟨y_84, ey_84⟩ : ∃ zz9 : Int, zz9 = y_70 - h_79 := ⟨_, rfl⟩
        have by_84 : bd 261 y_84 := by rw [ey_84]; exact bd_sub (bd_mono by_70 (by decide)) (bd_mono bh_79 (by decide))
        refine j_callV X dX11_cut_123 (n_join l G q t n co cr po tx ty [z0, z1, z2, z3, y_70, y_70, z6, y_77, h_79, z9, z10, z11, w_82, y_73, v_80, y_75] sf_81 rfl hS_sf_81 5 5 rfl (by decide) 4 4 rfl (by decide) 8 8 rfl (by decide) 1 (Or.inr rfl) (by decide) (by decide) y_84 ey_84 by_70 bh_79 (by decide) (by decide)) gX11_cut_X11_join rfl hy_X11_join_V ⟨Nat.le_of_ble_eq_true rfl, Nat.le_of_ble_eq_true rfl⟩ 0 rfl rfl [0, 1, 2] rfl (by decide) rfl rfl (Nat.le_of_ble_eq_true rfl) ⟨Nat.le_of_ble_eq_true rfl, Nat.le_of_ble_eq_true rfl⟩ ?_
        rintro _ sf_85 ⟨rfl, hS_sf_85⟩
        change J p l e rm_X11_cut s m args below meth c Q G A 9 0 0 126 [(8, .int (-1)), (7, .int x_83), (0, .ref (q 0)), (1, .int 1), (2, .long w), (4, .int (-1)), (5, .int 2), (6, .int 1)] [] [(q 0, .inr (10, mF t n q co cr po tx ty)), (q 10, aI G 320 (rg [z0, z1, z2, z3, y_70, y_84, z6, y_77, h_79, z9, z10, z11, w_82, y_73, v_80, y_75])), (q 11, aZ G 16 sf_85)]
        refine j_aload_n X dX11_cut_126 rfl 2 rfl ?_
        refine j_iconst (v := 4) X dX11_cut_127 rfl ?_
        refine j_iconst (v := 5) X dX11_cut_128 rfl ?_
        refine j_callV X dX11_cut_129 (h_copy l G q t n co cr po tx ty [z0, z1, z2, z3, y_70, y_84, z6, y_77, h_79, z9, z10, z11, w_82, y_73, v_80, y_75] sf_85 rfl hS_sf_85 4 4 rfl (by decide) 5 5 rfl (by decide) (by decide)) gX11_cut_X11_copy rfl hy_X11_copy_V ⟨Nat.le_of_ble_eq_true rfl, Nat.le_of_ble_eq_true rfl⟩ 0 rfl rfl [0, 1, 2] rfl (by decide) rfl rfl (Nat.le_of_ble_eq_true rfl) ⟨Nat.le_of_ble_eq_true rfl, Nat.le_of_ble_eq_true rfl⟩ ?_
        rintro _ sf_86 ⟨rfl, hS_sf_86⟩
        change J p l e rm_X11_cut s m args below meth c Q G A 9 0 0 132 [(8, .int (-1)), (7, .int x_83), (0, .ref (q 0)), (1, .int 1), (2, .long w), (4, .int (-1)), (5, .int 2), (6, .int 1)] [] [(q 0, .inr (10, mF t n q co cr po tx ty)), (q 10, aI G 320 (rg [z0, z1, z2, z3, y_84, y_84, z6, y_77, h_79, z9, z10, z11, w_82, y_73, v_80, y_75])), (q 11, aZ G 16 sf_86)]
        refine j_iload X dX11_cut_132 0 rfl ?_
        refine j_if_ge (tgt := 164) X dX11_cut_134 (by decide) (fun c9 => absurd c9 (by decide)) (fun _ => ?_)
        refine j_iload X dX11_cut_137 1 rfl ?_
        refine j_if_ne (tgt := 164) X dX11_cut_139 (by decide) (fun c_139 => ?_) (fun c_139 => ?_)
        · skip
          rw [ex_83] at c_139
          have hEx : h_79 * h_79 = 2 * w.toInt * (2 * w.toInt) * z2 := by by_cases q9 : h_79 * h_79 = 2 * w.toInt * (2 * w.toInt) * z2; exact q9; rw [if_neg q9] at c_139; exact absurd rfl c_139
          refine j_aload_n X dX11_cut_164 rfl 2 rfl ?_
          refine j_bipush (v := 13) X dX11_cut_165 (by decide) ?_
          refine j_iload X dX11_cut_167 6 rfl ?_
          refine j_i2l X dX11_cut_169 rfl ?_
          obtain ⟨y_87, ey_87⟩ : ∃ zz9 : Int, zz9 = ((2 : Int32).toInt64).toInt := ⟨_, rfl⟩
          have by_87 : bd 2 y_87 := by rw [ey_87]; exact bd_2
          refine j_callV X dX11_cut_170 (n_load l G q t n co cr po tx ty [z0, z1, z2, z3, y_84, y_84, z6, y_77, h_79, z9, z10, z11, w_82, y_73, v_80, y_75] sf_86 rfl hS_sf_86 13 13 rfl (by decide) ((2 : Int32).toInt64) y_87 ey_87) gX11_cut_X11_load rfl hy_X11_load_V ⟨Nat.le_of_ble_eq_true rfl, Nat.le_of_ble_eq_true rfl⟩ 0 rfl rfl [0, 1, 2] rfl (by decide) rfl rfl (Nat.le_of_ble_eq_true rfl) ⟨Nat.le_of_ble_eq_true rfl, Nat.le_of_ble_eq_true rfl⟩ ?_
          rintro _ sf_88 ⟨rfl, hS_sf_88⟩
          change J p l e rm_X11_cut s m args below meth c Q G A 9 0 0 173 [(8, .int (-1)), (7, .int x_83), (0, .ref (q 0)), (1, .int 1), (2, .long w), (4, .int (-1)), (5, .int 2), (6, .int 1)] [] [(q 0, .inr (10, mF t n q co cr po tx ty)), (q 10, aI G 320 (rg [z0, z1, z2, z3, y_84, y_84, z6, y_77, h_79, z9, z10, z11, w_82, y_87, v_80, y_75])), (q 11, aZ G 16 sf_88)]
          refine j_aload_n X dX11_cut_173 rfl 2 rfl ?_
          refine j_bipush (v := 9) X dX11_cut_174 (by decide) ?_
          refine j_bipush (v := 13) X dX11_cut_176 (by decide) ?_
          refine j_iconst (v := 3) X dX11_cut_178 rfl ?_
          obtain ⟨y_89, ey_89⟩ : ∃ zz9 : Int, zz9 = y_87 * z3 := ⟨_, rfl⟩
          have by_89 : bd 86 y_89 := by rw [ey_89]; exact bd_mul by_87 b3
          refine j_callV X dX11_cut_179 (n_mul l G q t n co cr po tx ty [z0, z1, z2, z3, y_84, y_84, z6, y_77, h_79, z9, z10, z11, w_82, y_87, v_80, y_75] sf_88 rfl hS_sf_88 9 9 rfl (by decide) 13 13 rfl (by decide) 3 3 rfl (by decide) (by decide) (by decide) y_89 ey_89) gX11_cut_X11_multiply rfl hy_X11_multiply_V ⟨Nat.le_of_ble_eq_true rfl, Nat.le_of_ble_eq_true rfl⟩ 0 rfl rfl [0, 1, 2] rfl (by decide) rfl rfl (Nat.le_of_ble_eq_true rfl) ⟨Nat.le_of_ble_eq_true rfl, Nat.le_of_ble_eq_true rfl⟩ ?_
          rintro _ sf_90 ⟨rfl, hS_sf_90⟩
          change J p l e rm_X11_cut s m args below meth c Q G A 9 0 0 182 [(8, .int (-1)), (7, .int x_83), (0, .ref (q 0)), (1, .int 1), (2, .long w), (4, .int (-1)), (5, .int 2), (6, .int 1)] [] [(q 0, .inr (10, mF t n q co cr po tx ty)), (q 10, aI G 320 (rg [z0, z1, z2, z3, y_84, y_84, z6, y_77, h_79, y_89, z10, z11, w_82, y_87, v_80, y_75])), (q 11, aZ G 16 sf_90)]
          have hM8 : y_89 = 2 * z3 := by rw [ey_89, ey_87, i64_2]
          have hM9 : (y_89.natAbs : Int) = 2 * z3 := by omega
          refine j_aload_n X dX11_cut_182 rfl 2 rfl ?_
          refine j_bipush (v := 6) X dX11_cut_183 (by decide) ?_
          refine j_iconst (v := 4) X dX11_cut_185 rfl ?_
          refine j_bipush (v := 9) X dX11_cut_186 (by decide) ?_
          obtain ⟨y_91, ey_91⟩ : ∃ zz9 : Int, zz9 = y_84 / (y_89.natAbs : Int) := ⟨_, rfl⟩
          obtain ⟨y_92, ey_92⟩ : ∃ zz9 : Int, zz9 = (y_84.natAbs : Int) % (y_89.natAbs : Int) := ⟨_, rfl⟩
          refine j_callV X dX11_cut_188 (n_divide_6_4_9 l G q t n co cr po tx ty z0 z1 z2 z3 y_84 y_84 z6 y_77 h_79 y_89 z10 z11 w_82 y_87 v_80 y_75 sf_90 hS_sf_90 (by omega) by_89 by_84 (by decide) (by decide) y_91 y_92 ey_91 ey_92) gX11_cut_X11_divide rfl hy_X11_divide_V ⟨Nat.le_of_ble_eq_true rfl, Nat.le_of_ble_eq_true rfl⟩ 0 rfl rfl [0, 1, 2] rfl (by decide) rfl rfl (Nat.le_of_ble_eq_true rfl) ⟨Nat.le_of_ble_eq_true rfl, Nat.le_of_ble_eq_true rfl⟩ ?_
          rintro _ ⟨v_93, v_94, sf_95⟩ ⟨rfl, hS_sf_95⟩
          change J p l e rm_X11_cut s m args below meth c Q G A 9 0 0 191 [(8, .int (-1)), (7, .int x_83), (0, .ref (q 0)), (1, .int 1), (2, .long w), (4, .int (-1)), (5, .int 2), (6, .int 1)] [] [(q 0, .inr (10, mF t n q co cr po tx ty)), (q 10, aI G 320 (rg [z0, z1, z2, z3, y_84, y_84, y_91, y_77, h_79, y_89, z10, z11, y_92, y_87, v_93, v_94])), (q 11, aZ G 16 sf_95)]
          exact E.1 191 _ (y_84, y_84, y_91, y_77, h_79, y_89, y_92, y_87, v_93, v_94, sf_95) dX11_cut_191 (⟨rfl, ⟨h_79, ⟨hh_790, hh_791, hh_792⟩, by dsimp only; rw [fl_n (show sg ((-1 : Int32).toInt * w.toInt) = -1 from by rw [iTm1, Int.neg_one_mul]; rw [sg_neg (by omega)]) hEx, ey_91, hM9] <;> (congr 1 <;> omega)⟩, hS_sf_95⟩) hr
        · skip
          rw [ex_83] at c_139
          have hEx : ¬ h_79 * h_79 = 2 * w.toInt * (2 * w.toInt) * z2 := by intro q9; rw [if_pos q9] at c_139; exact absurd c_139 (by decide)
          refine j_aload_n X dX11_cut_142 rfl 2 rfl ?_
          refine j_bipush (v := 15) X dX11_cut_143 (by decide) ?_
          refine j_lconst (v := 1) X dX11_cut_145 rfl ?_
          obtain ⟨y_96, ey_96⟩ : ∃ zz9 : Int, zz9 = 1 := ⟨_, rfl⟩
          have by_96 : bd 1 y_96 := by rw [ey_96]; exact (by decide : Int.natAbs 1 ≤ 2 ^ 1)
          refine j_callV X dX11_cut_146 (n_load l G q t n co cr po tx ty [z0, z1, z2, z3, y_84, y_84, z6, y_77, h_79, z9, z10, z11, w_82, y_73, v_80, y_75] sf_86 rfl hS_sf_86 15 15 rfl (by decide) 1 y_96 (by rw [ey_96]; rfl)) gX11_cut_X11_load rfl hy_X11_load_V ⟨Nat.le_of_ble_eq_true rfl, Nat.le_of_ble_eq_true rfl⟩ 0 rfl rfl [0, 1, 2] rfl (by decide) rfl rfl (Nat.le_of_ble_eq_true rfl) ⟨Nat.le_of_ble_eq_true rfl, Nat.le_of_ble_eq_true rfl⟩ ?_
          rintro _ sf_97 ⟨rfl, hS_sf_97⟩
          change J p l e rm_X11_cut s m args below meth c Q G A 9 0 0 149 [(8, .int (-1)), (7, .int x_83), (0, .ref (q 0)), (1, .int 1), (2, .long w), (4, .int (-1)), (5, .int 2), (6, .int 1)] [] [(q 0, .inr (10, mF t n q co cr po tx ty)), (q 10, aI G 320 (rg [z0, z1, z2, z3, y_84, y_84, z6, y_77, h_79, z9, z10, z11, w_82, y_73, v_80, y_96])), (q 11, aZ G 16 sf_97)]
          refine j_aload_n X dX11_cut_149 rfl 2 rfl ?_
          refine j_iconst (v := 5) X dX11_cut_150 rfl ?_
          refine j_iconst (v := 4) X dX11_cut_151 rfl ?_
          refine j_bipush (v := 15) X dX11_cut_152 (by decide) ?_
          refine j_iconst (v := 1) X dX11_cut_154 rfl ?_
          obtain ⟨y_98, ey_98⟩ : ∃ zz9 : Int, zz9 = y_84 - y_96 := ⟨_, rfl⟩
          have by_98 : bd 262 y_98 := by rw [ey_98]; exact bd_sub (bd_mono by_84 (by decide)) (bd_mono by_96 (by decide))
          refine j_callV X dX11_cut_155 (n_join l G q t n co cr po tx ty [z0, z1, z2, z3, y_84, y_84, z6, y_77, h_79, z9, z10, z11, w_82, y_73, v_80, y_96] sf_97 rfl hS_sf_97 5 5 rfl (by decide) 4 4 rfl (by decide) 15 15 rfl (by decide) 1 (Or.inr rfl) (by decide) (by decide) y_98 ey_98 by_84 by_96 (by decide) (by decide)) gX11_cut_X11_join rfl hy_X11_join_V ⟨Nat.le_of_ble_eq_true rfl, Nat.le_of_ble_eq_true rfl⟩ 0 rfl rfl [0, 1, 2] rfl (by decide) rfl rfl (Nat.le_of_ble_eq_true rfl) ⟨Nat.le_of_ble_eq_true rfl, Nat.le_of_ble_eq_true rfl⟩ ?_
          rintro _ sf_99 ⟨rfl, hS_sf_99⟩
          change J p l e rm_X11_cut s m args below meth c Q G A 9 0 0 158 [(8, .int (-1)), (7, .int x_83), (0, .ref (q 0)), (1, .int 1), (2, .long w), (4, .int (-1)), (5, .int 2), (6, .int 1)] [] [(q 0, .inr (10, mF t n q co cr po tx ty)), (q 10, aI G 320 (rg [z0, z1, z2, z3, y_84, y_98, z6, y_77, h_79, z9, z10, z11, w_82, y_73, v_80, y_96])), (q 11, aZ G 16 sf_99)]
          refine j_aload_n X dX11_cut_158 rfl 2 rfl ?_
          refine j_iconst (v := 4) X dX11_cut_159 rfl ?_
          refine j_iconst (v := 5) X dX11_cut_160 rfl ?_
          refine j_callV X dX11_cut_161 (h_copy l G q t n co cr po tx ty [z0, z1, z2, z3, y_84, y_98, z6, y_77, h_79, z9, z10, z11, w_82, y_73, v_80, y_96] sf_99 rfl hS_sf_99 4 4 rfl (by decide) 5 5 rfl (by decide) (by decide)) gX11_cut_X11_copy rfl hy_X11_copy_V ⟨Nat.le_of_ble_eq_true rfl, Nat.le_of_ble_eq_true rfl⟩ 0 rfl rfl [0, 1, 2] rfl (by decide) rfl rfl (Nat.le_of_ble_eq_true rfl) ⟨Nat.le_of_ble_eq_true rfl, Nat.le_of_ble_eq_true rfl⟩ ?_
          rintro _ sf_100 ⟨rfl, hS_sf_100⟩
          change J p l e rm_X11_cut s m args below meth c Q G A 9 0 0 164 [(8, .int (-1)), (7, .int x_83), (0, .ref (q 0)), (1, .int 1), (2, .long w), (4, .int (-1)), (5, .int 2), (6, .int 1)] [] [(q 0, .inr (10, mF t n q co cr po tx ty)), (q 10, aI G 320 (rg [z0, z1, z2, z3, y_98, y_98, z6, y_77, h_79, z9, z10, z11, w_82, y_73, v_80, y_96])), (q 11, aZ G 16 sf_100)]
          refine j_aload_n X dX11_cut_164 rfl 2 rfl ?_
          refine j_bipush (v := 13) X dX11_cut_165 (by decide) ?_
          refine j_iload X dX11_cut_167 6 rfl ?_
          refine j_i2l X dX11_cut_169 rfl ?_
          obtain ⟨y_101, ey_101⟩ : ∃ zz9 : Int, zz9 = ((2 : Int32).toInt64).toInt := ⟨_, rfl⟩
          have by_101 : bd 2 y_101 := by rw [ey_101]; exact bd_2
          refine j_callV X dX11_cut_170 (n_load l G q t n co cr po tx ty [z0, z1, z2, z3, y_98, y_98, z6, y_77, h_79, z9, z10, z11, w_82, y_73, v_80, y_96] sf_100 rfl hS_sf_100 13 13 rfl (by decide) ((2 : Int32).toInt64) y_101 ey_101) gX11_cut_X11_load rfl hy_X11_load_V ⟨Nat.le_of_ble_eq_true rfl, Nat.le_of_ble_eq_true rfl⟩ 0 rfl rfl [0, 1, 2] rfl (by decide) rfl rfl (Nat.le_of_ble_eq_true rfl) ⟨Nat.le_of_ble_eq_true rfl, Nat.le_of_ble_eq_true rfl⟩ ?_
          rintro _ sf_102 ⟨rfl, hS_sf_102⟩
          change J p l e rm_X11_cut s m args below meth c Q G A 9 0 0 173 [(8, .int (-1)), (7, .int x_83), (0, .ref (q 0)), (1, .int 1), (2, .long w), (4, .int (-1)), (5, .int 2), (6, .int 1)] [] [(q 0, .inr (10, mF t n q co cr po tx ty)), (q 10, aI G 320 (rg [z0, z1, z2, z3, y_98, y_98, z6, y_77, h_79, z9, z10, z11, w_82, y_101, v_80, y_96])), (q 11, aZ G 16 sf_102)]
          refine j_aload_n X dX11_cut_173 rfl 2 rfl ?_
          refine j_bipush (v := 9) X dX11_cut_174 (by decide) ?_
          refine j_bipush (v := 13) X dX11_cut_176 (by decide) ?_
          refine j_iconst (v := 3) X dX11_cut_178 rfl ?_
          obtain ⟨y_103, ey_103⟩ : ∃ zz9 : Int, zz9 = y_101 * z3 := ⟨_, rfl⟩
          have by_103 : bd 86 y_103 := by rw [ey_103]; exact bd_mul by_101 b3
          refine j_callV X dX11_cut_179 (n_mul l G q t n co cr po tx ty [z0, z1, z2, z3, y_98, y_98, z6, y_77, h_79, z9, z10, z11, w_82, y_101, v_80, y_96] sf_102 rfl hS_sf_102 9 9 rfl (by decide) 13 13 rfl (by decide) 3 3 rfl (by decide) (by decide) (by decide) y_103 ey_103) gX11_cut_X11_multiply rfl hy_X11_multiply_V ⟨Nat.le_of_ble_eq_true rfl, Nat.le_of_ble_eq_true rfl⟩ 0 rfl rfl [0, 1, 2] rfl (by decide) rfl rfl (Nat.le_of_ble_eq_true rfl) ⟨Nat.le_of_ble_eq_true rfl, Nat.le_of_ble_eq_true rfl⟩ ?_
          rintro _ sf_104 ⟨rfl, hS_sf_104⟩
          change J p l e rm_X11_cut s m args below meth c Q G A 9 0 0 182 [(8, .int (-1)), (7, .int x_83), (0, .ref (q 0)), (1, .int 1), (2, .long w), (4, .int (-1)), (5, .int 2), (6, .int 1)] [] [(q 0, .inr (10, mF t n q co cr po tx ty)), (q 10, aI G 320 (rg [z0, z1, z2, z3, y_98, y_98, z6, y_77, h_79, y_103, z10, z11, w_82, y_101, v_80, y_96])), (q 11, aZ G 16 sf_104)]
          have hM8 : y_103 = 2 * z3 := by rw [ey_103, ey_101, i64_2]
          have hM9 : (y_103.natAbs : Int) = 2 * z3 := by omega
          refine j_aload_n X dX11_cut_182 rfl 2 rfl ?_
          refine j_bipush (v := 6) X dX11_cut_183 (by decide) ?_
          refine j_iconst (v := 4) X dX11_cut_185 rfl ?_
          refine j_bipush (v := 9) X dX11_cut_186 (by decide) ?_
          obtain ⟨y_105, ey_105⟩ : ∃ zz9 : Int, zz9 = y_98 / (y_103.natAbs : Int) := ⟨_, rfl⟩
          obtain ⟨y_106, ey_106⟩ : ∃ zz9 : Int, zz9 = (y_98.natAbs : Int) % (y_103.natAbs : Int) := ⟨_, rfl⟩
          refine j_callV X dX11_cut_188 (n_divide_6_4_9 l G q t n co cr po tx ty z0 z1 z2 z3 y_98 y_98 z6 y_77 h_79 y_103 z10 z11 w_82 y_101 v_80 y_96 sf_104 hS_sf_104 (by omega) by_103 by_98 (by decide) (by decide) y_105 y_106 ey_105 ey_106) gX11_cut_X11_divide rfl hy_X11_divide_V ⟨Nat.le_of_ble_eq_true rfl, Nat.le_of_ble_eq_true rfl⟩ 0 rfl rfl [0, 1, 2] rfl (by decide) rfl rfl (Nat.le_of_ble_eq_true rfl) ⟨Nat.le_of_ble_eq_true rfl, Nat.le_of_ble_eq_true rfl⟩ ?_
          rintro _ ⟨v_107, v_108, sf_109⟩ ⟨rfl, hS_sf_109⟩
          change J p l e rm_X11_cut s m args below meth c Q G A 9 0 0 191 [(8, .int (-1)), (7, .int x_83), (0, .ref (q 0)), (1, .int 1), (2, .long w), (4, .int (-1)), (5, .int 2), (6, .int 1)] [] [(q 0, .inr (10, mF t n q co cr po tx ty)), (q 10, aI G 320 (rg [z0, z1, z2, z3, y_98, y_98, y_105, y_77, h_79, y_103, z10, z11, y_106, y_101, v_107, v_108])), (q 11, aZ G 16 sf_109)]
          exact E.1 191 _ (y_98, y_98, y_105, y_77, h_79, y_103, y_106, y_101, v_107, v_108, sf_109) dX11_cut_191 (⟨rfl, ⟨h_79, ⟨hh_790, hh_791, hh_792⟩, by dsimp only; rw [fl_m (show sg ((-1 : Int32).toInt * w.toInt) = -1 from by rw [iTm1, Int.neg_one_mul]; rw [sg_neg (by omega)]) hEx, ey_105, hM9] <;> (congr 1 <;> omega)⟩, hS_sf_109⟩) hr
      · skip
        first | simp only [bI_0, Decidable.not_not, sg_mul, sg_e0, sg_l0, sg_g0, sg_le0, sg_ge0, cmp_eq, cmp_lt, cmp_ge, cmp_gt, cmp_le, lT0, lT1] at c_89 | simp only [Int32.le_iff_toInt_le, Int32.lt_iff_toInt_lt, ← Int32.toInt_inj, iT0, iT1, iT2, iT3, iT4, iT5, iT6, iT7, iT8, iT9, iT10, iT11, iT12, iT13, iT14, iT15, iT16, iT19, iT20, iT31, iT32, iT42, iT64, iT200, iT318, iT319, iT1000, iTm1, iTm2] at c_89 | skip
        refine j_iconst (v := 0) X dX11_cut_92 rfl ?_
        refine j_iload X dX11_cut_93 4 rfl ?_
        refine j_isub X dX11_cut_95 ?_
        rw [show (0 : Int32) - (-1) = 1 from by decide]
        refine j_goto (tgt := 101) X dX11_cut_96 (by decide) ?_
        refine j_istore (L' := [(8, .int 1), (7, .int x_83), (0, .ref (q 0)), (1, .int 1), (2, .long w), (4, .int (-1)), (5, .int 2), (6, .int 1)]) X dX11_cut_101 (by decide) rfl ?_
        refine j_iload X dX11_cut_103 0 rfl ?_
        refine j_if_eq (tgt := 132) X dX11_cut_105 (by decide) (fun c9 => absurd c9 (by decide)) (fun _ => ?_)
        refine j_aload_n X dX11_cut_108 rfl 2 rfl ?_
        refine j_iconst (v := 5) X dX11_cut_109 rfl ?_
        refine j_iconst (v := 4) X dX11_cut_110 rfl ?_
        refine j_bipush (v := 8) X dX11_cut_111 (by decide) ?_
        refine j_iload X dX11_cut_113 0 rfl ?_
        refine j_if_ge (tgt := 122) X dX11_cut_115 (by decide) (fun _ => ?_) (fun c9 => absurd c9 (by decide))
        refine j_iconst (v := 0) X dX11_cut_122 rfl ?_
        obtain ⟨y_110, ey_110⟩ : ∃ zz9 : Int, zz9 = y_70 + h_79 := ⟨_, rfl⟩
        have by_110 : bd 261 y_110 := by rw [ey_110]; exact bd_add (bd_mono by_70 (by decide)) (bd_mono bh_79 (by decide))
        refine j_callV X dX11_cut_123 (n_join l G q t n co cr po tx ty [z0, z1, z2, z3, y_70, y_70, z6, y_77, h_79, z9, z10, z11, w_82, y_73, v_80, y_75] sf_81 rfl hS_sf_81 5 5 rfl (by decide) 4 4 rfl (by decide) 8 8 rfl (by decide) 0 (Or.inl rfl) (by decide) (by decide) y_110 ey_110 by_70 bh_79 (by decide) (by decide)) gX11_cut_X11_join rfl hy_X11_join_V ⟨Nat.le_of_ble_eq_true rfl, Nat.le_of_ble_eq_true rfl⟩ 0 rfl rfl [0, 1, 2] rfl (by decide) rfl rfl (Nat.le_of_ble_eq_true rfl) ⟨Nat.le_of_ble_eq_true rfl, Nat.le_of_ble_eq_true rfl⟩ ?_
        rintro _ sf_111 ⟨rfl, hS_sf_111⟩
        change J p l e rm_X11_cut s m args below meth c Q G A 9 0 0 126 [(8, .int 1), (7, .int x_83), (0, .ref (q 0)), (1, .int 1), (2, .long w), (4, .int (-1)), (5, .int 2), (6, .int 1)] [] [(q 0, .inr (10, mF t n q co cr po tx ty)), (q 10, aI G 320 (rg [z0, z1, z2, z3, y_70, y_110, z6, y_77, h_79, z9, z10, z11, w_82, y_73, v_80, y_75])), (q 11, aZ G 16 sf_111)]
        refine j_aload_n X dX11_cut_126 rfl 2 rfl ?_
        refine j_iconst (v := 4) X dX11_cut_127 rfl ?_
        refine j_iconst (v := 5) X dX11_cut_128 rfl ?_
        refine j_callV X dX11_cut_129 (h_copy l G q t n co cr po tx ty [z0, z1, z2, z3, y_70, y_110, z6, y_77, h_79, z9, z10, z11, w_82, y_73, v_80, y_75] sf_111 rfl hS_sf_111 4 4 rfl (by decide) 5 5 rfl (by decide) (by decide)) gX11_cut_X11_copy rfl hy_X11_copy_V ⟨Nat.le_of_ble_eq_true rfl, Nat.le_of_ble_eq_true rfl⟩ 0 rfl rfl [0, 1, 2] rfl (by decide) rfl rfl (Nat.le_of_ble_eq_true rfl) ⟨Nat.le_of_ble_eq_true rfl, Nat.le_of_ble_eq_true rfl⟩ ?_
        rintro _ sf_112 ⟨rfl, hS_sf_112⟩
        change J p l e rm_X11_cut s m args below meth c Q G A 9 0 0 132 [(8, .int 1), (7, .int x_83), (0, .ref (q 0)), (1, .int 1), (2, .long w), (4, .int (-1)), (5, .int 2), (6, .int 1)] [] [(q 0, .inr (10, mF t n q co cr po tx ty)), (q 10, aI G 320 (rg [z0, z1, z2, z3, y_110, y_110, z6, y_77, h_79, z9, z10, z11, w_82, y_73, v_80, y_75])), (q 11, aZ G 16 sf_112)]
        refine j_iload X dX11_cut_132 0 rfl ?_
        refine j_if_ge (tgt := 164) X dX11_cut_134 (by decide) (fun _ => ?_) (fun c9 => absurd c9 (by decide))
        refine j_aload_n X dX11_cut_164 rfl 2 rfl ?_
        refine j_bipush (v := 13) X dX11_cut_165 (by decide) ?_
        refine j_iload X dX11_cut_167 6 rfl ?_
        refine j_i2l X dX11_cut_169 rfl ?_
        obtain ⟨y_113, ey_113⟩ : ∃ zz9 : Int, zz9 = ((2 : Int32).toInt64).toInt := ⟨_, rfl⟩
        have by_113 : bd 2 y_113 := by rw [ey_113]; exact bd_2
        refine j_callV X dX11_cut_170 (n_load l G q t n co cr po tx ty [z0, z1, z2, z3, y_110, y_110, z6, y_77, h_79, z9, z10, z11, w_82, y_73, v_80, y_75] sf_112 rfl hS_sf_112 13 13 rfl (by decide) ((2 : Int32).toInt64) y_113 ey_113) gX11_cut_X11_load rfl hy_X11_load_V ⟨Nat.le_of_ble_eq_true rfl, Nat.le_of_ble_eq_true rfl⟩ 0 rfl rfl [0, 1, 2] rfl (by decide) rfl rfl (Nat.le_of_ble_eq_true rfl) ⟨Nat.le_of_ble_eq_true rfl, Nat.le_of_ble_eq_true rfl⟩ ?_
        rintro _ sf_114 ⟨rfl, hS_sf_114⟩
        change J p l e rm_X11_cut s m args below meth c Q G A 9 0 0 173 [(8, .int 1), (7, .int x_83), (0, .ref (q 0)), (1, .int 1), (2, .long w), (4, .int (-1)), (5, .int 2), (6, .int 1)] [] [(q 0, .inr (10, mF t n q co cr po tx ty)), (q 10, aI G 320 (rg [z0, z1, z2, z3, y_110, y_110, z6, y_77, h_79, z9, z10, z11, w_82, y_113, v_80, y_75])), (q 11, aZ G 16 sf_114)]
        refine j_aload_n X dX11_cut_173 rfl 2 rfl ?_
        refine j_bipush (v := 9) X dX11_cut_174 (by decide) ?_
        refine j_bipush (v := 13) X dX11_cut_176 (by decide) ?_
        refine j_iconst (v := 3) X dX11_cut_178 rfl ?_
        obtain ⟨y_115, ey_115⟩ : ∃ zz9 : Int, zz9 = y_113 * z3 := ⟨_, rfl⟩
        have by_115 : bd 86 y_115 := by rw [ey_115]; exact bd_mul by_113 b3
        refine j_callV X dX11_cut_179 (n_mul l G q t n co cr po tx ty [z0, z1, z2, z3, y_110, y_110, z6, y_77, h_79, z9, z10, z11, w_82, y_113, v_80, y_75] sf_114 rfl hS_sf_114 9 9 rfl (by decide) 13 13 rfl (by decide) 3 3 rfl (by decide) (by decide) (by decide) y_115 ey_115) gX11_cut_X11_multiply rfl hy_X11_multiply_V ⟨Nat.le_of_ble_eq_true rfl, Nat.le_of_ble_eq_true rfl⟩ 0 rfl rfl [0, 1, 2] rfl (by decide) rfl rfl (Nat.le_of_ble_eq_true rfl) ⟨Nat.le_of_ble_eq_true rfl, Nat.le_of_ble_eq_true rfl⟩ ?_
        rintro _ sf_116 ⟨rfl, hS_sf_116⟩
        change J p l e rm_X11_cut s m args below meth c Q G A 9 0 0 182 [(8, .int 1), (7, .int x_83), (0, .ref (q 0)), (1, .int 1), (2, .long w), (4, .int (-1)), (5, .int 2), (6, .int 1)] [] [(q 0, .inr (10, mF t n q co cr po tx ty)), (q 10, aI G 320 (rg [z0, z1, z2, z3, y_110, y_110, z6, y_77, h_79, y_115, z10, z11, w_82, y_113, v_80, y_75])), (q 11, aZ G 16 sf_116)]
        have hM8 : y_115 = 2 * z3 := by rw [ey_115, ey_113, i64_2]
        have hM9 : (y_115.natAbs : Int) = 2 * z3 := by omega
        refine j_aload_n X dX11_cut_182 rfl 2 rfl ?_
        refine j_bipush (v := 6) X dX11_cut_183 (by decide) ?_
        refine j_iconst (v := 4) X dX11_cut_185 rfl ?_
        refine j_bipush (v := 9) X dX11_cut_186 (by decide) ?_
        obtain ⟨y_117, ey_117⟩ : ∃ zz9 : Int, zz9 = y_110 / (y_115.natAbs : Int) := ⟨_, rfl⟩
        obtain ⟨y_118, ey_118⟩ : ∃ zz9 : Int, zz9 = (y_110.natAbs : Int) % (y_115.natAbs : Int) := ⟨_, rfl⟩
        refine j_callV X dX11_cut_188 (n_divide_6_4_9 l G q t n co cr po tx ty z0 z1 z2 z3 y_110 y_110 z6 y_77 h_79 y_115 z10 z11 w_82 y_113 v_80 y_75 sf_116 hS_sf_116 (by omega) by_115 by_110 (by decide) (by decide) y_117 y_118 ey_117 ey_118) gX11_cut_X11_divide rfl hy_X11_divide_V ⟨Nat.le_of_ble_eq_true rfl, Nat.le_of_ble_eq_true rfl⟩ 0 rfl rfl [0, 1, 2] rfl (by decide) rfl rfl (Nat.le_of_ble_eq_true rfl) ⟨Nat.le_of_ble_eq_true rfl, Nat.le_of_ble_eq_true rfl⟩ ?_
        rintro _ ⟨v_119, v_120, sf_121⟩ ⟨rfl, hS_sf_121⟩
        change J p l e rm_X11_cut s m args below meth c Q G A 9 0 0 191 [(8, .int 1), (7, .int x_83), (0, .ref (q 0)), (1, .int 1), (2, .long w), (4, .int (-1)), (5, .int 2), (6, .int 1)] [] [(q 0, .inr (10, mF t n q co cr po tx ty)), (q 10, aI G 320 (rg [z0, z1, z2, z3, y_110, y_110, y_117, y_77, h_79, y_115, z10, z11, y_118, y_113, v_119, v_120])), (q 11, aZ G 16 sf_121)]
        exact E.1 191 _ (y_110, y_110, y_117, y_77, h_79, y_115, y_118, y_113, v_119, v_120, sf_121) dX11_cut_191 (⟨rfl, ⟨h_79, ⟨hh_790, hh_791, hh_792⟩, by dsimp only; rw [fl_p (show sg ((-1 : Int32).toInt * w.toInt) = 1 from by rw [iTm1, Int.neg_one_mul]; rw [sg_pos (by omega)]), ey_117, hM9] <;> (congr 1 <;> omega)⟩, hS_sf_121⟩) hr
    · skip
      first | simp only [bI_0, Decidable.not_not, sg_mul, sg_e0, sg_l0, sg_g0, sg_le0, sg_ge0, cmp_eq, cmp_lt, cmp_ge, cmp_gt, cmp_le, lT0, lT1] at c_79 | simp only [Int32.le_iff_toInt_le, Int32.lt_iff_toInt_lt, ← Int32.toInt_inj, iT0, iT1, iT2, iT3, iT4, iT5, iT6, iT7, iT8, iT9, iT10, iT11, iT12, iT13, iT14, iT15, iT16, iT19, iT20, iT31, iT32, iT42, iT64, iT200, iT318, iT319, iT1000, iTm1, iTm2] at c_79 | skip
      refine j_iconst (v := 0) X dX11_cut_82 rfl ?_
      refine j_goto (tgt := 101) X dX11_cut_83 (by decide) ?_
      refine j_istore (L' := [(8, .int 0), (7, .int x_83), (0, .ref (q 0)), (1, .int 1), (2, .long w), (4, .int (-1)), (5, .int 2), (6, .int 1)]) X dX11_cut_101 (by decide) rfl ?_
      refine j_iload X dX11_cut_103 0 rfl ?_
      refine j_if_eq (tgt := 132) X dX11_cut_105 (by decide) (fun _ => ?_) (fun c9 => absurd c9 (by decide))
      refine j_iload X dX11_cut_132 0 rfl ?_
      refine j_if_ge (tgt := 164) X dX11_cut_134 (by decide) (fun _ => ?_) (fun c9 => absurd c9 (by decide))
      refine j_aload_n X dX11_cut_164 rfl 2 rfl ?_
      refine j_bipush (v := 13) X dX11_cut_165 (by decide) ?_
      refine j_iload X dX11_cut_167 6 rfl ?_
      refine j_i2l X dX11_cut_169 rfl ?_
      obtain ⟨y_122, ey_122⟩ : ∃ zz9 : Int, zz9 = ((2 : Int32).toInt64).toInt := ⟨_, rfl⟩
      have by_122 : bd 2 y_122 := by rw [ey_122]; exact bd_2
      refine j_callV X dX11_cut_170 (n_load l G q t n co cr po tx ty [z0, z1, z2, z3, y_70, y_70, z6, y_77, h_79, z9, z10, z11, w_82, y_73, v_80, y_75] sf_81 rfl hS_sf_81 13 13 rfl (by decide) ((2 : Int32).toInt64) y_122 ey_122) gX11_cut_X11_load rfl hy_X11_load_V ⟨Nat.le_of_ble_eq_true rfl, Nat.le_of_ble_eq_true rfl⟩ 0 rfl rfl [0, 1, 2] rfl (by decide) rfl rfl (Nat.le_of_ble_eq_true rfl) ⟨Nat.le_of_ble_eq_true rfl, Nat.le_of_ble_eq_true rfl⟩ ?_
      rintro _ sf_123 ⟨rfl, hS_sf_123⟩
      change J p l e rm_X11_cut s m args below meth c Q G A 9 0 0 173 [(8, .int 0), (7, .int x_83), (0, .ref (q 0)), (1, .int 1), (2, .long w), (4, .int (-1)), (5, .int 2), (6, .int 1)] [] [(q 0, .inr (10, mF t n q co cr po tx ty)), (q 10, aI G 320 (rg [z0, z1, z2, z3, y_70, y_70, z6, y_77, h_79, z9, z10, z11, w_82, y_122, v_80, y_75])), (q 11, aZ G 16 sf_123)]
      refine j_aload_n X dX11_cut_173 rfl 2 rfl ?_
      refine j_bipush (v := 9) X dX11_cut_174 (by decide) ?_
      refine j_bipush (v := 13) X dX11_cut_176 (by decide) ?_
      refine j_iconst (v := 3) X dX11_cut_178 rfl ?_
      obtain ⟨y_124, ey_124⟩ : ∃ zz9 : Int, zz9 = y_122 * z3 := ⟨_, rfl⟩
      have by_124 : bd 86 y_124 := by rw [ey_124]; exact bd_mul by_122 b3
      refine j_callV X dX11_cut_179 (n_mul l G q t n co cr po tx ty [z0, z1, z2, z3, y_70, y_70, z6, y_77, h_79, z9, z10, z11, w_82, y_122, v_80, y_75] sf_123 rfl hS_sf_123 9 9 rfl (by decide) 13 13 rfl (by decide) 3 3 rfl (by decide) (by decide) (by decide) y_124 ey_124) gX11_cut_X11_multiply rfl hy_X11_multiply_V ⟨Nat.le_of_ble_eq_true rfl, Nat.le_of_ble_eq_true rfl⟩ 0 rfl rfl [0, 1, 2] rfl (by decide) rfl rfl (Nat.le_of_ble_eq_true rfl) ⟨Nat.le_of_ble_eq_true rfl, Nat.le_of_ble_eq_true rfl⟩ ?_
      rintro _ sf_125 ⟨rfl, hS_sf_125⟩
      change J p l e rm_X11_cut s m args below meth c Q G A 9 0 0 182 [(8, .int 0), (7, .int x_83), (0, .ref (q 0)), (1, .int 1), (2, .long w), (4, .int (-1)), (5, .int 2), (6, .int 1)] [] [(q 0, .inr (10, mF t n q co cr po tx ty)), (q 10, aI G 320 (rg [z0, z1, z2, z3, y_70, y_70, z6, y_77, h_79, y_124, z10, z11, w_82, y_122, v_80, y_75])), (q 11, aZ G 16 sf_125)]
      have hM8 : y_124 = 2 * z3 := by rw [ey_124, ey_122, i64_2]
      have hM9 : (y_124.natAbs : Int) = 2 * z3 := by omega
      refine j_aload_n X dX11_cut_182 rfl 2 rfl ?_
      refine j_bipush (v := 6) X dX11_cut_183 (by decide) ?_
      refine j_iconst (v := 4) X dX11_cut_185 rfl ?_
      refine j_bipush (v := 9) X dX11_cut_186 (by decide) ?_
      obtain ⟨y_126, ey_126⟩ : ∃ zz9 : Int, zz9 = y_70 / (y_124.natAbs : Int) := ⟨_, rfl⟩
      obtain ⟨y_127, ey_127⟩ : ∃ zz9 : Int, zz9 = (y_70.natAbs : Int) % (y_124.natAbs : Int) := ⟨_, rfl⟩
      refine j_callV X dX11_cut_188 (n_divide_6_4_9 l G q t n co cr po tx ty z0 z1 z2 z3 y_70 y_70 z6 y_77 h_79 y_124 z10 z11 w_82 y_122 v_80 y_75 sf_125 hS_sf_125 (by omega) by_124 by_70 (by decide) (by decide) y_126 y_127 ey_126 ey_127) gX11_cut_X11_divide rfl hy_X11_divide_V ⟨Nat.le_of_ble_eq_true rfl, Nat.le_of_ble_eq_true rfl⟩ 0 rfl rfl [0, 1, 2] rfl (by decide) rfl rfl (Nat.le_of_ble_eq_true rfl) ⟨Nat.le_of_ble_eq_true rfl, Nat.le_of_ble_eq_true rfl⟩ ?_
      rintro _ ⟨v_128, v_129, sf_130⟩ ⟨rfl, hS_sf_130⟩
      change J p l e rm_X11_cut s m args below meth c Q G A 9 0 0 191 [(8, .int 0), (7, .int x_83), (0, .ref (q 0)), (1, .int 1), (2, .long w), (4, .int (-1)), (5, .int 2), (6, .int 1)] [] [(q 0, .inr (10, mF t n q co cr po tx ty)), (q 10, aI G 320 (rg [z0, z1, z2, z3, y_70, y_70, y_126, y_77, h_79, y_124, z10, z11, y_127, y_122, v_128, v_129])), (q 11, aZ G 16 sf_130)]
      exact E.1 191 _ (y_70, y_70, y_126, y_77, h_79, y_124, y_127, y_122, v_128, v_129, sf_130) dX11_cut_191 (⟨rfl, ⟨h_79, ⟨hh_790, hh_791, hh_792⟩, by dsimp only; rw [fl_z (show sg ((-1 : Int32).toInt * w.toInt) = 0 from by rw [iTm1, Int.neg_one_mul]; rw [sg_zero (by omega)]), ey_126, hM9] <;> (congr 1 <;> omega)⟩, hS_sf_130⟩) hr
  · skip
    refine j_aload_n X dX11_cut_0 rfl 0 rfl ?_
    refine j_bipush (v := 13) X dX11_cut_1 (by decide) ?_
    refine j_iload X dX11_cut_3 4 rfl ?_
    refine j_i2l X dX11_cut_5 rfl ?_
    obtain ⟨y_131, ey_131⟩ : ∃ zz9 : Int, zz9 = ((2 : Int32).toInt64).toInt := ⟨_, rfl⟩
    have by_131 : bd 2 y_131 := by rw [ey_131]; exact bd_2
    refine j_callV X dX11_cut_6 (n_load l G q t n co cr po tx ty [z0, z1, z2, z3, z4, z5, z6, z7, z8, z9, z10, z11, z12, z13, z14, z15] sf rfl hS 13 13 rfl (by decide) ((2 : Int32).toInt64) y_131 ey_131) gX11_cut_X11_load rfl hy_X11_load_V ⟨Nat.le_of_ble_eq_true rfl, Nat.le_of_ble_eq_true rfl⟩ 0 rfl rfl [0, 1, 2] rfl (by decide) rfl rfl (Nat.le_of_ble_eq_true rfl) ⟨Nat.le_of_ble_eq_true rfl, Nat.le_of_ble_eq_true rfl⟩ ?_
    rintro _ sf_132 ⟨rfl, hS_sf_132⟩
    change J p l e rm_X11_cut s m args below meth c Q G A 9 0 0 9 [(0, .ref (q 0)), (1, .int 1), (2, .long w), (4, .int 0), (5, .int 2), (6, .int 1)] [] [(q 0, .inr (10, mF t n q co cr po tx ty)), (q 10, aI G 320 (rg [z0, z1, z2, z3, z4, z5, z6, z7, z8, z9, z10, z11, z12, y_131, z14, z15])), (q 11, aZ G 16 sf_132)]
    refine j_aload_n X dX11_cut_9 rfl 0 rfl ?_
    refine j_iconst (v := 4) X dX11_cut_10 rfl ?_
    refine j_bipush (v := 13) X dX11_cut_11 (by decide) ?_
    refine j_iload_n X dX11_cut_13 rfl 1 rfl ?_
    obtain ⟨y_133, ey_133⟩ : ∃ zz9 : Int, zz9 = y_131 * z1 := ⟨_, rfl⟩
    have by_133 : bd 129 y_133 := by rw [ey_133]; exact bd_mul by_131 bu
    refine j_callV X dX11_cut_14 (n_mul l G q t n co cr po tx ty [z0, z1, z2, z3, z4, z5, z6, z7, z8, z9, z10, z11, z12, y_131, z14, z15] sf_132 rfl hS_sf_132 4 4 rfl (by decide) 13 13 rfl (by decide) 1 1 rfl (by decide) (by decide) (by decide) y_133 ey_133) gX11_cut_X11_multiply rfl hy_X11_multiply_V ⟨Nat.le_of_ble_eq_true rfl, Nat.le_of_ble_eq_true rfl⟩ 0 rfl rfl [0, 1, 2] rfl (by decide) rfl rfl (Nat.le_of_ble_eq_true rfl) ⟨Nat.le_of_ble_eq_true rfl, Nat.le_of_ble_eq_true rfl⟩ ?_
    rintro _ sf_134 ⟨rfl, hS_sf_134⟩
    change J p l e rm_X11_cut s m args below meth c Q G A 9 0 0 17 [(0, .ref (q 0)), (1, .int 1), (2, .long w), (4, .int 0), (5, .int 2), (6, .int 1)] [] [(q 0, .inr (10, mF t n q co cr po tx ty)), (q 10, aI G 320 (rg [z0, z1, z2, z3, y_133, z5, z6, z7, z8, z9, z10, z11, z12, y_131, z14, z15])), (q 11, aZ G 16 sf_134)]
    have hA1 : y_133 = 2 * z1 := by rw [ey_133, ey_131, i64_2]
    refine j_iload X dX11_cut_17 5 rfl ?_
    refine j_if_eq (tgt := 36) X dX11_cut_19 (by decide) (fun c9 => absurd c9 (by decide)) (fun _ => ?_)
    refine j_aload_n X dX11_cut_22 rfl 0 rfl ?_
    refine j_iconst (v := 5) X dX11_cut_23 rfl ?_
    refine j_iconst (v := 4) X dX11_cut_24 rfl ?_
    refine j_iconst (v := 3) X dX11_cut_25 rfl ?_
    refine j_iconst (v := 0) X dX11_cut_26 rfl ?_
    obtain ⟨y_135, ey_135⟩ : ∃ zz9 : Int, zz9 = y_133 + z3 := ⟨_, rfl⟩
    have by_135 : bd 130 y_135 := by rw [ey_135]; exact bd_add (bd_mono by_133 (by decide)) (bd_mono b3 (by decide))
    refine j_callV X dX11_cut_27 (n_join l G q t n co cr po tx ty [z0, z1, z2, z3, y_133, z5, z6, z7, z8, z9, z10, z11, z12, y_131, z14, z15] sf_134 rfl hS_sf_134 5 5 rfl (by decide) 4 4 rfl (by decide) 3 3 rfl (by decide) 0 (Or.inl rfl) (by decide) (by decide) y_135 ey_135 by_133 b3 (by decide) (by decide)) gX11_cut_X11_join rfl hy_X11_join_V ⟨Nat.le_of_ble_eq_true rfl, Nat.le_of_ble_eq_true rfl⟩ 0 rfl rfl [0, 1, 2] rfl (by decide) rfl rfl (Nat.le_of_ble_eq_true rfl) ⟨Nat.le_of_ble_eq_true rfl, Nat.le_of_ble_eq_true rfl⟩ ?_
    rintro _ sf_136 ⟨rfl, hS_sf_136⟩
    change J p l e rm_X11_cut s m args below meth c Q G A 9 0 0 30 [(0, .ref (q 0)), (1, .int 1), (2, .long w), (4, .int 0), (5, .int 2), (6, .int 1)] [] [(q 0, .inr (10, mF t n q co cr po tx ty)), (q 10, aI G 320 (rg [z0, z1, z2, z3, y_133, y_135, z6, z7, z8, z9, z10, z11, z12, y_131, z14, z15])), (q 11, aZ G 16 sf_136)]
    refine j_aload_n X dX11_cut_30 rfl 0 rfl ?_
    refine j_iconst (v := 4) X dX11_cut_31 rfl ?_
    refine j_iconst (v := 5) X dX11_cut_32 rfl ?_
    refine j_callV X dX11_cut_33 (h_copy l G q t n co cr po tx ty [z0, z1, z2, z3, y_133, y_135, z6, z7, z8, z9, z10, z11, z12, y_131, z14, z15] sf_136 rfl hS_sf_136 4 4 rfl (by decide) 5 5 rfl (by decide) (by decide)) gX11_cut_X11_copy rfl hy_X11_copy_V ⟨Nat.le_of_ble_eq_true rfl, Nat.le_of_ble_eq_true rfl⟩ 0 rfl rfl [0, 1, 2] rfl (by decide) rfl rfl (Nat.le_of_ble_eq_true rfl) ⟨Nat.le_of_ble_eq_true rfl, Nat.le_of_ble_eq_true rfl⟩ ?_
    rintro _ sf_137 ⟨rfl, hS_sf_137⟩
    change J p l e rm_X11_cut s m args below meth c Q G A 9 0 0 36 [(0, .ref (q 0)), (1, .int 1), (2, .long w), (4, .int 0), (5, .int 2), (6, .int 1)] [] [(q 0, .inr (10, mF t n q co cr po tx ty)), (q 10, aI G 320 (rg [z0, z1, z2, z3, y_135, y_135, z6, z7, z8, z9, z10, z11, z12, y_131, z14, z15])), (q 11, aZ G 16 sf_137)]
    refine j_aload_n X dX11_cut_36 rfl 0 rfl ?_
    refine j_bipush (v := 13) X dX11_cut_37 (by decide) ?_
    refine j_iload X dX11_cut_39 4 rfl ?_
    refine j_i2l X dX11_cut_41 rfl ?_
    refine j_lload_n X dX11_cut_42 rfl 2 rfl ?_
    refine j_lmul X dX11_cut_43 ?_
    obtain ⟨y_138, ey_138⟩ : ∃ zz9 : Int, zz9 = (((2 : Int32).toInt64) * w).toInt := ⟨_, rfl⟩
    have by_138 : bd 43 y_138 := by rw [ey_138]; exact bq9
    refine j_callV X dX11_cut_44 (n_load l G q t n co cr po tx ty [z0, z1, z2, z3, y_135, y_135, z6, z7, z8, z9, z10, z11, z12, y_131, z14, z15] sf_137 rfl hS_sf_137 13 13 rfl (by decide) (((2 : Int32).toInt64) * w) y_138 ey_138) gX11_cut_X11_load rfl hy_X11_load_V ⟨Nat.le_of_ble_eq_true rfl, Nat.le_of_ble_eq_true rfl⟩ 0 rfl rfl [0, 1, 2] rfl (by decide) rfl rfl (Nat.le_of_ble_eq_true rfl) ⟨Nat.le_of_ble_eq_true rfl, Nat.le_of_ble_eq_true rfl⟩ ?_
    rintro _ sf_139 ⟨rfl, hS_sf_139⟩
    change J p l e rm_X11_cut s m args below meth c Q G A 9 0 0 47 [(0, .ref (q 0)), (1, .int 1), (2, .long w), (4, .int 0), (5, .int 2), (6, .int 1)] [] [(q 0, .inr (10, mF t n q co cr po tx ty)), (q 10, aI G 320 (rg [z0, z1, z2, z3, y_135, y_135, z6, z7, z8, z9, z10, z11, z12, y_138, z14, z15])), (q 11, aZ G 16 sf_139)]
    refine j_aload_n X dX11_cut_47 rfl 0 rfl ?_
    refine j_bipush (v := 15) X dX11_cut_48 (by decide) ?_
    refine j_bipush (v := 13) X dX11_cut_50 (by decide) ?_
    refine j_bipush (v := 13) X dX11_cut_52 (by decide) ?_
    obtain ⟨y_140, ey_140⟩ : ∃ zz9 : Int, zz9 = y_138 * y_138 := ⟨_, rfl⟩
    have by_140 : bd 86 y_140 := by rw [ey_140]; exact bd_mul by_138 by_138
    refine j_callV X dX11_cut_54 (n_mul l G q t n co cr po tx ty [z0, z1, z2, z3, y_135, y_135, z6, z7, z8, z9, z10, z11, z12, y_138, z14, z15] sf_139 rfl hS_sf_139 15 15 rfl (by decide) 13 13 rfl (by decide) 13 13 rfl (by decide) (by decide) (by decide) y_140 ey_140) gX11_cut_X11_multiply rfl hy_X11_multiply_V ⟨Nat.le_of_ble_eq_true rfl, Nat.le_of_ble_eq_true rfl⟩ 0 rfl rfl [0, 1, 2] rfl (by decide) rfl rfl (Nat.le_of_ble_eq_true rfl) ⟨Nat.le_of_ble_eq_true rfl, Nat.le_of_ble_eq_true rfl⟩ ?_
    rintro _ sf_141 ⟨rfl, hS_sf_141⟩
    change J p l e rm_X11_cut s m args below meth c Q G A 9 0 0 57 [(0, .ref (q 0)), (1, .int 1), (2, .long w), (4, .int 0), (5, .int 2), (6, .int 1)] [] [(q 0, .inr (10, mF t n q co cr po tx ty)), (q 10, aI G 320 (rg [z0, z1, z2, z3, y_135, y_135, z6, z7, z8, z9, z10, z11, z12, y_138, z14, y_140])), (q 11, aZ G 16 sf_141)]
    refine j_aload_n X dX11_cut_57 rfl 0 rfl ?_
    refine j_bipush (v := 7) X dX11_cut_58 (by decide) ?_
    refine j_bipush (v := 15) X dX11_cut_60 (by decide) ?_
    refine j_iconst (v := 2) X dX11_cut_62 rfl ?_
    obtain ⟨y_142, ey_142⟩ : ∃ zz9 : Int, zz9 = y_140 * z2 := ⟨_, rfl⟩
    have by_142 : bd 258 y_142 := by rw [ey_142]; exact bd_mul by_140 b2
    refine j_callV X dX11_cut_63 (n_mul l G q t n co cr po tx ty [z0, z1, z2, z3, y_135, y_135, z6, z7, z8, z9, z10, z11, z12, y_138, z14, y_140] sf_141 rfl hS_sf_141 7 7 rfl (by decide) 15 15 rfl (by decide) 2 2 rfl (by decide) (by decide) (by decide) y_142 ey_142) gX11_cut_X11_multiply rfl hy_X11_multiply_V ⟨Nat.le_of_ble_eq_true rfl, Nat.le_of_ble_eq_true rfl⟩ 0 rfl rfl [0, 1, 2] rfl (by decide) rfl rfl (Nat.le_of_ble_eq_true rfl) ⟨Nat.le_of_ble_eq_true rfl, Nat.le_of_ble_eq_true rfl⟩ ?_
    rintro _ sf_143 ⟨rfl, hS_sf_143⟩
    change J p l e rm_X11_cut s m args below meth c Q G A 9 0 0 66 [(0, .ref (q 0)), (1, .int 1), (2, .long w), (4, .int 0), (5, .int 2), (6, .int 1)] [] [(q 0, .inr (10, mF t n q co cr po tx ty)), (q 10, aI G 320 (rg [z0, z1, z2, z3, y_135, y_135, z6, y_142, z8, z9, z10, z11, z12, y_138, z14, y_140])), (q 11, aZ G 16 sf_143)]
    refine j_aload_n X dX11_cut_66 rfl 0 rfl ?_
    refine j_bipush (v := 8) X dX11_cut_67 (by decide) ?_
    refine j_bipush (v := 7) X dX11_cut_69 (by decide) ?_
    refine j_callV X dX11_cut_71 (c_X11_rootOf_8_7 l G q t n co cr po tx ty z0 z1 z2 z3 y_135 y_135 z6 y_142 z8 z9 z10 z11 z12 y_138 z14 y_140 sf_143 hS_sf_143 (bd_lt319 by_142 (by decide))) gX11_cut_X11_rootOf rfl hy_X11_rootOf_V ⟨Nat.le_of_ble_eq_true rfl, Nat.le_of_ble_eq_true rfl⟩ 0 rfl rfl [0, 1, 2] rfl (by decide) rfl rfl (Nat.le_of_ble_eq_true rfl) ⟨Nat.le_of_ble_eq_true rfl, Nat.le_of_ble_eq_true rfl⟩ ?_
    rintro _ ⟨h_144, v_145, sf_146⟩ ⟨rfl, hh_1440, hh_1441, hh_1442, hS_sf_146⟩
    dsimp only at hh_1440 hh_1441 hh_1442 hS_sf_146
    change J p l e rm_X11_cut s m args below meth c Q G A 9 0 0 74 [(0, .ref (q 0)), (1, .int 1), (2, .long w), (4, .int 0), (5, .int 2), (6, .int 1)] [.int (if h_144 * h_144 = (y_142.natAbs : Int) then 1 else 0)] [(q 0, .inr (10, mF t n q co cr po tx ty)), (q 10, aI G 320 (rg [z0, z1, z2, z3, y_135, y_135, z6, y_142, h_144, z9, z10, z11, ((y_142.natAbs : Int) - h_144 * h_144), y_138, v_145, y_140])), (q 11, aZ G 16 sf_146)]
    obtain ⟨w_147, ew_147⟩ : ∃ zz9 : Int, zz9 = (y_142.natAbs : Int) - h_144 * h_144 := ⟨_, rfl⟩
    rw [← ew_147] at hS_sf_146 ⊢
    have hN9 : (y_142.natAbs : Int) = 2 * w.toInt * (2 * w.toInt) * z2 := by rw [ey_142, ey_140, ey_138, hq9]; exact Int.natAbs_of_nonneg (Int.mul_nonneg (sq_nn _) hR)
    rw [hN9] at hh_1441 hh_1442 ⊢
    have bh_144 : bd 260 h_144 := bd_of_le hh_1440 (Int.le_trans (sq_ge hh_1440) hh_1441) (by rw [← hN9]; exact bd_abs (bd_mono by_142 (by decide)))
    refine j_topi (fun x_148 ex_148 => ?_)
    refine j_istore (L' := [(7, .int x_148), (0, .ref (q 0)), (1, .int 1), (2, .long w), (4, .int 0), (5, .int 2), (6, .int 1)]) X dX11_cut_74 (by decide) rfl ?_
    refine j_lload_n X dX11_cut_76 rfl 3 rfl ?_
    refine j_lconst (v := 0) X dX11_cut_77 rfl ?_
    refine j_lcmp X dX11_cut_78 ?_
    refine j_if_ne (tgt := 86) X dX11_cut_79 (by decide) (fun c_79 => ?_) (fun c_79 => ?_)
    · skip
      first | simp only [bI_0, Decidable.not_not, sg_mul, sg_e0, sg_l0, sg_g0, sg_le0, sg_ge0, cmp_eq, cmp_lt, cmp_ge, cmp_gt, cmp_le, lT0, lT1] at c_79 | simp only [Int32.le_iff_toInt_le, Int32.lt_iff_toInt_lt, ← Int32.toInt_inj, iT0, iT1, iT2, iT3, iT4, iT5, iT6, iT7, iT8, iT9, iT10, iT11, iT12, iT13, iT14, iT15, iT16, iT19, iT20, iT31, iT32, iT42, iT64, iT200, iT318, iT319, iT1000, iTm1, iTm2] at c_79 | skip
      exact absurd hw0 c_79
    · skip
      first | simp only [bI_0, Decidable.not_not, sg_mul, sg_e0, sg_l0, sg_g0, sg_le0, sg_ge0, cmp_eq, cmp_lt, cmp_ge, cmp_gt, cmp_le, lT0, lT1] at c_79 | simp only [Int32.le_iff_toInt_le, Int32.lt_iff_toInt_lt, ← Int32.toInt_inj, iT0, iT1, iT2, iT3, iT4, iT5, iT6, iT7, iT8, iT9, iT10, iT11, iT12, iT13, iT14, iT15, iT16, iT19, iT20, iT31, iT32, iT42, iT64, iT200, iT318, iT319, iT1000, iTm1, iTm2] at c_79 | skip
      refine j_iconst (v := 0) X dX11_cut_82 rfl ?_
      refine j_goto (tgt := 101) X dX11_cut_83 (by decide) ?_
      refine j_istore (L' := [(8, .int 0), (7, .int x_148), (0, .ref (q 0)), (1, .int 1), (2, .long w), (4, .int 0), (5, .int 2), (6, .int 1)]) X dX11_cut_101 (by decide) rfl ?_
      refine j_iload X dX11_cut_103 0 rfl ?_
      refine j_if_eq (tgt := 132) X dX11_cut_105 (by decide) (fun _ => ?_) (fun c9 => absurd c9 (by decide))
      refine j_iload X dX11_cut_132 0 rfl ?_
      refine j_if_ge (tgt := 164) X dX11_cut_134 (by decide) (fun _ => ?_) (fun c9 => absurd c9 (by decide))
      refine j_aload_n X dX11_cut_164 rfl 2 rfl ?_
      refine j_bipush (v := 13) X dX11_cut_165 (by decide) ?_
      refine j_iload X dX11_cut_167 6 rfl ?_
      refine j_i2l X dX11_cut_169 rfl ?_
      obtain ⟨y_149, ey_149⟩ : ∃ zz9 : Int, zz9 = ((2 : Int32).toInt64).toInt := ⟨_, rfl⟩
      have by_149 : bd 2 y_149 := by rw [ey_149]; exact bd_2
      refine j_callV X dX11_cut_170 (n_load l G q t n co cr po tx ty [z0, z1, z2, z3, y_135, y_135, z6, y_142, h_144, z9, z10, z11, w_147, y_138, v_145, y_140] sf_146 rfl hS_sf_146 13 13 rfl (by decide) ((2 : Int32).toInt64) y_149 ey_149) gX11_cut_X11_load rfl hy_X11_load_V ⟨Nat.le_of_ble_eq_true rfl, Nat.le_of_ble_eq_true rfl⟩ 0 rfl rfl [0, 1, 2] rfl (by decide) rfl rfl (Nat.le_of_ble_eq_true rfl) ⟨Nat.le_of_ble_eq_true rfl, Nat.le_of_ble_eq_true rfl⟩ ?_
      rintro _ sf_150 ⟨rfl, hS_sf_150⟩
      change J p l e rm_X11_cut s m args below meth c Q G A 9 0 0 173 [(8, .int 0), (7, .int x_148), (0, .ref (q 0)), (1, .int 1), (2, .long w), (4, .int 0), (5, .int 2), (6, .int 1)] [] [(q 0, .inr (10, mF t n q co cr po tx ty)), (q 10, aI G 320 (rg [z0, z1, z2, z3, y_135, y_135, z6, y_142, h_144, z9, z10, z11, w_147, y_149, v_145, y_140])), (q 11, aZ G 16 sf_150)]
      refine j_aload_n X dX11_cut_173 rfl 2 rfl ?_
      refine j_bipush (v := 9) X dX11_cut_174 (by decide) ?_
      refine j_bipush (v := 13) X dX11_cut_176 (by decide) ?_
      refine j_iconst (v := 3) X dX11_cut_178 rfl ?_
      obtain ⟨y_151, ey_151⟩ : ∃ zz9 : Int, zz9 = y_149 * z3 := ⟨_, rfl⟩
      have by_151 : bd 86 y_151 := by rw [ey_151]; exact bd_mul by_149 b3
      refine j_callV X dX11_cut_179 (n_mul l G q t n co cr po tx ty [z0, z1, z2, z3, y_135, y_135, z6, y_142, h_144, z9, z10, z11, w_147, y_149, v_145, y_140] sf_150 rfl hS_sf_150 9 9 rfl (by decide) 13 13 rfl (by decide) 3 3 rfl (by decide) (by decide) (by decide) y_151 ey_151) gX11_cut_X11_multiply rfl hy_X11_multiply_V ⟨Nat.le_of_ble_eq_true rfl, Nat.le_of_ble_eq_true rfl⟩ 0 rfl rfl [0, 1, 2] rfl (by decide) rfl rfl (Nat.le_of_ble_eq_true rfl) ⟨Nat.le_of_ble_eq_true rfl, Nat.le_of_ble_eq_true rfl⟩ ?_
      rintro _ sf_152 ⟨rfl, hS_sf_152⟩
      change J p l e rm_X11_cut s m args below meth c Q G A 9 0 0 182 [(8, .int 0), (7, .int x_148), (0, .ref (q 0)), (1, .int 1), (2, .long w), (4, .int 0), (5, .int 2), (6, .int 1)] [] [(q 0, .inr (10, mF t n q co cr po tx ty)), (q 10, aI G 320 (rg [z0, z1, z2, z3, y_135, y_135, z6, y_142, h_144, y_151, z10, z11, w_147, y_149, v_145, y_140])), (q 11, aZ G 16 sf_152)]
      have hM8 : y_151 = 2 * z3 := by rw [ey_151, ey_149, i64_2]
      have hM9 : (y_151.natAbs : Int) = 2 * z3 := by omega
      refine j_aload_n X dX11_cut_182 rfl 2 rfl ?_
      refine j_bipush (v := 6) X dX11_cut_183 (by decide) ?_
      refine j_iconst (v := 4) X dX11_cut_185 rfl ?_
      refine j_bipush (v := 9) X dX11_cut_186 (by decide) ?_
      obtain ⟨y_153, ey_153⟩ : ∃ zz9 : Int, zz9 = y_135 / (y_151.natAbs : Int) := ⟨_, rfl⟩
      obtain ⟨y_154, ey_154⟩ : ∃ zz9 : Int, zz9 = (y_135.natAbs : Int) % (y_151.natAbs : Int) := ⟨_, rfl⟩
      refine j_callV X dX11_cut_188 (n_divide_6_4_9 l G q t n co cr po tx ty z0 z1 z2 z3 y_135 y_135 z6 y_142 h_144 y_151 z10 z11 w_147 y_149 v_145 y_140 sf_152 hS_sf_152 (by omega) by_151 by_135 (by decide) (by decide) y_153 y_154 ey_153 ey_154) gX11_cut_X11_divide rfl hy_X11_divide_V ⟨Nat.le_of_ble_eq_true rfl, Nat.le_of_ble_eq_true rfl⟩ 0 rfl rfl [0, 1, 2] rfl (by decide) rfl rfl (Nat.le_of_ble_eq_true rfl) ⟨Nat.le_of_ble_eq_true rfl, Nat.le_of_ble_eq_true rfl⟩ ?_
      rintro _ ⟨v_155, v_156, sf_157⟩ ⟨rfl, hS_sf_157⟩
      change J p l e rm_X11_cut s m args below meth c Q G A 9 0 0 191 [(8, .int 0), (7, .int x_148), (0, .ref (q 0)), (1, .int 1), (2, .long w), (4, .int 0), (5, .int 2), (6, .int 1)] [] [(q 0, .inr (10, mF t n q co cr po tx ty)), (q 10, aI G 320 (rg [z0, z1, z2, z3, y_135, y_135, y_153, y_142, h_144, y_151, z10, z11, y_154, y_149, v_155, v_156])), (q 11, aZ G 16 sf_157)]
      exact E.1 191 _ (y_135, y_135, y_153, y_142, h_144, y_151, y_154, y_149, v_155, v_156, sf_157) dX11_cut_191 (⟨rfl, ⟨h_144, ⟨hh_1440, hh_1441, hh_1442⟩, by dsimp only; rw [fl_z (show sg ((0 : Int32).toInt * w.toInt) = 0 from by rw [iT0, Int.zero_mul]; rw [sg_zero (by omega)]), ey_153, hM9] <;> (congr 1 <;> omega)⟩, hS_sf_157⟩) hr

