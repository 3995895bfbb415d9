abbrev rm_X11_signOf : Room := { frames := 1, cells := 0, slots := 0, locals := 29 }
set_option maxHeartbeats 4000000 in
set_option maxRecDepth 100000 in
theorem c_X11_signOf_6_7 (l : Launch) (G : jG) (q : Nat → Nat) (t n co cr po : Int32) (tx ty : Int64) (z0 z1 z2 z3 z4 z5 z6 z7 z8 z9 z10 z11 z12 z13 z14 z15 : Int) (sf : Nat → Int32) (hS : okS [z0, z1, z2, z3, z4, z5, z6, z7, z8, z9, z10, z11, z12, z13, z14, z15] sf) (v : Int64) (hR : 0 ≤ z7) (bu : bd 64 z6) (bv : bd 63 v.toInt) (br : bd 63 z7) : Ct l yX11_signOf wsX11_signOf rm_X11_signOf G [.ref (q 0), .int 6, .long v, .int 7] [(q 0, .inr (10, mF t n q co cr po tx ty)), (q 10, aI G 320 (rg [z0, z1, z2, z3, z4, z5, z6, z7, z8, z9, z10, z11, z12, z13, z14, z15])), (q 11, aZ G 16 sf)] (S := Int × Int × Int × Int × (Nat → Int32)) (fun r u => r = some (.int (rn z6 v.toInt z7)) ∧ okS [z0, z1, z2, z3, z4, z5, z6, z7, z8, z9, u.1, u.2.1, z12, u.2.2.1, z14, u.2.2.2.1] u.2.2.2.2) (fun u => [(q 0, .inr (10, mF t n q co cr po tx ty)), (q 10, aI G 320 (rg [z0, z1, z2, z3, z4, z5, z6, z7, z8, z9, u.1, u.2.1, z12, u.2.2.1, z14, u.2.2.2.1])), (q 11, aZ G 16 u.2.2.2.2)]) (fun _ => []) := by
  refine c_intro (cc := cX11_signOf) (maxL := 8) (ret := (some .int)) (by decide) rfl (Nat.le_of_ble_eq_true rfl) (fun _ => by simp only [List.map_cons, List.map_nil]) ?_
  intro p e s m args below meth c Q A X hr hin E
  change J p l e rm_X11_signOf s m args below meth c Q G A 8 0 0 0 [(0, .ref (q 0)), (1, .int 6), (2, .long v), (4, .int 7)] [] [(q 0, .inr (10, mF t n q co cr po tx ty)), (q 10, aI G 320 (rg [z0, z1, z2, z3, z4, z5, z6, z7, z8, z9, z10, z11, z12, z13, z14, z15])), (q 11, aZ G 16 sf)]
  refine j_aload_n X dX11_signOf_0 rfl 0 rfl ?_
  refine j_iload_n X dX11_signOf_1 rfl 1 rfl ?_
  refine j_callV X dX11_signOf_2 (c_X11_sign l G q t n co cr po tx ty [z0, z1, z2, z3, z4, z5, z6, z7, z8, z9, z10, z11, z12, z13, z14, z15] rfl sf 6 6 rfl (by decide) (hS 6 (by decide)) (bd_lt bu (by decide))) gX11_signOf_X11_sign rfl hy_X11_sign_V ⟨Nat.le_of_ble_eq_true rfl, Nat.le_of_ble_eq_true rfl⟩ 0 rfl rfl [0, 1, 2] rfl (by decide) rfl rfl (Nat.le_of_ble_eq_true rfl) ⟨Nat.le_of_ble_eq_true rfl, Nat.le_of_ble_eq_true rfl⟩ ?_
  rintro _ ⟨⟩ rfl
  change J p l e rm_X11_signOf s m args below meth c Q G A 8 0 0 5 [(0, .ref (q 0)), (1, .int 6), (2, .long v), (4, .int 7)] [.int (sg z6)] [(q 0, .inr (10, mF t n q co cr po tx ty)), (q 10, aI G 320 (rg [z0, z1, z2, z3, z4, z5, z6, z7, z8, z9, z10, z11, z12, z13, z14, z15])), (q 11, aZ G 16 sf)]
  refine j_topi (fun x_1 ex_1 => ?_)
  refine j_istore (L' := [(5, .int x_1), (0, .ref (q 0)), (1, .int 6), (2, .long v), (4, .int 7)]) X dX11_signOf_5 (by decide) rfl ?_
  refine j_lload_n X dX11_signOf_7 rfl 3 rfl ?_
  refine j_lconst (v := 0) X dX11_signOf_8 rfl ?_
  refine j_lcmp X dX11_signOf_9 ?_
  refine j_if_eq (tgt := 22) X dX11_signOf_10 (by decide) (fun c_10 => ?_) (fun c_10 => ?_)
  · skip
    first | simp only [bI_0, Decidable.not_not, sg_mul, sg_e0, sg_l0, sg_g0, sg_le0, sg_ge0, cmp_eq, cmp_lt, cmp_ge, cmp_gt, cmp_le, lT0, lT1] at c_10 | simp only [Int32.le_iff_toInt_le, Int32.lt_iff_toInt_lt, ← Int32.toInt_inj, iT0, iT1, iT2, iT3, iT4, iT5, iT6, iT7, iT8, iT9, iT10, iT11, iT12, iT13, iT14, iT15, iT16, iT19, iT20, iT31, iT32, iT42, iT64, iT200, iT318, iT319, iT1000, iTm1, iTm2] at c_10 | skip
    have hv0 := c_10
    refine j_iconst (v := 0) X dX11_signOf_22 rfl ?_
    refine j_goto (tgt := 37) X dX11_signOf_23 (by decide) ?_
    refine j_istore (L' := [(6, .int 0), (5, .int x_1), (0, .ref (q 0)), (1, .int 6), (2, .long v), (4, .int 7)]) X dX11_signOf_37 (by decide) rfl ?_
    refine j_iload X dX11_signOf_39 1 rfl ?_
    refine j_if_eq (tgt := 56) X dX11_signOf_41 (by decide) (fun c_41 => ?_) (fun c_41 => ?_)
    · skip
      have c_41x := c_41
      rw [ex_1] at c_41x
      refine j_iload X dX11_signOf_56 1 rfl ?_
      refine j_if_eq (tgt := 66) X dX11_signOf_58 (by decide) (fun c_58 => ?_) (fun c_58 => ?_)
      · skip
        have c_58x := c_58
        rw [ex_1] at c_58x
        refine j_iload X dX11_signOf_66 0 rfl ?_
        exact E.2.1 68 _ 0 (z10, z11, z13, z15, sf) _ dX11_signOf_68 (⟨(by rw [so_0 (f := v.toInt) (Or.inl hv0)]; exact congrArg (fun w => some (Value.int w)) (c_58x.symm)), hS⟩) hr rfl
      · skip
        exact absurd c_41 c_58
    · skip
      have c_41x := c_41
      rw [ex_1] at c_41x
      refine j_iload X dX11_signOf_44 0 rfl ?_
      refine j_if_eq (tgt := 56) X dX11_signOf_46 (by decide) (fun _ => ?_) (fun c9 => absurd c9 (by decide))
      refine j_iload X dX11_signOf_56 1 rfl ?_
      refine j_if_eq (tgt := 66) X dX11_signOf_58 (by decide) (fun c_58 => ?_) (fun c_58 => ?_)
      · skip
        have c_58x := c_58
        rw [ex_1] at c_58x
        refine j_iload X dX11_signOf_66 0 rfl ?_
        exact E.2.1 68 _ 0 (z10, z11, z13, z15, sf) _ dX11_signOf_68 (⟨(by rw [so_0 (f := v.toInt) (Or.inl hv0)]; exact congrArg (fun w => some (Value.int w)) (c_58x.symm)), hS⟩) hr rfl
      · skip
        have c_58x := c_58
        rw [ex_1] at c_58x
        refine j_iload X dX11_signOf_61 1 rfl ?_
        refine j_goto (tgt := 68) X dX11_signOf_63 (by decide) ?_
        exact E.2.1 68 _ x_1 (z10, z11, z13, z15, sf) _ dX11_signOf_68 (⟨(by rw [so_0 (f := v.toInt) (Or.inl hv0)]; exact congrArg (fun w => some (Value.int w)) ex_1), hS⟩) hr rfl
  · skip
    first | simp only [bI_0, Decidable.not_not, sg_mul, sg_e0, sg_l0, sg_g0, sg_le0, sg_ge0, cmp_eq, cmp_lt, cmp_ge, cmp_gt, cmp_le, lT0, lT1] at c_10 | simp only [Int32.le_iff_toInt_le, Int32.lt_iff_toInt_lt, ← Int32.toInt_inj, iT0, iT1, iT2, iT3, iT4, iT5, iT6, iT7, iT8, iT9, iT10, iT11, iT12, iT13, iT14, iT15, iT16, iT19, iT20, iT31, iT32, iT42, iT64, iT200, iT318, iT319, iT1000, iTm1, iTm2] at c_10 | skip
    refine j_aload_n X dX11_signOf_13 rfl 1 rfl ?_
    refine j_iload X dX11_signOf_14 4 rfl ?_
    refine j_callV X dX11_signOf_16 (c_X11_sign l G q t n co cr po tx ty [z0, z1, z2, z3, z4, z5, z6, z7, z8, z9, z10, z11, z12, z13, z14, z15] rfl sf 7 7 rfl (by decide) (hS 7 (by decide)) (bd_lt br (by decide))) gX11_signOf_X11_sign rfl hy_X11_sign_V ⟨Nat.le_of_ble_eq_true rfl, Nat.le_of_ble_eq_true rfl⟩ 0 rfl rfl [0, 1, 2] rfl (by decide) rfl rfl (Nat.le_of_ble_eq_true rfl) ⟨Nat.le_of_ble_eq_true rfl, Nat.le_of_ble_eq_true rfl⟩ ?_
    rintro _ ⟨⟩ rfl
    change J p l e rm_X11_signOf s m args below meth c Q G A 8 0 0 19 [(5, .int x_1), (0, .ref (q 0)), (1, .int 6), (2, .long v), (4, .int 7)] [.int (sg z7)] [(q 0, .inr (10, mF t n q co cr po tx ty)), (q 10, aI G 320 (rg [z0, z1, z2, z3, z4, z5, z6, z7, z8, z9, z10, z11, z12, z13, z14, z15])), (q 11, aZ G 16 sf)]
    refine j_if_ne (tgt := 26) X dX11_signOf_19 (by decide) (fun c_19 => ?_) (fun c_19 => ?_)
    · skip
      first | simp only [bI_0, Decidable.not_not, sg_mul, sg_e0, sg_l0, sg_g0, sg_le0, sg_ge0, cmp_eq, cmp_lt, cmp_ge, cmp_gt, cmp_le, lT0, lT1] at c_19 | simp only [Int32.le_iff_toInt_le, Int32.lt_iff_toInt_lt, ← Int32.toInt_inj, iT0, iT1, iT2, iT3, iT4, iT5, iT6, iT7, iT8, iT9, iT10, iT11, iT12, iT13, iT14, iT15, iT16, iT19, iT20, iT31, iT32, iT42, iT64, iT200, iT318, iT319, iT1000, iTm1, iTm2] at c_19 | skip
      refine j_lload_n X dX11_signOf_26 rfl 3 rfl ?_
      refine j_lconst (v := 0) X dX11_signOf_27 rfl ?_
      refine j_lcmp X dX11_signOf_28 ?_
      refine j_if_ge (tgt := 36) X dX11_signOf_29 (by decide) (fun c_29 => ?_) (fun c_29 => ?_)
      · skip
        first | simp only [bI_0, Decidable.not_not, sg_mul, sg_e0, sg_l0, sg_g0, sg_le0, sg_ge0, cmp_eq, cmp_lt, cmp_ge, cmp_gt, cmp_le, lT0, lT1] at c_29 | simp only [Int32.le_iff_toInt_le, Int32.lt_iff_toInt_lt, ← Int32.toInt_inj, iT0, iT1, iT2, iT3, iT4, iT5, iT6, iT7, iT8, iT9, iT10, iT11, iT12, iT13, iT14, iT15, iT16, iT19, iT20, iT31, iT32, iT42, iT64, iT200, iT318, iT319, iT1000, iTm1, iTm2] at c_29 | skip
        refine j_iconst (v := 1) X dX11_signOf_36 rfl ?_
        refine j_istore (L' := [(6, .int 1), (5, .int x_1), (0, .ref (q 0)), (1, .int 6), (2, .long v), (4, .int 7)]) X dX11_signOf_37 (by decide) rfl ?_
        refine j_iload X dX11_signOf_39 1 rfl ?_
        refine j_if_eq (tgt := 56) X dX11_signOf_41 (by decide) (fun c_41 => ?_) (fun c_41 => ?_)
        · skip
          have c_41x := c_41
          rw [ex_1] at c_41x
          refine j_iload X dX11_signOf_56 1 rfl ?_
          refine j_if_eq (tgt := 66) X dX11_signOf_58 (by decide) (fun c_58 => ?_) (fun c_58 => ?_)
          · skip
            have c_58x := c_58
            rw [ex_1] at c_58x
            refine j_iload X dX11_signOf_66 0 rfl ?_
            exact E.2.1 68 _ 1 (z10, z11, z13, z15, sf) _ dX11_signOf_68 (⟨(by rw [so_y (show sg v.toInt * sg z7 = 1 by rw [sg_pos (by omega), sg_pos (by omega)]; decide) (Or.inl rfl) c_58x]), hS⟩) hr rfl
          · skip
            exact absurd c_41 c_58
        · skip
          have c_41x := c_41
          rw [ex_1] at c_41x
          refine j_iload X dX11_signOf_44 0 rfl ?_
          refine j_if_eq (tgt := 56) X dX11_signOf_46 (by decide) (fun c9 => absurd c9 (by decide)) (fun _ => ?_)
          refine j_iload X dX11_signOf_49 1 rfl ?_
          refine j_iload X dX11_signOf_51 0 rfl ?_
          refine j_icmp_ne (tgt := 69) X dX11_signOf_53 (by decide) (fun c_53 => ?_) (fun c_53 => ?_)
          · skip
            have c_53x := c_53
            rw [ex_1] at c_53x
            refine j_aload_n X dX11_signOf_69 rfl 2 rfl ?_
            refine j_bipush (v := 10) X dX11_signOf_70 (by decide) ?_
            refine j_iload_n X dX11_signOf_72 rfl 3 rfl ?_
            refine j_iload_n X dX11_signOf_73 rfl 3 rfl ?_
            obtain ⟨y_2, ey_2⟩ : ∃ zz9 : Int, zz9 = z6 * z6 := ⟨_, rfl⟩
            have by_2 : bd 128 y_2 := by rw [ey_2]; exact bd_mul bu bu
            refine j_callV X dX11_signOf_74 (n_mul l G q t n co cr po tx ty [z0, z1, z2, z3, z4, z5, z6, z7, z8, z9, z10, z11, z12, z13, z14, z15] sf rfl hS 10 10 rfl (by decide) 6 6 rfl (by decide) 6 6 rfl (by decide) (by decide) (by decide) y_2 ey_2) gX11_signOf_X11_multiply rfl hy_X11_multiply_V ⟨Nat.le_of_ble_eq_true rfl, Nat.le_of_ble_eq_true rfl⟩ 0 rfl rfl [0, 1, 2] rfl (by decide) rfl rfl (Nat.le_of_ble_eq_true rfl) ⟨Nat.le_of_ble_eq_true rfl, Nat.le_of_ble_eq_true rfl⟩ ?_
            rintro _ sf_3 ⟨rfl, hS_sf_3⟩
            change J p l e rm_X11_signOf s m args below meth c Q G A 8 0 0 77 [(6, .int 1), (5, .int x_1), (0, .ref (q 0)), (1, .int 6), (2, .long v), (4, .int 7)] [] [(q 0, .inr (10, mF t n q co cr po tx ty)), (q 10, aI G 320 (rg [z0, z1, z2, z3, z4, z5, z6, z7, z8, z9, y_2, z11, z12, z13, z14, z15])), (q 11, aZ G 16 sf_3)]
            refine j_aload_n X dX11_signOf_77 rfl 2 rfl ?_
            refine j_bipush (v := 13) X dX11_signOf_78 (by decide) ?_
            refine j_lload_n X dX11_signOf_80 rfl 4 rfl ?_
            obtain ⟨y_4, ey_4⟩ : ∃ zz9 : Int, zz9 = v.toInt := ⟨_, rfl⟩
            have by_4 : bd 63 y_4 := by rw [ey_4]; exact bv
            refine j_callV X dX11_signOf_81 (n_load l G q t n co cr po tx ty [z0, z1, z2, z3, z4, z5, z6, z7, z8, z9, y_2, z11, z12, z13, z14, z15] sf_3 rfl hS_sf_3 13 13 rfl (by decide) v y_4 ey_4) gX11_signOf_X11_load rfl hy_X11_load_V ⟨Nat.le_of_ble_eq_true rfl, Nat.le_of_ble_eq_true rfl⟩ 0 rfl rfl [0, 1, 2] rfl (by decide) rfl rfl (Nat.le_of_ble_eq_true rfl) ⟨Nat.le_of_ble_eq_true rfl, Nat.le_of_ble_eq_true rfl⟩ ?_
            rintro _ sf_5 ⟨rfl, hS_sf_5⟩
            change J p l e rm_X11_signOf s m args below meth c Q G A 8 0 0 84 [(6, .int 1), (5, .int x_1), (0, .ref (q 0)), (1, .int 6), (2, .long v), (4, .int 7)] [] [(q 0, .inr (10, mF t n q co cr po tx ty)), (q 10, aI G 320 (rg [z0, z1, z2, z3, z4, z5, z6, z7, z8, z9, y_2, z11, z12, y_4, z14, z15])), (q 11, aZ G 16 sf_5)]
            refine j_aload_n X dX11_signOf_84 rfl 2 rfl ?_
            refine j_bipush (v := 15) X dX11_signOf_85 (by decide) ?_
            refine j_bipush (v := 13) X dX11_signOf_87 (by decide) ?_
            refine j_bipush (v := 13) X dX11_signOf_89 (by decide) ?_
            obtain ⟨y_6, ey_6⟩ : ∃ zz9 : Int, zz9 = y_4 * y_4 := ⟨_, rfl⟩
            have by_6 : bd 126 y_6 := by rw [ey_6]; exact bd_mul by_4 by_4
            refine j_callV X dX11_signOf_91 (n_mul l G q t n co cr po tx ty [z0, z1, z2, z3, z4, z5, z6, z7, z8, z9, y_2, z11, z12, y_4, z14, z15] sf_5 rfl hS_sf_5 15 15 rfl (by decide) 13 13 rfl (by decide) 13 13 rfl (by decide) (by decide) (by decide) y_6 ey_6) gX11_signOf_X11_multiply rfl hy_X11_multiply_V ⟨Nat.le_of_ble_eq_true rfl, Nat.le_of_ble_eq_true rfl⟩ 0 rfl rfl [0, 1, 2] rfl (by decide) rfl rfl (Nat.le_of_ble_eq_true rfl) ⟨Nat.le_of_ble_eq_true rfl, Nat.le_of_ble_eq_true rfl⟩ ?_
            rintro _ sf_7 ⟨rfl, hS_sf_7⟩
            change J p l e rm_X11_signOf s m args below meth c Q G A 8 0 0 94 [(6, .int 1), (5, .int x_1), (0, .ref (q 0)), (1, .int 6), (2, .long v), (4, .int 7)] [] [(q 0, .inr (10, mF t n q co cr po tx ty)), (q 10, aI G 320 (rg [z0, z1, z2, z3, z4, z5, z6, z7, z8, z9, y_2, z11, z12, y_4, z14, y_6])), (q 11, aZ G 16 sf_7)]
            refine j_aload_n X dX11_signOf_94 rfl 2 rfl ?_
            refine j_bipush (v := 11) X dX11_signOf_95 (by decide) ?_
            refine j_bipush (v := 15) X dX11_signOf_97 (by decide) ?_
            refine j_iload X dX11_signOf_99 5 rfl ?_
            obtain ⟨y_8, ey_8⟩ : ∃ zz9 : Int, zz9 = y_6 * z7 := ⟨_, rfl⟩
            have by_8 : bd 189 y_8 := by rw [ey_8]; exact bd_mul by_6 br
            refine j_callV X dX11_signOf_101 (n_mul l G q t n co cr po tx ty [z0, z1, z2, z3, z4, z5, z6, z7, z8, z9, y_2, z11, z12, y_4, z14, y_6] sf_7 rfl hS_sf_7 11 11 rfl (by decide) 15 15 rfl (by decide) 7 7 rfl (by decide) (by decide) (by decide) y_8 ey_8) gX11_signOf_X11_multiply rfl hy_X11_multiply_V ⟨Nat.le_of_ble_eq_true rfl, Nat.le_of_ble_eq_true rfl⟩ 0 rfl rfl [0, 1, 2] rfl (by decide) rfl rfl (Nat.le_of_ble_eq_true rfl) ⟨Nat.le_of_ble_eq_true rfl, Nat.le_of_ble_eq_true rfl⟩ ?_
            rintro _ sf_9 ⟨rfl, hS_sf_9⟩
            change J p l e rm_X11_signOf s m args below meth c Q G A 8 0 0 104 [(6, .int 1), (5, .int x_1), (0, .ref (q 0)), (1, .int 6), (2, .long v), (4, .int 7)] [] [(q 0, .inr (10, mF t n q co cr po tx ty)), (q 10, aI G 320 (rg [z0, z1, z2, z3, z4, z5, z6, z7, z8, z9, y_2, y_8, z12, y_4, z14, y_6])), (q 11, aZ G 16 sf_9)]
            refine j_aload_n X dX11_signOf_104 rfl 2 rfl ?_
            refine j_bipush (v := 10) X dX11_signOf_105 (by decide) ?_
            refine j_bipush (v := 11) X dX11_signOf_107 (by decide) ?_
            refine j_callV X dX11_signOf_109 (c_X11_sizes l G q t n co cr po tx ty [z0, z1, z2, z3, z4, z5, z6, z7, z8, z9, y_2, y_8, z12, y_4, z14, y_6] rfl sf_9 10 10 rfl (by decide) 11 11 rfl (by decide) (bd_lt by_2 (by decide)) (bd_lt by_8 (by decide))) gX11_signOf_X11_sizes rfl hy_X11_sizes_V ⟨Nat.le_of_ble_eq_true rfl, Nat.le_of_ble_eq_true rfl⟩ 0 rfl rfl [0, 1, 2] rfl (by decide) rfl rfl (Nat.le_of_ble_eq_true rfl) ⟨Nat.le_of_ble_eq_true rfl, Nat.le_of_ble_eq_true rfl⟩ ?_
            rintro _ ⟨⟩ rfl
            change J p l e rm_X11_signOf s m args below meth c Q G A 8 0 0 112 [(6, .int 1), (5, .int x_1), (0, .ref (q 0)), (1, .int 6), (2, .long v), (4, .int 7)] [.int (sg ((y_2.natAbs : Int) - (y_8.natAbs : Int)))] [(q 0, .inr (10, mF t n q co cr po tx ty)), (q 10, aI G 320 (rg [z0, z1, z2, z3, z4, z5, z6, z7, z8, z9, y_2, y_8, z12, y_4, z14, y_6])), (q 11, aZ G 16 sf_9)]
            refine j_topi (fun x_10 ex_10 => ?_)
            refine j_istore (L' := [(7, .int x_10), (6, .int 1), (5, .int x_1), (0, .ref (q 0)), (1, .int 6), (2, .long v), (4, .int 7)]) X dX11_signOf_112 (by decide) rfl ?_
            refine j_iload X dX11_signOf_114 0 rfl ?_
            refine j_if_ne (tgt := 123) X dX11_signOf_116 (by decide) (fun c_116 => ?_) (fun c_116 => ?_)
            · skip
              have c_116x := c_116
              rw [ex_10] at c_116x
              simp only [sg_e0, sg_le0, Int.not_le] at c_116x
              refine j_iload X dX11_signOf_123 0 rfl ?_
              refine j_if_le (tgt := 133) X dX11_signOf_125 (by decide) (fun c_125 => ?_) (fun c_125 => ?_)
              · skip
                have c_125x := c_125
                rw [ex_10] at c_125x
                simp only [sg_e0, sg_le0, Int.not_le] at c_125x
                refine j_iload X dX11_signOf_133 1 rfl ?_
                exact E.2.1 135 _ 1 (y_2, y_8, y_4, y_6, sf_9) _ dX11_signOf_135 (⟨(by rw [so_m (show sg v.toInt * sg z7 = 1 by rw [sg_pos (by omega), sg_pos (by omega)]; decide) (Or.inl rfl) c_41x c_53x hR ey_2 ey_4 ey_6 ey_8, sg_m1 (by omega), so_op (Or.inl rfl) c_41x c_53x]), hS_sf_9⟩) hr rfl
              · skip
                have c_125x := c_125
                rw [ex_10] at c_125x
                simp only [sg_e0, sg_le0, Int.not_le] at c_125x
                refine j_iload X dX11_signOf_128 2 rfl ?_
                refine j_goto (tgt := 135) X dX11_signOf_130 (by decide) ?_
                exact E.2.1 135 _ x_1 (y_2, y_8, y_4, y_6, sf_9) _ dX11_signOf_135 (⟨(by rw [so_m (show sg v.toInt * sg z7 = 1 by rw [sg_pos (by omega), sg_pos (by omega)]; decide) (Or.inl rfl) c_41x c_53x hR ey_2 ey_4 ey_6 ey_8, sg_1 c_125x]; exact congrArg (fun w => some (Value.int w)) ex_1), hS_sf_9⟩) hr rfl
            · skip
              have c_116x := c_116
              rw [ex_10] at c_116x
              simp only [sg_e0, sg_le0, Int.not_le] at c_116x
              refine j_iconst (v := 0) X dX11_signOf_119 rfl ?_
              refine j_goto (tgt := 135) X dX11_signOf_120 (by decide) ?_
              exact E.2.1 135 _ 0 (y_2, y_8, y_4, y_6, sf_9) _ dX11_signOf_135 (⟨(by rw [so_m (show sg v.toInt * sg z7 = 1 by rw [sg_pos (by omega), sg_pos (by omega)]; decide) (Or.inl rfl) c_41x c_53x hR ey_2 ey_4 ey_6 ey_8, sg_0m c_116x]), hS_sf_9⟩) hr rfl
          · skip
            have c_53x := c_53
            rw [ex_1] at c_53x
            refine j_iload X dX11_signOf_56 1 rfl ?_
            refine j_if_eq (tgt := 66) X dX11_signOf_58 (by decide) (fun c_58 => ?_) (fun c_58 => ?_)
            · skip
              have c_58x := c_58
              rw [ex_1] at c_58x
              refine j_iload X dX11_signOf_66 0 rfl ?_
              exact E.2.1 68 _ 1 (z10, z11, z13, z15, sf) _ dX11_signOf_68 (⟨(by rw [so_y (show sg v.toInt * sg z7 = 1 by rw [sg_pos (by omega), sg_pos (by omega)]; decide) (Or.inl rfl) c_58x]), hS⟩) hr rfl
            · skip
              have c_58x := c_58
              rw [ex_1] at c_58x
              refine j_iload X dX11_signOf_61 1 rfl ?_
              refine j_goto (tgt := 68) X dX11_signOf_63 (by decide) ?_
              exact E.2.1 68 _ x_1 (z10, z11, z13, z15, sf) _ dX11_signOf_68 (⟨(by rw [so_e (show sg v.toInt * sg z7 = 1 by rw [sg_pos (by omega), sg_pos (by omega)]; decide) c_53x]; exact congrArg (fun w => some (Value.int w)) ex_1), hS⟩) hr rfl
      · skip
        first | simp only [bI_0, Decidable.not_not, sg_mul, sg_e0, sg_l0, sg_g0, sg_le0, sg_ge0, cmp_eq, cmp_lt, cmp_ge, cmp_gt, cmp_le, lT0, lT1] at c_29 | simp only [Int32.le_iff_toInt_le, Int32.lt_iff_toInt_lt, ← Int32.toInt_inj, iT0, iT1, iT2, iT3, iT4, iT5, iT6, iT7, iT8, iT9, iT10, iT11, iT12, iT13, iT14, iT15, iT16, iT19, iT20, iT31, iT32, iT42, iT64, iT200, iT318, iT319, iT1000, iTm1, iTm2] at c_29 | skip
        refine j_iconst (v := (-1)) X dX11_signOf_32 rfl ?_
        refine j_goto (tgt := 37) X dX11_signOf_33 (by decide) ?_
        refine j_istore (L' := [(6, .int (-1)), (5, .int x_1), (0, .ref (q 0)), (1, .int 6), (2, .long v), (4, .int 7)]) X dX11_signOf_37 (by decide) rfl ?_
        refine j_iload X dX11_signOf_39 1 rfl ?_
        refine j_if_eq (tgt := 56) X dX11_signOf_41 (by decide) (fun c_41 => ?_) (fun c_41 => ?_)
        · skip
          have c_41x := c_41
          rw [ex_1] at c_41x
          refine j_iload X dX11_signOf_56 1 rfl ?_
          refine j_if_eq (tgt := 66) X dX11_signOf_58 (by decide) (fun c_58 => ?_) (fun c_58 => ?_)
          · skip
            have c_58x := c_58
            rw [ex_1] at c_58x
            refine j_iload X dX11_signOf_66 0 rfl ?_
            exact E.2.1 68 _ (-1) (z10, z11, z13, z15, sf) _ dX11_signOf_68 (⟨(by rw [so_y (show sg v.toInt * sg z7 = (-1) by rw [sg_neg (by omega), sg_pos (by omega)]; decide) (Or.inr rfl) c_58x]), hS⟩) hr rfl
          · skip
            exact absurd c_41 c_58
        · skip
          have c_41x := c_41
          rw [ex_1] at c_41x
          refine j_iload X dX11_signOf_44 0 rfl ?_
          refine j_if_eq (tgt := 56) X dX11_signOf_46 (by decide) (fun c9 => absurd c9 (by decide)) (fun _ => ?_)
          refine j_iload X dX11_signOf_49 1 rfl ?_
          refine j_iload X dX11_signOf_51 0 rfl ?_
          refine j_icmp_ne (tgt := 69) X dX11_signOf_53 (by decide) (fun c_53 => ?_) (fun c_53 => ?_)
          · skip
            have c_53x := c_53
            rw [ex_1] at c_53x
            refine j_aload_n X dX11_signOf_69 rfl 2 rfl ?_
            refine j_bipush (v := 10) X dX11_signOf_70 (by decide) ?_
            refine j_iload_n X dX11_signOf_72 rfl 3 rfl ?_
            refine j_iload_n X dX11_signOf_73 rfl 3 rfl ?_
            obtain ⟨y_11, ey_11⟩ : ∃ zz9 : Int, zz9 = z6 * z6 := ⟨_, rfl⟩
            have by_11 : bd 128 y_11 := by rw [ey_11]; exact bd_mul bu bu
            refine j_callV X dX11_signOf_74 (n_mul l G q t n co cr po tx ty [z0, z1, z2, z3, z4, z5, z6, z7, z8, z9, z10, z11, z12, z13, z14, z15] sf rfl hS 10 10 rfl (by decide) 6 6 rfl (by decide) 6 6 rfl (by decide) (by decide) (by decide) y_11 ey_11) gX11_signOf_X11_multiply rfl hy_X11_multiply_V ⟨Nat.le_of_ble_eq_true rfl, Nat.le_of_ble_eq_true rfl⟩ 0 rfl rfl [0, 1, 2] rfl (by decide) rfl rfl (Nat.le_of_ble_eq_true rfl) ⟨Nat.le_of_ble_eq_true rfl, Nat.le_of_ble_eq_true rfl⟩ ?_
            rintro _ sf_12 ⟨rfl, hS_sf_12⟩
            change J p l e rm_X11_signOf s m args below meth c Q G A 8 0 0 77 [(6, .int (-1)), (5, .int x_1), (0, .ref (q 0)), (1, .int 6), (2, .long v), (4, .int 7)] [] [(q 0, .inr (10, mF t n q co cr po tx ty)), (q 10, aI G 320 (rg [z0, z1, z2, z3, z4, z5, z6, z7, z8, z9, y_11, z11, z12, z13, z14, z15])), (q 11, aZ G 16 sf_12)]
            refine j_aload_n X dX11_signOf_77 rfl 2 rfl ?_
            refine j_bipush (v := 13) X dX11_signOf_78 (by decide) ?_
            refine j_lload_n X dX11_signOf_80 rfl 4 rfl ?_
            obtain ⟨y_13, ey_13⟩ : ∃ zz9 : Int, zz9 = v.toInt := ⟨_, rfl⟩
            have by_13 : bd 63 y_13 := by rw [ey_13]; exact bv
            refine j_callV X dX11_signOf_81 (n_load l G q t n co cr po tx ty [z0, z1, z2, z3, z4, z5, z6, z7, z8, z9, y_11, z11, z12, z13, z14, z15] sf_12 rfl hS_sf_12 13 13 rfl (by decide) v y_13 ey_13) gX11_signOf_X11_load rfl hy_X11_load_V ⟨Nat.le_of_ble_eq_true rfl, Nat.le_of_ble_eq_true rfl⟩ 0 rfl rfl [0, 1, 2] rfl (by decide) rfl rfl (Nat.le_of_ble_eq_true rfl) ⟨Nat.le_of_ble_eq_true rfl, Nat.le_of_ble_eq_true rfl⟩ ?_
            rintro _ sf_14 ⟨rfl, hS_sf_14⟩
            change J p l e rm_X11_signOf s m args below meth c Q G A 8 0 0 84 [(6, .int (-1)), (5, .int x_1), (0, .ref (q 0)), (1, .int 6), (2, .long v), (4, .int 7)] [] [(q 0, .inr (10, mF t n q co cr po tx ty)), (q 10, aI G 320 (rg [z0, z1, z2, z3, z4, z5, z6, z7, z8, z9, y_11, z11, z12, y_13, z14, z15])), (q 11, aZ G 16 sf_14)]
            refine j_aload_n X dX11_signOf_84 rfl 2 rfl ?_
            refine j_bipush (v := 15) X dX11_signOf_85 (by decide) ?_
            refine j_bipush (v := 13) X dX11_signOf_87 (by decide) ?_
            refine j_bipush (v := 13) X dX11_signOf_89 (by decide) ?_
            obtain ⟨y_15, ey_15⟩ : ∃ zz9 : Int, zz9 = y_13 * y_13 := ⟨_, rfl⟩
            have by_15 : bd 126 y_15 := by rw [ey_15]; exact bd_mul by_13 by_13
            refine j_callV X dX11_signOf_91 (n_mul l G q t n co cr po tx ty [z0, z1, z2, z3, z4, z5, z6, z7, z8, z9, y_11, z11, z12, y_13, z14, z15] sf_14 rfl hS_sf_14 15 15 rfl (by decide) 13 13 rfl (by decide) 13 13 rfl (by decide) (by decide) (by decide) y_15 ey_15) gX11_signOf_X11_multiply rfl hy_X11_multiply_V ⟨Nat.le_of_ble_eq_true rfl, Nat.le_of_ble_eq_true rfl⟩ 0 rfl rfl [0, 1, 2] rfl (by decide) rfl rfl (Nat.le_of_ble_eq_true rfl) ⟨Nat.le_of_ble_eq_true rfl, Nat.le_of_ble_eq_true rfl⟩ ?_
            rintro _ sf_16 ⟨rfl, hS_sf_16⟩
            change J p l e rm_X11_signOf s m args below meth c Q G A 8 0 0 94 [(6, .int (-1)), (5, .int x_1), (0, .ref (q 0)), (1, .int 6), (2, .long v), (4, .int 7)] [] [(q 0, .inr (10, mF t n q co cr po tx ty)), (q 10, aI G 320 (rg [z0, z1, z2, z3, z4, z5, z6, z7, z8, z9, y_11, z11, z12, y_13, z14, y_15])), (q 11, aZ G 16 sf_16)]
            refine j_aload_n X dX11_signOf_94 rfl 2 rfl ?_
            refine j_bipush (v := 11) X dX11_signOf_95 (by decide) ?_
            refine j_bipush (v := 15) X dX11_signOf_97 (by decide) ?_
            refine j_iload X dX11_signOf_99 5 rfl ?_
            obtain ⟨y_17, ey_17⟩ : ∃ zz9 : Int, zz9 = y_15 * z7 := ⟨_, rfl⟩
            have by_17 : bd 189 y_17 := by rw [ey_17]; exact bd_mul by_15 br
            refine j_callV X dX11_signOf_101 (n_mul l G q t n co cr po tx ty [z0, z1, z2, z3, z4, z5, z6, z7, z8, z9, y_11, z11, z12, y_13, z14, y_15] sf_16 rfl hS_sf_16 11 11 rfl (by decide) 15 15 rfl (by decide) 7 7 rfl (by decide) (by decide) (by decide) y_17 ey_17) gX11_signOf_X11_multiply rfl hy_X11_multiply_V ⟨Nat.le_of_ble_eq_true rfl, Nat.le_of_ble_eq_true rfl⟩ 0 rfl rfl [0, 1, 2] rfl (by decide) rfl rfl (Nat.le_of_ble_eq_true rfl) ⟨Nat.le_of_ble_eq_true rfl, Nat.le_of_ble_eq_true rfl⟩ ?_
            rintro _ sf_18 ⟨rfl, hS_sf_18⟩
            change J p l e rm_X11_signOf s m args below meth c Q G A 8 0 0 104 [(6, .int (-1)), (5, .int x_1), (0, .ref (q 0)), (1, .int 6), (2, .long v), (4, .int 7)] [] [(q 0, .inr (10, mF t n q co cr po tx ty)), (q 10, aI G 320 (rg [z0, z1, z2, z3, z4, z5, z6, z7, z8, z9, y_11, y_17, z12, y_13, z14, y_15])), (q 11, aZ G 16 sf_18)]
            refine j_aload_n X dX11_signOf_104 rfl 2 rfl ?_
            refine j_bipush (v := 10) X dX11_signOf_105 (by decide) ?_
            refine j_bipush (v := 11) X dX11_signOf_107 (by decide) ?_
            refine j_callV X dX11_signOf_109 (c_X11_sizes l G q t n co cr po tx ty [z0, z1, z2, z3, z4, z5, z6, z7, z8, z9, y_11, y_17, z12, y_13, z14, y_15] rfl sf_18 10 10 rfl (by decide) 11 11 rfl (by decide) (bd_lt by_11 (by decide)) (bd_lt by_17 (by decide))) gX11_signOf_X11_sizes rfl hy_X11_sizes_V ⟨Nat.le_of_ble_eq_true rfl, Nat.le_of_ble_eq_true rfl⟩ 0 rfl rfl [0, 1, 2] rfl (by decide) rfl rfl (Nat.le_of_ble_eq_true rfl) ⟨Nat.le_of_ble_eq_true rfl, Nat.le_of_ble_eq_true rfl⟩ ?_
            rintro _ ⟨⟩ rfl
            change J p l e rm_X11_signOf s m args below meth c Q G A 8 0 0 112 [(6, .int (-1)), (5, .int x_1), (0, .ref (q 0)), (1, .int 6), (2, .long v), (4, .int 7)] [.int (sg ((y_11.natAbs : Int) - (y_17.natAbs : Int)))] [(q 0, .inr (10, mF t n q co cr po tx ty)), (q 10, aI G 320 (rg [z0, z1, z2, z3, z4, z5, z6, z7, z8, z9, y_11, y_17, z12, y_13, z14, y_15])), (q 11, aZ G 16 sf_18)]
            refine j_topi (fun x_19 ex_19 => ?_)
            refine j_istore (L' := [(7, .int x_19), (6, .int (-1)), (5, .int x_1), (0, .ref (q 0)), (1, .int 6), (2, .long v), (4, .int 7)]) X dX11_signOf_112 (by decide) rfl ?_
            refine j_iload X dX11_signOf_114 0 rfl ?_
            refine j_if_ne (tgt := 123) X dX11_signOf_116 (by decide) (fun c_116 => ?_) (fun c_116 => ?_)
            · skip
              have c_116x := c_116
              rw [ex_19] at c_116x
              simp only [sg_e0, sg_le0, Int.not_le] at c_116x
              refine j_iload X dX11_signOf_123 0 rfl ?_
              refine j_if_le (tgt := 133) X dX11_signOf_125 (by decide) (fun c_125 => ?_) (fun c_125 => ?_)
              · skip
                have c_125x := c_125
                rw [ex_19] at c_125x
                simp only [sg_e0, sg_le0, Int.not_le] at c_125x
                refine j_iload X dX11_signOf_133 1 rfl ?_
                exact E.2.1 135 _ (-1) (y_11, y_17, y_13, y_15, sf_18) _ dX11_signOf_135 (⟨(by rw [so_m (show sg v.toInt * sg z7 = (-1) by rw [sg_neg (by omega), sg_pos (by omega)]; decide) (Or.inr rfl) c_41x c_53x hR ey_11 ey_13 ey_15 ey_17, sg_m1 (by omega), so_op (Or.inr rfl) c_41x c_53x]), hS_sf_18⟩) hr rfl
              · skip
                have c_125x := c_125
                rw [ex_19] at c_125x
                simp only [sg_e0, sg_le0, Int.not_le] at c_125x
                refine j_iload X dX11_signOf_128 2 rfl ?_
                refine j_goto (tgt := 135) X dX11_signOf_130 (by decide) ?_
                exact E.2.1 135 _ x_1 (y_11, y_17, y_13, y_15, sf_18) _ dX11_signOf_135 (⟨(by rw [so_m (show sg v.toInt * sg z7 = (-1) by rw [sg_neg (by omega), sg_pos (by omega)]; decide) (Or.inr rfl) c_41x c_53x hR ey_11 ey_13 ey_15 ey_17, sg_1 c_125x]; exact congrArg (fun w => some (Value.int w)) ex_1), hS_sf_18⟩) hr rfl
            · skip
              have c_116x := c_116
              rw [ex_19] at c_116x
              simp only [sg_e0, sg_le0, Int.not_le] at c_116x
              refine j_iconst (v := 0) X dX11_signOf_119 rfl ?_
              refine j_goto (tgt := 135) X dX11_signOf_120 (by decide) ?_
              exact E.2.1 135 _ 0 (y_11, y_17, y_13, y_15, sf_18) _ dX11_signOf_135 (⟨(by rw [so_m (show sg v.toInt * sg z7 = (-1) by rw [sg_neg (by omega), sg_pos (by omega)]; decide) (Or.inr rfl) c_41x c_53x hR ey_11 ey_13 ey_15 ey_17, sg_0m c_116x]), hS_sf_18⟩) hr rfl
          · skip
            have c_53x := c_53
            rw [ex_1] at c_53x
            refine j_iload X dX11_signOf_56 1 rfl ?_
            refine j_if_eq (tgt := 66) X dX11_signOf_58 (by decide) (fun c_58 => ?_) (fun c_58 => ?_)
            · skip
              have c_58x := c_58
              rw [ex_1] at c_58x
              refine j_iload X dX11_signOf_66 0 rfl ?_
              exact E.2.1 68 _ (-1) (z10, z11, z13, z15, sf) _ dX11_signOf_68 (⟨(by rw [so_y (show sg v.toInt * sg z7 = (-1) by rw [sg_neg (by omega), sg_pos (by omega)]; decide) (Or.inr rfl) c_58x]), hS⟩) hr rfl
            · skip
              have c_58x := c_58
              rw [ex_1] at c_58x
              refine j_iload X dX11_signOf_61 1 rfl ?_
              refine j_goto (tgt := 68) X dX11_signOf_63 (by decide) ?_
              exact E.2.1 68 _ x_1 (z10, z11, z13, z15, sf) _ dX11_signOf_68 (⟨(by rw [so_e (show sg v.toInt * sg z7 = (-1) by rw [sg_neg (by omega), sg_pos (by omega)]; decide) c_53x]; exact congrArg (fun w => some (Value.int w)) ex_1), hS⟩) hr rfl
    · skip
      first | simp only [bI_0, Decidable.not_not, sg_mul, sg_e0, sg_l0, sg_g0, sg_le0, sg_ge0, cmp_eq, cmp_lt, cmp_ge, cmp_gt, cmp_le, lT0, lT1] at c_19 | simp only [Int32.le_iff_toInt_le, Int32.lt_iff_toInt_lt, ← Int32.toInt_inj, iT0, iT1, iT2, iT3, iT4, iT5, iT6, iT7, iT8, iT9, iT10, iT11, iT12, iT13, iT14, iT15, iT16, iT19, iT20, iT31, iT32, iT42, iT64, iT200, iT318, iT319, iT1000, iTm1, iTm2] at c_19 | skip
      have hR0 := c_19
      refine j_iconst (v := 0) X dX11_signOf_22 rfl ?_
      refine j_goto (tgt := 37) X dX11_signOf_23 (by decide) ?_
      refine j_istore (L' := [(6, .int 0), (5, .int x_1), (0, .ref (q 0)), (1, .int 6), (2, .long v), (4, .int 7)]) X dX11_signOf_37 (by decide) rfl ?_
      refine j_iload X dX11_signOf_39 1 rfl ?_
      refine j_if_eq (tgt := 56) X dX11_signOf_41 (by decide) (fun c_41 => ?_) (fun c_41 => ?_)
      · skip
        have c_41x := c_41
        rw [ex_1] at c_41x
        refine j_iload X dX11_signOf_56 1 rfl ?_
        refine j_if_eq (tgt := 66) X dX11_signOf_58 (by decide) (fun c_58 => ?_) (fun c_58 => ?_)
        · skip
          have c_58x := c_58
          rw [ex_1] at c_58x
          refine j_iload X dX11_signOf_66 0 rfl ?_
          exact E.2.1 68 _ 0 (z10, z11, z13, z15, sf) _ dX11_signOf_68 (⟨(by rw [so_0 (f := v.toInt) (Or.inr hR0)]; exact congrArg (fun w => some (Value.int w)) (c_58x.symm)), hS⟩) hr rfl
        · skip
          exact absurd c_41 c_58
      · skip
        have c_41x := c_41
        rw [ex_1] at c_41x
        refine j_iload X dX11_signOf_44 0 rfl ?_
        refine j_if_eq (tgt := 56) X dX11_signOf_46 (by decide) (fun _ => ?_) (fun c9 => absurd c9 (by decide))
        refine j_iload X dX11_signOf_56 1 rfl ?_
        refine j_if_eq (tgt := 66) X dX11_signOf_58 (by decide) (fun c_58 => ?_) (fun c_58 => ?_)
        · skip
          have c_58x := c_58
          rw [ex_1] at c_58x
          refine j_iload X dX11_signOf_66 0 rfl ?_
          exact E.2.1 68 _ 0 (z10, z11, z13, z15, sf) _ dX11_signOf_68 (⟨(by rw [so_0 (f := v.toInt) (Or.inr hR0)]; exact congrArg (fun w => some (Value.int w)) (c_58x.symm)), hS⟩) hr rfl
        · skip
          have c_58x := c_58
          rw [ex_1] at c_58x
          refine j_iload X dX11_signOf_61 1 rfl ?_
          refine j_goto (tgt := 68) X dX11_signOf_63 (by decide) ?_
          exact E.2.1 68 _ x_1 (z10, z11, z13, z15, sf) _ dX11_signOf_68 (⟨(by rw [so_0 (f := v.toInt) (Or.inr hR0)]; exact congrArg (fun w => some (Value.int w)) ex_1), hS⟩) hr rfl

theorem hy_X11_signOf_V : yX11_signOf.cls = RX11 ∧ yX11_signOf.cls ≠ "java/lang/invoke/MethodHandle" ∧ yX11_signOf.cls ≠ "java/lang/invoke/VarHandle" ∧ (parseMethodDescriptor yX11_signOf.desc).map (fun d => d.parameters.length) = some 3 := by decide +kernel
set_option maxHeartbeats 4000000 in
set_option maxRecDepth 100000 in
theorem c_X11_signOf_9_2 (l : Launch) (G : jG) (q : Nat → Nat) (t n co cr po : Int32) (tx ty : Int64) (z0 z1 z2 z3 z4 z5 z6 z7 z8 z9 z10 z11 z12 z13 z14 z15 : Int) (sf : Nat → Int32) (hS : okS [z0, z1, z2, z3, z4, z5, z6, z7, z8, z9, z10, z11, z12, z13, z14, z15] sf) (v : Int64) (hR : 0 ≤ z2) (bu : bd 130 z9) (bv : bd 43 v.toInt) (br : bd 172 z2) : Ct l yX11_signOf wsX11_signOf rm_X11_signOf G [.ref (q 0), .int 9, .long v, .int 2] [(q 0, .inr (10, mF t n q co cr po tx ty)), (q 10, aI G 320 (rg [z0, z1, z2, z3, z4, z5, z6, z7, z8, z9, z10, z11, z12, z13, z14, z15])), (q 11, aZ G 16 sf)] (S := Int × Int × Int × Int × (Nat → Int32)) (fun r u => r = some (.int (rn z9 v.toInt z2)) ∧ okS [z0, z1, z2, z3, z4, z5, z6, z7, z8, z9, u.1, u.2.1, z12, u.2.2.1, z14, u.2.2.2.1] u.2.2.2.2) (fun u => [(q 0, .inr (10, mF t n q co cr po tx ty)), (q 10, aI G 320 (rg [z0, z1, z2, z3, z4, z5, z6, z7, z8, z9, u.1, u.2.1, z12, u.2.2.1, z14, u.2.2.2.1])), (q 11, aZ G 16 u.2.2.2.2)]) (fun _ => []) := by
  refine c_intro (cc := cX11_signOf) (maxL := 8) (ret := (some .int)) (by decide) rfl (Nat.le_of_ble_eq_true rfl) (fun _ => by simp only [List.map_cons, List.map_nil]) ?_
  intro p e s m args below meth c Q A X hr hin E
  change J p l e rm_X11_signOf s m args below meth c Q G A 8 0 0 0 [(0, .ref (q 0)), (1, .int 9), (2, .long v), (4, .int 2)] [] [(q 0, .inr (10, mF t n q co cr po tx ty)), (q 10, aI G 320 (rg [z0, z1, z2, z3, z4, z5, z6, z7, z8, z9, z10, z11, z12, z13, z14, z15])), (q 11, aZ G 16 sf)]
  refine j_aload_n X dX11_signOf_0 rfl 0 rfl ?_
  refine j_iload_n X dX11_signOf_1 rfl 1 rfl ?_
  refine j_callV X dX11_signOf_2 (c_X11_sign l G q t n co cr po tx ty [z0, z1, z2, z3, z4, z5, z6, z7, z8, z9, z10, z11, z12, z13, z14, z15] rfl sf 9 9 rfl (by decide) (hS 9 (by decide)) (bd_lt bu (by decide))) gX11_signOf_X11_sign rfl hy_X11_sign_V ⟨Nat.le_of_ble_eq_true rfl, Nat.le_of_ble_eq_true rfl⟩ 0 rfl rfl [0, 1, 2] rfl (by decide) rfl rfl (Nat.le_of_ble_eq_true rfl) ⟨Nat.le_of_ble_eq_true rfl, Nat.le_of_ble_eq_true rfl⟩ ?_
  rintro _ ⟨⟩ rfl
  change J p l e rm_X11_signOf s m args below meth c Q G A 8 0 0 5 [(0, .ref (q 0)), (1, .int 9), (2, .long v), (4, .int 2)] [.int (sg z9)] [(q 0, .inr (10, mF t n q co cr po tx ty)), (q 10, aI G 320 (rg [z0, z1, z2, z3, z4, z5, z6, z7, z8, z9, z10, z11, z12, z13, z14, z15])), (q 11, aZ G 16 sf)]
  refine j_topi (fun x_1 ex_1 => ?_)
  refine j_istore (L' := [(5, .int x_1), (0, .ref (q 0)), (1, .int 9), (2, .long v), (4, .int 2)]) X dX11_signOf_5 (by decide) rfl ?_
  refine j_lload_n X dX11_signOf_7 rfl 3 rfl ?_
  refine j_lconst (v := 0) X dX11_signOf_8 rfl ?_
  refine j_lcmp X dX11_signOf_9 ?_
  refine j_if_eq (tgt := 22) X dX11_signOf_10 (by decide) (fun c_10 => ?_) (fun c_10 => ?_)
  · skip
    first | simp only [bI_0, Decidable.not_not, sg_mul, sg_e0, sg_l0, sg_g0, sg_le0, sg_ge0, cmp_eq, cmp_lt, cmp_ge, cmp_gt, cmp_le, lT0, lT1] at c_10 | simp only [Int32.le_iff_toInt_le, Int32.lt_iff_toInt_lt, ← Int32.toInt_inj, iT0, iT1, iT2, iT3, iT4, iT5, iT6, iT7, iT8, iT9, iT10, iT11, iT12, iT13, iT14, iT15, iT16, iT19, iT20, iT31, iT32, iT42, iT64, iT200, iT318, iT319, iT1000, iTm1, iTm2] at c_10 | skip
    have hv0 := c_10
    refine j_iconst (v := 0) X dX11_signOf_22 rfl ?_
    refine j_goto (tgt := 37) X dX11_signOf_23 (by decide) ?_
    refine j_istore (L' := [(6, .int 0), (5, .int x_1), (0, .ref (q 0)), (1, .int 9), (2, .long v), (4, .int 2)]) X dX11_signOf_37 (by decide) rfl ?_
    refine j_iload X dX11_signOf_39 1 rfl ?_
    refine j_if_eq (tgt := 56) X dX11_signOf_41 (by decide) (fun c_41 => ?_) (fun c_41 => ?_)
    · skip
      have c_41x := c_41
      rw [ex_1] at c_41x
      refine j_iload X dX11_signOf_56 1 rfl ?_
      refine j_if_eq (tgt := 66) X dX11_signOf_58 (by decide) (fun c_58 => ?_) (fun c_58 => ?_)
      · skip
        have c_58x := c_58
        rw [ex_1] at c_58x
        refine j_iload X dX11_signOf_66 0 rfl ?_
        exact E.2.1 68 _ 0 (z10, z11, z13, z15, sf) _ dX11_signOf_68 (⟨(by rw [so_0 (f := v.toInt) (Or.inl hv0)]; exact congrArg (fun w => some (Value.int w)) (c_58x.symm)), hS⟩) hr rfl
      · skip
        exact absurd c_41 c_58
    · skip
      have c_41x := c_41
      rw [ex_1] at c_41x
      refine j_iload X dX11_signOf_44 0 rfl ?_
      refine j_if_eq (tgt := 56) X dX11_signOf_46 (by decide) (fun _ => ?_) (fun c9 => absurd c9 (by decide))
      refine j_iload X dX11_signOf_56 1 rfl ?_
      refine j_if_eq (tgt := 66) X dX11_signOf_58 (by decide) (fun c_58 => ?_) (fun c_58 => ?_)
      · skip
        have c_58x := c_58
        rw [ex_1] at c_58x
        refine j_iload X dX11_signOf_66 0 rfl ?_
        exact E.2.1 68 _ 0 (z10, z11, z13, z15, sf) _ dX11_signOf_68 (⟨(by rw [so_0 (f := v.toInt) (Or.inl hv0)]; exact congrArg (fun w => some (Value.int w)) (c_58x.symm)), hS⟩) hr rfl
      · skip
        have c_58x := c_58
        rw [ex_1] at c_58x
        refine j_iload X dX11_signOf_61 1 rfl ?_
        refine j_goto (tgt := 68) X dX11_signOf_63 (by decide) ?_
        exact E.2.1 68 _ x_1 (z10, z11, z13, z15, sf) _ dX11_signOf_68 (⟨(by rw [so_0 (f := v.toInt) (Or.inl hv0)]; exact congrArg (fun w => some (Value.int w)) ex_1), hS⟩) hr rfl
  · skip
    first | simp only [bI_0, Decidable.not_not, sg_mul, sg_e0, sg_l0, sg_g0, sg_le0, sg_ge0, cmp_eq, cmp_lt, cmp_ge, cmp_gt, cmp_le, lT0, lT1] at c_10 | simp only [Int32.le_iff_toInt_le, Int32.lt_iff_toInt_lt, ← Int32.toInt_inj, iT0, iT1, iT2, iT3, iT4, iT5, iT6, iT7, iT8, iT9, iT10, iT11, iT12, iT13, iT14, iT15, iT16, iT19, iT20, iT31, iT32, iT42, iT64, iT200, iT318, iT319, iT1000, iTm1, iTm2] at c_10 | skip
    refine j_aload_n X dX11_signOf_13 rfl 1 rfl ?_
    refine j_iload X dX11_signOf_14 4 rfl ?_
    refine j_callV X dX11_signOf_16 (c_X11_sign l G q t n co cr po tx ty [z0, z1, z2, z3, z4, z5, z6, z7, z8, z9, z10, z11, z12, z13, z14, z15] rfl sf 2 2 rfl (by decide) (hS 2 (by decide)) (bd_lt br (by decide))) gX11_signOf_X11_sign rfl hy_X11_sign_V ⟨Nat.le_of_ble_eq_true rfl, Nat.le_of_ble_eq_true rfl⟩ 0 rfl rfl [0, 1, 2] rfl (by decide) rfl rfl (Nat.le_of_ble_eq_true rfl) ⟨Nat.le_of_ble_eq_true rfl, Nat.le_of_ble_eq_true rfl⟩ ?_
    rintro _ ⟨⟩ rfl
    change J p l e rm_X11_signOf s m args below meth c Q G A 8 0 0 19 [(5, .int x_1), (0, .ref (q 0)), (1, .int 9), (2, .long v), (4, .int 2)] [.int (sg z2)] [(q 0, .inr (10, mF t n q co cr po tx ty)), (q 10, aI G 320 (rg [z0, z1, z2, z3, z4, z5, z6, z7, z8, z9, z10, z11, z12, z13, z14, z15])), (q 11, aZ G 16 sf)]
    refine j_if_ne (tgt := 26) X dX11_signOf_19 (by decide) (fun c_19 => ?_) (fun c_19 => ?_)
    · skip
      first | simp only [bI_0, Decidable.not_not, sg_mul, sg_e0, sg_l0, sg_g0, sg_le0, sg_ge0, cmp_eq, cmp_lt, cmp_ge, cmp_gt, cmp_le, lT0, lT1] at c_19 | simp only [Int32.le_iff_toInt_le, Int32.lt_iff_toInt_lt, ← Int32.toInt_inj, iT0, iT1, iT2, iT3, iT4, iT5, iT6, iT7, iT8, iT9, iT10, iT11, iT12, iT13, iT14, iT15, iT16, iT19, iT20, iT31, iT32, iT42, iT64, iT200, iT318, iT319, iT1000, iTm1, iTm2] at c_19 | skip
      refine j_lload_n X dX11_signOf_26 rfl 3 rfl ?_
      refine j_lconst (v := 0) X dX11_signOf_27 rfl ?_
      refine j_lcmp X dX11_signOf_28 ?_
      refine j_if_ge (tgt := 36) X dX11_signOf_29 (by decide) (fun c_29 => ?_) (fun c_29 => ?_)
      · skip
        first | simp only [bI_0, Decidable.not_not, sg_mul, sg_e0, sg_l0, sg_g0, sg_le0, sg_ge0, cmp_eq, cmp_lt, cmp_ge, cmp_gt, cmp_le, lT0, lT1] at c_29 | simp only [Int32.le_iff_toInt_le, Int32.lt_iff_toInt_lt, ← Int32.toInt_inj, iT0, iT1, iT2, iT3, iT4, iT5, iT6, iT7, iT8, iT9, iT10, iT11, iT12, iT13, iT14, iT15, iT16, iT19, iT20, iT31, iT32, iT42, iT64, iT200, iT318, iT319, iT1000, iTm1, iTm2] at c_29 | skip
        refine j_iconst (v := 1) X dX11_signOf_36 rfl ?_
        refine j_istore (L' := [(6, .int 1), (5, .int x_1), (0, .ref (q 0)), (1, .int 9), (2, .long v), (4, .int 2)]) X dX11_signOf_37 (by decide) rfl ?_
        refine j_iload X dX11_signOf_39 1 rfl ?_
        refine j_if_eq (tgt := 56) X dX11_signOf_41 (by decide) (fun c_41 => ?_) (fun c_41 => ?_)
        · skip
          have c_41x := c_41
          rw [ex_1] at c_41x
          refine j_iload X dX11_signOf_56 1 rfl ?_
          refine j_if_eq (tgt := 66) X dX11_signOf_58 (by decide) (fun c_58 => ?_) (fun c_58 => ?_)
          · skip
            have c_58x := c_58
            rw [ex_1] at c_58x
            refine j_iload X dX11_signOf_66 0 rfl ?_
            exact E.2.1 68 _ 1 (z10, z11, z13, z15, sf) _ dX11_signOf_68 (⟨(by rw [so_y (show sg v.toInt * sg z2 = 1 by rw [sg_pos (by omega), sg_pos (by omega)]; decide) (Or.inl rfl) c_58x]), hS⟩) hr rfl
          · skip
            exact absurd c_41 c_58
        · skip
          have c_41x := c_41
          rw [ex_1] at c_41x
          refine j_iload X dX11_signOf_44 0 rfl ?_
          refine j_if_eq (tgt := 56) X dX11_signOf_46 (by decide) (fun c9 => absurd c9 (by decide)) (fun _ => ?_)
          refine j_iload X dX11_signOf_49 1 rfl ?_
          refine j_iload X dX11_signOf_51 0 rfl ?_
          refine j_icmp_ne (tgt := 69) X dX11_signOf_53 (by decide) (fun c_53 => ?_) (fun c_53 => ?_)
          · skip
            have c_53x := c_53
            rw [ex_1] at c_53x
            refine j_aload_n X dX11_signOf_69 rfl 2 rfl ?_
            refine j_bipush (v := 10) X dX11_signOf_70 (by decide) ?_
            refine j_iload_n X dX11_signOf_72 rfl 3 rfl ?_
            refine j_iload_n X dX11_signOf_73 rfl 3 rfl ?_
            obtain ⟨y_2, ey_2⟩ : ∃ zz9 : Int, zz9 = z9 * z9 := ⟨_, rfl⟩
            have by_2 : bd 260 y_2 := by rw [ey_2]; exact bd_mul bu bu
            refine j_callV X dX11_signOf_74 (n_mul l G q t n co cr po tx ty [z0, z1, z2, z3, z4, z5, z6, z7, z8, z9, z10, z11, z12, z13, z14, z15] sf rfl hS 10 10 rfl (by decide) 9 9 rfl (by decide) 9 9 rfl (by decide) (by decide) (by decide) y_2 ey_2) gX11_signOf_X11_multiply rfl hy_X11_multiply_V ⟨Nat.le_of_ble_eq_true rfl, Nat.le_of_ble_eq_true rfl⟩ 0 rfl rfl [0, 1, 2] rfl (by decide) rfl rfl (Nat.le_of_ble_eq_true rfl) ⟨Nat.le_of_ble_eq_true rfl, Nat.le_of_ble_eq_true rfl⟩ ?_
            rintro _ sf_3 ⟨rfl, hS_sf_3⟩
            change J p l e rm_X11_signOf s m args below meth c Q G A 8 0 0 77 [(6, .int 1), (5, .int x_1), (0, .ref (q 0)), (1, .int 9), (2, .long v), (4, .int 2)] [] [(q 0, .inr (10, mF t n q co cr po tx ty)), (q 10, aI G 320 (rg [z0, z1, z2, z3, z4, z5, z6, z7, z8, z9, y_2, z11, z12, z13, z14, z15])), (q 11, aZ G 16 sf_3)]
            refine j_aload_n X dX11_signOf_77 rfl 2 rfl ?_
            refine j_bipush (v := 13) X dX11_signOf_78 (by decide) ?_
            refine j_lload_n X dX11_signOf_80 rfl 4 rfl ?_
            obtain ⟨y_4, ey_4⟩ : ∃ zz9 : Int, zz9 = v.toInt := ⟨_, rfl⟩
            have by_4 : bd 43 y_4 := by rw [ey_4]; exact bv
            refine j_callV X dX11_signOf_81 (n_load l G q t n co cr po tx ty [z0, z1, z2, z3, z4, z5, z6, z7, z8, z9, y_2, z11, z12, z13, z14, z15] sf_3 rfl hS_sf_3 13 13 rfl (by decide) v y_4 ey_4) gX11_signOf_X11_load rfl hy_X11_load_V ⟨Nat.le_of_ble_eq_true rfl, Nat.le_of_ble_eq_true rfl⟩ 0 rfl rfl [0, 1, 2] rfl (by decide) rfl rfl (Nat.le_of_ble_eq_true rfl) ⟨Nat.le_of_ble_eq_true rfl, Nat.le_of_ble_eq_true rfl⟩ ?_
            rintro _ sf_5 ⟨rfl, hS_sf_5⟩
            change J p l e rm_X11_signOf s m args below meth c Q G A 8 0 0 84 [(6, .int 1), (5, .int x_1), (0, .ref (q 0)), (1, .int 9), (2, .long v), (4, .int 2)] [] [(q 0, .inr (10, mF t n q co cr po tx ty)), (q 10, aI G 320 (rg [z0, z1, z2, z3, z4, z5, z6, z7, z8, z9, y_2, z11, z12, y_4, z14, z15])), (q 11, aZ G 16 sf_5)]
            refine j_aload_n X dX11_signOf_84 rfl 2 rfl ?_
            refine j_bipush (v := 15) X dX11_signOf_85 (by decide) ?_
            refine j_bipush (v := 13) X dX11_signOf_87 (by decide) ?_
            refine j_bipush (v := 13) X dX11_signOf_89 (by decide) ?_
            obtain ⟨y_6, ey_6⟩ : ∃ zz9 : Int, zz9 = y_4 * y_4 := ⟨_, rfl⟩
            have by_6 : bd 86 y_6 := by rw [ey_6]; exact bd_mul by_4 by_4
            refine j_callV X dX11_signOf_91 (n_mul l G q t n co cr po tx ty [z0, z1, z2, z3, z4, z5, z6, z7, z8, z9, y_2, z11, z12, y_4, z14, z15] sf_5 rfl hS_sf_5 15 15 rfl (by decide) 13 13 rfl (by decide) 13 13 rfl (by decide) (by decide) (by decide) y_6 ey_6) gX11_signOf_X11_multiply rfl hy_X11_multiply_V ⟨Nat.le_of_ble_eq_true rfl, Nat.le_of_ble_eq_true rfl⟩ 0 rfl rfl [0, 1, 2] rfl (by decide) rfl rfl (Nat.le_of_ble_eq_true rfl) ⟨Nat.le_of_ble_eq_true rfl, Nat.le_of_ble_eq_true rfl⟩ ?_
            rintro _ sf_7 ⟨rfl, hS_sf_7⟩
            change J p l e rm_X11_signOf s m args below meth c Q G A 8 0 0 94 [(6, .int 1), (5, .int x_1), (0, .ref (q 0)), (1, .int 9), (2, .long v), (4, .int 2)] [] [(q 0, .inr (10, mF t n q co cr po tx ty)), (q 10, aI G 320 (rg [z0, z1, z2, z3, z4, z5, z6, z7, z8, z9, y_2, z11, z12, y_4, z14, y_6])), (q 11, aZ G 16 sf_7)]
            refine j_aload_n X dX11_signOf_94 rfl 2 rfl ?_
            refine j_bipush (v := 11) X dX11_signOf_95 (by decide) ?_
            refine j_bipush (v := 15) X dX11_signOf_97 (by decide) ?_
            refine j_iload X dX11_signOf_99 5 rfl ?_
            obtain ⟨y_8, ey_8⟩ : ∃ zz9 : Int, zz9 = y_6 * z2 := ⟨_, rfl⟩
            have by_8 : bd 258 y_8 := by rw [ey_8]; exact bd_mul by_6 br
            refine j_callV X dX11_signOf_101 (n_mul l G q t n co cr po tx ty [z0, z1, z2, z3, z4, z5, z6, z7, z8, z9, y_2, z11, z12, y_4, z14, y_6] sf_7 rfl hS_sf_7 11 11 rfl (by decide) 15 15 rfl (by decide) 2 2 rfl (by decide) (by decide) (by decide) y_8 ey_8) gX11_signOf_X11_multiply rfl hy_X11_multiply_V ⟨Nat.le_of_ble_eq_true rfl, Nat.le_of_ble_eq_true rfl⟩ 0 rfl rfl [0, 1, 2] rfl (by decide) rfl rfl (Nat.le_of_ble_eq_true rfl) ⟨Nat.le_of_ble_eq_true rfl, Nat.le_of_ble_eq_true rfl⟩ ?_
            rintro _ sf_9 ⟨rfl, hS_sf_9⟩
            change J p l e rm_X11_signOf s m args below meth c Q G A 8 0 0 104 [(6, .int 1), (5, .int x_1), (0, .ref (q 0)), (1, .int 9), (2, .long v), (4, .int 2)] [] [(q 0, .inr (10, mF t n q co cr po tx ty)), (q 10, aI G 320 (rg [z0, z1, z2, z3, z4, z5, z6, z7, z8, z9, y_2, y_8, z12, y_4, z14, y_6])), (q 11, aZ G 16 sf_9)]
            refine j_aload_n X dX11_signOf_104 rfl 2 rfl ?_
            refine j_bipush (v := 10) X dX11_signOf_105 (by decide) ?_
            refine j_bipush (v := 11) X dX11_signOf_107 (by decide) ?_
            refine j_callV X dX11_signOf_109 (c_X11_sizes l G q t n co cr po tx ty [z0, z1, z2, z3, z4, z5, z6, z7, z8, z9, y_2, y_8, z12, y_4, z14, y_6] rfl sf_9 10 10 rfl (by decide) 11 11 rfl (by decide) (bd_lt by_2 (by decide)) (bd_lt by_8 (by decide))) gX11_signOf_X11_sizes rfl hy_X11_sizes_V ⟨Nat.le_of_ble_eq_true rfl, Nat.le_of_ble_eq_true rfl⟩ 0 rfl rfl [0, 1, 2] rfl (by decide) rfl rfl (Nat.le_of_ble_eq_true rfl) ⟨Nat.le_of_ble_eq_true rfl, Nat.le_of_ble_eq_true rfl⟩ ?_
            rintro _ ⟨⟩ rfl
            change J p l e rm_X11_signOf s m args below meth c Q G A 8 0 0 112 [(6, .int 1), (5, .int x_1), (0, .ref (q 0)), (1, .int 9), (2, .long v), (4, .int 2)] [.int (sg ((y_2.natAbs : Int) - (y_8.natAbs : Int)))] [(q 0, .inr (10, mF t n q co cr po tx ty)), (q 10, aI G 320 (rg [z0, z1, z2, z3, z4, z5, z6, z7, z8, z9, y_2, y_8, z12, y_4, z14, y_6])), (q 11, aZ G 16 sf_9)]
            refine j_topi (fun x_10 ex_10 => ?_)
            refine j_istore (L' := [(7, .int x_10), (6, .int 1), (5, .int x_1), (0, .ref (q 0)), (1, .int 9), (2, .long v), (4, .int 2)]) X dX11_signOf_112 (by decide) rfl ?_
            refine j_iload X dX11_signOf_114 0 rfl ?_
            refine j_if_ne (tgt := 123) X dX11_signOf_116 (by decide) (fun c_116 => ?_) (fun c_116 => ?_)
            · skip
              have c_116x := c_116
              rw [ex_10] at c_116x
              simp only [sg_e0, sg_le0, Int.not_le] at c_116x
              refine j_iload X dX11_signOf_123 0 rfl ?_
              refine j_if_le (tgt := 133) X dX11_signOf_125 (by decide) (fun c_125 => ?_) (fun c_125 => ?_)
              · skip
                have c_125x := c_125
                rw [ex_10] at c_125x
                simp only [sg_e0, sg_le0, Int.not_le] at c_125x
                refine j_iload X dX11_signOf_133 1 rfl ?_
                exact E.2.1 135 _ 1 (y_2, y_8, y_4, y_6, sf_9) _ dX11_signOf_135 (⟨(by rw [so_m (show sg v.toInt * sg z2 = 1 by rw [sg_pos (by omega), sg_pos (by omega)]; decide) (Or.inl rfl) c_41x c_53x hR ey_2 ey_4 ey_6 ey_8, sg_m1 (by omega), so_op (Or.inl rfl) c_41x c_53x]), hS_sf_9⟩) hr rfl
              · skip
                have c_125x := c_125
                rw [ex_10] at c_125x
                simp only [sg_e0, sg_le0, Int.not_le] at c_125x
                refine j_iload X dX11_signOf_128 2 rfl ?_
                refine j_goto (tgt := 135) X dX11_signOf_130 (by decide) ?_
                exact E.2.1 135 _ x_1 (y_2, y_8, y_4, y_6, sf_9) _ dX11_signOf_135 (⟨(by rw [so_m (show sg v.toInt * sg z2 = 1 by rw [sg_pos (by omega), sg_pos (by omega)]; decide) (Or.inl rfl) c_41x c_53x hR ey_2 ey_4 ey_6 ey_8, sg_1 c_125x]; exact congrArg (fun w => some (Value.int w)) ex_1), hS_sf_9⟩) hr rfl
            · skip
              have c_116x := c_116
              rw [ex_10] at c_116x
              simp only [sg_e0, sg_le0, Int.not_le] at c_116x
              refine j_iconst (v := 0) X dX11_signOf_119 rfl ?_
              refine j_goto (tgt := 135) X dX11_signOf_120 (by decide) ?_
              exact E.2.1 135 _ 0 (y_2, y_8, y_4, y_6, sf_9) _ dX11_signOf_135 (⟨(by rw [so_m (show sg v.toInt * sg z2 = 1 by rw [sg_pos (by omega), sg_pos (by omega)]; decide) (Or.inl rfl) c_41x c_53x hR ey_2 ey_4 ey_6 ey_8, sg_0m c_116x]), hS_sf_9⟩) hr rfl
          · skip
            have c_53x := c_53
            rw [ex_1] at c_53x
            refine j_iload X dX11_signOf_56 1 rfl ?_
            refine j_if_eq (tgt := 66) X dX11_signOf_58 (by decide) (fun c_58 => ?_) (fun c_58 => ?_)
            · skip
              have c_58x := c_58
              rw [ex_1] at c_58x
              refine j_iload X dX11_signOf_66 0 rfl ?_
              exact E.2.1 68 _ 1 (z10, z11, z13, z15, sf) _ dX11_signOf_68 (⟨(by rw [so_y (show sg v.toInt * sg z2 = 1 by rw [sg_pos (by omega), sg_pos (by omega)]; decide) (Or.inl rfl) c_58x]), hS⟩) hr rfl
            · skip
              have c_58x := c_58
              rw [ex_1] at c_58x
              refine j_iload X dX11_signOf_61 1 rfl ?_
              refine j_goto (tgt := 68) X dX11_signOf_63 (by decide) ?_
              exact E.2.1 68 _ x_1 (z10, z11, z13, z15, sf) _ dX11_signOf_68 (⟨(by rw [so_e (show sg v.toInt * sg z2 = 1 by rw [sg_pos (by omega), sg_pos (by omega)]; decide) c_53x]; exact congrArg (fun w => some (Value.int w)) ex_1), hS⟩) hr rfl
      · skip
        first | simp only [bI_0, Decidable.not_not, sg_mul, sg_e0, sg_l0, sg_g0, sg_le0, sg_ge0, cmp_eq, cmp_lt, cmp_ge, cmp_gt, cmp_le, lT0, lT1] at c_29 | simp only [Int32.le_iff_toInt_le, Int32.lt_iff_toInt_lt, ← Int32.toInt_inj, iT0, iT1, iT2, iT3, iT4, iT5, iT6, iT7, iT8, iT9, iT10, iT11, iT12, iT13, iT14, iT15, iT16, iT19, iT20, iT31, iT32, iT42, iT64, iT200, iT318, iT319, iT1000, iTm1, iTm2] at c_29 | skip
        refine j_iconst (v := (-1)) X dX11_signOf_32 rfl ?_
        refine j_goto (tgt := 37) X dX11_signOf_33 (by decide) ?_
        refine j_istore (L' := [(6, .int (-1)), (5, .int x_1), (0, .ref (q 0)), (1, .int 9), (2, .long v), (4, .int 2)]) X dX11_signOf_37 (by decide) rfl ?_
        refine j_iload X dX11_signOf_39 1 rfl ?_
        refine j_if_eq (tgt := 56) X dX11_signOf_41 (by decide) (fun c_41 => ?_) (fun c_41 => ?_)
        · skip
          have c_41x := c_41
          rw [ex_1] at c_41x
          refine j_iload X dX11_signOf_56 1 rfl ?_
          refine j_if_eq (tgt := 66) X dX11_signOf_58 (by decide) (fun c_58 => ?_) (fun c_58 => ?_)
          · skip
            have c_58x := c_58
            rw [ex_1] at c_58x
            refine j_iload X dX11_signOf_66 0 rfl ?_
            exact E.2.1 68 _ (-1) (z10, z11, z13, z15, sf) _ dX11_signOf_68 (⟨(by rw [so_y (show sg v.toInt * sg z2 = (-1) by rw [sg_neg (by omega), sg_pos (by omega)]; decide) (Or.inr rfl) c_58x]), hS⟩) hr rfl
          · skip
            exact absurd c_41 c_58
        · skip
          have c_41x := c_41
          rw [ex_1] at c_41x
          refine j_iload X dX11_signOf_44 0 rfl ?_
          refine j_if_eq (tgt := 56) X dX11_signOf_46 (by decide) (fun c9 => absurd c9 (by decide)) (fun _ => ?_)
          refine j_iload X dX11_signOf_49 1 rfl ?_
          refine j_iload X dX11_signOf_51 0 rfl ?_
          refine j_icmp_ne (tgt := 69) X dX11_signOf_53 (by decide) (fun c_53 => ?_) (fun c_53 => ?_)
          · skip
            have c_53x := c_53
            rw [ex_1] at c_53x
            refine j_aload_n X dX11_signOf_69 rfl 2 rfl ?_
            refine j_bipush (v := 10) X dX11_signOf_70 (by decide) ?_
            refine j_iload_n X dX11_signOf_72 rfl 3 rfl ?_
            refine j_iload_n X dX11_signOf_73 rfl 3 rfl ?_
            obtain ⟨y_11, ey_11⟩ : ∃ zz9 : Int, zz9 = z9 * z9 := ⟨_, rfl⟩
            have by_11 : bd 260 y_11 := by rw [ey_11]; exact bd_mul bu bu
            refine j_callV X dX11_signOf_74 (n_mul l G q t n co cr po tx ty [z0, z1, z2, z3, z4, z5, z6, z7, z8, z9, z10, z11, z12, z13, z14, z15] sf rfl hS 10 10 rfl (by decide) 9 9 rfl (by decide) 9 9 rfl (by decide) (by decide) (by decide) y_11 ey_11) gX11_signOf_X11_multiply rfl hy_X11_multiply_V ⟨Nat.le_of_ble_eq_true rfl, Nat.le_of_ble_eq_true rfl⟩ 0 rfl rfl [0, 1, 2] rfl (by decide) rfl rfl (Nat.le_of_ble_eq_true rfl) ⟨Nat.le_of_ble_eq_true rfl, Nat.le_of_ble_eq_true rfl⟩ ?_
            rintro _ sf_12 ⟨rfl, hS_sf_12⟩
            change J p l e rm_X11_signOf s m args below meth c Q G A 8 0 0 77 [(6, .int (-1)), (5, .int x_1), (0, .ref (q 0)), (1, .int 9), (2, .long v), (4, .int 2)] [] [(q 0, .inr (10, mF t n q co cr po tx ty)), (q 10, aI G 320 (rg [z0, z1, z2, z3, z4, z5, z6, z7, z8, z9, y_11, z11, z12, z13, z14, z15])), (q 11, aZ G 16 sf_12)]
            refine j_aload_n X dX11_signOf_77 rfl 2 rfl ?_
            refine j_bipush (v := 13) X dX11_signOf_78 (by decide) ?_
            refine j_lload_n X dX11_signOf_80 rfl 4 rfl ?_
            obtain ⟨y_13, ey_13⟩ : ∃ zz9 : Int, zz9 = v.toInt := ⟨_, rfl⟩
            have by_13 : bd 43 y_13 := by rw [ey_13]; exact bv
            refine j_callV X dX11_signOf_81 (n_load l G q t n co cr po tx ty [z0, z1, z2, z3, z4, z5, z6, z7, z8, z9, y_11, z11, z12, z13, z14, z15] sf_12 rfl hS_sf_12 13 13 rfl (by decide) v y_13 ey_13) gX11_signOf_X11_load rfl hy_X11_load_V ⟨Nat.le_of_ble_eq_true rfl, Nat.le_of_ble_eq_true rfl⟩ 0 rfl rfl [0, 1, 2] rfl (by decide) rfl rfl (Nat.le_of_ble_eq_true rfl) ⟨Nat.le_of_ble_eq_true rfl, Nat.le_of_ble_eq_true rfl⟩ ?_
            rintro _ sf_14 ⟨rfl, hS_sf_14⟩
            change J p l e rm_X11_signOf s m args below meth c Q G A 8 0 0 84 [(6, .int (-1)), (5, .int x_1), (0, .ref (q 0)), (1, .int 9), (2, .long v), (4, .int 2)] [] [(q 0, .inr (10, mF t n q co cr po tx ty)), (q 10, aI G 320 (rg [z0, z1, z2, z3, z4, z5, z6, z7, z8, z9, y_11, z11, z12, y_13, z14, z15])), (q 11, aZ G 16 sf_14)]
            refine j_aload_n X dX11_signOf_84 rfl 2 rfl ?_
            refine j_bipush (v := 15) X dX11_signOf_85 (by decide) ?_
            refine j_bipush (v := 13) X dX11_signOf_87 (by decide) ?_
            refine j_bipush (v := 13) X dX11_signOf_89 (by decide) ?_
            obtain ⟨y_15, ey_15⟩ : ∃ zz9 : Int, zz9 = y_13 * y_13 := ⟨_, rfl⟩
            have by_15 : bd 86 y_15 := by rw [ey_15]; exact bd_mul by_13 by_13
            refine j_callV X dX11_signOf_91 (n_mul l G q t n co cr po tx ty [z0, z1, z2, z3, z4, z5, z6, z7, z8, z9, y_11, z11, z12, y_13, z14, z15] sf_14 rfl hS_sf_14 15 15 rfl (by decide) 13 13 rfl (by decide) 13 13 rfl (by decide) (by decide) (by decide) y_15 ey_15) gX11_signOf_X11_multiply rfl hy_X11_multiply_V ⟨Nat.le_of_ble_eq_true rfl, Nat.le_of_ble_eq_true rfl⟩ 0 rfl rfl [0, 1, 2] rfl (by decide) rfl rfl (Nat.le_of_ble_eq_true rfl) ⟨Nat.le_of_ble_eq_true rfl, Nat.le_of_ble_eq_true rfl⟩ ?_
            rintro _ sf_16 ⟨rfl, hS_sf_16⟩
            change J p l e rm_X11_signOf s m args below meth c Q G A 8 0 0 94 [(6, .int (-1)), (5, .int x_1), (0, .ref (q 0)), (1, .int 9), (2, .long v), (4, .int 2)] [] [(q 0, .inr (10, mF t n q co cr po tx ty)), (q 10, aI G 320 (rg [z0, z1, z2, z3, z4, z5, z6, z7, z8, z9, y_11, z11, z12, y_13, z14, y_15])), (q 11, aZ G 16 sf_16)]
            refine j_aload_n X dX11_signOf_94 rfl 2 rfl ?_
            refine j_bipush (v := 11) X dX11_signOf_95 (by decide) ?_
            refine j_bipush (v := 15) X dX11_signOf_97 (by decide) ?_
            refine j_iload X dX11_signOf_99 5 rfl ?_
            obtain ⟨y_17, ey_17⟩ : ∃ zz9 : Int, zz9 = y_15 * z2 := ⟨_, rfl⟩
            have by_17 : bd 258 y_17 := by rw [ey_17]; exact bd_mul by_15 br
            refine j_callV X dX11_signOf_101 (n_mul l G q t n co cr po tx ty [z0, z1, z2, z3, z4, z5, z6, z7, z8, z9, y_11, z11, z12, y_13, z14, y_15] sf_16 rfl hS_sf_16 11 11 rfl (by decide) 15 15 rfl (by decide) 2 2 rfl (by decide) (by decide) (by decide) y_17 ey_17) gX11_signOf_X11_multiply rfl hy_X11_multiply_V ⟨Nat.le_of_ble_eq_true rfl, Nat.le_of_ble_eq_true rfl⟩ 0 rfl rfl [0, 1, 2] rfl (by decide) rfl rfl (Nat.le_of_ble_eq_true rfl) ⟨Nat.le_of_ble_eq_true rfl, Nat.le_of_ble_eq_true rfl⟩ ?_
            rintro _ sf_18 ⟨rfl, hS_sf_18⟩
            change J p l e rm_X11_signOf s m args below meth c Q G A 8 0 0 104 [(6, .int (-1)), (5, .int x_1), (0, .ref (q 0)), (1, .int 9), (2, .long v), (4, .int 2)] [] [(q 0, .inr (10, mF t n q co cr po tx ty)), (q 10, aI G 320 (rg [z0, z1, z2, z3, z4, z5, z6, z7, z8, z9, y_11, y_17, z12, y_13, z14, y_15])), (q 11, aZ G 16 sf_18)]
            refine j_aload_n X dX11_signOf_104 rfl 2 rfl ?_
            refine j_bipush (v := 10) X dX11_signOf_105 (by decide) ?_
            refine j_bipush (v := 11) X dX11_signOf_107 (by decide) ?_
            refine j_callV X dX11_signOf_109 (c_X11_sizes l G q t n co cr po tx ty [z0, z1, z2, z3, z4, z5, z6, z7, z8, z9, y_11, y_17, z12, y_13, z14, y_15] rfl sf_18 10 10 rfl (by decide) 11 11 rfl (by decide) (bd_lt by_11 (by decide)) (bd_lt by_17 (by decide))) gX11_signOf_X11_sizes rfl hy_X11_sizes_V ⟨Nat.le_of_ble_eq_true rfl, Nat.le_of_ble_eq_true rfl⟩ 0 rfl rfl [0, 1, 2] rfl (by decide) rfl rfl (Nat.le_of_ble_eq_true rfl) ⟨Nat.le_of_ble_eq_true rfl, Nat.le_of_ble_eq_true rfl⟩ ?_
            rintro _ ⟨⟩ rfl
            change J p l e rm_X11_signOf s m args below meth c Q G A 8 0 0 112 [(6, .int (-1)), (5, .int x_1), (0, .ref (q 0)), (1, .int 9), (2, .long v), (4, .int 2)] [.int (sg ((y_11.natAbs : Int) - (y_17.natAbs : Int)))] [(q 0, .inr (10, mF t n q co cr po tx ty)), (q 10, aI G 320 (rg [z0, z1, z2, z3, z4, z5, z6, z7, z8, z9, y_11, y_17, z12, y_13, z14, y_15])), (q 11, aZ G 16 sf_18)]
            refine j_topi (fun x_19 ex_19 => ?_)
            refine j_istore (L' := [(7, .int x_19), (6, .int (-1)), (5, .int x_1), (0, .ref (q 0)), (1, .int 9), (2, .long v), (4, .int 2)]) X dX11_signOf_112 (by decide) rfl ?_
            refine j_iload X dX11_signOf_114 0 rfl ?_
            refine j_if_ne (tgt := 123) X dX11_signOf_116 (by decide) (fun c_116 => ?_) (fun c_116 => ?_)
            · skip
              have c_116x := c_116
              rw [ex_19] at c_116x
              simp only [sg_e0, sg_le0, Int.not_le] at c_116x
              refine j_iload X dX11_signOf_123 0 rfl ?_
              refine j_if_le (tgt := 133) X dX11_signOf_125 (by decide) (fun c_125 => ?_) (fun c_125 => ?_)
              · skip
                have c_125x := c_125
                rw [ex_19] at c_125x
                simp only [sg_e0, sg_le0, Int.not_le] at c_125x
                refine j_iload X dX11_signOf_133 1 rfl ?_
                exact E.2.1 135 _ (-1) (y_11, y_17, y_13, y_15, sf_18) _ dX11_signOf_135 (⟨(by rw [so_m (show sg v.toInt * sg z2 = (-1) by rw [sg_neg (by omega), sg_pos (by omega)]; decide) (Or.inr rfl) c_41x c_53x hR ey_11 ey_13 ey_15 ey_17, sg_m1 (by omega), so_op (Or.inr rfl) c_41x c_53x]), hS_sf_18⟩) hr rfl
              · skip
                have c_125x := c_125
                rw [ex_19] at c_125x
                simp only [sg_e0, sg_le0, Int.not_le] at c_125x
                refine j_iload X dX11_signOf_128 2 rfl ?_
                refine j_goto (tgt := 135) X dX11_signOf_130 (by decide) ?_
                exact E.2.1 135 _ x_1 (y_11, y_17, y_13, y_15, sf_18) _ dX11_signOf_135 (⟨(by rw [so_m (show sg v.toInt * sg z2 = (-1) by rw [sg_neg (by omega), sg_pos (by omega)]; decide) (Or.inr rfl) c_41x c_53x hR ey_11 ey_13 ey_15 ey_17, sg_1 c_125x]; exact congrArg (fun w => some (Value.int w)) ex_1), hS_sf_18⟩) hr rfl
            · skip
              have c_116x := c_116
              rw [ex_19] at c_116x
              simp only [sg_e0, sg_le0, Int.not_le] at c_116x
              refine j_iconst (v := 0) X dX11_signOf_119 rfl ?_
              refine j_goto (tgt := 135) X dX11_signOf_120 (by decide) ?_
              exact E.2.1 135 _ 0 (y_11, y_17, y_13, y_15, sf_18) _ dX11_signOf_135 (⟨(by rw [so_m (show sg v.toInt * sg z2 = (-1) by rw [sg_neg (by omega), sg_pos (by omega)]; decide) (Or.inr rfl) c_41x c_53x hR ey_11 ey_13 ey_15 ey_17, sg_0m c_116x]), hS_sf_18⟩) hr rfl
          · skip
            have c_53x := c_53
            rw [ex_1] at c_53x
            refine j_iload X dX11_signOf_56 1 rfl ?_
            refine j_if_eq (tgt := 66) X dX11_signOf_58 (by decide) (fun c_58 => ?_) (fun c_58 => ?_)
            · skip
              have c_58x := c_58
              rw [ex_1] at c_58x
              refine j_iload X dX11_signOf_66 0 rfl ?_
              exact E.2.1 68 _ (-1) (z10, z11, z13, z15, sf) _ dX11_signOf_68 (⟨(by rw [so_y (show sg v.toInt * sg z2 = (-1) by rw [sg_neg (by omega), sg_pos (by omega)]; decide) (Or.inr rfl) c_58x]), hS⟩) hr rfl
            · skip
              have c_58x := c_58
              rw [ex_1] at c_58x
              refine j_iload X dX11_signOf_61 1 rfl ?_
              refine j_goto (tgt := 68) X dX11_signOf_63 (by decide) ?_
              exact E.2.1 68 _ x_1 (z10, z11, z13, z15, sf) _ dX11_signOf_68 (⟨(by rw [so_e (show sg v.toInt * sg z2 = (-1) by rw [sg_neg (by omega), sg_pos (by omega)]; decide) c_53x]; exact congrArg (fun w => some (Value.int w)) ex_1), hS⟩) hr rfl
    · skip
      first | simp only [bI_0, Decidable.not_not, sg_mul, sg_e0, sg_l0, sg_g0, sg_le0, sg_ge0, cmp_eq, cmp_lt, cmp_ge, cmp_gt, cmp_le, lT0, lT1] at c_19 | simp only [Int32.le_iff_toInt_le, Int32.lt_iff_toInt_lt, ← Int32.toInt_inj, iT0, iT1, iT2, iT3, iT4, iT5, iT6, iT7, iT8, iT9, iT10, iT11, iT12, iT13, iT14, iT15, iT16, iT19, iT20, iT31, iT32, iT42, iT64, iT200, iT318, iT319, iT1000, iTm1, iTm2] at c_19 | skip
      have hR0 := c_19
      refine j_iconst (v := 0) X dX11_signOf_22 rfl ?_
      refine j_goto (tgt := 37) X dX11_signOf_23 (by decide) ?_
      refine j_istore (L' := [(6, .int 0), (5, .int x_1), (0, .ref (q 0)), (1, .int 9), (2, .long v), (4, .int 2)]) X dX11_signOf_37 (by decide) rfl ?_
      refine j_iload X dX11_signOf_39 1 rfl ?_
      refine j_if_eq (tgt := 56) X dX11_signOf_41 (by decide) (fun c_41 => ?_) (fun c_41 => ?_)
      · skip
        have c_41x := c_41
        rw [ex_1] at c_41x
        refine j_iload X dX11_signOf_56 1 rfl ?_
        refine j_if_eq (tgt := 66) X dX11_signOf_58 (by decide) (fun c_58 => ?_) (fun c_58 => ?_)
        · skip
          have c_58x := c_58
          rw [ex_1] at c_58x
          refine j_iload X dX11_signOf_66 0 rfl ?_
          exact E.2.1 68 _ 0 (z10, z11, z13, z15, sf) _ dX11_signOf_68 (⟨(by rw [so_0 (f := v.toInt) (Or.inr hR0)]; exact congrArg (fun w => some (Value.int w)) (c_58x.symm)), hS⟩) hr rfl
        · skip
          exact absurd c_41 c_58
      · skip
        have c_41x := c_41
        rw [ex_1] at c_41x
        refine j_iload X dX11_signOf_44 0 rfl ?_
        refine j_if_eq (tgt := 56) X dX11_signOf_46 (by decide) (fun _ => ?_) (fun c9 => absurd c9 (by decide))
        refine j_iload X dX11_signOf_56 1 rfl ?_
        refine j_if_eq (tgt := 66) X dX11_signOf_58 (by decide) (fun c_58 => ?_) (fun c_58 => ?_)
        · skip
          have c_58x := c_58
          rw [ex_1] at c_58x
          refine j_iload X dX11_signOf_66 0 rfl ?_
          exact E.2.1 68 _ 0 (z10, z11, z13, z15, sf) _ dX11_signOf_68 (⟨(by rw [so_0 (f := v.toInt) (Or.inr hR0)]; exact congrArg (fun w => some (Value.int w)) (c_58x.symm)), hS⟩) hr rfl
        · skip
          have c_58x := c_58
          rw [ex_1] at c_58x
          refine j_iload X dX11_signOf_61 1 rfl ?_
          refine j_goto (tgt := 68) X dX11_signOf_63 (by decide) ?_
          exact E.2.1 68 _ x_1 (z10, z11, z13, z15, sf) _ dX11_signOf_68 (⟨(by rw [so_0 (f := v.toInt) (Or.inr hR0)]; exact congrArg (fun w => some (Value.int w)) ex_1), hS⟩) hr rfl

set_option maxHeartbeats 4000000 in
set_option maxRecDepth 100000 in
theorem c_X11_signOf_4_2 (l : Launch) (G : jG) (q : Nat → Nat) (t n co cr po : Int32) (tx ty : Int64) (z0 z1 z2 z3 z4 z5 z6 z7 z8 z9 z10 z11 z12 z13 z14 z15 : Int) (sf : Nat → Int32) (hS : okS [z0, z1, z2, z3, z4, z5, z6, z7, z8, z9, z10, z11, z12, z13, z14, z15] sf) (v : Int64) (hR : 0 ≤ z2) (bu : bd 130 z4) (bv : bd 43 v.toInt) (br : bd 172 z2) : Ct l yX11_signOf wsX11_signOf rm_X11_signOf G [.ref (q 0), .int 4, .long v, .int 2] [(q 0, .inr (10, mF t n q co cr po tx ty)), (q 10, aI G 320 (rg [z0, z1, z2, z3, z4, z5, z6, z7, z8, z9, z10, z11, z12, z13, z14, z15])), (q 11, aZ G 16 sf)] (S := Int × Int × Int × Int × (Nat → Int32)) (fun r u => r = some (.int (rn z4 v.toInt z2)) ∧ okS [z0, z1, z2, z3, z4, z5, z6, z7, z8, z9, u.1, u.2.1, z12, u.2.2.1, z14, u.2.2.2.1] u.2.2.2.2) (fun u => [(q 0, .inr (10, mF t n q co cr po tx ty)), (q 10, aI G 320 (rg [z0, z1, z2, z3, z4, z5, z6, z7, z8, z9, u.1, u.2.1, z12, u.2.2.1, z14, u.2.2.2.1])), (q 11, aZ G 16 u.2.2.2.2)]) (fun _ => []) := by
  refine c_intro (cc := cX11_signOf) (maxL := 8) (ret := (some .int)) (by decide) rfl (Nat.le_of_ble_eq_true rfl) (fun _ => by simp only [List.map_cons, List.map_nil]) ?_
  intro p e s m args below meth c Q A X hr hin E
  change J p l e rm_X11_signOf s m args below meth c Q G A 8 0 0 0 [(0, .ref (q 0)), (1, .int 4), (2, .long v), (4, .int 2)] [] [(q 0, .inr (10, mF t n q co cr po tx ty)), (q 10, aI G 320 (rg [z0, z1, z2, z3, z4, z5, z6, z7, z8, z9, z10, z11, z12, z13, z14, z15])), (q 11, aZ G 16 sf)]
  refine j_aload_n X dX11_signOf_0 rfl 0 rfl ?_
  refine j_iload_n X dX11_signOf_1 rfl 1 rfl ?_
  refine j_callV X dX11_signOf_2 (c_X11_sign l G q t n co cr po tx ty [z0, z1, z2, z3, z4, z5, z6, z7, z8, z9, z10, z11, z12, z13, z14, z15] rfl sf 4 4 rfl (by decide) (hS 4 (by decide)) (bd_lt bu (by decide))) gX11_signOf_X11_sign rfl hy_X11_sign_V ⟨Nat.le_of_ble_eq_true rfl, Nat.le_of_ble_eq_true rfl⟩ 0 rfl rfl [0, 1, 2] rfl (by decide) rfl rfl (Nat.le_of_ble_eq_true rfl) ⟨Nat.le_of_ble_eq_true rfl, Nat.le_of_ble_eq_true rfl⟩ ?_
  rintro _ ⟨⟩ rfl
  change J p l e rm_X11_signOf s m args below meth c Q G A 8 0 0 5 [(0, .ref (q 0)), (1, .int 4), (2, .long v), (4, .int 2)] [.int (sg z4)] [(q 0, .inr (10, mF t n q co cr po tx ty)), (q 10, aI G 320 (rg [z0, z1, z2, z3, z4, z5, z6, z7, z8, z9, z10, z11, z12, z13, z14, z15])), (q 11, aZ G 16 sf)]
  refine j_topi (fun x_1 ex_1 => ?_)
  refine j_istore (L' := [(5, .int x_1), (0, .ref (q 0)), (1, .int 4), (2, .long v), (4, .int 2)]) X dX11_signOf_5 (by decide) rfl ?_
  refine j_lload_n X dX11_signOf_7 rfl 3 rfl ?_
  refine j_lconst (v := 0) X dX11_signOf_8 rfl ?_
  refine j_lcmp X dX11_signOf_9 ?_
  refine j_if_eq (tgt := 22) X dX11_signOf_10 (by decide) (fun c_10 => ?_) (fun c_10 => ?_)
  · skip
    first | simp only [bI_0, Decidable.not_not, sg_mul, sg_e0, sg_l0, sg_g0, sg_le0, sg_ge0, cmp_eq, cmp_lt, cmp_ge, cmp_gt, cmp_le, lT0, lT1] at c_10 | simp only [Int32.le_iff_toInt_le, Int32.lt_iff_toInt_lt, ← Int32.toInt_inj, iT0, iT1, iT2, iT3, iT4, iT5, iT6, iT7, iT8, iT9, iT10, iT11, iT12, iT13, iT14, iT15, iT16, iT19, iT20, iT31, iT32, iT42, iT64, iT200, iT318, iT319, iT1000, iTm1, iTm2] at c_10 | skip
    have hv0 := c_10
    refine j_iconst (v := 0) X dX11_signOf_22 rfl ?_
    refine j_goto (tgt := 37) X dX11_signOf_23 (by decide) ?_
    refine j_istore (L' := [(6, .int 0), (5, .int x_1), (0, .ref (q 0)), (1, .int 4), (2, .long v), (4, .int 2)]) X dX11_signOf_37 (by decide) rfl ?_
    refine j_iload X dX11_signOf_39 1 rfl ?_
    refine j_if_eq (tgt := 56) X dX11_signOf_41 (by decide) (fun c_41 => ?_) (fun c_41 => ?_)
    · skip
      have c_41x := c_41
      rw [ex_1] at c_41x
      refine j_iload X dX11_signOf_56 1 rfl ?_
      refine j_if_eq (tgt := 66) X dX11_signOf_58 (by decide) (fun c_58 => ?_) (fun c_58 => ?_)
      · skip
        have c_58x := c_58
        rw [ex_1] at c_58x
        refine j_iload X dX11_signOf_66 0 rfl ?_
        exact E.2.1 68 _ 0 (z10, z11, z13, z15, sf) _ dX11_signOf_68 (⟨(by rw [so_0 (f := v.toInt) (Or.inl hv0)]; exact congrArg (fun w => some (Value.int w)) (c_58x.symm)), hS⟩) hr rfl
      · skip
        exact absurd c_41 c_58
    · skip
      have c_41x := c_41
      rw [ex_1] at c_41x
      refine j_iload X dX11_signOf_44 0 rfl ?_
      refine j_if_eq (tgt := 56) X dX11_signOf_46 (by decide) (fun _ => ?_) (fun c9 => absurd c9 (by decide))
      refine j_iload X dX11_signOf_56 1 rfl ?_
      refine j_if_eq (tgt := 66) X dX11_signOf_58 (by decide) (fun c_58 => ?_) (fun c_58 => ?_)
      · skip
        have c_58x := c_58
        rw [ex_1] at c_58x
        refine j_iload X dX11_signOf_66 0 rfl ?_
        exact E.2.1 68 _ 0 (z10, z11, z13, z15, sf) _ dX11_signOf_68 (⟨(by rw [so_0 (f := v.toInt) (Or.inl hv0)]; exact congrArg (fun w => some (Value.int w)) (c_58x.symm)), hS⟩) hr rfl
      · skip
        have c_58x := c_58
        rw [ex_1] at c_58x
        refine j_iload X dX11_signOf_61 1 rfl ?_
        refine j_goto (tgt := 68) X dX11_signOf_63 (by decide) ?_
        exact E.2.1 68 _ x_1 (z10, z11, z13, z15, sf) _ dX11_signOf_68 (⟨(by rw [so_0 (f := v.toInt) (Or.inl hv0)]; exact congrArg (fun w => some (Value.int w)) ex_1), hS⟩) hr rfl
  · skip
    first | simp only [bI_0, Decidable.not_not, sg_mul, sg_e0, sg_l0, sg_g0, sg_le0, sg_ge0, cmp_eq, cmp_lt, cmp_ge, cmp_gt, cmp_le, lT0, lT1] at c_10 | simp only [Int32.le_iff_toInt_le, Int32.lt_iff_toInt_lt, ← Int32.toInt_inj, iT0, iT1, iT2, iT3, iT4, iT5, iT6, iT7, iT8, iT9, iT10, iT11, iT12, iT13, iT14, iT15, iT16, iT19, iT20, iT31, iT32, iT42, iT64, iT200, iT318, iT319, iT1000, iTm1, iTm2] at c_10 | skip
    refine j_aload_n X dX11_signOf_13 rfl 1 rfl ?_
    refine j_iload X dX11_signOf_14 4 rfl ?_
    refine j_callV X dX11_signOf_16 (c_X11_sign l G q t n co cr po tx ty [z0, z1, z2, z3, z4, z5, z6, z7, z8, z9, z10, z11, z12, z13, z14, z15] rfl sf 2 2 rfl (by decide) (hS 2 (by decide)) (bd_lt br (by decide))) gX11_signOf_X11_sign rfl hy_X11_sign_V ⟨Nat.le_of_ble_eq_true rfl, Nat.le_of_ble_eq_true rfl⟩ 0 rfl rfl [0, 1, 2] rfl (by decide) rfl rfl (Nat.le_of_ble_eq_true rfl) ⟨Nat.le_of_ble_eq_true rfl, Nat.le_of_ble_eq_true rfl⟩ ?_
    rintro _ ⟨⟩ rfl
    change J p l e rm_X11_signOf s m args below meth c Q G A 8 0 0 19 [(5, .int x_1), (0, .ref (q 0)), (1, .int 4), (2, .long v), (4, .int 2)] [.int (sg z2)] [(q 0, .inr (10, mF t n q co cr po tx ty)), (q 10, aI G 320 (rg [z0, z1, z2, z3, z4, z5, z6, z7, z8, z9, z10, z11, z12, z13, z14, z15])), (q 11, aZ G 16 sf)]
    refine j_if_ne (tgt := 26) X dX11_signOf_19 (by decide) (fun c_19 => ?_) (fun c_19 => ?_)
    · skip
      first | simp only [bI_0, Decidable.not_not, sg_mul, sg_e0, sg_l0, sg_g0, sg_le0, sg_ge0, cmp_eq, cmp_lt, cmp_ge, cmp_gt, cmp_le, lT0, lT1] at c_19 | simp only [Int32.le_iff_toInt_le, Int32.lt_iff_toInt_lt, ← Int32.toInt_inj, iT0, iT1, iT2, iT3, iT4, iT5, iT6, iT7, iT8, iT9, iT10, iT11, iT12, iT13, iT14, iT15, iT16, iT19, iT20, iT31, iT32, iT42, iT64, iT200, iT318, iT319, iT1000, iTm1, iTm2] at c_19 | skip
      refine j_lload_n X dX11_signOf_26 rfl 3 rfl ?_
      refine j_lconst (v := 0) X dX11_signOf_27 rfl ?_
      refine j_lcmp X dX11_signOf_28 ?_
      refine j_if_ge (tgt := 36) X dX11_signOf_29 (by decide) (fun c_29 => ?_) (fun c_29 => ?_)
      · skip
        first | simp only [bI_0, Decidable.not_not, sg_mul, sg_e0, sg_l0, sg_g0, sg_le0, sg_ge0, cmp_eq, cmp_lt, cmp_ge, cmp_gt, cmp_le, lT0, lT1] at c_29 | simp only [Int32.le_iff_toInt_le, Int32.lt_iff_toInt_lt, ← Int32.toInt_inj, iT0, iT1, iT2, iT3, iT4, iT5, iT6, iT7, iT8, iT9, iT10, iT11, iT12, iT13, iT14, iT15, iT16, iT19, iT20, iT31, iT32, iT42, iT64, iT200, iT318, iT319, iT1000, iTm1, iTm2] at c_29 | skip
        refine j_iconst (v := 1) X dX11_signOf_36 rfl ?_
        refine j_istore (L' := [(6, .int 1), (5, .int x_1), (0, .ref (q 0)), (1, .int 4), (2, .long v), (4, .int 2)]) X dX11_signOf_37 (by decide) rfl ?_
        refine j_iload X dX11_signOf_39 1 rfl ?_
        refine j_if_eq (tgt := 56) X dX11_signOf_41 (by decide) (fun c_41 => ?_) (fun c_41 => ?_)
        · skip
          have c_41x := c_41
          rw [ex_1] at c_41x
          refine j_iload X dX11_signOf_56 1 rfl ?_
          refine j_if_eq (tgt := 66) X dX11_signOf_58 (by decide) (fun c_58 => ?_) (fun c_58 => ?_)
          · skip
            have c_58x := c_58
            rw [ex_1] at c_58x
            refine j_iload X dX11_signOf_66 0 rfl ?_
            exact E.2.1 68 _ 1 (z10, z11, z13, z15, sf) _ dX11_signOf_68 (⟨(by rw [so_y (show sg v.toInt * sg z2 = 1 by rw [sg_pos (by omega), sg_pos (by omega)]; decide) (Or.inl rfl) c_58x]), hS⟩) hr rfl
          · skip
            exact absurd c_41 c_58
        · skip
          have c_41x := c_41
          rw [ex_1] at c_41x
          refine j_iload X dX11_signOf_44 0 rfl ?_
          refine j_if_eq (tgt := 56) X dX11_signOf_46 (by decide) (fun c9 => absurd c9 (by decide)) (fun _ => ?_)
          refine j_iload X dX11_signOf_49 1 rfl ?_
          refine j_iload X dX11_signOf_51 0 rfl ?_
          refine j_icmp_ne (tgt := 69) X dX11_signOf_53 (by decide) (fun c_53 => ?_) (fun c_53 => ?_)
          · skip
            have c_53x := c_53
            rw [ex_1] at c_53x
            refine j_aload_n X dX11_signOf_69 rfl 2 rfl ?_
            refine j_bipush (v := 10) X dX11_signOf_70 (by decide) ?_
            refine j_iload_n X dX11_signOf_72 rfl 3 rfl ?_
            refine j_iload_n X dX11_signOf_73 rfl 3 rfl ?_
            obtain ⟨y_2, ey_2⟩ : ∃ zz9 : Int, zz9 = z4 * z4 := ⟨_, rfl⟩
            have by_2 : bd 260 y_2 := by rw [ey_2]; exact bd_mul bu bu
            refine j_callV X dX11_signOf_74 (n_mul l G q t n co cr po tx ty [z0, z1, z2, z3, z4, z5, z6, z7, z8, z9, z10, z11, z12, z13, z14, z15] sf rfl hS 10 10 rfl (by decide) 4 4 rfl (by decide) 4 4 rfl (by decide) (by decide) (by decide) y_2 ey_2) gX11_signOf_X11_multiply rfl hy_X11_multiply_V ⟨Nat.le_of_ble_eq_true rfl, Nat.le_of_ble_eq_true rfl⟩ 0 rfl rfl [0, 1, 2] rfl (by decide) rfl rfl (Nat.le_of_ble_eq_true rfl) ⟨Nat.le_of_ble_eq_true rfl, Nat.le_of_ble_eq_true rfl⟩ ?_
            rintro _ sf_3 ⟨rfl, hS_sf_3⟩
            change J p l e rm_X11_signOf s m args below meth c Q G A 8 0 0 77 [(6, .int 1), (5, .int x_1), (0, .ref (q 0)), (1, .int 4), (2, .long v), (4, .int 2)] [] [(q 0, .inr (10, mF t n q co cr po tx ty)), (q 10, aI G 320 (rg [z0, z1, z2, z3, z4, z5, z6, z7, z8, z9, y_2, z11, z12, z13, z14, z15])), (q 11, aZ G 16 sf_3)]
            refine j_aload_n X dX11_signOf_77 rfl 2 rfl ?_
            refine j_bipush (v := 13) X dX11_signOf_78 (by decide) ?_
            refine j_lload_n X dX11_signOf_80 rfl 4 rfl ?_
            obtain ⟨y_4, ey_4⟩ : ∃ zz9 : Int, zz9 = v.toInt := ⟨_, rfl⟩
            have by_4 : bd 43 y_4 := by rw [ey_4]; exact bv
            refine j_callV X dX11_signOf_81 (n_load l G q t n co cr po tx ty [z0, z1, z2, z3, z4, z5, z6, z7, z8, z9, y_2, z11, z12, z13, z14, z15] sf_3 rfl hS_sf_3 13 13 rfl (by decide) v y_4 ey_4) gX11_signOf_X11_load rfl hy_X11_load_V ⟨Nat.le_of_ble_eq_true rfl, Nat.le_of_ble_eq_true rfl⟩ 0 rfl rfl [0, 1, 2] rfl (by decide) rfl rfl (Nat.le_of_ble_eq_true rfl) ⟨Nat.le_of_ble_eq_true rfl, Nat.le_of_ble_eq_true rfl⟩ ?_
            rintro _ sf_5 ⟨rfl, hS_sf_5⟩
            change J p l e rm_X11_signOf s m args below meth c Q G A 8 0 0 84 [(6, .int 1), (5, .int x_1), (0, .ref (q 0)), (1, .int 4), (2, .long v), (4, .int 2)] [] [(q 0, .inr (10, mF t n q co cr po tx ty)), (q 10, aI G 320 (rg [z0, z1, z2, z3, z4, z5, z6, z7, z8, z9, y_2, z11, z12, y_4, z14, z15])), (q 11, aZ G 16 sf_5)]
            refine j_aload_n X dX11_signOf_84 rfl 2 rfl ?_
            refine j_bipush (v := 15) X dX11_signOf_85 (by decide) ?_
            refine j_bipush (v := 13) X dX11_signOf_87 (by decide) ?_
            refine j_bipush (v := 13) X dX11_signOf_89 (by decide) ?_
            obtain ⟨y_6, ey_6⟩ : ∃ zz9 : Int, zz9 = y_4 * y_4 := ⟨_, rfl⟩
            have by_6 : bd 86 y_6 := by rw [ey_6]; exact bd_mul by_4 by_4
            refine j_callV X dX11_signOf_91 (n_mul l G q t n co cr po tx ty [z0, z1, z2, z3, z4, z5, z6, z7, z8, z9, y_2, z11, z12, y_4, z14, z15] sf_5 rfl hS_sf_5 15 15 rfl (by decide) 13 13 rfl (by decide) 13 13 rfl (by decide) (by decide) (by decide) y_6 ey_6) gX11_signOf_X11_multiply rfl hy_X11_multiply_V ⟨Nat.le_of_ble_eq_true rfl, Nat.le_of_ble_eq_true rfl⟩ 0 rfl rfl [0, 1, 2] rfl (by decide) rfl rfl (Nat.le_of_ble_eq_true rfl) ⟨Nat.le_of_ble_eq_true rfl, Nat.le_of_ble_eq_true rfl⟩ ?_
            rintro _ sf_7 ⟨rfl, hS_sf_7⟩
            change J p l e rm_X11_signOf s m args below meth c Q G A 8 0 0 94 [(6, .int 1), (5, .int x_1), (0, .ref (q 0)), (1, .int 4), (2, .long v), (4, .int 2)] [] [(q 0, .inr (10, mF t n q co cr po tx ty)), (q 10, aI G 320 (rg [z0, z1, z2, z3, z4, z5, z6, z7, z8, z9, y_2, z11, z12, y_4, z14, y_6])), (q 11, aZ G 16 sf_7)]
            refine j_aload_n X dX11_signOf_94 rfl 2 rfl ?_
            refine j_bipush (v := 11) X dX11_signOf_95 (by decide) ?_
            refine j_bipush (v := 15) X dX11_signOf_97 (by decide) ?_
            refine j_iload X dX11_signOf_99 5 rfl ?_
            obtain ⟨y_8, ey_8⟩ : ∃ zz9 : Int, zz9 = y_6 * z2 := ⟨_, rfl⟩
            have by_8 : bd 258 y_8 := by rw [ey_8]; exact bd_mul by_6 br
            refine j_callV X dX11_signOf_101 (n_mul l G q t n co cr po tx ty [z0, z1, z2, z3, z4, z5, z6, z7, z8, z9, y_2, z11, z12, y_4, z14, y_6] sf_7 rfl hS_sf_7 11 11 rfl (by decide) 15 15 rfl (by decide) 2 2 rfl (by decide) (by decide) (by decide) y_8 ey_8) gX11_signOf_X11_multiply rfl hy_X11_multiply_V ⟨Nat.le_of_ble_eq_true rfl, Nat.le_of_ble_eq_true rfl⟩ 0 rfl rfl [0, 1, 2] rfl (by decide) rfl rfl (Nat.le_of_ble_eq_true rfl) ⟨Nat.le_of_ble_eq_true rfl, Nat.le_of_ble_eq_true rfl⟩ ?_
            rintro _ sf_9 ⟨rfl, hS_sf_9⟩
            change J p l e rm_X11_signOf s m args below meth c Q G A 8 0 0 104 [(6, .int 1), (5, .int x_1), (0, .ref (q 0)), (1, .int 4), (2, .long v), (4, .int 2)] [] [(q 0, .inr (10, mF t n q co cr po tx ty)), (q 10, aI G 320 (rg [z0, z1, z2, z3, z4, z5, z6, z7, z8, z9, y_2, y_8, z12, y_4, z14, y_6])), (q 11, aZ G 16 sf_9)]
            refine j_aload_n X dX11_signOf_104 rfl 2 rfl ?_
            refine j_bipush (v := 10) X dX11_signOf_105 (by decide) ?_
            refine j_bipush (v := 11) X dX11_signOf_107 (by decide) ?_
            refine j_callV X dX11_signOf_109 (c_X11_sizes l G q t n co cr po tx ty [z0, z1, z2, z3, z4, z5, z6, z7, z8, z9, y_2, y_8, z12, y_4, z14, y_6] rfl sf_9 10 10 rfl (by decide) 11 11 rfl (by decide) (bd_lt by_2 (by decide)) (bd_lt by_8 (by decide))) gX11_signOf_X11_sizes rfl hy_X11_sizes_V ⟨Nat.le_of_ble_eq_true rfl, Nat.le_of_ble_eq_true rfl⟩ 0 rfl rfl [0, 1, 2] rfl (by decide) rfl rfl (Nat.le_of_ble_eq_true rfl) ⟨Nat.le_of_ble_eq_true rfl, Nat.le_of_ble_eq_true rfl⟩ ?_
            rintro _ ⟨⟩ rfl
            change J p l e rm_X11_signOf s m args below meth c Q G A 8 0 0 112 [(6, .int 1), (5, .int x_1), (0, .ref (q 0)), (1, .int 4), (2, .long v), (4, .int 2)] [.int (sg ((y_2.natAbs : Int) - (y_8.natAbs : Int)))] [(q 0, .inr (10, mF t n q co cr po tx ty)), (q 10, aI G 320 (rg [z0, z1, z2, z3, z4, z5, z6, z7, z8, z9, y_2, y_8, z12, y_4, z14, y_6])), (q 11, aZ G 16 sf_9)]
            refine j_topi (fun x_10 ex_10 => ?_)
            refine j_istore (L' := [(7, .int x_10), (6, .int 1), (5, .int x_1), (0, .ref (q 0)), (1, .int 4), (2, .long v), (4, .int 2)]) X dX11_signOf_112 (by decide) rfl ?_
            refine j_iload X dX11_signOf_114 0 rfl ?_
            refine j_if_ne (tgt := 123) X dX11_signOf_116 (by decide) (fun c_116 => ?_) (fun c_116 => ?_)
            · skip
              have c_116x := c_116
              rw [ex_10] at c_116x
              simp only [sg_e0, sg_le0, Int.not_le] at c_116x
              refine j_iload X dX11_signOf_123 0 rfl ?_
              refine j_if_le (tgt := 133) X dX11_signOf_125 (by decide) (fun c_125 => ?_) (fun c_125 => ?_)
              · skip
                have c_125x := c_125
                rw [ex_10] at c_125x
                simp only [sg_e0, sg_le0, Int.not_le] at c_125x
                refine j_iload X dX11_signOf_133 1 rfl ?_
                exact E.2.1 135 _ 1 (y_2, y_8, y_4, y_6, sf_9) _ dX11_signOf_135 (⟨(by rw [so_m (show sg v.toInt * sg z2 = 1 by rw [sg_pos (by omega), sg_pos (by omega)]; decide) (Or.inl rfl) c_41x c_53x hR ey_2 ey_4 ey_6 ey_8, sg_m1 (by omega), so_op (Or.inl rfl) c_41x c_53x]), hS_sf_9⟩) hr rfl
              · skip
                have c_125x := c_125
                rw [ex_10] at c_125x
                simp only [sg_e0, sg_le0, Int.not_le] at c_125x
                refine j_iload X dX11_signOf_128 2 rfl ?_
                refine j_goto (tgt := 135) X dX11_signOf_130 (by decide) ?_
                exact E.2.1 135 _ x_1 (y_2, y_8, y_4, y_6, sf_9) _ dX11_signOf_135 (⟨(by rw [so_m (show sg v.toInt * sg z2 = 1 by rw [sg_pos (by omega), sg_pos (by omega)]; decide) (Or.inl rfl) c_41x c_53x hR ey_2 ey_4 ey_6 ey_8, sg_1 c_125x]; exact congrArg (fun w => some (Value.int w)) ex_1), hS_sf_9⟩) hr rfl
            · skip
              have c_116x := c_116
              rw [ex_10] at c_116x
              simp only [sg_e0, sg_le0, Int.not_le] at c_116x
              refine j_iconst (v := 0) X dX11_signOf_119 rfl ?_
              refine j_goto (tgt := 135) X dX11_signOf_120 (by decide) ?_
              exact E.2.1 135 _ 0 (y_2, y_8, y_4, y_6, sf_9) _ dX11_signOf_135 (⟨(by rw [so_m (show sg v.toInt * sg z2 = 1 by rw [sg_pos (by omega), sg_pos (by omega)]; decide) (Or.inl rfl) c_41x c_53x hR ey_2 ey_4 ey_6 ey_8, sg_0m c_116x]), hS_sf_9⟩) hr rfl
          · skip
            have c_53x := c_53
            rw [ex_1] at c_53x
            refine j_iload X dX11_signOf_56 1 rfl ?_
            refine j_if_eq (tgt := 66) X dX11_signOf_58 (by decide) (fun c_58 => ?_) (fun c_58 => ?_)
            · skip
              have c_58x := c_58
              rw [ex_1] at c_58x
              refine j_iload X dX11_signOf_66 0 rfl ?_
              exact E.2.1 68 _ 1 (z10, z11, z13, z15, sf) _ dX11_signOf_68 (⟨(by rw [so_y (show sg v.toInt * sg z2 = 1 by rw [sg_pos (by omega), sg_pos (by omega)]; decide) (Or.inl rfl) c_58x]), hS⟩) hr rfl
            · skip
              have c_58x := c_58
              rw [ex_1] at c_58x
              refine j_iload X dX11_signOf_61 1 rfl ?_
              refine j_goto (tgt := 68) X dX11_signOf_63 (by decide) ?_
              exact E.2.1 68 _ x_1 (z10, z11, z13, z15, sf) _ dX11_signOf_68 (⟨(by rw [so_e (show sg v.toInt * sg z2 = 1 by rw [sg_pos (by omega), sg_pos (by omega)]; decide) c_53x]; exact congrArg (fun w => some (Value.int w)) ex_1), hS⟩) hr rfl
      · skip
        first | simp only [bI_0, Decidable.not_not, sg_mul, sg_e0, sg_l0, sg_g0, sg_le0, sg_ge0, cmp_eq, cmp_lt, cmp_ge, cmp_gt, cmp_le, lT0, lT1] at c_29 | simp only [Int32.le_iff_toInt_le, Int32.lt_iff_toInt_lt, ← Int32.toInt_inj, iT0, iT1, iT2, iT3, iT4, iT5, iT6, iT7, iT8, iT9, iT10, iT11, iT12, iT13, iT14, iT15, iT16, iT19, iT20, iT31, iT32, iT42, iT64, iT200, iT318, iT319, iT1000, iTm1, iTm2] at c_29 | skip
        refine j_iconst (v := (-1)) X dX11_signOf_32 rfl ?_
        refine j_goto (tgt := 37) X dX11_signOf_33 (by decide) ?_
        refine j_istore (L' := [(6, .int (-1)), (5, .int x_1), (0, .ref (q 0)), (1, .int 4), (2, .long v), (4, .int 2)]) X dX11_signOf_37 (by decide) rfl ?_
        refine j_iload X dX11_signOf_39 1 rfl ?_
        refine j_if_eq (tgt := 56) X dX11_signOf_41 (by decide) (fun c_41 => ?_) (fun c_41 => ?_)
        · skip
          have c_41x := c_41
          rw [ex_1] at c_41x
          refine j_iload X dX11_signOf_56 1 rfl ?_
          refine j_if_eq (tgt := 66) X dX11_signOf_58 (by decide) (fun c_58 => ?_) (fun c_58 => ?_)
          · skip
            have c_58x := c_58
            rw [ex_1] at c_58x
            refine j_iload X dX11_signOf_66 0 rfl ?_
            exact E.2.1 68 _ (-1) (z10, z11, z13, z15, sf) _ dX11_signOf_68 (⟨(by rw [so_y (show sg v.toInt * sg z2 = (-1) by rw [sg_neg (by omega), sg_pos (by omega)]; decide) (Or.inr rfl) c_58x]), hS⟩) hr rfl
          · skip
            exact absurd c_41 c_58
        · skip
          have c_41x := c_41
          rw [ex_1] at c_41x
          refine j_iload X dX11_signOf_44 0 rfl ?_
          refine j_if_eq (tgt := 56) X dX11_signOf_46 (by decide) (fun c9 => absurd c9 (by decide)) (fun _ => ?_)
          refine j_iload X dX11_signOf_49 1 rfl ?_
          refine j_iload X dX11_signOf_51 0 rfl ?_
          refine j_icmp_ne (tgt := 69) X dX11_signOf_53 (by decide) (fun c_53 => ?_) (fun c_53 => ?_)
          · skip
            have c_53x := c_53
            rw [ex_1] at c_53x
            refine j_aload_n X dX11_signOf_69 rfl 2 rfl ?_
            refine j_bipush (v := 10) X dX11_signOf_70 (by decide) ?_
            refine j_iload_n X dX11_signOf_72 rfl 3 rfl ?_
            refine j_iload_n X dX11_signOf_73 rfl 3 rfl ?_
            obtain ⟨y_11, ey_11⟩ : ∃ zz9 : Int, zz9 = z4 * z4 := ⟨_, rfl⟩
            have by_11 : bd 260 y_11 := by rw [ey_11]; exact bd_mul bu bu
            refine j_callV X dX11_signOf_74 (n_mul l G q t n co cr po tx ty [z0, z1, z2, z3, z4, z5, z6, z7, z8, z9, z10, z11, z12, z13, z14, z15] sf rfl hS 10 10 rfl (by decide) 4 4 rfl (by decide) 4 4 rfl (by decide) (by decide) (by decide) y_11 ey_11) gX11_signOf_X11_multiply rfl hy_X11_multiply_V ⟨Nat.le_of_ble_eq_true rfl, Nat.le_of_ble_eq_true rfl⟩ 0 rfl rfl [0, 1, 2] rfl (by decide) rfl rfl (Nat.le_of_ble_eq_true rfl) ⟨Nat.le_of_ble_eq_true rfl, Nat.le_of_ble_eq_true rfl⟩ ?_
            rintro _ sf_12 ⟨rfl, hS_sf_12⟩
            change J p l e rm_X11_signOf s m args below meth c Q G A 8 0 0 77 [(6, .int (-1)), (5, .int x_1), (0, .ref (q 0)), (1, .int 4), (2, .long v), (4, .int 2)] [] [(q 0, .inr (10, mF t n q co cr po tx ty)), (q 10, aI G 320 (rg [z0, z1, z2, z3, z4, z5, z6, z7, z8, z9, y_11, z11, z12, z13, z14, z15])), (q 11, aZ G 16 sf_12)]
            refine j_aload_n X dX11_signOf_77 rfl 2 rfl ?_
            refine j_bipush (v := 13) X dX11_signOf_78 (by decide) ?_
            refine j_lload_n X dX11_signOf_80 rfl 4 rfl ?_
            obtain ⟨y_13, ey_13⟩ : ∃ zz9 : Int, zz9 = v.toInt := ⟨_, rfl⟩
            have by_13 : bd 43 y_13 := by rw [ey_13]; exact bv
            refine j_callV X dX11_signOf_81 (n_load l G q t n co cr po tx ty [z0, z1, z2, z3, z4, z5, z6, z7, z8, z9, y_11, z11, z12, z13, z14, z15] sf_12 rfl hS_sf_12 13 13 rfl (by decide) v y_13 ey_13) gX11_signOf_X11_load rfl hy_X11_load_V ⟨Nat.le_of_ble_eq_true rfl, Nat.le_of_ble_eq_true rfl⟩ 0 rfl rfl [0, 1, 2] rfl (by decide) rfl rfl (Nat.le_of_ble_eq_true rfl) ⟨Nat.le_of_ble_eq_true rfl, Nat.le_of_ble_eq_true rfl⟩ ?_
            rintro _ sf_14 ⟨rfl, hS_sf_14⟩
            change J p l e rm_X11_signOf s m args below meth c Q G A 8 0 0 84 [(6, .int (-1)), (5, .int x_1), (0, .ref (q 0)), (1, .int 4), (2, .long v), (4, .int 2)] [] [(q 0, .inr (10, mF t n q co cr po tx ty)), (q 10, aI G 320 (rg [z0, z1, z2, z3, z4, z5, z6, z7, z8, z9, y_11, z11, z12, y_13, z14, z15])), (q 11, aZ G 16 sf_14)]
            refine j_aload_n X dX11_signOf_84 rfl 2 rfl ?_
            refine j_bipush (v := 15) X dX11_signOf_85 (by decide) ?_
            refine j_bipush (v := 13) X dX11_signOf_87 (by decide) ?_
            refine j_bipush (v := 13) X dX11_signOf_89 (by decide) ?_
            obtain ⟨y_15, ey_15⟩ : ∃ zz9 : Int, zz9 = y_13 * y_13 := ⟨_, rfl⟩
            have by_15 : bd 86 y_15 := by rw [ey_15]; exact bd_mul by_13 by_13
            refine j_callV X dX11_signOf_91 (n_mul l G q t n co cr po tx ty [z0, z1, z2, z3, z4, z5, z6, z7, z8, z9, y_11, z11, z12, y_13, z14, z15] sf_14 rfl hS_sf_14 15 15 rfl (by decide) 13 13 rfl (by decide) 13 13 rfl (by decide) (by decide) (by decide) y_15 ey_15) gX11_signOf_X11_multiply rfl hy_X11_multiply_V ⟨Nat.le_of_ble_eq_true rfl, Nat.le_of_ble_eq_true rfl⟩ 0 rfl rfl [0, 1, 2] rfl (by decide) rfl rfl (Nat.le_of_ble_eq_true rfl) ⟨Nat.le_of_ble_eq_true rfl, Nat.le_of_ble_eq_true rfl⟩ ?_
            rintro _ sf_16 ⟨rfl, hS_sf_16⟩
            change J p l e rm_X11_signOf s m args below meth c Q G A 8 0 0 94 [(6, .int (-1)), (5, .int x_1), (0, .ref (q 0)), (1, .int 4), (2, .long v), (4, .int 2)] [] [(q 0, .inr (10, mF t n q co cr po tx ty)), (q 10, aI G 320 (rg [z0, z1, z2, z3, z4, z5, z6, z7, z8, z9, y_11, z11, z12, y_13, z14, y_15])), (q 11, aZ G 16 sf_16)]
            refine j_aload_n X dX11_signOf_94 rfl 2 rfl ?_
            refine j_bipush (v := 11) X dX11_signOf_95 (by decide) ?_
            refine j_bipush (v := 15) X dX11_signOf_97 (by decide) ?_
            refine j_iload X dX11_signOf_99 5 rfl ?_
            obtain ⟨y_17, ey_17⟩ : ∃ zz9 : Int, zz9 = y_15 * z2 := ⟨_, rfl⟩
            have by_17 : bd 258 y_17 := by rw [ey_17]; exact bd_mul by_15 br
            refine j_callV X dX11_signOf_101 (n_mul l G q t n co cr po tx ty [z0, z1, z2, z3, z4, z5, z6, z7, z8, z9, y_11, z11, z12, y_13, z14, y_15] sf_16 rfl hS_sf_16 11 11 rfl (by decide) 15 15 rfl (by decide) 2 2 rfl (by decide) (by decide) (by decide) y_17 ey_17) gX11_signOf_X11_multiply rfl hy_X11_multiply_V ⟨Nat.le_of_ble_eq_true rfl, Nat.le_of_ble_eq_true rfl⟩ 0 rfl rfl [0, 1, 2] rfl (by decide) rfl rfl (Nat.le_of_ble_eq_true rfl) ⟨Nat.le_of_ble_eq_true rfl, Nat.le_of_ble_eq_true rfl⟩ ?_
            rintro _ sf_18 ⟨rfl, hS_sf_18⟩
            change J p l e rm_X11_signOf s m args below meth c Q G A 8 0 0 104 [(6, .int (-1)), (5, .int x_1), (0, .ref (q 0)), (1, .int 4), (2, .long v), (4, .int 2)] [] [(q 0, .inr (10, mF t n q co cr po tx ty)), (q 10, aI G 320 (rg [z0, z1, z2, z3, z4, z5, z6, z7, z8, z9, y_11, y_17, z12, y_13, z14, y_15])), (q 11, aZ G 16 sf_18)]
            refine j_aload_n X dX11_signOf_104 rfl 2 rfl ?_
            refine j_bipush (v := 10) X dX11_signOf_105 (by decide) ?_
            refine j_bipush (v := 11) X dX11_signOf_107 (by decide) ?_
            refine j_callV X dX11_signOf_109 (c_X11_sizes l G q t n co cr po tx ty [z0, z1, z2, z3, z4, z5, z6, z7, z8, z9, y_11, y_17, z12, y_13, z14, y_15] rfl sf_18 10 10 rfl (by decide) 11 11 rfl (by decide) (bd_lt by_11 (by decide)) (bd_lt by_17 (by decide))) gX11_signOf_X11_sizes rfl hy_X11_sizes_V ⟨Nat.le_of_ble_eq_true rfl, Nat.le_of_ble_eq_true rfl⟩ 0 rfl rfl [0, 1, 2] rfl (by decide) rfl rfl (Nat.le_of_ble_eq_true rfl) ⟨Nat.le_of_ble_eq_true rfl, Nat.le_of_ble_eq_true rfl⟩ ?_
            rintro _ ⟨⟩ rfl
            change J p l e rm_X11_signOf s m args below meth c Q G A 8 0 0 112 [(6, .int (-1)), (5, .int x_1), (0, .ref (q 0)), (1, .int 4), (2, .long v), (4, .int 2)] [.int (sg ((y_11.natAbs : Int) - (y_17.natAbs : Int)))] [(q 0, .inr (10, mF t n q co cr po tx ty)), (q 10, aI G 320 (rg [z0, z1, z2, z3, z4, z5, z6, z7, z8, z9, y_11, y_17, z12, y_13, z14, y_15])), (q 11, aZ G 16 sf_18)]
            refine j_topi (fun x_19 ex_19 => ?_)
            refine j_istore (L' := [(7, .int x_19), (6, .int (-1)), (5, .int x_1), (0, .ref (q 0)), (1, .int 4), (2, .long v), (4, .int 2)]) X dX11_signOf_112 (by decide) rfl ?_
            refine j_iload X dX11_signOf_114 0 rfl ?_
            refine j_if_ne (tgt := 123) X dX11_signOf_116 (by decide) (fun c_116 => ?_) (fun c_116 => ?_)
            · skip
              have c_116x := c_116
              rw [ex_19] at c_116x
              simp only [sg_e0, sg_le0, Int.not_le] at c_116x
              refine j_iload X dX11_signOf_123 0 rfl ?_
              refine j_if_le (tgt := 133) X dX11_signOf_125 (by decide) (fun c_125 => ?_) (fun c_125 => ?_)
              · skip
                have c_125x := c_125
                rw [ex_19] at c_125x
                simp only [sg_e0, sg_le0, Int.not_le] at c_125x
                refine j_iload X dX11_signOf_133 1 rfl ?_
                exact E.2.1 135 _ (-1) (y_11, y_17, y_13, y_15, sf_18) _ dX11_signOf_135 (⟨(by rw [so_m (show sg v.toInt * sg z2 = (-1) by rw [sg_neg (by omega), sg_pos (by omega)]; decide) (Or.inr rfl) c_41x c_53x hR ey_11 ey_13 ey_15 ey_17, sg_m1 (by omega), so_op (Or.inr rfl) c_41x c_53x]), hS_sf_18⟩) hr rfl
              · skip
                have c_125x := c_125
                rw [ex_19] at c_125x
                simp only [sg_e0, sg_le0, Int.not_le] at c_125x
                refine j_iload X dX11_signOf_128 2 rfl ?_
                refine j_goto (tgt := 135) X dX11_signOf_130 (by decide) ?_
                exact E.2.1 135 _ x_1 (y_11, y_17, y_13, y_15, sf_18) _ dX11_signOf_135 (⟨(by rw [so_m (show sg v.toInt * sg z2 = (-1) by rw [sg_neg (by omega), sg_pos (by omega)]; decide) (Or.inr rfl) c_41x c_53x hR ey_11 ey_13 ey_15 ey_17, sg_1 c_125x]; exact congrArg (fun w => some (Value.int w)) ex_1), hS_sf_18⟩) hr rfl
            · skip
              have c_116x := c_116
              rw [ex_19] at c_116x
              simp only [sg_e0, sg_le0, Int.not_le] at c_116x
              refine j_iconst (v := 0) X dX11_signOf_119 rfl ?_
              refine j_goto (tgt := 135) X dX11_signOf_120 (by decide) ?_
              exact E.2.1 135 _ 0 (y_11, y_17, y_13, y_15, sf_18) _ dX11_signOf_135 (⟨(by rw [so_m (show sg v.toInt * sg z2 = (-1) by rw [sg_neg (by omega), sg_pos (by omega)]; decide) (Or.inr rfl) c_41x c_53x hR ey_11 ey_13 ey_15 ey_17, sg_0m c_116x]), hS_sf_18⟩) hr rfl
          · skip
            have c_53x := c_53
            rw [ex_1] at c_53x
            refine j_iload X dX11_signOf_56 1 rfl ?_
            refine j_if_eq (tgt := 66) X dX11_signOf_58 (by decide) (fun c_58 => ?_) (fun c_58 => ?_)
            · skip
              have c_58x := c_58
              rw [ex_1] at c_58x
              refine j_iload X dX11_signOf_66 0 rfl ?_
              exact E.2.1 68 _ (-1) (z10, z11, z13, z15, sf) _ dX11_signOf_68 (⟨(by rw [so_y (show sg v.toInt * sg z2 = (-1) by rw [sg_neg (by omega), sg_pos (by omega)]; decide) (Or.inr rfl) c_58x]), hS⟩) hr rfl
            · skip
              have c_58x := c_58
              rw [ex_1] at c_58x
              refine j_iload X dX11_signOf_61 1 rfl ?_
              refine j_goto (tgt := 68) X dX11_signOf_63 (by decide) ?_
              exact E.2.1 68 _ x_1 (z10, z11, z13, z15, sf) _ dX11_signOf_68 (⟨(by rw [so_e (show sg v.toInt * sg z2 = (-1) by rw [sg_neg (by omega), sg_pos (by omega)]; decide) c_53x]; exact congrArg (fun w => some (Value.int w)) ex_1), hS⟩) hr rfl
    · skip
      first | simp only [bI_0, Decidable.not_not, sg_mul, sg_e0, sg_l0, sg_g0, sg_le0, sg_ge0, cmp_eq, cmp_lt, cmp_ge, cmp_gt, cmp_le, lT0, lT1] at c_19 | simp only [Int32.le_iff_toInt_le, Int32.lt_iff_toInt_lt, ← Int32.toInt_inj, iT0, iT1, iT2, iT3, iT4, iT5, iT6, iT7, iT8, iT9, iT10, iT11, iT12, iT13, iT14, iT15, iT16, iT19, iT20, iT31, iT32, iT42, iT64, iT200, iT318, iT319, iT1000, iTm1, iTm2] at c_19 | skip
      have hR0 := c_19
      refine j_iconst (v := 0) X dX11_signOf_22 rfl ?_
      refine j_goto (tgt := 37) X dX11_signOf_23 (by decide) ?_
      refine j_istore (L' := [(6, .int 0), (5, .int x_1), (0, .ref (q 0)), (1, .int 4), (2, .long v), (4, .int 2)]) X dX11_signOf_37 (by decide) rfl ?_
      refine j_iload X dX11_signOf_39 1 rfl ?_
      refine j_if_eq (tgt := 56) X dX11_signOf_41 (by decide) (fun c_41 => ?_) (fun c_41 => ?_)
      · skip
        have c_41x := c_41
        rw [ex_1] at c_41x
        refine j_iload X dX11_signOf_56 1 rfl ?_
        refine j_if_eq (tgt := 66) X dX11_signOf_58 (by decide) (fun c_58 => ?_) (fun c_58 => ?_)
        · skip
          have c_58x := c_58
          rw [ex_1] at c_58x
          refine j_iload X dX11_signOf_66 0 rfl ?_
          exact E.2.1 68 _ 0 (z10, z11, z13, z15, sf) _ dX11_signOf_68 (⟨(by rw [so_0 (f := v.toInt) (Or.inr hR0)]; exact congrArg (fun w => some (Value.int w)) (c_58x.symm)), hS⟩) hr rfl
        · skip
          exact absurd c_41 c_58
      · skip
        have c_41x := c_41
        rw [ex_1] at c_41x
        refine j_iload X dX11_signOf_44 0 rfl ?_
        refine j_if_eq (tgt := 56) X dX11_signOf_46 (by decide) (fun _ => ?_) (fun c9 => absurd c9 (by decide))
        refine j_iload X dX11_signOf_56 1 rfl ?_
        refine j_if_eq (tgt := 66) X dX11_signOf_58 (by decide) (fun c_58 => ?_) (fun c_58 => ?_)
        · skip
          have c_58x := c_58
          rw [ex_1] at c_58x
          refine j_iload X dX11_signOf_66 0 rfl ?_
          exact E.2.1 68 _ 0 (z10, z11, z13, z15, sf) _ dX11_signOf_68 (⟨(by rw [so_0 (f := v.toInt) (Or.inr hR0)]; exact congrArg (fun w => some (Value.int w)) (c_58x.symm)), hS⟩) hr rfl
        · skip
          have c_58x := c_58
          rw [ex_1] at c_58x
          refine j_iload X dX11_signOf_61 1 rfl ?_
          refine j_goto (tgt := 68) X dX11_signOf_63 (by decide) ?_
          exact E.2.1 68 _ x_1 (z10, z11, z13, z15, sf) _ dX11_signOf_68 (⟨(by rw [so_0 (f := v.toInt) (Or.inr hR0)]; exact congrArg (fun w => some (Value.int w)) ex_1), hS⟩) hr rfl

set_option maxHeartbeats 4000000 in
set_option maxRecDepth 100000 in
theorem c_X11_signOf_5_2 (l : Launch) (G : jG) (q : Nat → Nat) (t n co cr po : Int32) (tx ty : Int64) (z0 z1 z2 z3 z4 z5 z6 z7 z8 z9 z10 z11 z12 z13 z14 z15 : Int) (sf : Nat → Int32) (hS : okS [z0, z1, z2, z3, z4, z5, z6, z7, z8, z9, z10, z11, z12, z13, z14, z15] sf) (v : Int64) (hR : 0 ≤ z2) (bu : bd 130 z5) (bv : bd 43 v.toInt) (br : bd 172 z2) : Ct l yX11_signOf wsX11_signOf rm_X11_signOf G [.ref (q 0), .int 5, .long v, .int 2] [(q 0, .inr (10, mF t n q co cr po tx ty)), (q 10, aI G 320 (rg [z0, z1, z2, z3, z4, z5, z6, z7, z8, z9, z10, z11, z12, z13, z14, z15])), (q 11, aZ G 16 sf)] (S := Int × Int × Int × Int × (Nat → Int32)) (fun r u => r = some (.int (rn z5 v.toInt z2)) ∧ okS [z0, z1, z2, z3, z4, z5, z6, z7, z8, z9, u.1, u.2.1, z12, u.2.2.1, z14, u.2.2.2.1] u.2.2.2.2) (fun u => [(q 0, .inr (10, mF t n q co cr po tx ty)), (q 10, aI G 320 (rg [z0, z1, z2, z3, z4, z5, z6, z7, z8, z9, u.1, u.2.1, z12, u.2.2.1, z14, u.2.2.2.1])), (q 11, aZ G 16 u.2.2.2.2)]) (fun _ => []) := by
  refine c_intro (cc := cX11_signOf) (maxL := 8) (ret := (some .int)) (by decide) rfl (Nat.le_of_ble_eq_true rfl) (fun _ => by simp only [List.map_cons, List.map_nil]) ?_
  intro p e s m args below meth c Q A X hr hin E
  change J p l e rm_X11_signOf s m args below meth c Q G A 8 0 0 0 [(0, .ref (q 0)), (1, .int 5), (2, .long v), (4, .int 2)] [] [(q 0, .inr (10, mF t n q co cr po tx ty)), (q 10, aI G 320 (rg [z0, z1, z2, z3, z4, z5, z6, z7, z8, z9, z10, z11, z12, z13, z14, z15])), (q 11, aZ G 16 sf)]
  refine j_aload_n X dX11_signOf_0 rfl 0 rfl ?_
  refine j_iload_n X dX11_signOf_1 rfl 1 rfl ?_
  refine j_callV X dX11_signOf_2 (c_X11_sign l G q t n co cr po tx ty [z0, z1, z2, z3, z4, z5, z6, z7, z8, z9, z10, z11, z12, z13, z14, z15] rfl sf 5 5 rfl (by decide) (hS 5 (by decide)) (bd_lt bu (by decide))) gX11_signOf_X11_sign rfl hy_X11_sign_V ⟨Nat.le_of_ble_eq_true rfl, Nat.le_of_ble_eq_true rfl⟩ 0 rfl rfl [0, 1, 2] rfl (by decide) rfl rfl (Nat.le_of_ble_eq_true rfl) ⟨Nat.le_of_ble_eq_true rfl, Nat.le_of_ble_eq_true rfl⟩ ?_
  rintro _ ⟨⟩ rfl
  change J p l e rm_X11_signOf s m args below meth c Q G A 8 0 0 5 [(0, .ref (q 0)), (1, .int 5), (2, .long v), (4, .int 2)] [.int (sg z5)] [(q 0, .inr (10, mF t n q co cr po tx ty)), (q 10, aI G 320 (rg [z0, z1, z2, z3, z4, z5, z6, z7, z8, z9, z10, z11, z12, z13, z14, z15])), (q 11, aZ G 16 sf)]
  refine j_topi (fun x_1 ex_1 => ?_)
  refine j_istore (L' := [(5, .int x_1), (0, .ref (q 0)), (1, .int 5), (2, .long v), (4, .int 2)]) X dX11_signOf_5 (by decide) rfl ?_
  refine j_lload_n X dX11_signOf_7 rfl 3 rfl ?_
  refine j_lconst (v := 0) X dX11_signOf_8 rfl ?_
  refine j_lcmp X dX11_signOf_9 ?_
  refine j_if_eq (tgt := 22) X dX11_signOf_10 (by decide) (fun c_10 => ?_) (fun c_10 => ?_)
  · skip
    first | simp only [bI_0, Decidable.not_not, sg_mul, sg_e0, sg_l0, sg_g0, sg_le0, sg_ge0, cmp_eq, cmp_lt, cmp_ge, cmp_gt, cmp_le, lT0, lT1] at c_10 | simp only [Int32.le_iff_toInt_le, Int32.lt_iff_toInt_lt, ← Int32.toInt_inj, iT0, iT1, iT2, iT3, iT4, iT5, iT6, iT7, iT8, iT9, iT10, iT11, iT12, iT13, iT14, iT15, iT16, iT19, iT20, iT31, iT32, iT42, iT64, iT200, iT318, iT319, iT1000, iTm1, iTm2] at c_10 | skip
    have hv0 := c_10
    refine j_iconst (v := 0) X dX11_signOf_22 rfl ?_
    refine j_goto (tgt := 37) X dX11_signOf_23 (by decide) ?_
    refine j_istore (L' := [(6, .int 0), (5, .int x_1), (0, .ref (q 0)), (1, .int 5), (2, .long v), (4, .int 2)]) X dX11_signOf_37 (by decide) rfl ?_
    refine j_iload X dX11_signOf_39 1 rfl ?_
    refine j_if_eq (tgt := 56) X dX11_signOf_41 (by decide) (fun c_41 => ?_) (fun c_41 => ?_)
    · skip
      have c_41x := c_41
      rw [ex_1] at c_41x
      refine j_iload X dX11_signOf_56 1 rfl ?_
      refine j_if_eq (tgt := 66) X dX11_signOf_58 (by decide) (fun c_58 => ?_) (fun c_58 => ?_)
      · skip
        have c_58x := c_58
        rw [ex_1] at c_58x
        refine j_iload X dX11_signOf_66 0 rfl ?_
        exact E.2.1 68 _ 0 (z10, z11, z13, z15, sf) _ dX11_signOf_68 (⟨(by rw [so_0 (f := v.toInt) (Or.inl hv0)]; exact congrArg (fun w => some (Value.int w)) (c_58x.symm)), hS⟩) hr rfl
      · skip
        exact absurd c_41 c_58
    · skip
      have c_41x := c_41
      rw [ex_1] at c_41x
      refine j_iload X dX11_signOf_44 0 rfl ?_
      refine j_if_eq (tgt := 56) X dX11_signOf_46 (by decide) (fun _ => ?_) (fun c9 => absurd c9 (by decide))
      refine j_iload X dX11_signOf_56 1 rfl ?_
      refine j_if_eq (tgt := 66) X dX11_signOf_58 (by decide) (fun c_58 => ?_) (fun c_58 => ?_)
      · skip
        have c_58x := c_58
        rw [ex_1] at c_58x
        refine j_iload X dX11_signOf_66 0 rfl ?_
        exact E.2.1 68 _ 0 (z10, z11, z13, z15, sf) _ dX11_signOf_68 (⟨(by rw [so_0 (f := v.toInt) (Or.inl hv0)]; exact congrArg (fun w => some (Value.int w)) (c_58x.symm)), hS⟩) hr rfl
      · skip
        have c_58x := c_58
        rw [ex_1] at c_58x
        refine j_iload X dX11_signOf_61 1 rfl ?_
        refine j_goto (tgt := 68) X dX11_signOf_63 (by decide) ?_
        exact E.2.1 68 _ x_1 (z10, z11, z13, z15, sf) _ dX11_signOf_68 (⟨(by rw [so_0 (f := v.toInt) (Or.inl hv0)]; exact congrArg (fun w => some (Value.int w)) ex_1), hS⟩) hr rfl
  · skip
    first | simp only [bI_0, Decidable.not_not, sg_mul, sg_e0, sg_l0, sg_g0, sg_le0, sg_ge0, cmp_eq, cmp_lt, cmp_ge, cmp_gt, cmp_le, lT0, lT1] at c_10 | simp only [Int32.le_iff_toInt_le, Int32.lt_iff_toInt_lt, ← Int32.toInt_inj, iT0, iT1, iT2, iT3, iT4, iT5, iT6, iT7, iT8, iT9, iT10, iT11, iT12, iT13, iT14, iT15, iT16, iT19, iT20, iT31, iT32, iT42, iT64, iT200, iT318, iT319, iT1000, iTm1, iTm2] at c_10 | skip
    refine j_aload_n X dX11_signOf_13 rfl 1 rfl ?_
    refine j_iload X dX11_signOf_14 4 rfl ?_
    refine j_callV X dX11_signOf_16 (c_X11_sign l G q t n co cr po tx ty [z0, z1, z2, z3, z4, z5, z6, z7, z8, z9, z10, z11, z12, z13, z14, z15] rfl sf 2 2 rfl (by decide) (hS 2 (by decide)) (bd_lt br (by decide))) gX11_signOf_X11_sign rfl hy_X11_sign_V ⟨Nat.le_of_ble_eq_true rfl, Nat.le_of_ble_eq_true rfl⟩ 0 rfl rfl [0, 1, 2] rfl (by decide) rfl rfl (Nat.le_of_ble_eq_true rfl) ⟨Nat.le_of_ble_eq_true rfl, Nat.le_of_ble_eq_true rfl⟩ ?_
    rintro _ ⟨⟩ rfl
    change J p l e rm_X11_signOf s m args below meth c Q G A 8 0 0 19 [(5, .int x_1), (0, .ref (q 0)), (1, .int 5), (2, .long v), (4, .int 2)] [.int (sg z2)] [(q 0, .inr (10, mF t n q co cr po tx ty)), (q 10, aI G 320 (rg [z0, z1, z2, z3, z4, z5, z6, z7, z8, z9, z10, z11, z12, z13, z14, z15])), (q 11, aZ G 16 sf)]
    refine j_if_ne (tgt := 26) X dX11_signOf_19 (by decide) (fun c_19 => ?_) (fun c_19 => ?_)
    · skip
      first | simp only [bI_0, Decidable.not_not, sg_mul, sg_e0, sg_l0, sg_g0, sg_le0, sg_ge0, cmp_eq, cmp_lt, cmp_ge, cmp_gt, cmp_le, lT0, lT1] at c_19 | simp only [Int32.le_iff_toInt_le, Int32.lt_iff_toInt_lt, ← Int32.toInt_inj, iT0, iT1, iT2, iT3, iT4, iT5, iT6, iT7, iT8, iT9, iT10, iT11, iT12, iT13, iT14, iT15, iT16, iT19, iT20, iT31, iT32, iT42, iT64, iT200, iT318, iT319, iT1000, iTm1, iTm2] at c_19 | skip
      refine j_lload_n X dX11_signOf_26 rfl 3 rfl ?_
      refine j_lconst (v := 0) X dX11_signOf_27 rfl ?_
      refine j_lcmp X dX11_signOf_28 ?_
      refine j_if_ge (tgt := 36) X dX11_signOf_29 (by decide) (fun c_29 => ?_) (fun c_29 => ?_)
      · skip
        first | simp only [bI_0, Decidable.not_not, sg_mul, sg_e0, sg_l0, sg_g0, sg_le0, sg_ge0, cmp_eq, cmp_lt, cmp_ge, cmp_gt, cmp_le, lT0, lT1] at c_29 | simp only [Int32.le_iff_toInt_le, Int32.lt_iff_toInt_lt, ← Int32.toInt_inj, iT0, iT1, iT2, iT3, iT4, iT5, iT6, iT7, iT8, iT9, iT10, iT11, iT12, iT13, iT14, iT15, iT16, iT19, iT20, iT31, iT32, iT42, iT64, iT200, iT318, iT319, iT1000, iTm1, iTm2] at c_29 | skip
        refine j_iconst (v := 1) X dX11_signOf_36 rfl ?_
        refine j_istore (L' := [(6, .int 1), (5, .int x_1), (0, .ref (q 0)), (1, .int 5), (2, .long v), (4, .int 2)]) X dX11_signOf_37 (by decide) rfl ?_
        refine j_iload X dX11_signOf_39 1 rfl ?_
        refine j_if_eq (tgt := 56) X dX11_signOf_41 (by decide) (fun c_41 => ?_) (fun c_41 => ?_)
        · skip
          have c_41x := c_41
          rw [ex_1] at c_41x
          refine j_iload X dX11_signOf_56 1 rfl ?_
          refine j_if_eq (tgt := 66) X dX11_signOf_58 (by decide) (fun c_58 => ?_) (fun c_58 => ?_)
          · skip
            have c_58x := c_58
            rw [ex_1] at c_58x
            refine j_iload X dX11_signOf_66 0 rfl ?_
            exact E.2.1 68 _ 1 (z10, z11, z13, z15, sf) _ dX11_signOf_68 (⟨(by rw [so_y (show sg v.toInt * sg z2 = 1 by rw [sg_pos (by omega), sg_pos (by omega)]; decide) (Or.inl rfl) c_58x]), hS⟩) hr rfl
          · skip
            exact absurd c_41 c_58
        · skip
          have c_41x := c_41
          rw [ex_1] at c_41x
          refine j_iload X dX11_signOf_44 0 rfl ?_
          refine j_if_eq (tgt := 56) X dX11_signOf_46 (by decide) (fun c9 => absurd c9 (by decide)) (fun _ => ?_)
          refine j_iload X dX11_signOf_49 1 rfl ?_
          refine j_iload X dX11_signOf_51 0 rfl ?_
          refine j_icmp_ne (tgt := 69) X dX11_signOf_53 (by decide) (fun c_53 => ?_) (fun c_53 => ?_)
          · skip
            have c_53x := c_53
            rw [ex_1] at c_53x
            refine j_aload_n X dX11_signOf_69 rfl 2 rfl ?_
            refine j_bipush (v := 10) X dX11_signOf_70 (by decide) ?_
            refine j_iload_n X dX11_signOf_72 rfl 3 rfl ?_
            refine j_iload_n X dX11_signOf_73 rfl 3 rfl ?_
            obtain ⟨y_2, ey_2⟩ : ∃ zz9 : Int, zz9 = z5 * z5 := ⟨_, rfl⟩
            have by_2 : bd 260 y_2 := by rw [ey_2]; exact bd_mul bu bu
            refine j_callV X dX11_signOf_74 (n_mul l G q t n co cr po tx ty [z0, z1, z2, z3, z4, z5, z6, z7, z8, z9, z10, z11, z12, z13, z14, z15] sf rfl hS 10 10 rfl (by decide) 5 5 rfl (by decide) 5 5 rfl (by decide) (by decide) (by decide) y_2 ey_2) gX11_signOf_X11_multiply rfl hy_X11_multiply_V ⟨Nat.le_of_ble_eq_true rfl, Nat.le_of_ble_eq_true rfl⟩ 0 rfl rfl [0, 1, 2] rfl (by decide) rfl rfl (Nat.le_of_ble_eq_true rfl) ⟨Nat.le_of_ble_eq_true rfl, Nat.le_of_ble_eq_true rfl⟩ ?_
            rintro _ sf_3 ⟨rfl, hS_sf_3⟩
            change J p l e rm_X11_signOf s m args below meth c Q G A 8 0 0 77 [(6, .int 1), (5, .int x_1), (0, .ref (q 0)), (1, .int 5), (2, .long v), (4, .int 2)] [] [(q 0, .inr (10, mF t n q co cr po tx ty)), (q 10, aI G 320 (rg [z0, z1, z2, z3, z4, z5, z6, z7, z8, z9, y_2, z11, z12, z13, z14, z15])), (q 11, aZ G 16 sf_3)]
            refine j_aload_n X dX11_signOf_77 rfl 2 rfl ?_
            refine j_bipush (v := 13) X dX11_signOf_78 (by decide) ?_
            refine j_lload_n X dX11_signOf_80 rfl 4 rfl ?_
            obtain ⟨y_4, ey_4⟩ : ∃ zz9 : Int, zz9 = v.toInt := ⟨_, rfl⟩
            have by_4 : bd 43 y_4 := by rw [ey_4]; exact bv
            refine j_callV X dX11_signOf_81 (n_load l G q t n co cr po tx ty [z0, z1, z2, z3, z4, z5, z6, z7, z8, z9, y_2, z11, z12, z13, z14, z15] sf_3 rfl hS_sf_3 13 13 rfl (by decide) v y_4 ey_4) gX11_signOf_X11_load rfl hy_X11_load_V ⟨Nat.le_of_ble_eq_true rfl, Nat.le_of_ble_eq_true rfl⟩ 0 rfl rfl [0, 1, 2] rfl (by decide) rfl rfl (Nat.le_of_ble_eq_true rfl) ⟨Nat.le_of_ble_eq_true rfl, Nat.le_of_ble_eq_true rfl⟩ ?_
            rintro _ sf_5 ⟨rfl, hS_sf_5⟩
            change J p l e rm_X11_signOf s m args below meth c Q G A 8 0 0 84 [(6, .int 1), (5, .int x_1), (0, .ref (q 0)), (1, .int 5), (2, .long v), (4, .int 2)] [] [(q 0, .inr (10, mF t n q co cr po tx ty)), (q 10, aI G 320 (rg [z0, z1, z2, z3, z4, z5, z6, z7, z8, z9, y_2, z11, z12, y_4, z14, z15])), (q 11, aZ G 16 sf_5)]
            refine j_aload_n X dX11_signOf_84 rfl 2 rfl ?_
            refine j_bipush (v := 15) X dX11_signOf_85 (by decide) ?_
            refine j_bipush (v := 13) X dX11_signOf_87 (by decide) ?_
            refine j_bipush (v := 13) X dX11_signOf_89 (by decide) ?_
            obtain ⟨y_6, ey_6⟩ : ∃ zz9 : Int, zz9 = y_4 * y_4 := ⟨_, rfl⟩
            have by_6 : bd 86 y_6 := by rw [ey_6]; exact bd_mul by_4 by_4
            refine j_callV X dX11_signOf_91 (n_mul l G q t n co cr po tx ty [z0, z1, z2, z3, z4, z5, z6, z7, z8, z9, y_2, z11, z12, y_4, z14, z15] sf_5 rfl hS_sf_5 15 15 rfl (by decide) 13 13 rfl (by decide) 13 13 rfl (by decide) (by decide) (by decide) y_6 ey_6) gX11_signOf_X11_multiply rfl hy_X11_multiply_V ⟨Nat.le_of_ble_eq_true rfl, Nat.le_of_ble_eq_true rfl⟩ 0 rfl rfl [0, 1, 2] rfl (by decide) rfl rfl (Nat.le_of_ble_eq_true rfl) ⟨Nat.le_of_ble_eq_true rfl, Nat.le_of_ble_eq_true rfl⟩ ?_
            rintro _ sf_7 ⟨rfl, hS_sf_7⟩
            change J p l e rm_X11_signOf s m args below meth c Q G A 8 0 0 94 [(6, .int 1), (5, .int x_1), (0, .ref (q 0)), (1, .int 5), (2, .long v), (4, .int 2)] [] [(q 0, .inr (10, mF t n q co cr po tx ty)), (q 10, aI G 320 (rg [z0, z1, z2, z3, z4, z5, z6, z7, z8, z9, y_2, z11, z12, y_4, z14, y_6])), (q 11, aZ G 16 sf_7)]
            refine j_aload_n X dX11_signOf_94 rfl 2 rfl ?_
            refine j_bipush (v := 11) X dX11_signOf_95 (by decide) ?_
            refine j_bipush (v := 15) X dX11_signOf_97 (by decide) ?_
            refine j_iload X dX11_signOf_99 5 rfl ?_
            obtain ⟨y_8, ey_8⟩ : ∃ zz9 : Int, zz9 = y_6 * z2 := ⟨_, rfl⟩
            have by_8 : bd 258 y_8 := by rw [ey_8]; exact bd_mul by_6 br
            refine j_callV X dX11_signOf_101 (n_mul l G q t n co cr po tx ty [z0, z1, z2, z3, z4, z5, z6, z7, z8, z9, y_2, z11, z12, y_4, z14, y_6] sf_7 rfl hS_sf_7 11 11 rfl (by decide) 15 15 rfl (by decide) 2 2 rfl (by decide) (by decide) (by decide) y_8 ey_8) gX11_signOf_X11_multiply rfl hy_X11_multiply_V ⟨Nat.le_of_ble_eq_true rfl, Nat.le_of_ble_eq_true rfl⟩ 0 rfl rfl [0, 1, 2] rfl (by decide) rfl rfl (Nat.le_of_ble_eq_true rfl) ⟨Nat.le_of_ble_eq_true rfl, Nat.le_of_ble_eq_true rfl⟩ ?_
            rintro _ sf_9 ⟨rfl, hS_sf_9⟩
            change J p l e rm_X11_signOf s m args below meth c Q G A 8 0 0 104 [(6, .int 1), (5, .int x_1), (0, .ref (q 0)), (1, .int 5), (2, .long v), (4, .int 2)] [] [(q 0, .inr (10, mF t n q co cr po tx ty)), (q 10, aI G 320 (rg [z0, z1, z2, z3, z4, z5, z6, z7, z8, z9, y_2, y_8, z12, y_4, z14, y_6])), (q 11, aZ G 16 sf_9)]
            refine j_aload_n X dX11_signOf_104 rfl 2 rfl ?_
            refine j_bipush (v := 10) X dX11_signOf_105 (by decide) ?_
            refine j_bipush (v := 11) X dX11_signOf_107 (by decide) ?_
            refine j_callV X dX11_signOf_109 (c_X11_sizes l G q t n co cr po tx ty [z0, z1, z2, z3, z4, z5, z6, z7, z8, z9, y_2, y_8, z12, y_4, z14, y_6] rfl sf_9 10 10 rfl (by decide) 11 11 rfl (by decide) (bd_lt by_2 (by decide)) (bd_lt by_8 (by decide))) gX11_signOf_X11_sizes rfl hy_X11_sizes_V ⟨Nat.le_of_ble_eq_true rfl, Nat.le_of_ble_eq_true rfl⟩ 0 rfl rfl [0, 1, 2] rfl (by decide) rfl rfl (Nat.le_of_ble_eq_true rfl) ⟨Nat.le_of_ble_eq_true rfl, Nat.le_of_ble_eq_true rfl⟩ ?_
            rintro _ ⟨⟩ rfl
            change J p l e rm_X11_signOf s m args below meth c Q G A 8 0 0 112 [(6, .int 1), (5, .int x_1), (0, .ref (q 0)), (1, .int 5), (2, .long v), (4, .int 2)] [.int (sg ((y_2.natAbs : Int) - (y_8.natAbs : Int)))] [(q 0, .inr (10, mF t n q co cr po tx ty)), (q 10, aI G 320 (rg [z0, z1, z2, z3, z4, z5, z6, z7, z8, z9, y_2, y_8, z12, y_4, z14, y_6])), (q 11, aZ G 16 sf_9)]
            refine j_topi (fun x_10 ex_10 => ?_)
            refine j_istore (L' := [(7, .int x_10), (6, .int 1), (5, .int x_1), (0, .ref (q 0)), (1, .int 5), (2, .long v), (4, .int 2)]) X dX11_signOf_112 (by decide) rfl ?_
            refine j_iload X dX11_signOf_114 0 rfl ?_
            refine j_if_ne (tgt := 123) X dX11_signOf_116 (by decide) (fun c_116 => ?_) (fun c_116 => ?_)
            · skip
              have c_116x := c_116
              rw [ex_10] at c_116x
              simp only [sg_e0, sg_le0, Int.not_le] at c_116x
              refine j_iload X dX11_signOf_123 0 rfl ?_
              refine j_if_le (tgt := 133) X dX11_signOf_125 (by decide) (fun c_125 => ?_) (fun c_125 => ?_)
              · skip
                have c_125x := c_125
                rw [ex_10] at c_125x
                simp only [sg_e0, sg_le0, Int.not_le] at c_125x
                refine j_iload X dX11_signOf_133 1 rfl ?_
                exact E.2.1 135 _ 1 (y_2, y_8, y_4, y_6, sf_9) _ dX11_signOf_135 (⟨(by rw [so_m (show sg v.toInt * sg z2 = 1 by rw [sg_pos (by omega), sg_pos (by omega)]; decide) (Or.inl rfl) c_41x c_53x hR ey_2 ey_4 ey_6 ey_8, sg_m1 (by omega), so_op (Or.inl rfl) c_41x c_53x]), hS_sf_9⟩) hr rfl
              · skip
                have c_125x := c_125
                rw [ex_10] at c_125x
                simp only [sg_e0, sg_le0, Int.not_le] at c_125x
                refine j_iload X dX11_signOf_128 2 rfl ?_
                refine j_goto (tgt := 135) X dX11_signOf_130 (by decide) ?_
                exact E.2.1 135 _ x_1 (y_2, y_8, y_4, y_6, sf_9) _ dX11_signOf_135 (⟨(by rw [so_m (show sg v.toInt * sg z2 = 1 by rw [sg_pos (by omega), sg_pos (by omega)]; decide) (Or.inl rfl) c_41x c_53x hR ey_2 ey_4 ey_6 ey_8, sg_1 c_125x]; exact congrArg (fun w => some (Value.int w)) ex_1), hS_sf_9⟩) hr rfl
            · skip
              have c_116x := c_116
              rw [ex_10] at c_116x
              simp only [sg_e0, sg_le0, Int.not_le] at c_116x
              refine j_iconst (v := 0) X dX11_signOf_119 rfl ?_
              refine j_goto (tgt := 135) X dX11_signOf_120 (by decide) ?_
              exact E.2.1 135 _ 0 (y_2, y_8, y_4, y_6, sf_9) _ dX11_signOf_135 (⟨(by rw [so_m (show sg v.toInt * sg z2 = 1 by rw [sg_pos (by omega), sg_pos (by omega)]; decide) (Or.inl rfl) c_41x c_53x hR ey_2 ey_4 ey_6 ey_8, sg_0m c_116x]), hS_sf_9⟩) hr rfl
          · skip
            have c_53x := c_53
            rw [ex_1] at c_53x
            refine j_iload X dX11_signOf_56 1 rfl ?_
            refine j_if_eq (tgt := 66) X dX11_signOf_58 (by decide) (fun c_58 => ?_) (fun c_58 => ?_)
            · skip
              have c_58x := c_58
              rw [ex_1] at c_58x
              refine j_iload X dX11_signOf_66 0 rfl ?_
              exact E.2.1 68 _ 1 (z10, z11, z13, z15, sf) _ dX11_signOf_68 (⟨(by rw [so_y (show sg v.toInt * sg z2 = 1 by rw [sg_pos (by omega), sg_pos (by omega)]; decide) (Or.inl rfl) c_58x]), hS⟩) hr rfl
            · skip
              have c_58x := c_58
              rw [ex_1] at c_58x
              refine j_iload X dX11_signOf_61 1 rfl ?_
              refine j_goto (tgt := 68) X dX11_signOf_63 (by decide) ?_
              exact E.2.1 68 _ x_1 (z10, z11, z13, z15, sf) _ dX11_signOf_68 (⟨(by rw [so_e (show sg v.toInt * sg z2 = 1 by rw [sg_pos (by omega), sg_pos (by omega)]; decide) c_53x]; exact congrArg (fun w => some (Value.int w)) ex_1), hS⟩) hr rfl
      · skip
        first | simp only [bI_0, Decidable.not_not, sg_mul, sg_e0, sg_l0, sg_g0, sg_le0, sg_ge0, cmp_eq, cmp_lt, cmp_ge, cmp_gt, cmp_le, lT0, lT1] at c_29 | simp only [Int32.le_iff_toInt_le, Int32.lt_iff_toInt_lt, ← Int32.toInt_inj, iT0, iT1, iT2, iT3, iT4, iT5, iT6, iT7, iT8, iT9, iT10, iT11, iT12, iT13, iT14, iT15, iT16, iT19, iT20, iT31, iT32, iT42, iT64, iT200, iT318, iT319, iT1000, iTm1, iTm2] at c_29 | skip
        refine j_iconst (v := (-1)) X dX11_signOf_32 rfl ?_
        refine j_goto (tgt := 37) X dX11_signOf_33 (by decide) ?_
        refine j_istore (L' := [(6, .int (-1)), (5, .int x_1), (0, .ref (q 0)), (1, .int 5), (2, .long v), (4, .int 2)]) X dX11_signOf_37 (by decide) rfl ?_
        refine j_iload X dX11_signOf_39 1 rfl ?_
        refine j_if_eq (tgt := 56) X dX11_signOf_41 (by decide) (fun c_41 => ?_) (fun c_41 => ?_)
        · skip
          have c_41x := c_41
          rw [ex_1] at c_41x
          refine j_iload X dX11_signOf_56 1 rfl ?_
          refine j_if_eq (tgt := 66) X dX11_signOf_58 (by decide) (fun c_58 => ?_) (fun c_58 => ?_)
          · skip
            have c_58x := c_58
            rw [ex_1] at c_58x
            refine j_iload X dX11_signOf_66 0 rfl ?_
            exact E.2.1 68 _ (-1) (z10, z11, z13, z15, sf) _ dX11_signOf_68 (⟨(by rw [so_y (show sg v.toInt * sg z2 = (-1) by rw [sg_neg (by omega), sg_pos (by omega)]; decide) (Or.inr rfl) c_58x]), hS⟩) hr rfl
          · skip
            exact absurd c_41 c_58
        · skip
          have c_41x := c_41
          rw [ex_1] at c_41x
          refine j_iload X dX11_signOf_44 0 rfl ?_
          refine j_if_eq (tgt := 56) X dX11_signOf_46 (by decide) (fun c9 => absurd c9 (by decide)) (fun _ => ?_)
          refine j_iload X dX11_signOf_49 1 rfl ?_
          refine j_iload X dX11_signOf_51 0 rfl ?_
          refine j_icmp_ne (tgt := 69) X dX11_signOf_53 (by decide) (fun c_53 => ?_) (fun c_53 => ?_)
          · skip
            have c_53x := c_53
            rw [ex_1] at c_53x
            refine j_aload_n X dX11_signOf_69 rfl 2 rfl ?_
            refine j_bipush (v := 10) X dX11_signOf_70 (by decide) ?_
            refine j_iload_n X dX11_signOf_72 rfl 3 rfl ?_
            refine j_iload_n X dX11_signOf_73 rfl 3 rfl ?_
            obtain ⟨y_11, ey_11⟩ : ∃ zz9 : Int, zz9 = z5 * z5 := ⟨_, rfl⟩
            have by_11 : bd 260 y_11 := by rw [ey_11]; exact bd_mul bu bu
            refine j_callV X dX11_signOf_74 (n_mul l G q t n co cr po tx ty [z0, z1, z2, z3, z4, z5, z6, z7, z8, z9, z10, z11, z12, z13, z14, z15] sf rfl hS 10 10 rfl (by decide) 5 5 rfl (by decide) 5 5 rfl (by decide) (by decide) (by decide) y_11 ey_11) gX11_signOf_X11_multiply rfl hy_X11_multiply_V ⟨Nat.le_of_ble_eq_true rfl, Nat.le_of_ble_eq_true rfl⟩ 0 rfl rfl [0, 1, 2] rfl (by decide) rfl rfl (Nat.le_of_ble_eq_true rfl) ⟨Nat.le_of_ble_eq_true rfl, Nat.le_of_ble_eq_true rfl⟩ ?_
            rintro _ sf_12 ⟨rfl, hS_sf_12⟩
            change J p l e rm_X11_signOf s m args below meth c Q G A 8 0 0 77 [(6, .int (-1)), (5, .int x_1), (0, .ref (q 0)), (1, .int 5), (2, .long v), (4, .int 2)] [] [(q 0, .inr (10, mF t n q co cr po tx ty)), (q 10, aI G 320 (rg [z0, z1, z2, z3, z4, z5, z6, z7, z8, z9, y_11, z11, z12, z13, z14, z15])), (q 11, aZ G 16 sf_12)]
            refine j_aload_n X dX11_signOf_77 rfl 2 rfl ?_
            refine j_bipush (v := 13) X dX11_signOf_78 (by decide) ?_
            refine j_lload_n X dX11_signOf_80 rfl 4 rfl ?_
            obtain ⟨y_13, ey_13⟩ : ∃ zz9 : Int, zz9 = v.toInt := ⟨_, rfl⟩
            have by_13 : bd 43 y_13 := by rw [ey_13]; exact bv
            refine j_callV X dX11_signOf_81 (n_load l G q t n co cr po tx ty [z0, z1, z2, z3, z4, z5, z6, z7, z8, z9, y_11, z11, z12, z13, z14, z15] sf_12 rfl hS_sf_12 13 13 rfl (by decide) v y_13 ey_13) gX11_signOf_X11_load rfl hy_X11_load_V ⟨Nat.le_of_ble_eq_true rfl, Nat.le_of_ble_eq_true rfl⟩ 0 rfl rfl [0, 1, 2] rfl (by decide) rfl rfl (Nat.le_of_ble_eq_true rfl) ⟨Nat.le_of_ble_eq_true rfl, Nat.le_of_ble_eq_true rfl⟩ ?_
            rintro _ sf_14 ⟨rfl, hS_sf_14⟩
            change J p l e rm_X11_signOf s m args below meth c Q G A 8 0 0 84 [(6, .int (-1)), (5, .int x_1), (0, .ref (q 0)), (1, .int 5), (2, .long v), (4, .int 2)] [] [(q 0, .inr (10, mF t n q co cr po tx ty)), (q 10, aI G 320 (rg [z0, z1, z2, z3, z4, z5, z6, z7, z8, z9, y_11, z11, z12, y_13, z14, z15])), (q 11, aZ G 16 sf_14)]
            refine j_aload_n X dX11_signOf_84 rfl 2 rfl ?_
            refine j_bipush (v := 15) X dX11_signOf_85 (by decide) ?_
            refine j_bipush (v := 13) X dX11_signOf_87 (by decide) ?_
            refine j_bipush (v := 13) X dX11_signOf_89 (by decide) ?_
            obtain ⟨y_15, ey_15⟩ : ∃ zz9 : Int, zz9 = y_13 * y_13 := ⟨_, rfl⟩
            have by_15 : bd 86 y_15 := by rw [ey_15]; exact bd_mul by_13 by_13
            refine j_callV X dX11_signOf_91 (n_mul l G q t n co cr po tx ty [z0, z1, z2, z3, z4, z5, z6, z7, z8, z9, y_11, z11, z12, y_13, z14, z15] sf_14 rfl hS_sf_14 15 15 rfl (by decide) 13 13 rfl (by decide) 13 13 rfl (by decide) (by decide) (by decide) y_15 ey_15) gX11_signOf_X11_multiply rfl hy_X11_multiply_V ⟨Nat.le_of_ble_eq_true rfl, Nat.le_of_ble_eq_true rfl⟩ 0 rfl rfl [0, 1, 2] rfl (by decide) rfl rfl (Nat.le_of_ble_eq_true rfl) ⟨Nat.le_of_ble_eq_true rfl, Nat.le_of_ble_eq_true rfl⟩ ?_
            rintro _ sf_16 ⟨rfl, hS_sf_16⟩
            change J p l e rm_X11_signOf s m args below meth c Q G A 8 0 0 94 [(6, .int (-1)), (5, .int x_1), (0, .ref (q 0)), (1, .int 5), (2, .long v), (4, .int 2)] [] [(q 0, .inr (10, mF t n q co cr po tx ty)), (q 10, aI G 320 (rg [z0, z1, z2, z3, z4, z5, z6, z7, z8, z9, y_11, z11, z12, y_13, z14, y_15])), (q 11, aZ G 16 sf_16)]
            refine j_aload_n X dX11_signOf_94 rfl 2 rfl ?_
            refine j_bipush (v := 11) X dX11_signOf_95 (by decide) ?_
            refine j_bipush (v := 15) X dX11_signOf_97 (by decide) ?_
            refine j_iload X dX11_signOf_99 5 rfl ?_
            obtain ⟨y_17, ey_17⟩ : ∃ zz9 : Int, zz9 = y_15 * z2 := ⟨_, rfl⟩
            have by_17 : bd 258 y_17 := by rw [ey_17]; exact bd_mul by_15 br
            refine j_callV X dX11_signOf_101 (n_mul l G q t n co cr po tx ty [z0, z1, z2, z3, z4, z5, z6, z7, z8, z9, y_11, z11, z12, y_13, z14, y_15] sf_16 rfl hS_sf_16 11 11 rfl (by decide) 15 15 rfl (by decide) 2 2 rfl (by decide) (by decide) (by decide) y_17 ey_17) gX11_signOf_X11_multiply rfl hy_X11_multiply_V ⟨Nat.le_of_ble_eq_true rfl, Nat.le_of_ble_eq_true rfl⟩ 0 rfl rfl [0, 1, 2] rfl (by decide) rfl rfl (Nat.le_of_ble_eq_true rfl) ⟨Nat.le_of_ble_eq_true rfl, Nat.le_of_ble_eq_true rfl⟩ ?_
            rintro _ sf_18 ⟨rfl, hS_sf_18⟩
            change J p l e rm_X11_signOf s m args below meth c Q G A 8 0 0 104 [(6, .int (-1)), (5, .int x_1), (0, .ref (q 0)), (1, .int 5), (2, .long v), (4, .int 2)] [] [(q 0, .inr (10, mF t n q co cr po tx ty)), (q 10, aI G 320 (rg [z0, z1, z2, z3, z4, z5, z6, z7, z8, z9, y_11, y_17, z12, y_13, z14, y_15])), (q 11, aZ G 16 sf_18)]
            refine j_aload_n X dX11_signOf_104 rfl 2 rfl ?_
            refine j_bipush (v := 10) X dX11_signOf_105 (by decide) ?_
            refine j_bipush (v := 11) X dX11_signOf_107 (by decide) ?_
            refine j_callV X dX11_signOf_109 (c_X11_sizes l G q t n co cr po tx ty [z0, z1, z2, z3, z4, z5, z6, z7, z8, z9, y_11, y_17, z12, y_13, z14, y_15] rfl sf_18 10 10 rfl (by decide) 11 11 rfl (by decide) (bd_lt by_11 (by decide)) (bd_lt by_17 (by decide))) gX11_signOf_X11_sizes rfl hy_X11_sizes_V ⟨Nat.le_of_ble_eq_true rfl, Nat.le_of_ble_eq_true rfl⟩ 0 rfl rfl [0, 1, 2] rfl (by decide) rfl rfl (Nat.le_of_ble_eq_true rfl) ⟨Nat.le_of_ble_eq_true rfl, Nat.le_of_ble_eq_true rfl⟩ ?_
            rintro _ ⟨⟩ rfl
            change J p l e rm_X11_signOf s m args below meth c Q G A 8 0 0 112 [(6, .int (-1)), (5, .int x_1), (0, .ref (q 0)), (1, .int 5), (2, .long v), (4, .int 2)] [.int (sg ((y_11.natAbs : Int) - (y_17.natAbs : Int)))] [(q 0, .inr (10, mF t n q co cr po tx ty)), (q 10, aI G 320 (rg [z0, z1, z2, z3, z4, z5, z6, z7, z8, z9, y_11, y_17, z12, y_13, z14, y_15])), (q 11, aZ G 16 sf_18)]
            refine j_topi (fun x_19 ex_19 => ?_)
            refine j_istore (L' := [(7, .int x_19), (6, .int (-1)), (5, .int x_1), (0, .ref (q 0)), (1, .int 5), (2, .long v), (4, .int 2)]) X dX11_signOf_112 (by decide) rfl ?_
            refine j_iload X dX11_signOf_114 0 rfl ?_
            refine j_if_ne (tgt := 123) X dX11_signOf_116 (by decide) (fun c_116 => ?_) (fun c_116 => ?_)
            · skip
              have c_116x := c_116
              rw [ex_19] at c_116x
              simp only [sg_e0, sg_le0, Int.not_le] at c_116x
              refine j_iload X dX11_signOf_123 0 rfl ?_
              refine j_if_le (tgt := 133) X dX11_signOf_125 (by decide) (fun c_125 => ?_) (fun c_125 => ?_)
              · skip
                have c_125x := c_125
                rw [ex_19] at c_125x
                simp only [sg_e0, sg_le0, Int.not_le] at c_125x
                refine j_iload X dX11_signOf_133 1 rfl ?_
                exact E.2.1 135 _ (-1) (y_11, y_17, y_13, y_15, sf_18) _ dX11_signOf_135 (⟨(by rw [so_m (show sg v.toInt * sg z2 = (-1) by rw [sg_neg (by omega), sg_pos (by omega)]; decide) (Or.inr rfl) c_41x c_53x hR ey_11 ey_13 ey_15 ey_17, sg_m1 (by omega), so_op (Or.inr rfl) c_41x c_53x]), hS_sf_18⟩) hr rfl
              · skip
                have c_125x := c_125
                rw [ex_19] at c_125x
                simp only [sg_e0, sg_le0, Int.not_le] at c_125x
                refine j_iload X dX11_signOf_128 2 rfl ?_
                refine j_goto (tgt := 135) X dX11_signOf_130 (by decide) ?_
                exact E.2.1 135 _ x_1 (y_11, y_17, y_13, y_15, sf_18) _ dX11_signOf_135 (⟨(by rw [so_m (show sg v.toInt * sg z2 = (-1) by rw [sg_neg (by omega), sg_pos (by omega)]; decide) (Or.inr rfl) c_41x c_53x hR ey_11 ey_13 ey_15 ey_17, sg_1 c_125x]; exact congrArg (fun w => some (Value.int w)) ex_1), hS_sf_18⟩) hr rfl
            · skip
              have c_116x := c_116
              rw [ex_19] at c_116x
              simp only [sg_e0, sg_le0, Int.not_le] at c_116x
              refine j_iconst (v := 0) X dX11_signOf_119 rfl ?_
              refine j_goto (tgt := 135) X dX11_signOf_120 (by decide) ?_
              exact E.2.1 135 _ 0 (y_11, y_17, y_13, y_15, sf_18) _ dX11_signOf_135 (⟨(by rw [so_m (show sg v.toInt * sg z2 = (-1) by rw [sg_neg (by omega), sg_pos (by omega)]; decide) (Or.inr rfl) c_41x c_53x hR ey_11 ey_13 ey_15 ey_17, sg_0m c_116x]), hS_sf_18⟩) hr rfl
          · skip
            have c_53x := c_53
            rw [ex_1] at c_53x
            refine j_iload X dX11_signOf_56 1 rfl ?_
            refine j_if_eq (tgt := 66) X dX11_signOf_58 (by decide) (fun c_58 => ?_) (fun c_58 => ?_)
            · skip
              have c_58x := c_58
              rw [ex_1] at c_58x
              refine j_iload X dX11_signOf_66 0 rfl ?_
              exact E.2.1 68 _ (-1) (z10, z11, z13, z15, sf) _ dX11_signOf_68 (⟨(by rw [so_y (show sg v.toInt * sg z2 = (-1) by rw [sg_neg (by omega), sg_pos (by omega)]; decide) (Or.inr rfl) c_58x]), hS⟩) hr rfl
            · skip
              have c_58x := c_58
              rw [ex_1] at c_58x
              refine j_iload X dX11_signOf_61 1 rfl ?_
              refine j_goto (tgt := 68) X dX11_signOf_63 (by decide) ?_
              exact E.2.1 68 _ x_1 (z10, z11, z13, z15, sf) _ dX11_signOf_68 (⟨(by rw [so_e (show sg v.toInt * sg z2 = (-1) by rw [sg_neg (by omega), sg_pos (by omega)]; decide) c_53x]; exact congrArg (fun w => some (Value.int w)) ex_1), hS⟩) hr rfl
    · skip
      first | simp only [bI_0, Decidable.not_not, sg_mul, sg_e0, sg_l0, sg_g0, sg_le0, sg_ge0, cmp_eq, cmp_lt, cmp_ge, cmp_gt, cmp_le, lT0, lT1] at c_19 | simp only [Int32.le_iff_toInt_le, Int32.lt_iff_toInt_lt, ← Int32.toInt_inj, iT0, iT1, iT2, iT3, iT4, iT5, iT6, iT7, iT8, iT9, iT10, iT11, iT12, iT13, iT14, iT15, iT16, iT19, iT20, iT31, iT32, iT42, iT64, iT200, iT318, iT319, iT1000, iTm1, iTm2] at c_19 | skip
      have hR0 := c_19
      refine j_iconst (v := 0) X dX11_signOf_22 rfl ?_
      refine j_goto (tgt := 37) X dX11_signOf_23 (by decide) ?_
      refine j_istore (L' := [(6, .int 0), (5, .int x_1), (0, .ref (q 0)), (1, .int 5), (2, .long v), (4, .int 2)]) X dX11_signOf_37 (by decide) rfl ?_
      refine j_iload X dX11_signOf_39 1 rfl ?_
      refine j_if_eq (tgt := 56) X dX11_signOf_41 (by decide) (fun c_41 => ?_) (fun c_41 => ?_)
      · skip
        have c_41x := c_41
        rw [ex_1] at c_41x
        refine j_iload X dX11_signOf_56 1 rfl ?_
        refine j_if_eq (tgt := 66) X dX11_signOf_58 (by decide) (fun c_58 => ?_) (fun c_58 => ?_)
        · skip
          have c_58x := c_58
          rw [ex_1] at c_58x
          refine j_iload X dX11_signOf_66 0 rfl ?_
          exact E.2.1 68 _ 0 (z10, z11, z13, z15, sf) _ dX11_signOf_68 (⟨(by rw [so_0 (f := v.toInt) (Or.inr hR0)]; exact congrArg (fun w => some (Value.int w)) (c_58x.symm)), hS⟩) hr rfl
        · skip
          exact absurd c_41 c_58
      · skip
        have c_41x := c_41
        rw [ex_1] at c_41x
        refine j_iload X dX11_signOf_44 0 rfl ?_
        refine j_if_eq (tgt := 56) X dX11_signOf_46 (by decide) (fun _ => ?_) (fun c9 => absurd c9 (by decide))
        refine j_iload X dX11_signOf_56 1 rfl ?_
        refine j_if_eq (tgt := 66) X dX11_signOf_58 (by decide) (fun c_58 => ?_) (fun c_58 => ?_)
        · skip
          have c_58x := c_58
          rw [ex_1] at c_58x
          refine j_iload X dX11_signOf_66 0 rfl ?_
          exact E.2.1 68 _ 0 (z10, z11, z13, z15, sf) _ dX11_signOf_68 (⟨(by rw [so_0 (f := v.toInt) (Or.inr hR0)]; exact congrArg (fun w => some (Value.int w)) (c_58x.symm)), hS⟩) hr rfl
        · skip
          have c_58x := c_58
          rw [ex_1] at c_58x
          refine j_iload X dX11_signOf_61 1 rfl ?_
          refine j_goto (tgt := 68) X dX11_signOf_63 (by decide) ?_
          exact E.2.1 68 _ x_1 (z10, z11, z13, z15, sf) _ dX11_signOf_68 (⟨(by rw [so_0 (f := v.toInt) (Or.inr hR0)]; exact congrArg (fun w => some (Value.int w)) ex_1), hS⟩) hr rfl

set_option maxHeartbeats 4000000 in
set_option maxRecDepth 100000 in
theorem c_X11_signOf_6_2 (l : Launch) (G : jG) (q : Nat → Nat) (t n co cr po : Int32) (tx ty : Int64) (z0 z1 z2 z3 z4 z5 z6 z7 z8 z9 z10 z11 z12 z13 z14 z15 : Int) (sf : Nat → Int32) (hS : okS [z0, z1, z2, z3, z4, z5, z6, z7, z8, z9, z10, z11, z12, z13, z14, z15] sf) (v : Int64) (hR : 0 ≤ z2) (bu : bd 130 z6) (bv : bd 43 v.toInt) (br : bd 172 z2) : Ct l yX11_signOf wsX11_signOf rm_X11_signOf G [.ref (q 0), .int 6, .long v, .int 2] [(q 0, .inr (10, mF t n q co cr po tx ty)), (q 10, aI G 320 (rg [z0, z1, z2, z3, z4, z5, z6, z7, z8, z9, z10, z11, z12, z13, z14, z15])), (q 11, aZ G 16 sf)] (S := Int × Int × Int × Int × (Nat → Int32)) (fun r u => r = some (.int (rn z6 v.toInt z2)) ∧ okS [z0, z1, z2, z3, z4, z5, z6, z7, z8, z9, u.1, u.2.1, z12, u.2.2.1, z14, u.2.2.2.1] u.2.2.2.2) (fun u => [(q 0, .inr (10, mF t n q co cr po tx ty)), (q 10, aI G 320 (rg [z0, z1, z2, z3, z4, z5, z6, z7, z8, z9, u.1, u.2.1, z12, u.2.2.1, z14, u.2.2.2.1])), (q 11, aZ G 16 u.2.2.2.2)]) (fun _ => []) := by
  refine c_intro (cc := cX11_signOf) (maxL := 8) (ret := (some .int)) (by decide) rfl (Nat.le_of_ble_eq_true rfl) (fun _ => by simp only [List.map_cons, List.map_nil]) ?_
  intro p e s m args below meth c Q A X hr hin E
  change J p l e rm_X11_signOf s m args below meth c Q G A 8 0 0 0 [(0, .ref (q 0)), (1, .int 6), (2, .long v), (4, .int 2)] [] [(q 0, .inr (10, mF t n q co cr po tx ty)), (q 10, aI G 320 (rg [z0, z1, z2, z3, z4, z5, z6, z7, z8, z9, z10, z11, z12, z13, z14, z15])), (q 11, aZ G 16 sf)]
  refine j_aload_n X dX11_signOf_0 rfl 0 rfl ?_
  refine j_iload_n X dX11_signOf_1 rfl 1 rfl ?_
  refine j_callV X dX11_signOf_2 (c_X11_sign l G q t n co cr po tx ty [z0, z1, z2, z3, z4, z5, z6, z7, z8, z9, z10, z11, z12, z13, z14, z15] rfl sf 6 6 rfl (by decide) (hS 6 (by decide)) (bd_lt bu (by decide))) gX11_signOf_X11_sign rfl hy_X11_sign_V ⟨Nat.le_of_ble_eq_true rfl, Nat.le_of_ble_eq_true rfl⟩ 0 rfl rfl [0, 1, 2] rfl (by decide) rfl rfl (Nat.le_of_ble_eq_true rfl) ⟨Nat.le_of_ble_eq_true rfl, Nat.le_of_ble_eq_true rfl⟩ ?_
  rintro _ ⟨⟩ rfl
  change J p l e rm_X11_signOf s m args below meth c Q G A 8 0 0 5 [(0, .ref (q 0)), (1, .int 6), (2, .long v), (4, .int 2)] [.int (sg z6)] [(q 0, .inr (10, mF t n q co cr po tx ty)), (q 10, aI G 320 (rg [z0, z1, z2, z3, z4, z5, z6, z7, z8, z9, z10, z11, z12, z13, z14, z15])), (q 11, aZ G 16 sf)]
  refine j_topi (fun x_1 ex_1 => ?_)
  refine j_istore (L' := [(5, .int x_1), (0, .ref (q 0)), (1, .int 6), (2, .long v), (4, .int 2)]) X dX11_signOf_5 (by decide) rfl ?_
  refine j_lload_n X dX11_signOf_7 rfl 3 rfl ?_
  refine j_lconst (v := 0) X dX11_signOf_8 rfl ?_
  refine j_lcmp X dX11_signOf_9 ?_
  refine j_if_eq (tgt := 22) X dX11_signOf_10 (by decide) (fun c_10 => ?_) (fun c_10 => ?_)
  · skip
    first | simp only [bI_0, Decidable.not_not, sg_mul, sg_e0, sg_l0, sg_g0, sg_le0, sg_ge0, cmp_eq, cmp_lt, cmp_ge, cmp_gt, cmp_le, lT0, lT1] at c_10 | simp only [Int32.le_iff_toInt_le, Int32.lt_iff_toInt_lt, ← Int32.toInt_inj, iT0, iT1, iT2, iT3, iT4, iT5, iT6, iT7, iT8, iT9, iT10, iT11, iT12, iT13, iT14, iT15, iT16, iT19, iT20, iT31, iT32, iT42, iT64, iT200, iT318, iT319, iT1000, iTm1, iTm2] at c_10 | skip
    have hv0 := c_10
    refine j_iconst (v := 0) X dX11_signOf_22 rfl ?_
    refine j_goto (tgt := 37) X dX11_signOf_23 (by decide) ?_
    refine j_istore (L' := [(6, .int 0), (5, .int x_1), (0, .ref (q 0)), (1, .int 6), (2, .long v), (4, .int 2)]) X dX11_signOf_37 (by decide) rfl ?_
    refine j_iload X dX11_signOf_39 1 rfl ?_
    refine j_if_eq (tgt := 56) X dX11_signOf_41 (by decide) (fun c_41 => ?_) (fun c_41 => ?_)
    · skip
      have c_41x := c_41
      rw [ex_1] at c_41x
      refine j_iload X dX11_signOf_56 1 rfl ?_
      refine j_if_eq (tgt := 66) X dX11_signOf_58 (by decide) (fun c_58 => ?_) (fun c_58 => ?_)
      · skip
        have c_58x := c_58
        rw [ex_1] at c_58x
        refine j_iload X dX11_signOf_66 0 rfl ?_
        exact E.2.1 68 _ 0 (z10, z11, z13, z15, sf) _ dX11_signOf_68 (⟨(by rw [so_0 (f := v.toInt) (Or.inl hv0)]; exact congrArg (fun w => some (Value.int w)) (c_58x.symm)), hS⟩) hr rfl
      · skip
        exact absurd c_41 c_58
    · skip
      have c_41x := c_41
      rw [ex_1] at c_41x
      refine j_iload X dX11_signOf_44 0 rfl ?_
      refine j_if_eq (tgt := 56) X dX11_signOf_46 (by decide) (fun _ => ?_) (fun c9 => absurd c9 (by decide))
      refine j_iload X dX11_signOf_56 1 rfl ?_
      refine j_if_eq (tgt := 66) X dX11_signOf_58 (by decide) (fun c_58 => ?_) (fun c_58 => ?_)
      · skip
        have c_58x := c_58
        rw [ex_1] at c_58x
        refine j_iload X dX11_signOf_66 0 rfl ?_
        exact E.2.1 68 _ 0 (z10, z11, z13, z15, sf) _ dX11_signOf_68 (⟨(by rw [so_0 (f := v.toInt) (Or.inl hv0)]; exact congrArg (fun w => some (Value.int w)) (c_58x.symm)), hS⟩) hr rfl
      · skip
        have c_58x := c_58
        rw [ex_1] at c_58x
        refine j_iload X dX11_signOf_61 1 rfl ?_
        refine j_goto (tgt := 68) X dX11_signOf_63 (by decide) ?_
        exact E.2.1 68 _ x_1 (z10, z11, z13, z15, sf) _ dX11_signOf_68 (⟨(by rw [so_0 (f := v.toInt) (Or.inl hv0)]; exact congrArg (fun w => some (Value.int w)) ex_1), hS⟩) hr rfl
  · skip
    first | simp only [bI_0, Decidable.not_not, sg_mul, sg_e0, sg_l0, sg_g0, sg_le0, sg_ge0, cmp_eq, cmp_lt, cmp_ge, cmp_gt, cmp_le, lT0, lT1] at c_10 | simp only [Int32.le_iff_toInt_le, Int32.lt_iff_toInt_lt, ← Int32.toInt_inj, iT0, iT1, iT2, iT3, iT4, iT5, iT6, iT7, iT8, iT9, iT10, iT11, iT12, iT13, iT14, iT15, iT16, iT19, iT20, iT31, iT32, iT42, iT64, iT200, iT318, iT319, iT1000, iTm1, iTm2] at c_10 | skip
    refine j_aload_n X dX11_signOf_13 rfl 1 rfl ?_
    refine j_iload X dX11_signOf_14 4 rfl ?_
    refine j_callV X dX11_signOf_16 (c_X11_sign l G q t n co cr po tx ty [z0, z1, z2, z3, z4, z5, z6, z7, z8, z9, z10, z11, z12, z13, z14, z15] rfl sf 2 2 rfl (by decide) (hS 2 (by decide)) (bd_lt br (by decide))) gX11_signOf_X11_sign rfl hy_X11_sign_V ⟨Nat.le_of_ble_eq_true rfl, Nat.le_of_ble_eq_true rfl⟩ 0 rfl rfl [0, 1, 2] rfl (by decide) rfl rfl (Nat.le_of_ble_eq_true rfl) ⟨Nat.le_of_ble_eq_true rfl, Nat.le_of_ble_eq_true rfl⟩ ?_
    rintro _ ⟨⟩ rfl
    change J p l e rm_X11_signOf s m args below meth c Q G A 8 0 0 19 [(5, .int x_1), (0, .ref (q 0)), (1, .int 6), (2, .long v), (4, .int 2)] [.int (sg z2)] [(q 0, .inr (10, mF t n q co cr po tx ty)), (q 10, aI G 320 (rg [z0, z1, z2, z3, z4, z5, z6, z7, z8, z9, z10, z11, z12, z13, z14, z15])), (q 11, aZ G 16 sf)]
    refine j_if_ne (tgt := 26) X dX11_signOf_19 (by decide) (fun c_19 => ?_) (fun c_19 => ?_)
    · skip
      first | simp only [bI_0, Decidable.not_not, sg_mul, sg_e0, sg_l0, sg_g0, sg_le0, sg_ge0, cmp_eq, cmp_lt, cmp_ge, cmp_gt, cmp_le, lT0, lT1] at c_19 | simp only [Int32.le_iff_toInt_le, Int32.lt_iff_toInt_lt, ← Int32.toInt_inj, iT0, iT1, iT2, iT3, iT4, iT5, iT6, iT7, iT8, iT9, iT10, iT11, iT12, iT13, iT14, iT15, iT16, iT19, iT20, iT31, iT32, iT42, iT64, iT200, iT318, iT319, iT1000, iTm1, iTm2] at c_19 | skip
      refine j_lload_n X dX11_signOf_26 rfl 3 rfl ?_
      refine j_lconst (v := 0) X dX11_signOf_27 rfl ?_
      refine j_lcmp X dX11_signOf_28 ?_
      refine j_if_ge (tgt := 36) X dX11_signOf_29 (by decide) (fun c_29 => ?_) (fun c_29 => ?_)
      · skip
        first | simp only [bI_0, Decidable.not_not, sg_mul, sg_e0, sg_l0, sg_g0, sg_le0, sg_ge0, cmp_eq, cmp_lt, cmp_ge, cmp_gt, cmp_le, lT0, lT1] at c_29 | simp only [Int32.le_iff_toInt_le, Int32.lt_iff_toInt_lt, ← Int32.toInt_inj, iT0, iT1, iT2, iT3, iT4, iT5, iT6, iT7, iT8, iT9, iT10, iT11, iT12, iT13, iT14, iT15, iT16, iT19, iT20, iT31, iT32, iT42, iT64, iT200, iT318, iT319, iT1000, iTm1, iTm2] at c_29 | skip
        refine j_iconst (v := 1) X dX11_signOf_36 rfl ?_
        refine j_istore (L' := [(6, .int 1), (5, .int x_1), (0, .ref (q 0)), (1, .int 6), (2, .long v), (4, .int 2)]) X dX11_signOf_37 (by decide) rfl ?_
        refine j_iload X dX11_signOf_39 1 rfl ?_
        refine j_if_eq (tgt := 56) X dX11_signOf_41 (by decide) (fun c_41 => ?_) (fun c_41 => ?_)
        · skip
          have c_41x := c_41
          rw [ex_1] at c_41x
          refine j_iload X dX11_signOf_56 1 rfl ?_
          refine j_if_eq (tgt := 66) X dX11_signOf_58 (by decide) (fun c_58 => ?_) (fun c_58 => ?_)
          · skip
            have c_58x := c_58
            rw [ex_1] at c_58x
            refine j_iload X dX11_signOf_66 0 rfl ?_
            exact E.2.1 68 _ 1 (z10, z11, z13, z15, sf) _ dX11_signOf_68 (⟨(by rw [so_y (show sg v.toInt * sg z2 = 1 by rw [sg_pos (by omega), sg_pos (by omega)]; decide) (Or.inl rfl) c_58x]), hS⟩) hr rfl
          · skip
            exact absurd c_41 c_58
        · skip
          have c_41x := c_41
          rw [ex_1] at c_41x
          refine j_iload X dX11_signOf_44 0 rfl ?_
          refine j_if_eq (tgt := 56) X dX11_signOf_46 (by decide) (fun c9 => absurd c9 (by decide)) (fun _ => ?_)
          refine j_iload X dX11_signOf_49 1 rfl ?_
          refine j_iload X dX11_signOf_51 0 rfl ?_
          refine j_icmp_ne (tgt := 69) X dX11_signOf_53 (by decide) (fun c_53 => ?_) (fun c_53 => ?_)
          · skip
            have c_53x := c_53
            rw [ex_1] at c_53x
            refine j_aload_n X dX11_signOf_69 rfl 2 rfl ?_
            refine j_bipush (v := 10) X dX11_signOf_70 (by decide) ?_
            refine j_iload_n X dX11_signOf_72 rfl 3 rfl ?_
            refine j_iload_n X dX11_signOf_73 rfl 3 rfl ?_
            obtain ⟨y_2, ey_2⟩ : ∃ zz9 : Int, zz9 = z6 * z6 := ⟨_, rfl⟩
            have by_2 : bd 260 y_2 := by rw [ey_2]; exact bd_mul bu bu
            refine j_callV X dX11_signOf_74 (n_mul l G q t n co cr po tx ty [z0, z1, z2, z3, z4, z5, z6, z7, z8, z9, z10, z11, z12, z13, z14, z15] sf rfl hS 10 10 rfl (by decide) 6 6 rfl (by decide) 6 6 rfl (by decide) (by decide) (by decide) y_2 ey_2) gX11_signOf_X11_multiply rfl hy_X11_multiply_V ⟨Nat.le_of_ble_eq_true rfl, Nat.le_of_ble_eq_true rfl⟩ 0 rfl rfl [0, 1, 2] rfl (by decide) rfl rfl (Nat.le_of_ble_eq_true rfl) ⟨Nat.le_of_ble_eq_true rfl, Nat.le_of_ble_eq_true rfl⟩ ?_
            rintro _ sf_3 ⟨rfl, hS_sf_3⟩
            change J p l e rm_X11_signOf s m args below meth c Q G A 8 0 0 77 [(6, .int 1), (5, .int x_1), (0, .ref (q 0)), (1, .int 6), (2, .long v), (4, .int 2)] [] [(q 0, .inr (10, mF t n q co cr po tx ty)), (q 10, aI G 320 (rg [z0, z1, z2, z3, z4, z5, z6, z7, z8, z9, y_2, z11, z12, z13, z14, z15])), (q 11, aZ G 16 sf_3)]
            refine j_aload_n X dX11_signOf_77 rfl 2 rfl ?_
            refine j_bipush (v := 13) X dX11_signOf_78 (by decide) ?_
            refine j_lload_n X dX11_signOf_80 rfl 4 rfl ?_
            obtain ⟨y_4, ey_4⟩ : ∃ zz9 : Int, zz9 = v.toInt := ⟨_, rfl⟩
            have by_4 : bd 43 y_4 := by rw [ey_4]; exact bv
            refine j_callV X dX11_signOf_81 (n_load l G q t n co cr po tx ty [z0, z1, z2, z3, z4, z5, z6, z7, z8, z9, y_2, z11, z12, z13, z14, z15] sf_3 rfl hS_sf_3 13 13 rfl (by decide) v y_4 ey_4) gX11_signOf_X11_load rfl hy_X11_load_V ⟨Nat.le_of_ble_eq_true rfl, Nat.le_of_ble_eq_true rfl⟩ 0 rfl rfl [0, 1, 2] rfl (by decide) rfl rfl (Nat.le_of_ble_eq_true rfl) ⟨Nat.le_of_ble_eq_true rfl, Nat.le_of_ble_eq_true rfl⟩ ?_
            rintro _ sf_5 ⟨rfl, hS_sf_5⟩
            change J p l e rm_X11_signOf s m args below meth c Q G A 8 0 0 84 [(6, .int 1), (5, .int x_1), (0, .ref (q 0)), (1, .int 6), (2, .long v), (4, .int 2)] [] [(q 0, .inr (10, mF t n q co cr po tx ty)), (q 10, aI G 320 (rg [z0, z1, z2, z3, z4, z5, z6, z7, z8, z9, y_2, z11, z12, y_4, z14, z15])), (q 11, aZ G 16 sf_5)]
            refine j_aload_n X dX11_signOf_84 rfl 2 rfl ?_
            refine j_bipush (v := 15) X dX11_signOf_85 (by decide) ?_
            refine j_bipush (v := 13) X dX11_signOf_87 (by decide) ?_
            refine j_bipush (v := 13) X dX11_signOf_89 (by decide) ?_
            obtain ⟨y_6, ey_6⟩ : ∃ zz9 : Int, zz9 = y_4 * y_4 := ⟨_, rfl⟩
            have by_6 : bd 86 y_6 := by rw [ey_6]; exact bd_mul by_4 by_4
            refine j_callV X dX11_signOf_91 (n_mul l G q t n co cr po tx ty [z0, z1, z2, z3, z4, z5, z6, z7, z8, z9, y_2, z11, z12, y_4, z14, z15] sf_5 rfl hS_sf_5 15 15 rfl (by decide) 13 13 rfl (by decide) 13 13 rfl (by decide) (by decide) (by decide) y_6 ey_6) gX11_signOf_X11_multiply rfl hy_X11_multiply_V ⟨Nat.le_of_ble_eq_true rfl, Nat.le_of_ble_eq_true rfl⟩ 0 rfl rfl [0, 1, 2] rfl (by decide) rfl rfl (Nat.le_of_ble_eq_true rfl) ⟨Nat.le_of_ble_eq_true rfl, Nat.le_of_ble_eq_true rfl⟩ ?_
            rintro _ sf_7 ⟨rfl, hS_sf_7⟩
            change J p l e rm_X11_signOf s m args below meth c Q G A 8 0 0 94 [(6, .int 1), (5, .int x_1), (0, .ref (q 0)), (1, .int 6), (2, .long v), (4, .int 2)] [] [(q 0, .inr (10, mF t n q co cr po tx ty)), (q 10, aI G 320 (rg [z0, z1, z2, z3, z4, z5, z6, z7, z8, z9, y_2, z11, z12, y_4, z14, y_6])), (q 11, aZ G 16 sf_7)]
            refine j_aload_n X dX11_signOf_94 rfl 2 rfl ?_
            refine j_bipush (v := 11) X dX11_signOf_95 (by decide) ?_
            refine j_bipush (v := 15) X dX11_signOf_97 (by decide) ?_
            refine j_iload X dX11_signOf_99 5 rfl ?_
            obtain ⟨y_8, ey_8⟩ : ∃ zz9 : Int, zz9 = y_6 * z2 := ⟨_, rfl⟩
            have by_8 : bd 258 y_8 := by rw [ey_8]; exact bd_mul by_6 br
            refine j_callV X dX11_signOf_101 (n_mul l G q t n co cr po tx ty [z0, z1, z2, z3, z4, z5, z6, z7, z8, z9, y_2, z11, z12, y_4, z14, y_6] sf_7 rfl hS_sf_7 11 11 rfl (by decide) 15 15 rfl (by decide) 2 2 rfl (by decide) (by decide) (by decide) y_8 ey_8) gX11_signOf_X11_multiply rfl hy_X11_multiply_V ⟨Nat.le_of_ble_eq_true rfl, Nat.le_of_ble_eq_true rfl⟩ 0 rfl rfl [0, 1, 2] rfl (by decide) rfl rfl (Nat.le_of_ble_eq_true rfl) ⟨Nat.le_of_ble_eq_true rfl, Nat.le_of_ble_eq_true rfl⟩ ?_
            rintro _ sf_9 ⟨rfl, hS_sf_9⟩
            change J p l e rm_X11_signOf s m args below meth c Q G A 8 0 0 104 [(6, .int 1), (5, .int x_1), (0, .ref (q 0)), (1, .int 6), (2, .long v), (4, .int 2)] [] [(q 0, .inr (10, mF t n q co cr po tx ty)), (q 10, aI G 320 (rg [z0, z1, z2, z3, z4, z5, z6, z7, z8, z9, y_2, y_8, z12, y_4, z14, y_6])), (q 11, aZ G 16 sf_9)]
            refine j_aload_n X dX11_signOf_104 rfl 2 rfl ?_
            refine j_bipush (v := 10) X dX11_signOf_105 (by decide) ?_
            refine j_bipush (v := 11) X dX11_signOf_107 (by decide) ?_
            refine j_callV X dX11_signOf_109 (c_X11_sizes l G q t n co cr po tx ty [z0, z1, z2, z3, z4, z5, z6, z7, z8, z9, y_2, y_8, z12, y_4, z14, y_6] rfl sf_9 10 10 rfl (by decide) 11 11 rfl (by decide) (bd_lt by_2 (by decide)) (bd_lt by_8 (by decide))) gX11_signOf_X11_sizes rfl hy_X11_sizes_V ⟨Nat.le_of_ble_eq_true rfl, Nat.le_of_ble_eq_true rfl⟩ 0 rfl rfl [0, 1, 2] rfl (by decide) rfl rfl (Nat.le_of_ble_eq_true rfl) ⟨Nat.le_of_ble_eq_true rfl, Nat.le_of_ble_eq_true rfl⟩ ?_
            rintro _ ⟨⟩ rfl
            change J p l e rm_X11_signOf s m args below meth c Q G A 8 0 0 112 [(6, .int 1), (5, .int x_1), (0, .ref (q 0)), (1, .int 6), (2, .long v), (4, .int 2)] [.int (sg ((y_2.natAbs : Int) - (y_8.natAbs : Int)))] [(q 0, .inr (10, mF t n q co cr po tx ty)), (q 10, aI G 320 (rg [z0, z1, z2, z3, z4, z5, z6, z7, z8, z9, y_2, y_8, z12, y_4, z14, y_6])), (q 11, aZ G 16 sf_9)]
            refine j_topi (fun x_10 ex_10 => ?_)
            refine j_istore (L' := [(7, .int x_10), (6, .int 1), (5, .int x_1), (0, .ref (q 0)), (1, .int 6), (2, .long v), (4, .int 2)]) X dX11_signOf_112 (by decide) rfl ?_
            refine j_iload X dX11_signOf_114 0 rfl ?_
            refine j_if_ne (tgt := 123) X dX11_signOf_116 (by decide) (fun c_116 => ?_) (fun c_116 => ?_)
            · skip
              have c_116x := c_116
              rw [ex_10] at c_116x
              simp only [sg_e0, sg_le0, Int.not_le] at c_116x
              refine j_iload X dX11_signOf_123 0 rfl ?_
              refine j_if_le (tgt := 133) X dX11_signOf_125 (by decide) (fun c_125 => ?_) (fun c_125 => ?_)
              · skip
                have c_125x := c_125
                rw [ex_10] at c_125x
                simp only [sg_e0, sg_le0, Int.not_le] at c_125x
                refine j_iload X dX11_signOf_133 1 rfl ?_
                exact E.2.1 135 _ 1 (y_2, y_8, y_4, y_6, sf_9) _ dX11_signOf_135 (⟨(by rw [so_m (show sg v.toInt * sg z2 = 1 by rw [sg_pos (by omega), sg_pos (by omega)]; decide) (Or.inl rfl) c_41x c_53x hR ey_2 ey_4 ey_6 ey_8, sg_m1 (by omega), so_op (Or.inl rfl) c_41x c_53x]), hS_sf_9⟩) hr rfl
              · skip
                have c_125x := c_125
                rw [ex_10] at c_125x
                simp only [sg_e0, sg_le0, Int.not_le] at c_125x
                refine j_iload X dX11_signOf_128 2 rfl ?_
                refine j_goto (tgt := 135) X dX11_signOf_130 (by decide) ?_
                exact E.2.1 135 _ x_1 (y_2, y_8, y_4, y_6, sf_9) _ dX11_signOf_135 (⟨(by rw [so_m (show sg v.toInt * sg z2 = 1 by rw [sg_pos (by omega), sg_pos (by omega)]; decide) (Or.inl rfl) c_41x c_53x hR ey_2 ey_4 ey_6 ey_8, sg_1 c_125x]; exact congrArg (fun w => some (Value.int w)) ex_1), hS_sf_9⟩) hr rfl
            · skip
              have c_116x := c_116
              rw [ex_10] at c_116x
              simp only [sg_e0, sg_le0, Int.not_le] at c_116x
              refine j_iconst (v := 0) X dX11_signOf_119 rfl ?_
              refine j_goto (tgt := 135) X dX11_signOf_120 (by decide) ?_
              exact E.2.1 135 _ 0 (y_2, y_8, y_4, y_6, sf_9) _ dX11_signOf_135 (⟨(by rw [so_m (show sg v.toInt * sg z2 = 1 by rw [sg_pos (by omega), sg_pos (by omega)]; decide) (Or.inl rfl) c_41x c_53x hR ey_2 ey_4 ey_6 ey_8, sg_0m c_116x]), hS_sf_9⟩) hr rfl
          · skip
            have c_53x := c_53
            rw [ex_1] at c_53x
            refine j_iload X dX11_signOf_56 1 rfl ?_
            refine j_if_eq (tgt := 66) X dX11_signOf_58 (by decide) (fun c_58 => ?_) (fun c_58 => ?_)
            · skip
              have c_58x := c_58
              rw [ex_1] at c_58x
              refine j_iload X dX11_signOf_66 0 rfl ?_
              exact E.2.1 68 _ 1 (z10, z11, z13, z15, sf) _ dX11_signOf_68 (⟨(by rw [so_y (show sg v.toInt * sg z2 = 1 by rw [sg_pos (by omega), sg_pos (by omega)]; decide) (Or.inl rfl) c_58x]), hS⟩) hr rfl
            · skip
              have c_58x := c_58
              rw [ex_1] at c_58x
              refine j_iload X dX11_signOf_61 1 rfl ?_
              refine j_goto (tgt := 68) X dX11_signOf_63 (by decide) ?_
              exact E.2.1 68 _ x_1 (z10, z11, z13, z15, sf) _ dX11_signOf_68 (⟨(by rw [so_e (show sg v.toInt * sg z2 = 1 by rw [sg_pos (by omega), sg_pos (by omega)]; decide) c_53x]; exact congrArg (fun w => some (Value.int w)) ex_1), hS⟩) hr rfl
      · skip
        first | simp only [bI_0, Decidable.not_not, sg_mul, sg_e0, sg_l0, sg_g0, sg_le0, sg_ge0, cmp_eq, cmp_lt, cmp_ge, cmp_gt, cmp_le, lT0, lT1] at c_29 | simp only [Int32.le_iff_toInt_le, Int32.lt_iff_toInt_lt, ← Int32.toInt_inj, iT0, iT1, iT2, iT3, iT4, iT5, iT6, iT7, iT8, iT9, iT10, iT11, iT12, iT13, iT14, iT15, iT16, iT19, iT20, iT31, iT32, iT42, iT64, iT200, iT318, iT319, iT1000, iTm1, iTm2] at c_29 | skip
        refine j_iconst (v := (-1)) X dX11_signOf_32 rfl ?_
        refine j_goto (tgt := 37) X dX11_signOf_33 (by decide) ?_
        refine j_istore (L' := [(6, .int (-1)), (5, .int x_1), (0, .ref (q 0)), (1, .int 6), (2, .long v), (4, .int 2)]) X dX11_signOf_37 (by decide) rfl ?_
        refine j_iload X dX11_signOf_39 1 rfl ?_
        refine j_if_eq (tgt := 56) X dX11_signOf_41 (by decide) (fun c_41 => ?_) (fun c_41 => ?_)
        · skip
          have c_41x := c_41
          rw [ex_1] at c_41x
          refine j_iload X dX11_signOf_56 1 rfl ?_
          refine j_if_eq (tgt := 66) X dX11_signOf_58 (by decide) (fun c_58 => ?_) (fun c_58 => ?_)
          · skip
            have c_58x := c_58
            rw [ex_1] at c_58x
            refine j_iload X dX11_signOf_66 0 rfl ?_
            exact E.2.1 68 _ (-1) (z10, z11, z13, z15, sf) _ dX11_signOf_68 (⟨(by rw [so_y (show sg v.toInt * sg z2 = (-1) by rw [sg_neg (by omega), sg_pos (by omega)]; decide) (Or.inr rfl) c_58x]), hS⟩) hr rfl
          · skip
            exact absurd c_41 c_58
        · skip
          have c_41x := c_41
          rw [ex_1] at c_41x
          refine j_iload X dX11_signOf_44 0 rfl ?_
          refine j_if_eq (tgt := 56) X dX11_signOf_46 (by decide) (fun c9 => absurd c9 (by decide)) (fun _ => ?_)
          refine j_iload X dX11_signOf_49 1 rfl ?_
          refine j_iload X dX11_signOf_51 0 rfl ?_
          refine j_icmp_ne (tgt := 69) X dX11_signOf_53 (by decide) (fun c_53 => ?_) (fun c_53 => ?_)
          · skip
            have c_53x := c_53
            rw [ex_1] at c_53x
            refine j_aload_n X dX11_signOf_69 rfl 2 rfl ?_
            refine j_bipush (v := 10) X dX11_signOf_70 (by decide) ?_
            refine j_iload_n X dX11_signOf_72 rfl 3 rfl ?_
            refine j_iload_n X dX11_signOf_73 rfl 3 rfl ?_
            obtain ⟨y_11, ey_11⟩ : ∃ zz9 : Int, zz9 = z6 * z6 := ⟨_, rfl⟩
            have by_11 : bd 260 y_11 := by rw [ey_11]; exact bd_mul bu bu
            refine j_callV X dX11_signOf_74 (n_mul l G q t n co cr po tx ty [z0, z1, z2, z3, z4, z5, z6, z7, z8, z9, z10, z11, z12, z13, z14, z15] sf rfl hS 10 10 rfl (by decide) 6 6 rfl (by decide) 6 6 rfl (by decide) (by decide) (by decide) y_11 ey_11) gX11_signOf_X11_multiply rfl hy_X11_multiply_V ⟨Nat.le_of_ble_eq_true rfl, Nat.le_of_ble_eq_true rfl⟩ 0 rfl rfl [0, 1, 2] rfl (by decide) rfl rfl (Nat.le_of_ble_eq_true rfl) ⟨Nat.le_of_ble_eq_true rfl, Nat.le_of_ble_eq_true rfl⟩ ?_
            rintro _ sf_12 ⟨rfl, hS_sf_12⟩
            change J p l e rm_X11_signOf s m args below meth c Q G A 8 0 0 77 [(6, .int (-1)), (5, .int x_1), (0, .ref (q 0)), (1, .int 6), (2, .long v), (4, .int 2)] [] [(q 0, .inr (10, mF t n q co cr po tx ty)), (q 10, aI G 320 (rg [z0, z1, z2, z3, z4, z5, z6, z7, z8, z9, y_11, z11, z12, z13, z14, z15])), (q 11, aZ G 16 sf_12)]
            refine j_aload_n X dX11_signOf_77 rfl 2 rfl ?_
            refine j_bipush (v := 13) X dX11_signOf_78 (by decide) ?_
            refine j_lload_n X dX11_signOf_80 rfl 4 rfl ?_
            obtain ⟨y_13, ey_13⟩ : ∃ zz9 : Int, zz9 = v.toInt := ⟨_, rfl⟩
            have by_13 : bd 43 y_13 := by rw [ey_13]; exact bv
            refine j_callV X dX11_signOf_81 (n_load l G q t n co cr po tx ty [z0, z1, z2, z3, z4, z5, z6, z7, z8, z9, y_11, z11, z12, z13, z14, z15] sf_12 rfl hS_sf_12 13 13 rfl (by decide) v y_13 ey_13) gX11_signOf_X11_load rfl hy_X11_load_V ⟨Nat.le_of_ble_eq_true rfl, Nat.le_of_ble_eq_true rfl⟩ 0 rfl rfl [0, 1, 2] rfl (by decide) rfl rfl (Nat.le_of_ble_eq_true rfl) ⟨Nat.le_of_ble_eq_true rfl, Nat.le_of_ble_eq_true rfl⟩ ?_
            rintro _ sf_14 ⟨rfl, hS_sf_14⟩
            change J p l e rm_X11_signOf s m args below meth c Q G A 8 0 0 84 [(6, .int (-1)), (5, .int x_1), (0, .ref (q 0)), (1, .int 6), (2, .long v), (4, .int 2)] [] [(q 0, .inr (10, mF t n q co cr po tx ty)), (q 10, aI G 320 (rg [z0, z1, z2, z3, z4, z5, z6, z7, z8, z9, y_11, z11, z12, y_13, z14, z15])), (q 11, aZ G 16 sf_14)]
            refine j_aload_n X dX11_signOf_84 rfl 2 rfl ?_
            refine j_bipush (v := 15) X dX11_signOf_85 (by decide) ?_
            refine j_bipush (v := 13) X dX11_signOf_87 (by decide) ?_
            refine j_bipush (v := 13) X dX11_signOf_89 (by decide) ?_
            obtain ⟨y_15, ey_15⟩ : ∃ zz9 : Int, zz9 = y_13 * y_13 := ⟨_, rfl⟩
            have by_15 : bd 86 y_15 := by rw [ey_15]; exact bd_mul by_13 by_13
            refine j_callV X dX11_signOf_91 (n_mul l G q t n co cr po tx ty [z0, z1, z2, z3, z4, z5, z6, z7, z8, z9, y_11, z11, z12, y_13, z14, z15] sf_14 rfl hS_sf_14 15 15 rfl (by decide) 13 13 rfl (by decide) 13 13 rfl (by decide) (by decide) (by decide) y_15 ey_15) gX11_signOf_X11_multiply rfl hy_X11_multiply_V ⟨Nat.le_of_ble_eq_true rfl, Nat.le_of_ble_eq_true rfl⟩ 0 rfl rfl [0, 1, 2] rfl (by decide) rfl rfl (Nat.le_of_ble_eq_true rfl) ⟨Nat.le_of_ble_eq_true rfl, Nat.le_of_ble_eq_true rfl⟩ ?_
            rintro _ sf_16 ⟨rfl, hS_sf_16⟩
            change J p l e rm_X11_signOf s m args below meth c Q G A 8 0 0 94 [(6, .int (-1)), (5, .int x_1), (0, .ref (q 0)), (1, .int 6), (2, .long v), (4, .int 2)] [] [(q 0, .inr (10, mF t n q co cr po tx ty)), (q 10, aI G 320 (rg [z0, z1, z2, z3, z4, z5, z6, z7, z8, z9, y_11, z11, z12, y_13, z14, y_15])), (q 11, aZ G 16 sf_16)]
            refine j_aload_n X dX11_signOf_94 rfl 2 rfl ?_
            refine j_bipush (v := 11) X dX11_signOf_95 (by decide) ?_
            refine j_bipush (v := 15) X dX11_signOf_97 (by decide) ?_
            refine j_iload X dX11_signOf_99 5 rfl ?_
            obtain ⟨y_17, ey_17⟩ : ∃ zz9 : Int, zz9 = y_15 * z2 := ⟨_, rfl⟩
            have by_17 : bd 258 y_17 := by rw [ey_17]; exact bd_mul by_15 br
            refine j_callV X dX11_signOf_101 (n_mul l G q t n co cr po tx ty [z0, z1, z2, z3, z4, z5, z6, z7, z8, z9, y_11, z11, z12, y_13, z14, y_15] sf_16 rfl hS_sf_16 11 11 rfl (by decide) 15 15 rfl (by decide) 2 2 rfl (by decide) (by decide) (by decide) y_17 ey_17) gX11_signOf_X11_multiply rfl hy_X11_multiply_V ⟨Nat.le_of_ble_eq_true rfl, Nat.le_of_ble_eq_true rfl⟩ 0 rfl rfl [0, 1, 2] rfl (by decide) rfl rfl (Nat.le_of_ble_eq_true rfl) ⟨Nat.le_of_ble_eq_true rfl, Nat.le_of_ble_eq_true rfl⟩ ?_
            rintro _ sf_18 ⟨rfl, hS_sf_18⟩
            change J p l e rm_X11_signOf s m args below meth c Q G A 8 0 0 104 [(6, .int (-1)), (5, .int x_1), (0, .ref (q 0)), (1, .int 6), (2, .long v), (4, .int 2)] [] [(q 0, .inr (10, mF t n q co cr po tx ty)), (q 10, aI G 320 (rg [z0, z1, z2, z3, z4, z5, z6, z7, z8, z9, y_11, y_17, z12, y_13, z14, y_15])), (q 11, aZ G 16 sf_18)]
            refine j_aload_n X dX11_signOf_104 rfl 2 rfl ?_
            refine j_bipush (v := 10) X dX11_signOf_105 (by decide) ?_
            refine j_bipush (v := 11) X dX11_signOf_107 (by decide) ?_
            refine j_callV X dX11_signOf_109 (c_X11_sizes l G q t n co cr po tx ty [z0, z1, z2, z3, z4, z5, z6, z7, z8, z9, y_11, y_17, z12, y_13, z14, y_15] rfl sf_18 10 10 rfl (by decide) 11 11 rfl (by decide) (bd_lt by_11 (by decide)) (bd_lt by_17 (by decide))) gX11_signOf_X11_sizes rfl hy_X11_sizes_V ⟨Nat.le_of_ble_eq_true rfl, Nat.le_of_ble_eq_true rfl⟩ 0 rfl rfl [0, 1, 2] rfl (by decide) rfl rfl (Nat.le_of_ble_eq_true rfl) ⟨Nat.le_of_ble_eq_true rfl, Nat.le_of_ble_eq_true rfl⟩ ?_
            rintro _ ⟨⟩ rfl
            change J p l e rm_X11_signOf s m args below meth c Q G A 8 0 0 112 [(6, .int (-1)), (5, .int x_1), (0, .ref (q 0)), (1, .int 6), (2, .long v), (4, .int 2)] [.int (sg ((y_11.natAbs : Int) - (y_17.natAbs : Int)))] [(q 0, .inr (10, mF t n q co cr po tx ty)), (q 10, aI G 320 (rg [z0, z1, z2, z3, z4, z5, z6, z7, z8, z9, y_11, y_17, z12, y_13, z14, y_15])), (q 11, aZ G 16 sf_18)]
            refine j_topi (fun x_19 ex_19 => ?_)
            refine j_istore (L' := [(7, .int x_19), (6, .int (-1)), (5, .int x_1), (0, .ref (q 0)), (1, .int 6), (2, .long v), (4, .int 2)]) X dX11_signOf_112 (by decide) rfl ?_
            refine j_iload X dX11_signOf_114 0 rfl ?_
            refine j_if_ne (tgt := 123) X dX11_signOf_116 (by decide) (fun c_116 => ?_) (fun c_116 => ?_)
            · skip
              have c_116x := c_116
              rw [ex_19] at c_116x
              simp only [sg_e0, sg_le0, Int.not_le] at c_116x
              refine j_iload X dX11_signOf_123 0 rfl ?_
              refine j_if_le (tgt := 133) X dX11_signOf_125 (by decide) (fun c_125 => ?_) (fun c_125 => ?_)
              · skip
                have c_125x := c_125
                rw [ex_19] at c_125x
                simp only [sg_e0, sg_le0, Int.not_le] at c_125x
                refine j_iload X dX11_signOf_133 1 rfl ?_
                exact E.2.1 135 _ (-1) (y_11, y_17, y_13, y_15, sf_18) _ dX11_signOf_135 (⟨(by rw [so_m (show sg v.toInt * sg z2 = (-1) by rw [sg_neg (by omega), sg_pos (by omega)]; decide) (Or.inr rfl) c_41x c_53x hR ey_11 ey_13 ey_15 ey_17, sg_m1 (by omega), so_op (Or.inr rfl) c_41x c_53x]), hS_sf_18⟩) hr rfl
              · skip
                have c_125x := c_125
                rw [ex_19] at c_125x
                simp only [sg_e0, sg_le0, Int.not_le] at c_125x
                refine j_iload X dX11_signOf_128 2 rfl ?_
                refine j_goto (tgt := 135) X dX11_signOf_130 (by decide) ?_
                exact E.2.1 135 _ x_1 (y_11, y_17, y_13, y_15, sf_18) _ dX11_signOf_135 (⟨(by rw [so_m (show sg v.toInt * sg z2 = (-1) by rw [sg_neg (by omega), sg_pos (by omega)]; decide) (Or.inr rfl) c_41x c_53x hR ey_11 ey_13 ey_15 ey_17, sg_1 c_125x]; exact congrArg (fun w => some (Value.int w)) ex_1), hS_sf_18⟩) hr rfl
            · skip
              have c_116x := c_116
              rw [ex_19] at c_116x
              simp only [sg_e0, sg_le0, Int.not_le] at c_116x
              refine j_iconst (v := 0) X dX11_signOf_119 rfl ?_
              refine j_goto (tgt := 135) X dX11_signOf_120 (by decide) ?_
              exact E.2.1 135 _ 0 (y_11, y_17, y_13, y_15, sf_18) _ dX11_signOf_135 (⟨(by rw [so_m (show sg v.toInt * sg z2 = (-1) by rw [sg_neg (by omega), sg_pos (by omega)]; decide) (Or.inr rfl) c_41x c_53x hR ey_11 ey_13 ey_15 ey_17, sg_0m c_116x]), hS_sf_18⟩) hr rfl
          · skip
            have c_53x := c_53
            rw [ex_1] at c_53x
            refine j_iload X dX11_signOf_56 1 rfl ?_
            refine j_if_eq (tgt := 66) X dX11_signOf_58 (by decide) (fun c_58 => ?_) (fun c_58 => ?_)
            · skip
              have c_58x := c_58
              rw [ex_1] at c_58x
              refine j_iload X dX11_signOf_66 0 rfl ?_
              exact E.2.1 68 _ (-1) (z10, z11, z13, z15, sf) _ dX11_signOf_68 (⟨(by rw [so_y (show sg v.toInt * sg z2 = (-1) by rw [sg_neg (by omega), sg_pos (by omega)]; decide) (Or.inr rfl) c_58x]), hS⟩) hr rfl
            · skip
              have c_58x := c_58
              rw [ex_1] at c_58x
              refine j_iload X dX11_signOf_61 1 rfl ?_
              refine j_goto (tgt := 68) X dX11_signOf_63 (by decide) ?_
              exact E.2.1 68 _ x_1 (z10, z11, z13, z15, sf) _ dX11_signOf_68 (⟨(by rw [so_e (show sg v.toInt * sg z2 = (-1) by rw [sg_neg (by omega), sg_pos (by omega)]; decide) c_53x]; exact congrArg (fun w => some (Value.int w)) ex_1), hS⟩) hr rfl
    · skip
      first | simp only [bI_0, Decidable.not_not, sg_mul, sg_e0, sg_l0, sg_g0, sg_le0, sg_ge0, cmp_eq, cmp_lt, cmp_ge, cmp_gt, cmp_le, lT0, lT1] at c_19 | simp only [Int32.le_iff_toInt_le, Int32.lt_iff_toInt_lt, ← Int32.toInt_inj, iT0, iT1, iT2, iT3, iT4, iT5, iT6, iT7, iT8, iT9, iT10, iT11, iT12, iT13, iT14, iT15, iT16, iT19, iT20, iT31, iT32, iT42, iT64, iT200, iT318, iT319, iT1000, iTm1, iTm2] at c_19 | skip
      have hR0 := c_19
      refine j_iconst (v := 0) X dX11_signOf_22 rfl ?_
      refine j_goto (tgt := 37) X dX11_signOf_23 (by decide) ?_
      refine j_istore (L' := [(6, .int 0), (5, .int x_1), (0, .ref (q 0)), (1, .int 6), (2, .long v), (4, .int 2)]) X dX11_signOf_37 (by decide) rfl ?_
      refine j_iload X dX11_signOf_39 1 rfl ?_
      refine j_if_eq (tgt := 56) X dX11_signOf_41 (by decide) (fun c_41 => ?_) (fun c_41 => ?_)
      · skip
        have c_41x := c_41
        rw [ex_1] at c_41x
        refine j_iload X dX11_signOf_56 1 rfl ?_
        refine j_if_eq (tgt := 66) X dX11_signOf_58 (by decide) (fun c_58 => ?_) (fun c_58 => ?_)
        · skip
          have c_58x := c_58
          rw [ex_1] at c_58x
          refine j_iload X dX11_signOf_66 0 rfl ?_
          exact E.2.1 68 _ 0 (z10, z11, z13, z15, sf) _ dX11_signOf_68 (⟨(by rw [so_0 (f := v.toInt) (Or.inr hR0)]; exact congrArg (fun w => some (Value.int w)) (c_58x.symm)), hS⟩) hr rfl
        · skip
          exact absurd c_41 c_58
      · skip
        have c_41x := c_41
        rw [ex_1] at c_41x
        refine j_iload X dX11_signOf_44 0 rfl ?_
        refine j_if_eq (tgt := 56) X dX11_signOf_46 (by decide) (fun _ => ?_) (fun c9 => absurd c9 (by decide))
        refine j_iload X dX11_signOf_56 1 rfl ?_
        refine j_if_eq (tgt := 66) X dX11_signOf_58 (by decide) (fun c_58 => ?_) (fun c_58 => ?_)
        · skip
          have c_58x := c_58
          rw [ex_1] at c_58x
          refine j_iload X dX11_signOf_66 0 rfl ?_
          exact E.2.1 68 _ 0 (z10, z11, z13, z15, sf) _ dX11_signOf_68 (⟨(by rw [so_0 (f := v.toInt) (Or.inr hR0)]; exact congrArg (fun w => some (Value.int w)) (c_58x.symm)), hS⟩) hr rfl
        · skip
          have c_58x := c_58
          rw [ex_1] at c_58x
          refine j_iload X dX11_signOf_61 1 rfl ?_
          refine j_goto (tgt := 68) X dX11_signOf_63 (by decide) ?_
          exact E.2.1 68 _ x_1 (z10, z11, z13, z15, sf) _ dX11_signOf_68 (⟨(by rw [so_0 (f := v.toInt) (Or.inr hR0)]; exact congrArg (fun w => some (Value.int w)) ex_1), hS⟩) hr rfl

set_option maxHeartbeats 4000000 in
set_option maxRecDepth 100000 in
theorem c_X11_signOf_7_2 (l : Launch) (G : jG) (q : Nat → Nat) (t n co cr po : Int32) (tx ty : Int64) (z0 z1 z2 z3 z4 z5 z6 z7 z8 z9 z10 z11 z12 z13 z14 z15 : Int) (sf : Nat → Int32) (hS : okS [z0, z1, z2, z3, z4, z5, z6, z7, z8, z9, z10, z11, z12, z13, z14, z15] sf) (v : Int64) (hR : 0 ≤ z2) (bu : bd 130 z7) (bv : bd 43 v.toInt) (br : bd 172 z2) : Ct l yX11_signOf wsX11_signOf rm_X11_signOf G [.ref (q 0), .int 7, .long v, .int 2] [(q 0, .inr (10, mF t n q co cr po tx ty)), (q 10, aI G 320 (rg [z0, z1, z2, z3, z4, z5, z6, z7, z8, z9, z10, z11, z12, z13, z14, z15])), (q 11, aZ G 16 sf)] (S := Int × Int × Int × Int × (Nat → Int32)) (fun r u => r = some (.int (rn z7 v.toInt z2)) ∧ okS [z0, z1, z2, z3, z4, z5, z6, z7, z8, z9, u.1, u.2.1, z12, u.2.2.1, z14, u.2.2.2.1] u.2.2.2.2) (fun u => [(q 0, .inr (10, mF t n q co cr po tx ty)), (q 10, aI G 320 (rg [z0, z1, z2, z3, z4, z5, z6, z7, z8, z9, u.1, u.2.1, z12, u.2.2.1, z14, u.2.2.2.1])), (q 11, aZ G 16 u.2.2.2.2)]) (fun _ => []) := by
  refine c_intro (cc := cX11_signOf) (maxL := 8) (ret := (some .int)) (by decide) rfl (Nat.le_of_ble_eq_true rfl) (fun _ => by simp only [List.map_cons, List.map_nil]) ?_
  intro p e s m args below meth c Q A X hr hin E
  change J p l e rm_X11_signOf s m args below meth c Q G A 8 0 0 0 [(0, .ref (q 0)), (1, .int 7), (2, .long v), (4, .int 2)] [] [(q 0, .inr (10, mF t n q co cr po tx ty)), (q 10, aI G 320 (rg [z0, z1, z2, z3, z4, z5, z6, z7, z8, z9, z10, z11, z12, z13, z14, z15])), (q 11, aZ G 16 sf)]
  refine j_aload_n X dX11_signOf_0 rfl 0 rfl ?_
  refine j_iload_n X dX11_signOf_1 rfl 1 rfl ?_
  refine j_callV X dX11_signOf_2 (c_X11_sign l G q t n co cr po tx ty [z0, z1, z2, z3, z4, z5, z6, z7, z8, z9, z10, z11, z12, z13, z14, z15] rfl sf 7 7 rfl (by decide) (hS 7 (by decide)) (bd_lt bu (by decide))) gX11_signOf_X11_sign rfl hy_X11_sign_V ⟨Nat.le_of_ble_eq_true rfl, Nat.le_of_ble_eq_true rfl⟩ 0 rfl rfl [0, 1, 2] rfl (by decide) rfl rfl (Nat.le_of_ble_eq_true rfl) ⟨Nat.le_of_ble_eq_true rfl, Nat.le_of_ble_eq_true rfl⟩ ?_
  rintro _ ⟨⟩ rfl
  change J p l e rm_X11_signOf s m args below meth c Q G A 8 0 0 5 [(0, .ref (q 0)), (1, .int 7), (2, .long v), (4, .int 2)] [.int (sg z7)] [(q 0, .inr (10, mF t n q co cr po tx ty)), (q 10, aI G 320 (rg [z0, z1, z2, z3, z4, z5, z6, z7, z8, z9, z10, z11, z12, z13, z14, z15])), (q 11, aZ G 16 sf)]
  refine j_topi (fun x_1 ex_1 => ?_)
  refine j_istore (L' := [(5, .int x_1), (0, .ref (q 0)), (1, .int 7), (2, .long v), (4, .int 2)]) X dX11_signOf_5 (by decide) rfl ?_
  refine j_lload_n X dX11_signOf_7 rfl 3 rfl ?_
  refine j_lconst (v := 0) X dX11_signOf_8 rfl ?_
  refine j_lcmp X dX11_signOf_9 ?_
  refine j_if_eq (tgt := 22) X dX11_signOf_10 (by decide) (fun c_10 => ?_) (fun c_10 => ?_)
  · skip
    first | simp only [bI_0, Decidable.not_not, sg_mul, sg_e0, sg_l0, sg_g0, sg_le0, sg_ge0, cmp_eq, cmp_lt, cmp_ge, cmp_gt, cmp_le, lT0, lT1] at c_10 | simp only [Int32.le_iff_toInt_le, Int32.lt_iff_toInt_lt, ← Int32.toInt_inj, iT0, iT1, iT2, iT3, iT4, iT5, iT6, iT7, iT8, iT9, iT10, iT11, iT12, iT13, iT14, iT15, iT16, iT19, iT20, iT31, iT32, iT42, iT64, iT200, iT318, iT319, iT1000, iTm1, iTm2] at c_10 | skip
    have hv0 := c_10
    refine j_iconst (v := 0) X dX11_signOf_22 rfl ?_
    refine j_goto (tgt := 37) X dX11_signOf_23 (by decide) ?_
    refine j_istore (L' := [(6, .int 0), (5, .int x_1), (0, .ref (q 0)), (1, .int 7), (2, .long v), (4, .int 2)]) X dX11_signOf_37 (by decide) rfl ?_
    refine j_iload X dX11_signOf_39 1 rfl ?_
    refine j_if_eq (tgt := 56) X dX11_signOf_41 (by decide) (fun c_41 => ?_) (fun c_41 => ?_)
    · skip
      have c_41x := c_41
      rw [ex_1] at c_41x
      refine j_iload X dX11_signOf_56 1 rfl ?_
      refine j_if_eq (tgt := 66) X dX11_signOf_58 (by decide) (fun c_58 => ?_) (fun c_58 => ?_)
      · skip
        have c_58x := c_58
        rw [ex_1] at c_58x
        refine j_iload X dX11_signOf_66 0 rfl ?_
        exact E.2.1 68 _ 0 (z10, z11, z13, z15, sf) _ dX11_signOf_68 (⟨(by rw [so_0 (f := v.toInt) (Or.inl hv0)]; exact congrArg (fun w => some (Value.int w)) (c_58x.symm)), hS⟩) hr rfl
      · skip
        exact absurd c_41 c_58
    · skip
      have c_41x := c_41
      rw [ex_1] at c_41x
      refine j_iload X dX11_signOf_44 0 rfl ?_
      refine j_if_eq (tgt := 56) X dX11_signOf_46 (by decide) (fun _ => ?_) (fun c9 => absurd c9 (by decide))
      refine j_iload X dX11_signOf_56 1 rfl ?_
      refine j_if_eq (tgt := 66) X dX11_signOf_58 (by decide) (fun c_58 => ?_) (fun c_58 => ?_)
      · skip
        have c_58x := c_58
        rw [ex_1] at c_58x
        refine j_iload X dX11_signOf_66 0 rfl ?_
        exact E.2.1 68 _ 0 (z10, z11, z13, z15, sf) _ dX11_signOf_68 (⟨(by rw [so_0 (f := v.toInt) (Or.inl hv0)]; exact congrArg (fun w => some (Value.int w)) (c_58x.symm)), hS⟩) hr rfl
      · skip
        have c_58x := c_58
        rw [ex_1] at c_58x
        refine j_iload X dX11_signOf_61 1 rfl ?_
        refine j_goto (tgt := 68) X dX11_signOf_63 (by decide) ?_
        exact E.2.1 68 _ x_1 (z10, z11, z13, z15, sf) _ dX11_signOf_68 (⟨(by rw [so_0 (f := v.toInt) (Or.inl hv0)]; exact congrArg (fun w => some (Value.int w)) ex_1), hS⟩) hr rfl
  · skip
    first | simp only [bI_0, Decidable.not_not, sg_mul, sg_e0, sg_l0, sg_g0, sg_le0, sg_ge0, cmp_eq, cmp_lt, cmp_ge, cmp_gt, cmp_le, lT0, lT1] at c_10 | simp only [Int32.le_iff_toInt_le, Int32.lt_iff_toInt_lt, ← Int32.toInt_inj, iT0, iT1, iT2, iT3, iT4, iT5, iT6, iT7, iT8, iT9, iT10, iT11, iT12, iT13, iT14, iT15, iT16, iT19, iT20, iT31, iT32, iT42, iT64, iT200, iT318, iT319, iT1000, iTm1, iTm2] at c_10 | skip
    refine j_aload_n X dX11_signOf_13 rfl 1 rfl ?_
    refine j_iload X dX11_signOf_14 4 rfl ?_
    refine j_callV X dX11_signOf_16 (c_X11_sign l G q t n co cr po tx ty [z0, z1, z2, z3, z4, z5, z6, z7, z8, z9, z10, z11, z12, z13, z14, z15] rfl sf 2 2 rfl (by decide) (hS 2 (by decide)) (bd_lt br (by decide))) gX11_signOf_X11_sign rfl hy_X11_sign_V ⟨Nat.le_of_ble_eq_true rfl, Nat.le_of_ble_eq_true rfl⟩ 0 rfl rfl [0, 1, 2] rfl (by decide) rfl rfl (Nat.le_of_ble_eq_true rfl) ⟨Nat.le_of_ble_eq_true rfl, Nat.le_of_ble_eq_true rfl⟩ ?_
    rintro _ ⟨⟩ rfl
    change J p l e rm_X11_signOf s m args below meth c Q G A 8 0 0 19 [(5, .int x_1), (0, .ref (q 0)), (1, .int 7), (2, .long v), (4, .int 2)] [.int (sg z2)] [(q 0, .inr (10, mF t n q co cr po tx ty)), (q 10, aI G 320 (rg [z0, z1, z2, z3, z4, z5, z6, z7, z8, z9, z10, z11, z12, z13, z14, z15])), (q 11, aZ G 16 sf)]
    refine j_if_ne (tgt := 26) X dX11_signOf_19 (by decide) (fun c_19 => ?_) (fun c_19 => ?_)
    · skip
      first | simp only [bI_0, Decidable.not_not, sg_mul, sg_e0, sg_l0, sg_g0, sg_le0, sg_ge0, cmp_eq, cmp_lt, cmp_ge, cmp_gt, cmp_le, lT0, lT1] at c_19 | simp only [Int32.le_iff_toInt_le, Int32.lt_iff_toInt_lt, ← Int32.toInt_inj, iT0, iT1, iT2, iT3, iT4, iT5, iT6, iT7, iT8, iT9, iT10, iT11, iT12, iT13, iT14, iT15, iT16, iT19, iT20, iT31, iT32, iT42, iT64, iT200, iT318, iT319, iT1000, iTm1, iTm2] at c_19 | skip
      refine j_lload_n X dX11_signOf_26 rfl 3 rfl ?_
      refine j_lconst (v := 0) X dX11_signOf_27 rfl ?_
      refine j_lcmp X dX11_signOf_28 ?_
      refine j_if_ge (tgt := 36) X dX11_signOf_29 (by decide) (fun c_29 => ?_) (fun c_29 => ?_)
      · skip
        first | simp only [bI_0, Decidable.not_not, sg_mul, sg_e0, sg_l0, sg_g0, sg_le0, sg_ge0, cmp_eq, cmp_lt, cmp_ge, cmp_gt, cmp_le, lT0, lT1] at c_29 | simp only [Int32.le_iff_toInt_le, Int32.lt_iff_toInt_lt, ← Int32.toInt_inj, iT0, iT1, iT2, iT3, iT4, iT5, iT6, iT7, iT8, iT9, iT10, iT11, iT12, iT13, iT14, iT15, iT16, iT19, iT20, iT31, iT32, iT42, iT64, iT200, iT318, iT319, iT1000, iTm1, iTm2] at c_29 | skip
        refine j_iconst (v := 1) X dX11_signOf_36 rfl ?_
        refine j_istore (L' := [(6, .int 1), (5, .int x_1), (0, .ref (q 0)), (1, .int 7), (2, .long v), (4, .int 2)]) X dX11_signOf_37 (by decide) rfl ?_
        refine j_iload X dX11_signOf_39 1 rfl ?_
        refine j_if_eq (tgt := 56) X dX11_signOf_41 (by decide) (fun c_41 => ?_) (fun c_41 => ?_)
        · skip
          have c_41x := c_41
          rw [ex_1] at c_41x
          refine j_iload X dX11_signOf_56 1 rfl ?_
          refine j_if_eq (tgt := 66) X dX11_signOf_58 (by decide) (fun c_58 => ?_) (fun c_58 => ?_)
          · skip
            have c_58x := c_58
            rw [ex_1] at c_58x
            refine j_iload X dX11_signOf_66 0 rfl ?_
            exact E.2.1 68 _ 1 (z10, z11, z13, z15, sf) _ dX11_signOf_68 (⟨(by rw [so_y (show sg v.toInt * sg z2 = 1 by rw [sg_pos (by omega), sg_pos (by omega)]; decide) (Or.inl rfl) c_58x]), hS⟩) hr rfl
          · skip
            exact absurd c_41 c_58
        · skip
          have c_41x := c_41
          rw [ex_1] at c_41x
          refine j_iload X dX11_signOf_44 0 rfl ?_
          refine j_if_eq (tgt := 56) X dX11_signOf_46 (by decide) (fun c9 => absurd c9 (by decide)) (fun _ => ?_)
          refine j_iload X dX11_signOf_49 1 rfl ?_
          refine j_iload X dX11_signOf_51 0 rfl ?_
          refine j_icmp_ne (tgt := 69) X dX11_signOf_53 (by decide) (fun c_53 => ?_) (fun c_53 => ?_)
          · skip
            have c_53x := c_53
            rw [ex_1] at c_53x
            refine j_aload_n X dX11_signOf_69 rfl 2 rfl ?_
            refine j_bipush (v := 10) X dX11_signOf_70 (by decide) ?_
            refine j_iload_n X dX11_signOf_72 rfl 3 rfl ?_
            refine j_iload_n X dX11_signOf_73 rfl 3 rfl ?_
            obtain ⟨y_2, ey_2⟩ : ∃ zz9 : Int, zz9 = z7 * z7 := ⟨_, rfl⟩
            have by_2 : bd 260 y_2 := by rw [ey_2]; exact bd_mul bu bu
            refine j_callV X dX11_signOf_74 (n_mul l G q t n co cr po tx ty [z0, z1, z2, z3, z4, z5, z6, z7, z8, z9, z10, z11, z12, z13, z14, z15] sf rfl hS 10 10 rfl (by decide) 7 7 rfl (by decide) 7 7 rfl (by decide) (by decide) (by decide) y_2 ey_2) gX11_signOf_X11_multiply rfl hy_X11_multiply_V ⟨Nat.le_of_ble_eq_true rfl, Nat.le_of_ble_eq_true rfl⟩ 0 rfl rfl [0, 1, 2] rfl (by decide) rfl rfl (Nat.le_of_ble_eq_true rfl) ⟨Nat.le_of_ble_eq_true rfl, Nat.le_of_ble_eq_true rfl⟩ ?_
            rintro _ sf_3 ⟨rfl, hS_sf_3⟩
            change J p l e rm_X11_signOf s m args below meth c Q G A 8 0 0 77 [(6, .int 1), (5, .int x_1), (0, .ref (q 0)), (1, .int 7), (2, .long v), (4, .int 2)] [] [(q 0, .inr (10, mF t n q co cr po tx ty)), (q 10, aI G 320 (rg [z0, z1, z2, z3, z4, z5, z6, z7, z8, z9, y_2, z11, z12, z13, z14, z15])), (q 11, aZ G 16 sf_3)]
            refine j_aload_n X dX11_signOf_77 rfl 2 rfl ?_
            refine j_bipush (v := 13) X dX11_signOf_78 (by decide) ?_
            refine j_lload_n X dX11_signOf_80 rfl 4 rfl ?_
            obtain ⟨y_4, ey_4⟩ : ∃ zz9 : Int, zz9 = v.toInt := ⟨_, rfl⟩
            have by_4 : bd 43 y_4 := by rw [ey_4]; exact bv
            refine j_callV X dX11_signOf_81 (n_load l G q t n co cr po tx ty [z0, z1, z2, z3, z4, z5, z6, z7, z8, z9, y_2, z11, z12, z13, z14, z15] sf_3 rfl hS_sf_3 13 13 rfl (by decide) v y_4 ey_4) gX11_signOf_X11_load rfl hy_X11_load_V ⟨Nat.le_of_ble_eq_true rfl, Nat.le_of_ble_eq_true rfl⟩ 0 rfl rfl [0, 1, 2] rfl (by decide) rfl rfl (Nat.le_of_ble_eq_true rfl) ⟨Nat.le_of_ble_eq_true rfl, Nat.le_of_ble_eq_true rfl⟩ ?_
            rintro _ sf_5 ⟨rfl, hS_sf_5⟩
            change J p l e rm_X11_signOf s m args below meth c Q G A 8 0 0 84 [(6, .int 1), (5, .int x_1), (0, .ref (q 0)), (1, .int 7), (2, .long v), (4, .int 2)] [] [(q 0, .inr (10, mF t n q co cr po tx ty)), (q 10, aI G 320 (rg [z0, z1, z2, z3, z4, z5, z6, z7, z8, z9, y_2, z11, z12, y_4, z14, z15])), (q 11, aZ G 16 sf_5)]
            refine j_aload_n X dX11_signOf_84 rfl 2 rfl ?_
            refine j_bipush (v := 15) X dX11_signOf_85 (by decide) ?_
            refine j_bipush (v := 13) X dX11_signOf_87 (by decide) ?_
            refine j_bipush (v := 13) X dX11_signOf_89 (by decide) ?_
            obtain ⟨y_6, ey_6⟩ : ∃ zz9 : Int, zz9 = y_4 * y_4 := ⟨_, rfl⟩
            have by_6 : bd 86 y_6 := by rw [ey_6]; exact bd_mul by_4 by_4
            refine j_callV X dX11_signOf_91 (n_mul l G q t n co cr po tx ty [z0, z1, z2, z3, z4, z5, z6, z7, z8, z9, y_2, z11, z12, y_4, z14, z15] sf_5 rfl hS_sf_5 15 15 rfl (by decide) 13 13 rfl (by decide) 13 13 rfl (by decide) (by decide) (by decide) y_6 ey_6) gX11_signOf_X11_multiply rfl hy_X11_multiply_V ⟨Nat.le_of_ble_eq_true rfl, Nat.le_of_ble_eq_true rfl⟩ 0 rfl rfl [0, 1, 2] rfl (by decide) rfl rfl (Nat.le_of_ble_eq_true rfl) ⟨Nat.le_of_ble_eq_true rfl, Nat.le_of_ble_eq_true rfl⟩ ?_
            rintro _ sf_7 ⟨rfl, hS_sf_7⟩
            change J p l e rm_X11_signOf s m args below meth c Q G A 8 0 0 94 [(6, .int 1), (5, .int x_1), (0, .ref (q 0)), (1, .int 7), (2, .long v), (4, .int 2)] [] [(q 0, .inr (10, mF t n q co cr po tx ty)), (q 10, aI G 320 (rg [z0, z1, z2, z3, z4, z5, z6, z7, z8, z9, y_2, z11, z12, y_4, z14, y_6])), (q 11, aZ G 16 sf_7)]
            refine j_aload_n X dX11_signOf_94 rfl 2 rfl ?_
            refine j_bipush (v := 11) X dX11_signOf_95 (by decide) ?_
            refine j_bipush (v := 15) X dX11_signOf_97 (by decide) ?_
            refine j_iload X dX11_signOf_99 5 rfl ?_
            obtain ⟨y_8, ey_8⟩ : ∃ zz9 : Int, zz9 = y_6 * z2 := ⟨_, rfl⟩
            have by_8 : bd 258 y_8 := by rw [ey_8]; exact bd_mul by_6 br
            refine j_callV X dX11_signOf_101 (n_mul l G q t n co cr po tx ty [z0, z1, z2, z3, z4, z5, z6, z7, z8, z9, y_2, z11, z12, y_4, z14, y_6] sf_7 rfl hS_sf_7 11 11 rfl (by decide) 15 15 rfl (by decide) 2 2 rfl (by decide) (by decide) (by decide) y_8 ey_8) gX11_signOf_X11_multiply rfl hy_X11_multiply_V ⟨Nat.le_of_ble_eq_true rfl, Nat.le_of_ble_eq_true rfl⟩ 0 rfl rfl [0, 1, 2] rfl (by decide) rfl rfl (Nat.le_of_ble_eq_true rfl) ⟨Nat.le_of_ble_eq_true rfl, Nat.le_of_ble_eq_true rfl⟩ ?_
            rintro _ sf_9 ⟨rfl, hS_sf_9⟩
            change J p l e rm_X11_signOf s m args below meth c Q G A 8 0 0 104 [(6, .int 1), (5, .int x_1), (0, .ref (q 0)), (1, .int 7), (2, .long v), (4, .int 2)] [] [(q 0, .inr (10, mF t n q co cr po tx ty)), (q 10, aI G 320 (rg [z0, z1, z2, z3, z4, z5, z6, z7, z8, z9, y_2, y_8, z12, y_4, z14, y_6])), (q 11, aZ G 16 sf_9)]
            refine j_aload_n X dX11_signOf_104 rfl 2 rfl ?_
            refine j_bipush (v := 10) X dX11_signOf_105 (by decide) ?_
            refine j_bipush (v := 11) X dX11_signOf_107 (by decide) ?_
            refine j_callV X dX11_signOf_109 (c_X11_sizes l G q t n co cr po tx ty [z0, z1, z2, z3, z4, z5, z6, z7, z8, z9, y_2, y_8, z12, y_4, z14, y_6] rfl sf_9 10 10 rfl (by decide) 11 11 rfl (by decide) (bd_lt by_2 (by decide)) (bd_lt by_8 (by decide))) gX11_signOf_X11_sizes rfl hy_X11_sizes_V ⟨Nat.le_of_ble_eq_true rfl, Nat.le_of_ble_eq_true rfl⟩ 0 rfl rfl [0, 1, 2] rfl (by decide) rfl rfl (Nat.le_of_ble_eq_true rfl) ⟨Nat.le_of_ble_eq_true rfl, Nat.le_of_ble_eq_true rfl⟩ ?_
            rintro _ ⟨⟩ rfl
            change J p l e rm_X11_signOf s m args below meth c Q G A 8 0 0 112 [(6, .int 1), (5, .int x_1), (0, .ref (q 0)), (1, .int 7), (2, .long v), (4, .int 2)] [.int (sg ((y_2.natAbs : Int) - (y_8.natAbs : Int)))] [(q 0, .inr (10, mF t n q co cr po tx ty)), (q 10, aI G 320 (rg [z0, z1, z2, z3, z4, z5, z6, z7, z8, z9, y_2, y_8, z12, y_4, z14, y_6])), (q 11, aZ G 16 sf_9)]
            refine j_topi (fun x_10 ex_10 => ?_)
            refine j_istore (L' := [(7, .int x_10), (6, .int 1), (5, .int x_1), (0, .ref (q 0)), (1, .int 7), (2, .long v), (4, .int 2)]) X dX11_signOf_112 (by decide) rfl ?_
            refine j_iload X dX11_signOf_114 0 rfl ?_
            refine j_if_ne (tgt := 123) X dX11_signOf_116 (by decide) (fun c_116 => ?_) (fun c_116 => ?_)
            · skip
              have c_116x := c_116
              rw [ex_10] at c_116x
              simp only [sg_e0, sg_le0, Int.not_le] at c_116x
              refine j_iload X dX11_signOf_123 0 rfl ?_
              refine j_if_le (tgt := 133) X dX11_signOf_125 (by decide) (fun c_125 => ?_) (fun c_125 => ?_)
              · skip
                have c_125x := c_125
                rw [ex_10] at c_125x
                simp only [sg_e0, sg_le0, Int.not_le] at c_125x
                refine j_iload X dX11_signOf_133 1 rfl ?_
                exact E.2.1 135 _ 1 (y_2, y_8, y_4, y_6, sf_9) _ dX11_signOf_135 (⟨(by rw [so_m (show sg v.toInt * sg z2 = 1 by rw [sg_pos (by omega), sg_pos (by omega)]; decide) (Or.inl rfl) c_41x c_53x hR ey_2 ey_4 ey_6 ey_8, sg_m1 (by omega), so_op (Or.inl rfl) c_41x c_53x]), hS_sf_9⟩) hr rfl
              · skip
                have c_125x := c_125
                rw [ex_10] at c_125x
                simp only [sg_e0, sg_le0, Int.not_le] at c_125x
                refine j_iload X dX11_signOf_128 2 rfl ?_
                refine j_goto (tgt := 135) X dX11_signOf_130 (by decide) ?_
                exact E.2.1 135 _ x_1 (y_2, y_8, y_4, y_6, sf_9) _ dX11_signOf_135 (⟨(by rw [so_m (show sg v.toInt * sg z2 = 1 by rw [sg_pos (by omega), sg_pos (by omega)]; decide) (Or.inl rfl) c_41x c_53x hR ey_2 ey_4 ey_6 ey_8, sg_1 c_125x]; exact congrArg (fun w => some (Value.int w)) ex_1), hS_sf_9⟩) hr rfl
            · skip
              have c_116x := c_116
              rw [ex_10] at c_116x
              simp only [sg_e0, sg_le0, Int.not_le] at c_116x
              refine j_iconst (v := 0) X dX11_signOf_119 rfl ?_
              refine j_goto (tgt := 135) X dX11_signOf_120 (by decide) ?_
              exact E.2.1 135 _ 0 (y_2, y_8, y_4, y_6, sf_9) _ dX11_signOf_135 (⟨(by rw [so_m (show sg v.toInt * sg z2 = 1 by rw [sg_pos (by omega), sg_pos (by omega)]; decide) (Or.inl rfl) c_41x c_53x hR ey_2 ey_4 ey_6 ey_8, sg_0m c_116x]), hS_sf_9⟩) hr rfl
          · skip
            have c_53x := c_53
            rw [ex_1] at c_53x
            refine j_iload X dX11_signOf_56 1 rfl ?_
            refine j_if_eq (tgt := 66) X dX11_signOf_58 (by decide) (fun c_58 => ?_) (fun c_58 => ?_)
            · skip
              have c_58x := c_58
              rw [ex_1] at c_58x
              refine j_iload X dX11_signOf_66 0 rfl ?_
              exact E.2.1 68 _ 1 (z10, z11, z13, z15, sf) _ dX11_signOf_68 (⟨(by rw [so_y (show sg v.toInt * sg z2 = 1 by rw [sg_pos (by omega), sg_pos (by omega)]; decide) (Or.inl rfl) c_58x]), hS⟩) hr rfl
            · skip
              have c_58x := c_58
              rw [ex_1] at c_58x
              refine j_iload X dX11_signOf_61 1 rfl ?_
              refine j_goto (tgt := 68) X dX11_signOf_63 (by decide) ?_
              exact E.2.1 68 _ x_1 (z10, z11, z13, z15, sf) _ dX11_signOf_68 (⟨(by rw [so_e (show sg v.toInt * sg z2 = 1 by rw [sg_pos (by omega), sg_pos (by omega)]; decide) c_53x]; exact congrArg (fun w => some (Value.int w)) ex_1), hS⟩) hr rfl
      · skip
        first | simp only [bI_0, Decidable.not_not, sg_mul, sg_e0, sg_l0, sg_g0, sg_le0, sg_ge0, cmp_eq, cmp_lt, cmp_ge, cmp_gt, cmp_le, lT0, lT1] at c_29 | simp only [Int32.le_iff_toInt_le, Int32.lt_iff_toInt_lt, ← Int32.toInt_inj, iT0, iT1, iT2, iT3, iT4, iT5, iT6, iT7, iT8, iT9, iT10, iT11, iT12, iT13, iT14, iT15, iT16, iT19, iT20, iT31, iT32, iT42, iT64, iT200, iT318, iT319, iT1000, iTm1, iTm2] at c_29 | skip
        refine j_iconst (v := (-1)) X dX11_signOf_32 rfl ?_
        refine j_goto (tgt := 37) X dX11_signOf_33 (by decide) ?_
        refine j_istore (L' := [(6, .int (-1)), (5, .int x_1), (0, .ref (q 0)), (1, .int 7), (2, .long v), (4, .int 2)]) X dX11_signOf_37 (by decide) rfl ?_
        refine j_iload X dX11_signOf_39 1 rfl ?_
        refine j_if_eq (tgt := 56) X dX11_signOf_41 (by decide) (fun c_41 => ?_) (fun c_41 => ?_)
        · skip
          have c_41x := c_41
          rw [ex_1] at c_41x
          refine j_iload X dX11_signOf_56 1 rfl ?_
          refine j_if_eq (tgt := 66) X dX11_signOf_58 (by decide) (fun c_58 => ?_) (fun c_58 => ?_)
          · skip
            have c_58x := c_58
            rw [ex_1] at c_58x
            refine j_iload X dX11_signOf_66 0 rfl ?_
            exact E.2.1 68 _ (-1) (z10, z11, z13, z15, sf) _ dX11_signOf_68 (⟨(by rw [so_y (show sg v.toInt * sg z2 = (-1) by rw [sg_neg (by omega), sg_pos (by omega)]; decide) (Or.inr rfl) c_58x]), hS⟩) hr rfl
          · skip
            exact absurd c_41 c_58
        · skip
          have c_41x := c_41
          rw [ex_1] at c_41x
          refine j_iload X dX11_signOf_44 0 rfl ?_
          refine j_if_eq (tgt := 56) X dX11_signOf_46 (by decide) (fun c9 => absurd c9 (by decide)) (fun _ => ?_)
          refine j_iload X dX11_signOf_49 1 rfl ?_
          refine j_iload X dX11_signOf_51 0 rfl ?_
          refine j_icmp_ne (tgt := 69) X dX11_signOf_53 (by decide) (fun c_53 => ?_) (fun c_53 => ?_)
          · skip
            have c_53x := c_53
            rw [ex_1] at c_53x
            refine j_aload_n X dX11_signOf_69 rfl 2 rfl ?_
            refine j_bipush (v := 10) X dX11_signOf_70 (by decide) ?_
            refine j_iload_n X dX11_signOf_72 rfl 3 rfl ?_
            refine j_iload_n X dX11_signOf_73 rfl 3 rfl ?_
            obtain ⟨y_11, ey_11⟩ : ∃ zz9 : Int, zz9 = z7 * z7 := ⟨_, rfl⟩
            have by_11 : bd 260 y_11 := by rw [ey_11]; exact bd_mul bu bu
            refine j_callV X dX11_signOf_74 (n_mul l G q t n co cr po tx ty [z0, z1, z2, z3, z4, z5, z6, z7, z8, z9, z10, z11, z12, z13, z14, z15] sf rfl hS 10 10 rfl (by decide) 7 7 rfl (by decide) 7 7 rfl (by decide) (by decide) (by decide) y_11 ey_11) gX11_signOf_X11_multiply rfl hy_X11_multiply_V ⟨Nat.le_of_ble_eq_true rfl, Nat.le_of_ble_eq_true rfl⟩ 0 rfl rfl [0, 1, 2] rfl (by decide) rfl rfl (Nat.le_of_ble_eq_true rfl) ⟨Nat.le_of_ble_eq_true rfl, Nat.le_of_ble_eq_true rfl⟩ ?_
            rintro _ sf_12 ⟨rfl, hS_sf_12⟩
            change J p l e rm_X11_signOf s m args below meth c Q G A 8 0 0 77 [(6, .int (-1)), (5, .int x_1), (0, .ref (q 0)), (1, .int 7), (2, .long v), (4, .int 2)] [] [(q 0, .inr (10, mF t n q co cr po tx ty)), (q 10, aI G 320 (rg [z0, z1, z2, z3, z4, z5, z6, z7, z8, z9, y_11, z11, z12, z13, z14, z15])), (q 11, aZ G 16 sf_12)]
            refine j_aload_n X dX11_signOf_77 rfl 2 rfl ?_
            refine j_bipush (v := 13) X dX11_signOf_78 (by decide) ?_
            refine j_lload_n X dX11_signOf_80 rfl 4 rfl ?_
            obtain ⟨y_13, ey_13⟩ : ∃ zz9 : Int, zz9 = v.toInt := ⟨_, rfl⟩
            have by_13 : bd 43 y_13 := by rw [ey_13]; exact bv
            refine j_callV X dX11_signOf_81 (n_load l G q t n co cr po tx ty [z0, z1, z2, z3, z4, z5, z6, z7, z8, z9, y_11, z11, z12, z13, z14, z15] sf_12 rfl hS_sf_12 13 13 rfl (by decide) v y_13 ey_13) gX11_signOf_X11_load rfl hy_X11_load_V ⟨Nat.le_of_ble_eq_true rfl, Nat.le_of_ble_eq_true rfl⟩ 0 rfl rfl [0, 1, 2] rfl (by decide) rfl rfl (Nat.le_of_ble_eq_true rfl) ⟨Nat.le_of_ble_eq_true rfl, Nat.le_of_ble_eq_true rfl⟩ ?_
            rintro _ sf_14 ⟨rfl, hS_sf_14⟩
            change J p l e rm_X11_signOf s m args below meth c Q G A 8 0 0 84 [(6, .int (-1)), (5, .int x_1), (0, .ref (q 0)), (1, .int 7), (2, .long v), (4, .int 2)] [] [(q 0, .inr (10, mF t n q co cr po tx ty)), (q 10, aI G 320 (rg [z0, z1, z2, z3, z4, z5, z6, z7, z8, z9, y_11, z11, z12, y_13, z14, z15])), (q 11, aZ G 16 sf_14)]
            refine j_aload_n X dX11_signOf_84 rfl 2 rfl ?_
            refine j_bipush (v := 15) X dX11_signOf_85 (by decide) ?_
            refine j_bipush (v := 13) X dX11_signOf_87 (by decide) ?_
            refine j_bipush (v := 13) X dX11_signOf_89 (by decide) ?_
            obtain ⟨y_15, ey_15⟩ : ∃ zz9 : Int, zz9 = y_13 * y_13 := ⟨_, rfl⟩
            have by_15 : bd 86 y_15 := by rw [ey_15]; exact bd_mul by_13 by_13
            refine j_callV X dX11_signOf_91 (n_mul l G q t n co cr po tx ty [z0, z1, z2, z3, z4, z5, z6, z7, z8, z9, y_11, z11, z12, y_13, z14, z15] sf_14 rfl hS_sf_14 15 15 rfl (by decide) 13 13 rfl (by decide) 13 13 rfl (by decide) (by decide) (by decide) y_15 ey_15) gX11_signOf_X11_multiply rfl hy_X11_multiply_V ⟨Nat.le_of_ble_eq_true rfl, Nat.le_of_ble_eq_true rfl⟩ 0 rfl rfl [0, 1, 2] rfl (by decide) rfl rfl (Nat.le_of_ble_eq_true rfl) ⟨Nat.le_of_ble_eq_true rfl, Nat.le_of_ble_eq_true rfl⟩ ?_
            rintro _ sf_16 ⟨rfl, hS_sf_16⟩
            change J p l e rm_X11_signOf s m args below meth c Q G A 8 0 0 94 [(6, .int (-1)), (5, .int x_1), (0, .ref (q 0)), (1, .int 7), (2, .long v), (4, .int 2)] [] [(q 0, .inr (10, mF t n q co cr po tx ty)), (q 10, aI G 320 (rg [z0, z1, z2, z3, z4, z5, z6, z7, z8, z9, y_11, z11, z12, y_13, z14, y_15])), (q 11, aZ G 16 sf_16)]
            refine j_aload_n X dX11_signOf_94 rfl 2 rfl ?_
            refine j_bipush (v := 11) X dX11_signOf_95 (by decide) ?_
            refine j_bipush (v := 15) X dX11_signOf_97 (by decide) ?_
            refine j_iload X dX11_signOf_99 5 rfl ?_
            obtain ⟨y_17, ey_17⟩ : ∃ zz9 : Int, zz9 = y_15 * z2 := ⟨_, rfl⟩
            have by_17 : bd 258 y_17 := by rw [ey_17]; exact bd_mul by_15 br
            refine j_callV X dX11_signOf_101 (n_mul l G q t n co cr po tx ty [z0, z1, z2, z3, z4, z5, z6, z7, z8, z9, y_11, z11, z12, y_13, z14, y_15] sf_16 rfl hS_sf_16 11 11 rfl (by decide) 15 15 rfl (by decide) 2 2 rfl (by decide) (by decide) (by decide) y_17 ey_17) gX11_signOf_X11_multiply rfl hy_X11_multiply_V ⟨Nat.le_of_ble_eq_true rfl, Nat.le_of_ble_eq_true rfl⟩ 0 rfl rfl [0, 1, 2] rfl (by decide) rfl rfl (Nat.le_of_ble_eq_true rfl) ⟨Nat.le_of_ble_eq_true rfl, Nat.le_of_ble_eq_true rfl⟩ ?_
            rintro _ sf_18 ⟨rfl, hS_sf_18⟩
            change J p l e rm_X11_signOf s m args below meth c Q G A 8 0 0 104 [(6, .int (-1)), (5, .int x_1), (0, .ref (q 0)), (1, .int 7), (2, .long v), (4, .int 2)] [] [(q 0, .inr (10, mF t n q co cr po tx ty)), (q 10, aI G 320 (rg [z0, z1, z2, z3, z4, z5, z6, z7, z8, z9, y_11, y_17, z12, y_13, z14, y_15])), (q 11, aZ G 16 sf_18)]
            refine j_aload_n X dX11_signOf_104 rfl 2 rfl ?_
            refine j_bipush (v := 10) X dX11_signOf_105 (by decide) ?_
            refine j_bipush (v := 11) X dX11_signOf_107 (by decide) ?_
            refine j_callV X dX11_signOf_109 (c_X11_sizes l G q t n co cr po tx ty [z0, z1, z2, z3, z4, z5, z6, z7, z8, z9, y_11, y_17, z12, y_13, z14, y_15] rfl sf_18 10 10 rfl (by decide) 11 11 rfl (by decide) (bd_lt by_11 (by decide)) (bd_lt by_17 (by decide))) gX11_signOf_X11_sizes rfl hy_X11_sizes_V ⟨Nat.le_of_ble_eq_true rfl, Nat.le_of_ble_eq_true rfl⟩ 0 rfl rfl [0, 1, 2] rfl (by decide) rfl rfl (Nat.le_of_ble_eq_true rfl) ⟨Nat.le_of_ble_eq_true rfl, Nat.le_of_ble_eq_true rfl⟩ ?_
            rintro _ ⟨⟩ rfl
            change J p l e rm_X11_signOf s m args below meth c Q G A 8 0 0 112 [(6, .int (-1)), (5, .int x_1), (0, .ref (q 0)), (1, .int 7), (2, .long v), (4, .int 2)] [.int (sg ((y_11.natAbs : Int) - (y_17.natAbs : Int)))] [(q 0, .inr (10, mF t n q co cr po tx ty)), (q 10, aI G 320 (rg [z0, z1, z2, z3, z4, z5, z6, z7, z8, z9, y_11, y_17, z12, y_13, z14, y_15])), (q 11, aZ G 16 sf_18)]
            refine j_topi (fun x_19 ex_19 => ?_)
            refine j_istore (L' := [(7, .int x_19), (6, .int (-1)), (5, .int x_1), (0, .ref (q 0)), (1, .int 7), (2, .long v), (4, .int 2)]) X dX11_signOf_112 (by decide) rfl ?_
            refine j_iload X dX11_signOf_114 0 rfl ?_
            refine j_if_ne (tgt := 123) X dX11_signOf_116 (by decide) (fun c_116 => ?_) (fun c_116 => ?_)
            · skip
              have c_116x := c_116
              rw [ex_19] at c_116x
              simp only [sg_e0, sg_le0, Int.not_le] at c_116x
              refine j_iload X dX11_signOf_123 0 rfl ?_
              refine j_if_le (tgt := 133) X dX11_signOf_125 (by decide) (fun c_125 => ?_) (fun c_125 => ?_)
              · skip
                have c_125x := c_125
                rw [ex_19] at c_125x
                simp only [sg_e0, sg_le0, Int.not_le] at c_125x
                refine j_iload X dX11_signOf_133 1 rfl ?_
                exact E.2.1 135 _ (-1) (y_11, y_17, y_13, y_15, sf_18) _ dX11_signOf_135 (⟨(by rw [so_m (show sg v.toInt * sg z2 = (-1) by rw [sg_neg (by omega), sg_pos (by omega)]; decide) (Or.inr rfl) c_41x c_53x hR ey_11 ey_13 ey_15 ey_17, sg_m1 (by omega), so_op (Or.inr rfl) c_41x c_53x]), hS_sf_18⟩) hr rfl
              · skip
                have c_125x := c_125
                rw [ex_19] at c_125x
                simp only [sg_e0, sg_le0, Int.not_le] at c_125x
                refine j_iload X dX11_signOf_128 2 rfl ?_
                refine j_goto (tgt := 135) X dX11_signOf_130 (by decide) ?_
                exact E.2.1 135 _ x_1 (y_11, y_17, y_13, y_15, sf_18) _ dX11_signOf_135 (⟨(by rw [so_m (show sg v.toInt * sg z2 = (-1) by rw [sg_neg (by omega), sg_pos (by omega)]; decide) (Or.inr rfl) c_41x c_53x hR ey_11 ey_13 ey_15 ey_17, sg_1 c_125x]; exact congrArg (fun w => some (Value.int w)) ex_1), hS_sf_18⟩) hr rfl
            · skip
              have c_116x := c_116
              rw [ex_19] at c_116x
              simp only [sg_e0, sg_le0, Int.not_le] at c_116x
              refine j_iconst (v := 0) X dX11_signOf_119 rfl ?_
              refine j_goto (tgt := 135) X dX11_signOf_120 (by decide) ?_
              exact E.2.1 135 _ 0 (y_11, y_17, y_13, y_15, sf_18) _ dX11_signOf_135 (⟨(by rw [so_m (show sg v.toInt * sg z2 = (-1) by rw [sg_neg (by omega), sg_pos (by omega)]; decide) (Or.inr rfl) c_41x c_53x hR ey_11 ey_13 ey_15 ey_17, sg_0m c_116x]), hS_sf_18⟩) hr rfl
          · skip
            have c_53x := c_53
            rw [ex_1] at c_53x
            refine j_iload X dX11_signOf_56 1 rfl ?_
            refine j_if_eq (tgt := 66) X dX11_signOf_58 (by decide) (fun c_58 => ?_) (fun c_58 => ?_)
            · skip
              have c_58x := c_58
              rw [ex_1] at c_58x
              refine j_iload X dX11_signOf_66 0 rfl ?_
              exact E.2.1 68 _ (-1) (z10, z11, z13, z15, sf) _ dX11_signOf_68 (⟨(by rw [so_y (show sg v.toInt * sg z2 = (-1) by rw [sg_neg (by omega), sg_pos (by omega)]; decide) (Or.inr rfl) c_58x]), hS⟩) hr rfl
            · skip
              have c_58x := c_58
              rw [ex_1] at c_58x
              refine j_iload X dX11_signOf_61 1 rfl ?_
              refine j_goto (tgt := 68) X dX11_signOf_63 (by decide) ?_
              exact E.2.1 68 _ x_1 (z10, z11, z13, z15, sf) _ dX11_signOf_68 (⟨(by rw [so_e (show sg v.toInt * sg z2 = (-1) by rw [sg_neg (by omega), sg_pos (by omega)]; decide) c_53x]; exact congrArg (fun w => some (Value.int w)) ex_1), hS⟩) hr rfl
    · skip
      first | simp only [bI_0, Decidable.not_not, sg_mul, sg_e0, sg_l0, sg_g0, sg_le0, sg_ge0, cmp_eq, cmp_lt, cmp_ge, cmp_gt, cmp_le, lT0, lT1] at c_19 | simp only [Int32.le_iff_toInt_le, Int32.lt_iff_toInt_lt, ← Int32.toInt_inj, iT0, iT1, iT2, iT3, iT4, iT5, iT6, iT7, iT8, iT9, iT10, iT11, iT12, iT13, iT14, iT15, iT16, iT19, iT20, iT31, iT32, iT42, iT64, iT200, iT318, iT319, iT1000, iTm1, iTm2] at c_19 | skip
      have hR0 := c_19
      refine j_iconst (v := 0) X dX11_signOf_22 rfl ?_
      refine j_goto (tgt := 37) X dX11_signOf_23 (by decide) ?_
      refine j_istore (L' := [(6, .int 0), (5, .int x_1), (0, .ref (q 0)), (1, .int 7), (2, .long v), (4, .int 2)]) X dX11_signOf_37 (by decide) rfl ?_
      refine j_iload X dX11_signOf_39 1 rfl ?_
      refine j_if_eq (tgt := 56) X dX11_signOf_41 (by decide) (fun c_41 => ?_) (fun c_41 => ?_)
      · skip
        have c_41x := c_41
        rw [ex_1] at c_41x
        refine j_iload X dX11_signOf_56 1 rfl ?_
        refine j_if_eq (tgt := 66) X dX11_signOf_58 (by decide) (fun c_58 => ?_) (fun c_58 => ?_)
        · skip
          have c_58x := c_58
          rw [ex_1] at c_58x
          refine j_iload X dX11_signOf_66 0 rfl ?_
          exact E.2.1 68 _ 0 (z10, z11, z13, z15, sf) _ dX11_signOf_68 (⟨(by rw [so_0 (f := v.toInt) (Or.inr hR0)]; exact congrArg (fun w => some (Value.int w)) (c_58x.symm)), hS⟩) hr rfl
        · skip
          exact absurd c_41 c_58
      · skip
        have c_41x := c_41
        rw [ex_1] at c_41x
        refine j_iload X dX11_signOf_44 0 rfl ?_
        refine j_if_eq (tgt := 56) X dX11_signOf_46 (by decide) (fun _ => ?_) (fun c9 => absurd c9 (by decide))
        refine j_iload X dX11_signOf_56 1 rfl ?_
        refine j_if_eq (tgt := 66) X dX11_signOf_58 (by decide) (fun c_58 => ?_) (fun c_58 => ?_)
        · skip
          have c_58x := c_58
          rw [ex_1] at c_58x
          refine j_iload X dX11_signOf_66 0 rfl ?_
          exact E.2.1 68 _ 0 (z10, z11, z13, z15, sf) _ dX11_signOf_68 (⟨(by rw [so_0 (f := v.toInt) (Or.inr hR0)]; exact congrArg (fun w => some (Value.int w)) (c_58x.symm)), hS⟩) hr rfl
        · skip
          have c_58x := c_58
          rw [ex_1] at c_58x
          refine j_iload X dX11_signOf_61 1 rfl ?_
          refine j_goto (tgt := 68) X dX11_signOf_63 (by decide) ?_
          exact E.2.1 68 _ x_1 (z10, z11, z13, z15, sf) _ dX11_signOf_68 (⟨(by rw [so_0 (f := v.toInt) (Or.inr hR0)]; exact congrArg (fun w => some (Value.int w)) ex_1), hS⟩) hr rfl

set_option maxHeartbeats 4000000 in
set_option maxRecDepth 100000 in
theorem c_X11_signOf_8_2 (l : Launch) (G : jG) (q : Nat → Nat) (t n co cr po : Int32) (tx ty : Int64) (z0 z1 z2 z3 z4 z5 z6 z7 z8 z9 z10 z11 z12 z13 z14 z15 : Int) (sf : Nat → Int32) (hS : okS [z0, z1, z2, z3, z4, z5, z6, z7, z8, z9, z10, z11, z12, z13, z14, z15] sf) (v : Int64) (hR : 0 ≤ z2) (bu : bd 130 z8) (bv : bd 43 v.toInt) (br : bd 172 z2) : Ct l yX11_signOf wsX11_signOf rm_X11_signOf G [.ref (q 0), .int 8, .long v, .int 2] [(q 0, .inr (10, mF t n q co cr po tx ty)), (q 10, aI G 320 (rg [z0, z1, z2, z3, z4, z5, z6, z7, z8, z9, z10, z11, z12, z13, z14, z15])), (q 11, aZ G 16 sf)] (S := Int × Int × Int × Int × (Nat → Int32)) (fun r u => r = some (.int (rn z8 v.toInt z2)) ∧ okS [z0, z1, z2, z3, z4, z5, z6, z7, z8, z9, u.1, u.2.1, z12, u.2.2.1, z14, u.2.2.2.1] u.2.2.2.2) (fun u => [(q 0, .inr (10, mF t n q co cr po tx ty)), (q 10, aI G 320 (rg [z0, z1, z2, z3, z4, z5, z6, z7, z8, z9, u.1, u.2.1, z12, u.2.2.1, z14, u.2.2.2.1])), (q 11, aZ G 16 u.2.2.2.2)]) (fun _ => []) := by
  refine c_intro (cc := cX11_signOf) (maxL := 8) (ret := (some .int)) (by decide) rfl (Nat.le_of_ble_eq_true rfl) (fun _ => by simp only [List.map_cons, List.map_nil]) ?_
  intro p e s m args below meth c Q A X hr hin E
  change J p l e rm_X11_signOf s m args below meth c Q G A 8 0 0 0 [(0, .ref (q 0)), (1, .int 8), (2, .long v), (4, .int 2)] [] [(q 0, .inr (10, mF t n q co cr po tx ty)), (q 10, aI G 320 (rg [z0, z1, z2, z3, z4, z5, z6, z7, z8, z9, z10, z11, z12, z13, z14, z15])), (q 11, aZ G 16 sf)]
  refine j_aload_n X dX11_signOf_0 rfl 0 rfl ?_
  refine j_iload_n X dX11_signOf_1 rfl 1 rfl ?_
  refine j_callV X dX11_signOf_2 (c_X11_sign l G q t n co cr po tx ty [z0, z1, z2, z3, z4, z5, z6, z7, z8, z9, z10, z11, z12, z13, z14, z15] rfl sf 8 8 rfl (by decide) (hS 8 (by decide)) (bd_lt bu (by decide))) gX11_signOf_X11_sign rfl hy_X11_sign_V ⟨Nat.le_of_ble_eq_true rfl, Nat.le_of_ble_eq_true rfl⟩ 0 rfl rfl [0, 1, 2] rfl (by decide) rfl rfl (Nat.le_of_ble_eq_true rfl) ⟨Nat.le_of_ble_eq_true rfl, Nat.le_of_ble_eq_true rfl⟩ ?_
  rintro _ ⟨⟩ rfl
  change J p l e rm_X11_signOf s m args below meth c Q G A 8 0 0 5 [(0, .ref (q 0)), (1, .int 8), (2, .long v), (4, .int 2)] [.int (sg z8)] [(q 0, .inr (10, mF t n q co cr po tx ty)), (q 10, aI G 320 (rg [z0, z1, z2, z3, z4, z5, z6, z7, z8, z9, z10, z11, z12, z13, z14, z15])), (q 11, aZ G 16 sf)]
  refine j_topi (fun x_1 ex_1 => ?_)
  refine j_istore (L' := [(5, .int x_1), (0, .ref (q 0)), (1, .int 8), (2, .long v), (4, .int 2)]) X dX11_signOf_5 (by decide) rfl ?_
  refine j_lload_n X dX11_signOf_7 rfl 3 rfl ?_
  refine j_lconst (v := 0) X dX11_signOf_8 rfl ?_
  refine j_lcmp X dX11_signOf_9 ?_
  refine j_if_eq (tgt := 22) X dX11_signOf_10 (by decide) (fun c_10 => ?_) (fun c_10 => ?_)
  · skip
    first | simp only [bI_0, Decidable.not_not, sg_mul, sg_e0, sg_l0, sg_g0, sg_le0, sg_ge0, cmp_eq, cmp_lt, cmp_ge, cmp_gt, cmp_le, lT0, lT1] at c_10 | simp only [Int32.le_iff_toInt_le, Int32.lt_iff_toInt_lt, ← Int32.toInt_inj, iT0, iT1, iT2, iT3, iT4, iT5, iT6, iT7, iT8, iT9, iT10, iT11, iT12, iT13, iT14, iT15, iT16, iT19, iT20, iT31, iT32, iT42, iT64, iT200, iT318, iT319, iT1000, iTm1, iTm2] at c_10 | skip
    have hv0 := c_10
    refine j_iconst (v := 0) X dX11_signOf_22 rfl ?_
    refine j_goto (tgt := 37) X dX11_signOf_23 (by decide) ?_
    refine j_istore (L' := [(6, .int 0), (5, .int x_1), (0, .ref (q 0)), (1, .int 8), (2, .long v), (4, .int 2)]) X dX11_signOf_37 (by decide) rfl ?_
    refine j_iload X dX11_signOf_39 1 rfl ?_
    refine j_if_eq (tgt := 56) X dX11_signOf_41 (by decide) (fun c_41 => ?_) (fun c_41 => ?_)
    · skip
      have c_41x := c_41
      rw [ex_1] at c_41x
      refine j_iload X dX11_signOf_56 1 rfl ?_
      refine j_if_eq (tgt := 66) X dX11_signOf_58 (by decide) (fun c_58 => ?_) (fun c_58 => ?_)
      · skip
        have c_58x := c_58
        rw [ex_1] at c_58x
        refine j_iload X dX11_signOf_66 0 rfl ?_
        exact E.2.1 68 _ 0 (z10, z11, z13, z15, sf) _ dX11_signOf_68 (⟨(by rw [so_0 (f := v.toInt) (Or.inl hv0)]; exact congrArg (fun w => some (Value.int w)) (c_58x.symm)), hS⟩) hr rfl
      · skip
        exact absurd c_41 c_58
    · skip
      have c_41x := c_41
      rw [ex_1] at c_41x
      refine j_iload X dX11_signOf_44 0 rfl ?_
      refine j_if_eq (tgt := 56) X dX11_signOf_46 (by decide) (fun _ => ?_) (fun c9 => absurd c9 (by decide))
      refine j_iload X dX11_signOf_56 1 rfl ?_
      refine j_if_eq (tgt := 66) X dX11_signOf_58 (by decide) (fun c_58 => ?_) (fun c_58 => ?_)
      · skip
        have c_58x := c_58
        rw [ex_1] at c_58x
        refine j_iload X dX11_signOf_66 0 rfl ?_
        exact E.2.1 68 _ 0 (z10, z11, z13, z15, sf) _ dX11_signOf_68 (⟨(by rw [so_0 (f := v.toInt) (Or.inl hv0)]; exact congrArg (fun w => some (Value.int w)) (c_58x.symm)), hS⟩) hr rfl
      · skip
        have c_58x := c_58
        rw [ex_1] at c_58x
        refine j_iload X dX11_signOf_61 1 rfl ?_
        refine j_goto (tgt := 68) X dX11_signOf_63 (by decide) ?_
        exact E.2.1 68 _ x_1 (z10, z11, z13, z15, sf) _ dX11_signOf_68 (⟨(by rw [so_0 (f := v.toInt) (Or.inl hv0)]; exact congrArg (fun w => some (Value.int w)) ex_1), hS⟩) hr rfl
  · skip
    first | simp only [bI_0, Decidable.not_not, sg_mul, sg_e0, sg_l0, sg_g0, sg_le0, sg_ge0, cmp_eq, cmp_lt, cmp_ge, cmp_gt, cmp_le, lT0, lT1] at c_10 | simp only [Int32.le_iff_toInt_le, Int32.lt_iff_toInt_lt, ← Int32.toInt_inj, iT0, iT1, iT2, iT3, iT4, iT5, iT6, iT7, iT8, iT9, iT10, iT11, iT12, iT13, iT14, iT15, iT16, iT19, iT20, iT31, iT32, iT42, iT64, iT200, iT318, iT319, iT1000, iTm1, iTm2] at c_10 | skip
    refine j_aload_n X dX11_signOf_13 rfl 1 rfl ?_
    refine j_iload X dX11_signOf_14 4 rfl ?_
    refine j_callV X dX11_signOf_16 (c_X11_sign l G q t n co cr po tx ty [z0, z1, z2, z3, z4, z5, z6, z7, z8, z9, z10, z11, z12, z13, z14, z15] rfl sf 2 2 rfl (by decide) (hS 2 (by decide)) (bd_lt br (by decide))) gX11_signOf_X11_sign rfl hy_X11_sign_V ⟨Nat.le_of_ble_eq_true rfl, Nat.le_of_ble_eq_true rfl⟩ 0 rfl rfl [0, 1, 2] rfl (by decide) rfl rfl (Nat.le_of_ble_eq_true rfl) ⟨Nat.le_of_ble_eq_true rfl, Nat.le_of_ble_eq_true rfl⟩ ?_
    rintro _ ⟨⟩ rfl
    change J p l e rm_X11_signOf s m args below meth c Q G A 8 0 0 19 [(5, .int x_1), (0, .ref (q 0)), (1, .int 8), (2, .long v), (4, .int 2)] [.int (sg z2)] [(q 0, .inr (10, mF t n q co cr po tx ty)), (q 10, aI G 320 (rg [z0, z1, z2, z3, z4, z5, z6, z7, z8, z9, z10, z11, z12, z13, z14, z15])), (q 11, aZ G 16 sf)]
    refine j_if_ne (tgt := 26) X dX11_signOf_19 (by decide) (fun c_19 => ?_) (fun c_19 => ?_)
    · skip
      first | simp only [bI_0, Decidable.not_not, sg_mul, sg_e0, sg_l0, sg_g0, sg_le0, sg_ge0, cmp_eq, cmp_lt, cmp_ge, cmp_gt, cmp_le, lT0, lT1] at c_19 | simp only [Int32.le_iff_toInt_le, Int32.lt_iff_toInt_lt, ← Int32.toInt_inj, iT0, iT1, iT2, iT3, iT4, iT5, iT6, iT7, iT8, iT9, iT10, iT11, iT12, iT13, iT14, iT15, iT16, iT19, iT20, iT31, iT32, iT42, iT64, iT200, iT318, iT319, iT1000, iTm1, iTm2] at c_19 | skip
      refine j_lload_n X dX11_signOf_26 rfl 3 rfl ?_
      refine j_lconst (v := 0) X dX11_signOf_27 rfl ?_
      refine j_lcmp X dX11_signOf_28 ?_
      refine j_if_ge (tgt := 36) X dX11_signOf_29 (by decide) (fun c_29 => ?_) (fun c_29 => ?_)
      · skip
        first | simp only [bI_0, Decidable.not_not, sg_mul, sg_e0, sg_l0, sg_g0, sg_le0, sg_ge0, cmp_eq, cmp_lt, cmp_ge, cmp_gt, cmp_le, lT0, lT1] at c_29 | simp only [Int32.le_iff_toInt_le, Int32.lt_iff_toInt_lt, ← Int32.toInt_inj, iT0, iT1, iT2, iT3, iT4, iT5, iT6, iT7, iT8, iT9, iT10, iT11, iT12, iT13, iT14, iT15, iT16, iT19, iT20, iT31, iT32, iT42, iT64, iT200, iT318, iT319, iT1000, iTm1, iTm2] at c_29 | skip
        refine j_iconst (v := 1) X dX11_signOf_36 rfl ?_
        refine j_istore (L' := [(6, .int 1), (5, .int x_1), (0, .ref (q 0)), (1, .int 8), (2, .long v), (4, .int 2)]) X dX11_signOf_37 (by decide) rfl ?_
        refine j_iload X dX11_signOf_39 1 rfl ?_
        refine j_if_eq (tgt := 56) X dX11_signOf_41 (by decide) (fun c_41 => ?_) (fun c_41 => ?_)
        · skip
          have c_41x := c_41
          rw [ex_1] at c_41x
          refine j_iload X dX11_signOf_56 1 rfl ?_
          refine j_if_eq (tgt := 66) X dX11_signOf_58 (by decide) (fun c_58 => ?_) (fun c_58 => ?_)
          · skip
            have c_58x := c_58
            rw [ex_1] at c_58x
            refine j_iload X dX11_signOf_66 0 rfl ?_
            exact E.2.1 68 _ 1 (z10, z11, z13, z15, sf) _ dX11_signOf_68 (⟨(by rw [so_y (show sg v.toInt * sg z2 = 1 by rw [sg_pos (by omega), sg_pos (by omega)]; decide) (Or.inl rfl) c_58x]), hS⟩) hr rfl
          · skip
            exact absurd c_41 c_58
        · skip
          have c_41x := c_41
          rw [ex_1] at c_41x
          refine j_iload X dX11_signOf_44 0 rfl ?_
          refine j_if_eq (tgt := 56) X dX11_signOf_46 (by decide) (fun c9 => absurd c9 (by decide)) (fun _ => ?_)
          refine j_iload X dX11_signOf_49 1 rfl ?_
          refine j_iload X dX11_signOf_51 0 rfl ?_
          refine j_icmp_ne (tgt := 69) X dX11_signOf_53 (by decide) (fun c_53 => ?_) (fun c_53 => ?_)
          · skip
            have c_53x := c_53
            rw [ex_1] at c_53x
            refine j_aload_n X dX11_signOf_69 rfl 2 rfl ?_
            refine j_bipush (v := 10) X dX11_signOf_70 (by decide) ?_
            refine j_iload_n X dX11_signOf_72 rfl 3 rfl ?_
            refine j_iload_n X dX11_signOf_73 rfl 3 rfl ?_
            obtain ⟨y_2, ey_2⟩ : ∃ zz9 : Int, zz9 = z8 * z8 := ⟨_, rfl⟩
            have by_2 : bd 260 y_2 := by rw [ey_2]; exact bd_mul bu bu
            refine j_callV X dX11_signOf_74 (n_mul l G q t n co cr po tx ty [z0, z1, z2, z3, z4, z5, z6, z7, z8, z9, z10, z11, z12, z13, z14, z15] sf rfl hS 10 10 rfl (by decide) 8 8 rfl (by decide) 8 8 rfl (by decide) (by decide) (by decide) y_2 ey_2) gX11_signOf_X11_multiply rfl hy_X11_multiply_V ⟨Nat.le_of_ble_eq_true rfl, Nat.le_of_ble_eq_true rfl⟩ 0 rfl rfl [0, 1, 2] rfl (by decide) rfl rfl (Nat.le_of_ble_eq_true rfl) ⟨Nat.le_of_ble_eq_true rfl, Nat.le_of_ble_eq_true rfl⟩ ?_
            rintro _ sf_3 ⟨rfl, hS_sf_3⟩
            change J p l e rm_X11_signOf s m args below meth c Q G A 8 0 0 77 [(6, .int 1), (5, .int x_1), (0, .ref (q 0)), (1, .int 8), (2, .long v), (4, .int 2)] [] [(q 0, .inr (10, mF t n q co cr po tx ty)), (q 10, aI G 320 (rg [z0, z1, z2, z3, z4, z5, z6, z7, z8, z9, y_2, z11, z12, z13, z14, z15])), (q 11, aZ G 16 sf_3)]
            refine j_aload_n X dX11_signOf_77 rfl 2 rfl ?_
            refine j_bipush (v := 13) X dX11_signOf_78 (by decide) ?_
            refine j_lload_n X dX11_signOf_80 rfl 4 rfl ?_
            obtain ⟨y_4, ey_4⟩ : ∃ zz9 : Int, zz9 = v.toInt := ⟨_, rfl⟩
            have by_4 : bd 43 y_4 := by rw [ey_4]; exact bv
            refine j_callV X dX11_signOf_81 (n_load l G q t n co cr po tx ty [z0, z1, z2, z3, z4, z5, z6, z7, z8, z9, y_2, z11, z12, z13, z14, z15] sf_3 rfl hS_sf_3 13 13 rfl (by decide) v y_4 ey_4) gX11_signOf_X11_load rfl hy_X11_load_V ⟨Nat.le_of_ble_eq_true rfl, Nat.le_of_ble_eq_true rfl⟩ 0 rfl rfl [0, 1, 2] rfl (by decide) rfl rfl (Nat.le_of_ble_eq_true rfl) ⟨Nat.le_of_ble_eq_true rfl, Nat.le_of_ble_eq_true rfl⟩ ?_
            rintro _ sf_5 ⟨rfl, hS_sf_5⟩
            change J p l e rm_X11_signOf s m args below meth c Q G A 8 0 0 84 [(6, .int 1), (5, .int x_1), (0, .ref (q 0)), (1, .int 8), (2, .long v), (4, .int 2)] [] [(q 0, .inr (10, mF t n q co cr po tx ty)), (q 10, aI G 320 (rg [z0, z1, z2, z3, z4, z5, z6, z7, z8, z9, y_2, z11, z12, y_4, z14, z15])), (q 11, aZ G 16 sf_5)]
            refine j_aload_n X dX11_signOf_84 rfl 2 rfl ?_
            refine j_bipush (v := 15) X dX11_signOf_85 (by decide) ?_
            refine j_bipush (v := 13) X dX11_signOf_87 (by decide) ?_
            refine j_bipush (v := 13) X dX11_signOf_89 (by decide) ?_
            obtain ⟨y_6, ey_6⟩ : ∃ zz9 : Int, zz9 = y_4 * y_4 := ⟨_, rfl⟩
            have by_6 : bd 86 y_6 := by rw [ey_6]; exact bd_mul by_4 by_4
            refine j_callV X dX11_signOf_91 (n_mul l G q t n co cr po tx ty [z0, z1, z2, z3, z4, z5, z6, z7, z8, z9, y_2, z11, z12, y_4, z14, z15] sf_5 rfl hS_sf_5 15 15 rfl (by decide) 13 13 rfl (by decide) 13 13 rfl (by decide) (by decide) (by decide) y_6 ey_6) gX11_signOf_X11_multiply rfl hy_X11_multiply_V ⟨Nat.le_of_ble_eq_true rfl, Nat.le_of_ble_eq_true rfl⟩ 0 rfl rfl [0, 1, 2] rfl (by decide) rfl rfl (Nat.le_of_ble_eq_true rfl) ⟨Nat.le_of_ble_eq_true rfl, Nat.le_of_ble_eq_true rfl⟩ ?_
            rintro _ sf_7 ⟨rfl, hS_sf_7⟩
            change J p l e rm_X11_signOf s m args below meth c Q G A 8 0 0 94 [(6, .int 1), (5, .int x_1), (0, .ref (q 0)), (1, .int 8), (2, .long v), (4, .int 2)] [] [(q 0, .inr (10, mF t n q co cr po tx ty)), (q 10, aI G 320 (rg [z0, z1, z2, z3, z4, z5, z6, z7, z8, z9, y_2, z11, z12, y_4, z14, y_6])), (q 11, aZ G 16 sf_7)]
            refine j_aload_n X dX11_signOf_94 rfl 2 rfl ?_
            refine j_bipush (v := 11) X dX11_signOf_95 (by decide) ?_
            refine j_bipush (v := 15) X dX11_signOf_97 (by decide) ?_
            refine j_iload X dX11_signOf_99 5 rfl ?_
            obtain ⟨y_8, ey_8⟩ : ∃ zz9 : Int, zz9 = y_6 * z2 := ⟨_, rfl⟩
            have by_8 : bd 258 y_8 := by rw [ey_8]; exact bd_mul by_6 br
            refine j_callV X dX11_signOf_101 (n_mul l G q t n co cr po tx ty [z0, z1, z2, z3, z4, z5, z6, z7, z8, z9, y_2, z11, z12, y_4, z14, y_6] sf_7 rfl hS_sf_7 11 11 rfl (by decide) 15 15 rfl (by decide) 2 2 rfl (by decide) (by decide) (by decide) y_8 ey_8) gX11_signOf_X11_multiply rfl hy_X11_multiply_V ⟨Nat.le_of_ble_eq_true rfl, Nat.le_of_ble_eq_true rfl⟩ 0 rfl rfl [0, 1, 2] rfl (by decide) rfl rfl (Nat.le_of_ble_eq_true rfl) ⟨Nat.le_of_ble_eq_true rfl, Nat.le_of_ble_eq_true rfl⟩ ?_
            rintro _ sf_9 ⟨rfl, hS_sf_9⟩
            change J p l e rm_X11_signOf s m args below meth c Q G A 8 0 0 104 [(6, .int 1), (5, .int x_1), (0, .ref (q 0)), (1, .int 8), (2, .long v), (4, .int 2)] [] [(q 0, .inr (10, mF t n q co cr po tx ty)), (q 10, aI G 320 (rg [z0, z1, z2, z3, z4, z5, z6, z7, z8, z9, y_2, y_8, z12, y_4, z14, y_6])), (q 11, aZ G 16 sf_9)]
            refine j_aload_n X dX11_signOf_104 rfl 2 rfl ?_
            refine j_bipush (v := 10) X dX11_signOf_105 (by decide) ?_
            refine j_bipush (v := 11) X dX11_signOf_107 (by decide) ?_
            refine j_callV X dX11_signOf_109 (c_X11_sizes l G q t n co cr po tx ty [z0, z1, z2, z3, z4, z5, z6, z7, z8, z9, y_2, y_8, z12, y_4, z14, y_6] rfl sf_9 10 10 rfl (by decide) 11 11 rfl (by decide) (bd_lt by_2 (by decide)) (bd_lt by_8 (by decide))) gX11_signOf_X11_sizes rfl hy_X11_sizes_V ⟨Nat.le_of_ble_eq_true rfl, Nat.le_of_ble_eq_true rfl⟩ 0 rfl rfl [0, 1, 2] rfl (by decide) rfl rfl (Nat.le_of_ble_eq_true rfl) ⟨Nat.le_of_ble_eq_true rfl, Nat.le_of_ble_eq_true rfl⟩ ?_
            rintro _ ⟨⟩ rfl
            change J p l e rm_X11_signOf s m args below meth c Q G A 8 0 0 112 [(6, .int 1), (5, .int x_1), (0, .ref (q 0)), (1, .int 8), (2, .long v), (4, .int 2)] [.int (sg ((y_2.natAbs : Int) - (y_8.natAbs : Int)))] [(q 0, .inr (10, mF t n q co cr po tx ty)), (q 10, aI G 320 (rg [z0, z1, z2, z3, z4, z5, z6, z7, z8, z9, y_2, y_8, z12, y_4, z14, y_6])), (q 11, aZ G 16 sf_9)]
            refine j_topi (fun x_10 ex_10 => ?_)
            refine j_istore (L' := [(7, .int x_10), (6, .int 1), (5, .int x_1), (0, .ref (q 0)), (1, .int 8), (2, .long v), (4, .int 2)]) X dX11_signOf_112 (by decide) rfl ?_
            refine j_iload X dX11_signOf_114 0 rfl ?_
            refine j_if_ne (tgt := 123) X dX11_signOf_116 (by decide) (fun c_116 => ?_) (fun c_116 => ?_)
            · skip
              have c_116x := c_116
              rw [ex_10] at c_116x
              simp only [sg_e0, sg_le0, Int.not_le] at c_116x
              refine j_iload X dX11_signOf_123 0 rfl ?_
              refine j_if_le (tgt := 133) X dX11_signOf_125 (by decide) (fun c_125 => ?_) (fun c_125 => ?_)
              · skip
                have c_125x := c_125
                rw [ex_10] at c_125x
                simp only [sg_e0, sg_le0, Int.not_le] at c_125x
                refine j_iload X dX11_signOf_133 1 rfl ?_
                exact E.2.1 135 _ 1 (y_2, y_8, y_4, y_6, sf_9) _ dX11_signOf_135 (⟨(by rw [so_m (show sg v.toInt * sg z2 = 1 by rw [sg_pos (by omega), sg_pos (by omega)]; decide) (Or.inl rfl) c_41x c_53x hR ey_2 ey_4 ey_6 ey_8, sg_m1 (by omega), so_op (Or.inl rfl) c_41x c_53x]), hS_sf_9⟩) hr rfl
              · skip
                have c_125x := c_125
                rw [ex_10] at c_125x
                simp only [sg_e0, sg_le0, Int.not_le] at c_125x
                refine j_iload X dX11_signOf_128 2 rfl ?_
                refine j_goto (tgt := 135) X dX11_signOf_130 (by decide) ?_
                exact E.2.1 135 _ x_1 (y_2, y_8, y_4, y_6, sf_9) _ dX11_signOf_135 (⟨(by rw [so_m (show sg v.toInt * sg z2 = 1 by rw [sg_pos (by omega), sg_pos (by omega)]; decide) (Or.inl rfl) c_41x c_53x hR ey_2 ey_4 ey_6 ey_8, sg_1 c_125x]; exact congrArg (fun w => some (Value.int w)) ex_1), hS_sf_9⟩) hr rfl
            · skip
              have c_116x := c_116
              rw [ex_10] at c_116x
              simp only [sg_e0, sg_le0, Int.not_le] at c_116x
              refine j_iconst (v := 0) X dX11_signOf_119 rfl ?_
              refine j_goto (tgt := 135) X dX11_signOf_120 (by decide) ?_
              exact E.2.1 135 _ 0 (y_2, y_8, y_4, y_6, sf_9) _ dX11_signOf_135 (⟨(by rw [so_m (show sg v.toInt * sg z2 = 1 by rw [sg_pos (by omega), sg_pos (by omega)]; decide) (Or.inl rfl) c_41x c_53x hR ey_2 ey_4 ey_6 ey_8, sg_0m c_116x]), hS_sf_9⟩) hr rfl
          · skip
            have c_53x := c_53
            rw [ex_1] at c_53x
            refine j_iload X dX11_signOf_56 1 rfl ?_
            refine j_if_eq (tgt := 66) X dX11_signOf_58 (by decide) (fun c_58 => ?_) (fun c_58 => ?_)
            · skip
              have c_58x := c_58
              rw [ex_1] at c_58x
              refine j_iload X dX11_signOf_66 0 rfl ?_
              exact E.2.1 68 _ 1 (z10, z11, z13, z15, sf) _ dX11_signOf_68 (⟨(by rw [so_y (show sg v.toInt * sg z2 = 1 by rw [sg_pos (by omega), sg_pos (by omega)]; decide) (Or.inl rfl) c_58x]), hS⟩) hr rfl
            · skip
              have c_58x := c_58
              rw [ex_1] at c_58x
              refine j_iload X dX11_signOf_61 1 rfl ?_
              refine j_goto (tgt := 68) X dX11_signOf_63 (by decide) ?_
              exact E.2.1 68 _ x_1 (z10, z11, z13, z15, sf) _ dX11_signOf_68 (⟨(by rw [so_e (show sg v.toInt * sg z2 = 1 by rw [sg_pos (by omega), sg_pos (by omega)]; decide) c_53x]; exact congrArg (fun w => some (Value.int w)) ex_1), hS⟩) hr rfl
      · skip
        first | simp only [bI_0, Decidable.not_not, sg_mul, sg_e0, sg_l0, sg_g0, sg_le0, sg_ge0, cmp_eq, cmp_lt, cmp_ge, cmp_gt, cmp_le, lT0, lT1] at c_29 | simp only [Int32.le_iff_toInt_le, Int32.lt_iff_toInt_lt, ← Int32.toInt_inj, iT0, iT1, iT2, iT3, iT4, iT5, iT6, iT7, iT8, iT9, iT10, iT11, iT12, iT13, iT14, iT15, iT16, iT19, iT20, iT31, iT32, iT42, iT64, iT200, iT318, iT319, iT1000, iTm1, iTm2] at c_29 | skip
        refine j_iconst (v := (-1)) X dX11_signOf_32 rfl ?_
        refine j_goto (tgt := 37) X dX11_signOf_33 (by decide) ?_
        refine j_istore (L' := [(6, .int (-1)), (5, .int x_1), (0, .ref (q 0)), (1, .int 8), (2, .long v), (4, .int 2)]) X dX11_signOf_37 (by decide) rfl ?_
        refine j_iload X dX11_signOf_39 1 rfl ?_
        refine j_if_eq (tgt := 56) X dX11_signOf_41 (by decide) (fun c_41 => ?_) (fun c_41 => ?_)
        · skip
          have c_41x := c_41
          rw [ex_1] at c_41x
          refine j_iload X dX11_signOf_56 1 rfl ?_
          refine j_if_eq (tgt := 66) X dX11_signOf_58 (by decide) (fun c_58 => ?_) (fun c_58 => ?_)
          · skip
            have c_58x := c_58
            rw [ex_1] at c_58x
            refine j_iload X dX11_signOf_66 0 rfl ?_
            exact E.2.1 68 _ (-1) (z10, z11, z13, z15, sf) _ dX11_signOf_68 (⟨(by rw [so_y (show sg v.toInt * sg z2 = (-1) by rw [sg_neg (by omega), sg_pos (by omega)]; decide) (Or.inr rfl) c_58x]), hS⟩) hr rfl
          · skip
            exact absurd c_41 c_58
        · skip
          have c_41x := c_41
          rw [ex_1] at c_41x
          refine j_iload X dX11_signOf_44 0 rfl ?_
          refine j_if_eq (tgt := 56) X dX11_signOf_46 (by decide) (fun c9 => absurd c9 (by decide)) (fun _ => ?_)
          refine j_iload X dX11_signOf_49 1 rfl ?_
          refine j_iload X dX11_signOf_51 0 rfl ?_
          refine j_icmp_ne (tgt := 69) X dX11_signOf_53 (by decide) (fun c_53 => ?_) (fun c_53 => ?_)
          · skip
            have c_53x := c_53
            rw [ex_1] at c_53x
            refine j_aload_n X dX11_signOf_69 rfl 2 rfl ?_
            refine j_bipush (v := 10) X dX11_signOf_70 (by decide) ?_
            refine j_iload_n X dX11_signOf_72 rfl 3 rfl ?_
            refine j_iload_n X dX11_signOf_73 rfl 3 rfl ?_
            obtain ⟨y_11, ey_11⟩ : ∃ zz9 : Int, zz9 = z8 * z8 := ⟨_, rfl⟩
            have by_11 : bd 260 y_11 := by rw [ey_11]; exact bd_mul bu bu
            refine j_callV X dX11_signOf_74 (n_mul l G q t n co cr po tx ty [z0, z1, z2, z3, z4, z5, z6, z7, z8, z9, z10, z11, z12, z13, z14, z15] sf rfl hS 10 10 rfl (by decide) 8 8 rfl (by decide) 8 8 rfl (by decide) (by decide) (by decide) y_11 ey_11) gX11_signOf_X11_multiply rfl hy_X11_multiply_V ⟨Nat.le_of_ble_eq_true rfl, Nat.le_of_ble_eq_true rfl⟩ 0 rfl rfl [0, 1, 2] rfl (by decide) rfl rfl (Nat.le_of_ble_eq_true rfl) ⟨Nat.le_of_ble_eq_true rfl, Nat.le_of_ble_eq_true rfl⟩ ?_
            rintro _ sf_12 ⟨rfl, hS_sf_12⟩
            change J p l e rm_X11_signOf s m args below meth c Q G A 8 0 0 77 [(6, .int (-1)), (5, .int x_1), (0, .ref (q 0)), (1, .int 8), (2, .long v), (4, .int 2)] [] [(q 0, .inr (10, mF t n q co cr po tx ty)), (q 10, aI G 320 (rg [z0, z1, z2, z3, z4, z5, z6, z7, z8, z9, y_11, z11, z12, z13, z14, z15])), (q 11, aZ G 16 sf_12)]
            refine j_aload_n X dX11_signOf_77 rfl 2 rfl ?_
            refine j_bipush (v := 13) X dX11_signOf_78 (by decide) ?_
            refine j_lload_n X dX11_signOf_80 rfl 4 rfl ?_
            obtain ⟨y_13, ey_13⟩ : ∃ zz9 : Int, zz9 = v.toInt := ⟨_, rfl⟩
            have by_13 : bd 43 y_13 := by rw [ey_13]; exact bv
            refine j_callV X dX11_signOf_81 (n_load l G q t n co cr po tx ty [z0, z1, z2, z3, z4, z5, z6, z7, z8, z9, y_11, z11, z12, z13, z14, z15] sf_12 rfl hS_sf_12 13 13 rfl (by decide) v y_13 ey_13) gX11_signOf_X11_load rfl hy_X11_load_V ⟨Nat.le_of_ble_eq_true rfl, Nat.le_of_ble_eq_true rfl⟩ 0 rfl rfl [0, 1, 2] rfl (by decide) rfl rfl (Nat.le_of_ble_eq_true rfl) ⟨Nat.le_of_ble_eq_true rfl, Nat.le_of_ble_eq_true rfl⟩ ?_
            rintro _ sf_14 ⟨rfl, hS_sf_14⟩
            change J p l e rm_X11_signOf s m args below meth c Q G A 8 0 0 84 [(6, .int (-1)), (5, .int x_1), (0, .ref (q 0)), (1, .int 8), (2, .long v), (4, .int 2)] [] [(q 0, .inr (10, mF t n q co cr po tx ty)), (q 10, aI G 320 (rg [z0, z1, z2, z3, z4, z5, z6, z7, z8, z9, y_11, z11, z12, y_13, z14, z15])), (q 11, aZ G 16 sf_14)]
            refine j_aload_n X dX11_signOf_84 rfl 2 rfl ?_
            refine j_bipush (v := 15) X dX11_signOf_85 (by decide) ?_
            refine j_bipush (v := 13) X dX11_signOf_87 (by decide) ?_
            refine j_bipush (v := 13) X dX11_signOf_89 (by decide) ?_
            obtain ⟨y_15, ey_15⟩ : ∃ zz9 : Int, zz9 = y_13 * y_13 := ⟨_, rfl⟩
            have by_15 : bd 86 y_15 := by rw [ey_15]; exact bd_mul by_13 by_13
            refine j_callV X dX11_signOf_91 (n_mul l G q t n co cr po tx ty [z0, z1, z2, z3, z4, z5, z6, z7, z8, z9, y_11, z11, z12, y_13, z14, z15] sf_14 rfl hS_sf_14 15 15 rfl (by decide) 13 13 rfl (by decide) 13 13 rfl (by decide) (by decide) (by decide) y_15 ey_15) gX11_signOf_X11_multiply rfl hy_X11_multiply_V ⟨Nat.le_of_ble_eq_true rfl, Nat.le_of_ble_eq_true rfl⟩ 0 rfl rfl [0, 1, 2] rfl (by decide) rfl rfl (Nat.le_of_ble_eq_true rfl) ⟨Nat.le_of_ble_eq_true rfl, Nat.le_of_ble_eq_true rfl⟩ ?_
            rintro _ sf_16 ⟨rfl, hS_sf_16⟩
            change J p l e rm_X11_signOf s m args below meth c Q G A 8 0 0 94 [(6, .int (-1)), (5, .int x_1), (0, .ref (q 0)), (1, .int 8), (2, .long v), (4, .int 2)] [] [(q 0, .inr (10, mF t n q co cr po tx ty)), (q 10, aI G 320 (rg [z0, z1, z2, z3, z4, z5, z6, z7, z8, z9, y_11, z11, z12, y_13, z14, y_15])), (q 11, aZ G 16 sf_16)]
            refine j_aload_n X dX11_signOf_94 rfl 2 rfl ?_
            refine j_bipush (v := 11) X dX11_signOf_95 (by decide) ?_
            refine j_bipush (v := 15) X dX11_signOf_97 (by decide) ?_
            refine j_iload X dX11_signOf_99 5 rfl ?_
            obtain ⟨y_17, ey_17⟩ : ∃ zz9 : Int, zz9 = y_15 * z2 := ⟨_, rfl⟩
            have by_17 : bd 258 y_17 := by rw [ey_17]; exact bd_mul by_15 br
            refine j_callV X dX11_signOf_101 (n_mul l G q t n co cr po tx ty [z0, z1, z2, z3, z4, z5, z6, z7, z8, z9, y_11, z11, z12, y_13, z14, y_15] sf_16 rfl hS_sf_16 11 11 rfl (by decide) 15 15 rfl (by decide) 2 2 rfl (by decide) (by decide) (by decide) y_17 ey_17) gX11_signOf_X11_multiply rfl hy_X11_multiply_V ⟨Nat.le_of_ble_eq_true rfl, Nat.le_of_ble_eq_true rfl⟩ 0 rfl rfl [0, 1, 2] rfl (by decide) rfl rfl (Nat.le_of_ble_eq_true rfl) ⟨Nat.le_of_ble_eq_true rfl, Nat.le_of_ble_eq_true rfl⟩ ?_
            rintro _ sf_18 ⟨rfl, hS_sf_18⟩
            change J p l e rm_X11_signOf s m args below meth c Q G A 8 0 0 104 [(6, .int (-1)), (5, .int x_1), (0, .ref (q 0)), (1, .int 8), (2, .long v), (4, .int 2)] [] [(q 0, .inr (10, mF t n q co cr po tx ty)), (q 10, aI G 320 (rg [z0, z1, z2, z3, z4, z5, z6, z7, z8, z9, y_11, y_17, z12, y_13, z14, y_15])), (q 11, aZ G 16 sf_18)]
            refine j_aload_n X dX11_signOf_104 rfl 2 rfl ?_
            refine j_bipush (v := 10) X dX11_signOf_105 (by decide) ?_
            refine j_bipush (v := 11) X dX11_signOf_107 (by decide) ?_
            refine j_callV X dX11_signOf_109 (c_X11_sizes l G q t n co cr po tx ty [z0, z1, z2, z3, z4, z5, z6, z7, z8, z9, y_11, y_17, z12, y_13, z14, y_15] rfl sf_18 10 10 rfl (by decide) 11 11 rfl (by decide) (bd_lt by_11 (by decide)) (bd_lt by_17 (by decide))) gX11_signOf_X11_sizes rfl hy_X11_sizes_V ⟨Nat.le_of_ble_eq_true rfl, Nat.le_of_ble_eq_true rfl⟩ 0 rfl rfl [0, 1, 2] rfl (by decide) rfl rfl (Nat.le_of_ble_eq_true rfl) ⟨Nat.le_of_ble_eq_true rfl, Nat.le_of_ble_eq_true rfl⟩ ?_
            rintro _ ⟨⟩ rfl
            change J p l e rm_X11_signOf s m args below meth c Q G A 8 0 0 112 [(6, .int (-1)), (5, .int x_1), (0, .ref (q 0)), (1, .int 8), (2, .long v), (4, .int 2)] [.int (sg ((y_11.natAbs : Int) - (y_17.natAbs : Int)))] [(q 0, .inr (10, mF t n q co cr po tx ty)), (q 10, aI G 320 (rg [z0, z1, z2, z3, z4, z5, z6, z7, z8, z9, y_11, y_17, z12, y_13, z14, y_15])), (q 11, aZ G 16 sf_18)]
            refine j_topi (fun x_19 ex_19 => ?_)
            refine j_istore (L' := [(7, .int x_19), (6, .int (-1)), (5, .int x_1), (0, .ref (q 0)), (1, .int 8), (2, .long v), (4, .int 2)]) X dX11_signOf_112 (by decide) rfl ?_
            refine j_iload X dX11_signOf_114 0 rfl ?_
            refine j_if_ne (tgt := 123) X dX11_signOf_116 (by decide) (fun c_116 => ?_) (fun c_116 => ?_)
            · skip
              have c_116x := c_116
              rw [ex_19] at c_116x
              simp only [sg_e0, sg_le0, Int.not_le] at c_116x
              refine j_iload X dX11_signOf_123 0 rfl ?_
              refine j_if_le (tgt := 133) X dX11_signOf_125 (by decide) (fun c_125 => ?_) (fun c_125 => ?_)
              · skip
                have c_125x := c_125
                rw [ex_19] at c_125x
                simp only [sg_e0, sg_le0, Int.not_le] at c_125x
                refine j_iload X dX11_signOf_133 1 rfl ?_
                exact E.2.1 135 _ (-1) (y_11, y_17, y_13, y_15, sf_18) _ dX11_signOf_135 (⟨(by rw [so_m (show sg v.toInt * sg z2 = (-1) by rw [sg_neg (by omega), sg_pos (by omega)]; decide) (Or.inr rfl) c_41x c_53x hR ey_11 ey_13 ey_15 ey_17, sg_m1 (by omega), so_op (Or.inr rfl) c_41x c_53x]), hS_sf_18⟩) hr rfl
              · skip
                have c_125x := c_125
                rw [ex_19] at c_125x
                simp only [sg_e0, sg_le0, Int.not_le] at c_125x
                refine j_iload X dX11_signOf_128 2 rfl ?_
                refine j_goto (tgt := 135) X dX11_signOf_130 (by decide) ?_
                exact E.2.1 135 _ x_1 (y_11, y_17, y_13, y_15, sf_18) _ dX11_signOf_135 (⟨(by rw [so_m (show sg v.toInt * sg z2 = (-1) by rw [sg_neg (by omega), sg_pos (by omega)]; decide) (Or.inr rfl) c_41x c_53x hR ey_11 ey_13 ey_15 ey_17, sg_1 c_125x]; exact congrArg (fun w => some (Value.int w)) ex_1), hS_sf_18⟩) hr rfl
            · skip
              have c_116x := c_116
              rw [ex_19] at c_116x
              simp only [sg_e0, sg_le0, Int.not_le] at c_116x
              refine j_iconst (v := 0) X dX11_signOf_119 rfl ?_
              refine j_goto (tgt := 135) X dX11_signOf_120 (by decide) ?_
              exact E.2.1 135 _ 0 (y_11, y_17, y_13, y_15, sf_18) _ dX11_signOf_135 (⟨(by rw [so_m (show sg v.toInt * sg z2 = (-1) by rw [sg_neg (by omega), sg_pos (by omega)]; decide) (Or.inr rfl) c_41x c_53x hR ey_11 ey_13 ey_15 ey_17, sg_0m c_116x]), hS_sf_18⟩) hr rfl
          · skip
            have c_53x := c_53
            rw [ex_1] at c_53x
            refine j_iload X dX11_signOf_56 1 rfl ?_
            refine j_if_eq (tgt := 66) X dX11_signOf_58 (by decide) (fun c_58 => ?_) (fun c_58 => ?_)
            · skip
              have c_58x := c_58
              rw [ex_1] at c_58x
              refine j_iload X dX11_signOf_66 0 rfl ?_
              exact E.2.1 68 _ (-1) (z10, z11, z13, z15, sf) _ dX11_signOf_68 (⟨(by rw [so_y (show sg v.toInt * sg z2 = (-1) by rw [sg_neg (by omega), sg_pos (by omega)]; decide) (Or.inr rfl) c_58x]), hS⟩) hr rfl
            · skip
              have c_58x := c_58
              rw [ex_1] at c_58x
              refine j_iload X dX11_signOf_61 1 rfl ?_
              refine j_goto (tgt := 68) X dX11_signOf_63 (by decide) ?_
              exact E.2.1 68 _ x_1 (z10, z11, z13, z15, sf) _ dX11_signOf_68 (⟨(by rw [so_e (show sg v.toInt * sg z2 = (-1) by rw [sg_neg (by omega), sg_pos (by omega)]; decide) c_53x]; exact congrArg (fun w => some (Value.int w)) ex_1), hS⟩) hr rfl
    · skip
      first | simp only [bI_0, Decidable.not_not, sg_mul, sg_e0, sg_l0, sg_g0, sg_le0, sg_ge0, cmp_eq, cmp_lt, cmp_ge, cmp_gt, cmp_le, lT0, lT1] at c_19 | simp only [Int32.le_iff_toInt_le, Int32.lt_iff_toInt_lt, ← Int32.toInt_inj, iT0, iT1, iT2, iT3, iT4, iT5, iT6, iT7, iT8, iT9, iT10, iT11, iT12, iT13, iT14, iT15, iT16, iT19, iT20, iT31, iT32, iT42, iT64, iT200, iT318, iT319, iT1000, iTm1, iTm2] at c_19 | skip
      have hR0 := c_19
      refine j_iconst (v := 0) X dX11_signOf_22 rfl ?_
      refine j_goto (tgt := 37) X dX11_signOf_23 (by decide) ?_
      refine j_istore (L' := [(6, .int 0), (5, .int x_1), (0, .ref (q 0)), (1, .int 8), (2, .long v), (4, .int 2)]) X dX11_signOf_37 (by decide) rfl ?_
      refine j_iload X dX11_signOf_39 1 rfl ?_
      refine j_if_eq (tgt := 56) X dX11_signOf_41 (by decide) (fun c_41 => ?_) (fun c_41 => ?_)
      · skip
        have c_41x := c_41
        rw [ex_1] at c_41x
        refine j_iload X dX11_signOf_56 1 rfl ?_
        refine j_if_eq (tgt := 66) X dX11_signOf_58 (by decide) (fun c_58 => ?_) (fun c_58 => ?_)
        · skip
          have c_58x := c_58
          rw [ex_1] at c_58x
          refine j_iload X dX11_signOf_66 0 rfl ?_
          exact E.2.1 68 _ 0 (z10, z11, z13, z15, sf) _ dX11_signOf_68 (⟨(by rw [so_0 (f := v.toInt) (Or.inr hR0)]; exact congrArg (fun w => some (Value.int w)) (c_58x.symm)), hS⟩) hr rfl
        · skip
          exact absurd c_41 c_58
      · skip
        have c_41x := c_41
        rw [ex_1] at c_41x
        refine j_iload X dX11_signOf_44 0 rfl ?_
        refine j_if_eq (tgt := 56) X dX11_signOf_46 (by decide) (fun _ => ?_) (fun c9 => absurd c9 (by decide))
        refine j_iload X dX11_signOf_56 1 rfl ?_
        refine j_if_eq (tgt := 66) X dX11_signOf_58 (by decide) (fun c_58 => ?_) (fun c_58 => ?_)
        · skip
          have c_58x := c_58
          rw [ex_1] at c_58x
          refine j_iload X dX11_signOf_66 0 rfl ?_
          exact E.2.1 68 _ 0 (z10, z11, z13, z15, sf) _ dX11_signOf_68 (⟨(by rw [so_0 (f := v.toInt) (Or.inr hR0)]; exact congrArg (fun w => some (Value.int w)) (c_58x.symm)), hS⟩) hr rfl
        · skip
          have c_58x := c_58
          rw [ex_1] at c_58x
          refine j_iload X dX11_signOf_61 1 rfl ?_
          refine j_goto (tgt := 68) X dX11_signOf_63 (by decide) ?_
          exact E.2.1 68 _ x_1 (z10, z11, z13, z15, sf) _ dX11_signOf_68 (⟨(by rw [so_0 (f := v.toInt) (Or.inr hR0)]; exact congrArg (fun w => some (Value.int w)) ex_1), hS⟩) hr rfl

