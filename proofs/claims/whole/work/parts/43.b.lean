abbrev rm_X11_reduce : Room := { frames := 3, cells := 0, slots := 0, locals := 81 }
set_option maxHeartbeats 4000000 in
set_option maxRecDepth 100000 in
theorem c_X11_reduce (l : Launch) (G : jG) (q : Nat → Nat) (t n co cr po : Int32) (tx ty : Int64) (z0 z1 z2 z3 z4 z5 z6 z7 z8 z9 z10 z11 z12 z13 z14 z15 : Int) (sf : Nat → Int32) (hS : okS [z0, z1, z2, z3, z4, z5, z6, z7, z8, z9, z10, z11, z12, z13, z14, z15] sf) (h8 : 0 ≤ z8) (h9 : 0 < z9) (b8 : bd 166 z8) (b9 : bd 83 z9) : Ct l yX11_reduce wsX11_reduce rm_X11_reduce G [.ref (q 0)] [(q 0, .inr (10, mF t n q co cr po tx ty)), (q 10, aI G 320 (rg [z0, z1, z2, z3, z4, z5, z6, z7, z8, z9, z10, z11, z12, z13, z14, z15])), (q 11, aZ G 16 sf)] (S := Int × Int × Int × Int × Int × Int × Int × Int × Int × (Nat → Int32)) (fun r u => r = none ∧ u.2.2.2.2.1 = z8 / gc z8 z9 ∧ u.2.2.2.2.2.1 = z9 / gc z8 z9 ∧ okS [z0, z1, z2, z3, u.1, u.2.1, u.2.2.1, u.2.2.2.1, u.2.2.2.2.1, u.2.2.2.2.2.1, z10, z11, u.2.2.2.2.2.2.1, z13, u.2.2.2.2.2.2.2.1, u.2.2.2.2.2.2.2.2.1] u.2.2.2.2.2.2.2.2.2) (fun u => [(q 0, .inr (10, mF t n q co cr po tx ty)), (q 10, aI G 320 (rg [z0, z1, z2, z3, u.1, u.2.1, u.2.2.1, u.2.2.2.1, u.2.2.2.2.1, u.2.2.2.2.2.1, z10, z11, u.2.2.2.2.2.2.1, z13, u.2.2.2.2.2.2.2.1, u.2.2.2.2.2.2.2.2.1])), (q 11, aZ G 16 u.2.2.2.2.2.2.2.2.2)]) (fun _ => []) := by
  refine c_intro (cc := cX11_reduce) (maxL := 1) (ret := none) (by decide) rfl (Nat.le_of_ble_eq_true rfl) (fun _ => by simp only [List.map_cons, List.map_nil]) ?_
  intro p e s m args below meth c Q A X hr hin E
  change J p l e rm_X11_reduce s m args below meth c Q G A 1 0 0 0 [(0, .ref (q 0))] [] [(q 0, .inr (10, mF t n q co cr po tx ty)), (q 10, aI G 320 (rg [z0, z1, z2, z3, z4, z5, z6, z7, z8, z9, z10, z11, z12, z13, z14, z15])), (q 11, aZ G 16 sf)]
  refine j_aload_n X dX11_reduce_0 rfl 0 rfl ?_
  refine j_iconst (v := 4) X dX11_reduce_1 rfl ?_
  refine j_bipush (v := 8) X dX11_reduce_2 (by decide) ?_
  refine j_callV X dX11_reduce_4 (h_copy l G q t n co cr po tx ty [z0, z1, z2, z3, z4, z5, z6, z7, z8, z9, z10, z11, z12, z13, z14, z15] sf rfl hS 4 4 rfl (by decide) 8 8 rfl (by decide) (by decide)) gX11_reduce_X11_copy rfl hy_X11_copy_V ⟨Nat.le_of_ble_eq_true rfl, Nat.le_of_ble_eq_true rfl⟩ 0 rfl rfl [0, 1, 2] rfl (by decide) rfl rfl (Nat.le_of_ble_eq_true rfl) ⟨Nat.le_of_ble_eq_true rfl, Nat.le_of_ble_eq_true rfl⟩ ?_
  rintro _ sf_1 ⟨rfl, hS_sf_1⟩
  change J p l e rm_X11_reduce s m args below meth c Q G A 1 0 0 7 [(0, .ref (q 0))] [] [(q 0, .inr (10, mF t n q co cr po tx ty)), (q 10, aI G 320 (rg [z0, z1, z2, z3, z8, z5, z6, z7, z8, z9, z10, z11, z12, z13, z14, z15])), (q 11, aZ G 16 sf_1)]
  refine j_aload_n X dX11_reduce_7 rfl 0 rfl ?_
  refine j_iconst (v := 5) X dX11_reduce_8 rfl ?_
  refine j_bipush (v := 9) X dX11_reduce_9 (by decide) ?_
  refine j_callV X dX11_reduce_11 (h_copy l G q t n co cr po tx ty [z0, z1, z2, z3, z8, z5, z6, z7, z8, z9, z10, z11, z12, z13, z14, z15] sf_1 rfl hS_sf_1 5 5 rfl (by decide) 9 9 rfl (by decide) (by decide)) gX11_reduce_X11_copy rfl hy_X11_copy_V ⟨Nat.le_of_ble_eq_true rfl, Nat.le_of_ble_eq_true rfl⟩ 0 rfl rfl [0, 1, 2] rfl (by decide) rfl rfl (Nat.le_of_ble_eq_true rfl) ⟨Nat.le_of_ble_eq_true rfl, Nat.le_of_ble_eq_true rfl⟩ ?_
  rintro _ sf_2 ⟨rfl, hS_sf_2⟩
  change J p l e rm_X11_reduce s m args below meth c Q G A 1 0 0 14 [(0, .ref (q 0))] [] [(q 0, .inr (10, mF t n q co cr po tx ty)), (q 10, aI G 320 (rg [z0, z1, z2, z3, z8, z9, z6, z7, z8, z9, z10, z11, z12, z13, z14, z15])), (q 11, aZ G 16 sf_2)]
  have loop : ∀ (d : Nat) (a4 a5 a6 a12 a14 a15 : Int) (s2 : Nat → Int32) (h4 : 0 ≤ a4) (h5 : 0 ≤ a5) (hg : gc a4 a5 = gc z8 z9) (b4 : bd 166 a4) (b5 : bd 166 a5) (hS2 : okS [z0, z1, z2, z3, a4, a5, a6, z7, z8, z9, z10, z11, a12, z13, a14, a15] s2), a5.toNat < d → J p l e rm_X11_reduce s m args below meth c Q G A 1 0 0 14 [(0, .ref (q 0))] [] [(q 0, .inr (10, mF t n q co cr po tx ty)), (q 10, aI G 320 (rg [z0, z1, z2, z3, a4, a5, a6, z7, z8, z9, z10, z11, a12, z13, a14, a15])), (q 11, aZ G 16 s2)] := by
    intro d
    induction d with
    | zero => intro a4 a5 a6 a12 a14 a15 s2 h4 h5 hg b4 b5 hS2 hd0; exact absurd hd0 (Nat.not_lt_zero _)
    | succ d ih =>
      intro a4 a5 a6 a12 a14 a15 s2 h4 h5 hg b4 b5 hS2 hd0
      refine j_aload_n X dX11_reduce_14 rfl 0 rfl ?_
      refine j_iconst (v := 5) X dX11_reduce_15 rfl ?_
      refine j_callV X dX11_reduce_16 (c_X11_sign l G q t n co cr po tx ty [z0, z1, z2, z3, a4, a5, a6, z7, z8, z9, z10, z11, a12, z13, a14, a15] rfl s2 5 5 rfl (by decide) (hS2 5 (by decide)) (bd_lt b5 (by decide))) gX11_reduce_X11_sign rfl hy_X11_sign_V ⟨Nat.le_of_ble_eq_true rfl, Nat.le_of_ble_eq_true rfl⟩ 0 rfl rfl [0, 1, 2] rfl (by decide) rfl rfl (Nat.le_of_ble_eq_true rfl) ⟨Nat.le_of_ble_eq_true rfl, Nat.le_of_ble_eq_true rfl⟩ ?_
      rintro _ ⟨⟩ rfl
      change J p l e rm_X11_reduce s m args below meth c Q G A 1 0 0 19 [(0, .ref (q 0))] [.int (sg a5)] [(q 0, .inr (10, mF t n q co cr po tx ty)), (q 10, aI G 320 (rg [z0, z1, z2, z3, a4, a5, a6, z7, z8, z9, z10, z11, a12, z13, a14, a15])), (q 11, aZ G 16 s2)]
      refine j_if_eq (tgt := 46) X dX11_reduce_19 (by decide) (fun c_19 => ?_) (fun c_19 => ?_)
      · skip
        first | simp only [bI_0, Decidable.not_not, sg_mul, sg_e0, sg_l0, sg_g0, sg_le0, sg_ge0, cmp_eq, cmp_lt, cmp_ge, cmp_gt, cmp_le, lT0, lT1] at c_19 | simp only [Int32.le_iff_toInt_le, Int32.lt_iff_toInt_lt, ← Int32.toInt_inj, iT0, iT1, iT2, iT3, iT4, iT5, iT6, iT7, iT8, iT9, iT10, iT11, iT12, iT13, iT14, iT15, iT16, iT19, iT20, iT31, iT32, iT42, iT64, iT200, iT318, iT319, iT1000, iTm1, iTm2] at c_19 | skip
        rw [c_19, gc_end h4] at hg
        have hgp := gc_pos (a := z8) h9
        have hA : (a4.natAbs : Int) = gc z8 z9 := by omega
        refine j_aload_n X dX11_reduce_46 rfl 0 rfl ?_
        refine j_bipush (v := 6) X dX11_reduce_47 (by decide) ?_
        refine j_bipush (v := 8) X dX11_reduce_49 (by decide) ?_
        refine j_iconst (v := 4) X dX11_reduce_51 rfl ?_
        obtain ⟨y_3, ey_3⟩ : ∃ zz9 : Int, zz9 = z8 / (a4.natAbs : Int) := ⟨_, rfl⟩
        obtain ⟨y_4, ey_4⟩ : ∃ zz9 : Int, zz9 = (z8.natAbs : Int) % (a4.natAbs : Int) := ⟨_, rfl⟩
        refine j_callV X dX11_reduce_52 (n_divide_6_8_4 l G q t n co cr po tx ty z0 z1 z2 z3 a4 a5 a6 z7 z8 z9 z10 z11 a12 z13 a14 a15 s2 hS2 (by omega) b4 b8 (by decide) (by decide) y_3 y_4 ey_3 ey_4) gX11_reduce_X11_divide rfl hy_X11_divide_V ⟨Nat.le_of_ble_eq_true rfl, Nat.le_of_ble_eq_true rfl⟩ 0 rfl rfl [0, 1, 2] rfl (by decide) rfl rfl (Nat.le_of_ble_eq_true rfl) ⟨Nat.le_of_ble_eq_true rfl, Nat.le_of_ble_eq_true rfl⟩ ?_
        rintro _ ⟨v_5, v_6, sf_7⟩ ⟨rfl, hS_sf_7⟩
        change J p l e rm_X11_reduce s m args below meth c Q G A 1 0 0 55 [(0, .ref (q 0))] [] [(q 0, .inr (10, mF t n q co cr po tx ty)), (q 10, aI G 320 (rg [z0, z1, z2, z3, a4, a5, y_3, z7, z8, z9, z10, z11, y_4, z13, v_5, v_6])), (q 11, aZ G 16 sf_7)]
        refine j_aload_n X dX11_reduce_55 rfl 0 rfl ?_
        refine j_bipush (v := 7) X dX11_reduce_56 (by decide) ?_
        refine j_bipush (v := 9) X dX11_reduce_58 (by decide) ?_
        refine j_iconst (v := 4) X dX11_reduce_60 rfl ?_
        obtain ⟨y_8, ey_8⟩ : ∃ zz9 : Int, zz9 = z9 / (a4.natAbs : Int) := ⟨_, rfl⟩
        obtain ⟨y_9, ey_9⟩ : ∃ zz9 : Int, zz9 = (z9.natAbs : Int) % (a4.natAbs : Int) := ⟨_, rfl⟩
        refine j_callV X dX11_reduce_61 (n_divide_7_9_4 l G q t n co cr po tx ty z0 z1 z2 z3 a4 a5 y_3 z7 z8 z9 z10 z11 y_4 z13 v_5 v_6 sf_7 hS_sf_7 (by omega) b4 b9 (by decide) (by decide) y_8 y_9 ey_8 ey_9) gX11_reduce_X11_divide rfl hy_X11_divide_V ⟨Nat.le_of_ble_eq_true rfl, Nat.le_of_ble_eq_true rfl⟩ 0 rfl rfl [0, 1, 2] rfl (by decide) rfl rfl (Nat.le_of_ble_eq_true rfl) ⟨Nat.le_of_ble_eq_true rfl, Nat.le_of_ble_eq_true rfl⟩ ?_
        rintro _ ⟨v_10, v_11, sf_12⟩ ⟨rfl, hS_sf_12⟩
        change J p l e rm_X11_reduce s m args below meth c Q G A 1 0 0 64 [(0, .ref (q 0))] [] [(q 0, .inr (10, mF t n q co cr po tx ty)), (q 10, aI G 320 (rg [z0, z1, z2, z3, a4, a5, y_3, y_8, z8, z9, z10, z11, y_9, z13, v_10, v_11])), (q 11, aZ G 16 sf_12)]
        refine j_aload_n X dX11_reduce_64 rfl 0 rfl ?_
        refine j_bipush (v := 8) X dX11_reduce_65 (by decide) ?_
        refine j_bipush (v := 6) X dX11_reduce_67 (by decide) ?_
        refine j_callV X dX11_reduce_69 (h_copy l G q t n co cr po tx ty [z0, z1, z2, z3, a4, a5, y_3, y_8, z8, z9, z10, z11, y_9, z13, v_10, v_11] sf_12 rfl hS_sf_12 8 8 rfl (by decide) 6 6 rfl (by decide) (by decide)) gX11_reduce_X11_copy rfl hy_X11_copy_V ⟨Nat.le_of_ble_eq_true rfl, Nat.le_of_ble_eq_true rfl⟩ 0 rfl rfl [0, 1, 2] rfl (by decide) rfl rfl (Nat.le_of_ble_eq_true rfl) ⟨Nat.le_of_ble_eq_true rfl, Nat.le_of_ble_eq_true rfl⟩ ?_
        rintro _ sf_13 ⟨rfl, hS_sf_13⟩
        change J p l e rm_X11_reduce s m args below meth c Q G A 1 0 0 72 [(0, .ref (q 0))] [] [(q 0, .inr (10, mF t n q co cr po tx ty)), (q 10, aI G 320 (rg [z0, z1, z2, z3, a4, a5, y_3, y_8, y_3, z9, z10, z11, y_9, z13, v_10, v_11])), (q 11, aZ G 16 sf_13)]
        refine j_aload_n X dX11_reduce_72 rfl 0 rfl ?_
        refine j_bipush (v := 9) X dX11_reduce_73 (by decide) ?_
        refine j_bipush (v := 7) X dX11_reduce_75 (by decide) ?_
        refine j_callV X dX11_reduce_77 (h_copy l G q t n co cr po tx ty [z0, z1, z2, z3, a4, a5, y_3, y_8, y_3, z9, z10, z11, y_9, z13, v_10, v_11] sf_13 rfl hS_sf_13 9 9 rfl (by decide) 7 7 rfl (by decide) (by decide)) gX11_reduce_X11_copy rfl hy_X11_copy_V ⟨Nat.le_of_ble_eq_true rfl, Nat.le_of_ble_eq_true rfl⟩ 0 rfl rfl [0, 1, 2] rfl (by decide) rfl rfl (Nat.le_of_ble_eq_true rfl) ⟨Nat.le_of_ble_eq_true rfl, Nat.le_of_ble_eq_true rfl⟩ ?_
        rintro _ sf_14 ⟨rfl, hS_sf_14⟩
        change J p l e rm_X11_reduce s m args below meth c Q G A 1 0 0 80 [(0, .ref (q 0))] [] [(q 0, .inr (10, mF t n q co cr po tx ty)), (q 10, aI G 320 (rg [z0, z1, z2, z3, a4, a5, y_3, y_8, y_3, y_8, z10, z11, y_9, z13, v_10, v_11])), (q 11, aZ G 16 sf_14)]
        exact E.1 80 _ (a4, a5, y_3, y_8, y_3, y_8, y_9, v_10, v_11, sf_14) dX11_reduce_80 (⟨rfl, (by rw [ey_3, hA]), (by rw [ey_8, hA]), hS_sf_14⟩) hr
      · skip
        first | simp only [bI_0, Decidable.not_not, sg_mul, sg_e0, sg_l0, sg_g0, sg_le0, sg_ge0, cmp_eq, cmp_lt, cmp_ge, cmp_gt, cmp_le, lT0, lT1] at c_19 | simp only [Int32.le_iff_toInt_le, Int32.lt_iff_toInt_lt, ← Int32.toInt_inj, iT0, iT1, iT2, iT3, iT4, iT5, iT6, iT7, iT8, iT9, iT10, iT11, iT12, iT13, iT14, iT15, iT16, iT19, iT20, iT31, iT32, iT42, iT64, iT200, iT318, iT319, iT1000, iTm1, iTm2] at c_19 | skip
        refine j_aload_n X dX11_reduce_22 rfl 0 rfl ?_
        refine j_bipush (v := 6) X dX11_reduce_23 (by decide) ?_
        refine j_iconst (v := 4) X dX11_reduce_25 rfl ?_
        refine j_iconst (v := 5) X dX11_reduce_26 rfl ?_
        obtain ⟨y_15, ey_15⟩ : ∃ zz9 : Int, zz9 = a4 / (a5.natAbs : Int) := ⟨_, rfl⟩
        obtain ⟨y_16, ey_16⟩ : ∃ zz9 : Int, zz9 = (a4.natAbs : Int) % (a5.natAbs : Int) := ⟨_, rfl⟩
        refine j_callV X dX11_reduce_27 (n_divide_6_4_5 l G q t n co cr po tx ty z0 z1 z2 z3 a4 a5 a6 z7 z8 z9 z10 z11 a12 z13 a14 a15 s2 hS2 (by omega) b5 b4 (by decide) (by decide) y_15 y_16 ey_15 ey_16) gX11_reduce_X11_divide rfl hy_X11_divide_V ⟨Nat.le_of_ble_eq_true rfl, Nat.le_of_ble_eq_true rfl⟩ 0 rfl rfl [0, 1, 2] rfl (by decide) rfl rfl (Nat.le_of_ble_eq_true rfl) ⟨Nat.le_of_ble_eq_true rfl, Nat.le_of_ble_eq_true rfl⟩ ?_
        rintro _ ⟨v_17, v_18, sf_19⟩ ⟨rfl, hS_sf_19⟩
        change J p l e rm_X11_reduce s m args below meth c Q G A 1 0 0 30 [(0, .ref (q 0))] [] [(q 0, .inr (10, mF t n q co cr po tx ty)), (q 10, aI G 320 (rg [z0, z1, z2, z3, a4, a5, y_15, z7, z8, z9, z10, z11, y_16, z13, v_17, v_18])), (q 11, aZ G 16 sf_19)]
        refine j_aload_n X dX11_reduce_30 rfl 0 rfl ?_
        refine j_iconst (v := 4) X dX11_reduce_31 rfl ?_
        refine j_iconst (v := 5) X dX11_reduce_32 rfl ?_
        refine j_callV X dX11_reduce_33 (h_copy l G q t n co cr po tx ty [z0, z1, z2, z3, a4, a5, y_15, z7, z8, z9, z10, z11, y_16, z13, v_17, v_18] sf_19 rfl hS_sf_19 4 4 rfl (by decide) 5 5 rfl (by decide) (by decide)) gX11_reduce_X11_copy rfl hy_X11_copy_V ⟨Nat.le_of_ble_eq_true rfl, Nat.le_of_ble_eq_true rfl⟩ 0 rfl rfl [0, 1, 2] rfl (by decide) rfl rfl (Nat.le_of_ble_eq_true rfl) ⟨Nat.le_of_ble_eq_true rfl, Nat.le_of_ble_eq_true rfl⟩ ?_
        rintro _ sf_20 ⟨rfl, hS_sf_20⟩
        change J p l e rm_X11_reduce s m args below meth c Q G A 1 0 0 36 [(0, .ref (q 0))] [] [(q 0, .inr (10, mF t n q co cr po tx ty)), (q 10, aI G 320 (rg [z0, z1, z2, z3, a5, a5, y_15, z7, z8, z9, z10, z11, y_16, z13, v_17, v_18])), (q 11, aZ G 16 sf_20)]
        refine j_aload_n X dX11_reduce_36 rfl 0 rfl ?_
        refine j_iconst (v := 5) X dX11_reduce_37 rfl ?_
        refine j_bipush (v := 12) X dX11_reduce_38 (by decide) ?_
        refine j_callV X dX11_reduce_40 (h_copy l G q t n co cr po tx ty [z0, z1, z2, z3, a5, a5, y_15, z7, z8, z9, z10, z11, y_16, z13, v_17, v_18] sf_20 rfl hS_sf_20 5 5 rfl (by decide) 12 12 rfl (by decide) (by decide)) gX11_reduce_X11_copy rfl hy_X11_copy_V ⟨Nat.le_of_ble_eq_true rfl, Nat.le_of_ble_eq_true rfl⟩ 0 rfl rfl [0, 1, 2] rfl (by decide) rfl rfl (Nat.le_of_ble_eq_true rfl) ⟨Nat.le_of_ble_eq_true rfl, Nat.le_of_ble_eq_true rfl⟩ ?_
        rintro _ sf_21 ⟨rfl, hS_sf_21⟩
        change J p l e rm_X11_reduce s m args below meth c Q G A 1 0 0 43 [(0, .ref (q 0))] [] [(q 0, .inr (10, mF t n q co cr po tx ty)), (q 10, aI G 320 (rg [z0, z1, z2, z3, a5, y_16, y_15, z7, z8, z9, z10, z11, y_16, z13, v_17, v_18])), (q 11, aZ G 16 sf_21)]
        refine j_goto (tgt := 14) X dX11_reduce_43 (by decide) ?_
        refine j_sub [0] rfl ?_
        have hw5 : 0 ≤ y_16 ∧ y_16 < a5 := by rw [ey_16]; exact ⟨Int.emod_nonneg _ (by omega), by have := Int.emod_lt_of_pos (a4.natAbs : Int) (show (0 : Int) < (a5.natAbs : Int) by omega); omega⟩
        exact ih a5 y_16 y_15 y_16 v_17 v_18 sf_21 h5 hw5.1 (by rw [ey_16, gc_step]; exact hg) b5 (bd_mono (bd_of_le hw5.1 (Int.le_of_lt hw5.2) b5) (Nat.le_refl _)) hS_sf_21 (by omega)
  refine j_sub [0] rfl ?_
  exact loop (z9.toNat + 1) z8 z9 z6 z12 z14 z15 sf_2 h8 (Int.le_of_lt h9) rfl b8 (bd_mono b9 (by decide)) hS_sf_2 (by omega)

theorem hy_X11_reduce_V : yX11_reduce.cls = RX11 ∧ yX11_reduce.cls ≠ "java/lang/invoke/MethodHandle" ∧ yX11_reduce.cls ≠ "java/lang/invoke/VarHandle" ∧ (parseMethodDescriptor yX11_reduce.desc).map (fun d => d.parameters.length) = some 0 := by decide +kernel
