abbrev rm_X11_divide : Room := { frames := 2, cells := 0, slots := 0, locals := 56 }
theorem in_X11_divide_X11 : ∀ w ∈ u_ws RX11 TX11 19, w ∈ wsX11_divide := by decide +kernel
theorem fl_X11_divide_42 : Cond.fieldLink RX11 42 (TX11 13).1 (TX11 13).2.1 (TX11 13).2.2.1 ∈ wsX11_divide := by decide +kernel
theorem fl_X11_divide_39 : Cond.fieldLink RX11 39 (TX11 12).1 (TX11 12).2.1 (TX11 12).2.2.1 ∈ wsX11_divide := by decide +kernel
set_option maxHeartbeats 4000000 in
set_option maxRecDepth 100000 in
theorem c_X11_divide_6_4_5 (l : Launch) (G : jG) (q : Nat → Nat) (t n co cr po : Int32) (tx ty : Int64) (z0 z1 z2 z3 z4 z5 z6 z7 z8 z9 z10 z11 z12 z13 z14 z15 : Int) (sf : Nat → Int32) (hS : okS [z0, z1, z2, z3, z4, z5, z6, z7, z8, z9, z10, z11, z12, z13, z14, z15] sf) (hB : 0 < (z5.natAbs : Int)) (hB2 : (z5.natAbs : Int) < 1067993517960455041197510853084776057301352261178326384973520803911109862890320275011481043468288) (hN : (z4.natAbs : Int) < 1067993517960455041197510853084776057301352261178326384973520803911109862890320275011481043468288) : Ct l yX11_divide wsX11_divide rm_X11_divide G [.ref (q 0), .int 6, .int 4, .int 5] [(q 0, .inr (10, mF t n q co cr po tx ty)), (q 10, aI G 320 (rg [z0, z1, z2, z3, z4, z5, z6, z7, z8, z9, z10, z11, z12, z13, z14, z15])), (q 11, aZ G 16 sf)] (S := Int × Int × (Nat → Int32)) (fun r u => r = none ∧ okS [z0, z1, z2, z3, z4, z5, (z4 / (z5.natAbs : Int)), z7, z8, z9, z10, z11, ((z4.natAbs : Int) % (z5.natAbs : Int)), z13, u.1, u.2.1] u.2.2) (fun u => [(q 0, .inr (10, mF t n q co cr po tx ty)), (q 10, aI G 320 (rg [z0, z1, z2, z3, z4, z5, (z4 / (z5.natAbs : Int)), z7, z8, z9, z10, z11, ((z4.natAbs : Int) % (z5.natAbs : Int)), z13, u.1, u.2.1])), (q 11, aZ G 16 u.2.2)]) (fun _ => []) := by
  refine c_intro (cc := cX11_divide) (maxL := 6) (ret := none) (by decide) rfl (Nat.le_of_ble_eq_true rfl) (fun _ => by simp only [List.map_cons, List.map_nil]) ?_
  intro p e s m args below meth c Q A X hr hin E
  change J p l e rm_X11_divide s m args below meth c Q G A 6 0 0 0 [(0, .ref (q 0)), (1, .int 6), (2, .int 4), (3, .int 5)] [] [(q 0, .inr (10, mF t n q co cr po tx ty)), (q 10, aI G 320 (rg [z0, z1, z2, z3, z4, z5, z6, z7, z8, z9, z10, z11, z12, z13, z14, z15])), (q 11, aZ G 16 sf)]
  refine j_aload_n X dX11_divide_0 rfl 0 rfl ?_
  refine j_iload_n X dX11_divide_1 rfl 1 rfl ?_
  refine j_lconst (v := 0) X dX11_divide_2 rfl ?_
  refine j_callV X dX11_divide_3 (c_X11_load l G q t n co cr po tx ty [z0, z1, z2, z3, z4, z5, z6, z7, z8, z9, z10, z11, z12, z13, z14, z15] rfl sf 6 6 rfl (by decide) 0 ) gX11_divide_X11_load rfl hy_X11_load_V ⟨Nat.le_of_ble_eq_true rfl, Nat.le_of_ble_eq_true rfl⟩ 0 rfl rfl [0, 1, 2] rfl (by decide) rfl rfl (Nat.le_of_ble_eq_true rfl) ⟨Nat.le_of_ble_eq_true rfl, Nat.le_of_ble_eq_true rfl⟩ ?_
  rintro _ b_1 ⟨rfl, hb_1⟩
  obtain rfl : b_1 = 0 := ld0 (by decide) hb_1
  change J p l e rm_X11_divide s m args below meth c Q G A 6 0 0 6 [(0, .ref (q 0)), (1, .int 6), (2, .int 4), (3, .int 5)] [] [(q 0, .inr (10, mF t n q co cr po tx ty)), (q 10, aI G 320 (rg [z0, z1, z2, z3, z4, z5, ((0 : Int64).toInt), z7, z8, z9, z10, z11, z12, z13, z14, z15])), (q 11, aZ G 16 (upd sf 6 0))]
  rw [lT0]
  refine j_aload_n X dX11_divide_6 rfl 0 rfl ?_
  refine j_bipush (v := 12) X dX11_divide_7 (by decide) ?_
  refine j_lconst (v := 0) X dX11_divide_9 rfl ?_
  refine j_callV X dX11_divide_10 (c_X11_load l G q t n co cr po tx ty [z0, z1, z2, z3, z4, z5, 0, z7, z8, z9, z10, z11, z12, z13, z14, z15] rfl (upd sf 6 0) 12 12 rfl (by decide) 0 ) gX11_divide_X11_load rfl hy_X11_load_V ⟨Nat.le_of_ble_eq_true rfl, Nat.le_of_ble_eq_true rfl⟩ 0 rfl rfl [0, 1, 2] rfl (by decide) rfl rfl (Nat.le_of_ble_eq_true rfl) ⟨Nat.le_of_ble_eq_true rfl, Nat.le_of_ble_eq_true rfl⟩ ?_
  rintro _ b_2 ⟨rfl, hb_2⟩
  obtain rfl : b_2 = 0 := ld0 (by decide) hb_2
  change J p l e rm_X11_divide s m args below meth c Q G A 6 0 0 13 [(0, .ref (q 0)), (1, .int 6), (2, .int 4), (3, .int 5)] [] [(q 0, .inr (10, mF t n q co cr po tx ty)), (q 10, aI G 320 (rg [z0, z1, z2, z3, z4, z5, 0, z7, z8, z9, z10, z11, ((0 : Int64).toInt), z13, z14, z15])), (q 11, aZ G 16 (upd (upd sf 6 0) 12 0))]
  rw [lT0]
  refine j_sipush (v := 319) X dX11_divide_13 (by decide) ?_
  refine j_istore (L' := [(4, .int 319), (0, .ref (q 0)), (1, .int 6), (2, .int 4), (3, .int 5)]) X dX11_divide_16 (by decide) rfl ?_
  have loop : ∀ (d : Nat) (kk : Nat) (k : Int32) (hk : kk ≤ 320) (hk2 : k.toInt = (kk : Int) - 1), kk < d → J p l e rm_X11_divide s m args below meth c Q G A 6 0 0 18 [(0, .ref (q 0)), (1, .int 6), (2, .int 4), (3, .int 5), (4, .int k)] [] [(q 0, .inr (10, mF t n q co cr po tx ty)), (q 10, aI G 320 (rg [z0, z1, z2, z3, z4, z5, ((z4.natAbs : Int) / 2 ^ kk / (z5.natAbs : Int)), z7, z8, z9, z10, z11, ((z4.natAbs : Int) / 2 ^ kk % (z5.natAbs : Int)), z13, z14, z15])), (q 11, aZ G 16 (upd (upd sf 6 0) 12 0))] := by
    intro d
    induction d with
    | zero => intro kk k hk hk2 hd0; exact absurd hd0 (Nat.not_lt_zero _)
    | succ d ih =>
      intro kk k hk hk2 hd0
      refine j_iload X dX11_divide_18 4 rfl ?_
      refine j_if_lt (tgt := 102) X dX11_divide_20 (by decide) (fun c_20 => ?_) (fun c_20 => ?_)
      · skip
        first | simp only [cmp_eq, cmp_lt, cmp_ge, cmp_gt, cmp_le, lT0, lT1] at c_20 | simp only [Int32.le_iff_toInt_le, Int32.lt_iff_toInt_lt, ← Int32.toInt_inj, iT0, iT1, iT2, iT3, iT4, iT5, iT6, iT7, iT8, iT9, iT10, iT11, iT12, iT13, iT14, iT15, iT16, iT19, iT20, iT31, iT32, iT42, iT64, iT200, iT318, iT319, iT1000, iTm1, iTm2] at c_20
        have hk0 : kk = 0 := by omega
        subst hk0
        refine j_eq (ws' := [(q 0, .inr (10, mF t n q co cr po tx ty)), (q 10, aI G 320 (rg [z0, z1, z2, z3, z4, z5, ((z4.natAbs : Int) / (z5.natAbs : Int)), z7, z8, z9, z10, z11, ((z4.natAbs : Int) % (z5.natAbs : Int)), z13, z14, z15])), (q 11, aZ G 16 (upd (upd sf 6 0) 12 0))]) (by rw [Int.pow_zero, Int.ediv_one]) rfl ?_
        refine j_aload_n X dX11_divide_102 rfl 0 rfl ?_
        refine j_get (v := .ref (q 11)) X dX11_divide_103 0 rfl 13 rfl in_X11_divide_X11 (by decide) fl_X11_divide_42 rfl ?_
        refine j_iload_n X dX11_divide_106 rfl 1 rfl ?_
        refine j_aload_n X dX11_divide_107 rfl 0 rfl ?_
        refine j_get (v := .ref (q 11)) X dX11_divide_108 0 rfl 13 rfl in_X11_divide_X11 (by decide) fl_X11_divide_42 rfl ?_
        refine j_iload_n X dX11_divide_111 rfl 2 rfl ?_
        refine j_zald X dX11_divide_112 2 rfl 4 rfl (by decide) (by decide) ?_
        refine j_zast (ws' := [(q 0, .inr (10, mF t n q co cr po tx ty)), (q 10, aI G 320 (rg [z0, z1, z2, z3, z4, z5, ((z4.natAbs : Int) / (z5.natAbs : Int)), z7, z8, z9, z10, z11, ((z4.natAbs : Int) % (z5.natAbs : Int)), z13, z14, z15])), (q 11, aZ G 16 (upd (upd (upd sf 6 0) 12 0) 6 (sf 4)))]) X dX11_divide_113 2 rfl 6 rfl (by decide) (by decide) (ok1_01 (hS 4 (by decide))) rfl ?_
        refine j_aload_n X dX11_divide_114 rfl 0 rfl ?_
        refine j_get (v := .ref (q 11)) X dX11_divide_115 0 rfl 13 rfl in_X11_divide_X11 (by decide) fl_X11_divide_42 rfl ?_
        refine j_iload_n X dX11_divide_118 rfl 2 rfl ?_
        refine j_zald X dX11_divide_119 2 rfl 4 rfl (by decide) (by decide) ?_
        refine j_if_eq (tgt := 132) X dX11_divide_120 (by decide) (fun c_120 => ?_) (fun c_120 => ?_)
        · skip
          have hz0 : 0 ≤ z4 := by have := hS 4 (by decide); rcases this with h | h; exact h.2; exact absurd (c_120.symm.trans h.1) (by decide)
          refine j_eq (ws' := [(q 0, .inr (10, mF t n q co cr po tx ty)), (q 10, aI G 320 (rg [z0, z1, z2, z3, z4, z5, (z4 / (z5.natAbs : Int)), z7, z8, z9, z10, z11, ((z4.natAbs : Int) % (z5.natAbs : Int)), z13, z14, z15])), (q 11, aZ G 16 (upd (upd (upd sf 6 0) 12 0) 6 (sf 4)))]) (by rw [show (z4.natAbs : Int) = z4 by omega]) rfl ?_
          exact E.1 132 _ (z14, z15, _) dX11_divide_132 (⟨rfl, okS_cong (okS_set (d := 12) rfl (by decide) (okS_set (d := 6) (b := sf 4) rfl (by decide) hS (Or.inl ⟨c_120, Int.ediv_nonneg hz0 (by omega)⟩)) (b := 0) (Or.inl ⟨rfl, (d_rng _ hB).1⟩)) (upsw 6 _ _ _ _ (by decide))⟩) hr
        · skip
          have hs1 : sf 4 = 1 ∧ z4 ≤ 0 := by have := hS 4 (by decide); rcases this with h | h; exact absurd h.1 c_120; exact h
          refine j_aload_n X dX11_divide_123 rfl 0 rfl ?_
          refine j_bipush (v := 12) X dX11_divide_124 (by decide) ?_
          refine j_callV X dX11_divide_126 (c_X11_sign l G q t n co cr po tx ty [z0, z1, z2, z3, z4, z5, ((z4.natAbs : Int) / (z5.natAbs : Int)), z7, z8, z9, z10, z11, ((z4.natAbs : Int) % (z5.natAbs : Int)), z13, z14, z15] rfl (upd (upd (upd sf 6 0) 12 0) 6 (sf 4)) 12 12 rfl (by decide) (Or.inl ⟨rfl, (d_rng _ hB).1⟩) (show ((z4.natAbs : Int) % (z5.natAbs : Int)).natAbs < 2135987035920910082395021706169552114602704522356652769947041607822219725780640550022962086936576 by have := d_rng (z4.natAbs : Int) hB; omega)) gX11_divide_X11_sign rfl hy_X11_sign_V ⟨Nat.le_of_ble_eq_true rfl, Nat.le_of_ble_eq_true rfl⟩ 0 rfl rfl [0, 1, 2] rfl (by decide) rfl rfl (Nat.le_of_ble_eq_true rfl) ⟨Nat.le_of_ble_eq_true rfl, Nat.le_of_ble_eq_true rfl⟩ ?_
          rintro _ ⟨⟩ rfl
          change J p l e rm_X11_divide s m args below meth c Q G A 6 0 0 129 [(0, .ref (q 0)), (1, .int 6), (2, .int 4), (3, .int 5), (4, .int k)] [.int (sg ((z4.natAbs : Int) % (z5.natAbs : Int)))] [(q 0, .inr (10, mF t n q co cr po tx ty)), (q 10, aI G 320 (rg [z0, z1, z2, z3, z4, z5, ((z4.natAbs : Int) / (z5.natAbs : Int)), z7, z8, z9, z10, z11, ((z4.natAbs : Int) % (z5.natAbs : Int)), z13, z14, z15])), (q 11, aZ G 16 (upd (upd (upd sf 6 0) 12 0) 6 (sf 4)))]
          refine j_if_ne (tgt := 133) X dX11_divide_129 (by decide) (fun c_129 => ?_) (fun c_129 => ?_)
          · skip
            first | simp only [cmp_eq, cmp_lt, cmp_ge, cmp_gt, cmp_le, lT0, lT1] at c_129 | simp only [Int32.le_iff_toInt_le, Int32.lt_iff_toInt_lt, ← Int32.toInt_inj, iT0, iT1, iT2, iT3, iT4, iT5, iT6, iT7, iT8, iT9, iT10, iT11, iT12, iT13, iT14, iT15, iT16, iT19, iT20, iT31, iT32, iT42, iT64, iT200, iT318, iT319, iT1000, iTm1, iTm2] at c_129
            have hsg := sg_T ((z4.natAbs : Int) % (z5.natAbs : Int))
            refine j_setI (ws' := [(q 0, .inr (10, mF t n q co cr po tx ty)), (q 10, aI G 320 (rg [z0, z1, z2, z3, z4, z5, (-((z4.natAbs : Int) / (z5.natAbs : Int))), z7, z8, z9, z10, z11, ((z4.natAbs : Int) % (z5.natAbs : Int)), z13, z14, z15])), (q 11, aZ G 16 (upd (upd (upd sf 6 0) 12 0) 6 (sf 4)))]) (g := rg [z0, z1, z2, z3, z4, z5, (-((z4.natAbs : Int) / (z5.natAbs : Int))), z7, z8, z9, z10, z11, ((z4.natAbs : Int) % (z5.natAbs : Int)), z13, z14, z15]) 1 rfl (rg_abs (rg_neg6 _ _ _ _ _ _ _ _ _ _ _ _ _ _ _ _)) rfl ?_
            have hq9 : 0 ≤ (z4.natAbs : Int) / (z5.natAbs : Int) := Int.ediv_nonneg (by omega) (Int.le_of_lt hB)
            have hS3 : okS [z0, z1, z2, z3, z4, z5, (-((z4.natAbs : Int) / (z5.natAbs : Int))), z7, z8, z9, z10, z11, ((z4.natAbs : Int) % (z5.natAbs : Int)), z13, z14, z15] (upd (upd (upd sf 6 0) 12 0) 6 (sf 4)) := okS_cong (okS_set (d := 12) rfl (by decide) (okS_set (d := 6) (b := sf 4) rfl (by decide) hS (Or.inr ⟨hs1.1, by omega⟩)) (b := 0) (Or.inl ⟨rfl, (d_rng _ hB).1⟩)) (upsw 6 _ _ _ _ (by decide))
            refine j_aload_n X dX11_divide_133 rfl 0 rfl ?_
            refine j_bipush (v := 15) X dX11_divide_134 (by decide) ?_
            refine j_lconst (v := 1) X dX11_divide_136 rfl ?_
            refine j_callV X dX11_divide_137 (h_load l G q t n co cr po tx ty ([z0, z1, z2, z3, z4, z5, (-((z4.natAbs : Int) / (z5.natAbs : Int))), z7, z8, z9, z10, z11, ((z4.natAbs : Int) % (z5.natAbs : Int)), z13, z14, z15]) (upd (upd (upd sf 6 0) 12 0) 6 (sf 4)) rfl hS3 15 15 rfl (by decide) 1 ) gX11_divide_X11_load rfl hy_X11_load_V ⟨Nat.le_of_ble_eq_true rfl, Nat.le_of_ble_eq_true rfl⟩ 0 rfl rfl [0, 1, 2] rfl (by decide) rfl rfl (Nat.le_of_ble_eq_true rfl) ⟨Nat.le_of_ble_eq_true rfl, Nat.le_of_ble_eq_true rfl⟩ ?_
            rintro _ sf_3 ⟨rfl, hS_sf_3⟩
            change J p l e rm_X11_divide s m args below meth c Q G A 6 0 0 140 [(0, .ref (q 0)), (1, .int 6), (2, .int 4), (3, .int 5), (4, .int k)] [] [(q 0, .inr (10, mF t n q co cr po tx ty)), (q 10, aI G 320 (rg [z0, z1, z2, z3, z4, z5, (-((z4.natAbs : Int) / (z5.natAbs : Int))), z7, z8, z9, z10, z11, ((z4.natAbs : Int) % (z5.natAbs : Int)), z13, z14, ((1 : Int64).toInt)])), (q 11, aZ G 16 sf_3)]
            rw [lT1] at hS_sf_3 ⊢
            refine j_aload_n X dX11_divide_140 rfl 0 rfl ?_
            refine j_bipush (v := 14) X dX11_divide_141 (by decide) ?_
            refine j_iload_n X dX11_divide_143 rfl 1 rfl ?_
            refine j_bipush (v := 15) X dX11_divide_144 (by decide) ?_
            refine j_iconst (v := 1) X dX11_divide_146 rfl ?_
            refine j_callV X dX11_divide_147 (h_join l G q t n co cr po tx ty ([z0, z1, z2, z3, z4, z5, (-((z4.natAbs : Int) / (z5.natAbs : Int))), z7, z8, z9, z10, z11, ((z4.natAbs : Int) % (z5.natAbs : Int)), z13, z14, 1]) sf_3 rfl hS_sf_3 14 14 rfl (by decide) 6 6 rfl (by decide) 15 15 rfl (by decide) 1 (Or.inr rfl) (by decide) (by decide) (show (-((z4.natAbs : Int) / (z5.natAbs : Int))).natAbs < 2135987035920910082395021706169552114602704522356652769947041607822219725780640550022962086936576 by have := Int.ediv_le_self (z5.natAbs : Int) (show (0:Int) ≤ (z4.natAbs : Int) by omega); have := Int.ediv_nonneg (show (0:Int) ≤ (z4.natAbs : Int) by omega) (Int.le_of_lt hB); omega) (show (1 : Int).natAbs < 2135987035920910082395021706169552114602704522356652769947041607822219725780640550022962086936576 by decide)) gX11_divide_X11_join rfl hy_X11_join_V ⟨Nat.le_of_ble_eq_true rfl, Nat.le_of_ble_eq_true rfl⟩ 0 rfl rfl [0, 1, 2] rfl (by decide) rfl rfl (Nat.le_of_ble_eq_true rfl) ⟨Nat.le_of_ble_eq_true rfl, Nat.le_of_ble_eq_true rfl⟩ ?_
            rintro _ sf_4 ⟨rfl, hS_sf_4⟩
            change J p l e rm_X11_divide s m args below meth c Q G A 6 0 0 150 [(0, .ref (q 0)), (1, .int 6), (2, .int 4), (3, .int 5), (4, .int k)] [] [(q 0, .inr (10, mF t n q co cr po tx ty)), (q 10, aI G 320 (rg [z0, z1, z2, z3, z4, z5, (-((z4.natAbs : Int) / (z5.natAbs : Int))), z7, z8, z9, z10, z11, ((z4.natAbs : Int) % (z5.natAbs : Int)), z13, ((-((z4.natAbs : Int) / (z5.natAbs : Int))) - 1), 1])), (q 11, aZ G 16 sf_4)]
            refine j_aload_n X dX11_divide_150 rfl 0 rfl ?_
            refine j_iload_n X dX11_divide_151 rfl 1 rfl ?_
            refine j_bipush (v := 14) X dX11_divide_152 (by decide) ?_
            refine j_callV X dX11_divide_154 (h_copy l G q t n co cr po tx ty ([z0, z1, z2, z3, z4, z5, (-((z4.natAbs : Int) / (z5.natAbs : Int))), z7, z8, z9, z10, z11, ((z4.natAbs : Int) % (z5.natAbs : Int)), z13, ((-((z4.natAbs : Int) / (z5.natAbs : Int))) - 1), 1]) sf_4 rfl hS_sf_4 6 6 rfl (by decide) 14 14 rfl (by decide) (by decide)) gX11_divide_X11_copy rfl hy_X11_copy_V ⟨Nat.le_of_ble_eq_true rfl, Nat.le_of_ble_eq_true rfl⟩ 0 rfl rfl [0, 1, 2] rfl (by decide) rfl rfl (Nat.le_of_ble_eq_true rfl) ⟨Nat.le_of_ble_eq_true rfl, Nat.le_of_ble_eq_true rfl⟩ ?_
            rintro _ sf_5 ⟨rfl, hS_sf_5⟩
            change J p l e rm_X11_divide s m args below meth c Q G A 6 0 0 157 [(0, .ref (q 0)), (1, .int 6), (2, .int 4), (3, .int 5), (4, .int k)] [] [(q 0, .inr (10, mF t n q co cr po tx ty)), (q 10, aI G 320 (rg [z0, z1, z2, z3, z4, z5, ((-((z4.natAbs : Int) / (z5.natAbs : Int))) - 1), z7, z8, z9, z10, z11, ((z4.natAbs : Int) % (z5.natAbs : Int)), z13, ((-((z4.natAbs : Int) / (z5.natAbs : Int))) - 1), 1])), (q 11, aZ G 16 sf_5)]
            refine j_eq (ws' := [(q 0, .inr (10, mF t n q co cr po tx ty)), (q 10, aI G 320 (rg [z0, z1, z2, z3, z4, z5, (z4 / (z5.natAbs : Int)), z7, z8, z9, z10, z11, ((z4.natAbs : Int) % (z5.natAbs : Int)), z13, (-((z4.natAbs : Int) / (z5.natAbs : Int)) - 1), 1])), (q 11, aZ G 16 sf_5)]) (by rw [dv_neg1 hB hs1.2 (by omega)]) rfl ?_
            have hS9 := hS_sf_5
            have hS8 : okS [z0, z1, z2, z3, z4, z5, (z4 / (z5.natAbs : Int)), z7, z8, z9, z10, z11, ((z4.natAbs : Int) % (z5.natAbs : Int)), z13, (-((z4.natAbs : Int) / (z5.natAbs : Int)) - 1), 1] sf_5 := by rw [dv_neg1 hB hs1.2 (by omega)]; exact hS9
            exact E.1 157 _ (-((z4.natAbs : Int) / (z5.natAbs : Int)) - 1, 1, _) dX11_divide_157 (⟨rfl, hS8⟩) hr
          · skip
            first | simp only [cmp_eq, cmp_lt, cmp_ge, cmp_gt, cmp_le, lT0, lT1] at c_129 | simp only [Int32.le_iff_toInt_le, Int32.lt_iff_toInt_lt, ← Int32.toInt_inj, iT0, iT1, iT2, iT3, iT4, iT5, iT6, iT7, iT8, iT9, iT10, iT11, iT12, iT13, iT14, iT15, iT16, iT19, iT20, iT31, iT32, iT42, iT64, iT200, iT318, iT319, iT1000, iTm1, iTm2] at c_129
            have hsg := sg_T ((z4.natAbs : Int) % (z5.natAbs : Int))
            refine j_setI (ws' := [(q 0, .inr (10, mF t n q co cr po tx ty)), (q 10, aI G 320 (rg [z0, z1, z2, z3, z4, z5, (-((z4.natAbs : Int) / (z5.natAbs : Int))), z7, z8, z9, z10, z11, ((z4.natAbs : Int) % (z5.natAbs : Int)), z13, z14, z15])), (q 11, aZ G 16 (upd (upd (upd sf 6 0) 12 0) 6 (sf 4)))]) (g := rg [z0, z1, z2, z3, z4, z5, (-((z4.natAbs : Int) / (z5.natAbs : Int))), z7, z8, z9, z10, z11, ((z4.natAbs : Int) % (z5.natAbs : Int)), z13, z14, z15]) 1 rfl (rg_abs (rg_neg6 _ _ _ _ _ _ _ _ _ _ _ _ _ _ _ _)) rfl ?_
            refine j_eq (ws' := [(q 0, .inr (10, mF t n q co cr po tx ty)), (q 10, aI G 320 (rg [z0, z1, z2, z3, z4, z5, (z4 / (z5.natAbs : Int)), z7, z8, z9, z10, z11, ((z4.natAbs : Int) % (z5.natAbs : Int)), z13, z14, z15])), (q 11, aZ G 16 (upd (upd (upd sf 6 0) 12 0) 6 (sf 4)))]) (by rw [dv_neg0 hB hs1.2 (by omega)]) rfl ?_
            have hq9 : z4 / (z5.natAbs : Int) ≤ 0 := by rw [dv_neg0 hB hs1.2 (by omega)]; have := Int.ediv_nonneg (show (0 : Int) ≤ (z4.natAbs : Int) by omega) (Int.le_of_lt hB); omega
            exact E.1 132 _ (z14, z15, _) dX11_divide_132 ⟨rfl, okS_cong (okS_set (d := 12) rfl (by decide) (okS_set (d := 6) (b := sf 4) rfl (by decide) hS (Or.inr ⟨hs1.1, hq9⟩)) (b := 0) (Or.inl ⟨rfl, (d_rng _ hB).1⟩)) (upsw 6 _ _ _ _ (by decide))⟩ hr
      · skip
        first | simp only [cmp_eq, cmp_lt, cmp_ge, cmp_gt, cmp_le, lT0, lT1] at c_20 | simp only [Int32.le_iff_toInt_le, Int32.lt_iff_toInt_lt, ← Int32.toInt_inj, iT0, iT1, iT2, iT3, iT4, iT5, iT6, iT7, iT8, iT9, iT10, iT11, iT12, iT13, iT14, iT15, iT16, iT19, iT20, iT31, iT32, iT42, iT64, iT200, iT318, iT319, iT1000, iTm1, iTm2] at c_20
        obtain ⟨kk, rfl⟩ : ∃ k1, kk = k1 + 1 := ⟨kk - 1, by omega⟩
        refine j_aload_n X dX11_divide_23 rfl 0 rfl ?_
        refine j_bipush (v := 12) X dX11_divide_24 (by decide) ?_
        refine j_aload_n X dX11_divide_26 rfl 0 rfl ?_
        refine j_get (v := .ref (q 10)) X dX11_divide_27 0 rfl 12 rfl in_X11_divide_X11 (by decide) fl_X11_divide_39 rfl ?_
        refine j_bipush (v := 20) X dX11_divide_30 (by decide) ?_
        refine j_iload_n X dX11_divide_32 rfl 2 rfl ?_
        refine j_imul X dX11_divide_33 ?_
        rw [show (20 : Int32) * 4 = 80 from by decide]
        refine j_iload X dX11_divide_34 4 rfl ?_
        refine j_bipush (v := 16) X dX11_divide_36 (by decide) ?_
        refine j_idiv X dX11_divide_38 (by decide) ?_
        refine j_iadd X dX11_divide_39 ?_
        refine j_iald X dX11_divide_40 1 rfl (20 * 4 + kk / 16) (i_nI (ix20d (r := 4) rfl (by omega) (by decide) (by omega)) (by omega)) (by omega) (by decide) ?_
        refine j_iload X dX11_divide_41 4 rfl ?_
        refine j_bipush (v := 16) X dX11_divide_43 (by decide) ?_
        refine j_irem X dX11_divide_45 (by decide) ?_
        refine j_ishr X dX11_divide_46 ?_
        refine j_iconst (v := 1) X dX11_divide_47 rfl ?_
        refine j_iand X dX11_divide_48 ?_
        refine j_topi (fun x_6 ex_6 => ?_)
        have hbit : x_6.toInt = (z4.natAbs : Int) / 2 ^ kk % 2 := bt_at (rg_at _ (by omega)) (i_rm (x := k) (by omega) (by omega) (by decide) (by decide) rfl) ex_6
        have hbit2 : x_6.toInt = 0 ∨ x_6.toInt = 1 := by omega
        have hM : 2 * ((z4.natAbs : Int) / 2 ^ (kk + 1)) + x_6.toInt = (z4.natAbs : Int) / 2 ^ kk := by rw [hbit]; exact dv_bit.symm
        have hr0 := d_rng ((z4.natAbs : Int) / 2 ^ (kk + 1)) hB
        have hq0 : 0 ≤ (z4.natAbs : Int) / 2 ^ (kk + 1) / (z5.natAbs : Int) := Int.ediv_nonneg (Int.ediv_nonneg (by omega) (Int.le_of_lt (Int.pow_pos (by decide)))) (by omega)
        refine j_callV X dX11_divide_49 (c_X11_doubled l G q t n co cr po tx ty [z0, z1, z2, z3, z4, z5, ((z4.natAbs : Int) / 2 ^ (kk + 1) / (z5.natAbs : Int)), z7, z8, z9, z10, z11, ((z4.natAbs : Int) / 2 ^ (kk + 1) % (z5.natAbs : Int)), z13, z14, z15] rfl (upd (upd sf 6 0) 12 0) 12 12 rfl (by decide) x_6 hbit2 hr0.1) gX11_divide_X11_doubled rfl hy_X11_doubled_V ⟨Nat.le_of_ble_eq_true rfl, Nat.le_of_ble_eq_true rfl⟩ 0 rfl rfl [0, 1, 2] rfl (by decide) rfl rfl (Nat.le_of_ble_eq_true rfl) ⟨Nat.le_of_ble_eq_true rfl, Nat.le_of_ble_eq_true rfl⟩ ?_
        rintro _ ⟨⟩ rfl
        change J p l e rm_X11_divide s m args below meth c Q G A 6 0 0 52 [(0, .ref (q 0)), (1, .int 6), (2, .int 4), (3, .int 5), (4, .int k)] [] [(q 0, .inr (10, mF t n q co cr po tx ty)), (q 10, aI G 320 (rg [z0, z1, z2, z3, z4, z5, ((z4.natAbs : Int) / 2 ^ (kk + 1) / (z5.natAbs : Int)), z7, z8, z9, z10, z11, (2 * ((z4.natAbs : Int) / 2 ^ (kk + 1) % (z5.natAbs : Int)) + x_6.toInt), z13, z14, z15])), (q 11, aZ G 16 (upd (upd sf 6 0) 12 0))]
        refine j_aload_n X dX11_divide_52 rfl 0 rfl ?_
        refine j_bipush (v := 12) X dX11_divide_53 (by decide) ?_
        refine j_iload_n X dX11_divide_55 rfl 3 rfl ?_
        refine j_callV X dX11_divide_56 (c_X11_sizes l G q t n co cr po tx ty [z0, z1, z2, z3, z4, z5, ((z4.natAbs : Int) / 2 ^ (kk + 1) / (z5.natAbs : Int)), z7, z8, z9, z10, z11, (2 * ((z4.natAbs : Int) / 2 ^ (kk + 1) % (z5.natAbs : Int)) + x_6.toInt), z13, z14, z15] rfl (upd (upd sf 6 0) 12 0) 12 12 rfl (by decide) 5 5 rfl (by decide) (show (2 * ((z4.natAbs : Int) / 2 ^ (kk + 1) % (z5.natAbs : Int)) + x_6.toInt).natAbs < 2135987035920910082395021706169552114602704522356652769947041607822219725780640550022962086936576 by omega) (show z5.natAbs < 2135987035920910082395021706169552114602704522356652769947041607822219725780640550022962086936576 by omega)) gX11_divide_X11_sizes rfl hy_X11_sizes_V ⟨Nat.le_of_ble_eq_true rfl, Nat.le_of_ble_eq_true rfl⟩ 0 rfl rfl [0, 1, 2] rfl (by decide) rfl rfl (Nat.le_of_ble_eq_true rfl) ⟨Nat.le_of_ble_eq_true rfl, Nat.le_of_ble_eq_true rfl⟩ ?_
        rintro _ ⟨⟩ rfl
        change J p l e rm_X11_divide s m args below meth c Q G A 6 0 0 59 [(0, .ref (q 0)), (1, .int 6), (2, .int 4), (3, .int 5), (4, .int k)] [.int (sg (((2 * ((z4.natAbs : Int) / 2 ^ (kk + 1) % (z5.natAbs : Int)) + x_6.toInt).natAbs : Int) - (z5.natAbs : Int)))] [(q 0, .inr (10, mF t n q co cr po tx ty)), (q 10, aI G 320 (rg [z0, z1, z2, z3, z4, z5, ((z4.natAbs : Int) / 2 ^ (kk + 1) / (z5.natAbs : Int)), z7, z8, z9, z10, z11, (2 * ((z4.natAbs : Int) / 2 ^ (kk + 1) % (z5.natAbs : Int)) + x_6.toInt), z13, z14, z15])), (q 11, aZ G 16 (upd (upd sf 6 0) 12 0))]
        refine j_if_lt (tgt := 66) X dX11_divide_59 (by decide) (fun c_59 => ?_) (fun c_59 => ?_)
        · skip
          have hsg := sg_T (((2 * ((z4.natAbs : Int) / 2 ^ (kk + 1) % (z5.natAbs : Int)) + x_6.toInt).natAbs : Int) - (z5.natAbs : Int))
          first | simp only [cmp_eq, cmp_lt, cmp_ge, cmp_gt, cmp_le, lT0, lT1] at c_59 | simp only [Int32.le_iff_toInt_le, Int32.lt_iff_toInt_lt, ← Int32.toInt_inj, iT0, iT1, iT2, iT3, iT4, iT5, iT6, iT7, iT8, iT9, iT10, iT11, iT12, iT13, iT14, iT15, iT16, iT19, iT20, iT31, iT32, iT42, iT64, iT200, iT318, iT319, iT1000, iTm1, iTm2] at c_59
          have hq := dv_no (M := (z4.natAbs : Int) / 2 ^ (kk + 1)) hB hbit2 (by omega)
          rw [hM] at hq
          refine j_iconst (v := 0) X dX11_divide_66 rfl ?_
          refine j_istore (L' := [(5, .int 0), (0, .ref (q 0)), (1, .int 6), (2, .int 4), (3, .int 5), (4, .int k)]) X dX11_divide_67 (by decide) rfl ?_
          refine j_iload X dX11_divide_69 0 rfl ?_
          refine j_if_eq (tgt := 81) X dX11_divide_71 (by decide) (fun _ => ?_) (fun c9 => absurd c9 (by decide))
          refine j_aload_n X dX11_divide_81 rfl 1 rfl ?_
          refine j_iload_n X dX11_divide_82 rfl 2 rfl ?_
          refine j_iload X dX11_divide_83 0 rfl ?_
          refine j_if_eq (tgt := 92) X dX11_divide_85 (by decide) (fun _ => ?_) (fun c9 => absurd c9 (by decide))
          refine j_iconst (v := 0) X dX11_divide_92 rfl ?_
          refine j_callV X dX11_divide_93 (c_X11_doubled l G q t n co cr po tx ty [z0, z1, z2, z3, z4, z5, ((z4.natAbs : Int) / 2 ^ (kk + 1) / (z5.natAbs : Int)), z7, z8, z9, z10, z11, (2 * ((z4.natAbs : Int) / 2 ^ (kk + 1) % (z5.natAbs : Int)) + x_6.toInt), z13, z14, z15] rfl (upd (upd sf 6 0) 12 0) 6 6 rfl (by decide) 0 (by decide) hq0) gX11_divide_X11_doubled rfl hy_X11_doubled_V ⟨Nat.le_of_ble_eq_true rfl, Nat.le_of_ble_eq_true rfl⟩ 0 rfl rfl [0, 1, 2] rfl (by decide) rfl rfl (Nat.le_of_ble_eq_true rfl) ⟨Nat.le_of_ble_eq_true rfl, Nat.le_of_ble_eq_true rfl⟩ ?_
          rintro _ ⟨⟩ rfl
          change J p l e rm_X11_divide s m args below meth c Q G A 6 0 0 96 [(5, .int 0), (0, .ref (q 0)), (1, .int 6), (2, .int 4), (3, .int 5), (4, .int k)] [] [(q 0, .inr (10, mF t n q co cr po tx ty)), (q 10, aI G 320 (rg [z0, z1, z2, z3, z4, z5, (2 * ((z4.natAbs : Int) / 2 ^ (kk + 1) / (z5.natAbs : Int)) + (0 : Int32).toInt), z7, z8, z9, z10, z11, (2 * ((z4.natAbs : Int) / 2 ^ (kk + 1) % (z5.natAbs : Int)) + x_6.toInt), z13, z14, z15])), (q 11, aZ G 16 (upd (upd sf 6 0) 12 0))]
          rw [iT0]
          obtain ⟨x_7, ex_7⟩ : ∃ y9 : Int32, y9 = k + (-1) := ⟨_, rfl⟩
          refine j_iinc (v := x_7) (L' := [(4, .int x_7), (5, .int 0), (0, .ref (q 0)), (1, .int 6), (2, .int 4), (3, .int 5)]) X dX11_divide_96 5 rfl (by rw [ex_7]; rfl) (by decide) rfl ?_
          refine j_goto (tgt := 18) X dX11_divide_99 (by decide) ?_
          refine j_sub [2, 3, 4, 5, 0] rfl ?_
          refine j_eq (ws' := [(q 0, .inr (10, mF t n q co cr po tx ty)), (q 10, aI G 320 (rg [z0, z1, z2, z3, z4, z5, ((z4.natAbs : Int) / 2 ^ kk / (z5.natAbs : Int)), z7, z8, z9, z10, z11, ((z4.natAbs : Int) / 2 ^ kk % (z5.natAbs : Int)), z13, z14, z15])), (q 11, aZ G 16 (upd (upd sf 6 0) 12 0))]) (by rw [hq.1, hq.2]; try rw [Int.add_zero]) rfl ?_
          exact ih kk x_7 (by omega) (by rw [x_dec hk2 (by omega) ex_7]; omega) (by omega)
        · skip
          have hsg := sg_T (((2 * ((z4.natAbs : Int) / 2 ^ (kk + 1) % (z5.natAbs : Int)) + x_6.toInt).natAbs : Int) - (z5.natAbs : Int))
          first | simp only [cmp_eq, cmp_lt, cmp_ge, cmp_gt, cmp_le, lT0, lT1] at c_59 | simp only [Int32.le_iff_toInt_le, Int32.lt_iff_toInt_lt, ← Int32.toInt_inj, iT0, iT1, iT2, iT3, iT4, iT5, iT6, iT7, iT8, iT9, iT10, iT11, iT12, iT13, iT14, iT15, iT16, iT19, iT20, iT31, iT32, iT42, iT64, iT200, iT318, iT319, iT1000, iTm1, iTm2] at c_59
          have hq := dv_go (M := (z4.natAbs : Int) / 2 ^ (kk + 1)) hB hbit2 (by omega)
          rw [hM] at hq
          refine j_iconst (v := 1) X dX11_divide_62 rfl ?_
          refine j_goto (tgt := 67) X dX11_divide_63 (by decide) ?_
          refine j_istore (L' := [(5, .int 1), (0, .ref (q 0)), (1, .int 6), (2, .int 4), (3, .int 5), (4, .int k)]) X dX11_divide_67 (by decide) rfl ?_
          refine j_iload X dX11_divide_69 0 rfl ?_
          refine j_if_eq (tgt := 81) X dX11_divide_71 (by decide) (fun c9 => absurd c9 (by decide)) (fun _ => ?_)
          refine j_aload_n X dX11_divide_74 rfl 1 rfl ?_
          refine j_bipush (v := 12) X dX11_divide_75 (by decide) ?_
          refine j_iload_n X dX11_divide_77 rfl 4 rfl ?_
          refine j_callV X dX11_divide_78 (c_X11_takeAway l G q t n co cr po tx ty [z0, z1, z2, z3, z4, z5, ((z4.natAbs : Int) / 2 ^ (kk + 1) / (z5.natAbs : Int)), z7, z8, z9, z10, z11, (2 * ((z4.natAbs : Int) / 2 ^ (kk + 1) % (z5.natAbs : Int)) + x_6.toInt), z13, z14, z15] rfl (upd (upd sf 6 0) 12 0) 12 12 rfl (by decide) 5 5 rfl (by decide) (by decide) (show (z5.natAbs : Int) ≤ 2 * ((z4.natAbs : Int) / 2 ^ (kk + 1) % (z5.natAbs : Int)) + x_6.toInt by omega)) gX11_divide_X11_takeAway rfl hy_X11_takeAway_V ⟨Nat.le_of_ble_eq_true rfl, Nat.le_of_ble_eq_true rfl⟩ 0 rfl rfl [0, 1, 2] rfl (by decide) rfl rfl (Nat.le_of_ble_eq_true rfl) ⟨Nat.le_of_ble_eq_true rfl, Nat.le_of_ble_eq_true rfl⟩ ?_
          rintro _ ⟨⟩ rfl
          change J p l e rm_X11_divide s m args below meth c Q G A 6 0 0 81 [(5, .int 1), (0, .ref (q 0)), (1, .int 6), (2, .int 4), (3, .int 5), (4, .int k)] [] [(q 0, .inr (10, mF t n q co cr po tx ty)), (q 10, aI G 320 (rg [z0, z1, z2, z3, z4, z5, ((z4.natAbs : Int) / 2 ^ (kk + 1) / (z5.natAbs : Int)), z7, z8, z9, z10, z11, ((2 * ((z4.natAbs : Int) / 2 ^ (kk + 1) % (z5.natAbs : Int)) + x_6.toInt) - (z5.natAbs : Int)), z13, z14, z15])), (q 11, aZ G 16 (upd (upd sf 6 0) 12 0))]
          refine j_aload_n X dX11_divide_81 rfl 1 rfl ?_
          refine j_iload_n X dX11_divide_82 rfl 2 rfl ?_
          refine j_iload X dX11_divide_83 0 rfl ?_
          refine j_if_eq (tgt := 92) X dX11_divide_85 (by decide) (fun c9 => absurd c9 (by decide)) (fun _ => ?_)
          refine j_iconst (v := 1) X dX11_divide_88 rfl ?_
          refine j_goto (tgt := 93) X dX11_divide_89 (by decide) ?_
          refine j_callV X dX11_divide_93 (c_X11_doubled l G q t n co cr po tx ty [z0, z1, z2, z3, z4, z5, ((z4.natAbs : Int) / 2 ^ (kk + 1) / (z5.natAbs : Int)), z7, z8, z9, z10, z11, ((2 * ((z4.natAbs : Int) / 2 ^ (kk + 1) % (z5.natAbs : Int)) + x_6.toInt) - (z5.natAbs : Int)), z13, z14, z15] rfl (upd (upd sf 6 0) 12 0) 6 6 rfl (by decide) 1 (by decide) hq0) gX11_divide_X11_doubled rfl hy_X11_doubled_V ⟨Nat.le_of_ble_eq_true rfl, Nat.le_of_ble_eq_true rfl⟩ 0 rfl rfl [0, 1, 2] rfl (by decide) rfl rfl (Nat.le_of_ble_eq_true rfl) ⟨Nat.le_of_ble_eq_true rfl, Nat.le_of_ble_eq_true rfl⟩ ?_
          rintro _ ⟨⟩ rfl
          change J p l e rm_X11_divide s m args below meth c Q G A 6 0 0 96 [(5, .int 1), (0, .ref (q 0)), (1, .int 6), (2, .int 4), (3, .int 5), (4, .int k)] [] [(q 0, .inr (10, mF t n q co cr po tx ty)), (q 10, aI G 320 (rg [z0, z1, z2, z3, z4, z5, (2 * ((z4.natAbs : Int) / 2 ^ (kk + 1) / (z5.natAbs : Int)) + (1 : Int32).toInt), z7, z8, z9, z10, z11, ((2 * ((z4.natAbs : Int) / 2 ^ (kk + 1) % (z5.natAbs : Int)) + x_6.toInt) - (z5.natAbs : Int)), z13, z14, z15])), (q 11, aZ G 16 (upd (upd sf 6 0) 12 0))]
          rw [iT1]
          obtain ⟨x_8, ex_8⟩ : ∃ y9 : Int32, y9 = k + (-1) := ⟨_, rfl⟩
          refine j_iinc (v := x_8) (L' := [(4, .int x_8), (5, .int 1), (0, .ref (q 0)), (1, .int 6), (2, .int 4), (3, .int 5)]) X dX11_divide_96 5 rfl (by rw [ex_8]; rfl) (by decide) rfl ?_
          refine j_goto (tgt := 18) X dX11_divide_99 (by decide) ?_
          refine j_sub [2, 3, 4, 5, 0] rfl ?_
          refine j_eq (ws' := [(q 0, .inr (10, mF t n q co cr po tx ty)), (q 10, aI G 320 (rg [z0, z1, z2, z3, z4, z5, ((z4.natAbs : Int) / 2 ^ kk / (z5.natAbs : Int)), z7, z8, z9, z10, z11, ((z4.natAbs : Int) / 2 ^ kk % (z5.natAbs : Int)), z13, z14, z15])), (q 11, aZ G 16 (upd (upd sf 6 0) 12 0))]) (by rw [hq.1, hq.2]; try rw [Int.add_zero]) rfl ?_
          exact ih kk x_8 (by omega) (by rw [x_dec hk2 (by omega) ex_8]; omega) (by omega)
  refine j_sub [1, 2, 3, 4, 0] rfl ?_
  obtain ⟨K, hK⟩ : ∃ K : Nat, K = 320 := ⟨_, rfl⟩
  refine j_eq (ws' := [(q 0, .inr (10, mF t n q co cr po tx ty)), (q 10, aI G 320 (rg [z0, z1, z2, z3, z4, z5, ((z4.natAbs : Int) / 2 ^ K / (z5.natAbs : Int)), z7, z8, z9, z10, z11, ((z4.natAbs : Int) / 2 ^ K % (z5.natAbs : Int)), z13, z14, z15])), (q 11, aZ G 16 (upd (upd sf 6 0) 12 0))]) (by rw [show (z4.natAbs : Int) / 2 ^ K = 0 from Int.ediv_eq_zero_of_lt (by omega) (by rw [hK, p320]; omega), Int.zero_ediv, Int.zero_emod]) rfl ?_
  exact loop 321 K 319 (by omega) (by rw [hK]; rfl) (by omega)

theorem hy_X11_divide_V : yX11_divide.cls = RX11 ∧ yX11_divide.cls ≠ "java/lang/invoke/MethodHandle" ∧ yX11_divide.cls ≠ "java/lang/invoke/VarHandle" ∧ (parseMethodDescriptor yX11_divide.desc).map (fun d => d.parameters.length) = some 3 := by decide +kernel
