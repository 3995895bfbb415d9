set_option maxHeartbeats 4000000 in
set_option maxRecDepth 100000 in
theorem c_X11_rootOf_8_7 (l : Launch) (G : jG) (q : Nat → Nat) (t n co cr po : Int32) (tx ty : Int64) (z0 z1 z2 z3 z4 z5 z6 z7 z8 z9 z10 z11 z12 z13 z14 z15 : Int) (sf : Nat → Int32) (hS : okS [z0, z1, z2, z3, z4, z5, z6, z7, z8, z9, z10, z11, z12, z13, z14, z15] sf) (hN : (z7.natAbs : Int) < 1067993517960455041197510853084776057301352261178326384973520803911109862890320275011481043468288) : Ct l yX11_rootOf wsX11_rootOf rm_X11_rootOf G [.ref (q 0), .int 8, .int 7] [(q 0, .inr (10, mF t n q co cr po tx ty)), (q 10, aI G 320 (rg [z0, z1, z2, z3, z4, z5, z6, z7, z8, z9, z10, z11, z12, z13, z14, z15])), (q 11, aZ G 16 sf)] (S := Int × Int × (Nat → Int32)) (fun r u => r = some (.int (if u.1 * u.1 = (z7.natAbs : Int) then 1 else 0)) ∧ 0 ≤ u.1 ∧ u.1 * u.1 ≤ (z7.natAbs : Int) ∧ (z7.natAbs : Int) < (u.1 + 1) * (u.1 + 1) ∧ okS [z0, z1, z2, z3, z4, z5, z6, z7, u.1, z9, z10, z11, ((z7.natAbs : Int) - u.1 * u.1), z13, u.2.1, z15] u.2.2) (fun u => [(q 0, .inr (10, mF t n q co cr po tx ty)), (q 10, aI G 320 (rg [z0, z1, z2, z3, z4, z5, z6, z7, u.1, z9, z10, z11, ((z7.natAbs : Int) - u.1 * u.1), z13, u.2.1, z15])), (q 11, aZ G 16 u.2.2)]) (fun _ => []) := by
  refine c_intro (cc := cX11_rootOf) (maxL := 5) (ret := (some .boolean)) (by decide) rfl (Nat.le_of_ble_eq_true rfl) (fun _ => by simp only [List.map_cons, List.map_nil]) ?_
  intro p e s m args below meth c Q A X hr hin E
  change J p l e rm_X11_rootOf s m args below meth c Q G A 5 0 0 0 [(0, .ref (q 0)), (1, .int 8), (2, .int 7)] [] [(q 0, .inr (10, mF t n q co cr po tx ty)), (q 10, aI G 320 (rg [z0, z1, z2, z3, z4, z5, z6, z7, z8, z9, z10, z11, z12, z13, z14, z15])), (q 11, aZ G 16 sf)]
  refine j_aload_n X dX11_rootOf_0 rfl 0 rfl ?_
  refine j_iload_n X dX11_rootOf_1 rfl 1 rfl ?_
  refine j_lconst (v := 0) X dX11_rootOf_2 rfl ?_
  refine j_callV X dX11_rootOf_3 (c_X11_load l G q t n co cr po tx ty [z0, z1, z2, z3, z4, z5, z6, z7, z8, z9, z10, z11, z12, z13, z14, z15] rfl sf 8 8 rfl (by decide) 0 ) gX11_rootOf_X11_load rfl hy_X11_load_V ⟨Nat.le_of_ble_eq_true rfl, Nat.le_of_ble_eq_true rfl⟩ 0 rfl rfl [0, 1, 2] rfl (by decide) rfl rfl (Nat.le_of_ble_eq_true rfl) ⟨Nat.le_of_ble_eq_true rfl, Nat.le_of_ble_eq_true rfl⟩ ?_
  rintro _ b_1 ⟨rfl, hb_1⟩
  obtain rfl : b_1 = 0 := ld0 (by decide) hb_1
  change J p l e rm_X11_rootOf s m args below meth c Q G A 5 0 0 6 [(0, .ref (q 0)), (1, .int 8), (2, .int 7)] [] [(q 0, .inr (10, mF t n q co cr po tx ty)), (q 10, aI G 320 (rg [z0, z1, z2, z3, z4, z5, z6, z7, ((0 : Int64).toInt), z9, z10, z11, z12, z13, z14, z15])), (q 11, aZ G 16 (upd sf 8 0))]
  rw [lT0]
  refine j_aload_n X dX11_rootOf_6 rfl 0 rfl ?_
  refine j_bipush (v := 12) X dX11_rootOf_7 (by decide) ?_
  refine j_lconst (v := 0) X dX11_rootOf_9 rfl ?_
  refine j_callV X dX11_rootOf_10 (c_X11_load l G q t n co cr po tx ty [z0, z1, z2, z3, z4, z5, z6, z7, 0, z9, z10, z11, z12, z13, z14, z15] rfl (upd sf 8 0) 12 12 rfl (by decide) 0 ) gX11_rootOf_X11_load rfl hy_X11_load_V ⟨Nat.le_of_ble_eq_true rfl, Nat.le_of_ble_eq_true rfl⟩ 0 rfl rfl [0, 1, 2] rfl (by decide) rfl rfl (Nat.le_of_ble_eq_true rfl) ⟨Nat.le_of_ble_eq_true rfl, Nat.le_of_ble_eq_true rfl⟩ ?_
  rintro _ b_2 ⟨rfl, hb_2⟩
  obtain rfl : b_2 = 0 := ld0 (by decide) hb_2
  change J p l e rm_X11_rootOf s m args below meth c Q G A 5 0 0 13 [(0, .ref (q 0)), (1, .int 8), (2, .int 7)] [] [(q 0, .inr (10, mF t n q co cr po tx ty)), (q 10, aI G 320 (rg [z0, z1, z2, z3, z4, z5, z6, z7, 0, z9, z10, z11, ((0 : Int64).toInt), z13, z14, z15])), (q 11, aZ G 16 (upd (upd sf 8 0) 12 0))]
  rw [lT0]
  refine j_sipush (v := 318) X dX11_rootOf_13 (by decide) ?_
  refine j_istore_n (L' := [(3, .int 318), (0, .ref (q 0)), (1, .int 8), (2, .int 7)]) X dX11_rootOf_16 rfl (by decide) rfl ?_
  have loop : ∀ (d : Nat) (j : Nat) (k : Int32) (h x14 : Int) (s2 : Nat → Int32) (hj : j ≤ 160) (hk2 : k.toInt = 2 * (j : Int) - 2) (h0 : 0 ≤ h) (h1 : h * h ≤ (z7.natAbs : Int) / 2 ^ (2 * j)) (h2 : (z7.natAbs : Int) / 2 ^ (2 * j) < (h + 1) * (h + 1)) (hs12 : s2 12 = 0) (hsd : s2 8 = 0) (hso : ∀ r, r ≠ 12 → r ≠ 8 → r ≠ 14 → s2 r = sf r) (hs14 : (s2 14 = 0 ∧ 0 ≤ x14) ∨ (s2 14 = 1 ∧ x14 ≤ 0)), j < d → J p l e rm_X11_rootOf s m args below meth c Q G A 5 0 0 17 [(0, .ref (q 0)), (1, .int 8), (2, .int 7), (3, .int k)] [] [(q 0, .inr (10, mF t n q co cr po tx ty)), (q 10, aI G 320 (rg [z0, z1, z2, z3, z4, z5, z6, z7, h, z9, z10, z11, ((z7.natAbs : Int) / 2 ^ (2 * j) - h * h), z13, x14, z15])), (q 11, aZ G 16 s2)] := by
    intro d
    induction d with
    | zero => intro j k h x14 s2 hj hk2 h0 h1 h2 hs12 hsd hso hs14 hd0; exact absurd hd0 (Nat.not_lt_zero _)
    | succ d ih =>
      intro j k h x14 s2 hj hk2 h0 h1 h2 hs12 hsd hso hs14 hd0
      refine j_iload_n X dX11_rootOf_17 rfl 3 rfl ?_
      refine j_if_lt (tgt := 150) X dX11_rootOf_18 (by decide) (fun c_18 => ?_) (fun c_18 => ?_)
      · skip
        first | simp only [cmp_eq, cmp_lt, cmp_ge, cmp_gt, cmp_le, lT0, lT1] at c_18 | simp only [Int32.le_iff_toInt_le, Int32.lt_iff_toInt_lt, ← Int32.toInt_inj, iT0, iT1, iT2, iT3, iT4, iT5, iT6, iT7, iT8, iT9, iT10, iT11, iT12, iT13, iT14, iT15, iT16, iT19, iT20, iT31, iT32, iT42, iT64, iT200, iT318, iT319, iT1000, iTm1, iTm2] at c_18
        have hj0 : j = 0 := by omega
        subst hj0
        refine j_eq (ws' := [(q 0, .inr (10, mF t n q co cr po tx ty)), (q 10, aI G 320 (rg [z0, z1, z2, z3, z4, z5, z6, z7, h, z9, z10, z11, ((z7.natAbs : Int) - h * h), z13, x14, z15])), (q 11, aZ G 16 s2)]) (by rw [show (2 * 0 : Nat) = 0 from rfl, Int.pow_zero, Int.ediv_one]) rfl ?_
        rw [show (2 * 0 : Nat) = 0 from rfl, Int.pow_zero, Int.ediv_one] at h1 h2
        have hhh := sq_ge h0
        refine j_aload_n X dX11_rootOf_150 rfl 0 rfl ?_
        refine j_bipush (v := 12) X dX11_rootOf_151 (by decide) ?_
        refine j_callV X dX11_rootOf_153 (c_X11_sign l G q t n co cr po tx ty [z0, z1, z2, z3, z4, z5, z6, z7, h, z9, z10, z11, ((z7.natAbs : Int) - h * h), z13, x14, z15] rfl s2 12 12 rfl (by decide) (Or.inl ⟨hs12, show 0 ≤ (z7.natAbs : Int) - h * h by omega⟩) (show ((z7.natAbs : Int) - h * h).natAbs < 2135987035920910082395021706169552114602704522356652769947041607822219725780640550022962086936576 by omega)) gX11_rootOf_X11_sign rfl hy_X11_sign_V ⟨Nat.le_of_ble_eq_true rfl, Nat.le_of_ble_eq_true rfl⟩ 0 rfl rfl [0, 1, 2] rfl (by decide) rfl rfl (Nat.le_of_ble_eq_true rfl) ⟨Nat.le_of_ble_eq_true rfl, Nat.le_of_ble_eq_true rfl⟩ ?_
        rintro _ ⟨⟩ rfl
        change J p l e rm_X11_rootOf s m args below meth c Q G A 5 0 0 156 [(0, .ref (q 0)), (1, .int 8), (2, .int 7), (3, .int k)] [.int (sg ((z7.natAbs : Int) - h * h))] [(q 0, .inr (10, mF t n q co cr po tx ty)), (q 10, aI G 320 (rg [z0, z1, z2, z3, z4, z5, z6, z7, h, z9, z10, z11, ((z7.natAbs : Int) - h * h), z13, x14, z15])), (q 11, aZ G 16 s2)]
        refine j_if_ne (tgt := 163) X dX11_rootOf_156 (by decide) (fun c_156 => ?_) (fun c_156 => ?_)
        · skip
          first | simp only [cmp_eq, cmp_lt, cmp_ge, cmp_gt, cmp_le, lT0, lT1] at c_156 | simp only [Int32.le_iff_toInt_le, Int32.lt_iff_toInt_lt, ← Int32.toInt_inj, iT0, iT1, iT2, iT3, iT4, iT5, iT6, iT7, iT8, iT9, iT10, iT11, iT12, iT13, iT14, iT15, iT16, iT19, iT20, iT31, iT32, iT42, iT64, iT200, iT318, iT319, iT1000, iTm1, iTm2] at c_156
          have hsg := sg_T ((z7.natAbs : Int) - h * h)
          refine j_iconst (v := 0) X dX11_rootOf_163 rfl ?_
          exact E.2.1 164 _ 0 (h, x14, s2) _ dX11_rootOf_164 (⟨by dsimp only; rw [if_neg (by omega)], h0, h1, h2, okS_rt (d := 8) rfl (by decide) hS (Or.inl ⟨hsd, h0⟩) (Or.inl ⟨hs12, show 0 ≤ (z7.natAbs : Int) - h * h by omega⟩) hs14 hso (by decide) (by decide)⟩) hr rfl
        · skip
          first | simp only [cmp_eq, cmp_lt, cmp_ge, cmp_gt, cmp_le, lT0, lT1] at c_156 | simp only [Int32.le_iff_toInt_le, Int32.lt_iff_toInt_lt, ← Int32.toInt_inj, iT0, iT1, iT2, iT3, iT4, iT5, iT6, iT7, iT8, iT9, iT10, iT11, iT12, iT13, iT14, iT15, iT16, iT19, iT20, iT31, iT32, iT42, iT64, iT200, iT318, iT319, iT1000, iTm1, iTm2] at c_156
          have hsg := sg_T ((z7.natAbs : Int) - h * h)
          refine j_iconst (v := 1) X dX11_rootOf_159 rfl ?_
          refine j_goto (tgt := 164) X dX11_rootOf_160 (by decide) ?_
          exact E.2.1 164 _ 1 (h, x14, s2) _ dX11_rootOf_164 (⟨by dsimp only; rw [if_pos (by omega)], h0, h1, h2, okS_rt (d := 8) rfl (by decide) hS (Or.inl ⟨hsd, h0⟩) (Or.inl ⟨hs12, show 0 ≤ (z7.natAbs : Int) - h * h by omega⟩) hs14 hso (by decide) (by decide)⟩) hr rfl
      · skip
        first | simp only [cmp_eq, cmp_lt, cmp_ge, cmp_gt, cmp_le, lT0, lT1] at c_18 | simp only [Int32.le_iff_toInt_le, Int32.lt_iff_toInt_lt, ← Int32.toInt_inj, iT0, iT1, iT2, iT3, iT4, iT5, iT6, iT7, iT8, iT9, iT10, iT11, iT12, iT13, iT14, iT15, iT16, iT19, iT20, iT31, iT32, iT42, iT64, iT200, iT318, iT319, iT1000, iTm1, iTm2] at c_18
        obtain ⟨j, rfl⟩ : ∃ j1, j = j1 + 1 := ⟨j - 1, by omega⟩
        refine j_aload_n X dX11_rootOf_21 rfl 0 rfl ?_
        refine j_bipush (v := 12) X dX11_rootOf_22 (by decide) ?_
        refine j_aload_n X dX11_rootOf_24 rfl 0 rfl ?_
        refine j_get (v := .ref (q 10)) X dX11_rootOf_25 0 rfl 12 rfl in_X11_rootOf_X11 (by decide) fl_X11_rootOf_39 rfl ?_
        refine j_bipush (v := 20) X dX11_rootOf_28 (by decide) ?_
        refine j_iload_n X dX11_rootOf_30 rfl 2 rfl ?_
        refine j_imul X dX11_rootOf_31 ?_
        rw [show (20 : Int32) * 7 = 140 from by decide]
        refine j_iload_n X dX11_rootOf_32 rfl 3 rfl ?_
        refine j_bipush (v := 16) X dX11_rootOf_33 (by decide) ?_
        refine j_idiv X dX11_rootOf_35 (by decide) ?_
        refine j_iadd X dX11_rootOf_36 ?_
        refine j_iald X dX11_rootOf_37 1 rfl (20 * 7 + 2 * j / 16) (i_nI (ix20d (r := 7) (k := k) (kk := 2 * j) rfl (by omega) (by decide) (by omega)) (by omega)) (by omega) (by decide) ?_
        refine j_iload_n X dX11_rootOf_38 rfl 3 rfl ?_
        refine j_bipush (v := 16) X dX11_rootOf_39 (by decide) ?_
        refine j_irem X dX11_rootOf_41 (by decide) ?_
        refine j_iconst (v := 1) X dX11_rootOf_42 rfl ?_
        refine j_iadd X dX11_rootOf_43 ?_
        refine j_ishr X dX11_rootOf_44 ?_
        refine j_iconst (v := 1) X dX11_rootOf_45 rfl ?_
        refine j_iand X dX11_rootOf_46 ?_
        refine j_topi (fun x_3 ex_3 => ?_)
        have hrm : (k - k / 16 * 16).toInt = ((2 * j % 16 : Nat) : Int) := i_rm (x := k) (s := 2 * j) (d := 16) (by omega) (by omega) (by decide) (by decide) rfl
        have hb1 : x_3.toInt = (z7.natAbs : Int) / 2 ^ (2 * j + 1) % 2 := bt_at (k := 2 * j + 1) ((rg_at _ (by omega)).trans (by congr 1; omega)) (by rw [i_add] <;> rw [hrm, iT1] <;> omega) ex_3
        have hb1b : x_3.toInt = 0 ∨ x_3.toInt = 1 := by omega
        refine j_callV X dX11_rootOf_47 (c_X11_doubled l G q t n co cr po tx ty [z0, z1, z2, z3, z4, z5, z6, z7, h, z9, z10, z11, ((z7.natAbs : Int) / 2 ^ (2 * (j + 1)) - h * h), z13, x14, z15] rfl s2 12 12 rfl (by decide) x_3 hb1b (show 0 ≤ (z7.natAbs : Int) / 2 ^ (2 * (j + 1)) - h * h by omega)) gX11_rootOf_X11_doubled rfl hy_X11_doubled_V ⟨Nat.le_of_ble_eq_true rfl, Nat.le_of_ble_eq_true rfl⟩ 0 rfl rfl [0, 1, 2] rfl (by decide) rfl rfl (Nat.le_of_ble_eq_true rfl) ⟨Nat.le_of_ble_eq_true rfl, Nat.le_of_ble_eq_true rfl⟩ ?_
        rintro _ ⟨⟩ rfl
        change J p l e rm_X11_rootOf s m args below meth c Q G A 5 0 0 50 [(0, .ref (q 0)), (1, .int 8), (2, .int 7), (3, .int k)] [] [(q 0, .inr (10, mF t n q co cr po tx ty)), (q 10, aI G 320 (rg [z0, z1, z2, z3, z4, z5, z6, z7, h, z9, z10, z11, (2 * ((z7.natAbs : Int) / 2 ^ (2 * (j + 1)) - h * h) + x_3.toInt), z13, x14, z15])), (q 11, aZ G 16 s2)]
        refine j_aload_n X dX11_rootOf_50 rfl 0 rfl ?_
        refine j_bipush (v := 12) X dX11_rootOf_51 (by decide) ?_
        refine j_aload_n X dX11_rootOf_53 rfl 0 rfl ?_
        refine j_get (v := .ref (q 10)) X dX11_rootOf_54 0 rfl 12 rfl in_X11_rootOf_X11 (by decide) fl_X11_rootOf_39 rfl ?_
        refine j_bipush (v := 20) X dX11_rootOf_57 (by decide) ?_
        refine j_iload_n X dX11_rootOf_59 rfl 2 rfl ?_
        refine j_imul X dX11_rootOf_60 ?_
        rw [show (20 : Int32) * 7 = 140 from by decide]
        refine j_iload_n X dX11_rootOf_61 rfl 3 rfl ?_
        refine j_bipush (v := 16) X dX11_rootOf_62 (by decide) ?_
        refine j_idiv X dX11_rootOf_64 (by decide) ?_
        refine j_iadd X dX11_rootOf_65 ?_
        refine j_iald X dX11_rootOf_66 1 rfl (20 * 7 + 2 * j / 16) (i_nI (ix20d (r := 7) (k := k) (kk := 2 * j) rfl (by omega) (by decide) (by omega)) (by omega)) (by omega) (by decide) ?_
        refine j_iload_n X dX11_rootOf_67 rfl 3 rfl ?_
        refine j_bipush (v := 16) X dX11_rootOf_68 (by decide) ?_
        refine j_irem X dX11_rootOf_70 (by decide) ?_
        refine j_ishr X dX11_rootOf_71 ?_
        refine j_iconst (v := 1) X dX11_rootOf_72 rfl ?_
        refine j_iand X dX11_rootOf_73 ?_
        refine j_topi (fun x_4 ex_4 => ?_)
        have hb0 : x_4.toInt = (z7.natAbs : Int) / 2 ^ (2 * j) % 2 := bt_at (k := 2 * j) (rg_at _ (by omega)) (i_rm (x := k) (s := 2 * j) (d := 16) (by omega) (by omega) (by decide) (by decide) rfl) ex_4
        have hb0b : x_4.toInt = 0 ∨ x_4.toInt = 1 := by omega
        have hM : (z7.natAbs : Int) / 2 ^ (2 * j) = 4 * ((z7.natAbs : Int) / 2 ^ (2 * (j + 1))) + 2 * x_3.toInt + x_4.toInt := by rw [hb1, hb0]; exact rt_bits
        have hle := Int.ediv_le_self (2 ^ (2 * j)) (show (0 : Int) ≤ (z7.natAbs : Int) by omega)
        have hhh := sq_ge h0
        refine j_callV X dX11_rootOf_74 (c_X11_doubled l G q t n co cr po tx ty [z0, z1, z2, z3, z4, z5, z6, z7, h, z9, z10, z11, (2 * ((z7.natAbs : Int) / 2 ^ (2 * (j + 1)) - h * h) + x_3.toInt), z13, x14, z15] rfl s2 12 12 rfl (by decide) x_4 hb0b (show 0 ≤ 2 * ((z7.natAbs : Int) / 2 ^ (2 * (j + 1)) - h * h) + x_3.toInt by omega)) gX11_rootOf_X11_doubled rfl hy_X11_doubled_V ⟨Nat.le_of_ble_eq_true rfl, Nat.le_of_ble_eq_true rfl⟩ 0 rfl rfl [0, 1, 2] rfl (by decide) rfl rfl (Nat.le_of_ble_eq_true rfl) ⟨Nat.le_of_ble_eq_true rfl, Nat.le_of_ble_eq_true rfl⟩ ?_
        rintro _ ⟨⟩ rfl
        change J p l e rm_X11_rootOf s m args below meth c Q G A 5 0 0 77 [(0, .ref (q 0)), (1, .int 8), (2, .int 7), (3, .int k)] [] [(q 0, .inr (10, mF t n q co cr po tx ty)), (q 10, aI G 320 (rg [z0, z1, z2, z3, z4, z5, z6, z7, h, z9, z10, z11, (2 * (2 * ((z7.natAbs : Int) / 2 ^ (2 * (j + 1)) - h * h) + x_3.toInt) + x_4.toInt), z13, x14, z15])), (q 11, aZ G 16 s2)]
        refine j_aload_n X dX11_rootOf_77 rfl 0 rfl ?_
        refine j_bipush (v := 14) X dX11_rootOf_78 (by decide) ?_
        refine j_iload_n X dX11_rootOf_80 rfl 1 rfl ?_
        refine j_callV X dX11_rootOf_81 (c_X11_copy l G q t n co cr po tx ty [z0, z1, z2, z3, z4, z5, z6, z7, h, z9, z10, z11, (2 * (2 * ((z7.natAbs : Int) / 2 ^ (2 * (j + 1)) - h * h) + x_3.toInt) + x_4.toInt), z13, x14, z15] rfl s2 14 14 rfl (by decide) 8 8 rfl (by decide) (by decide) (Or.inl hsd)) gX11_rootOf_X11_copy rfl hy_X11_copy_V ⟨Nat.le_of_ble_eq_true rfl, Nat.le_of_ble_eq_true rfl⟩ 0 rfl rfl [0, 1, 2] rfl (by decide) rfl rfl (Nat.le_of_ble_eq_true rfl) ⟨Nat.le_of_ble_eq_true rfl, Nat.le_of_ble_eq_true rfl⟩ ?_
        rintro _ ⟨⟩ rfl
        change J p l e rm_X11_rootOf s m args below meth c Q G A 5 0 0 84 [(0, .ref (q 0)), (1, .int 8), (2, .int 7), (3, .int k)] [] [(q 0, .inr (10, mF t n q co cr po tx ty)), (q 10, aI G 320 (rg [z0, z1, z2, z3, z4, z5, z6, z7, h, z9, z10, z11, (2 * (2 * ((z7.natAbs : Int) / 2 ^ (2 * (j + 1)) - h * h) + x_3.toInt) + x_4.toInt), z13, h, z15])), (q 11, aZ G 16 (upd s2 14 (s2 8)))]
        refine j_aload_n X dX11_rootOf_84 rfl 0 rfl ?_
        refine j_bipush (v := 14) X dX11_rootOf_85 (by decide) ?_
        refine j_iconst (v := 0) X dX11_rootOf_87 rfl ?_
        refine j_callV X dX11_rootOf_88 (c_X11_doubled l G q t n co cr po tx ty [z0, z1, z2, z3, z4, z5, z6, z7, h, z9, z10, z11, (2 * (2 * ((z7.natAbs : Int) / 2 ^ (2 * (j + 1)) - h * h) + x_3.toInt) + x_4.toInt), z13, h, z15] rfl (upd s2 14 (s2 8)) 14 14 rfl (by decide) 0 (by decide) h0) gX11_rootOf_X11_doubled rfl hy_X11_doubled_V ⟨Nat.le_of_ble_eq_true rfl, Nat.le_of_ble_eq_true rfl⟩ 0 rfl rfl [0, 1, 2] rfl (by decide) rfl rfl (Nat.le_of_ble_eq_true rfl) ⟨Nat.le_of_ble_eq_true rfl, Nat.le_of_ble_eq_true rfl⟩ ?_
        rintro _ ⟨⟩ rfl
        change J p l e rm_X11_rootOf s m args below meth c Q G A 5 0 0 91 [(0, .ref (q 0)), (1, .int 8), (2, .int 7), (3, .int k)] [] [(q 0, .inr (10, mF t n q co cr po tx ty)), (q 10, aI G 320 (rg [z0, z1, z2, z3, z4, z5, z6, z7, h, z9, z10, z11, (2 * (2 * ((z7.natAbs : Int) / 2 ^ (2 * (j + 1)) - h * h) + x_3.toInt) + x_4.toInt), z13, (2 * h + (0 : Int32).toInt), z15])), (q 11, aZ G 16 (upd s2 14 (s2 8)))]
        rw [iT0]
        refine j_aload_n X dX11_rootOf_91 rfl 0 rfl ?_
        refine j_bipush (v := 14) X dX11_rootOf_92 (by decide) ?_
        refine j_iconst (v := 1) X dX11_rootOf_94 rfl ?_
        refine j_callV X dX11_rootOf_95 (c_X11_doubled l G q t n co cr po tx ty [z0, z1, z2, z3, z4, z5, z6, z7, h, z9, z10, z11, (2 * (2 * ((z7.natAbs : Int) / 2 ^ (2 * (j + 1)) - h * h) + x_3.toInt) + x_4.toInt), z13, (2 * h + 0), z15] rfl (upd s2 14 (s2 8)) 14 14 rfl (by decide) 1 (by decide) (show 0 ≤ 2 * h + 0 by omega)) gX11_rootOf_X11_doubled rfl hy_X11_doubled_V ⟨Nat.le_of_ble_eq_true rfl, Nat.le_of_ble_eq_true rfl⟩ 0 rfl rfl [0, 1, 2] rfl (by decide) rfl rfl (Nat.le_of_ble_eq_true rfl) ⟨Nat.le_of_ble_eq_true rfl, Nat.le_of_ble_eq_true rfl⟩ ?_
        rintro _ ⟨⟩ rfl
        change J p l e rm_X11_rootOf s m args below meth c Q G A 5 0 0 98 [(0, .ref (q 0)), (1, .int 8), (2, .int 7), (3, .int k)] [] [(q 0, .inr (10, mF t n q co cr po tx ty)), (q 10, aI G 320 (rg [z0, z1, z2, z3, z4, z5, z6, z7, h, z9, z10, z11, (2 * (2 * ((z7.natAbs : Int) / 2 ^ (2 * (j + 1)) - h * h) + x_3.toInt) + x_4.toInt), z13, (2 * (2 * h + 0) + (1 : Int32).toInt), z15])), (q 11, aZ G 16 (upd s2 14 (s2 8)))]
        rw [iT1]
        refine j_aload_n X dX11_rootOf_98 rfl 0 rfl ?_
        refine j_bipush (v := 12) X dX11_rootOf_99 (by decide) ?_
        refine j_bipush (v := 14) X dX11_rootOf_101 (by decide) ?_
        refine j_callV X dX11_rootOf_103 (c_X11_sizes l G q t n co cr po tx ty [z0, z1, z2, z3, z4, z5, z6, z7, h, z9, z10, z11, (2 * (2 * ((z7.natAbs : Int) / 2 ^ (2 * (j + 1)) - h * h) + x_3.toInt) + x_4.toInt), z13, (2 * (2 * h + 0) + 1), z15] rfl (upd s2 14 (s2 8)) 12 12 rfl (by decide) 14 14 rfl (by decide) (show (2 * (2 * ((z7.natAbs : Int) / 2 ^ (2 * (j + 1)) - h * h) + x_3.toInt) + x_4.toInt).natAbs < 2135987035920910082395021706169552114602704522356652769947041607822219725780640550022962086936576 by omega) (show (2 * (2 * h + 0) + 1).natAbs < 2135987035920910082395021706169552114602704522356652769947041607822219725780640550022962086936576 by omega)) gX11_rootOf_X11_sizes rfl hy_X11_sizes_V ⟨Nat.le_of_ble_eq_true rfl, Nat.le_of_ble_eq_true rfl⟩ 0 rfl rfl [0, 1, 2] rfl (by decide) rfl rfl (Nat.le_of_ble_eq_true rfl) ⟨Nat.le_of_ble_eq_true rfl, Nat.le_of_ble_eq_true rfl⟩ ?_
        rintro _ ⟨⟩ rfl
        change J p l e rm_X11_rootOf s m args below meth c Q G A 5 0 0 106 [(0, .ref (q 0)), (1, .int 8), (2, .int 7), (3, .int k)] [.int (sg (((2 * (2 * ((z7.natAbs : Int) / 2 ^ (2 * (j + 1)) - h * h) + x_3.toInt) + x_4.toInt).natAbs : Int) - ((2 * (2 * h + 0) + 1).natAbs : Int)))] [(q 0, .inr (10, mF t n q co cr po tx ty)), (q 10, aI G 320 (rg [z0, z1, z2, z3, z4, z5, z6, z7, h, z9, z10, z11, (2 * (2 * ((z7.natAbs : Int) / 2 ^ (2 * (j + 1)) - h * h) + x_3.toInt) + x_4.toInt), z13, (2 * (2 * h + 0) + 1), z15])), (q 11, aZ G 16 (upd s2 14 (s2 8)))]
        refine j_if_lt (tgt := 113) X dX11_rootOf_106 (by decide) (fun c_106 => ?_) (fun c_106 => ?_)
        · skip
          have hsg := sg_T (((2 * (2 * ((z7.natAbs : Int) / 2 ^ (2 * (j + 1)) - h * h) + x_3.toInt) + x_4.toInt).natAbs : Int) - ((2 * (2 * h + 0) + 1).natAbs : Int))
          first | simp only [cmp_eq, cmp_lt, cmp_ge, cmp_gt, cmp_le, lT0, lT1] at c_106 | simp only [Int32.le_iff_toInt_le, Int32.lt_iff_toInt_lt, ← Int32.toInt_inj, iT0, iT1, iT2, iT3, iT4, iT5, iT6, iT7, iT8, iT9, iT10, iT11, iT12, iT13, iT14, iT15, iT16, iT19, iT20, iT31, iT32, iT42, iT64, iT200, iT318, iT319, iT1000, iTm1, iTm2] at c_106
          have hq := rt_no h0 h1 h2 hb1b hb0b (by omega)
          refine j_iconst (v := 0) X dX11_rootOf_113 rfl ?_
          refine j_istore (L' := [(4, .int 0), (0, .ref (q 0)), (1, .int 8), (2, .int 7), (3, .int k)]) X dX11_rootOf_114 (by decide) rfl ?_
          refine j_iload X dX11_rootOf_116 0 rfl ?_
          refine j_if_eq (tgt := 129) X dX11_rootOf_118 (by decide) (fun _ => ?_) (fun c9 => absurd c9 (by decide))
          refine j_aload_n X dX11_rootOf_129 rfl 1 rfl ?_
          refine j_iload_n X dX11_rootOf_130 rfl 2 rfl ?_
          refine j_iload X dX11_rootOf_131 0 rfl ?_
          refine j_if_eq (tgt := 140) X dX11_rootOf_133 (by decide) (fun _ => ?_) (fun c9 => absurd c9 (by decide))
          refine j_iconst (v := 0) X dX11_rootOf_140 rfl ?_
          refine j_callV X dX11_rootOf_141 (c_X11_doubled l G q t n co cr po tx ty [z0, z1, z2, z3, z4, z5, z6, z7, h, z9, z10, z11, (2 * (2 * ((z7.natAbs : Int) / 2 ^ (2 * (j + 1)) - h * h) + x_3.toInt) + x_4.toInt), z13, (2 * (2 * h + 0) + 1), z15] rfl (upd s2 14 (s2 8)) 8 8 rfl (by decide) 0 (by decide) h0) gX11_rootOf_X11_doubled rfl hy_X11_doubled_V ⟨Nat.le_of_ble_eq_true rfl, Nat.le_of_ble_eq_true rfl⟩ 0 rfl rfl [0, 1, 2] rfl (by decide) rfl rfl (Nat.le_of_ble_eq_true rfl) ⟨Nat.le_of_ble_eq_true rfl, Nat.le_of_ble_eq_true rfl⟩ ?_
          rintro _ ⟨⟩ rfl
          change J p l e rm_X11_rootOf s m args below meth c Q G A 5 0 0 144 [(4, .int 0), (0, .ref (q 0)), (1, .int 8), (2, .int 7), (3, .int k)] [] [(q 0, .inr (10, mF t n q co cr po tx ty)), (q 10, aI G 320 (rg [z0, z1, z2, z3, z4, z5, z6, z7, (2 * h + (0 : Int32).toInt), z9, z10, z11, (2 * (2 * ((z7.natAbs : Int) / 2 ^ (2 * (j + 1)) - h * h) + x_3.toInt) + x_4.toInt), z13, (2 * (2 * h + 0) + 1), z15])), (q 11, aZ G 16 (upd s2 14 (s2 8)))]
          rw [iT0]
          obtain ⟨x_5, ex_5⟩ : ∃ y9 : Int32, y9 = k + (-2) := ⟨_, rfl⟩
          refine j_iinc (v := x_5) (L' := [(3, .int x_5), (4, .int 0), (0, .ref (q 0)), (1, .int 8), (2, .int 7)]) X dX11_rootOf_144 4 rfl (by rw [ex_5]; rfl) (by decide) rfl ?_
          refine j_goto (tgt := 17) X dX11_rootOf_147 (by decide) ?_
          refine j_sub [2, 3, 4, 0] rfl ?_
          refine j_eq (ws' := [(q 0, .inr (10, mF t n q co cr po tx ty)), (q 10, aI G 320 (rg [z0, z1, z2, z3, z4, z5, z6, z7, (2 * h), z9, z10, z11, ((z7.natAbs : Int) / 2 ^ (2 * j) - (2 * h) * (2 * h)), z13, (2 * (2 * h + 0) + 1), z15])), (q 11, aZ G 16 (upd s2 14 (s2 8)))]) (by rw [hM, show 2 * (2 * ((z7.natAbs : Int) / 2 ^ (2 * (j + 1)) - h * h) + x_3.toInt) + x_4.toInt = 4 * ((z7.natAbs : Int) / 2 ^ (2 * (j + 1))) + 2 * x_3.toInt + x_4.toInt - (2 * h) * (2 * h) by omega]; try rw [Int.add_zero]) rfl ?_
          exact ih j x_5 (2 * h) _ _ (by omega) (by rw [ex_5, i_add] <;> rw [hk2] <;> simp <;> omega) (by omega) (by rw [hM]; exact hq.1) (by rw [hM]; exact hq.2.1) hs12 hsd (fun r h1 h2 h3 => by rw [pk_un h3]; exact hso r h1 h2 h3) (Or.inl ⟨hsd, by omega⟩) (by omega)
        · skip
          have hsg := sg_T (((2 * (2 * ((z7.natAbs : Int) / 2 ^ (2 * (j + 1)) - h * h) + x_3.toInt) + x_4.toInt).natAbs : Int) - ((2 * (2 * h + 0) + 1).natAbs : Int))
          first | simp only [cmp_eq, cmp_lt, cmp_ge, cmp_gt, cmp_le, lT0, lT1] at c_106 | simp only [Int32.le_iff_toInt_le, Int32.lt_iff_toInt_lt, ← Int32.toInt_inj, iT0, iT1, iT2, iT3, iT4, iT5, iT6, iT7, iT8, iT9, iT10, iT11, iT12, iT13, iT14, iT15, iT16, iT19, iT20, iT31, iT32, iT42, iT64, iT200, iT318, iT319, iT1000, iTm1, iTm2] at c_106
          have hq := rt_go h0 h1 h2 hb1b hb0b (by omega)
          refine j_iconst (v := 1) X dX11_rootOf_109 rfl ?_
          refine j_goto (tgt := 114) X dX11_rootOf_110 (by decide) ?_
          refine j_istore (L' := [(4, .int 1), (0, .ref (q 0)), (1, .int 8), (2, .int 7), (3, .int k)]) X dX11_rootOf_114 (by decide) rfl ?_
          refine j_iload X dX11_rootOf_116 0 rfl ?_
          refine j_if_eq (tgt := 129) X dX11_rootOf_118 (by decide) (fun c9 => absurd c9 (by decide)) (fun _ => ?_)
          refine j_aload_n X dX11_rootOf_121 rfl 1 rfl ?_
          refine j_bipush (v := 12) X dX11_rootOf_122 (by decide) ?_
          refine j_bipush (v := 14) X dX11_rootOf_124 (by decide) ?_
          refine j_callV X dX11_rootOf_126 (c_X11_takeAway l G q t n co cr po tx ty [z0, z1, z2, z3, z4, z5, z6, z7, h, z9, z10, z11, (2 * (2 * ((z7.natAbs : Int) / 2 ^ (2 * (j + 1)) - h * h) + x_3.toInt) + x_4.toInt), z13, (2 * (2 * h + 0) + 1), z15] rfl (upd s2 14 (s2 8)) 12 12 rfl (by decide) 14 14 rfl (by decide) (by decide) (show ((2 * (2 * h + 0) + 1).natAbs : Int) ≤ 2 * (2 * ((z7.natAbs : Int) / 2 ^ (2 * (j + 1)) - h * h) + x_3.toInt) + x_4.toInt by omega)) gX11_rootOf_X11_takeAway rfl hy_X11_takeAway_V ⟨Nat.le_of_ble_eq_true rfl, Nat.le_of_ble_eq_true rfl⟩ 0 rfl rfl [0, 1, 2] rfl (by decide) rfl rfl (Nat.le_of_ble_eq_true rfl) ⟨Nat.le_of_ble_eq_true rfl, Nat.le_of_ble_eq_true rfl⟩ ?_
          rintro _ ⟨⟩ rfl
          change J p l e rm_X11_rootOf s m args below meth c Q G A 5 0 0 129 [(4, .int 1), (0, .ref (q 0)), (1, .int 8), (2, .int 7), (3, .int k)] [] [(q 0, .inr (10, mF t n q co cr po tx ty)), (q 10, aI G 320 (rg [z0, z1, z2, z3, z4, z5, z6, z7, h, z9, z10, z11, ((2 * (2 * ((z7.natAbs : Int) / 2 ^ (2 * (j + 1)) - h * h) + x_3.toInt) + x_4.toInt) - ((2 * (2 * h + 0) + 1).natAbs : Int)), z13, (2 * (2 * h + 0) + 1), z15])), (q 11, aZ G 16 (upd s2 14 (s2 8)))]
          refine j_aload_n X dX11_rootOf_129 rfl 1 rfl ?_
          refine j_iload_n X dX11_rootOf_130 rfl 2 rfl ?_
          refine j_iload X dX11_rootOf_131 0 rfl ?_
          refine j_if_eq (tgt := 140) X dX11_rootOf_133 (by decide) (fun c9 => absurd c9 (by decide)) (fun _ => ?_)
          refine j_iconst (v := 1) X dX11_rootOf_136 rfl ?_
          refine j_goto (tgt := 141) X dX11_rootOf_137 (by decide) ?_
          refine j_callV X dX11_rootOf_141 (c_X11_doubled l G q t n co cr po tx ty [z0, z1, z2, z3, z4, z5, z6, z7, h, z9, z10, z11, ((2 * (2 * ((z7.natAbs : Int) / 2 ^ (2 * (j + 1)) - h * h) + x_3.toInt) + x_4.toInt) - ((2 * (2 * h + 0) + 1).natAbs : Int)), z13, (2 * (2 * h + 0) + 1), z15] rfl (upd s2 14 (s2 8)) 8 8 rfl (by decide) 1 (by decide) h0) gX11_rootOf_X11_doubled rfl hy_X11_doubled_V ⟨Nat.le_of_ble_eq_true rfl, Nat.le_of_ble_eq_true rfl⟩ 0 rfl rfl [0, 1, 2] rfl (by decide) rfl rfl (Nat.le_of_ble_eq_true rfl) ⟨Nat.le_of_ble_eq_true rfl, Nat.le_of_ble_eq_true rfl⟩ ?_
          rintro _ ⟨⟩ rfl
          change J p l e rm_X11_rootOf s m args below meth c Q G A 5 0 0 144 [(4, .int 1), (0, .ref (q 0)), (1, .int 8), (2, .int 7), (3, .int k)] [] [(q 0, .inr (10, mF t n q co cr po tx ty)), (q 10, aI G 320 (rg [z0, z1, z2, z3, z4, z5, z6, z7, (2 * h + (1 : Int32).toInt), z9, z10, z11, ((2 * (2 * ((z7.natAbs : Int) / 2 ^ (2 * (j + 1)) - h * h) + x_3.toInt) + x_4.toInt) - ((2 * (2 * h + 0) + 1).natAbs : Int)), z13, (2 * (2 * h + 0) + 1), z15])), (q 11, aZ G 16 (upd s2 14 (s2 8)))]
          rw [iT1]
          obtain ⟨x_6, ex_6⟩ : ∃ y9 : Int32, y9 = k + (-2) := ⟨_, rfl⟩
          refine j_iinc (v := x_6) (L' := [(3, .int x_6), (4, .int 1), (0, .ref (q 0)), (1, .int 8), (2, .int 7)]) X dX11_rootOf_144 4 rfl (by rw [ex_6]; rfl) (by decide) rfl ?_
          refine j_goto (tgt := 17) X dX11_rootOf_147 (by decide) ?_
          refine j_sub [2, 3, 4, 0] rfl ?_
          refine j_eq (ws' := [(q 0, .inr (10, mF t n q co cr po tx ty)), (q 10, aI G 320 (rg [z0, z1, z2, z3, z4, z5, z6, z7, (2 * h + 1), z9, z10, z11, ((z7.natAbs : Int) / 2 ^ (2 * j) - (2 * h + 1) * (2 * h + 1)), z13, (2 * (2 * h + 0) + 1), z15])), (q 11, aZ G 16 (upd s2 14 (s2 8)))]) (by rw [hM, show 2 * (2 * ((z7.natAbs : Int) / 2 ^ (2 * (j + 1)) - h * h) + x_3.toInt) + x_4.toInt - ((2 * (2 * h + 0) + 1).natAbs : Int) = 4 * ((z7.natAbs : Int) / 2 ^ (2 * (j + 1))) + 2 * x_3.toInt + x_4.toInt - (2 * h + 1) * (2 * h + 1) by omega]; try rw [Int.add_zero]) rfl ?_
          exact ih j x_6 (2 * h + 1) _ _ (by omega) (by rw [ex_6, i_add] <;> rw [hk2] <;> simp <;> omega) (by omega) (by rw [hM]; exact hq.1) (by rw [hM]; exact hq.2.1) hs12 hsd (fun r h1 h2 h3 => by rw [pk_un h3]; exact hso r h1 h2 h3) (Or.inl ⟨hsd, by omega⟩) (by omega)
  refine j_sub [1, 2, 3, 0] rfl ?_
  obtain ⟨K, hK⟩ : ∃ K : Nat, K = 160 := ⟨_, rfl⟩
  have hK0 : (z7.natAbs : Int) / 2 ^ (2 * K) = 0 := Int.ediv_eq_zero_of_lt (by omega) (by rw [hK, show 2 * 160 = 320 from rfl, p320]; omega)
  refine j_eq (ws' := [(q 0, .inr (10, mF t n q co cr po tx ty)), (q 10, aI G 320 (rg [z0, z1, z2, z3, z4, z5, z6, z7, 0, z9, z10, z11, ((z7.natAbs : Int) / 2 ^ (2 * K) - 0 * 0), z13, z14, z15])), (q 11, aZ G 16 (upd (upd sf 8 0) 12 0))]) (by rw [hK0]; rfl) rfl ?_
  exact loop 161 K 318 0 z14 _ (by omega) (by rw [hK]; rfl) (by omega) (by rw [hK0]; decide) (by rw [hK0]; decide) rfl rfl (fun r h1 h2 _ => by rw [pk_un h1, pk_un h2]) (hS 14 (by decide)) (by omega)

set_option maxHeartbeats 4000000 in
set_option maxRecDepth 100000 in
theorem c_X11_divide_6_8_4 (l : Launch) (G : jG) (q : Nat → Nat) (t n co cr po : Int32) (tx ty : Int64) (z0 z1 z2 z3 z4 z5 z6 z7 z8 z9 z10 z11 z12 z13 z14 z15 : Int) (sf : Nat → Int32) (hS : okS [z0, z1, z2, z3, z4, z5, z6, z7, z8, z9, z10, z11, z12, z13, z14, z15] sf) (hB : 0 < (z4.natAbs : Int)) (hB2 : (z4.natAbs : Int) < 1067993517960455041197510853084776057301352261178326384973520803911109862890320275011481043468288) (hN : (z8.natAbs : Int) < 1067993517960455041197510853084776057301352261178326384973520803911109862890320275011481043468288) : Ct l yX11_divide wsX11_divide rm_X11_divide G [.ref (q 0), .int 6, .int 8, .int 4] [(q 0, .inr (10, mF t n q co cr po tx ty)), (q 10, aI G 320 (rg [z0, z1, z2, z3, z4, z5, z6, z7, z8, z9, z10, z11, z12, z13, z14, z15])), (q 11, aZ G 16 sf)] (S := Int × Int × (Nat → Int32)) (fun r u => r = none ∧ okS [z0, z1, z2, z3, z4, z5, (z8 / (z4.natAbs : Int)), z7, z8, z9, z10, z11, ((z8.natAbs : Int) % (z4.natAbs : Int)), z13, u.1, u.2.1] u.2.2) (fun u => [(q 0, .inr (10, mF t n q co cr po tx ty)), (q 10, aI G 320 (rg [z0, z1, z2, z3, z4, z5, (z8 / (z4.natAbs : Int)), z7, z8, z9, z10, z11, ((z8.natAbs : Int) % (z4.natAbs : Int)), z13, u.1, u.2.1])), (q 11, aZ G 16 u.2.2)]) (fun _ => []) := by
  refine c_intro (cc := cX11_divide) (maxL := 6) (ret := none) (by decide) rfl (Nat.le_of_ble_eq_true rfl) (fun _ => by simp only [List.map_cons, List.map_nil]) ?_
  intro p e s m args below meth c Q A X hr hin E
  change J p l e rm_X11_divide s m args below meth c Q G A 6 0 0 0 [(0, .ref (q 0)), (1, .int 6), (2, .int 8), (3, .int 4)] [] [(q 0, .inr (10, mF t n q co cr po tx ty)), (q 10, aI G 320 (rg [z0, z1, z2, z3, z4, z5, z6, z7, z8, z9, z10, z11, z12, z13, z14, z15])), (q 11, aZ G 16 sf)]
  refine j_aload_n X dX11_divide_0 rfl 0 rfl ?_
  refine j_iload_n X dX11_divide_1 rfl 1 rfl ?_
  refine j_lconst (v := 0) X dX11_divide_2 rfl ?_
  refine j_callV X dX11_divide_3 (c_X11_load l G q t n co cr po tx ty [z0, z1, z2, z3, z4, z5, z6, z7, z8, z9, z10, z11, z12, z13, z14, z15] rfl sf 6 6 rfl (by decide) 0 ) gX11_divide_X11_load rfl hy_X11_load_V ⟨Nat.le_of_ble_eq_true rfl, Nat.le_of_ble_eq_true rfl⟩ 0 rfl rfl [0, 1, 2] rfl (by decide) rfl rfl (Nat.le_of_ble_eq_true rfl) ⟨Nat.le_of_ble_eq_true rfl, Nat.le_of_ble_eq_true rfl⟩ ?_
  rintro _ b_1 ⟨rfl, hb_1⟩
  obtain rfl : b_1 = 0 := ld0 (by decide) hb_1
  change J p l e rm_X11_divide s m args below meth c Q G A 6 0 0 6 [(0, .ref (q 0)), (1, .int 6), (2, .int 8), (3, .int 4)] [] [(q 0, .inr (10, mF t n q co cr po tx ty)), (q 10, aI G 320 (rg [z0, z1, z2, z3, z4, z5, ((0 : Int64).toInt), z7, z8, z9, z10, z11, z12, z13, z14, z15])), (q 11, aZ G 16 (upd sf 6 0))]
  rw [lT0]
  refine j_aload_n X dX11_divide_6 rfl 0 rfl ?_
  refine j_bipush (v := 12) X dX11_divide_7 (by decide) ?_
  refine j_lconst (v := 0) X dX11_divide_9 rfl ?_
  refine j_callV X dX11_divide_10 (c_X11_load l G q t n co cr po tx ty [z0, z1, z2, z3, z4, z5, 0, z7, z8, z9, z10, z11, z12, z13, z14, z15] rfl (upd sf 6 0) 12 12 rfl (by decide) 0 ) gX11_divide_X11_load rfl hy_X11_load_V ⟨Nat.le_of_ble_eq_true rfl, Nat.le_of_ble_eq_true rfl⟩ 0 rfl rfl [0, 1, 2] rfl (by decide) rfl rfl (Nat.le_of_ble_eq_true rfl) ⟨Nat.le_of_ble_eq_true rfl, Nat.le_of_ble_eq_true rfl⟩ ?_
  rintro _ b_2 ⟨rfl, hb_2⟩
  obtain rfl : b_2 = 0 := ld0 (by decide) hb_2
  change J p l e rm_X11_divide s m args below meth c Q G A 6 0 0 13 [(0, .ref (q 0)), (1, .int 6), (2, .int 8), (3, .int 4)] [] [(q 0, .inr (10, mF t n q co cr po tx ty)), (q 10, aI G 320 (rg [z0, z1, z2, z3, z4, z5, 0, z7, z8, z9, z10, z11, ((0 : Int64).toInt), z13, z14, z15])), (q 11, aZ G 16 (upd (upd sf 6 0) 12 0))]
  rw [lT0]
  refine j_sipush (v := 319) X dX11_divide_13 (by decide) ?_
  refine j_istore (L' := [(4, .int 319), (0, .ref (q 0)), (1, .int 6), (2, .int 8), (3, .int 4)]) X dX11_divide_16 (by decide) rfl ?_
  have loop : ∀ (d : Nat) (kk : Nat) (k : Int32) (hk : kk ≤ 320) (hk2 : k.toInt = (kk : Int) - 1), kk < d → J p l e rm_X11_divide s m args below meth c Q G A 6 0 0 18 [(0, .ref (q 0)), (1, .int 6), (2, .int 8), (3, .int 4), (4, .int k)] [] [(q 0, .inr (10, mF t n q co cr po tx ty)), (q 10, aI G 320 (rg [z0, z1, z2, z3, z4, z5, ((z8.natAbs : Int) / 2 ^ kk / (z4.natAbs : Int)), z7, z8, z9, z10, z11, ((z8.natAbs : Int) / 2 ^ kk % (z4.natAbs : Int)), z13, z14, z15])), (q 11, aZ G 16 (upd (upd sf 6 0) 12 0))] := by
    intro d
    induction d with
    | zero => intro kk k hk hk2 hd0; exact absurd hd0 (Nat.not_lt_zero _)
    | succ d ih =>
      intro kk k hk hk2 hd0
      refine j_iload X dX11_divide_18 4 rfl ?_
      refine j_if_lt (tgt := 102) X dX11_divide_20 (by decide) (fun c_20 => ?_) (fun c_20 => ?_)
      · skip
        first | simp only [cmp_eq, cmp_lt, cmp_ge, cmp_gt, cmp_le, lT0, lT1] at c_20 | simp only [Int32.le_iff_toInt_le, Int32.lt_iff_toInt_lt, ← Int32.toInt_inj, iT0, iT1, iT2, iT3, iT4, iT5, iT6, iT7, iT8, iT9, iT10, iT11, iT12, iT13, iT14, iT15, iT16, iT19, iT20, iT31, iT32, iT42, iT64, iT200, iT318, iT319, iT1000, iTm1, iTm2] at c_20
        have hk0 : kk = 0 := by omega
        subst hk0
        refine j_eq (ws' := [(q 0, .inr (10, mF t n q co cr po tx ty)), (q 10, aI G 320 (rg [z0, z1, z2, z3, z4, z5, ((z8.natAbs : Int) / (z4.natAbs : Int)), z7, z8, z9, z10, z11, ((z8.natAbs : Int) % (z4.natAbs : Int)), z13, z14, z15])), (q 11, aZ G 16 (upd (upd sf 6 0) 12 0))]) (by rw [Int.pow_zero, Int.ediv_one]) rfl ?_
        refine j_aload_n X dX11_divide_102 rfl 0 rfl ?_
        refine j_get (v := .ref (q 11)) X dX11_divide_103 0 rfl 13 rfl in_X11_divide_X11 (by decide) fl_X11_divide_42 rfl ?_
        refine j_iload_n X dX11_divide_106 rfl 1 rfl ?_
        refine j_aload_n X dX11_divide_107 rfl 0 rfl ?_
        refine j_get (v := .ref (q 11)) X dX11_divide_108 0 rfl 13 rfl in_X11_divide_X11 (by decide) fl_X11_divide_42 rfl ?_
        refine j_iload_n X dX11_divide_111 rfl 2 rfl ?_
        refine j_zald X dX11_divide_112 2 rfl 8 rfl (by decide) (by decide) ?_
        refine j_zast (ws' := [(q 0, .inr (10, mF t n q co cr po tx ty)), (q 10, aI G 320 (rg [z0, z1, z2, z3, z4, z5, ((z8.natAbs : Int) / (z4.natAbs : Int)), z7, z8, z9, z10, z11, ((z8.natAbs : Int) % (z4.natAbs : Int)), z13, z14, z15])), (q 11, aZ G 16 (upd (upd (upd sf 6 0) 12 0) 6 (sf 8)))]) X dX11_divide_113 2 rfl 6 rfl (by decide) (by decide) (ok1_01 (hS 8 (by decide))) rfl ?_
        refine j_aload_n X dX11_divide_114 rfl 0 rfl ?_
        refine j_get (v := .ref (q 11)) X dX11_divide_115 0 rfl 13 rfl in_X11_divide_X11 (by decide) fl_X11_divide_42 rfl ?_
        refine j_iload_n X dX11_divide_118 rfl 2 rfl ?_
        refine j_zald X dX11_divide_119 2 rfl 8 rfl (by decide) (by decide) ?_
        refine j_if_eq (tgt := 132) X dX11_divide_120 (by decide) (fun c_120 => ?_) (fun c_120 => ?_)
        · skip
          have hz0 : 0 ≤ z8 := by have := hS 8 (by decide); rcases this with h | h; exact h.2; exact absurd (c_120.symm.trans h.1) (by decide)
          refine j_eq (ws' := [(q 0, .inr (10, mF t n q co cr po tx ty)), (q 10, aI G 320 (rg [z0, z1, z2, z3, z4, z5, (z8 / (z4.natAbs : Int)), z7, z8, z9, z10, z11, ((z8.natAbs : Int) % (z4.natAbs : Int)), z13, z14, z15])), (q 11, aZ G 16 (upd (upd (upd sf 6 0) 12 0) 6 (sf 8)))]) (by rw [show (z8.natAbs : Int) = z8 by omega]) rfl ?_
          exact E.1 132 _ (z14, z15, _) dX11_divide_132 (⟨rfl, okS_cong (okS_set (d := 12) rfl (by decide) (okS_set (d := 6) (b := sf 8) rfl (by decide) hS (Or.inl ⟨c_120, Int.ediv_nonneg hz0 (by omega)⟩)) (b := 0) (Or.inl ⟨rfl, (d_rng _ hB).1⟩)) (upsw 6 _ _ _ _ (by decide))⟩) hr
        · skip
          have hs1 : sf 8 = 1 ∧ z8 ≤ 0 := by have := hS 8 (by decide); rcases this with h | h; exact absurd h.1 c_120; exact h
          refine j_aload_n X dX11_divide_123 rfl 0 rfl ?_
          refine j_bipush (v := 12) X dX11_divide_124 (by decide) ?_
          refine j_callV X dX11_divide_126 (c_X11_sign l G q t n co cr po tx ty [z0, z1, z2, z3, z4, z5, ((z8.natAbs : Int) / (z4.natAbs : Int)), z7, z8, z9, z10, z11, ((z8.natAbs : Int) % (z4.natAbs : Int)), z13, z14, z15] rfl (upd (upd (upd sf 6 0) 12 0) 6 (sf 8)) 12 12 rfl (by decide) (Or.inl ⟨rfl, (d_rng _ hB).1⟩) (show ((z8.natAbs : Int) % (z4.natAbs : Int)).natAbs < 2135987035920910082395021706169552114602704522356652769947041607822219725780640550022962086936576 by have := d_rng (z8.natAbs : Int) hB; omega)) gX11_divide_X11_sign rfl hy_X11_sign_V ⟨Nat.le_of_ble_eq_true rfl, Nat.le_of_ble_eq_true rfl⟩ 0 rfl rfl [0, 1, 2] rfl (by decide) rfl rfl (Nat.le_of_ble_eq_true rfl) ⟨Nat.le_of_ble_eq_true rfl, Nat.le_of_ble_eq_true rfl⟩ ?_
          rintro _ ⟨⟩ rfl
          change J p l e rm_X11_divide s m args below meth c Q G A 6 0 0 129 [(0, .ref (q 0)), (1, .int 6), (2, .int 8), (3, .int 4), (4, .int k)] [.int (sg ((z8.natAbs : Int) % (z4.natAbs : Int)))] [(q 0, .inr (10, mF t n q co cr po tx ty)), (q 10, aI G 320 (rg [z0, z1, z2, z3, z4, z5, ((z8.natAbs : Int) / (z4.natAbs : Int)), z7, z8, z9, z10, z11, ((z8.natAbs : Int) % (z4.natAbs : Int)), z13, z14, z15])), (q 11, aZ G 16 (upd (upd (upd sf 6 0) 12 0) 6 (sf 8)))]
          refine j_if_ne (tgt := 133) X dX11_divide_129 (by decide) (fun c_129 => ?_) (fun c_129 => ?_)
          · skip
            first | simp only [cmp_eq, cmp_lt, cmp_ge, cmp_gt, cmp_le, lT0, lT1] at c_129 | simp only [Int32.le_iff_toInt_le, Int32.lt_iff_toInt_lt, ← Int32.toInt_inj, iT0, iT1, iT2, iT3, iT4, iT5, iT6, iT7, iT8, iT9, iT10, iT11, iT12, iT13, iT14, iT15, iT16, iT19, iT20, iT31, iT32, iT42, iT64, iT200, iT318, iT319, iT1000, iTm1, iTm2] at c_129
            have hsg := sg_T ((z8.natAbs : Int) % (z4.natAbs : Int))
            refine j_setI (ws' := [(q 0, .inr (10, mF t n q co cr po tx ty)), (q 10, aI G 320 (rg [z0, z1, z2, z3, z4, z5, (-((z8.natAbs : Int) / (z4.natAbs : Int))), z7, z8, z9, z10, z11, ((z8.natAbs : Int) % (z4.natAbs : Int)), z13, z14, z15])), (q 11, aZ G 16 (upd (upd (upd sf 6 0) 12 0) 6 (sf 8)))]) (g := rg [z0, z1, z2, z3, z4, z5, (-((z8.natAbs : Int) / (z4.natAbs : Int))), z7, z8, z9, z10, z11, ((z8.natAbs : Int) % (z4.natAbs : Int)), z13, z14, z15]) 1 rfl (rg_abs (rg_neg6 _ _ _ _ _ _ _ _ _ _ _ _ _ _ _ _)) rfl ?_
            have hq9 : 0 ≤ (z8.natAbs : Int) / (z4.natAbs : Int) := Int.ediv_nonneg (by omega) (Int.le_of_lt hB)
            have hS3 : okS [z0, z1, z2, z3, z4, z5, (-((z8.natAbs : Int) / (z4.natAbs : Int))), z7, z8, z9, z10, z11, ((z8.natAbs : Int) % (z4.natAbs : Int)), z13, z14, z15] (upd (upd (upd sf 6 0) 12 0) 6 (sf 8)) := okS_cong (okS_set (d := 12) rfl (by decide) (okS_set (d := 6) (b := sf 8) rfl (by decide) hS (Or.inr ⟨hs1.1, by omega⟩)) (b := 0) (Or.inl ⟨rfl, (d_rng _ hB).1⟩)) (upsw 6 _ _ _ _ (by decide))
            refine j_aload_n X dX11_divide_133 rfl 0 rfl ?_
            refine j_bipush (v := 15) X dX11_divide_134 (by decide) ?_
            refine j_lconst (v := 1) X dX11_divide_136 rfl ?_
            refine j_callV X dX11_divide_137 (h_load l G q t n co cr po tx ty ([z0, z1, z2, z3, z4, z5, (-((z8.natAbs : Int) / (z4.natAbs : Int))), z7, z8, z9, z10, z11, ((z8.natAbs : Int) % (z4.natAbs : Int)), z13, z14, z15]) (upd (upd (upd sf 6 0) 12 0) 6 (sf 8)) rfl hS3 15 15 rfl (by decide) 1 ) gX11_divide_X11_load rfl hy_X11_load_V ⟨Nat.le_of_ble_eq_true rfl, Nat.le_of_ble_eq_true rfl⟩ 0 rfl rfl [0, 1, 2] rfl (by decide) rfl rfl (Nat.le_of_ble_eq_true rfl) ⟨Nat.le_of_ble_eq_true rfl, Nat.le_of_ble_eq_true rfl⟩ ?_
            rintro _ sf_3 ⟨rfl, hS_sf_3⟩
            change J p l e rm_X11_divide s m args below meth c Q G A 6 0 0 140 [(0, .ref (q 0)), (1, .int 6), (2, .int 8), (3, .int 4), (4, .int k)] [] [(q 0, .inr (10, mF t n q co cr po tx ty)), (q 10, aI G 320 (rg [z0, z1, z2, z3, z4, z5, (-((z8.natAbs : Int) / (z4.natAbs : Int))), z7, z8, z9, z10, z11, ((z8.natAbs : Int) % (z4.natAbs : Int)), z13, z14, ((1 : Int64).toInt)])), (q 11, aZ G 16 sf_3)]
            rw [lT1] at hS_sf_3 ⊢
            refine j_aload_n X dX11_divide_140 rfl 0 rfl ?_
            refine j_bipush (v := 14) X dX11_divide_141 (by decide) ?_
            refine j_iload_n X dX11_divide_143 rfl 1 rfl ?_
            refine j_bipush (v := 15) X dX11_divide_144 (by decide) ?_
            refine j_iconst (v := 1) X dX11_divide_146 rfl ?_
            refine j_callV X dX11_divide_147 (h_join l G q t n co cr po tx ty ([z0, z1, z2, z3, z4, z5, (-((z8.natAbs : Int) / (z4.natAbs : Int))), z7, z8, z9, z10, z11, ((z8.natAbs : Int) % (z4.natAbs : Int)), z13, z14, 1]) sf_3 rfl hS_sf_3 14 14 rfl (by decide) 6 6 rfl (by decide) 15 15 rfl (by decide) 1 (Or.inr rfl) (by decide) (by decide) (show (-((z8.natAbs : Int) / (z4.natAbs : Int))).natAbs < 2135987035920910082395021706169552114602704522356652769947041607822219725780640550022962086936576 by have := Int.ediv_le_self (z4.natAbs : Int) (show (0:Int) ≤ (z8.natAbs : Int) by omega); have := Int.ediv_nonneg (show (0:Int) ≤ (z8.natAbs : Int) by omega) (Int.le_of_lt hB); omega) (show (1 : Int).natAbs < 2135987035920910082395021706169552114602704522356652769947041607822219725780640550022962086936576 by decide)) gX11_divide_X11_join rfl hy_X11_join_V ⟨Nat.le_of_ble_eq_true rfl, Nat.le_of_ble_eq_true rfl⟩ 0 rfl rfl [0, 1, 2] rfl (by decide) rfl rfl (Nat.le_of_ble_eq_true rfl) ⟨Nat.le_of_ble_eq_true rfl, Nat.le_of_ble_eq_true rfl⟩ ?_
            rintro _ sf_4 ⟨rfl, hS_sf_4⟩
            change J p l e rm_X11_divide s m args below meth c Q G A 6 0 0 150 [(0, .ref (q 0)), (1, .int 6), (2, .int 8), (3, .int 4), (4, .int k)] [] [(q 0, .inr (10, mF t n q co cr po tx ty)), (q 10, aI G 320 (rg [z0, z1, z2, z3, z4, z5, (-((z8.natAbs : Int) / (z4.natAbs : Int))), z7, z8, z9, z10, z11, ((z8.natAbs : Int) % (z4.natAbs : Int)), z13, ((-((z8.natAbs : Int) / (z4.natAbs : Int))) - 1), 1])), (q 11, aZ G 16 sf_4)]
            refine j_aload_n X dX11_divide_150 rfl 0 rfl ?_
            refine j_iload_n X dX11_divide_151 rfl 1 rfl ?_
            refine j_bipush (v := 14) X dX11_divide_152 (by decide) ?_
            refine j_callV X dX11_divide_154 (h_copy l G q t n co cr po tx ty ([z0, z1, z2, z3, z4, z5, (-((z8.natAbs : Int) / (z4.natAbs : Int))), z7, z8, z9, z10, z11, ((z8.natAbs : Int) % (z4.natAbs : Int)), z13, ((-((z8.natAbs : Int) / (z4.natAbs : Int))) - 1), 1]) sf_4 rfl hS_sf_4 6 6 rfl (by decide) 14 14 rfl (by decide) (by decide)) gX11_divide_X11_copy rfl hy_X11_copy_V ⟨Nat.le_of_ble_eq_true rfl, Nat.le_of_ble_eq_true rfl⟩ 0 rfl rfl [0, 1, 2] rfl (by decide) rfl rfl (Nat.le_of_ble_eq_true rfl) ⟨Nat.le_of_ble_eq_true rfl, Nat.le_of_ble_eq_true rfl⟩ ?_
            rintro _ sf_5 ⟨rfl, hS_sf_5⟩
            change J p l e rm_X11_divide s m args below meth c Q G A 6 0 0 157 [(0, .ref (q 0)), (1, .int 6), (2, .int 8), (3, .int 4), (4, .int k)] [] [(q 0, .inr (10, mF t n q co cr po tx ty)), (q 10, aI G 320 (rg [z0, z1, z2, z3, z4, z5, ((-((z8.natAbs : Int) / (z4.natAbs : Int))) - 1), z7, z8, z9, z10, z11, ((z8.natAbs : Int) % (z4.natAbs : Int)), z13, ((-((z8.natAbs : Int) / (z4.natAbs : Int))) - 1), 1])), (q 11, aZ G 16 sf_5)]
            refine j_eq (ws' := [(q 0, .inr (10, mF t n q co cr po tx ty)), (q 10, aI G 320 (rg [z0, z1, z2, z3, z4, z5, (z8 / (z4.natAbs : Int)), z7, z8, z9, z10, z11, ((z8.natAbs : Int) % (z4.natAbs : Int)), z13, (-((z8.natAbs : Int) / (z4.natAbs : Int)) - 1), 1])), (q 11, aZ G 16 sf_5)]) (by rw [dv_neg1 hB hs1.2 (by omega)]) rfl ?_
            have hS9 := hS_sf_5
            have hS8 : okS [z0, z1, z2, z3, z4, z5, (z8 / (z4.natAbs : Int)), z7, z8, z9, z10, z11, ((z8.natAbs : Int) % (z4.natAbs : Int)), z13, (-((z8.natAbs : Int) / (z4.natAbs : Int)) - 1), 1] sf_5 := by rw [dv_neg1 hB hs1.2 (by omega)]; exact hS9
            exact E.1 157 _ (-((z8.natAbs : Int) / (z4.natAbs : Int)) - 1, 1, _) dX11_divide_157 (⟨rfl, hS8⟩) hr
          · skip
            first | simp only [cmp_eq, cmp_lt, cmp_ge, cmp_gt, cmp_le, lT0, lT1] at c_129 | simp only [Int32.le_iff_toInt_le, Int32.lt_iff_toInt_lt, ← Int32.toInt_inj, iT0, iT1, iT2, iT3, iT4, iT5, iT6, iT7, iT8, iT9, iT10, iT11, iT12, iT13, iT14, iT15, iT16, iT19, iT20, iT31, iT32, iT42, iT64, iT200, iT318, iT319, iT1000, iTm1, iTm2] at c_129
            have hsg := sg_T ((z8.natAbs : Int) % (z4.natAbs : Int))
            refine j_setI (ws' := [(q 0, .inr (10, mF t n q co cr po tx ty)), (q 10, aI G 320 (rg [z0, z1, z2, z3, z4, z5, (-((z8.natAbs : Int) / (z4.natAbs : Int))), z7, z8, z9, z10, z11, ((z8.natAbs : Int) % (z4.natAbs : Int)), z13, z14, z15])), (q 11, aZ G 16 (upd (upd (upd sf 6 0) 12 0) 6 (sf 8)))]) (g := rg [z0, z1, z2, z3, z4, z5, (-((z8.natAbs : Int) / (z4.natAbs : Int))), z7, z8, z9, z10, z11, ((z8.natAbs : Int) % (z4.natAbs : Int)), z13, z14, z15]) 1 rfl (rg_abs (rg_neg6 _ _ _ _ _ _ _ _ _ _ _ _ _ _ _ _)) rfl ?_
            refine j_eq (ws' := [(q 0, .inr (10, mF t n q co cr po tx ty)), (q 10, aI G 320 (rg [z0, z1, z2, z3, z4, z5, (z8 / (z4.natAbs : Int)), z7, z8, z9, z10, z11, ((z8.natAbs : Int) % (z4.natAbs : Int)), z13, z14, z15])), (q 11, aZ G 16 (upd (upd (upd sf 6 0) 12 0) 6 (sf 8)))]) (by rw [dv_neg0 hB hs1.2 (by omega)]) rfl ?_
            have hq9 : z8 / (z4.natAbs : Int) ≤ 0 := by rw [dv_neg0 hB hs1.2 (by omega)]; have := Int.ediv_nonneg (show (0 : Int) ≤ (z8.natAbs : Int) by omega) (Int.le_of_lt hB); omega
            exact E.1 132 _ (z14, z15, _) dX11_divide_132 ⟨rfl, okS_cong (okS_set (d := 12) rfl (by decide) (okS_set (d := 6) (b := sf 8) rfl (by decide) hS (Or.inr ⟨hs1.1, hq9⟩)) (b := 0) (Or.inl ⟨rfl, (d_rng _ hB).1⟩)) (upsw 6 _ _ _ _ (by decide))⟩ hr
      · skip
        first | simp only [cmp_eq, cmp_lt, cmp_ge, cmp_gt, cmp_le, lT0, lT1] at c_20 | simp only [Int32.le_iff_toInt_le, Int32.lt_iff_toInt_lt, ← Int32.toInt_inj, iT0, iT1, iT2, iT3, iT4, iT5, iT6, iT7, iT8, iT9, iT10, iT11, iT12, iT13, iT14, iT15, iT16, iT19, iT20, iT31, iT32, iT42, iT64, iT200, iT318, iT319, iT1000, iTm1, iTm2] at c_20
        obtain ⟨kk, rfl⟩ : ∃ k1, kk = k1 + 1 := ⟨kk - 1, by omega⟩
        refine j_aload_n X dX11_divide_23 rfl 0 rfl ?_
        refine j_bipush (v := 12) X dX11_divide_24 (by decide) ?_
        refine j_aload_n X dX11_divide_26 rfl 0 rfl ?_
        refine j_get (v := .ref (q 10)) X dX11_divide_27 0 rfl 12 rfl in_X11_divide_X11 (by decide) fl_X11_divide_39 rfl ?_
        refine j_bipush (v := 20) X dX11_divide_30 (by decide) ?_
        refine j_iload_n X dX11_divide_32 rfl 2 rfl ?_
        refine j_imul X dX11_divide_33 ?_
        rw [show (20 : Int32) * 8 = 160 from by decide]
        refine j_iload X dX11_divide_34 4 rfl ?_
        refine j_bipush (v := 16) X dX11_divide_36 (by decide) ?_
        refine j_idiv X dX11_divide_38 (by decide) ?_
        refine j_iadd X dX11_divide_39 ?_
        refine j_iald X dX11_divide_40 1 rfl (20 * 8 + kk / 16) (i_nI (ix20d (r := 8) rfl (by omega) (by decide) (by omega)) (by omega)) (by omega) (by decide) ?_
        refine j_iload X dX11_divide_41 4 rfl ?_
        refine j_bipush (v := 16) X dX11_divide_43 (by decide) ?_
        refine j_irem X dX11_divide_45 (by decide) ?_
        refine j_ishr X dX11_divide_46 ?_
        refine j_iconst (v := 1) X dX11_divide_47 rfl ?_
        refine j_iand X dX11_divide_48 ?_
        refine j_topi (fun x_6 ex_6 => ?_)
        have hbit : x_6.toInt = (z8.natAbs : Int) / 2 ^ kk % 2 := bt_at (rg_at _ (by omega)) (i_rm (x := k) (by omega) (by omega) (by decide) (by decide) rfl) ex_6
        have hbit2 : x_6.toInt = 0 ∨ x_6.toInt = 1 := by omega
        have hM : 2 * ((z8.natAbs : Int) / 2 ^ (kk + 1)) + x_6.toInt = (z8.natAbs : Int) / 2 ^ kk := by rw [hbit]; exact dv_bit.symm
        have hr0 := d_rng ((z8.natAbs : Int) / 2 ^ (kk + 1)) hB
        have hq0 : 0 ≤ (z8.natAbs : Int) / 2 ^ (kk + 1) / (z4.natAbs : Int) := Int.ediv_nonneg (Int.ediv_nonneg (by omega) (Int.le_of_lt (Int.pow_pos (by decide)))) (by omega)
        refine j_callV X dX11_divide_49 (c_X11_doubled l G q t n co cr po tx ty [z0, z1, z2, z3, z4, z5, ((z8.natAbs : Int) / 2 ^ (kk + 1) / (z4.natAbs : Int)), z7, z8, z9, z10, z11, ((z8.natAbs : Int) / 2 ^ (kk + 1) % (z4.natAbs : Int)), z13, z14, z15] rfl (upd (upd sf 6 0) 12 0) 12 12 rfl (by decide) x_6 hbit2 hr0.1) gX11_divide_X11_doubled rfl hy_X11_doubled_V ⟨Nat.le_of_ble_eq_true rfl, Nat.le_of_ble_eq_true rfl⟩ 0 rfl rfl [0, 1, 2] rfl (by decide) rfl rfl (Nat.le_of_ble_eq_true rfl) ⟨Nat.le_of_ble_eq_true rfl, Nat.le_of_ble_eq_true rfl⟩ ?_
        rintro _ ⟨⟩ rfl
        change J p l e rm_X11_divide s m args below meth c Q G A 6 0 0 52 [(0, .ref (q 0)), (1, .int 6), (2, .int 8), (3, .int 4), (4, .int k)] [] [(q 0, .inr (10, mF t n q co cr po tx ty)), (q 10, aI G 320 (rg [z0, z1, z2, z3, z4, z5, ((z8.natAbs : Int) / 2 ^ (kk + 1) / (z4.natAbs : Int)), z7, z8, z9, z10, z11, (2 * ((z8.natAbs : Int) / 2 ^ (kk + 1) % (z4.natAbs : Int)) + x_6.toInt), z13, z14, z15])), (q 11, aZ G 16 (upd (upd sf 6 0) 12 0))]
        refine j_aload_n X dX11_divide_52 rfl 0 rfl ?_
        refine j_bipush (v := 12) X dX11_divide_53 (by decide) ?_
        refine j_iload_n X dX11_divide_55 rfl 3 rfl ?_
        refine j_callV X dX11_divide_56 (c_X11_sizes l G q t n co cr po tx ty [z0, z1, z2, z3, z4, z5, ((z8.natAbs : Int) / 2 ^ (kk + 1) / (z4.natAbs : Int)), z7, z8, z9, z10, z11, (2 * ((z8.natAbs : Int) / 2 ^ (kk + 1) % (z4.natAbs : Int)) + x_6.toInt), z13, z14, z15] rfl (upd (upd sf 6 0) 12 0) 12 12 rfl (by decide) 4 4 rfl (by decide) (show (2 * ((z8.natAbs : Int) / 2 ^ (kk + 1) % (z4.natAbs : Int)) + x_6.toInt).natAbs < 2135987035920910082395021706169552114602704522356652769947041607822219725780640550022962086936576 by omega) (show z4.natAbs < 2135987035920910082395021706169552114602704522356652769947041607822219725780640550022962086936576 by omega)) gX11_divide_X11_sizes rfl hy_X11_sizes_V ⟨Nat.le_of_ble_eq_true rfl, Nat.le_of_ble_eq_true rfl⟩ 0 rfl rfl [0, 1, 2] rfl (by decide) rfl rfl (Nat.le_of_ble_eq_true rfl) ⟨Nat.le_of_ble_eq_true rfl, Nat.le_of_ble_eq_true rfl⟩ ?_
        rintro _ ⟨⟩ rfl
        change J p l e rm_X11_divide s m args below meth c Q G A 6 0 0 59 [(0, .ref (q 0)), (1, .int 6), (2, .int 8), (3, .int 4), (4, .int k)] [.int (sg (((2 * ((z8.natAbs : Int) / 2 ^ (kk + 1) % (z4.natAbs : Int)) + x_6.toInt).natAbs : Int) - (z4.natAbs : Int)))] [(q 0, .inr (10, mF t n q co cr po tx ty)), (q 10, aI G 320 (rg [z0, z1, z2, z3, z4, z5, ((z8.natAbs : Int) / 2 ^ (kk + 1) / (z4.natAbs : Int)), z7, z8, z9, z10, z11, (2 * ((z8.natAbs : Int) / 2 ^ (kk + 1) % (z4.natAbs : Int)) + x_6.toInt), z13, z14, z15])), (q 11, aZ G 16 (upd (upd sf 6 0) 12 0))]
        refine j_if_lt (tgt := 66) X dX11_divide_59 (by decide) (fun c_59 => ?_) (fun c_59 => ?_)
        · skip
          have hsg := sg_T (((2 * ((z8.natAbs : Int) / 2 ^ (kk + 1) % (z4.natAbs : Int)) + x_6.toInt).natAbs : Int) - (z4.natAbs : Int))
          first | simp only [cmp_eq, cmp_lt, cmp_ge, cmp_gt, cmp_le, lT0, lT1] at c_59 | simp only [Int32.le_iff_toInt_le, Int32.lt_iff_toInt_lt, ← Int32.toInt_inj, iT0, iT1, iT2, iT3, iT4, iT5, iT6, iT7, iT8, iT9, iT10, iT11, iT12, iT13, iT14, iT15, iT16, iT19, iT20, iT31, iT32, iT42, iT64, iT200, iT318, iT319, iT1000, iTm1, iTm2] at c_59
          have hq := dv_no (M := (z8.natAbs : Int) / 2 ^ (kk + 1)) hB hbit2 (by omega)
          rw [hM] at hq
          refine j_iconst (v := 0) X dX11_divide_66 rfl ?_
          refine j_istore (L' := [(5, .int 0), (0, .ref (q 0)), (1, .int 6), (2, .int 8), (3, .int 4), (4, .int k)]) X dX11_divide_67 (by decide) rfl ?_
          refine j_iload X dX11_divide_69 0 rfl ?_
          refine j_if_eq (tgt := 81) X dX11_divide_71 (by decide) (fun _ => ?_) (fun c9 => absurd c9 (by decide))
          refine j_aload_n X dX11_divide_81 rfl 1 rfl ?_
          refine j_iload_n X dX11_divide_82 rfl 2 rfl ?_
          refine j_iload X dX11_divide_83 0 rfl ?_
          refine j_if_eq (tgt := 92) X dX11_divide_85 (by decide) (fun _ => ?_) (fun c9 => absurd c9 (by decide))
          refine j_iconst (v := 0) X dX11_divide_92 rfl ?_
          refine j_callV X dX11_divide_93 (c_X11_doubled l G q t n co cr po tx ty [z0, z1, z2, z3, z4, z5, ((z8.natAbs : Int) / 2 ^ (kk + 1) / (z4.natAbs : Int)), z7, z8, z9, z10, z11, (2 * ((z8.natAbs : Int) / 2 ^ (kk + 1) % (z4.natAbs : Int)) + x_6.toInt), z13, z14, z15] rfl (upd (upd sf 6 0) 12 0) 6 6 rfl (by decide) 0 (by decide) hq0) gX11_divide_X11_doubled rfl hy_X11_doubled_V ⟨Nat.le_of_ble_eq_true rfl, Nat.le_of_ble_eq_true rfl⟩ 0 rfl rfl [0, 1, 2] rfl (by decide) rfl rfl (Nat.le_of_ble_eq_true rfl) ⟨Nat.le_of_ble_eq_true rfl, Nat.le_of_ble_eq_true rfl⟩ ?_
          rintro _ ⟨⟩ rfl
          change J p l e rm_X11_divide s m args below meth c Q G A 6 0 0 96 [(5, .int 0), (0, .ref (q 0)), (1, .int 6), (2, .int 8), (3, .int 4), (4, .int k)] [] [(q 0, .inr (10, mF t n q co cr po tx ty)), (q 10, aI G 320 (rg [z0, z1, z2, z3, z4, z5, (2 * ((z8.natAbs : Int) / 2 ^ (kk + 1) / (z4.natAbs : Int)) + (0 : Int32).toInt), z7, z8, z9, z10, z11, (2 * ((z8.natAbs : Int) / 2 ^ (kk + 1) % (z4.natAbs : Int)) + x_6.toInt), z13, z14, z15])), (q 11, aZ G 16 (upd (upd sf 6 0) 12 0))]
          rw [iT0]
          obtain ⟨x_7, ex_7⟩ : ∃ y9 : Int32, y9 = k + (-1) := ⟨_, rfl⟩
          refine j_iinc (v := x_7) (L' := [(4, .int x_7), (5, .int 0), (0, .ref (q 0)), (1, .int 6), (2, .int 8), (3, .int 4)]) X dX11_divide_96 5 rfl (by rw [ex_7]; rfl) (by decide) rfl ?_
          refine j_goto (tgt := 18) X dX11_divide_99 (by decide) ?_
          refine j_sub [2, 3, 4, 5, 0] rfl ?_
          refine j_eq (ws' := [(q 0, .inr (10, mF t n q co cr po tx ty)), (q 10, aI G 320 (rg [z0, z1, z2, z3, z4, z5, ((z8.natAbs : Int) / 2 ^ kk / (z4.natAbs : Int)), z7, z8, z9, z10, z11, ((z8.natAbs : Int) / 2 ^ kk % (z4.natAbs : Int)), z13, z14, z15])), (q 11, aZ G 16 (upd (upd sf 6 0) 12 0))]) (by rw [hq.1, hq.2]; try rw [Int.add_zero]) rfl ?_
          exact ih kk x_7 (by omega) (by rw [x_dec hk2 (by omega) ex_7]; omega) (by omega)
        · skip
          have hsg := sg_T (((2 * ((z8.natAbs : Int) / 2 ^ (kk + 1) % (z4.natAbs : Int)) + x_6.toInt).natAbs : Int) - (z4.natAbs : Int))
          first | simp only [cmp_eq, cmp_lt, cmp_ge, cmp_gt, cmp_le, lT0, lT1] at c_59 | simp only [Int32.le_iff_toInt_le, Int32.lt_iff_toInt_lt, ← Int32.toInt_inj, iT0, iT1, iT2, iT3, iT4, iT5, iT6, iT7, iT8, iT9, iT10, iT11, iT12, iT13, iT14, iT15, iT16, iT19, iT20, iT31, iT32, iT42, iT64, iT200, iT318, iT319, iT1000, iTm1, iTm2] at c_59
          have hq := dv_go (M := (z8.natAbs : Int) / 2 ^ (kk + 1)) hB hbit2 (by omega)
          rw [hM] at hq
          refine j_iconst (v := 1) X dX11_divide_62 rfl ?_
          refine j_goto (tgt := 67) X dX11_divide_63 (by decide) ?_
          refine j_istore (L' := [(5, .int 1), (0, .ref (q 0)), (1, .int 6), (2, .int 8), (3, .int 4), (4, .int k)]) X dX11_divide_67 (by decide) rfl ?_
          refine j_iload X dX11_divide_69 0 rfl ?_
          refine j_if_eq (tgt := 81) X dX11_divide_71 (by decide) (fun c9 => absurd c9 (by decide)) (fun _ => ?_)
          refine j_aload_n X dX11_divide_74 rfl 1 rfl ?_
          refine j_bipush (v := 12) X dX11_divide_75 (by decide) ?_
          refine j_iload_n X dX11_divide_77 rfl 4 rfl ?_
          refine j_callV X dX11_divide_78 (c_X11_takeAway l G q t n co cr po tx ty [z0, z1, z2, z3, z4, z5, ((z8.natAbs : Int) / 2 ^ (kk + 1) / (z4.natAbs : Int)), z7, z8, z9, z10, z11, (2 * ((z8.natAbs : Int) / 2 ^ (kk + 1) % (z4.natAbs : Int)) + x_6.toInt), z13, z14, z15] rfl (upd (upd sf 6 0) 12 0) 12 12 rfl (by decide) 4 4 rfl (by decide) (by decide) (show (z4.natAbs : Int) ≤ 2 * ((z8.natAbs : Int) / 2 ^ (kk + 1) % (z4.natAbs : Int)) + x_6.toInt by omega)) gX11_divide_X11_takeAway rfl hy_X11_takeAway_V ⟨Nat.le_of_ble_eq_true rfl, Nat.le_of_ble_eq_true rfl⟩ 0 rfl rfl [0, 1, 2] rfl (by decide) rfl rfl (Nat.le_of_ble_eq_true rfl) ⟨Nat.le_of_ble_eq_true rfl, Nat.le_of_ble_eq_true rfl⟩ ?_
          rintro _ ⟨⟩ rfl
          change J p l e rm_X11_divide s m args below meth c Q G A 6 0 0 81 [(5, .int 1), (0, .ref (q 0)), (1, .int 6), (2, .int 8), (3, .int 4), (4, .int k)] [] [(q 0, .inr (10, mF t n q co cr po tx ty)), (q 10, aI G 320 (rg [z0, z1, z2, z3, z4, z5, ((z8.natAbs : Int) / 2 ^ (kk + 1) / (z4.natAbs : Int)), z7, z8, z9, z10, z11, ((2 * ((z8.natAbs : Int) / 2 ^ (kk + 1) % (z4.natAbs : Int)) + x_6.toInt) - (z4.natAbs : Int)), z13, z14, z15])), (q 11, aZ G 16 (upd (upd sf 6 0) 12 0))]
          refine j_aload_n X dX11_divide_81 rfl 1 rfl ?_
          refine j_iload_n X dX11_divide_82 rfl 2 rfl ?_
          refine j_iload X dX11_divide_83 0 rfl ?_
          refine j_if_eq (tgt := 92) X dX11_divide_85 (by decide) (fun c9 => absurd c9 (by decide)) (fun _ => ?_)
          refine j_iconst (v := 1) X dX11_divide_88 rfl ?_
          refine j_goto (tgt := 93) X dX11_divide_89 (by decide) ?_
          refine j_callV X dX11_divide_93 (c_X11_doubled l G q t n co cr po tx ty [z0, z1, z2, z3, z4, z5, ((z8.natAbs : Int) / 2 ^ (kk + 1) / (z4.natAbs : Int)), z7, z8, z9, z10, z11, ((2 * ((z8.natAbs : Int) / 2 ^ (kk + 1) % (z4.natAbs : Int)) + x_6.toInt) - (z4.natAbs : Int)), z13, z14, z15] rfl (upd (upd sf 6 0) 12 0) 6 6 rfl (by decide) 1 (by decide) hq0) gX11_divide_X11_doubled rfl hy_X11_doubled_V ⟨Nat.le_of_ble_eq_true rfl, Nat.le_of_ble_eq_true rfl⟩ 0 rfl rfl [0, 1, 2] rfl (by decide) rfl rfl (Nat.le_of_ble_eq_true rfl) ⟨Nat.le_of_ble_eq_true rfl, Nat.le_of_ble_eq_true rfl⟩ ?_
          rintro _ ⟨⟩ rfl
          change J p l e rm_X11_divide s m args below meth c Q G A 6 0 0 96 [(5, .int 1), (0, .ref (q 0)), (1, .int 6), (2, .int 8), (3, .int 4), (4, .int k)] [] [(q 0, .inr (10, mF t n q co cr po tx ty)), (q 10, aI G 320 (rg [z0, z1, z2, z3, z4, z5, (2 * ((z8.natAbs : Int) / 2 ^ (kk + 1) / (z4.natAbs : Int)) + (1 : Int32).toInt), z7, z8, z9, z10, z11, ((2 * ((z8.natAbs : Int) / 2 ^ (kk + 1) % (z4.natAbs : Int)) + x_6.toInt) - (z4.natAbs : Int)), z13, z14, z15])), (q 11, aZ G 16 (upd (upd sf 6 0) 12 0))]
          rw [iT1]
          obtain ⟨x_8, ex_8⟩ : ∃ y9 : Int32, y9 = k + (-1) := ⟨_, rfl⟩
          refine j_iinc (v := x_8) (L' := [(4, .int x_8), (5, .int 1), (0, .ref (q 0)), (1, .int 6), (2, .int 8), (3, .int 4)]) X dX11_divide_96 5 rfl (by rw [ex_8]; rfl) (by decide) rfl ?_
          refine j_goto (tgt := 18) X dX11_divide_99 (by decide) ?_
          refine j_sub [2, 3, 4, 5, 0] rfl ?_
          refine j_eq (ws' := [(q 0, .inr (10, mF t n q co cr po tx ty)), (q 10, aI G 320 (rg [z0, z1, z2, z3, z4, z5, ((z8.natAbs : Int) / 2 ^ kk / (z4.natAbs : Int)), z7, z8, z9, z10, z11, ((z8.natAbs : Int) / 2 ^ kk % (z4.natAbs : Int)), z13, z14, z15])), (q 11, aZ G 16 (upd (upd sf 6 0) 12 0))]) (by rw [hq.1, hq.2]; try rw [Int.add_zero]) rfl ?_
          exact ih kk x_8 (by omega) (by rw [x_dec hk2 (by omega) ex_8]; omega) (by omega)
  refine j_sub [1, 2, 3, 4, 0] rfl ?_
  obtain ⟨K, hK⟩ : ∃ K : Nat, K = 320 := ⟨_, rfl⟩
  refine j_eq (ws' := [(q 0, .inr (10, mF t n q co cr po tx ty)), (q 10, aI G 320 (rg [z0, z1, z2, z3, z4, z5, ((z8.natAbs : Int) / 2 ^ K / (z4.natAbs : Int)), z7, z8, z9, z10, z11, ((z8.natAbs : Int) / 2 ^ K % (z4.natAbs : Int)), z13, z14, z15])), (q 11, aZ G 16 (upd (upd sf 6 0) 12 0))]) (by rw [show (z8.natAbs : Int) / 2 ^ K = 0 from Int.ediv_eq_zero_of_lt (by omega) (by rw [hK, p320]; omega), Int.zero_ediv, Int.zero_emod]) rfl ?_
  exact loop 321 K 319 (by omega) (by rw [hK]; rfl) (by omega)

set_option maxHeartbeats 4000000 in
set_option maxRecDepth 100000 in
theorem c_X11_divide_7_9_4 (l : Launch) (G : jG) (q : Nat → Nat) (t n co cr po : Int32) (tx ty : Int64) (z0 z1 z2 z3 z4 z5 z6 z7 z8 z9 z10 z11 z12 z13 z14 z15 : Int) (sf : Nat → Int32) (hS : okS [z0, z1, z2, z3, z4, z5, z6, z7, z8, z9, z10, z11, z12, z13, z14, z15] sf) (hB : 0 < (z4.natAbs : Int)) (hB2 : (z4.natAbs : Int) < 1067993517960455041197510853084776057301352261178326384973520803911109862890320275011481043468288) (hN : (z9.natAbs : Int) < 1067993517960455041197510853084776057301352261178326384973520803911109862890320275011481043468288) : Ct l yX11_divide wsX11_divide rm_X11_divide G [.ref (q 0), .int 7, .int 9, .int 4] [(q 0, .inr (10, mF t n q co cr po tx ty)), (q 10, aI G 320 (rg [z0, z1, z2, z3, z4, z5, z6, z7, z8, z9, z10, z11, z12, z13, z14, z15])), (q 11, aZ G 16 sf)] (S := Int × Int × (Nat → Int32)) (fun r u => r = none ∧ okS [z0, z1, z2, z3, z4, z5, z6, (z9 / (z4.natAbs : Int)), z8, z9, z10, z11, ((z9.natAbs : Int) % (z4.natAbs : Int)), z13, u.1, u.2.1] u.2.2) (fun u => [(q 0, .inr (10, mF t n q co cr po tx ty)), (q 10, aI G 320 (rg [z0, z1, z2, z3, z4, z5, z6, (z9 / (z4.natAbs : Int)), z8, z9, z10, z11, ((z9.natAbs : Int) % (z4.natAbs : Int)), z13, u.1, u.2.1])), (q 11, aZ G 16 u.2.2)]) (fun _ => []) := by
  refine c_intro (cc := cX11_divide) (maxL := 6) (ret := none) (by decide) rfl (Nat.le_of_ble_eq_true rfl) (fun _ => by simp only [List.map_cons, List.map_nil]) ?_
  intro p e s m args below meth c Q A X hr hin E
  change J p l e rm_X11_divide s m args below meth c Q G A 6 0 0 0 [(0, .ref (q 0)), (1, .int 7), (2, .int 9), (3, .int 4)] [] [(q 0, .inr (10, mF t n q co cr po tx ty)), (q 10, aI G 320 (rg [z0, z1, z2, z3, z4, z5, z6, z7, z8, z9, z10, z11, z12, z13, z14, z15])), (q 11, aZ G 16 sf)]
  refine j_aload_n X dX11_divide_0 rfl 0 rfl ?_
  refine j_iload_n X dX11_divide_1 rfl 1 rfl ?_
  refine j_lconst (v := 0) X dX11_divide_2 rfl ?_
  refine j_callV X dX11_divide_3 (c_X11_load l G q t n co cr po tx ty [z0, z1, z2, z3, z4, z5, z6, z7, z8, z9, z10, z11, z12, z13, z14, z15] rfl sf 7 7 rfl (by decide) 0 ) gX11_divide_X11_load rfl hy_X11_load_V ⟨Nat.le_of_ble_eq_true rfl, Nat.le_of_ble_eq_true rfl⟩ 0 rfl rfl [0, 1, 2] rfl (by decide) rfl rfl (Nat.le_of_ble_eq_true rfl) ⟨Nat.le_of_ble_eq_true rfl, Nat.le_of_ble_eq_true rfl⟩ ?_
  rintro _ b_1 ⟨rfl, hb_1⟩
  obtain rfl : b_1 = 0 := ld0 (by decide) hb_1
  change J p l e rm_X11_divide s m args below meth c Q G A 6 0 0 6 [(0, .ref (q 0)), (1, .int 7), (2, .int 9), (3, .int 4)] [] [(q 0, .inr (10, mF t n q co cr po tx ty)), (q 10, aI G 320 (rg [z0, z1, z2, z3, z4, z5, z6, ((0 : Int64).toInt), z8, z9, z10, z11, z12, z13, z14, z15])), (q 11, aZ G 16 (upd sf 7 0))]
  rw [lT0]
  refine j_aload_n X dX11_divide_6 rfl 0 rfl ?_
  refine j_bipush (v := 12) X dX11_divide_7 (by decide) ?_
  refine j_lconst (v := 0) X dX11_divide_9 rfl ?_
  refine j_callV X dX11_divide_10 (c_X11_load l G q t n co cr po tx ty [z0, z1, z2, z3, z4, z5, z6, 0, z8, z9, z10, z11, z12, z13, z14, z15] rfl (upd sf 7 0) 12 12 rfl (by decide) 0 ) gX11_divide_X11_load rfl hy_X11_load_V ⟨Nat.le_of_ble_eq_true rfl, Nat.le_of_ble_eq_true rfl⟩ 0 rfl rfl [0, 1, 2] rfl (by decide) rfl rfl (Nat.le_of_ble_eq_true rfl) ⟨Nat.le_of_ble_eq_true rfl, Nat.le_of_ble_eq_true rfl⟩ ?_
  rintro _ b_2 ⟨rfl, hb_2⟩
  obtain rfl : b_2 = 0 := ld0 (by decide) hb_2
  change J p l e rm_X11_divide s m args below meth c Q G A 6 0 0 13 [(0, .ref (q 0)), (1, .int 7), (2, .int 9), (3, .int 4)] [] [(q 0, .inr (10, mF t n q co cr po tx ty)), (q 10, aI G 320 (rg [z0, z1, z2, z3, z4, z5, z6, 0, z8, z9, z10, z11, ((0 : Int64).toInt), z13, z14, z15])), (q 11, aZ G 16 (upd (upd sf 7 0) 12 0))]
  rw [lT0]
  refine j_sipush (v := 319) X dX11_divide_13 (by decide) ?_
  refine j_istore (L' := [(4, .int 319), (0, .ref (q 0)), (1, .int 7), (2, .int 9), (3, .int 4)]) X dX11_divide_16 (by decide) rfl ?_
  have loop : ∀ (d : Nat) (kk : Nat) (k : Int32) (hk : kk ≤ 320) (hk2 : k.toInt = (kk : Int) - 1), kk < d → J p l e rm_X11_divide s m args below meth c Q G A 6 0 0 18 [(0, .ref (q 0)), (1, .int 7), (2, .int 9), (3, .int 4), (4, .int k)] [] [(q 0, .inr (10, mF t n q co cr po tx ty)), (q 10, aI G 320 (rg [z0, z1, z2, z3, z4, z5, z6, ((z9.natAbs : Int) / 2 ^ kk / (z4.natAbs : Int)), z8, z9, z10, z11, ((z9.natAbs : Int) / 2 ^ kk % (z4.natAbs : Int)), z13, z14, z15])), (q 11, aZ G 16 (upd (upd sf 7 0) 12 0))] := by
    intro d
    induction d with
    | zero => intro kk k hk hk2 hd0; exact absurd hd0 (Nat.not_lt_zero _)
    | succ d ih =>
      intro kk k hk hk2 hd0
      refine j_iload X dX11_divide_18 4 rfl ?_
      refine j_if_lt (tgt := 102) X dX11_divide_20 (by decide) (fun c_20 => ?_) (fun c_20 => ?_)
      · skip
        first | simp only [cmp_eq, cmp_lt, cmp_ge, cmp_gt, cmp_le, lT0, lT1] at c_20 | simp only [Int32.le_iff_toInt_le, Int32.lt_iff_toInt_lt, ← Int32.toInt_inj, iT0, iT1, iT2, iT3, iT4, iT5, iT6, iT7, iT8, iT9, iT10, iT11, iT12, iT13, iT14, iT15, iT16, iT19, iT20, iT31, iT32, iT42, iT64, iT200, iT318, iT319, iT1000, iTm1, iTm2] at c_20
        have hk0 : kk = 0 := by omega
        subst hk0
        refine j_eq (ws' := [(q 0, .inr (10, mF t n q co cr po tx ty)), (q 10, aI G 320 (rg [z0, z1, z2, z3, z4, z5, z6, ((z9.natAbs : Int) / (z4.natAbs : Int)), z8, z9, z10, z11, ((z9.natAbs : Int) % (z4.natAbs : Int)), z13, z14, z15])), (q 11, aZ G 16 (upd (upd sf 7 0) 12 0))]) (by rw [Int.pow_zero, Int.ediv_one]) rfl ?_
        refine j_aload_n X dX11_divide_102 rfl 0 rfl ?_
        refine j_get (v := .ref (q 11)) X dX11_divide_103 0 rfl 13 rfl in_X11_divide_X11 (by decide) fl_X11_divide_42 rfl ?_
        refine j_iload_n X dX11_divide_106 rfl 1 rfl ?_
        refine j_aload_n X dX11_divide_107 rfl 0 rfl ?_
        refine j_get (v := .ref (q 11)) X dX11_divide_108 0 rfl 13 rfl in_X11_divide_X11 (by decide) fl_X11_divide_42 rfl ?_
        refine j_iload_n X dX11_divide_111 rfl 2 rfl ?_
        refine j_zald X dX11_divide_112 2 rfl 9 rfl (by decide) (by decide) ?_
        refine j_zast (ws' := [(q 0, .inr (10, mF t n q co cr po tx ty)), (q 10, aI G 320 (rg [z0, z1, z2, z3, z4, z5, z6, ((z9.natAbs : Int) / (z4.natAbs : Int)), z8, z9, z10, z11, ((z9.natAbs : Int) % (z4.natAbs : Int)), z13, z14, z15])), (q 11, aZ G 16 (upd (upd (upd sf 7 0) 12 0) 7 (sf 9)))]) X dX11_divide_113 2 rfl 7 rfl (by decide) (by decide) (ok1_01 (hS 9 (by decide))) rfl ?_
        refine j_aload_n X dX11_divide_114 rfl 0 rfl ?_
        refine j_get (v := .ref (q 11)) X dX11_divide_115 0 rfl 13 rfl in_X11_divide_X11 (by decide) fl_X11_divide_42 rfl ?_
        refine j_iload_n X dX11_divide_118 rfl 2 rfl ?_
        refine j_zald X dX11_divide_119 2 rfl 9 rfl (by decide) (by decide) ?_
        refine j_if_eq (tgt := 132) X dX11_divide_120 (by decide) (fun c_120 => ?_) (fun c_120 => ?_)
        · skip
          have hz0 : 0 ≤ z9 := by have := hS 9 (by decide); rcases this with h | h; exact h.2; exact absurd (c_120.symm.trans h.1) (by decide)
          refine j_eq (ws' := [(q 0, .inr (10, mF t n q co cr po tx ty)), (q 10, aI G 320 (rg [z0, z1, z2, z3, z4, z5, z6, (z9 / (z4.natAbs : Int)), z8, z9, z10, z11, ((z9.natAbs : Int) % (z4.natAbs : Int)), z13, z14, z15])), (q 11, aZ G 16 (upd (upd (upd sf 7 0) 12 0) 7 (sf 9)))]) (by rw [show (z9.natAbs : Int) = z9 by omega]) rfl ?_
          exact E.1 132 _ (z14, z15, _) dX11_divide_132 (⟨rfl, okS_cong (okS_set (d := 12) rfl (by decide) (okS_set (d := 7) (b := sf 9) rfl (by decide) hS (Or.inl ⟨c_120, Int.ediv_nonneg hz0 (by omega)⟩)) (b := 0) (Or.inl ⟨rfl, (d_rng _ hB).1⟩)) (upsw 7 _ _ _ _ (by decide))⟩) hr
        · skip
          have hs1 : sf 9 = 1 ∧ z9 ≤ 0 := by have := hS 9 (by decide); rcases this with h | h; exact absurd h.1 c_120; exact h
          refine j_aload_n X dX11_divide_123 rfl 0 rfl ?_
          refine j_bipush (v := 12) X dX11_divide_124 (by decide) ?_
          refine j_callV X dX11_divide_126 (c_X11_sign l G q t n co cr po tx ty [z0, z1, z2, z3, z4, z5, z6, ((z9.natAbs : Int) / (z4.natAbs : Int)), z8, z9, z10, z11, ((z9.natAbs : Int) % (z4.natAbs : Int)), z13, z14, z15] rfl (upd (upd (upd sf 7 0) 12 0) 7 (sf 9)) 12 12 rfl (by decide) (Or.inl ⟨rfl, (d_rng _ hB).1⟩) (show ((z9.natAbs : Int) % (z4.natAbs : Int)).natAbs < 2135987035920910082395021706169552114602704522356652769947041607822219725780640550022962086936576 by have := d_rng (z9.natAbs : Int) hB; omega)) gX11_divide_X11_sign rfl hy_X11_sign_V ⟨Nat.le_of_ble_eq_true rfl, Nat.le_of_ble_eq_true rfl⟩ 0 rfl rfl [0, 1, 2] rfl (by decide) rfl rfl (Nat.le_of_ble_eq_true rfl) ⟨Nat.le_of_ble_eq_true rfl, Nat.le_of_ble_eq_true rfl⟩ ?_
          rintro _ ⟨⟩ rfl
          change J p l e rm_X11_divide s m args below meth c Q G A 6 0 0 129 [(0, .ref (q 0)), (1, .int 7), (2, .int 9), (3, .int 4), (4, .int k)] [.int (sg ((z9.natAbs : Int) % (z4.natAbs : Int)))] [(q 0, .inr (10, mF t n q co cr po tx ty)), (q 10, aI G 320 (rg [z0, z1, z2, z3, z4, z5, z6, ((z9.natAbs : Int) / (z4.natAbs : Int)), z8, z9, z10, z11, ((z9.natAbs : Int) % (z4.natAbs : Int)), z13, z14, z15])), (q 11, aZ G 16 (upd (upd (upd sf 7 0) 12 0) 7 (sf 9)))]
          refine j_if_ne (tgt := 133) X dX11_divide_129 (by decide) (fun c_129 => ?_) (fun c_129 => ?_)
          · skip
            first | simp only [cmp_eq, cmp_lt, cmp_ge, cmp_gt, cmp_le, lT0, lT1] at c_129 | simp only [Int32.le_iff_toInt_le, Int32.lt_iff_toInt_lt, ← Int32.toInt_inj, iT0, iT1, iT2, iT3, iT4, iT5, iT6, iT7, iT8, iT9, iT10, iT11, iT12, iT13, iT14, iT15, iT16, iT19, iT20, iT31, iT32, iT42, iT64, iT200, iT318, iT319, iT1000, iTm1, iTm2] at c_129
            have hsg := sg_T ((z9.natAbs : Int) % (z4.natAbs : Int))
            refine j_setI (ws' := [(q 0, .inr (10, mF t n q co cr po tx ty)), (q 10, aI G 320 (rg [z0, z1, z2, z3, z4, z5, z6, (-((z9.natAbs : Int) / (z4.natAbs : Int))), z8, z9, z10, z11, ((z9.natAbs : Int) % (z4.natAbs : Int)), z13, z14, z15])), (q 11, aZ G 16 (upd (upd (upd sf 7 0) 12 0) 7 (sf 9)))]) (g := rg [z0, z1, z2, z3, z4, z5, z6, (-((z9.natAbs : Int) / (z4.natAbs : Int))), z8, z9, z10, z11, ((z9.natAbs : Int) % (z4.natAbs : Int)), z13, z14, z15]) 1 rfl (rg_abs (rg_neg7 _ _ _ _ _ _ _ _ _ _ _ _ _ _ _ _)) rfl ?_
            have hq9 : 0 ≤ (z9.natAbs : Int) / (z4.natAbs : Int) := Int.ediv_nonneg (by omega) (Int.le_of_lt hB)
            have hS3 : okS [z0, z1, z2, z3, z4, z5, z6, (-((z9.natAbs : Int) / (z4.natAbs : Int))), z8, z9, z10, z11, ((z9.natAbs : Int) % (z4.natAbs : Int)), z13, z14, z15] (upd (upd (upd sf 7 0) 12 0) 7 (sf 9)) := okS_cong (okS_set (d := 12) rfl (by decide) (okS_set (d := 7) (b := sf 9) rfl (by decide) hS (Or.inr ⟨hs1.1, by omega⟩)) (b := 0) (Or.inl ⟨rfl, (d_rng _ hB).1⟩)) (upsw 7 _ _ _ _ (by decide))
            refine j_aload_n X dX11_divide_133 rfl 0 rfl ?_
            refine j_bipush (v := 15) X dX11_divide_134 (by decide) ?_
            refine j_lconst (v := 1) X dX11_divide_136 rfl ?_
            refine j_callV X dX11_divide_137 (h_load l G q t n co cr po tx ty ([z0, z1, z2, z3, z4, z5, z6, (-((z9.natAbs : Int) / (z4.natAbs : Int))), z8, z9, z10, z11, ((z9.natAbs : Int) % (z4.natAbs : Int)), z13, z14, z15]) (upd (upd (upd sf 7 0) 12 0) 7 (sf 9)) rfl hS3 15 15 rfl (by decide) 1 ) gX11_divide_X11_load rfl hy_X11_load_V ⟨Nat.le_of_ble_eq_true rfl, Nat.le_of_ble_eq_true rfl⟩ 0 rfl rfl [0, 1, 2] rfl (by decide) rfl rfl (Nat.le_of_ble_eq_true rfl) ⟨Nat.le_of_ble_eq_true rfl, Nat.le_of_ble_eq_true rfl⟩ ?_
            rintro _ sf_3 ⟨rfl, hS_sf_3⟩
            change J p l e rm_X11_divide s m args below meth c Q G A 6 0 0 140 [(0, .ref (q 0)), (1, .int 7), (2, .int 9), (3, .int 4), (4, .int k)] [] [(q 0, .inr (10, mF t n q co cr po tx ty)), (q 10, aI G 320 (rg [z0, z1, z2, z3, z4, z5, z6, (-((z9.natAbs : Int) / (z4.natAbs : Int))), z8, z9, z10, z11, ((z9.natAbs : Int) % (z4.natAbs : Int)), z13, z14, ((1 : Int64).toInt)])), (q 11, aZ G 16 sf_3)]
            rw [lT1] at hS_sf_3 ⊢
            refine j_aload_n X dX11_divide_140 rfl 0 rfl ?_
            refine j_bipush (v := 14) X dX11_divide_141 (by decide) ?_
            refine j_iload_n X dX11_divide_143 rfl 1 rfl ?_
            refine j_bipush (v := 15) X dX11_divide_144 (by decide) ?_
            refine j_iconst (v := 1) X dX11_divide_146 rfl ?_
            refine j_callV X dX11_divide_147 (h_join l G q t n co cr po tx ty ([z0, z1, z2, z3, z4, z5, z6, (-((z9.natAbs : Int) / (z4.natAbs : Int))), z8, z9, z10, z11, ((z9.natAbs : Int) % (z4.natAbs : Int)), z13, z14, 1]) sf_3 rfl hS_sf_3 14 14 rfl (by decide) 7 7 rfl (by decide) 15 15 rfl (by decide) 1 (Or.inr rfl) (by decide) (by decide) (show (-((z9.natAbs : Int) / (z4.natAbs : Int))).natAbs < 2135987035920910082395021706169552114602704522356652769947041607822219725780640550022962086936576 by have := Int.ediv_le_self (z4.natAbs : Int) (show (0:Int) ≤ (z9.natAbs : Int) by omega); have := Int.ediv_nonneg (show (0:Int) ≤ (z9.natAbs : Int) by omega) (Int.le_of_lt hB); omega) (show (1 : Int).natAbs < 2135987035920910082395021706169552114602704522356652769947041607822219725780640550022962086936576 by decide)) gX11_divide_X11_join rfl hy_X11_join_V ⟨Nat.le_of_ble_eq_true rfl, Nat.le_of_ble_eq_true rfl⟩ 0 rfl rfl [0, 1, 2] rfl (by decide) rfl rfl (Nat.le_of_ble_eq_true rfl) ⟨Nat.le_of_ble_eq_true rfl, Nat.le_of_ble_eq_true rfl⟩ ?_
            rintro _ sf_4 ⟨rfl, hS_sf_4⟩
            change J p l e rm_X11_divide s m args below meth c Q G A 6 0 0 150 [(0, .ref (q 0)), (1, .int 7), (2, .int 9), (3, .int 4), (4, .int k)] [] [(q 0, .inr (10, mF t n q co cr po tx ty)), (q 10, aI G 320 (rg [z0, z1, z2, z3, z4, z5, z6, (-((z9.natAbs : Int) / (z4.natAbs : Int))), z8, z9, z10, z11, ((z9.natAbs : Int) % (z4.natAbs : Int)), z13, ((-((z9.natAbs : Int) / (z4.natAbs : Int))) - 1), 1])), (q 11, aZ G 16 sf_4)]
            refine j_aload_n X dX11_divide_150 rfl 0 rfl ?_
            refine j_iload_n X dX11_divide_151 rfl 1 rfl ?_
            refine j_bipush (v := 14) X dX11_divide_152 (by decide) ?_
            refine j_callV X dX11_divide_154 (h_copy l G q t n co cr po tx ty ([z0, z1, z2, z3, z4, z5, z6, (-((z9.natAbs : Int) / (z4.natAbs : Int))), z8, z9, z10, z11, ((z9.natAbs : Int) % (z4.natAbs : Int)), z13, ((-((z9.natAbs : Int) / (z4.natAbs : Int))) - 1), 1]) sf_4 rfl hS_sf_4 7 7 rfl (by decide) 14 14 rfl (by decide) (by decide)) gX11_divide_X11_copy rfl hy_X11_copy_V ⟨Nat.le_of_ble_eq_true rfl, Nat.le_of_ble_eq_true rfl⟩ 0 rfl rfl [0, 1, 2] rfl (by decide) rfl rfl (Nat.le_of_ble_eq_true rfl) ⟨Nat.le_of_ble_eq_true rfl, Nat.le_of_ble_eq_true rfl⟩ ?_
            rintro _ sf_5 ⟨rfl, hS_sf_5⟩
            change J p l e rm_X11_divide s m args below meth c Q G A 6 0 0 157 [(0, .ref (q 0)), (1, .int 7), (2, .int 9), (3, .int 4), (4, .int k)] [] [(q 0, .inr (10, mF t n q co cr po tx ty)), (q 10, aI G 320 (rg [z0, z1, z2, z3, z4, z5, z6, ((-((z9.natAbs : Int) / (z4.natAbs : Int))) - 1), z8, z9, z10, z11, ((z9.natAbs : Int) % (z4.natAbs : Int)), z13, ((-((z9.natAbs : Int) / (z4.natAbs : Int))) - 1), 1])), (q 11, aZ G 16 sf_5)]
            refine j_eq (ws' := [(q 0, .inr (10, mF t n q co cr po tx ty)), (q 10, aI G 320 (rg [z0, z1, z2, z3, z4, z5, z6, (z9 / (z4.natAbs : Int)), z8, z9, z10, z11, ((z9.natAbs : Int) % (z4.natAbs : Int)), z13, (-((z9.natAbs : Int) / (z4.natAbs : Int)) - 1), 1])), (q 11, aZ G 16 sf_5)]) (by rw [dv_neg1 hB hs1.2 (by omega)]) rfl ?_
            have hS9 := hS_sf_5
            have hS8 : okS [z0, z1, z2, z3, z4, z5, z6, (z9 / (z4.natAbs : Int)), z8, z9, z10, z11, ((z9.natAbs : Int) % (z4.natAbs : Int)), z13, (-((z9.natAbs : Int) / (z4.natAbs : Int)) - 1), 1] sf_5 := by rw [dv_neg1 hB hs1.2 (by omega)]; exact hS9
            exact E.1 157 _ (-((z9.natAbs : Int) / (z4.natAbs : Int)) - 1, 1, _) dX11_divide_157 (⟨rfl, hS8⟩) hr
          · skip
            first | simp only [cmp_eq, cmp_lt, cmp_ge, cmp_gt, cmp_le, lT0, lT1] at c_129 | simp only [Int32.le_iff_toInt_le, Int32.lt_iff_toInt_lt, ← Int32.toInt_inj, iT0, iT1, iT2, iT3, iT4, iT5, iT6, iT7, iT8, iT9, iT10, iT11, iT12, iT13, iT14, iT15, iT16, iT19, iT20, iT31, iT32, iT42, iT64, iT200, iT318, iT319, iT1000, iTm1, iTm2] at c_129
            have hsg := sg_T ((z9.natAbs : Int) % (z4.natAbs : Int))
            refine j_setI (ws' := [(q 0, .inr (10, mF t n q co cr po tx ty)), (q 10, aI G 320 (rg [z0, z1, z2, z3, z4, z5, z6, (-((z9.natAbs : Int) / (z4.natAbs : Int))), z8, z9, z10, z11, ((z9.natAbs : Int) % (z4.natAbs : Int)), z13, z14, z15])), (q 11, aZ G 16 (upd (upd (upd sf 7 0) 12 0) 7 (sf 9)))]) (g := rg [z0, z1, z2, z3, z4, z5, z6, (-((z9.natAbs : Int) / (z4.natAbs : Int))), z8, z9, z10, z11, ((z9.natAbs : Int) % (z4.natAbs : Int)), z13, z14, z15]) 1 rfl (rg_abs (rg_neg7 _ _ _ _ _ _ _ _ _ _ _ _ _ _ _ _)) rfl ?_
            refine j_eq (ws' := [(q 0, .inr (10, mF t n q co cr po tx ty)), (q 10, aI G 320 (rg [z0, z1, z2, z3, z4, z5, z6, (z9 / (z4.natAbs : Int)), z8, z9, z10, z11, ((z9.natAbs : Int) % (z4.natAbs : Int)), z13, z14, z15])), (q 11, aZ G 16 (upd (upd (upd sf 7 0) 12 0) 7 (sf 9)))]) (by rw [dv_neg0 hB hs1.2 (by omega)]) rfl ?_
            have hq9 : z9 / (z4.natAbs : Int) ≤ 0 := by rw [dv_neg0 hB hs1.2 (by omega)]; have := Int.ediv_nonneg (show (0 : Int) ≤ (z9.natAbs : Int) by omega) (Int.le_of_lt hB); omega
            exact E.1 132 _ (z14, z15, _) dX11_divide_132 ⟨rfl, okS_cong (okS_set (d := 12) rfl (by decide) (okS_set (d := 7) (b := sf 9) rfl (by decide) hS (Or.inr ⟨hs1.1, hq9⟩)) (b := 0) (Or.inl ⟨rfl, (d_rng _ hB).1⟩)) (upsw 7 _ _ _ _ (by decide))⟩ hr
      · skip
        first | simp only [cmp_eq, cmp_lt, cmp_ge, cmp_gt, cmp_le, lT0, lT1] at c_20 | simp only [Int32.le_iff_toInt_le, Int32.lt_iff_toInt_lt, ← Int32.toInt_inj, iT0, iT1, iT2, iT3, iT4, iT5, iT6, iT7, iT8, iT9, iT10, iT11, iT12, iT13, iT14, iT15, iT16, iT19, iT20, iT31, iT32, iT42, iT64, iT200, iT318, iT319, iT1000, iTm1, iTm2] at c_20
        obtain ⟨kk, rfl⟩ : ∃ k1, kk = k1 + 1 := ⟨kk - 1, by omega⟩
        refine j_aload_n X dX11_divide_23 rfl 0 rfl ?_
        refine j_bipush (v := 12) X dX11_divide_24 (by decide) ?_
        refine j_aload_n X dX11_divide_26 rfl 0 rfl ?_
        refine j_get (v := .ref (q 10)) X dX11_divide_27 0 rfl 12 rfl in_X11_divide_X11 (by decide) fl_X11_divide_39 rfl ?_
        refine j_bipush (v := 20) X dX11_divide_30 (by decide) ?_
        refine j_iload_n X dX11_divide_32 rfl 2 rfl ?_
        refine j_imul X dX11_divide_33 ?_
        rw [show (20 : Int32) * 9 = 180 from by decide]
        refine j_iload X dX11_divide_34 4 rfl ?_
        refine j_bipush (v := 16) X dX11_divide_36 (by decide) ?_
        refine j_idiv X dX11_divide_38 (by decide) ?_
        refine j_iadd X dX11_divide_39 ?_
        refine j_iald X dX11_divide_40 1 rfl (20 * 9 + kk / 16) (i_nI (ix20d (r := 9) rfl (by omega) (by decide) (by omega)) (by omega)) (by omega) (by decide) ?_
        refine j_iload X dX11_divide_41 4 rfl ?_
        refine j_bipush (v := 16) X dX11_divide_43 (by decide) ?_
        refine j_irem X dX11_divide_45 (by decide) ?_
        refine j_ishr X dX11_divide_46 ?_
        refine j_iconst (v := 1) X dX11_divide_47 rfl ?_
        refine j_iand X dX11_divide_48 ?_
        refine j_topi (fun x_6 ex_6 => ?_)
        have hbit : x_6.toInt = (z9.natAbs : Int) / 2 ^ kk % 2 := bt_at (rg_at _ (by omega)) (i_rm (x := k) (by omega) (by omega) (by decide) (by decide) rfl) ex_6
        have hbit2 : x_6.toInt = 0 ∨ x_6.toInt = 1 := by omega
        have hM : 2 * ((z9.natAbs : Int) / 2 ^ (kk + 1)) + x_6.toInt = (z9.natAbs : Int) / 2 ^ kk := by rw [hbit]; exact dv_bit.symm
        have hr0 := d_rng ((z9.natAbs : Int) / 2 ^ (kk + 1)) hB
        have hq0 : 0 ≤ (z9.natAbs : Int) / 2 ^ (kk + 1) / (z4.natAbs : Int) := Int.ediv_nonneg (Int.ediv_nonneg (by omega) (Int.le_of_lt (Int.pow_pos (by decide)))) (by omega)
        refine j_callV X dX11_divide_49 (c_X11_doubled l G q t n co cr po tx ty [z0, z1, z2, z3, z4, z5, z6, ((z9.natAbs : Int) / 2 ^ (kk + 1) / (z4.natAbs : Int)), z8, z9, z10, z11, ((z9.natAbs : Int) / 2 ^ (kk + 1) % (z4.natAbs : Int)), z13, z14, z15] rfl (upd (upd sf 7 0) 12 0) 12 12 rfl (by decide) x_6 hbit2 hr0.1) gX11_divide_X11_doubled rfl hy_X11_doubled_V ⟨Nat.le_of_ble_eq_true rfl, Nat.le_of_ble_eq_true rfl⟩ 0 rfl rfl [0, 1, 2] rfl (by decide) rfl rfl (Nat.le_of_ble_eq_true rfl) ⟨Nat.le_of_ble_eq_true rfl, Nat.le_of_ble_eq_true rfl⟩ ?_
        rintro _ ⟨⟩ rfl
        change J p l e rm_X11_divide s m args below meth c Q G A 6 0 0 52 [(0, .ref (q 0)), (1, .int 7), (2, .int 9), (3, .int 4), (4, .int k)] [] [(q 0, .inr (10, mF t n q co cr po tx ty)), (q 10, aI G 320 (rg [z0, z1, z2, z3, z4, z5, z6, ((z9.natAbs : Int) / 2 ^ (kk + 1) / (z4.natAbs : Int)), z8, z9, z10, z11, (2 * ((z9.natAbs : Int) / 2 ^ (kk + 1) % (z4.natAbs : Int)) + x_6.toInt), z13, z14, z15])), (q 11, aZ G 16 (upd (upd sf 7 0) 12 0))]
        refine j_aload_n X dX11_divide_52 rfl 0 rfl ?_
        refine j_bipush (v := 12) X dX11_divide_53 (by decide) ?_
        refine j_iload_n X dX11_divide_55 rfl 3 rfl ?_
        refine j_callV X dX11_divide_56 (c_X11_sizes l G q t n co cr po tx ty [z0, z1, z2, z3, z4, z5, z6, ((z9.natAbs : Int) / 2 ^ (kk + 1) / (z4.natAbs : Int)), z8, z9, z10, z11, (2 * ((z9.natAbs : Int) / 2 ^ (kk + 1) % (z4.natAbs : Int)) + x_6.toInt), z13, z14, z15] rfl (upd (upd sf 7 0) 12 0) 12 12 rfl (by decide) 4 4 rfl (by decide) (show (2 * ((z9.natAbs : Int) / 2 ^ (kk + 1) % (z4.natAbs : Int)) + x_6.toInt).natAbs < 2135987035920910082395021706169552114602704522356652769947041607822219725780640550022962086936576 by omega) (show z4.natAbs < 2135987035920910082395021706169552114602704522356652769947041607822219725780640550022962086936576 by omega)) gX11_divide_X11_sizes rfl hy_X11_sizes_V ⟨Nat.le_of_ble_eq_true rfl, Nat.le_of_ble_eq_true rfl⟩ 0 rfl rfl [0, 1, 2] rfl (by decide) rfl rfl (Nat.le_of_ble_eq_true rfl) ⟨Nat.le_of_ble_eq_true rfl, Nat.le_of_ble_eq_true rfl⟩ ?_
        rintro _ ⟨⟩ rfl
        change J p l e rm_X11_divide s m args below meth c Q G A 6 0 0 59 [(0, .ref (q 0)), (1, .int 7), (2, .int 9), (3, .int 4), (4, .int k)] [.int (sg (((2 * ((z9.natAbs : Int) / 2 ^ (kk + 1) % (z4.natAbs : Int)) + x_6.toInt).natAbs : Int) - (z4.natAbs : Int)))] [(q 0, .inr (10, mF t n q co cr po tx ty)), (q 10, aI G 320 (rg [z0, z1, z2, z3, z4, z5, z6, ((z9.natAbs : Int) / 2 ^ (kk + 1) / (z4.natAbs : Int)), z8, z9, z10, z11, (2 * ((z9.natAbs : Int) / 2 ^ (kk + 1) % (z4.natAbs : Int)) + x_6.toInt), z13, z14, z15])), (q 11, aZ G 16 (upd (upd sf 7 0) 12 0))]
        refine j_if_lt (tgt := 66) X dX11_divide_59 (by decide) (fun c_59 => ?_) (fun c_59 => ?_)
        · skip
          have hsg := sg_T (((2 * ((z9.natAbs : Int) / 2 ^ (kk + 1) % (z4.natAbs : Int)) + x_6.toInt).natAbs : Int) - (z4.natAbs : Int))
          first | simp only [cmp_eq, cmp_lt, cmp_ge, cmp_gt, cmp_le, lT0, lT1] at c_59 | simp only [Int32.le_iff_toInt_le, Int32.lt_iff_toInt_lt, ← Int32.toInt_inj, iT0, iT1, iT2, iT3, iT4, iT5, iT6, iT7, iT8, iT9, iT10, iT11, iT12, iT13, iT14, iT15, iT16, iT19, iT20, iT31, iT32, iT42, iT64, iT200, iT318, iT319, iT1000, iTm1, iTm2] at c_59
          have hq := dv_no (M := (z9.natAbs : Int) / 2 ^ (kk + 1)) hB hbit2 (by omega)
          rw [hM] at hq
          refine j_iconst (v := 0) X dX11_divide_66 rfl ?_
          refine j_istore (L' := [(5, .int 0), (0, .ref (q 0)), (1, .int 7), (2, .int 9), (3, .int 4), (4, .int k)]) X dX11_divide_67 (by decide) rfl ?_
          refine j_iload X dX11_divide_69 0 rfl ?_
          refine j_if_eq (tgt := 81) X dX11_divide_71 (by decide) (fun _ => ?_) (fun c9 => absurd c9 (by decide))
          refine j_aload_n X dX11_divide_81 rfl 1 rfl ?_
          refine j_iload_n X dX11_divide_82 rfl 2 rfl ?_
          refine j_iload X dX11_divide_83 0 rfl ?_
          refine j_if_eq (tgt := 92) X dX11_divide_85 (by decide) (fun _ => ?_) (fun c9 => absurd c9 (by decide))
          refine j_iconst (v := 0) X dX11_divide_92 rfl ?_
          refine j_callV X dX11_divide_93 (c_X11_doubled l G q t n co cr po tx ty [z0, z1, z2, z3, z4, z5, z6, ((z9.natAbs : Int) / 2 ^ (kk + 1) / (z4.natAbs : Int)), z8, z9, z10, z11, (2 * ((z9.natAbs : Int) / 2 ^ (kk + 1) % (z4.natAbs : Int)) + x_6.toInt), z13, z14, z15] rfl (upd (upd sf 7 0) 12 0) 7 7 rfl (by decide) 0 (by decide) hq0) gX11_divide_X11_doubled rfl hy_X11_doubled_V ⟨Nat.le_of_ble_eq_true rfl, Nat.le_of_ble_eq_true rfl⟩ 0 rfl rfl [0, 1, 2] rfl (by decide) rfl rfl (Nat.le_of_ble_eq_true rfl) ⟨Nat.le_of_ble_eq_true rfl, Nat.le_of_ble_eq_true rfl⟩ ?_
          rintro _ ⟨⟩ rfl
          change J p l e rm_X11_divide s m args below meth c Q G A 6 0 0 96 [(5, .int 0), (0, .ref (q 0)), (1, .int 7), (2, .int 9), (3, .int 4), (4, .int k)] [] [(q 0, .inr (10, mF t n q co cr po tx ty)), (q 10, aI G 320 (rg [z0, z1, z2, z3, z4, z5, z6, (2 * ((z9.natAbs : Int) / 2 ^ (kk + 1) / (z4.natAbs : Int)) + (0 : Int32).toInt), z8, z9, z10, z11, (2 * ((z9.natAbs : Int) / 2 ^ (kk + 1) % (z4.natAbs : Int)) + x_6.toInt), z13, z14, z15])), (q 11, aZ G 16 (upd (upd sf 7 0) 12 0))]
          rw [iT0]
          obtain ⟨x_7, ex_7⟩ : ∃ y9 : Int32, y9 = k + (-1) := ⟨_, rfl⟩
          refine j_iinc (v := x_7) (L' := [(4, .int x_7), (5, .int 0), (0, .ref (q 0)), (1, .int 7), (2, .int 9), (3, .int 4)]) X dX11_divide_96 5 rfl (by rw [ex_7]; rfl) (by decide) rfl ?_
          refine j_goto (tgt := 18) X dX11_divide_99 (by decide) ?_
          refine j_sub [2, 3, 4, 5, 0] rfl ?_
          refine j_eq (ws' := [(q 0, .inr (10, mF t n q co cr po tx ty)), (q 10, aI G 320 (rg [z0, z1, z2, z3, z4, z5, z6, ((z9.natAbs : Int) / 2 ^ kk / (z4.natAbs : Int)), z8, z9, z10, z11, ((z9.natAbs : Int) / 2 ^ kk % (z4.natAbs : Int)), z13, z14, z15])), (q 11, aZ G 16 (upd (upd sf 7 0) 12 0))]) (by rw [hq.1, hq.2]; try rw [Int.add_zero]) rfl ?_
          exact ih kk x_7 (by omega) (by rw [x_dec hk2 (by omega) ex_7]; omega) (by omega)
        · skip
          have hsg := sg_T (((2 * ((z9.natAbs : Int) / 2 ^ (kk + 1) % (z4.natAbs : Int)) + x_6.toInt).natAbs : Int) - (z4.natAbs : Int))
          first | simp only [cmp_eq, cmp_lt, cmp_ge, cmp_gt, cmp_le, lT0, lT1] at c_59 | simp only [Int32.le_iff_toInt_le, Int32.lt_iff_toInt_lt, ← Int32.toInt_inj, iT0, iT1, iT2, iT3, iT4, iT5, iT6, iT7, iT8, iT9, iT10, iT11, iT12, iT13, iT14, iT15, iT16, iT19, iT20, iT31, iT32, iT42, iT64, iT200, iT318, iT319, iT1000, iTm1, iTm2] at c_59
          have hq := dv_go (M := (z9.natAbs : Int) / 2 ^ (kk + 1)) hB hbit2 (by omega)
          rw [hM] at hq
          refine j_iconst (v := 1) X dX11_divide_62 rfl ?_
          refine j_goto (tgt := 67) X dX11_divide_63 (by decide) ?_
          refine j_istore (L' := [(5, .int 1), (0, .ref (q 0)), (1, .int 7), (2, .int 9), (3, .int 4), (4, .int k)]) X dX11_divide_67 (by decide) rfl ?_
          refine j_iload X dX11_divide_69 0 rfl ?_
          refine j_if_eq (tgt := 81) X dX11_divide_71 (by decide) (fun c9 => absurd c9 (by decide)) (fun _ => ?_)
          refine j_aload_n X dX11_divide_74 rfl 1 rfl ?_
          refine j_bipush (v := 12) X dX11_divide_75 (by decide) ?_
          refine j_iload_n X dX11_divide_77 rfl 4 rfl ?_
          refine j_callV X dX11_divide_78 (c_X11_takeAway l G q t n co cr po tx ty [z0, z1, z2, z3, z4, z5, z6, ((z9.natAbs : Int) / 2 ^ (kk + 1) / (z4.natAbs : Int)), z8, z9, z10, z11, (2 * ((z9.natAbs : Int) / 2 ^ (kk + 1) % (z4.natAbs : Int)) + x_6.toInt), z13, z14, z15] rfl (upd (upd sf 7 0) 12 0) 12 12 rfl (by decide) 4 4 rfl (by decide) (by decide) (show (z4.natAbs : Int) ≤ 2 * ((z9.natAbs : Int) / 2 ^ (kk + 1) % (z4.natAbs : Int)) + x_6.toInt by omega)) gX11_divide_X11_takeAway rfl hy_X11_takeAway_V ⟨Nat.le_of_ble_eq_true rfl, Nat.le_of_ble_eq_true rfl⟩ 0 rfl rfl [0, 1, 2] rfl (by decide) rfl rfl (Nat.le_of_ble_eq_true rfl) ⟨Nat.le_of_ble_eq_true rfl, Nat.le_of_ble_eq_true rfl⟩ ?_
          rintro _ ⟨⟩ rfl
          change J p l e rm_X11_divide s m args below meth c Q G A 6 0 0 81 [(5, .int 1), (0, .ref (q 0)), (1, .int 7), (2, .int 9), (3, .int 4), (4, .int k)] [] [(q 0, .inr (10, mF t n q co cr po tx ty)), (q 10, aI G 320 (rg [z0, z1, z2, z3, z4, z5, z6, ((z9.natAbs : Int) / 2 ^ (kk + 1) / (z4.natAbs : Int)), z8, z9, z10, z11, ((2 * ((z9.natAbs : Int) / 2 ^ (kk + 1) % (z4.natAbs : Int)) + x_6.toInt) - (z4.natAbs : Int)), z13, z14, z15])), (q 11, aZ G 16 (upd (upd sf 7 0) 12 0))]
          refine j_aload_n X dX11_divide_81 rfl 1 rfl ?_
          refine j_iload_n X dX11_divide_82 rfl 2 rfl ?_
          refine j_iload X dX11_divide_83 0 rfl ?_
          refine j_if_eq (tgt := 92) X dX11_divide_85 (by decide) (fun c9 => absurd c9 (by decide)) (fun _ => ?_)
          refine j_iconst (v := 1) X dX11_divide_88 rfl ?_
          refine j_goto (tgt := 93) X dX11_divide_89 (by decide) ?_
          refine j_callV X dX11_divide_93 (c_X11_doubled l G q t n co cr po tx ty [z0, z1, z2, z3, z4, z5, z6, ((z9.natAbs : Int) / 2 ^ (kk + 1) / (z4.natAbs : Int)), z8, z9, z10, z11, ((2 * ((z9.natAbs : Int) / 2 ^ (kk + 1) % (z4.natAbs : Int)) + x_6.toInt) - (z4.natAbs : Int)), z13, z14, z15] rfl (upd (upd sf 7 0) 12 0) 7 7 rfl (by decide) 1 (by decide) hq0) gX11_divide_X11_doubled rfl hy_X11_doubled_V ⟨Nat.le_of_ble_eq_true rfl, Nat.le_of_ble_eq_true rfl⟩ 0 rfl rfl [0, 1, 2] rfl (by decide) rfl rfl (Nat.le_of_ble_eq_true rfl) ⟨Nat.le_of_ble_eq_true rfl, Nat.le_of_ble_eq_true rfl⟩ ?_
          rintro _ ⟨⟩ rfl
          change J p l e rm_X11_divide s m args below meth c Q G A 6 0 0 96 [(5, .int 1), (0, .ref (q 0)), (1, .int 7), (2, .int 9), (3, .int 4), (4, .int k)] [] [(q 0, .inr (10, mF t n q co cr po tx ty)), (q 10, aI G 320 (rg [z0, z1, z2, z3, z4, z5, z6, (2 * ((z9.natAbs : Int) / 2 ^ (kk + 1) / (z4.natAbs : Int)) + (1 : Int32).toInt), z8, z9, z10, z11, ((2 * ((z9.natAbs : Int) / 2 ^ (kk + 1) % (z4.natAbs : Int)) + x_6.toInt) - (z4.natAbs : Int)), z13, z14, z15])), (q 11, aZ G 16 (upd (upd sf 7 0) 12 0))]
          rw [iT1]
          obtain ⟨x_8, ex_8⟩ : ∃ y9 : Int32, y9 = k + (-1) := ⟨_, rfl⟩
          refine j_iinc (v := x_8) (L' := [(4, .int x_8), (5, .int 1), (0, .ref (q 0)), (1, .int 7), (2, .int 9), (3, .int 4)]) X dX11_divide_96 5 rfl (by rw [ex_8]; rfl) (by decide) rfl ?_
          refine j_goto (tgt := 18) X dX11_divide_99 (by decide) ?_
          refine j_sub [2, 3, 4, 5, 0] rfl ?_
          refine j_eq (ws' := [(q 0, .inr (10, mF t n q co cr po tx ty)), (q 10, aI G 320 (rg [z0, z1, z2, z3, z4, z5, z6, ((z9.natAbs : Int) / 2 ^ kk / (z4.natAbs : Int)), z8, z9, z10, z11, ((z9.natAbs : Int) / 2 ^ kk % (z4.natAbs : Int)), z13, z14, z15])), (q 11, aZ G 16 (upd (upd sf 7 0) 12 0))]) (by rw [hq.1, hq.2]; try rw [Int.add_zero]) rfl ?_
          exact ih kk x_8 (by omega) (by rw [x_dec hk2 (by omega) ex_8]; omega) (by omega)
  refine j_sub [1, 2, 3, 4, 0] rfl ?_
  obtain ⟨K, hK⟩ : ∃ K : Nat, K = 320 := ⟨_, rfl⟩
  refine j_eq (ws' := [(q 0, .inr (10, mF t n q co cr po tx ty)), (q 10, aI G 320 (rg [z0, z1, z2, z3, z4, z5, z6, ((z9.natAbs : Int) / 2 ^ K / (z4.natAbs : Int)), z8, z9, z10, z11, ((z9.natAbs : Int) / 2 ^ K % (z4.natAbs : Int)), z13, z14, z15])), (q 11, aZ G 16 (upd (upd sf 7 0) 12 0))]) (by rw [show (z9.natAbs : Int) / 2 ^ K = 0 from Int.ediv_eq_zero_of_lt (by omega) (by rw [hK, p320]; omega), Int.zero_ediv, Int.zero_emod]) rfl ?_
  exact loop 321 K 319 (by omega) (by rw [hK]; rfl) (by omega)

set_option maxHeartbeats 4000000 in
set_option maxRecDepth 100000 in
theorem c_X11_divide_6_4_9 (l : Launch) (G : jG) (q : Nat → Nat) (t n co cr po : Int32) (tx ty : Int64) (z0 z1 z2 z3 z4 z5 z6 z7 z8 z9 z10 z11 z12 z13 z14 z15 : Int) (sf : Nat → Int32) (hS : okS [z0, z1, z2, z3, z4, z5, z6, z7, z8, z9, z10, z11, z12, z13, z14, z15] sf) (hB : 0 < (z9.natAbs : Int)) (hB2 : (z9.natAbs : Int) < 1067993517960455041197510853084776057301352261178326384973520803911109862890320275011481043468288) (hN : (z4.natAbs : Int) < 1067993517960455041197510853084776057301352261178326384973520803911109862890320275011481043468288) : Ct l yX11_divide wsX11_divide rm_X11_divide G [.ref (q 0), .int 6, .int 4, .int 9] [(q 0, .inr (10, mF t n q co cr po tx ty)), (q 10, aI G 320 (rg [z0, z1, z2, z3, z4, z5, z6, z7, z8, z9, z10, z11, z12, z13, z14, z15])), (q 11, aZ G 16 sf)] (S := Int × Int × (Nat → Int32)) (fun r u => r = none ∧ okS [z0, z1, z2, z3, z4, z5, (z4 / (z9.natAbs : Int)), z7, z8, z9, z10, z11, ((z4.natAbs : Int) % (z9.natAbs : Int)), z13, u.1, u.2.1] u.2.2) (fun u => [(q 0, .inr (10, mF t n q co cr po tx ty)), (q 10, aI G 320 (rg [z0, z1, z2, z3, z4, z5, (z4 / (z9.natAbs : Int)), z7, z8, z9, z10, z11, ((z4.natAbs : Int) % (z9.natAbs : Int)), z13, u.1, u.2.1])), (q 11, aZ G 16 u.2.2)]) (fun _ => []) := by
  refine c_intro (cc := cX11_divide) (maxL := 6) (ret := none) (by decide) rfl (Nat.le_of_ble_eq_true rfl) (fun _ => by simp only [List.map_cons, List.map_nil]) ?_
  intro p e s m args below meth c Q A X hr hin E
  change J p l e rm_X11_divide s m args below meth c Q G A 6 0 0 0 [(0, .ref (q 0)), (1, .int 6), (2, .int 4), (3, .int 9)] [] [(q 0, .inr (10, mF t n q co cr po tx ty)), (q 10, aI G 320 (rg [z0, z1, z2, z3, z4, z5, z6, z7, z8, z9, z10, z11, z12, z13, z14, z15])), (q 11, aZ G 16 sf)]
  refine j_aload_n X dX11_divide_0 rfl 0 rfl ?_
  refine j_iload_n X dX11_divide_1 rfl 1 rfl ?_
  refine j_lconst (v := 0) X dX11_divide_2 rfl ?_
  refine j_callV X dX11_divide_3 (c_X11_load l G q t n co cr po tx ty [z0, z1, z2, z3, z4, z5, z6, z7, z8, z9, z10, z11, z12, z13, z14, z15] rfl sf 6 6 rfl (by decide) 0 ) gX11_divide_X11_load rfl hy_X11_load_V ⟨Nat.le_of_ble_eq_true rfl, Nat.le_of_ble_eq_true rfl⟩ 0 rfl rfl [0, 1, 2] rfl (by decide) rfl rfl (Nat.le_of_ble_eq_true rfl) ⟨Nat.le_of_ble_eq_true rfl, Nat.le_of_ble_eq_true rfl⟩ ?_
  rintro _ b_1 ⟨rfl, hb_1⟩
  obtain rfl : b_1 = 0 := ld0 (by decide) hb_1
  change J p l e rm_X11_divide s m args below meth c Q G A 6 0 0 6 [(0, .ref (q 0)), (1, .int 6), (2, .int 4), (3, .int 9)] [] [(q 0, .inr (10, mF t n q co cr po tx ty)), (q 10, aI G 320 (rg [z0, z1, z2, z3, z4, z5, ((0 : Int64).toInt), z7, z8, z9, z10, z11, z12, z13, z14, z15])), (q 11, aZ G 16 (upd sf 6 0))]
  rw [lT0]
  refine j_aload_n X dX11_divide_6 rfl 0 rfl ?_
  refine j_bipush (v := 12) X dX11_divide_7 (by decide) ?_
  refine j_lconst (v := 0) X dX11_divide_9 rfl ?_
  refine j_callV X dX11_divide_10 (c_X11_load l G q t n co cr po tx ty [z0, z1, z2, z3, z4, z5, 0, z7, z8, z9, z10, z11, z12, z13, z14, z15] rfl (upd sf 6 0) 12 12 rfl (by decide) 0 ) gX11_divide_X11_load rfl hy_X11_load_V ⟨Nat.le_of_ble_eq_true rfl, Nat.le_of_ble_eq_true rfl⟩ 0 rfl rfl [0, 1, 2] rfl (by decide) rfl rfl (Nat.le_of_ble_eq_true rfl) ⟨Nat.le_of_ble_eq_true rfl, Nat.le_of_ble_eq_true rfl⟩ ?_
  rintro _ b_2 ⟨rfl, hb_2⟩
  obtain rfl : b_2 = 0 := ld0 (by decide) hb_2
  change J p l e rm_X11_divide s m args below meth c Q G A 6 0 0 13 [(0, .ref (q 0)), (1, .int 6), (2, .int 4), (3, .int 9)] [] [(q 0, .inr (10, mF t n q co cr po tx ty)), (q 10, aI G 320 (rg [z0, z1, z2, z3, z4, z5, 0, z7, z8, z9, z10, z11, ((0 : Int64).toInt), z13, z14, z15])), (q 11, aZ G 16 (upd (upd sf 6 0) 12 0))]
  rw [lT0]
  refine j_sipush (v := 319) X dX11_divide_13 (by decide) ?_
  refine j_istore (L' := [(4, .int 319), (0, .ref (q 0)), (1, .int 6), (2, .int 4), (3, .int 9)]) X dX11_divide_16 (by decide) rfl ?_
  have loop : ∀ (d : Nat) (kk : Nat) (k : Int32) (hk : kk ≤ 320) (hk2 : k.toInt = (kk : Int) - 1), kk < d → J p l e rm_X11_divide s m args below meth c Q G A 6 0 0 18 [(0, .ref (q 0)), (1, .int 6), (2, .int 4), (3, .int 9), (4, .int k)] [] [(q 0, .inr (10, mF t n q co cr po tx ty)), (q 10, aI G 320 (rg [z0, z1, z2, z3, z4, z5, ((z4.natAbs : Int) / 2 ^ kk / (z9.natAbs : Int)), z7, z8, z9, z10, z11, ((z4.natAbs : Int) / 2 ^ kk % (z9.natAbs : Int)), z13, z14, z15])), (q 11, aZ G 16 (upd (upd sf 6 0) 12 0))] := by
    intro d
    induction d with
    | zero => intro kk k hk hk2 hd0; exact absurd hd0 (Nat.not_lt_zero _)
    | succ d ih =>
      intro kk k hk hk2 hd0
      refine j_iload X dX11_divide_18 4 rfl ?_
      refine j_if_lt (tgt := 102) X dX11_divide_20 (by decide) (fun c_20 => ?_) (fun c_20 => ?_)
      · skip
        first | simp only [cmp_eq, cmp_lt, cmp_ge, cmp_gt, cmp_le, lT0, lT1] at c_20 | simp only [Int32.le_iff_toInt_le, Int32.lt_iff_toInt_lt, ← Int32.toInt_inj, iT0, iT1, iT2, iT3, iT4, iT5, iT6, iT7, iT8, iT9, iT10, iT11, iT12, iT13, iT14, iT15, iT16, iT19, iT20, iT31, iT32, iT42, iT64, iT200, iT318, iT319, iT1000, iTm1, iTm2] at c_20
        have hk0 : kk = 0 := by omega
        subst hk0
        refine j_eq (ws' := [(q 0, .inr (10, mF t n q co cr po tx ty)), (q 10, aI G 320 (rg [z0, z1, z2, z3, z4, z5, ((z4.natAbs : Int) / (z9.natAbs : Int)), z7, z8, z9, z10, z11, ((z4.natAbs : Int) % (z9.natAbs : Int)), z13, z14, z15])), (q 11, aZ G 16 (upd (upd sf 6 0) 12 0))]) (by rw [Int.pow_zero, Int.ediv_one]) rfl ?_
        refine j_aload_n X dX11_divide_102 rfl 0 rfl ?_
        refine j_get (v := .ref (q 11)) X dX11_divide_103 0 rfl 13 rfl in_X11_divide_X11 (by decide) fl_X11_divide_42 rfl ?_
        refine j_iload_n X dX11_divide_106 rfl 1 rfl ?_
        refine j_aload_n X dX11_divide_107 rfl 0 rfl ?_
        refine j_get (v := .ref (q 11)) X dX11_divide_108 0 rfl 13 rfl in_X11_divide_X11 (by decide) fl_X11_divide_42 rfl ?_
        refine j_iload_n X dX11_divide_111 rfl 2 rfl ?_
        refine j_zald X dX11_divide_112 2 rfl 4 rfl (by decide) (by decide) ?_
        refine j_zast (ws' := [(q 0, .inr (10, mF t n q co cr po tx ty)), (q 10, aI G 320 (rg [z0, z1, z2, z3, z4, z5, ((z4.natAbs : Int) / (z9.natAbs : Int)), z7, z8, z9, z10, z11, ((z4.natAbs : Int) % (z9.natAbs : Int)), z13, z14, z15])), (q 11, aZ G 16 (upd (upd (upd sf 6 0) 12 0) 6 (sf 4)))]) X dX11_divide_113 2 rfl 6 rfl (by decide) (by decide) (ok1_01 (hS 4 (by decide))) rfl ?_
        refine j_aload_n X dX11_divide_114 rfl 0 rfl ?_
        refine j_get (v := .ref (q 11)) X dX11_divide_115 0 rfl 13 rfl in_X11_divide_X11 (by decide) fl_X11_divide_42 rfl ?_
        refine j_iload_n X dX11_divide_118 rfl 2 rfl ?_
        refine j_zald X dX11_divide_119 2 rfl 4 rfl (by decide) (by decide) ?_
        refine j_if_eq (tgt := 132) X dX11_divide_120 (by decide) (fun c_120 => ?_) (fun c_120 => ?_)
        · skip
          have hz0 : 0 ≤ z4 := by have := hS 4 (by decide); rcases this with h | h; exact h.2; exact absurd (c_120.symm.trans h.1) (by decide)
          refine j_eq (ws' := [(q 0, .inr (10, mF t n q co cr po tx ty)), (q 10, aI G 320 (rg [z0, z1, z2, z3, z4, z5, (z4 / (z9.natAbs : Int)), z7, z8, z9, z10, z11, ((z4.natAbs : Int) % (z9.natAbs : Int)), z13, z14, z15])), (q 11, aZ G 16 (upd (upd (upd sf 6 0) 12 0) 6 (sf 4)))]) (by rw [show (z4.natAbs : Int) = z4 by omega]) rfl ?_
          exact E.1 132 _ (z14, z15, _) dX11_divide_132 (⟨rfl, okS_cong (okS_set (d := 12) rfl (by decide) (okS_set (d := 6) (b := sf 4) rfl (by decide) hS (Or.inl ⟨c_120, Int.ediv_nonneg hz0 (by omega)⟩)) (b := 0) (Or.inl ⟨rfl, (d_rng _ hB).1⟩)) (upsw 6 _ _ _ _ (by decide))⟩) hr
        · skip
          have hs1 : sf 4 = 1 ∧ z4 ≤ 0 := by have := hS 4 (by decide); rcases this with h | h; exact absurd h.1 c_120; exact h
          refine j_aload_n X dX11_divide_123 rfl 0 rfl ?_
          refine j_bipush (v := 12) X dX11_divide_124 (by decide) ?_
          refine j_callV X dX11_divide_126 (c_X11_sign l G q t n co cr po tx ty [z0, z1, z2, z3, z4, z5, ((z4.natAbs : Int) / (z9.natAbs : Int)), z7, z8, z9, z10, z11, ((z4.natAbs : Int) % (z9.natAbs : Int)), z13, z14, z15] rfl (upd (upd (upd sf 6 0) 12 0) 6 (sf 4)) 12 12 rfl (by decide) (Or.inl ⟨rfl, (d_rng _ hB).1⟩) (show ((z4.natAbs : Int) % (z9.natAbs : Int)).natAbs < 2135987035920910082395021706169552114602704522356652769947041607822219725780640550022962086936576 by have := d_rng (z4.natAbs : Int) hB; omega)) gX11_divide_X11_sign rfl hy_X11_sign_V ⟨Nat.le_of_ble_eq_true rfl, Nat.le_of_ble_eq_true rfl⟩ 0 rfl rfl [0, 1, 2] rfl (by decide) rfl rfl (Nat.le_of_ble_eq_true rfl) ⟨Nat.le_of_ble_eq_true rfl, Nat.le_of_ble_eq_true rfl⟩ ?_
          rintro _ ⟨⟩ rfl
          change J p l e rm_X11_divide s m args below meth c Q G A 6 0 0 129 [(0, .ref (q 0)), (1, .int 6), (2, .int 4), (3, .int 9), (4, .int k)] [.int (sg ((z4.natAbs : Int) % (z9.natAbs : Int)))] [(q 0, .inr (10, mF t n q co cr po tx ty)), (q 10, aI G 320 (rg [z0, z1, z2, z3, z4, z5, ((z4.natAbs : Int) / (z9.natAbs : Int)), z7, z8, z9, z10, z11, ((z4.natAbs : Int) % (z9.natAbs : Int)), z13, z14, z15])), (q 11, aZ G 16 (upd (upd (upd sf 6 0) 12 0) 6 (sf 4)))]
          refine j_if_ne (tgt := 133) X dX11_divide_129 (by decide) (fun c_129 => ?_) (fun c_129 => ?_)
          · skip
            first | simp only [cmp_eq, cmp_lt, cmp_ge, cmp_gt, cmp_le, lT0, lT1] at c_129 | simp only [Int32.le_iff_toInt_le, Int32.lt_iff_toInt_lt, ← Int32.toInt_inj, iT0, iT1, iT2, iT3, iT4, iT5, iT6, iT7, iT8, iT9, iT10, iT11, iT12, iT13, iT14, iT15, iT16, iT19, iT20, iT31, iT32, iT42, iT64, iT200, iT318, iT319, iT1000, iTm1, iTm2] at c_129
            have hsg := sg_T ((z4.natAbs : Int) % (z9.natAbs : Int))
            refine j_setI (ws' := [(q 0, .inr (10, mF t n q co cr po tx ty)), (q 10, aI G 320 (rg [z0, z1, z2, z3, z4, z5, (-((z4.natAbs : Int) / (z9.natAbs : Int))), z7, z8, z9, z10, z11, ((z4.natAbs : Int) % (z9.natAbs : Int)), z13, z14, z15])), (q 11, aZ G 16 (upd (upd (upd sf 6 0) 12 0) 6 (sf 4)))]) (g := rg [z0, z1, z2, z3, z4, z5, (-((z4.natAbs : Int) / (z9.natAbs : Int))), z7, z8, z9, z10, z11, ((z4.natAbs : Int) % (z9.natAbs : Int)), z13, z14, z15]) 1 rfl (rg_abs (rg_neg6 _ _ _ _ _ _ _ _ _ _ _ _ _ _ _ _)) rfl ?_
            have hq9 : 0 ≤ (z4.natAbs : Int) / (z9.natAbs : Int) := Int.ediv_nonneg (by omega) (Int.le_of_lt hB)
            have hS3 : okS [z0, z1, z2, z3, z4, z5, (-((z4.natAbs : Int) / (z9.natAbs : Int))), z7, z8, z9, z10, z11, ((z4.natAbs : Int) % (z9.natAbs : Int)), z13, z14, z15] (upd (upd (upd sf 6 0) 12 0) 6 (sf 4)) := okS_cong (okS_set (d := 12) rfl (by decide) (okS_set (d := 6) (b := sf 4) rfl (by decide) hS (Or.inr ⟨hs1.1, by omega⟩)) (b := 0) (Or.inl ⟨rfl, (d_rng _ hB).1⟩)) (upsw 6 _ _ _ _ (by decide))
            refine j_aload_n X dX11_divide_133 rfl 0 rfl ?_
            refine j_bipush (v := 15) X dX11_divide_134 (by decide) ?_
            refine j_lconst (v := 1) X dX11_divide_136 rfl ?_
            refine j_callV X dX11_divide_137 (h_load l G q t n co cr po tx ty ([z0, z1, z2, z3, z4, z5, (-((z4.natAbs : Int) / (z9.natAbs : Int))), z7, z8, z9, z10, z11, ((z4.natAbs : Int) % (z9.natAbs : Int)), z13, z14, z15]) (upd (upd (upd sf 6 0) 12 0) 6 (sf 4)) rfl hS3 15 15 rfl (by decide) 1 ) gX11_divide_X11_load rfl hy_X11_load_V ⟨Nat.le_of_ble_eq_true rfl, Nat.le_of_ble_eq_true rfl⟩ 0 rfl rfl [0, 1, 2] rfl (by decide) rfl rfl (Nat.le_of_ble_eq_true rfl) ⟨Nat.le_of_ble_eq_true rfl, Nat.le_of_ble_eq_true rfl⟩ ?_
            rintro _ sf_3 ⟨rfl, hS_sf_3⟩
            change J p l e rm_X11_divide s m args below meth c Q G A 6 0 0 140 [(0, .ref (q 0)), (1, .int 6), (2, .int 4), (3, .int 9), (4, .int k)] [] [(q 0, .inr (10, mF t n q co cr po tx ty)), (q 10, aI G 320 (rg [z0, z1, z2, z3, z4, z5, (-((z4.natAbs : Int) / (z9.natAbs : Int))), z7, z8, z9, z10, z11, ((z4.natAbs : Int) % (z9.natAbs : Int)), z13, z14, ((1 : Int64).toInt)])), (q 11, aZ G 16 sf_3)]
            rw [lT1] at hS_sf_3 ⊢
            refine j_aload_n X dX11_divide_140 rfl 0 rfl ?_
            refine j_bipush (v := 14) X dX11_divide_141 (by decide) ?_
            refine j_iload_n X dX11_divide_143 rfl 1 rfl ?_
            refine j_bipush (v := 15) X dX11_divide_144 (by decide) ?_
            refine j_iconst (v := 1) X dX11_divide_146 rfl ?_
            refine j_callV X dX11_divide_147 (h_join l G q t n co cr po tx ty ([z0, z1, z2, z3, z4, z5, (-((z4.natAbs : Int) / (z9.natAbs : Int))), z7, z8, z9, z10, z11, ((z4.natAbs : Int) % (z9.natAbs : Int)), z13, z14, 1]) sf_3 rfl hS_sf_3 14 14 rfl (by decide) 6 6 rfl (by decide) 15 15 rfl (by decide) 1 (Or.inr rfl) (by decide) (by decide) (show (-((z4.natAbs : Int) / (z9.natAbs : Int))).natAbs < 2135987035920910082395021706169552114602704522356652769947041607822219725780640550022962086936576 by have := Int.ediv_le_self (z9.natAbs : Int) (show (0:Int) ≤ (z4.natAbs : Int) by omega); have := Int.ediv_nonneg (show (0:Int) ≤ (z4.natAbs : Int) by omega) (Int.le_of_lt hB); omega) (show (1 : Int).natAbs < 2135987035920910082395021706169552114602704522356652769947041607822219725780640550022962086936576 by decide)) gX11_divide_X11_join rfl hy_X11_join_V ⟨Nat.le_of_ble_eq_true rfl, Nat.le_of_ble_eq_true rfl⟩ 0 rfl rfl [0, 1, 2] rfl (by decide) rfl rfl (Nat.le_of_ble_eq_true rfl) ⟨Nat.le_of_ble_eq_true rfl, Nat.le_of_ble_eq_true rfl⟩ ?_
            rintro _ sf_4 ⟨rfl, hS_sf_4⟩
            change J p l e rm_X11_divide s m args below meth c Q G A 6 0 0 150 [(0, .ref (q 0)), (1, .int 6), (2, .int 4), (3, .int 9), (4, .int k)] [] [(q 0, .inr (10, mF t n q co cr po tx ty)), (q 10, aI G 320 (rg [z0, z1, z2, z3, z4, z5, (-((z4.natAbs : Int) / (z9.natAbs : Int))), z7, z8, z9, z10, z11, ((z4.natAbs : Int) % (z9.natAbs : Int)), z13, ((-((z4.natAbs : Int) / (z9.natAbs : Int))) - 1), 1])), (q 11, aZ G 16 sf_4)]
            refine j_aload_n X dX11_divide_150 rfl 0 rfl ?_
            refine j_iload_n X dX11_divide_151 rfl 1 rfl ?_
            refine j_bipush (v := 14) X dX11_divide_152 (by decide) ?_
            refine j_callV X dX11_divide_154 (h_copy l G q t n co cr po tx ty ([z0, z1, z2, z3, z4, z5, (-((z4.natAbs : Int) / (z9.natAbs : Int))), z7, z8, z9, z10, z11, ((z4.natAbs : Int) % (z9.natAbs : Int)), z13, ((-((z4.natAbs : Int) / (z9.natAbs : Int))) - 1), 1]) sf_4 rfl hS_sf_4 6 6 rfl (by decide) 14 14 rfl (by decide) (by decide)) gX11_divide_X11_copy rfl hy_X11_copy_V ⟨Nat.le_of_ble_eq_true rfl, Nat.le_of_ble_eq_true rfl⟩ 0 rfl rfl [0, 1, 2] rfl (by decide) rfl rfl (Nat.le_of_ble_eq_true rfl) ⟨Nat.le_of_ble_eq_true rfl, Nat.le_of_ble_eq_true rfl⟩ ?_
            rintro _ sf_5 ⟨rfl, hS_sf_5⟩
            change J p l e rm_X11_divide s m args below meth c Q G A 6 0 0 157 [(0, .ref (q 0)), (1, .int 6), (2, .int 4), (3, .int 9), (4, .int k)] [] [(q 0, .inr (10, mF t n q co cr po tx ty)), (q 10, aI G 320 (rg [z0, z1, z2, z3, z4, z5, ((-((z4.natAbs : Int) / (z9.natAbs : Int))) - 1), z7, z8, z9, z10, z11, ((z4.natAbs : Int) % (z9.natAbs : Int)), z13, ((-((z4.natAbs : Int) / (z9.natAbs : Int))) - 1), 1])), (q 11, aZ G 16 sf_5)]
            refine j_eq (ws' := [(q 0, .inr (10, mF t n q co cr po tx ty)), (q 10, aI G 320 (rg [z0, z1, z2, z3, z4, z5, (z4 / (z9.natAbs : Int)), z7, z8, z9, z10, z11, ((z4.natAbs : Int) % (z9.natAbs : Int)), z13, (-((z4.natAbs : Int) / (z9.natAbs : Int)) - 1), 1])), (q 11, aZ G 16 sf_5)]) (by rw [dv_neg1 hB hs1.2 (by omega)]) rfl ?_
            have hS9 := hS_sf_5
            have hS8 : okS [z0, z1, z2, z3, z4, z5, (z4 / (z9.natAbs : Int)), z7, z8, z9, z10, z11, ((z4.natAbs : Int) % (z9.natAbs : Int)), z13, (-((z4.natAbs : Int) / (z9.natAbs : Int)) - 1), 1] sf_5 := by rw [dv_neg1 hB hs1.2 (by omega)]; exact hS9
            exact E.1 157 _ (-((z4.natAbs : Int) / (z9.natAbs : Int)) - 1, 1, _) dX11_divide_157 (⟨rfl, hS8⟩) hr
          · skip
            first | simp only [cmp_eq, cmp_lt, cmp_ge, cmp_gt, cmp_le, lT0, lT1] at c_129 | simp only [Int32.le_iff_toInt_le, Int32.lt_iff_toInt_lt, ← Int32.toInt_inj, iT0, iT1, iT2, iT3, iT4, iT5, iT6, iT7, iT8, iT9, iT10, iT11, iT12, iT13, iT14, iT15, iT16, iT19, iT20, iT31, iT32, iT42, iT64, iT200, iT318, iT319, iT1000, iTm1, iTm2] at c_129
            have hsg := sg_T ((z4.natAbs : Int) % (z9.natAbs : Int))
            refine j_setI (ws' := [(q 0, .inr (10, mF t n q co cr po tx ty)), (q 10, aI G 320 (rg [z0, z1, z2, z3, z4, z5, (-((z4.natAbs : Int) / (z9.natAbs : Int))), z7, z8, z9, z10, z11, ((z4.natAbs : Int) % (z9.natAbs : Int)), z13, z14, z15])), (q 11, aZ G 16 (upd (upd (upd sf 6 0) 12 0) 6 (sf 4)))]) (g := rg [z0, z1, z2, z3, z4, z5, (-((z4.natAbs : Int) / (z9.natAbs : Int))), z7, z8, z9, z10, z11, ((z4.natAbs : Int) % (z9.natAbs : Int)), z13, z14, z15]) 1 rfl (rg_abs (rg_neg6 _ _ _ _ _ _ _ _ _ _ _ _ _ _ _ _)) rfl ?_
            refine j_eq (ws' := [(q 0, .inr (10, mF t n q co cr po tx ty)), (q 10, aI G 320 (rg [z0, z1, z2, z3, z4, z5, (z4 / (z9.natAbs : Int)), z7, z8, z9, z10, z11, ((z4.natAbs : Int) % (z9.natAbs : Int)), z13, z14, z15])), (q 11, aZ G 16 (upd (upd (upd sf 6 0) 12 0) 6 (sf 4)))]) (by rw [dv_neg0 hB hs1.2 (by omega)]) rfl ?_
            have hq9 : z4 / (z9.natAbs : Int) ≤ 0 := by rw [dv_neg0 hB hs1.2 (by omega)]; have := Int.ediv_nonneg (show (0 : Int) ≤ (z4.natAbs : Int) by omega) (Int.le_of_lt hB); omega
            exact E.1 132 _ (z14, z15, _) dX11_divide_132 ⟨rfl, okS_cong (okS_set (d := 12) rfl (by decide) (okS_set (d := 6) (b := sf 4) rfl (by decide) hS (Or.inr ⟨hs1.1, hq9⟩)) (b := 0) (Or.inl ⟨rfl, (d_rng _ hB).1⟩)) (upsw 6 _ _ _ _ (by decide))⟩ hr
      · skip
        first | simp only [cmp_eq, cmp_lt, cmp_ge, cmp_gt, cmp_le, lT0, lT1] at c_20 | simp only [Int32.le_iff_toInt_le, Int32.lt_iff_toInt_lt, ← Int32.toInt_inj, iT0, iT1, iT2, iT3, iT4, iT5, iT6, iT7, iT8, iT9, iT10, iT11, iT12, iT13, iT14, iT15, iT16, iT19, iT20, iT31, iT32, iT42, iT64, iT200, iT318, iT319, iT1000, iTm1, iTm2] at c_20
        obtain ⟨kk, rfl⟩ : ∃ k1, kk = k1 + 1 := ⟨kk - 1, by omega⟩
        refine j_aload_n X dX11_divide_23 rfl 0 rfl ?_
        refine j_bipush (v := 12) X dX11_divide_24 (by decide) ?_
        refine j_aload_n X dX11_divide_26 rfl 0 rfl ?_
        refine j_get (v := .ref (q 10)) X dX11_divide_27 0 rfl 12 rfl in_X11_divide_X11 (by decide) fl_X11_divide_39 rfl ?_
        refine j_bipush (v := 20) X dX11_divide_30 (by decide) ?_
        refine j_iload_n X dX11_divide_32 rfl 2 rfl ?_
        refine j_imul X dX11_divide_33 ?_
        rw [show (20 : Int32) * 4 = 80 from by decide]
        refine j_iload X dX11_divide_34 4 rfl ?_
        refine j_bipush (v := 16) X dX11_divide_36 (by decide) ?_
        refine j_idiv X dX11_divide_38 (by decide) ?_
        refine j_iadd X dX11_divide_39 ?_
        refine j_iald X dX11_divide_40 1 rfl (20 * 4 + kk / 16) (i_nI (ix20d (r := 4) rfl (by omega) (by decide) (by omega)) (by omega)) (by omega) (by decide) ?_
        refine j_iload X dX11_divide_41 4 rfl ?_
        refine j_bipush (v := 16) X dX11_divide_43 (by decide) ?_
        refine j_irem X dX11_divide_45 (by decide) ?_
        refine j_ishr X dX11_divide_46 ?_
        refine j_iconst (v := 1) X dX11_divide_47 rfl ?_
        refine j_iand X dX11_divide_48 ?_
        refine j_topi (fun x_6 ex_6 => ?_)
        have hbit : x_6.toInt = (z4.natAbs : Int) / 2 ^ kk % 2 := bt_at (rg_at _ (by omega)) (i_rm (x := k) (by omega) (by omega) (by decide) (by decide) rfl) ex_6
        have hbit2 : x_6.toInt = 0 ∨ x_6.toInt = 1 := by omega
        have hM : 2 * ((z4.natAbs : Int) / 2 ^ (kk + 1)) + x_6.toInt = (z4.natAbs : Int) / 2 ^ kk := by rw [hbit]; exact dv_bit.symm
        have hr0 := d_rng ((z4.natAbs : Int) / 2 ^ (kk + 1)) hB
        have hq0 : 0 ≤ (z4.natAbs : Int) / 2 ^ (kk + 1) / (z9.natAbs : Int) := Int.ediv_nonneg (Int.ediv_nonneg (by omega) (Int.le_of_lt (Int.pow_pos (by decide)))) (by omega)
        refine j_callV X dX11_divide_49 (c_X11_doubled l G q t n co cr po tx ty [z0, z1, z2, z3, z4, z5, ((z4.natAbs : Int) / 2 ^ (kk + 1) / (z9.natAbs : Int)), z7, z8, z9, z10, z11, ((z4.natAbs : Int) / 2 ^ (kk + 1) % (z9.natAbs : Int)), z13, z14, z15] rfl (upd (upd sf 6 0) 12 0) 12 12 rfl (by decide) x_6 hbit2 hr0.1) gX11_divide_X11_doubled rfl hy_X11_doubled_V ⟨Nat.le_of_ble_eq_true rfl, Nat.le_of_ble_eq_true rfl⟩ 0 rfl rfl [0, 1, 2] rfl (by decide) rfl rfl (Nat.le_of_ble_eq_true rfl) ⟨Nat.le_of_ble_eq_true rfl, Nat.le_of_ble_eq_true rfl⟩ ?_
        rintro _ ⟨⟩ rfl
        change J p l e rm_X11_divide s m args below meth c Q G A 6 0 0 52 [(0, .ref (q 0)), (1, .int 6), (2, .int 4), (3, .int 9), (4, .int k)] [] [(q 0, .inr (10, mF t n q co cr po tx ty)), (q 10, aI G 320 (rg [z0, z1, z2, z3, z4, z5, ((z4.natAbs : Int) / 2 ^ (kk + 1) / (z9.natAbs : Int)), z7, z8, z9, z10, z11, (2 * ((z4.natAbs : Int) / 2 ^ (kk + 1) % (z9.natAbs : Int)) + x_6.toInt), z13, z14, z15])), (q 11, aZ G 16 (upd (upd sf 6 0) 12 0))]
        refine j_aload_n X dX11_divide_52 rfl 0 rfl ?_
        refine j_bipush (v := 12) X dX11_divide_53 (by decide) ?_
        refine j_iload_n X dX11_divide_55 rfl 3 rfl ?_
        refine j_callV X dX11_divide_56 (c_X11_sizes l G q t n co cr po tx ty [z0, z1, z2, z3, z4, z5, ((z4.natAbs : Int) / 2 ^ (kk + 1) / (z9.natAbs : Int)), z7, z8, z9, z10, z11, (2 * ((z4.natAbs : Int) / 2 ^ (kk + 1) % (z9.natAbs : Int)) + x_6.toInt), z13, z14, z15] rfl (upd (upd sf 6 0) 12 0) 12 12 rfl (by decide) 9 9 rfl (by decide) (show (2 * ((z4.natAbs : Int) / 2 ^ (kk + 1) % (z9.natAbs : Int)) + x_6.toInt).natAbs < 2135987035920910082395021706169552114602704522356652769947041607822219725780640550022962086936576 by omega) (show z9.natAbs < 2135987035920910082395021706169552114602704522356652769947041607822219725780640550022962086936576 by omega)) gX11_divide_X11_sizes rfl hy_X11_sizes_V ⟨Nat.le_of_ble_eq_true rfl, Nat.le_of_ble_eq_true rfl⟩ 0 rfl rfl [0, 1, 2] rfl (by decide) rfl rfl (Nat.le_of_ble_eq_true rfl) ⟨Nat.le_of_ble_eq_true rfl, Nat.le_of_ble_eq_true rfl⟩ ?_
        rintro _ ⟨⟩ rfl
        change J p l e rm_X11_divide s m args below meth c Q G A 6 0 0 59 [(0, .ref (q 0)), (1, .int 6), (2, .int 4), (3, .int 9), (4, .int k)] [.int (sg (((2 * ((z4.natAbs : Int) / 2 ^ (kk + 1) % (z9.natAbs : Int)) + x_6.toInt).natAbs : Int) - (z9.natAbs : Int)))] [(q 0, .inr (10, mF t n q co cr po tx ty)), (q 10, aI G 320 (rg [z0, z1, z2, z3, z4, z5, ((z4.natAbs : Int) / 2 ^ (kk + 1) / (z9.natAbs : Int)), z7, z8, z9, z10, z11, (2 * ((z4.natAbs : Int) / 2 ^ (kk + 1) % (z9.natAbs : Int)) + x_6.toInt), z13, z14, z15])), (q 11, aZ G 16 (upd (upd sf 6 0) 12 0))]
        refine j_if_lt (tgt := 66) X dX11_divide_59 (by decide) (fun c_59 => ?_) (fun c_59 => ?_)
        · skip
          have hsg := sg_T (((2 * ((z4.natAbs : Int) / 2 ^ (kk + 1) % (z9.natAbs : Int)) + x_6.toInt).natAbs : Int) - (z9.natAbs : Int))
          first | simp only [cmp_eq, cmp_lt, cmp_ge, cmp_gt, cmp_le, lT0, lT1] at c_59 | simp only [Int32.le_iff_toInt_le, Int32.lt_iff_toInt_lt, ← Int32.toInt_inj, iT0, iT1, iT2, iT3, iT4, iT5, iT6, iT7, iT8, iT9, iT10, iT11, iT12, iT13, iT14, iT15, iT16, iT19, iT20, iT31, iT32, iT42, iT64, iT200, iT318, iT319, iT1000, iTm1, iTm2] at c_59
          have hq := dv_no (M := (z4.natAbs : Int) / 2 ^ (kk + 1)) hB hbit2 (by omega)
          rw [hM] at hq
          refine j_iconst (v := 0) X dX11_divide_66 rfl ?_
          refine j_istore (L' := [(5, .int 0), (0, .ref (q 0)), (1, .int 6), (2, .int 4), (3, .int 9), (4, .int k)]) X dX11_divide_67 (by decide) rfl ?_
          refine j_iload X dX11_divide_69 0 rfl ?_
          refine j_if_eq (tgt := 81) X dX11_divide_71 (by decide) (fun _ => ?_) (fun c9 => absurd c9 (by decide))
          refine j_aload_n X dX11_divide_81 rfl 1 rfl ?_
          refine j_iload_n X dX11_divide_82 rfl 2 rfl ?_
          refine j_iload X dX11_divide_83 0 rfl ?_
          refine j_if_eq (tgt := 92) X dX11_divide_85 (by decide) (fun _ => ?_) (fun c9 => absurd c9 (by decide))
          refine j_iconst (v := 0) X dX11_divide_92 rfl ?_
          refine j_callV X dX11_divide_93 (c_X11_doubled l G q t n co cr po tx ty [z0, z1, z2, z3, z4, z5, ((z4.natAbs : Int) / 2 ^ (kk + 1) / (z9.natAbs : Int)), z7, z8, z9, z10, z11, (2 * ((z4.natAbs : Int) / 2 ^ (kk + 1) % (z9.natAbs : Int)) + x_6.toInt), z13, z14, z15] rfl (upd (upd sf 6 0) 12 0) 6 6 rfl (by decide) 0 (by decide) hq0) gX11_divide_X11_doubled rfl hy_X11_doubled_V ⟨Nat.le_of_ble_eq_true rfl, Nat.le_of_ble_eq_true rfl⟩ 0 rfl rfl [0, 1, 2] rfl (by decide) rfl rfl (Nat.le_of_ble_eq_true rfl) ⟨Nat.le_of_ble_eq_true rfl, Nat.le_of_ble_eq_true rfl⟩ ?_
          rintro _ ⟨⟩ rfl
          change J p l e rm_X11_divide s m args below meth c Q G A 6 0 0 96 [(5, .int 0), (0, .ref (q 0)), (1, .int 6), (2, .int 4), (3, .int 9), (4, .int k)] [] [(q 0, .inr (10, mF t n q co cr po tx ty)), (q 10, aI G 320 (rg [z0, z1, z2, z3, z4, z5, (2 * ((z4.natAbs : Int) / 2 ^ (kk + 1) / (z9.natAbs : Int)) + (0 : Int32).toInt), z7, z8, z9, z10, z11, (2 * ((z4.natAbs : Int) / 2 ^ (kk + 1) % (z9.natAbs : Int)) + x_6.toInt), z13, z14, z15])), (q 11, aZ G 16 (upd (upd sf 6 0) 12 0))]
          rw [iT0]
          obtain ⟨x_7, ex_7⟩ : ∃ y9 : Int32, y9 = k + (-1) := ⟨_, rfl⟩
          refine j_iinc (v := x_7) (L' := [(4, .int x_7), (5, .int 0), (0, .ref (q 0)), (1, .int 6), (2, .int 4), (3, .int 9)]) X dX11_divide_96 5 rfl (by rw [ex_7]; rfl) (by decide) rfl ?_
          refine j_goto (tgt := 18) X dX11_divide_99 (by decide) ?_
          refine j_sub [2, 3, 4, 5, 0] rfl ?_
          refine j_eq (ws' := [(q 0, .inr (10, mF t n q co cr po tx ty)), (q 10, aI G 320 (rg [z0, z1, z2, z3, z4, z5, ((z4.natAbs : Int) / 2 ^ kk / (z9.natAbs : Int)), z7, z8, z9, z10, z11, ((z4.natAbs : Int) / 2 ^ kk % (z9.natAbs : Int)), z13, z14, z15])), (q 11, aZ G 16 (upd (upd sf 6 0) 12 0))]) (by rw [hq.1, hq.2]; try rw [Int.add_zero]) rfl ?_
          exact ih kk x_7 (by omega) (by rw [x_dec hk2 (by omega) ex_7]; omega) (by omega)
        · skip
          have hsg := sg_T (((2 * ((z4.natAbs : Int) / 2 ^ (kk + 1) % (z9.natAbs : Int)) + x_6.toInt).natAbs : Int) - (z9.natAbs : Int))
          first | simp only [cmp_eq, cmp_lt, cmp_ge, cmp_gt, cmp_le, lT0, lT1] at c_59 | simp only [Int32.le_iff_toInt_le, Int32.lt_iff_toInt_lt, ← Int32.toInt_inj, iT0, iT1, iT2, iT3, iT4, iT5, iT6, iT7, iT8, iT9, iT10, iT11, iT12, iT13, iT14, iT15, iT16, iT19, iT20, iT31, iT32, iT42, iT64, iT200, iT318, iT319, iT1000, iTm1, iTm2] at c_59
          have hq := dv_go (M := (z4.natAbs : Int) / 2 ^ (kk + 1)) hB hbit2 (by omega)
          rw [hM] at hq
          refine j_iconst (v := 1) X dX11_divide_62 rfl ?_
          refine j_goto (tgt := 67) X dX11_divide_63 (by decide) ?_
          refine j_istore (L' := [(5, .int 1), (0, .ref (q 0)), (1, .int 6), (2, .int 4), (3, .int 9), (4, .int k)]) X dX11_divide_67 (by decide) rfl ?_
          refine j_iload X dX11_divide_69 0 rfl ?_
          refine j_if_eq (tgt := 81) X dX11_divide_71 (by decide) (fun c9 => absurd c9 (by decide)) (fun _ => ?_)
          refine j_aload_n X dX11_divide_74 rfl 1 rfl ?_
          refine j_bipush (v := 12) X dX11_divide_75 (by decide) ?_
          refine j_iload_n X dX11_divide_77 rfl 4 rfl ?_
          refine j_callV X dX11_divide_78 (c_X11_takeAway l G q t n co cr po tx ty [z0, z1, z2, z3, z4, z5, ((z4.natAbs : Int) / 2 ^ (kk + 1) / (z9.natAbs : Int)), z7, z8, z9, z10, z11, (2 * ((z4.natAbs : Int) / 2 ^ (kk + 1) % (z9.natAbs : Int)) + x_6.toInt), z13, z14, z15] rfl (upd (upd sf 6 0) 12 0) 12 12 rfl (by decide) 9 9 rfl (by decide) (by decide) (show (z9.natAbs : Int) ≤ 2 * ((z4.natAbs : Int) / 2 ^ (kk + 1) % (z9.natAbs : Int)) + x_6.toInt by omega)) gX11_divide_X11_takeAway rfl hy_X11_takeAway_V ⟨Nat.le_of_ble_eq_true rfl, Nat.le_of_ble_eq_true rfl⟩ 0 rfl rfl [0, 1, 2] rfl (by decide) rfl rfl (Nat.le_of_ble_eq_true rfl) ⟨Nat.le_of_ble_eq_true rfl, Nat.le_of_ble_eq_true rfl⟩ ?_
          rintro _ ⟨⟩ rfl
          change J p l e rm_X11_divide s m args below meth c Q G A 6 0 0 81 [(5, .int 1), (0, .ref (q 0)), (1, .int 6), (2, .int 4), (3, .int 9), (4, .int k)] [] [(q 0, .inr (10, mF t n q co cr po tx ty)), (q 10, aI G 320 (rg [z0, z1, z2, z3, z4, z5, ((z4.natAbs : Int) / 2 ^ (kk + 1) / (z9.natAbs : Int)), z7, z8, z9, z10, z11, ((2 * ((z4.natAbs : Int) / 2 ^ (kk + 1) % (z9.natAbs : Int)) + x_6.toInt) - (z9.natAbs : Int)), z13, z14, z15])), (q 11, aZ G 16 (upd (upd sf 6 0) 12 0))]
          refine j_aload_n X dX11_divide_81 rfl 1 rfl ?_
          refine j_iload_n X dX11_divide_82 rfl 2 rfl ?_
          refine j_iload X dX11_divide_83 0 rfl ?_
          refine j_if_eq (tgt := 92) X dX11_divide_85 (by decide) (fun c9 => absurd c9 (by decide)) (fun _ => ?_)
          refine j_iconst (v := 1) X dX11_divide_88 rfl ?_
          refine j_goto (tgt := 93) X dX11_divide_89 (by decide) ?_
          refine j_callV X dX11_divide_93 (c_X11_doubled l G q t n co cr po tx ty [z0, z1, z2, z3, z4, z5, ((z4.natAbs : Int) / 2 ^ (kk + 1) / (z9.natAbs : Int)), z7, z8, z9, z10, z11, ((2 * ((z4.natAbs : Int) / 2 ^ (kk + 1) % (z9.natAbs : Int)) + x_6.toInt) - (z9.natAbs : Int)), z13, z14, z15] rfl (upd (upd sf 6 0) 12 0) 6 6 rfl (by decide) 1 (by decide) hq0) gX11_divide_X11_doubled rfl hy_X11_doubled_V ⟨Nat.le_of_ble_eq_true rfl, Nat.le_of_ble_eq_true rfl⟩ 0 rfl rfl [0, 1, 2] rfl (by decide) rfl rfl (Nat.le_of_ble_eq_true rfl) ⟨Nat.le_of_ble_eq_true rfl, Nat.le_of_ble_eq_true rfl⟩ ?_
          rintro _ ⟨⟩ rfl
          change J p l e rm_X11_divide s m args below meth c Q G A 6 0 0 96 [(5, .int 1), (0, .ref (q 0)), (1, .int 6), (2, .int 4), (3, .int 9), (4, .int k)] [] [(q 0, .inr (10, mF t n q co cr po tx ty)), (q 10, aI G 320 (rg [z0, z1, z2, z3, z4, z5, (2 * ((z4.natAbs : Int) / 2 ^ (kk + 1) / (z9.natAbs : Int)) + (1 : Int32).toInt), z7, z8, z9, z10, z11, ((2 * ((z4.natAbs : Int) / 2 ^ (kk + 1) % (z9.natAbs : Int)) + x_6.toInt) - (z9.natAbs : Int)), z13, z14, z15])), (q 11, aZ G 16 (upd (upd sf 6 0) 12 0))]
          rw [iT1]
          obtain ⟨x_8, ex_8⟩ : ∃ y9 : Int32, y9 = k + (-1) := ⟨_, rfl⟩
          refine j_iinc (v := x_8) (L' := [(4, .int x_8), (5, .int 1), (0, .ref (q 0)), (1, .int 6), (2, .int 4), (3, .int 9)]) X dX11_divide_96 5 rfl (by rw [ex_8]; rfl) (by decide) rfl ?_
          refine j_goto (tgt := 18) X dX11_divide_99 (by decide) ?_
          refine j_sub [2, 3, 4, 5, 0] rfl ?_
          refine j_eq (ws' := [(q 0, .inr (10, mF t n q co cr po tx ty)), (q 10, aI G 320 (rg [z0, z1, z2, z3, z4, z5, ((z4.natAbs : Int) / 2 ^ kk / (z9.natAbs : Int)), z7, z8, z9, z10, z11, ((z4.natAbs : Int) / 2 ^ kk % (z9.natAbs : Int)), z13, z14, z15])), (q 11, aZ G 16 (upd (upd sf 6 0) 12 0))]) (by rw [hq.1, hq.2]; try rw [Int.add_zero]) rfl ?_
          exact ih kk x_8 (by omega) (by rw [x_dec hk2 (by omega) ex_8]; omega) (by omega)
  refine j_sub [1, 2, 3, 4, 0] rfl ?_
  obtain ⟨K, hK⟩ : ∃ K : Nat, K = 320 := ⟨_, rfl⟩
  refine j_eq (ws' := [(q 0, .inr (10, mF t n q co cr po tx ty)), (q 10, aI G 320 (rg [z0, z1, z2, z3, z4, z5, ((z4.natAbs : Int) / 2 ^ K / (z9.natAbs : Int)), z7, z8, z9, z10, z11, ((z4.natAbs : Int) / 2 ^ K % (z9.natAbs : Int)), z13, z14, z15])), (q 11, aZ G 16 (upd (upd sf 6 0) 12 0))]) (by rw [show (z4.natAbs : Int) / 2 ^ K = 0 from Int.ediv_eq_zero_of_lt (by omega) (by rw [hK, p320]; omega), Int.zero_ediv, Int.zero_emod]) rfl ?_
  exact loop 321 K 319 (by omega) (by rw [hK]; rfl) (by omega)

