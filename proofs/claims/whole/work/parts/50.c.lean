abbrev rm_X11_crossArcs : Room := { frames := 3, cells := 0, slots := 0, locals := 86 }
theorem in_X11_crossArcs_X11 : ∀ w ∈ u_ws RX11 TX11 19, w ∈ wsX11_crossArcs := by decide +kernel
theorem fl_X11_crossArcs_13 : Cond.fieldLink RX11 13 (TX11 3).1 (TX11 3).2.1 (TX11 3).2.2.1 ∈ wsX11_crossArcs := by decide +kernel
theorem fl_X11_crossArcs_17 : Cond.fieldLink RX11 17 (TX11 4).1 (TX11 4).2.1 (TX11 4).2.2.1 ∈ wsX11_crossArcs := by decide +kernel
theorem fl_X11_crossArcs_20 : Cond.fieldLink RX11 20 (TX11 5).1 (TX11 5).2.1 (TX11 5).2.2.1 ∈ wsX11_crossArcs := by decide +kernel
theorem k_X11_crossArcs_194 : Cond.constantLong RX11 194 (4) ∈ wsX11_crossArcs := by decide +kernel
theorem fl_X11_crossArcs_159 : Cond.fieldLink RX11 159 (TX11 17).1 (TX11 17).2.1 (TX11 17).2.2.1 ∈ wsX11_crossArcs := by decide +kernel
theorem fl_X11_crossArcs_163 : Cond.fieldLink RX11 163 (TX11 18).1 (TX11 18).2.1 (TX11 18).2.2.1 ∈ wsX11_crossArcs := by decide +kernel
set_option maxHeartbeats 4000000 in
set_option maxRecDepth 100000 in
theorem c_X11_crossArcs (l : Launch) (G : jG) (q : Nat → Nat) (t n co cr : Int32) (tx ty : Int64) (zs : List Int) (hl : zs.length = 16) (sf : Nat → Int32) (hS : okS zs sf) (sig : Nat → Int32) (f1 f2 f3 f4 : Nat → Int64) (fr to1 : Nat → Int32) (a b : Nat) (bca : inC (f1 a).toInt ∧ inC (f2 a).toInt) (hfa : 0 ≤ (fr a).toInt ∧ (fr a).toInt < 8) (hta : 0 ≤ (to1 a).toInt ∧ (to1 a).toInt < 8) (ga : a < 200) (bra : 1 ≤ (f3 a).toInt ∧ (f3 a).toInt ≤ 4611686018427387904) (bcb : inC (f1 b).toInt ∧ inC (f2 b).toInt) (hfb : 0 ≤ (fr b).toInt ∧ (fr b).toInt < 8) (htb : 0 ≤ (to1 b).toInt ∧ (to1 b).toInt < 8) (gb : b < 200) (brb : 1 ≤ (f3 b).toInt ∧ (f3 b).toInt ≤ 4611686018427387904) : Ct l yX11_crossArcs wsX11_crossArcs rm_X11_crossArcs G [.ref (q 0), .int (nI a), .int (nI b)] [(q 0, .inr (10, mF t n q co cr 0 tx ty)), (q 2, aJ G 200 f1), (q 3, aJ G 200 f2), (q 4, aJ G 200 f3), (q 5, aJ G 200 f4), (q 6, aI G 200 fr), (q 7, aI G 200 to1), (q 10, aI G 320 (rg zs)), (q 11, aZ G 16 sf), (q 12, aI G 2 sig)] (S := Int32 × (Nat → Int32) × Int64 × Int64 × List Int × (Nat → Int32)) (fun r u => ((xaa (f1 a).toInt (f2 a).toInt (f1 b).toInt (f2 b).toInt (f3 a).toInt (f3 b).toInt (fr a).toInt (to1 a).toInt (fr b).toInt (to1 b).toInt = none ∧ r = some (.int 0) ∧ u.1 = 0 ∧ u.2.2.2.2.1.length = 16 ∧ okS u.2.2.2.2.1 u.2.2.2.2.2) ∨ (∃ v, xaa (f1 a).toInt (f2 a).toInt (f1 b).toInt (f2 b).toInt (f3 a).toInt (f3 b).toInt (fr a).toInt (to1 a).toInt (fr b).toInt (to1 b).toInt = some v ∧ r = some (.int 1) ∧ xG (v) u.1 u.2.1 u.2.2.1 u.2.2.2.1 u.2.2.2.2.1 ∧ u.2.2.2.2.1.length = 16 ∧ okS u.2.2.2.2.1 u.2.2.2.2.2))) (fun u => [(q 0, .inr (10, mF t n q co cr u.1 u.2.2.1 u.2.2.2.1)), (q 2, aJ G 200 f1), (q 3, aJ G 200 f2), (q 4, aJ G 200 f3), (q 5, aJ G 200 f4), (q 6, aI G 200 fr), (q 7, aI G 200 to1), (q 10, aI G 320 (rg u.2.2.2.2.1)), (q 11, aZ G 16 u.2.2.2.2.2), (q 12, aI G 2 u.2.1)]) (fun _ => []) := by
  refine c_intro (cc := cX11_crossArcs) (maxL := 8) (ret := (some .boolean)) (by decide) rfl (Nat.le_of_ble_eq_true rfl) (fun _ => by simp only [List.map_cons, List.map_nil]) ?_
  intro p e s m args below meth c Q A X hr hin E
  change J p l e rm_X11_crossArcs s m args below meth c Q G A 8 0 0 0 [(0, .ref (q 0)), (1, .int (nI a)), (2, .int (nI b))] [] [(q 0, .inr (10, mF t n q co cr 0 tx ty)), (q 2, aJ G 200 f1), (q 3, aJ G 200 f2), (q 4, aJ G 200 f3), (q 5, aJ G 200 f4), (q 6, aI G 200 fr), (q 7, aI G 200 to1), (q 10, aI G 320 (rg zs)), (q 11, aZ G 16 sf), (q 12, aI G 2 sig)]
  obtain ⟨z0, z1, z2, z3, z4, z5, z6, z7, z8, z9, z10, z11, z12, z13, z14, z15, rfl⟩ := l16 hl
  refine j_aload_n X dX11_crossArcs_0 rfl 0 rfl ?_
  refine j_get (v := .ref (q 2)) X dX11_crossArcs_1 0 rfl 3 rfl in_X11_crossArcs_X11 (by decide) fl_X11_crossArcs_13 rfl ?_
  refine j_iload_n X dX11_crossArcs_4 rfl 2 rfl ?_
  refine j_lald X dX11_crossArcs_5 1 rfl b rfl gb (by decide) ?_
  refine j_aload_n X dX11_crossArcs_6 rfl 0 rfl ?_
  refine j_get (v := .ref (q 2)) X dX11_crossArcs_7 0 rfl 3 rfl in_X11_crossArcs_X11 (by decide) fl_X11_crossArcs_13 rfl ?_
  refine j_iload_n X dX11_crossArcs_10 rfl 1 rfl ?_
  refine j_lald X dX11_crossArcs_11 1 rfl a rfl ga (by decide) ?_
  refine j_lsub X dX11_crossArcs_12 ?_
  refine j_topl (fun x_1 ex_1 => ?_)
  have tx_1 : x_1.toInt = (f1 b).toInt - (f1 a).toInt := by rw [ex_1]; exact bl_sub (bd_C bcb.1) (bd_C bca.1) (by decide) (by decide)
  have bx_1 : bd 41 x_1.toInt := by rw [tx_1]; exact bd_sub (bd_mono (bd_C bcb.1) (by decide)) (bd_mono (bd_C bca.1) (by decide))
  refine j_lstore_n (L' := [(3, .long x_1), (0, .ref (q 0)), (1, .int (nI a)), (2, .int (nI b))]) X dX11_crossArcs_13 rfl (by decide) rfl ?_
  refine j_aload_n X dX11_crossArcs_14 rfl 1 rfl ?_
  refine j_get (v := .ref (q 3)) X dX11_crossArcs_15 0 rfl 4 rfl in_X11_crossArcs_X11 (by decide) fl_X11_crossArcs_17 rfl ?_
  refine j_iload_n X dX11_crossArcs_18 rfl 3 rfl ?_
  refine j_lald X dX11_crossArcs_19 2 rfl b rfl gb (by decide) ?_
  refine j_aload_n X dX11_crossArcs_20 rfl 1 rfl ?_
  refine j_get (v := .ref (q 3)) X dX11_crossArcs_21 0 rfl 4 rfl in_X11_crossArcs_X11 (by decide) fl_X11_crossArcs_17 rfl ?_
  refine j_iload_n X dX11_crossArcs_24 rfl 2 rfl ?_
  refine j_lald X dX11_crossArcs_25 2 rfl a rfl ga (by decide) ?_
  refine j_lsub X dX11_crossArcs_26 ?_
  refine j_topl (fun x_2 ex_2 => ?_)
  have tx_2 : x_2.toInt = (f2 b).toInt - (f2 a).toInt := by rw [ex_2]; exact bl_sub (bd_C bcb.2) (bd_C bca.2) (by decide) (by decide)
  have bx_2 : bd 41 x_2.toInt := by rw [tx_2]; exact bd_sub (bd_mono (bd_C bcb.2) (by decide)) (bd_mono (bd_C bca.2) (by decide))
  refine j_lstore (L' := [(5, .long x_2), (3, .long x_1), (0, .ref (q 0)), (1, .int (nI a)), (2, .int (nI b))]) X dX11_crossArcs_27 (by decide) rfl ?_
  refine j_lload_n X dX11_crossArcs_29 rfl 1 rfl ?_
  refine j_lconst (v := 0) X dX11_crossArcs_30 rfl ?_
  refine j_lcmp X dX11_crossArcs_31 ?_
  refine j_if_ne (tgt := 64) X dX11_crossArcs_32 (by decide) (fun c_32 => ?_) (fun c_32 => ?_)
  · skip
    first | simp only [bI_0, Decidable.not_not, sg_mul, sg_e0, sg_l0, sg_g0, sg_le0, sg_ge0, cmp_eq, cmp_lt, cmp_ge, cmp_gt, cmp_le, lT0, lT1] at c_32 | simp only [Int32.le_iff_toInt_le, Int32.lt_iff_toInt_lt, ← Int32.toInt_inj, iT0, iT1, iT2, iT3, iT4, iT5, iT6, iT7, iT8, iT9, iT10, iT11, iT12, iT13, iT14, iT15, iT16, iT19, iT20, iT31, iT32, iT42, iT64, iT200, iT318, iT319, iT1000, iTm1, iTm2] at c_32 | skip
    have hne : ¬ ((f1 b).toInt - (f1 a).toInt = 0 ∧ (f2 b).toInt - (f2 a).toInt = 0) := fun h => c_32 (by rw [tx_1]; exact h.1)
    refine j_aload_n X dX11_crossArcs_64 rfl 2 rfl ?_
    refine j_bipush (v := 9) X dX11_crossArcs_65 (by decide) ?_
    refine j_lload_n X dX11_crossArcs_67 rfl 1 rfl ?_
    refine j_lload_n X dX11_crossArcs_68 rfl 1 rfl ?_
    refine j_lload X dX11_crossArcs_69 0 rfl ?_
    refine j_lload X dX11_crossArcs_71 0 rfl ?_
    refine j_iconst (v := 0) X dX11_crossArcs_73 rfl ?_
    obtain ⟨y_3, ey_3⟩ : ∃ zz9 : Int, zz9 = x_1.toInt * x_1.toInt + x_2.toInt * x_2.toInt := ⟨_, rfl⟩
    have by_3 : bd 83 y_3 := by rw [ey_3]; exact bd_add (bd_mono (bd_mul bx_1 bx_1) (by decide)) (bd_mono (bd_mul bx_2 bx_2) (by decide))
    refine j_callV X dX11_crossArcs_74 (n_products l G q t n co cr 0 tx ty [z0, z1, z2, z3, z4, z5, z6, z7, z8, z9, z10, z11, z12, z13, z14, z15] sf rfl hS 9 9 rfl (by decide) x_1 x_1 x_2 x_2 0 (Or.inl rfl) y_3 ey_3) gX11_crossArcs_X11_products rfl hy_X11_products_V ⟨Nat.le_of_ble_eq_true rfl, Nat.le_of_ble_eq_true rfl⟩ 0 rfl rfl [0, 7, 8] rfl (by decide) rfl rfl (Nat.le_of_ble_eq_true rfl) ⟨Nat.le_of_ble_eq_true rfl, Nat.le_of_ble_eq_true rfl⟩ ?_
    rintro _ ⟨v_4, v_5, v_6, v_7, sf_8⟩ ⟨rfl, hS_sf_8⟩
    change J p l e rm_X11_crossArcs s m args below meth c Q G A 8 0 0 77 [(5, .long x_2), (3, .long x_1), (0, .ref (q 0)), (1, .int (nI a)), (2, .int (nI b))] [] [(q 0, .inr (10, mF t n q co cr 0 tx ty)), (q 2, aJ G 200 f1), (q 3, aJ G 200 f2), (q 4, aJ G 200 f3), (q 5, aJ G 200 f4), (q 6, aI G 200 fr), (q 7, aI G 200 to1), (q 10, aI G 320 (rg [z0, z1, z2, z3, z4, z5, z6, z7, z8, y_3, z10, z11, v_4, v_5, v_6, v_7])), (q 11, aZ G 16 sf_8), (q 12, aI G 2 sig)]
    refine j_aload_n X dX11_crossArcs_77 rfl 2 rfl ?_
    refine j_iconst (v := 4) X dX11_crossArcs_78 rfl ?_
    refine j_aload_n X dX11_crossArcs_79 rfl 2 rfl ?_
    refine j_get (v := .ref (q 4)) X dX11_crossArcs_80 0 rfl 5 rfl in_X11_crossArcs_X11 (by decide) fl_X11_crossArcs_20 rfl ?_
    refine j_iload_n X dX11_crossArcs_83 rfl 3 rfl ?_
    refine j_lald X dX11_crossArcs_84 3 rfl a rfl ga (by decide) ?_
    obtain ⟨y_9, ey_9⟩ : ∃ zz9 : Int, zz9 = (f3 a).toInt := ⟨_, rfl⟩
    have by_9 : bd 62 y_9 := by rw [ey_9]; exact (bd_of 62 (B := 4611686018427387904) (by decide) (by omega) bra.2)
    refine j_callV X dX11_crossArcs_85 (n_load l G q t n co cr 0 tx ty [z0, z1, z2, z3, z4, z5, z6, z7, z8, y_3, z10, z11, v_4, v_5, v_6, v_7] sf_8 rfl hS_sf_8 4 4 rfl (by decide) (f3 a) y_9 ey_9) gX11_crossArcs_X11_load rfl hy_X11_load_V ⟨Nat.le_of_ble_eq_true rfl, Nat.le_of_ble_eq_true rfl⟩ 0 rfl rfl [0, 7, 8] rfl (by decide) rfl rfl (Nat.le_of_ble_eq_true rfl) ⟨Nat.le_of_ble_eq_true rfl, Nat.le_of_ble_eq_true rfl⟩ ?_
    rintro _ sf_10 ⟨rfl, hS_sf_10⟩
    change J p l e rm_X11_crossArcs s m args below meth c Q G A 8 0 0 88 [(5, .long x_2), (3, .long x_1), (0, .ref (q 0)), (1, .int (nI a)), (2, .int (nI b))] [] [(q 0, .inr (10, mF t n q co cr 0 tx ty)), (q 2, aJ G 200 f1), (q 3, aJ G 200 f2), (q 4, aJ G 200 f3), (q 5, aJ G 200 f4), (q 6, aI G 200 fr), (q 7, aI G 200 to1), (q 10, aI G 320 (rg [z0, z1, z2, z3, y_9, z5, z6, z7, z8, y_3, z10, z11, v_4, v_5, v_6, v_7])), (q 11, aZ G 16 sf_10), (q 12, aI G 2 sig)]
    refine j_aload_n X dX11_crossArcs_88 rfl 2 rfl ?_
    refine j_iconst (v := 5) X dX11_crossArcs_89 rfl ?_
    refine j_bipush (v := 9) X dX11_crossArcs_90 (by decide) ?_
    refine j_iconst (v := 4) X dX11_crossArcs_92 rfl ?_
    refine j_iconst (v := 0) X dX11_crossArcs_93 rfl ?_
    obtain ⟨y_11, ey_11⟩ : ∃ zz9 : Int, zz9 = y_3 + y_9 := ⟨_, rfl⟩
    have by_11 : bd 84 y_11 := by rw [ey_11]; exact bd_add (bd_mono by_3 (by decide)) (bd_mono by_9 (by decide))
    refine j_callV X dX11_crossArcs_94 (n_join l G q t n co cr 0 tx ty [z0, z1, z2, z3, y_9, z5, z6, z7, z8, y_3, z10, z11, v_4, v_5, v_6, v_7] sf_10 rfl hS_sf_10 5 5 rfl (by decide) 9 9 rfl (by decide) 4 4 rfl (by decide) 0 (Or.inl rfl) (by decide) (by decide) y_11 ey_11 by_3 by_9 (by decide) (by decide)) gX11_crossArcs_X11_join rfl hy_X11_join_V ⟨Nat.le_of_ble_eq_true rfl, Nat.le_of_ble_eq_true rfl⟩ 0 rfl rfl [0, 7, 8] rfl (by decide) rfl rfl (Nat.le_of_ble_eq_true rfl) ⟨Nat.le_of_ble_eq_true rfl, Nat.le_of_ble_eq_true rfl⟩ ?_
    rintro _ sf_12 ⟨rfl, hS_sf_12⟩
    change J p l e rm_X11_crossArcs s m args below meth c Q G A 8 0 0 97 [(5, .long x_2), (3, .long x_1), (0, .ref (q 0)), (1, .int (nI a)), (2, .int (nI b))] [] [(q 0, .inr (10, mF t n q co cr 0 tx ty)), (q 2, aJ G 200 f1), (q 3, aJ G 200 f2), (q 4, aJ G 200 f3), (q 5, aJ G 200 f4), (q 6, aI G 200 fr), (q 7, aI G 200 to1), (q 10, aI G 320 (rg [z0, z1, z2, z3, y_9, y_11, z6, z7, z8, y_3, z10, z11, v_4, v_5, v_6, v_7])), (q 11, aZ G 16 sf_12), (q 12, aI G 2 sig)]
    refine j_aload_n X dX11_crossArcs_97 rfl 2 rfl ?_
    refine j_iconst (v := 4) X dX11_crossArcs_98 rfl ?_
    refine j_aload_n X dX11_crossArcs_99 rfl 2 rfl ?_
    refine j_get (v := .ref (q 4)) X dX11_crossArcs_100 0 rfl 5 rfl in_X11_crossArcs_X11 (by decide) fl_X11_crossArcs_20 rfl ?_
    refine j_iload_n X dX11_crossArcs_103 rfl 4 rfl ?_
    refine j_lald X dX11_crossArcs_104 3 rfl b rfl gb (by decide) ?_
    obtain ⟨y_13, ey_13⟩ : ∃ zz9 : Int, zz9 = (f3 b).toInt := ⟨_, rfl⟩
    have by_13 : bd 62 y_13 := by rw [ey_13]; exact (bd_of 62 (B := 4611686018427387904) (by decide) (by omega) brb.2)
    refine j_callV X dX11_crossArcs_105 (n_load l G q t n co cr 0 tx ty [z0, z1, z2, z3, y_9, y_11, z6, z7, z8, y_3, z10, z11, v_4, v_5, v_6, v_7] sf_12 rfl hS_sf_12 4 4 rfl (by decide) (f3 b) y_13 ey_13) gX11_crossArcs_X11_load rfl hy_X11_load_V ⟨Nat.le_of_ble_eq_true rfl, Nat.le_of_ble_eq_true rfl⟩ 0 rfl rfl [0, 7, 8] rfl (by decide) rfl rfl (Nat.le_of_ble_eq_true rfl) ⟨Nat.le_of_ble_eq_true rfl, Nat.le_of_ble_eq_true rfl⟩ ?_
    rintro _ sf_14 ⟨rfl, hS_sf_14⟩
    change J p l e rm_X11_crossArcs s m args below meth c Q G A 8 0 0 108 [(5, .long x_2), (3, .long x_1), (0, .ref (q 0)), (1, .int (nI a)), (2, .int (nI b))] [] [(q 0, .inr (10, mF t n q co cr 0 tx ty)), (q 2, aJ G 200 f1), (q 3, aJ G 200 f2), (q 4, aJ G 200 f3), (q 5, aJ G 200 f4), (q 6, aI G 200 fr), (q 7, aI G 200 to1), (q 10, aI G 320 (rg [z0, z1, z2, z3, y_13, y_11, z6, z7, z8, y_3, z10, z11, v_4, v_5, v_6, v_7])), (q 11, aZ G 16 sf_14), (q 12, aI G 2 sig)]
    refine j_aload_n X dX11_crossArcs_108 rfl 2 rfl ?_
    refine j_bipush (v := 8) X dX11_crossArcs_109 (by decide) ?_
    refine j_iconst (v := 5) X dX11_crossArcs_111 rfl ?_
    refine j_iconst (v := 4) X dX11_crossArcs_112 rfl ?_
    refine j_iconst (v := 1) X dX11_crossArcs_113 rfl ?_
    obtain ⟨y_15, ey_15⟩ : ∃ zz9 : Int, zz9 = y_11 - y_13 := ⟨_, rfl⟩
    have by_15 : bd 85 y_15 := by rw [ey_15]; exact bd_sub (bd_mono by_11 (by decide)) (bd_mono by_13 (by decide))
    refine j_callV X dX11_crossArcs_114 (n_join l G q t n co cr 0 tx ty [z0, z1, z2, z3, y_13, y_11, z6, z7, z8, y_3, z10, z11, v_4, v_5, v_6, v_7] sf_14 rfl hS_sf_14 8 8 rfl (by decide) 5 5 rfl (by decide) 4 4 rfl (by decide) 1 (Or.inr rfl) (by decide) (by decide) y_15 ey_15 by_11 by_13 (by decide) (by decide)) gX11_crossArcs_X11_join rfl hy_X11_join_V ⟨Nat.le_of_ble_eq_true rfl, Nat.le_of_ble_eq_true rfl⟩ 0 rfl rfl [0, 7, 8] rfl (by decide) rfl rfl (Nat.le_of_ble_eq_true rfl) ⟨Nat.le_of_ble_eq_true rfl, Nat.le_of_ble_eq_true rfl⟩ ?_
    rintro _ sf_16 ⟨rfl, hS_sf_16⟩
    change J p l e rm_X11_crossArcs s m args below meth c Q G A 8 0 0 117 [(5, .long x_2), (3, .long x_1), (0, .ref (q 0)), (1, .int (nI a)), (2, .int (nI b))] [] [(q 0, .inr (10, mF t n q co cr 0 tx ty)), (q 2, aJ G 200 f1), (q 3, aJ G 200 f2), (q 4, aJ G 200 f3), (q 5, aJ G 200 f4), (q 6, aI G 200 fr), (q 7, aI G 200 to1), (q 10, aI G 320 (rg [z0, z1, z2, z3, y_13, y_11, z6, z7, y_15, y_3, z10, z11, v_4, v_5, v_6, v_7])), (q 11, aZ G 16 sf_16), (q 12, aI G 2 sig)]
    refine j_aload_n X dX11_crossArcs_117 rfl 2 rfl ?_
    refine j_iconst (v := 4) X dX11_crossArcs_118 rfl ?_
    refine j_aload_n X dX11_crossArcs_119 rfl 2 rfl ?_
    refine j_get (v := .ref (q 4)) X dX11_crossArcs_120 0 rfl 5 rfl in_X11_crossArcs_X11 (by decide) fl_X11_crossArcs_20 rfl ?_
    refine j_iload_n X dX11_crossArcs_123 rfl 3 rfl ?_
    refine j_lald X dX11_crossArcs_124 3 rfl a rfl ga (by decide) ?_
    obtain ⟨y_17, ey_17⟩ : ∃ zz9 : Int, zz9 = (f3 a).toInt := ⟨_, rfl⟩
    have by_17 : bd 62 y_17 := by rw [ey_17]; exact (bd_of 62 (B := 4611686018427387904) (by decide) (by omega) bra.2)
    refine j_callV X dX11_crossArcs_125 (n_load l G q t n co cr 0 tx ty [z0, z1, z2, z3, y_13, y_11, z6, z7, y_15, y_3, z10, z11, v_4, v_5, v_6, v_7] sf_16 rfl hS_sf_16 4 4 rfl (by decide) (f3 a) y_17 ey_17) gX11_crossArcs_X11_load rfl hy_X11_load_V ⟨Nat.le_of_ble_eq_true rfl, Nat.le_of_ble_eq_true rfl⟩ 0 rfl rfl [0, 7, 8] rfl (by decide) rfl rfl (Nat.le_of_ble_eq_true rfl) ⟨Nat.le_of_ble_eq_true rfl, Nat.le_of_ble_eq_true rfl⟩ ?_
    rintro _ sf_18 ⟨rfl, hS_sf_18⟩
    change J p l e rm_X11_crossArcs s m args below meth c Q G A 8 0 0 128 [(5, .long x_2), (3, .long x_1), (0, .ref (q 0)), (1, .int (nI a)), (2, .int (nI b))] [] [(q 0, .inr (10, mF t n q co cr 0 tx ty)), (q 2, aJ G 200 f1), (q 3, aJ G 200 f2), (q 4, aJ G 200 f3), (q 5, aJ G 200 f4), (q 6, aI G 200 fr), (q 7, aI G 200 to1), (q 10, aI G 320 (rg [z0, z1, z2, z3, y_17, y_11, z6, z7, y_15, y_3, z10, z11, v_4, v_5, v_6, v_7])), (q 11, aZ G 16 sf_18), (q 12, aI G 2 sig)]
    refine j_aload_n X dX11_crossArcs_128 rfl 2 rfl ?_
    refine j_iconst (v := 5) X dX11_crossArcs_129 rfl ?_
    refine j_ldc2 (v := 4) X dX11_crossArcs_130 k_X11_crossArcs_194 ?_
    obtain ⟨y_19, ey_19⟩ : ∃ zz9 : Int, zz9 = 4 := ⟨_, rfl⟩
    have by_19 : bd 3 y_19 := by rw [ey_19]; exact (by decide : Int.natAbs 4 ≤ 2 ^ 3)
    refine j_callV X dX11_crossArcs_133 (n_load l G q t n co cr 0 tx ty [z0, z1, z2, z3, y_17, y_11, z6, z7, y_15, y_3, z10, z11, v_4, v_5, v_6, v_7] sf_18 rfl hS_sf_18 5 5 rfl (by decide) 4 y_19 (by rw [ey_19]; rfl)) gX11_crossArcs_X11_load rfl hy_X11_load_V ⟨Nat.le_of_ble_eq_true rfl, Nat.le_of_ble_eq_true rfl⟩ 0 rfl rfl [0, 7, 8] rfl (by decide) rfl rfl (Nat.le_of_ble_eq_true rfl) ⟨Nat.le_of_ble_eq_true rfl, Nat.le_of_ble_eq_true rfl⟩ ?_
    rintro _ sf_20 ⟨rfl, hS_sf_20⟩
    change J p l e rm_X11_crossArcs s m args below meth c Q G A 8 0 0 136 [(5, .long x_2), (3, .long x_1), (0, .ref (q 0)), (1, .int (nI a)), (2, .int (nI b))] [] [(q 0, .inr (10, mF t n q co cr 0 tx ty)), (q 2, aJ G 200 f1), (q 3, aJ G 200 f2), (q 4, aJ G 200 f3), (q 5, aJ G 200 f4), (q 6, aI G 200 fr), (q 7, aI G 200 to1), (q 10, aI G 320 (rg [z0, z1, z2, z3, y_17, y_19, z6, z7, y_15, y_3, z10, z11, v_4, v_5, v_6, v_7])), (q 11, aZ G 16 sf_20), (q 12, aI G 2 sig)]
    refine j_aload_n X dX11_crossArcs_136 rfl 2 rfl ?_
    refine j_bipush (v := 6) X dX11_crossArcs_137 (by decide) ?_
    refine j_iconst (v := 4) X dX11_crossArcs_139 rfl ?_
    refine j_iconst (v := 5) X dX11_crossArcs_140 rfl ?_
    obtain ⟨y_21, ey_21⟩ : ∃ zz9 : Int, zz9 = y_17 * y_19 := ⟨_, rfl⟩
    have by_21 : bd 65 y_21 := by rw [ey_21]; exact bd_mul by_17 by_19
    refine j_callV X dX11_crossArcs_141 (n_mul l G q t n co cr 0 tx ty [z0, z1, z2, z3, y_17, y_19, z6, z7, y_15, y_3, z10, z11, v_4, v_5, v_6, v_7] sf_20 rfl hS_sf_20 6 6 rfl (by decide) 4 4 rfl (by decide) 5 5 rfl (by decide) (by decide) (by decide) y_21 ey_21) gX11_crossArcs_X11_multiply rfl hy_X11_multiply_V ⟨Nat.le_of_ble_eq_true rfl, Nat.le_of_ble_eq_true rfl⟩ 0 rfl rfl [0, 7, 8] rfl (by decide) rfl rfl (Nat.le_of_ble_eq_true rfl) ⟨Nat.le_of_ble_eq_true rfl, Nat.le_of_ble_eq_true rfl⟩ ?_
    rintro _ sf_22 ⟨rfl, hS_sf_22⟩
    change J p l e rm_X11_crossArcs s m args below meth c Q G A 8 0 0 144 [(5, .long x_2), (3, .long x_1), (0, .ref (q 0)), (1, .int (nI a)), (2, .int (nI b))] [] [(q 0, .inr (10, mF t n q co cr 0 tx ty)), (q 2, aJ G 200 f1), (q 3, aJ G 200 f2), (q 4, aJ G 200 f3), (q 5, aJ G 200 f4), (q 6, aI G 200 fr), (q 7, aI G 200 to1), (q 10, aI G 320 (rg [z0, z1, z2, z3, y_17, y_19, y_21, z7, y_15, y_3, z10, z11, v_4, v_5, v_6, v_7])), (q 11, aZ G 16 sf_22), (q 12, aI G 2 sig)]
    refine j_aload_n X dX11_crossArcs_144 rfl 2 rfl ?_
    refine j_iconst (v := 4) X dX11_crossArcs_145 rfl ?_
    refine j_bipush (v := 6) X dX11_crossArcs_146 (by decide) ?_
    refine j_bipush (v := 9) X dX11_crossArcs_148 (by decide) ?_
    obtain ⟨y_23, ey_23⟩ : ∃ zz9 : Int, zz9 = y_21 * y_3 := ⟨_, rfl⟩
    have by_23 : bd 148 y_23 := by rw [ey_23]; exact bd_mul by_21 by_3
    refine j_callV X dX11_crossArcs_150 (n_mul l G q t n co cr 0 tx ty [z0, z1, z2, z3, y_17, y_19, y_21, z7, y_15, y_3, z10, z11, v_4, v_5, v_6, v_7] sf_22 rfl hS_sf_22 4 4 rfl (by decide) 6 6 rfl (by decide) 9 9 rfl (by decide) (by decide) (by decide) y_23 ey_23) gX11_crossArcs_X11_multiply rfl hy_X11_multiply_V ⟨Nat.le_of_ble_eq_true rfl, Nat.le_of_ble_eq_true rfl⟩ 0 rfl rfl [0, 7, 8] rfl (by decide) rfl rfl (Nat.le_of_ble_eq_true rfl) ⟨Nat.le_of_ble_eq_true rfl, Nat.le_of_ble_eq_true rfl⟩ ?_
    rintro _ sf_24 ⟨rfl, hS_sf_24⟩
    change J p l e rm_X11_crossArcs s m args below meth c Q G A 8 0 0 153 [(5, .long x_2), (3, .long x_1), (0, .ref (q 0)), (1, .int (nI a)), (2, .int (nI b))] [] [(q 0, .inr (10, mF t n q co cr 0 tx ty)), (q 2, aJ G 200 f1), (q 3, aJ G 200 f2), (q 4, aJ G 200 f3), (q 5, aJ G 200 f4), (q 6, aI G 200 fr), (q 7, aI G 200 to1), (q 10, aI G 320 (rg [z0, z1, z2, z3, y_23, y_19, y_21, z7, y_15, y_3, z10, z11, v_4, v_5, v_6, v_7])), (q 11, aZ G 16 sf_24), (q 12, aI G 2 sig)]
    refine j_aload_n X dX11_crossArcs_153 rfl 2 rfl ?_
    refine j_iconst (v := 5) X dX11_crossArcs_154 rfl ?_
    refine j_bipush (v := 8) X dX11_crossArcs_155 (by decide) ?_
    refine j_bipush (v := 8) X dX11_crossArcs_157 (by decide) ?_
    obtain ⟨y_25, ey_25⟩ : ∃ zz9 : Int, zz9 = y_15 * y_15 := ⟨_, rfl⟩
    have by_25 : bd 170 y_25 := by rw [ey_25]; exact bd_mul by_15 by_15
    refine j_callV X dX11_crossArcs_159 (n_mul l G q t n co cr 0 tx ty [z0, z1, z2, z3, y_23, y_19, y_21, z7, y_15, y_3, z10, z11, v_4, v_5, v_6, v_7] sf_24 rfl hS_sf_24 5 5 rfl (by decide) 8 8 rfl (by decide) 8 8 rfl (by decide) (by decide) (by decide) y_25 ey_25) gX11_crossArcs_X11_multiply rfl hy_X11_multiply_V ⟨Nat.le_of_ble_eq_true rfl, Nat.le_of_ble_eq_true rfl⟩ 0 rfl rfl [0, 7, 8] rfl (by decide) rfl rfl (Nat.le_of_ble_eq_true rfl) ⟨Nat.le_of_ble_eq_true rfl, Nat.le_of_ble_eq_true rfl⟩ ?_
    rintro _ sf_26 ⟨rfl, hS_sf_26⟩
    change J p l e rm_X11_crossArcs s m args below meth c Q G A 8 0 0 162 [(5, .long x_2), (3, .long x_1), (0, .ref (q 0)), (1, .int (nI a)), (2, .int (nI b))] [] [(q 0, .inr (10, mF t n q co cr 0 tx ty)), (q 2, aJ G 200 f1), (q 3, aJ G 200 f2), (q 4, aJ G 200 f3), (q 5, aJ G 200 f4), (q 6, aI G 200 fr), (q 7, aI G 200 to1), (q 10, aI G 320 (rg [z0, z1, z2, z3, y_23, y_25, y_21, z7, y_15, y_3, z10, z11, v_4, v_5, v_6, v_7])), (q 11, aZ G 16 sf_26), (q 12, aI G 2 sig)]
    refine j_aload_n X dX11_crossArcs_162 rfl 2 rfl ?_
    refine j_iconst (v := 2) X dX11_crossArcs_163 rfl ?_
    refine j_iconst (v := 4) X dX11_crossArcs_164 rfl ?_
    refine j_iconst (v := 5) X dX11_crossArcs_165 rfl ?_
    refine j_iconst (v := 1) X dX11_crossArcs_166 rfl ?_
    obtain ⟨y_27, ey_27⟩ : ∃ zz9 : Int, zz9 = y_23 - y_25 := ⟨_, rfl⟩
    have by_27 : bd 171 y_27 := by rw [ey_27]; exact bd_sub (bd_mono by_23 (by decide)) (bd_mono by_25 (by decide))
    refine j_callV X dX11_crossArcs_167 (n_join l G q t n co cr 0 tx ty [z0, z1, z2, z3, y_23, y_25, y_21, z7, y_15, y_3, z10, z11, v_4, v_5, v_6, v_7] sf_26 rfl hS_sf_26 2 2 rfl (by decide) 4 4 rfl (by decide) 5 5 rfl (by decide) 1 (Or.inr rfl) (by decide) (by decide) y_27 ey_27 by_23 by_25 (by decide) (by decide)) gX11_crossArcs_X11_join rfl hy_X11_join_V ⟨Nat.le_of_ble_eq_true rfl, Nat.le_of_ble_eq_true rfl⟩ 0 rfl rfl [0, 7, 8] rfl (by decide) rfl rfl (Nat.le_of_ble_eq_true rfl) ⟨Nat.le_of_ble_eq_true rfl, Nat.le_of_ble_eq_true rfl⟩ ?_
    rintro _ sf_28 ⟨rfl, hS_sf_28⟩
    change J p l e rm_X11_crossArcs s m args below meth c Q G A 8 0 0 170 [(5, .long x_2), (3, .long x_1), (0, .ref (q 0)), (1, .int (nI a)), (2, .int (nI b))] [] [(q 0, .inr (10, mF t n q co cr 0 tx ty)), (q 2, aJ G 200 f1), (q 3, aJ G 200 f2), (q 4, aJ G 200 f3), (q 5, aJ G 200 f4), (q 6, aI G 200 fr), (q 7, aI G 200 to1), (q 10, aI G 320 (rg [z0, z1, y_27, z3, y_23, y_25, y_21, z7, y_15, y_3, z10, z11, v_4, v_5, v_6, v_7])), (q 11, aZ G 16 sf_28), (q 12, aI G 2 sig)]
    refine j_aload_n X dX11_crossArcs_170 rfl 2 rfl ?_
    refine j_iconst (v := 2) X dX11_crossArcs_171 rfl ?_
    refine j_callV X dX11_crossArcs_172 (c_X11_sign l G q t n co cr 0 tx ty [z0, z1, y_27, z3, y_23, y_25, y_21, z7, y_15, y_3, z10, z11, v_4, v_5, v_6, v_7] rfl sf_28 2 2 rfl (by decide) (hS_sf_28 2 (by decide)) (bd_lt by_27 (by decide))) gX11_crossArcs_X11_sign rfl hy_X11_sign_V ⟨Nat.le_of_ble_eq_true rfl, Nat.le_of_ble_eq_true rfl⟩ 0 rfl rfl [0, 7, 8] rfl (by decide) rfl rfl (Nat.le_of_ble_eq_true rfl) ⟨Nat.le_of_ble_eq_true rfl, Nat.le_of_ble_eq_true rfl⟩ ?_
    rintro _ ⟨⟩ rfl
    change J p l e rm_X11_crossArcs s m args below meth c Q G A 8 0 0 175 [(5, .long x_2), (3, .long x_1), (0, .ref (q 0)), (1, .int (nI a)), (2, .int (nI b))] [.int (sg y_27)] [(q 0, .inr (10, mF t n q co cr 0 tx ty)), (q 2, aJ G 200 f1), (q 3, aJ G 200 f2), (q 4, aJ G 200 f3), (q 5, aJ G 200 f4), (q 6, aI G 200 fr), (q 7, aI G 200 to1), (q 10, aI G 320 (rg [z0, z1, y_27, z3, y_23, y_25, y_21, z7, y_15, y_3, z10, z11, v_4, v_5, v_6, v_7])), (q 11, aZ G 16 sf_28), (q 12, aI G 2 sig)]
    refine j_if_ge (tgt := 180) X dX11_crossArcs_175 (by decide) (fun c_175 => ?_) (fun c_175 => ?_)
    · skip
      first | simp only [bI_0, Decidable.not_not, sg_mul, sg_e0, sg_l0, sg_g0, sg_le0, sg_ge0, cmp_eq, cmp_lt, cmp_ge, cmp_gt, cmp_le, lT0, lT1] at c_175 | simp only [Int32.le_iff_toInt_le, Int32.lt_iff_toInt_lt, ← Int32.toInt_inj, iT0, iT1, iT2, iT3, iT4, iT5, iT6, iT7, iT8, iT9, iT10, iT11, iT12, iT13, iT14, iT15, iT16, iT19, iT20, iT31, iT32, iT42, iT64, iT200, iT318, iT319, iT1000, iTm1, iTm2] at c_175 | skip
      have hF : y_3 = aaF (f1 a).toInt (f2 a).toInt (f1 b).toInt (f2 b).toInt := by rw [ey_3, tx_1, tx_2]; rfl
      have hE : y_15 = aaE (f1 a).toInt (f2 a).toInt (f1 b).toInt (f2 b).toInt (f3 a).toInt (f3 b).toInt := by unfold aaE; rw [← hF, ey_15, ey_11, ey_9, ey_13]
      have hR : y_27 = aaR (f1 a).toInt (f2 a).toInt (f1 b).toInt (f2 b).toInt (f3 a).toInt (f3 b).toInt := by unfold aaR; rw [← hE, ← hF, ey_27, ey_23, ey_25, ey_21, ey_17, ey_19]
      refine j_aload_n X dX11_crossArcs_180 rfl 2 rfl ?_
      refine j_iconst (v := 3) X dX11_crossArcs_181 rfl ?_
      refine j_bipush (v := 9) X dX11_crossArcs_182 (by decide) ?_
      refine j_bipush (v := 9) X dX11_crossArcs_184 (by decide) ?_
      refine j_iconst (v := 0) X dX11_crossArcs_186 rfl ?_
      obtain ⟨y_29, ey_29⟩ : ∃ zz9 : Int, zz9 = y_3 + y_3 := ⟨_, rfl⟩
      have by_29 : bd 84 y_29 := by rw [ey_29]; exact bd_add (bd_mono by_3 (by decide)) (bd_mono by_3 (by decide))
      refine j_callV X dX11_crossArcs_187 (n_join l G q t n co cr 0 tx ty [z0, z1, y_27, z3, y_23, y_25, y_21, z7, y_15, y_3, z10, z11, v_4, v_5, v_6, v_7] sf_28 rfl hS_sf_28 3 3 rfl (by decide) 9 9 rfl (by decide) 9 9 rfl (by decide) 0 (Or.inl rfl) (by decide) (by decide) y_29 ey_29 by_3 by_3 (by decide) (by decide)) gX11_crossArcs_X11_join rfl hy_X11_join_V ⟨Nat.le_of_ble_eq_true rfl, Nat.le_of_ble_eq_true rfl⟩ 0 rfl rfl [0, 7, 8] rfl (by decide) rfl rfl (Nat.le_of_ble_eq_true rfl) ⟨Nat.le_of_ble_eq_true rfl, Nat.le_of_ble_eq_true rfl⟩ ?_
      rintro _ sf_30 ⟨rfl, hS_sf_30⟩
      change J p l e rm_X11_crossArcs s m args below meth c Q G A 8 0 0 190 [(5, .long x_2), (3, .long x_1), (0, .ref (q 0)), (1, .int (nI a)), (2, .int (nI b))] [] [(q 0, .inr (10, mF t n q co cr 0 tx ty)), (q 2, aJ G 200 f1), (q 3, aJ G 200 f2), (q 4, aJ G 200 f3), (q 5, aJ G 200 f4), (q 6, aI G 200 fr), (q 7, aI G 200 to1), (q 10, aI G 320 (rg [z0, z1, y_27, y_29, y_23, y_25, y_21, z7, y_15, y_3, z10, z11, v_4, v_5, v_6, v_7])), (q 11, aZ G 16 sf_30), (q 12, aI G 2 sig)]
      have hL : y_29 = aaL (f1 a).toInt (f2 a).toInt (f1 b).toInt (f2 b).toInt := by unfold aaL; rw [← hF, ey_29]
      refine j_aload_n X dX11_crossArcs_190 rfl 2 rfl ?_
      refine j_iconst (v := 5) X dX11_crossArcs_191 rfl ?_
      refine j_bipush (v := 8) X dX11_crossArcs_192 (by decide) ?_
      refine j_callV X dX11_crossArcs_194 (h_copy l G q t n co cr 0 tx ty [z0, z1, y_27, y_29, y_23, y_25, y_21, z7, y_15, y_3, z10, z11, v_4, v_5, v_6, v_7] sf_30 rfl hS_sf_30 5 5 rfl (by decide) 8 8 rfl (by decide) (by decide)) gX11_crossArcs_X11_copy rfl hy_X11_copy_V ⟨Nat.le_of_ble_eq_true rfl, Nat.le_of_ble_eq_true rfl⟩ 0 rfl rfl [0, 7, 8] rfl (by decide) rfl rfl (Nat.le_of_ble_eq_true rfl) ⟨Nat.le_of_ble_eq_true rfl, Nat.le_of_ble_eq_true rfl⟩ ?_
      rintro _ sf_31 ⟨rfl, hS_sf_31⟩
      change J p l e rm_X11_crossArcs s m args below meth c Q G A 8 0 0 197 [(5, .long x_2), (3, .long x_1), (0, .ref (q 0)), (1, .int (nI a)), (2, .int (nI b))] [] [(q 0, .inr (10, mF t n q co cr 0 tx ty)), (q 2, aJ G 200 f1), (q 3, aJ G 200 f2), (q 4, aJ G 200 f3), (q 5, aJ G 200 f4), (q 6, aI G 200 fr), (q 7, aI G 200 to1), (q 10, aI G 320 (rg [z0, z1, y_27, y_29, y_23, y_15, y_21, z7, y_15, y_3, z10, z11, v_4, v_5, v_6, v_7])), (q 11, aZ G 16 sf_31), (q 12, aI G 2 sig)]
      refine j_aload_n X dX11_crossArcs_197 rfl 2 rfl ?_
      refine j_bipush (v := 9) X dX11_crossArcs_198 (by decide) ?_
      refine j_bipush (v := 8) X dX11_crossArcs_200 (by decide) ?_
      refine j_callV X dX11_crossArcs_202 (h_copy l G q t n co cr 0 tx ty [z0, z1, y_27, y_29, y_23, y_15, y_21, z7, y_15, y_3, z10, z11, v_4, v_5, v_6, v_7] sf_31 rfl hS_sf_31 9 9 rfl (by decide) 8 8 rfl (by decide) (by decide)) gX11_crossArcs_X11_copy rfl hy_X11_copy_V ⟨Nat.le_of_ble_eq_true rfl, Nat.le_of_ble_eq_true rfl⟩ 0 rfl rfl [0, 7, 8] rfl (by decide) rfl rfl (Nat.le_of_ble_eq_true rfl) ⟨Nat.le_of_ble_eq_true rfl, Nat.le_of_ble_eq_true rfl⟩ ?_
      rintro _ sf_32 ⟨rfl, hS_sf_32⟩
      change J p l e rm_X11_crossArcs s m args below meth c Q G A 8 0 0 205 [(5, .long x_2), (3, .long x_1), (0, .ref (q 0)), (1, .int (nI a)), (2, .int (nI b))] [] [(q 0, .inr (10, mF t n q co cr 0 tx ty)), (q 2, aJ G 200 f1), (q 3, aJ G 200 f2), (q 4, aJ G 200 f3), (q 5, aJ G 200 f4), (q 6, aI G 200 fr), (q 7, aI G 200 to1), (q 10, aI G 320 (rg [z0, z1, y_27, y_29, y_23, y_15, y_21, z7, y_15, y_15, z10, z11, v_4, v_5, v_6, v_7])), (q 11, aZ G 16 sf_32), (q 12, aI G 2 sig)]
      refine j_aload_n X dX11_crossArcs_205 rfl 2 rfl ?_
      refine j_aload_n X dX11_crossArcs_206 rfl 2 rfl ?_
      refine j_get (v := .ref (q 2)) X dX11_crossArcs_207 0 rfl 3 rfl in_X11_crossArcs_X11 (by decide) fl_X11_crossArcs_13 rfl ?_
      refine j_iload_n X dX11_crossArcs_210 rfl 3 rfl ?_
      refine j_lald X dX11_crossArcs_211 1 rfl a rfl ga (by decide) ?_
      refine j_lload_n X dX11_crossArcs_212 rfl 1 rfl ?_
      refine j_iconst (v := 0) X dX11_crossArcs_213 rfl ?_
      refine j_callV X dX11_crossArcs_214 (c_X11_onLine_0 l G q t n co cr 0 tx ty z0 z1 y_27 y_29 y_23 y_15 y_21 z7 y_15 y_15 z10 z11 v_4 v_5 v_6 v_7 sf_32 hS_sf_32 (f1 a) x_1 (bd_mono by_29 (by decide)) (bd_mono by_15 (by decide)) (bd_mono (bd_C bca.1) (by decide)) (bd_mono bx_1 (by decide))) gX11_crossArcs_X11_onLine rfl hy_X11_onLine_V ⟨Nat.le_of_ble_eq_true rfl, Nat.le_of_ble_eq_true rfl⟩ 0 rfl rfl [0, 7, 8] rfl (by decide) rfl rfl (Nat.le_of_ble_eq_true rfl) ⟨Nat.le_of_ble_eq_true rfl, Nat.le_of_ble_eq_true rfl⟩ ?_
      rintro _ ⟨y_34, y_35, y_36, y_37, sf_33⟩ ⟨rfl, ey_37, hS_sf_33⟩
      dsimp only at ey_37 hS_sf_33
      change J p l e rm_X11_crossArcs s m args below meth c Q G A 8 0 0 217 [(5, .long x_2), (3, .long x_1), (0, .ref (q 0)), (1, .int (nI a)), (2, .int (nI b))] [] [(q 0, .inr (10, mF t n q co cr 0 tx ty)), (q 2, aJ G 200 f1), (q 3, aJ G 200 f2), (q 4, aJ G 200 f3), (q 5, aJ G 200 f4), (q 6, aI G 200 fr), (q 7, aI G 200 to1), (q 10, aI G 320 (rg [y_37, z1, y_27, y_29, y_34, y_15, y_35, z7, y_15, y_15, z10, z11, v_4, y_36, v_6, v_7])), (q 11, aZ G 16 sf_33), (q 12, aI G 2 sig)]
      have by_37 : bd 127 y_37 := by rw [ey_37]; exact bd_add (bd_mono (bd_mul (bd_C bca.1) by_29) (by decide)) (bd_mono (bd_mul bx_1 by_15) (by decide))
      refine j_aload_n X dX11_crossArcs_217 rfl 2 rfl ?_
      refine j_iconst (v := 5) X dX11_crossArcs_218 rfl ?_
      refine j_bipush (v := 9) X dX11_crossArcs_219 (by decide) ?_
      refine j_callV X dX11_crossArcs_221 (h_copy l G q t n co cr 0 tx ty [y_37, z1, y_27, y_29, y_34, y_15, y_35, z7, y_15, y_15, z10, z11, v_4, y_36, v_6, v_7] sf_33 rfl hS_sf_33 5 5 rfl (by decide) 9 9 rfl (by decide) (by decide)) gX11_crossArcs_X11_copy rfl hy_X11_copy_V ⟨Nat.le_of_ble_eq_true rfl, Nat.le_of_ble_eq_true rfl⟩ 0 rfl rfl [0, 7, 8] rfl (by decide) rfl rfl (Nat.le_of_ble_eq_true rfl) ⟨Nat.le_of_ble_eq_true rfl, Nat.le_of_ble_eq_true rfl⟩ ?_
      rintro _ sf_38 ⟨rfl, hS_sf_38⟩
      change J p l e rm_X11_crossArcs s m args below meth c Q G A 8 0 0 224 [(5, .long x_2), (3, .long x_1), (0, .ref (q 0)), (1, .int (nI a)), (2, .int (nI b))] [] [(q 0, .inr (10, mF t n q co cr 0 tx ty)), (q 2, aJ G 200 f1), (q 3, aJ G 200 f2), (q 4, aJ G 200 f3), (q 5, aJ G 200 f4), (q 6, aI G 200 fr), (q 7, aI G 200 to1), (q 10, aI G 320 (rg [y_37, z1, y_27, y_29, y_34, y_15, y_35, z7, y_15, y_15, z10, z11, v_4, y_36, v_6, v_7])), (q 11, aZ G 16 sf_38), (q 12, aI G 2 sig)]
      refine j_aload_n X dX11_crossArcs_224 rfl 2 rfl ?_
      refine j_aload_n X dX11_crossArcs_225 rfl 2 rfl ?_
      refine j_get (v := .ref (q 3)) X dX11_crossArcs_226 0 rfl 4 rfl in_X11_crossArcs_X11 (by decide) fl_X11_crossArcs_17 rfl ?_
      refine j_iload_n X dX11_crossArcs_229 rfl 3 rfl ?_
      refine j_lald X dX11_crossArcs_230 2 rfl a rfl ga (by decide) ?_
      refine j_lload X dX11_crossArcs_231 0 rfl ?_
      refine j_iconst (v := 1) X dX11_crossArcs_233 rfl ?_
      refine j_callV X dX11_crossArcs_234 (c_X11_onLine_1 l G q t n co cr 0 tx ty y_37 z1 y_27 y_29 y_34 y_15 y_35 z7 y_15 y_15 z10 z11 v_4 y_36 v_6 v_7 sf_38 hS_sf_38 (f2 a) x_2 (bd_mono by_29 (by decide)) (bd_mono by_15 (by decide)) (bd_mono (bd_C bca.2) (by decide)) (bd_mono bx_2 (by decide))) gX11_crossArcs_X11_onLine rfl hy_X11_onLine_V ⟨Nat.le_of_ble_eq_true rfl, Nat.le_of_ble_eq_true rfl⟩ 0 rfl rfl [0, 7, 8] rfl (by decide) rfl rfl (Nat.le_of_ble_eq_true rfl) ⟨Nat.le_of_ble_eq_true rfl, Nat.le_of_ble_eq_true rfl⟩ ?_
      rintro _ ⟨y_40, y_41, y_42, y_43, sf_39⟩ ⟨rfl, ey_43, hS_sf_39⟩
      dsimp only at ey_43 hS_sf_39
      change J p l e rm_X11_crossArcs s m args below meth c Q G A 8 0 0 237 [(5, .long x_2), (3, .long x_1), (0, .ref (q 0)), (1, .int (nI a)), (2, .int (nI b))] [] [(q 0, .inr (10, mF t n q co cr 0 tx ty)), (q 2, aJ G 200 f1), (q 3, aJ G 200 f2), (q 4, aJ G 200 f3), (q 5, aJ G 200 f4), (q 6, aI G 200 fr), (q 7, aI G 200 to1), (q 10, aI G 320 (rg [y_37, y_43, y_27, y_29, y_40, y_15, y_41, z7, y_15, y_15, z10, z11, v_4, y_42, v_6, v_7])), (q 11, aZ G 16 sf_39), (q 12, aI G 2 sig)]
      have by_43 : bd 127 y_43 := by rw [ey_43]; exact bd_add (bd_mono (bd_mul (bd_C bca.2) by_29) (by decide)) (bd_mono (bd_mul bx_2 by_15) (by decide))
      refine j_aload_n X dX11_crossArcs_237 rfl 2 rfl ?_
      refine j_lconst (v := 0) X dX11_crossArcs_238 rfl ?_
      refine j_lload X dX11_crossArcs_239 0 rfl ?_
      refine j_lsub X dX11_crossArcs_241 ?_
      refine j_topl (fun x_44 ex_44 => ?_)
      have tx_44 : x_44.toInt = -x_2.toInt := by rw [ex_44]; exact bl_neg0 bx_2 (by decide)
      have bx_44 : bd 41 x_44.toInt := by rw [tx_44]; exact bd_neg bx_2
      refine j_put (ws' := [(q 0, .inr (10, mF t n q co cr 0 x_44 ty)), (q 2, aJ G 200 f1), (q 3, aJ G 200 f2), (q 4, aJ G 200 f3), (q 5, aJ G 200 f4), (q 6, aI G 200 fr), (q 7, aI G 200 to1), (q 10, aI G 320 (rg [y_37, y_43, y_27, y_29, y_40, y_15, y_41, z7, y_15, y_15, z10, z11, v_4, y_42, v_6, v_7])), (q 11, aZ G 16 sf_39), (q 12, aI G 2 sig)]) X dX11_crossArcs_242 0 rfl 17 rfl in_X11_crossArcs_X11 tyX11 tyX11_ok nmX11 (by decide) fl_X11_crossArcs_159 rfl rfl rfl rfl (Nat.le_of_ble_eq_true rfl) rfl ?_
      refine j_aload_n X dX11_crossArcs_245 rfl 2 rfl ?_
      refine j_lload_n X dX11_crossArcs_246 rfl 1 rfl ?_
      refine j_put (ws' := [(q 0, .inr (10, mF t n q co cr 0 x_44 x_1)), (q 2, aJ G 200 f1), (q 3, aJ G 200 f2), (q 4, aJ G 200 f3), (q 5, aJ G 200 f4), (q 6, aI G 200 fr), (q 7, aI G 200 to1), (q 10, aI G 320 (rg [y_37, y_43, y_27, y_29, y_40, y_15, y_41, z7, y_15, y_15, z10, z11, v_4, y_42, v_6, v_7])), (q 11, aZ G 16 sf_39), (q 12, aI G 2 sig)]) X dX11_crossArcs_247 0 rfl 18 rfl in_X11_crossArcs_X11 tyX11 tyX11_ok nmX11 (by decide) fl_X11_crossArcs_163 rfl rfl rfl rfl (Nat.le_of_ble_eq_true rfl) rfl ?_
      have hU : y_37 = aaU (f1 a).toInt (f2 a).toInt (f1 b).toInt (f2 b).toInt (f3 a).toInt (f3 b).toInt := by unfold aaU; rw [← hL, ← hE, ey_37, tx_1]
      have hV : y_43 = aaV (f1 a).toInt (f2 a).toInt (f1 b).toInt (f2 b).toInt (f3 a).toInt (f3 b).toInt := by unfold aaV; rw [← hL, ← hE, ey_43, tx_2]
      have hT : x_44.toInt = -((f2 b).toInt - (f2 a).toInt) := by rw [tx_44, tx_2]
      refine j_iconst (v := 1) X dX11_crossArcs_250 rfl ?_
      refine j_istore (L' := [(7, .int 1), (5, .long x_2), (3, .long x_1), (0, .ref (q 0)), (1, .int (nI a)), (2, .int (nI b))]) X dX11_crossArcs_251 (by decide) rfl ?_
      refine j_iload X dX11_crossArcs_253 0 rfl ?_
      refine j_bipush (v := (-2)) X dX11_crossArcs_255 (by decide) ?_
      refine j_icmp_le (tgt := 308) X dX11_crossArcs_257 (by decide) (fun c9 => absurd c9 (by decide)) (fun _ => ?_)
      refine j_iload X dX11_crossArcs_260 0 rfl ?_
      refine j_iconst (v := (-1)) X dX11_crossArcs_262 rfl ?_
      refine j_icmp_ne (tgt := 276) X dX11_crossArcs_263 (by decide) (fun _ => ?_) (fun c9 => absurd c9 (by decide))
      refine j_aload_n X dX11_crossArcs_276 rfl 3 rfl ?_
      refine j_iload_n X dX11_crossArcs_277 rfl 4 rfl ?_
      refine j_iload X dX11_crossArcs_278 0 rfl ?_
      refine j_callV X dX11_crossArcs_280 (c_X11_isOfArc_p l G q t n co cr 0 x_44 x_1 y_37 y_43 y_27 y_29 y_40 y_15 y_41 z7 y_15 y_15 z10 z11 v_4 y_42 v_6 v_7 sf_39 hS_sf_39 f1 f2 fr to1 a bca hfa hta ga (bd_mono by_37 (by decide)) (bd_mono by_43 (by decide)) (bd_mono by_27 (by decide)) (bd_mono by_29 (by decide)) c_175 (bd_mono bx_44 (by decide)) (bd_mono bx_1 (by decide))) gX11_crossArcs_X11_isOfArc rfl hy_X11_isOfArc_V ⟨Nat.le_of_ble_eq_true rfl, Nat.le_of_ble_eq_true rfl⟩ 0 rfl rfl [0, 1, 2, 5, 6, 7, 8] rfl (by decide) rfl rfl (Nat.le_of_ble_eq_true rfl) ⟨Nat.le_of_ble_eq_true rfl, Nat.le_of_ble_eq_true rfl⟩ ?_
      rintro _ ⟨y_46, y_47, y_48, y_49, y_50, y_51, y_52, y_53, y_54, sf_45⟩ ⟨rfl, hS_sf_45⟩
      dsimp only at hS_sf_45
      change J p l e rm_X11_crossArcs s m args below meth c Q G A 8 0 0 283 [(7, .int 1), (5, .long x_2), (3, .long x_1), (0, .ref (q 0)), (1, .int (nI a)), (2, .int (nI b))] [.int (bI (ofA (f1 a).toInt (f2 a).toInt (fr a).toInt (to1 a).toInt y_37 y_43 y_27 y_29 x_44.toInt x_1.toInt))] [(q 0, .inr (10, mF t n q co cr 0 x_44 x_1)), (q 2, aJ G 200 f1), (q 3, aJ G 200 f2), (q 4, aJ G 200 f3), (q 5, aJ G 200 f4), (q 6, aI G 200 fr), (q 7, aI G 200 to1), (q 10, aI G 320 (rg [y_37, y_43, y_27, y_29, y_46, y_47, y_48, y_49, y_50, y_15, y_51, y_52, v_4, y_53, v_6, y_54])), (q 11, aZ G 16 sf_45), (q 12, aI G 2 sig)]
      refine j_if_eq (tgt := 302) X dX11_crossArcs_283 (by decide) (fun c_283 => ?_) (fun c_283 => ?_)
      · skip
        first | simp only [bI_0, Decidable.not_not, sg_mul, sg_e0, sg_l0, sg_g0, sg_le0, sg_ge0, cmp_eq, cmp_lt, cmp_ge, cmp_gt, cmp_le, lT0, lT1] at c_283 | simp only [Int32.le_iff_toInt_le, Int32.lt_iff_toInt_lt, ← Int32.toInt_inj, iT0, iT1, iT2, iT3, iT4, iT5, iT6, iT7, iT8, iT9, iT10, iT11, iT12, iT13, iT14, iT15, iT16, iT19, iT20, iT31, iT32, iT42, iT64, iT200, iT318, iT319, iT1000, iTm1, iTm2] at c_283 | skip
        rw [hU, hV, hR, hL, hT, tx_1] at c_283
        have hp : ¬ aaP (f1 a).toInt (f2 a).toInt (f1 b).toInt (f2 b).toInt (f3 a).toInt (f3 b).toInt (fr a).toInt (to1 a).toInt (fr b).toInt (to1 b).toInt (1) := fun h => c_283 (by have h3 := h.1; rw [Int.one_mul, Int.one_mul] at h3; exact h3)
        refine j_iinc (v := (-1)) (L' := [(7, .int (-1)), (5, .long x_2), (3, .long x_1), (0, .ref (q 0)), (1, .int (nI a)), (2, .int (nI b))]) X dX11_crossArcs_302 0 rfl (by decide) (by decide) rfl ?_
        refine j_goto (tgt := 253) X dX11_crossArcs_305 (by decide) ?_
        refine j_iload X dX11_crossArcs_253 0 rfl ?_
        refine j_bipush (v := (-2)) X dX11_crossArcs_255 (by decide) ?_
        refine j_icmp_le (tgt := 308) X dX11_crossArcs_257 (by decide) (fun c9 => absurd c9 (by decide)) (fun _ => ?_)
        refine j_iload X dX11_crossArcs_260 0 rfl ?_
        refine j_iconst (v := (-1)) X dX11_crossArcs_262 rfl ?_
        refine j_icmp_ne (tgt := 276) X dX11_crossArcs_263 (by decide) (fun c9 => absurd c9 (by decide)) (fun _ => ?_)
        refine j_aload_n X dX11_crossArcs_266 rfl 3 rfl ?_
        refine j_iconst (v := 2) X dX11_crossArcs_267 rfl ?_
        refine j_callV X dX11_crossArcs_268 (c_X11_sign l G q t n co cr 0 x_44 x_1 [y_37, y_43, y_27, y_29, y_46, y_47, y_48, y_49, y_50, y_15, y_51, y_52, v_4, y_53, v_6, y_54] rfl sf_45 2 2 rfl (by decide) (hS_sf_45 2 (by decide)) (bd_lt by_27 (by decide))) gX11_crossArcs_X11_sign rfl hy_X11_sign_V ⟨Nat.le_of_ble_eq_true rfl, Nat.le_of_ble_eq_true rfl⟩ 0 rfl rfl [0, 7, 8] rfl (by decide) rfl rfl (Nat.le_of_ble_eq_true rfl) ⟨Nat.le_of_ble_eq_true rfl, Nat.le_of_ble_eq_true rfl⟩ ?_
        rintro _ ⟨⟩ rfl
        change J p l e rm_X11_crossArcs s m args below meth c Q G A 8 0 0 271 [(7, .int (-1)), (5, .long x_2), (3, .long x_1), (0, .ref (q 0)), (1, .int (nI a)), (2, .int (nI b))] [.int (sg y_27)] [(q 0, .inr (10, mF t n q co cr 0 x_44 x_1)), (q 2, aJ G 200 f1), (q 3, aJ G 200 f2), (q 4, aJ G 200 f3), (q 5, aJ G 200 f4), (q 6, aI G 200 fr), (q 7, aI G 200 to1), (q 10, aI G 320 (rg [y_37, y_43, y_27, y_29, y_46, y_47, y_48, y_49, y_50, y_15, y_51, y_52, v_4, y_53, v_6, y_54])), (q 11, aZ G 16 sf_45), (q 12, aI G 2 sig)]
        refine j_if_ne (tgt := 276) X dX11_crossArcs_271 (by decide) (fun c_271 => ?_) (fun c_271 => ?_)
        · skip
          first | simp only [bI_0, Decidable.not_not, sg_mul, sg_e0, sg_l0, sg_g0, sg_le0, sg_ge0, cmp_eq, cmp_lt, cmp_ge, cmp_gt, cmp_le, lT0, lT1] at c_271 | simp only [Int32.le_iff_toInt_le, Int32.lt_iff_toInt_lt, ← Int32.toInt_inj, iT0, iT1, iT2, iT3, iT4, iT5, iT6, iT7, iT8, iT9, iT10, iT11, iT12, iT13, iT14, iT15, iT16, iT19, iT20, iT31, iT32, iT42, iT64, iT200, iT318, iT319, iT1000, iTm1, iTm2] at c_271 | skip
          have hnz := c_271
          refine j_aload_n X dX11_crossArcs_276 rfl 3 rfl ?_
          refine j_iload_n X dX11_crossArcs_277 rfl 4 rfl ?_
          refine j_iload X dX11_crossArcs_278 0 rfl ?_
          refine j_callV X dX11_crossArcs_280 (c_X11_isOfArc_n l G q t n co cr 0 x_44 x_1 y_37 y_43 y_27 y_29 y_46 y_47 y_48 y_49 y_50 y_15 y_51 y_52 v_4 y_53 v_6 y_54 sf_45 hS_sf_45 f1 f2 fr to1 a bca hfa hta ga (bd_mono by_37 (by decide)) (bd_mono by_43 (by decide)) (bd_mono by_27 (by decide)) (bd_mono by_29 (by decide)) c_175 (bd_mono bx_44 (by decide)) (bd_mono bx_1 (by decide))) gX11_crossArcs_X11_isOfArc rfl hy_X11_isOfArc_V ⟨Nat.le_of_ble_eq_true rfl, Nat.le_of_ble_eq_true rfl⟩ 0 rfl rfl [0, 1, 2, 5, 6, 7, 8] rfl (by decide) rfl rfl (Nat.le_of_ble_eq_true rfl) ⟨Nat.le_of_ble_eq_true rfl, Nat.le_of_ble_eq_true rfl⟩ ?_
          rintro _ ⟨y_56, y_57, y_58, y_59, y_60, y_61, y_62, y_63, y_64, sf_55⟩ ⟨rfl, hS_sf_55⟩
          dsimp only at hS_sf_55
          change J p l e rm_X11_crossArcs s m args below meth c Q G A 8 0 0 283 [(7, .int (-1)), (5, .long x_2), (3, .long x_1), (0, .ref (q 0)), (1, .int (nI a)), (2, .int (nI b))] [.int (bI (ofA (f1 a).toInt (f2 a).toInt (fr a).toInt (to1 a).toInt y_37 y_43 y_27 y_29 (-x_44.toInt) (-x_1.toInt)))] [(q 0, .inr (10, mF t n q co cr 0 x_44 x_1)), (q 2, aJ G 200 f1), (q 3, aJ G 200 f2), (q 4, aJ G 200 f3), (q 5, aJ G 200 f4), (q 6, aI G 200 fr), (q 7, aI G 200 to1), (q 10, aI G 320 (rg [y_37, y_43, y_27, y_29, y_56, y_57, y_58, y_59, y_60, y_15, y_61, y_62, v_4, y_63, v_6, y_64])), (q 11, aZ G 16 sf_55), (q 12, aI G 2 sig)]
          refine j_if_eq (tgt := 302) X dX11_crossArcs_283 (by decide) (fun c_283 => ?_) (fun c_283 => ?_)
          · skip
            first | simp only [bI_0, Decidable.not_not, sg_mul, sg_e0, sg_l0, sg_g0, sg_le0, sg_ge0, cmp_eq, cmp_lt, cmp_ge, cmp_gt, cmp_le, lT0, lT1] at c_283 | simp only [Int32.le_iff_toInt_le, Int32.lt_iff_toInt_lt, ← Int32.toInt_inj, iT0, iT1, iT2, iT3, iT4, iT5, iT6, iT7, iT8, iT9, iT10, iT11, iT12, iT13, iT14, iT15, iT16, iT19, iT20, iT31, iT32, iT42, iT64, iT200, iT318, iT319, iT1000, iTm1, iTm2] at c_283 | skip
            rw [hU, hV, hR, hL, hT, tx_1] at c_283
            have hn : ¬ aaP (f1 a).toInt (f2 a).toInt (f1 b).toInt (f2 b).toInt (f3 a).toInt (f3 b).toInt (fr a).toInt (to1 a).toInt (fr b).toInt (to1 b).toInt (-1) := fun h => c_283 (by have h3 := h.1; rw [Int.neg_one_mul, Int.neg_one_mul] at h3; exact h3)
            refine j_iinc (v := (-3)) (L' := [(7, .int (-3)), (5, .long x_2), (3, .long x_1), (0, .ref (q 0)), (1, .int (nI a)), (2, .int (nI b))]) X dX11_crossArcs_302 0 rfl (by decide) (by decide) rfl ?_
            refine j_goto (tgt := 253) X dX11_crossArcs_305 (by decide) ?_
            refine j_iload X dX11_crossArcs_253 0 rfl ?_
            refine j_bipush (v := (-2)) X dX11_crossArcs_255 (by decide) ?_
            refine j_icmp_le (tgt := 308) X dX11_crossArcs_257 (by decide) (fun _ => ?_) (fun c9 => absurd c9 (by decide))
            refine j_iconst (v := 1) X dX11_crossArcs_308 rfl ?_
            exact E.2.1 309 _ 1 (0, sig, x_44, x_1, [y_37, y_43, y_27, y_29, y_56, y_57, y_58, y_59, y_60, y_15, y_61, y_62, v_4, y_63, v_6, y_64], sf_55) _ dX11_crossArcs_309 (Or.inr ⟨_, (by unfold xaa; rw [if_neg hne]), rfl, by unfold xG aaS; rw [cps_00 (fun h => hp h.2) (fun h => hn h.2)]; exact ⟨rfl, sgL_0 _, fun h => absurd rfl h⟩, rfl, hS_sf_55⟩) hr rfl
          · skip
            first | simp only [bI_0, Decidable.not_not, sg_mul, sg_e0, sg_l0, sg_g0, sg_le0, sg_ge0, cmp_eq, cmp_lt, cmp_ge, cmp_gt, cmp_le, lT0, lT1] at c_283 | simp only [Int32.le_iff_toInt_le, Int32.lt_iff_toInt_lt, ← Int32.toInt_inj, iT0, iT1, iT2, iT3, iT4, iT5, iT6, iT7, iT8, iT9, iT10, iT11, iT12, iT13, iT14, iT15, iT16, iT19, iT20, iT31, iT32, iT42, iT64, iT200, iT318, iT319, iT1000, iTm1, iTm2] at c_283 | skip
            rw [hU, hV, hR, hL, hT, tx_1] at c_283
            have ion := c_283
            refine j_aload_n X dX11_crossArcs_286 rfl 3 rfl ?_
            refine j_iload_n X dX11_crossArcs_287 rfl 5 rfl ?_
            refine j_iload X dX11_crossArcs_288 0 rfl ?_
            refine j_callV X dX11_crossArcs_290 (c_X11_isOfArc_n l G q t n co cr 0 x_44 x_1 y_37 y_43 y_27 y_29 y_56 y_57 y_58 y_59 y_60 y_15 y_61 y_62 v_4 y_63 v_6 y_64 sf_55 hS_sf_55 f1 f2 fr to1 b bcb hfb htb gb (bd_mono by_37 (by decide)) (bd_mono by_43 (by decide)) (bd_mono by_27 (by decide)) (bd_mono by_29 (by decide)) c_175 (bd_mono bx_44 (by decide)) (bd_mono bx_1 (by decide))) gX11_crossArcs_X11_isOfArc rfl hy_X11_isOfArc_V ⟨Nat.le_of_ble_eq_true rfl, Nat.le_of_ble_eq_true rfl⟩ 0 rfl rfl [0, 1, 2, 5, 6, 7, 8] rfl (by decide) rfl rfl (Nat.le_of_ble_eq_true rfl) ⟨Nat.le_of_ble_eq_true rfl, Nat.le_of_ble_eq_true rfl⟩ ?_
            rintro _ ⟨y_66, y_67, y_68, y_69, y_70, y_71, y_72, y_73, y_74, sf_65⟩ ⟨rfl, hS_sf_65⟩
            dsimp only at hS_sf_65
            change J p l e rm_X11_crossArcs s m args below meth c Q G A 8 0 0 293 [(7, .int (-1)), (5, .long x_2), (3, .long x_1), (0, .ref (q 0)), (1, .int (nI a)), (2, .int (nI b))] [.int (bI (ofA (f1 b).toInt (f2 b).toInt (fr b).toInt (to1 b).toInt y_37 y_43 y_27 y_29 (-x_44.toInt) (-x_1.toInt)))] [(q 0, .inr (10, mF t n q co cr 0 x_44 x_1)), (q 2, aJ G 200 f1), (q 3, aJ G 200 f2), (q 4, aJ G 200 f3), (q 5, aJ G 200 f4), (q 6, aI G 200 fr), (q 7, aI G 200 to1), (q 10, aI G 320 (rg [y_37, y_43, y_27, y_29, y_66, y_67, y_68, y_69, y_70, y_15, y_71, y_72, v_4, y_73, v_6, y_74])), (q 11, aZ G 16 sf_65), (q 12, aI G 2 sig)]
            refine j_if_eq (tgt := 302) X dX11_crossArcs_293 (by decide) (fun c_293 => ?_) (fun c_293 => ?_)
            · skip
              first | simp only [bI_0, Decidable.not_not, sg_mul, sg_e0, sg_l0, sg_g0, sg_le0, sg_ge0, cmp_eq, cmp_lt, cmp_ge, cmp_gt, cmp_le, lT0, lT1] at c_293 | simp only [Int32.le_iff_toInt_le, Int32.lt_iff_toInt_lt, ← Int32.toInt_inj, iT0, iT1, iT2, iT3, iT4, iT5, iT6, iT7, iT8, iT9, iT10, iT11, iT12, iT13, iT14, iT15, iT16, iT19, iT20, iT31, iT32, iT42, iT64, iT200, iT318, iT319, iT1000, iTm1, iTm2] at c_293 | skip
              rw [hU, hV, hR, hL, hT, tx_1] at c_293
              have hn : ¬ aaP (f1 a).toInt (f2 a).toInt (f1 b).toInt (f2 b).toInt (f3 a).toInt (f3 b).toInt (fr a).toInt (to1 a).toInt (fr b).toInt (to1 b).toInt (-1) := fun h => c_293 (by have h3 := h.2; rw [Int.neg_one_mul, Int.neg_one_mul] at h3; exact h3)
              refine j_iinc (v := (-3)) (L' := [(7, .int (-3)), (5, .long x_2), (3, .long x_1), (0, .ref (q 0)), (1, .int (nI a)), (2, .int (nI b))]) X dX11_crossArcs_302 0 rfl (by decide) (by decide) rfl ?_
              refine j_goto (tgt := 253) X dX11_crossArcs_305 (by decide) ?_
              refine j_iload X dX11_crossArcs_253 0 rfl ?_
              refine j_bipush (v := (-2)) X dX11_crossArcs_255 (by decide) ?_
              refine j_icmp_le (tgt := 308) X dX11_crossArcs_257 (by decide) (fun _ => ?_) (fun c9 => absurd c9 (by decide))
              refine j_iconst (v := 1) X dX11_crossArcs_308 rfl ?_
              exact E.2.1 309 _ 1 (0, sig, x_44, x_1, [y_37, y_43, y_27, y_29, y_66, y_67, y_68, y_69, y_70, y_15, y_71, y_72, v_4, y_73, v_6, y_74], sf_65) _ dX11_crossArcs_309 (Or.inr ⟨_, (by unfold xaa; rw [if_neg hne]), rfl, by unfold xG aaS; rw [cps_00 (fun h => hp h.2) (fun h => hn h.2)]; exact ⟨rfl, sgL_0 _, fun h => absurd rfl h⟩, rfl, hS_sf_65⟩) hr rfl
            · skip
              first | simp only [bI_0, Decidable.not_not, sg_mul, sg_e0, sg_l0, sg_g0, sg_le0, sg_ge0, cmp_eq, cmp_lt, cmp_ge, cmp_gt, cmp_le, lT0, lT1] at c_293 | simp only [Int32.le_iff_toInt_le, Int32.lt_iff_toInt_lt, ← Int32.toInt_inj, iT0, iT1, iT2, iT3, iT4, iT5, iT6, iT7, iT8, iT9, iT10, iT11, iT12, iT13, iT14, iT15, iT16, iT19, iT20, iT31, iT32, iT42, iT64, iT200, iT318, iT319, iT1000, iTm1, iTm2] at c_293 | skip
              rw [hU, hV, hR, hL, hT, tx_1] at c_293
              have hn : aaP (f1 a).toInt (f2 a).toInt (f1 b).toInt (f2 b).toInt (f3 a).toInt (f3 b).toInt (fr a).toInt (to1 a).toInt (fr b).toInt (to1 b).toInt (-1) := ⟨by rw [Int.neg_one_mul, Int.neg_one_mul]; exact ion, by rw [Int.neg_one_mul, Int.neg_one_mul]; exact c_293⟩
              refine j_aload_n X dX11_crossArcs_296 rfl 3 rfl ?_
              refine j_iload X dX11_crossArcs_297 0 rfl ?_
              refine j_callV X dX11_crossArcs_299 (c_X11_pointWith_0 l G q t n co cr x_44 x_1 sig (-1)) gX11_crossArcs_X11_pointWith rfl hy_X11_pointWith_V ⟨Nat.le_of_ble_eq_true rfl, Nat.le_of_ble_eq_true rfl⟩ 0 rfl rfl [0, 9] rfl (by decide) rfl rfl (Nat.le_of_ble_eq_true rfl) ⟨Nat.le_of_ble_eq_true rfl, Nat.le_of_ble_eq_true rfl⟩ ?_
              rintro _ ⟨⟩ rfl
              change J p l e rm_X11_crossArcs s m args below meth c Q G A 8 0 0 302 [(7, .int (-1)), (5, .long x_2), (3, .long x_1), (0, .ref (q 0)), (1, .int (nI a)), (2, .int (nI b))] [] [(q 0, .inr (10, mF t n q co cr 1 x_44 x_1)), (q 2, aJ G 200 f1), (q 3, aJ G 200 f2), (q 4, aJ G 200 f3), (q 5, aJ G 200 f4), (q 6, aI G 200 fr), (q 7, aI G 200 to1), (q 10, aI G 320 (rg [y_37, y_43, y_27, y_29, y_66, y_67, y_68, y_69, y_70, y_15, y_71, y_72, v_4, y_73, v_6, y_74])), (q 11, aZ G 16 sf_65), (q 12, aI G 2 (upd sig 0 (-1)))]
              refine j_iinc (v := (-3)) (L' := [(7, .int (-3)), (5, .long x_2), (3, .long x_1), (0, .ref (q 0)), (1, .int (nI a)), (2, .int (nI b))]) X dX11_crossArcs_302 0 rfl (by decide) (by decide) rfl ?_
              refine j_goto (tgt := 253) X dX11_crossArcs_305 (by decide) ?_
              refine j_iload X dX11_crossArcs_253 0 rfl ?_
              refine j_bipush (v := (-2)) X dX11_crossArcs_255 (by decide) ?_
              refine j_icmp_le (tgt := 308) X dX11_crossArcs_257 (by decide) (fun _ => ?_) (fun c9 => absurd c9 (by decide))
              refine j_iconst (v := 1) X dX11_crossArcs_308 rfl ?_
              exact E.2.1 309 _ 1 (1, upd sig 0 (-1), x_44, x_1, [y_37, y_43, y_27, y_29, y_66, y_67, y_68, y_69, y_70, y_15, y_71, y_72, v_4, y_73, v_6, y_74], sf_65) _ dX11_crossArcs_309 (Or.inr ⟨_, (by unfold xaa; rw [if_neg hne]), rfl, by unfold xG aaS; rw [cps_01 (fun h => hp h.2) ⟨by rw [← hR]; omega, hn⟩]; exact ⟨rfl, sgL_1 _ _, fun _ => ⟨⟨hU, hV, hR, hL⟩, hT, tx_1⟩⟩, rfl, hS_sf_65⟩) hr rfl
        · skip
          first | simp only [bI_0, Decidable.not_not, sg_mul, sg_e0, sg_l0, sg_g0, sg_le0, sg_ge0, cmp_eq, cmp_lt, cmp_ge, cmp_gt, cmp_le, lT0, lT1] at c_271 | simp only [Int32.le_iff_toInt_le, Int32.lt_iff_toInt_lt, ← Int32.toInt_inj, iT0, iT1, iT2, iT3, iT4, iT5, iT6, iT7, iT8, iT9, iT10, iT11, iT12, iT13, iT14, iT15, iT16, iT19, iT20, iT31, iT32, iT42, iT64, iT200, iT318, iT319, iT1000, iTm1, iTm2] at c_271 | skip
          have hz := c_271
          refine j_iconst (v := 1) X dX11_crossArcs_274 rfl ?_
          exact E.2.1 275 _ 1 (0, sig, x_44, x_1, [y_37, y_43, y_27, y_29, y_46, y_47, y_48, y_49, y_50, y_15, y_51, y_52, v_4, y_53, v_6, y_54], sf_45) _ dX11_crossArcs_275 (Or.inr ⟨_, (by unfold xaa; rw [if_neg hne]), rfl, by unfold xG aaS; rw [cps_00 (fun h => hp h.2) (fun h => absurd h.1 (by rw [← hR, hz]; decide))]; exact ⟨rfl, sgL_0 _, fun h => absurd rfl h⟩, rfl, hS_sf_45⟩) hr rfl
      · skip
        first | simp only [bI_0, Decidable.not_not, sg_mul, sg_e0, sg_l0, sg_g0, sg_le0, sg_ge0, cmp_eq, cmp_lt, cmp_ge, cmp_gt, cmp_le, lT0, lT1] at c_283 | simp only [Int32.le_iff_toInt_le, Int32.lt_iff_toInt_lt, ← Int32.toInt_inj, iT0, iT1, iT2, iT3, iT4, iT5, iT6, iT7, iT8, iT9, iT10, iT11, iT12, iT13, iT14, iT15, iT16, iT19, iT20, iT31, iT32, iT42, iT64, iT200, iT318, iT319, iT1000, iTm1, iTm2] at c_283 | skip
        rw [hU, hV, hR, hL, hT, tx_1] at c_283
        have iop := c_283
        refine j_aload_n X dX11_crossArcs_286 rfl 3 rfl ?_
        refine j_iload_n X dX11_crossArcs_287 rfl 5 rfl ?_
        refine j_iload X dX11_crossArcs_288 0 rfl ?_
        refine j_callV X dX11_crossArcs_290 (c_X11_isOfArc_p l G q t n co cr 0 x_44 x_1 y_37 y_43 y_27 y_29 y_46 y_47 y_48 y_49 y_50 y_15 y_51 y_52 v_4 y_53 v_6 y_54 sf_45 hS_sf_45 f1 f2 fr to1 b bcb hfb htb gb (bd_mono by_37 (by decide)) (bd_mono by_43 (by decide)) (bd_mono by_27 (by decide)) (bd_mono by_29 (by decide)) c_175 (bd_mono bx_44 (by decide)) (bd_mono bx_1 (by decide))) gX11_crossArcs_X11_isOfArc rfl hy_X11_isOfArc_V ⟨Nat.le_of_ble_eq_true rfl, Nat.le_of_ble_eq_true rfl⟩ 0 rfl rfl [0, 1, 2, 5, 6, 7, 8] rfl (by decide) rfl rfl (Nat.le_of_ble_eq_true rfl) ⟨Nat.le_of_ble_eq_true rfl, Nat.le_of_ble_eq_true rfl⟩ ?_
        rintro _ ⟨y_76, y_77, y_78, y_79, y_80, y_81, y_82, y_83, y_84, sf_75⟩ ⟨rfl, hS_sf_75⟩
        dsimp only at hS_sf_75
        change J p l e rm_X11_crossArcs s m args below meth c Q G A 8 0 0 293 [(7, .int 1), (5, .long x_2), (3, .long x_1), (0, .ref (q 0)), (1, .int (nI a)), (2, .int (nI b))] [.int (bI (ofA (f1 b).toInt (f2 b).toInt (fr b).toInt (to1 b).toInt y_37 y_43 y_27 y_29 x_44.toInt x_1.toInt))] [(q 0, .inr (10, mF t n q co cr 0 x_44 x_1)), (q 2, aJ G 200 f1), (q 3, aJ G 200 f2), (q 4, aJ G 200 f3), (q 5, aJ G 200 f4), (q 6, aI G 200 fr), (q 7, aI G 200 to1), (q 10, aI G 320 (rg [y_37, y_43, y_27, y_29, y_76, y_77, y_78, y_79, y_80, y_15, y_81, y_82, v_4, y_83, v_6, y_84])), (q 11, aZ G 16 sf_75), (q 12, aI G 2 sig)]
        refine j_if_eq (tgt := 302) X dX11_crossArcs_293 (by decide) (fun c_293 => ?_) (fun c_293 => ?_)
        · skip
          first | simp only [bI_0, Decidable.not_not, sg_mul, sg_e0, sg_l0, sg_g0, sg_le0, sg_ge0, cmp_eq, cmp_lt, cmp_ge, cmp_gt, cmp_le, lT0, lT1] at c_293 | simp only [Int32.le_iff_toInt_le, Int32.lt_iff_toInt_lt, ← Int32.toInt_inj, iT0, iT1, iT2, iT3, iT4, iT5, iT6, iT7, iT8, iT9, iT10, iT11, iT12, iT13, iT14, iT15, iT16, iT19, iT20, iT31, iT32, iT42, iT64, iT200, iT318, iT319, iT1000, iTm1, iTm2] at c_293 | skip
          rw [hU, hV, hR, hL, hT, tx_1] at c_293
          have hp : ¬ aaP (f1 a).toInt (f2 a).toInt (f1 b).toInt (f2 b).toInt (f3 a).toInt (f3 b).toInt (fr a).toInt (to1 a).toInt (fr b).toInt (to1 b).toInt (1) := fun h => c_293 (by have h3 := h.2; rw [Int.one_mul, Int.one_mul] at h3; exact h3)
          refine j_iinc (v := (-1)) (L' := [(7, .int (-1)), (5, .long x_2), (3, .long x_1), (0, .ref (q 0)), (1, .int (nI a)), (2, .int (nI b))]) X dX11_crossArcs_302 0 rfl (by decide) (by decide) rfl ?_
          refine j_goto (tgt := 253) X dX11_crossArcs_305 (by decide) ?_
          refine j_iload X dX11_crossArcs_253 0 rfl ?_
          refine j_bipush (v := (-2)) X dX11_crossArcs_255 (by decide) ?_
          refine j_icmp_le (tgt := 308) X dX11_crossArcs_257 (by decide) (fun c9 => absurd c9 (by decide)) (fun _ => ?_)
          refine j_iload X dX11_crossArcs_260 0 rfl ?_
          refine j_iconst (v := (-1)) X dX11_crossArcs_262 rfl ?_
          refine j_icmp_ne (tgt := 276) X dX11_crossArcs_263 (by decide) (fun c9 => absurd c9 (by decide)) (fun _ => ?_)
          refine j_aload_n X dX11_crossArcs_266 rfl 3 rfl ?_
          refine j_iconst (v := 2) X dX11_crossArcs_267 rfl ?_
          refine j_callV X dX11_crossArcs_268 (c_X11_sign l G q t n co cr 0 x_44 x_1 [y_37, y_43, y_27, y_29, y_76, y_77, y_78, y_79, y_80, y_15, y_81, y_82, v_4, y_83, v_6, y_84] rfl sf_75 2 2 rfl (by decide) (hS_sf_75 2 (by decide)) (bd_lt by_27 (by decide))) gX11_crossArcs_X11_sign rfl hy_X11_sign_V ⟨Nat.le_of_ble_eq_true rfl, Nat.le_of_ble_eq_true rfl⟩ 0 rfl rfl [0, 7, 8] rfl (by decide) rfl rfl (Nat.le_of_ble_eq_true rfl) ⟨Nat.le_of_ble_eq_true rfl, Nat.le_of_ble_eq_true rfl⟩ ?_
          rintro _ ⟨⟩ rfl
          change J p l e rm_X11_crossArcs s m args below meth c Q G A 8 0 0 271 [(7, .int (-1)), (5, .long x_2), (3, .long x_1), (0, .ref (q 0)), (1, .int (nI a)), (2, .int (nI b))] [.int (sg y_27)] [(q 0, .inr (10, mF t n q co cr 0 x_44 x_1)), (q 2, aJ G 200 f1), (q 3, aJ G 200 f2), (q 4, aJ G 200 f3), (q 5, aJ G 200 f4), (q 6, aI G 200 fr), (q 7, aI G 200 to1), (q 10, aI G 320 (rg [y_37, y_43, y_27, y_29, y_76, y_77, y_78, y_79, y_80, y_15, y_81, y_82, v_4, y_83, v_6, y_84])), (q 11, aZ G 16 sf_75), (q 12, aI G 2 sig)]
          refine j_if_ne (tgt := 276) X dX11_crossArcs_271 (by decide) (fun c_271 => ?_) (fun c_271 => ?_)
          · skip
            first | simp only [bI_0, Decidable.not_not, sg_mul, sg_e0, sg_l0, sg_g0, sg_le0, sg_ge0, cmp_eq, cmp_lt, cmp_ge, cmp_gt, cmp_le, lT0, lT1] at c_271 | simp only [Int32.le_iff_toInt_le, Int32.lt_iff_toInt_lt, ← Int32.toInt_inj, iT0, iT1, iT2, iT3, iT4, iT5, iT6, iT7, iT8, iT9, iT10, iT11, iT12, iT13, iT14, iT15, iT16, iT19, iT20, iT31, iT32, iT42, iT64, iT200, iT318, iT319, iT1000, iTm1, iTm2] at c_271 | skip
            have hnz := c_271
            refine j_aload_n X dX11_crossArcs_276 rfl 3 rfl ?_
            refine j_iload_n X dX11_crossArcs_277 rfl 4 rfl ?_
            refine j_iload X dX11_crossArcs_278 0 rfl ?_
            refine j_callV X dX11_crossArcs_280 (c_X11_isOfArc_n l G q t n co cr 0 x_44 x_1 y_37 y_43 y_27 y_29 y_76 y_77 y_78 y_79 y_80 y_15 y_81 y_82 v_4 y_83 v_6 y_84 sf_75 hS_sf_75 f1 f2 fr to1 a bca hfa hta ga (bd_mono by_37 (by decide)) (bd_mono by_43 (by decide)) (bd_mono by_27 (by decide)) (bd_mono by_29 (by decide)) c_175 (bd_mono bx_44 (by decide)) (bd_mono bx_1 (by decide))) gX11_crossArcs_X11_isOfArc rfl hy_X11_isOfArc_V ⟨Nat.le_of_ble_eq_true rfl, Nat.le_of_ble_eq_true rfl⟩ 0 rfl rfl [0, 1, 2, 5, 6, 7, 8] rfl (by decide) rfl rfl (Nat.le_of_ble_eq_true rfl) ⟨Nat.le_of_ble_eq_true rfl, Nat.le_of_ble_eq_true rfl⟩ ?_
            rintro _ ⟨y_86, y_87, y_88, y_89, y_90, y_91, y_92, y_93, y_94, sf_85⟩ ⟨rfl, hS_sf_85⟩
            dsimp only at hS_sf_85
            change J p l e rm_X11_crossArcs s m args below meth c Q G A 8 0 0 283 [(7, .int (-1)), (5, .long x_2), (3, .long x_1), (0, .ref (q 0)), (1, .int (nI a)), (2, .int (nI b))] [.int (bI (ofA (f1 a).toInt (f2 a).toInt (fr a).toInt (to1 a).toInt y_37 y_43 y_27 y_29 (-x_44.toInt) (-x_1.toInt)))] [(q 0, .inr (10, mF t n q co cr 0 x_44 x_1)), (q 2, aJ G 200 f1), (q 3, aJ G 200 f2), (q 4, aJ G 200 f3), (q 5, aJ G 200 f4), (q 6, aI G 200 fr), (q 7, aI G 200 to1), (q 10, aI G 320 (rg [y_37, y_43, y_27, y_29, y_86, y_87, y_88, y_89, y_90, y_15, y_91, y_92, v_4, y_93, v_6, y_94])), (q 11, aZ G 16 sf_85), (q 12, aI G 2 sig)]
            refine j_if_eq (tgt := 302) X dX11_crossArcs_283 (by decide) (fun c_283 => ?_) (fun c_283 => ?_)
            · skip
              first | simp only [bI_0, Decidable.not_not, sg_mul, sg_e0, sg_l0, sg_g0, sg_le0, sg_ge0, cmp_eq, cmp_lt, cmp_ge, cmp_gt, cmp_le, lT0, lT1] at c_283 | simp only [Int32.le_iff_toInt_le, Int32.lt_iff_toInt_lt, ← Int32.toInt_inj, iT0, iT1, iT2, iT3, iT4, iT5, iT6, iT7, iT8, iT9, iT10, iT11, iT12, iT13, iT14, iT15, iT16, iT19, iT20, iT31, iT32, iT42, iT64, iT200, iT318, iT319, iT1000, iTm1, iTm2] at c_283 | skip
              rw [hU, hV, hR, hL, hT, tx_1] at c_283
              have hn : ¬ aaP (f1 a).toInt (f2 a).toInt (f1 b).toInt (f2 b).toInt (f3 a).toInt (f3 b).toInt (fr a).toInt (to1 a).toInt (fr b).toInt (to1 b).toInt (-1) := fun h => c_283 (by have h3 := h.1; rw [Int.neg_one_mul, Int.neg_one_mul] at h3; exact h3)
              refine j_iinc (v := (-3)) (L' := [(7, .int (-3)), (5, .long x_2), (3, .long x_1), (0, .ref (q 0)), (1, .int (nI a)), (2, .int (nI b))]) X dX11_crossArcs_302 0 rfl (by decide) (by decide) rfl ?_
              refine j_goto (tgt := 253) X dX11_crossArcs_305 (by decide) ?_
              refine j_iload X dX11_crossArcs_253 0 rfl ?_
              refine j_bipush (v := (-2)) X dX11_crossArcs_255 (by decide) ?_
              refine j_icmp_le (tgt := 308) X dX11_crossArcs_257 (by decide) (fun _ => ?_) (fun c9 => absurd c9 (by decide))
              refine j_iconst (v := 1) X dX11_crossArcs_308 rfl ?_
              exact E.2.1 309 _ 1 (0, sig, x_44, x_1, [y_37, y_43, y_27, y_29, y_86, y_87, y_88, y_89, y_90, y_15, y_91, y_92, v_4, y_93, v_6, y_94], sf_85) _ dX11_crossArcs_309 (Or.inr ⟨_, (by unfold xaa; rw [if_neg hne]), rfl, by unfold xG aaS; rw [cps_00 (fun h => hp h.2) (fun h => hn h.2)]; exact ⟨rfl, sgL_0 _, fun h => absurd rfl h⟩, rfl, hS_sf_85⟩) hr rfl
            · skip
              first | simp only [bI_0, Decidable.not_not, sg_mul, sg_e0, sg_l0, sg_g0, sg_le0, sg_ge0, cmp_eq, cmp_lt, cmp_ge, cmp_gt, cmp_le, lT0, lT1] at c_283 | simp only [Int32.le_iff_toInt_le, Int32.lt_iff_toInt_lt, ← Int32.toInt_inj, iT0, iT1, iT2, iT3, iT4, iT5, iT6, iT7, iT8, iT9, iT10, iT11, iT12, iT13, iT14, iT15, iT16, iT19, iT20, iT31, iT32, iT42, iT64, iT200, iT318, iT319, iT1000, iTm1, iTm2] at c_283 | skip
              rw [hU, hV, hR, hL, hT, tx_1] at c_283
              have ion := c_283
              refine j_aload_n X dX11_crossArcs_286 rfl 3 rfl ?_
              refine j_iload_n X dX11_crossArcs_287 rfl 5 rfl ?_
              refine j_iload X dX11_crossArcs_288 0 rfl ?_
              refine j_callV X dX11_crossArcs_290 (c_X11_isOfArc_n l G q t n co cr 0 x_44 x_1 y_37 y_43 y_27 y_29 y_86 y_87 y_88 y_89 y_90 y_15 y_91 y_92 v_4 y_93 v_6 y_94 sf_85 hS_sf_85 f1 f2 fr to1 b bcb hfb htb gb (bd_mono by_37 (by decide)) (bd_mono by_43 (by decide)) (bd_mono by_27 (by decide)) (bd_mono by_29 (by decide)) c_175 (bd_mono bx_44 (by decide)) (bd_mono bx_1 (by decide))) gX11_crossArcs_X11_isOfArc rfl hy_X11_isOfArc_V ⟨Nat.le_of_ble_eq_true rfl, Nat.le_of_ble_eq_true rfl⟩ 0 rfl rfl [0, 1, 2, 5, 6, 7, 8] rfl (by decide) rfl rfl (Nat.le_of_ble_eq_true rfl) ⟨Nat.le_of_ble_eq_true rfl, Nat.le_of_ble_eq_true rfl⟩ ?_
              rintro _ ⟨y_96, y_97, y_98, y_99, y_100, y_101, y_102, y_103, y_104, sf_95⟩ ⟨rfl, hS_sf_95⟩
              dsimp only at hS_sf_95
              change J p l e rm_X11_crossArcs s m args below meth c Q G A 8 0 0 293 [(7, .int (-1)), (5, .long x_2), (3, .long x_1), (0, .ref (q 0)), (1, .int (nI a)), (2, .int (nI b))] [.int (bI (ofA (f1 b).toInt (f2 b).toInt (fr b).toInt (to1 b).toInt y_37 y_43 y_27 y_29 (-x_44.toInt) (-x_1.toInt)))] [(q 0, .inr (10, mF t n q co cr 0 x_44 x_1)), (q 2, aJ G 200 f1), (q 3, aJ G 200 f2), (q 4, aJ G 200 f3), (q 5, aJ G 200 f4), (q 6, aI G 200 fr), (q 7, aI G 200 to1), (q 10, aI G 320 (rg [y_37, y_43, y_27, y_29, y_96, y_97, y_98, y_99, y_100, y_15, y_101, y_102, v_4, y_103, v_6, y_104])), (q 11, aZ G 16 sf_95), (q 12, aI G 2 sig)]
              refine j_if_eq (tgt := 302) X dX11_crossArcs_293 (by decide) (fun c_293 => ?_) (fun c_293 => ?_)
              · skip
                first | simp only [bI_0, Decidable.not_not, sg_mul, sg_e0, sg_l0, sg_g0, sg_le0, sg_ge0, cmp_eq, cmp_lt, cmp_ge, cmp_gt, cmp_le, lT0, lT1] at c_293 | simp only [Int32.le_iff_toInt_le, Int32.lt_iff_toInt_lt, ← Int32.toInt_inj, iT0, iT1, iT2, iT3, iT4, iT5, iT6, iT7, iT8, iT9, iT10, iT11, iT12, iT13, iT14, iT15, iT16, iT19, iT20, iT31, iT32, iT42, iT64, iT200, iT318, iT319, iT1000, iTm1, iTm2] at c_293 | skip
                rw [hU, hV, hR, hL, hT, tx_1] at c_293
                have hn : ¬ aaP (f1 a).toInt (f2 a).toInt (f1 b).toInt (f2 b).toInt (f3 a).toInt (f3 b).toInt (fr a).toInt (to1 a).toInt (fr b).toInt (to1 b).toInt (-1) := fun h => c_293 (by have h3 := h.2; rw [Int.neg_one_mul, Int.neg_one_mul] at h3; exact h3)
                refine j_iinc (v := (-3)) (L' := [(7, .int (-3)), (5, .long x_2), (3, .long x_1), (0, .ref (q 0)), (1, .int (nI a)), (2, .int (nI b))]) X dX11_crossArcs_302 0 rfl (by decide) (by decide) rfl ?_
                refine j_goto (tgt := 253) X dX11_crossArcs_305 (by decide) ?_
                refine j_iload X dX11_crossArcs_253 0 rfl ?_
                refine j_bipush (v := (-2)) X dX11_crossArcs_255 (by decide) ?_
                refine j_icmp_le (tgt := 308) X dX11_crossArcs_257 (by decide) (fun _ => ?_) (fun c9 => absurd c9 (by decide))
                refine j_iconst (v := 1) X dX11_crossArcs_308 rfl ?_
                exact E.2.1 309 _ 1 (0, sig, x_44, x_1, [y_37, y_43, y_27, y_29, y_96, y_97, y_98, y_99, y_100, y_15, y_101, y_102, v_4, y_103, v_6, y_104], sf_95) _ dX11_crossArcs_309 (Or.inr ⟨_, (by unfold xaa; rw [if_neg hne]), rfl, by unfold xG aaS; rw [cps_00 (fun h => hp h.2) (fun h => hn h.2)]; exact ⟨rfl, sgL_0 _, fun h => absurd rfl h⟩, rfl, hS_sf_95⟩) hr rfl
              · skip
                first | simp only [bI_0, Decidable.not_not, sg_mul, sg_e0, sg_l0, sg_g0, sg_le0, sg_ge0, cmp_eq, cmp_lt, cmp_ge, cmp_gt, cmp_le, lT0, lT1] at c_293 | simp only [Int32.le_iff_toInt_le, Int32.lt_iff_toInt_lt, ← Int32.toInt_inj, iT0, iT1, iT2, iT3, iT4, iT5, iT6, iT7, iT8, iT9, iT10, iT11, iT12, iT13, iT14, iT15, iT16, iT19, iT20, iT31, iT32, iT42, iT64, iT200, iT318, iT319, iT1000, iTm1, iTm2] at c_293 | skip
                rw [hU, hV, hR, hL, hT, tx_1] at c_293
                have hn : aaP (f1 a).toInt (f2 a).toInt (f1 b).toInt (f2 b).toInt (f3 a).toInt (f3 b).toInt (fr a).toInt (to1 a).toInt (fr b).toInt (to1 b).toInt (-1) := ⟨by rw [Int.neg_one_mul, Int.neg_one_mul]; exact ion, by rw [Int.neg_one_mul, Int.neg_one_mul]; exact c_293⟩
                refine j_aload_n X dX11_crossArcs_296 rfl 3 rfl ?_
                refine j_iload X dX11_crossArcs_297 0 rfl ?_
                refine j_callV X dX11_crossArcs_299 (c_X11_pointWith_0 l G q t n co cr x_44 x_1 sig (-1)) gX11_crossArcs_X11_pointWith rfl hy_X11_pointWith_V ⟨Nat.le_of_ble_eq_true rfl, Nat.le_of_ble_eq_true rfl⟩ 0 rfl rfl [0, 9] rfl (by decide) rfl rfl (Nat.le_of_ble_eq_true rfl) ⟨Nat.le_of_ble_eq_true rfl, Nat.le_of_ble_eq_true rfl⟩ ?_
                rintro _ ⟨⟩ rfl
                change J p l e rm_X11_crossArcs s m args below meth c Q G A 8 0 0 302 [(7, .int (-1)), (5, .long x_2), (3, .long x_1), (0, .ref (q 0)), (1, .int (nI a)), (2, .int (nI b))] [] [(q 0, .inr (10, mF t n q co cr 1 x_44 x_1)), (q 2, aJ G 200 f1), (q 3, aJ G 200 f2), (q 4, aJ G 200 f3), (q 5, aJ G 200 f4), (q 6, aI G 200 fr), (q 7, aI G 200 to1), (q 10, aI G 320 (rg [y_37, y_43, y_27, y_29, y_96, y_97, y_98, y_99, y_100, y_15, y_101, y_102, v_4, y_103, v_6, y_104])), (q 11, aZ G 16 sf_95), (q 12, aI G 2 (upd sig 0 (-1)))]
                refine j_iinc (v := (-3)) (L' := [(7, .int (-3)), (5, .long x_2), (3, .long x_1), (0, .ref (q 0)), (1, .int (nI a)), (2, .int (nI b))]) X dX11_crossArcs_302 0 rfl (by decide) (by decide) rfl ?_
                refine j_goto (tgt := 253) X dX11_crossArcs_305 (by decide) ?_
                refine j_iload X dX11_crossArcs_253 0 rfl ?_
                refine j_bipush (v := (-2)) X dX11_crossArcs_255 (by decide) ?_
                refine j_icmp_le (tgt := 308) X dX11_crossArcs_257 (by decide) (fun _ => ?_) (fun c9 => absurd c9 (by decide))
                refine j_iconst (v := 1) X dX11_crossArcs_308 rfl ?_
                exact E.2.1 309 _ 1 (1, upd sig 0 (-1), x_44, x_1, [y_37, y_43, y_27, y_29, y_96, y_97, y_98, y_99, y_100, y_15, y_101, y_102, v_4, y_103, v_6, y_104], sf_95) _ dX11_crossArcs_309 (Or.inr ⟨_, (by unfold xaa; rw [if_neg hne]), rfl, by unfold xG aaS; rw [cps_01 (fun h => hp h.2) ⟨by rw [← hR]; omega, hn⟩]; exact ⟨rfl, sgL_1 _ _, fun _ => ⟨⟨hU, hV, hR, hL⟩, hT, tx_1⟩⟩, rfl, hS_sf_95⟩) hr rfl
          · skip
            first | simp only [bI_0, Decidable.not_not, sg_mul, sg_e0, sg_l0, sg_g0, sg_le0, sg_ge0, cmp_eq, cmp_lt, cmp_ge, cmp_gt, cmp_le, lT0, lT1] at c_271 | simp only [Int32.le_iff_toInt_le, Int32.lt_iff_toInt_lt, ← Int32.toInt_inj, iT0, iT1, iT2, iT3, iT4, iT5, iT6, iT7, iT8, iT9, iT10, iT11, iT12, iT13, iT14, iT15, iT16, iT19, iT20, iT31, iT32, iT42, iT64, iT200, iT318, iT319, iT1000, iTm1, iTm2] at c_271 | skip
            have hz := c_271
            refine j_iconst (v := 1) X dX11_crossArcs_274 rfl ?_
            exact E.2.1 275 _ 1 (0, sig, x_44, x_1, [y_37, y_43, y_27, y_29, y_76, y_77, y_78, y_79, y_80, y_15, y_81, y_82, v_4, y_83, v_6, y_84], sf_75) _ dX11_crossArcs_275 (Or.inr ⟨_, (by unfold xaa; rw [if_neg hne]), rfl, by unfold xG aaS; rw [cps_00 (fun h => hp h.2) (fun h => absurd h.1 (by rw [← hR, hz]; decide))]; exact ⟨rfl, sgL_0 _, fun h => absurd rfl h⟩, rfl, hS_sf_75⟩) hr rfl
        · skip
          first | simp only [bI_0, Decidable.not_not, sg_mul, sg_e0, sg_l0, sg_g0, sg_le0, sg_ge0, cmp_eq, cmp_lt, cmp_ge, cmp_gt, cmp_le, lT0, lT1] at c_293 | simp only [Int32.le_iff_toInt_le, Int32.lt_iff_toInt_lt, ← Int32.toInt_inj, iT0, iT1, iT2, iT3, iT4, iT5, iT6, iT7, iT8, iT9, iT10, iT11, iT12, iT13, iT14, iT15, iT16, iT19, iT20, iT31, iT32, iT42, iT64, iT200, iT318, iT319, iT1000, iTm1, iTm2] at c_293 | skip
          rw [hU, hV, hR, hL, hT, tx_1] at c_293
          have hp : aaP (f1 a).toInt (f2 a).toInt (f1 b).toInt (f2 b).toInt (f3 a).toInt (f3 b).toInt (fr a).toInt (to1 a).toInt (fr b).toInt (to1 b).toInt (1) := ⟨by rw [Int.one_mul, Int.one_mul]; exact iop, by rw [Int.one_mul, Int.one_mul]; exact c_293⟩
          refine j_aload_n X dX11_crossArcs_296 rfl 3 rfl ?_
          refine j_iload X dX11_crossArcs_297 0 rfl ?_
          refine j_callV X dX11_crossArcs_299 (c_X11_pointWith_0 l G q t n co cr x_44 x_1 sig 1) gX11_crossArcs_X11_pointWith rfl hy_X11_pointWith_V ⟨Nat.le_of_ble_eq_true rfl, Nat.le_of_ble_eq_true rfl⟩ 0 rfl rfl [0, 9] rfl (by decide) rfl rfl (Nat.le_of_ble_eq_true rfl) ⟨Nat.le_of_ble_eq_true rfl, Nat.le_of_ble_eq_true rfl⟩ ?_
          rintro _ ⟨⟩ rfl
          change J p l e rm_X11_crossArcs s m args below meth c Q G A 8 0 0 302 [(7, .int 1), (5, .long x_2), (3, .long x_1), (0, .ref (q 0)), (1, .int (nI a)), (2, .int (nI b))] [] [(q 0, .inr (10, mF t n q co cr 1 x_44 x_1)), (q 2, aJ G 200 f1), (q 3, aJ G 200 f2), (q 4, aJ G 200 f3), (q 5, aJ G 200 f4), (q 6, aI G 200 fr), (q 7, aI G 200 to1), (q 10, aI G 320 (rg [y_37, y_43, y_27, y_29, y_76, y_77, y_78, y_79, y_80, y_15, y_81, y_82, v_4, y_83, v_6, y_84])), (q 11, aZ G 16 sf_75), (q 12, aI G 2 (upd sig 0 1))]
          refine j_iinc (v := (-1)) (L' := [(7, .int (-1)), (5, .long x_2), (3, .long x_1), (0, .ref (q 0)), (1, .int (nI a)), (2, .int (nI b))]) X dX11_crossArcs_302 0 rfl (by decide) (by decide) rfl ?_
          refine j_goto (tgt := 253) X dX11_crossArcs_305 (by decide) ?_
          refine j_iload X dX11_crossArcs_253 0 rfl ?_
          refine j_bipush (v := (-2)) X dX11_crossArcs_255 (by decide) ?_
          refine j_icmp_le (tgt := 308) X dX11_crossArcs_257 (by decide) (fun c9 => absurd c9 (by decide)) (fun _ => ?_)
          refine j_iload X dX11_crossArcs_260 0 rfl ?_
          refine j_iconst (v := (-1)) X dX11_crossArcs_262 rfl ?_
          refine j_icmp_ne (tgt := 276) X dX11_crossArcs_263 (by decide) (fun c9 => absurd c9 (by decide)) (fun _ => ?_)
          refine j_aload_n X dX11_crossArcs_266 rfl 3 rfl ?_
          refine j_iconst (v := 2) X dX11_crossArcs_267 rfl ?_
          refine j_callV X dX11_crossArcs_268 (c_X11_sign l G q t n co cr 1 x_44 x_1 [y_37, y_43, y_27, y_29, y_76, y_77, y_78, y_79, y_80, y_15, y_81, y_82, v_4, y_83, v_6, y_84] rfl sf_75 2 2 rfl (by decide) (hS_sf_75 2 (by decide)) (bd_lt by_27 (by decide))) gX11_crossArcs_X11_sign rfl hy_X11_sign_V ⟨Nat.le_of_ble_eq_true rfl, Nat.le_of_ble_eq_true rfl⟩ 0 rfl rfl [0, 7, 8] rfl (by decide) rfl rfl (Nat.le_of_ble_eq_true rfl) ⟨Nat.le_of_ble_eq_true rfl, Nat.le_of_ble_eq_true rfl⟩ ?_
          rintro _ ⟨⟩ rfl
          change J p l e rm_X11_crossArcs s m args below meth c Q G A 8 0 0 271 [(7, .int (-1)), (5, .long x_2), (3, .long x_1), (0, .ref (q 0)), (1, .int (nI a)), (2, .int (nI b))] [.int (sg y_27)] [(q 0, .inr (10, mF t n q co cr 1 x_44 x_1)), (q 2, aJ G 200 f1), (q 3, aJ G 200 f2), (q 4, aJ G 200 f3), (q 5, aJ G 200 f4), (q 6, aI G 200 fr), (q 7, aI G 200 to1), (q 10, aI G 320 (rg [y_37, y_43, y_27, y_29, y_76, y_77, y_78, y_79, y_80, y_15, y_81, y_82, v_4, y_83, v_6, y_84])), (q 11, aZ G 16 sf_75), (q 12, aI G 2 (upd sig 0 1))]
          refine j_if_ne (tgt := 276) X dX11_crossArcs_271 (by decide) (fun c_271 => ?_) (fun c_271 => ?_)
          · skip
            first | simp only [bI_0, Decidable.not_not, sg_mul, sg_e0, sg_l0, sg_g0, sg_le0, sg_ge0, cmp_eq, cmp_lt, cmp_ge, cmp_gt, cmp_le, lT0, lT1] at c_271 | simp only [Int32.le_iff_toInt_le, Int32.lt_iff_toInt_lt, ← Int32.toInt_inj, iT0, iT1, iT2, iT3, iT4, iT5, iT6, iT7, iT8, iT9, iT10, iT11, iT12, iT13, iT14, iT15, iT16, iT19, iT20, iT31, iT32, iT42, iT64, iT200, iT318, iT319, iT1000, iTm1, iTm2] at c_271 | skip
            have hnz := c_271
            refine j_aload_n X dX11_crossArcs_276 rfl 3 rfl ?_
            refine j_iload_n X dX11_crossArcs_277 rfl 4 rfl ?_
            refine j_iload X dX11_crossArcs_278 0 rfl ?_
            refine j_callV X dX11_crossArcs_280 (c_X11_isOfArc_n l G q t n co cr 1 x_44 x_1 y_37 y_43 y_27 y_29 y_76 y_77 y_78 y_79 y_80 y_15 y_81 y_82 v_4 y_83 v_6 y_84 sf_75 hS_sf_75 f1 f2 fr to1 a bca hfa hta ga (bd_mono by_37 (by decide)) (bd_mono by_43 (by decide)) (bd_mono by_27 (by decide)) (bd_mono by_29 (by decide)) c_175 (bd_mono bx_44 (by decide)) (bd_mono bx_1 (by decide))) gX11_crossArcs_X11_isOfArc rfl hy_X11_isOfArc_V ⟨Nat.le_of_ble_eq_true rfl, Nat.le_of_ble_eq_true rfl⟩ 0 rfl rfl [0, 1, 2, 5, 6, 7, 8] rfl (by decide) rfl rfl (Nat.le_of_ble_eq_true rfl) ⟨Nat.le_of_ble_eq_true rfl, Nat.le_of_ble_eq_true rfl⟩ ?_
            rintro _ ⟨y_106, y_107, y_108, y_109, y_110, y_111, y_112, y_113, y_114, sf_105⟩ ⟨rfl, hS_sf_105⟩
            dsimp only at hS_sf_105
            change J p l e rm_X11_crossArcs s m args below meth c Q G A 8 0 0 283 [(7, .int (-1)), (5, .long x_2), (3, .long x_1), (0, .ref (q 0)), (1, .int (nI a)), (2, .int (nI b))] [.int (bI (ofA (f1 a).toInt (f2 a).toInt (fr a).toInt (to1 a).toInt y_37 y_43 y_27 y_29 (-x_44.toInt) (-x_1.toInt)))] [(q 0, .inr (10, mF t n q co cr 1 x_44 x_1)), (q 2, aJ G 200 f1), (q 3, aJ G 200 f2), (q 4, aJ G 200 f3), (q 5, aJ G 200 f4), (q 6, aI G 200 fr), (q 7, aI G 200 to1), (q 10, aI G 320 (rg [y_37, y_43, y_27, y_29, y_106, y_107, y_108, y_109, y_110, y_15, y_111, y_112, v_4, y_113, v_6, y_114])), (q 11, aZ G 16 sf_105), (q 12, aI G 2 (upd sig 0 1))]
            refine j_if_eq (tgt := 302) X dX11_crossArcs_283 (by decide) (fun c_283 => ?_) (fun c_283 => ?_)
            · skip
              first | simp only [bI_0, Decidable.not_not, sg_mul, sg_e0, sg_l0, sg_g0, sg_le0, sg_ge0, cmp_eq, cmp_lt, cmp_ge, cmp_gt, cmp_le, lT0, lT1] at c_283 | simp only [Int32.le_iff_toInt_le, Int32.lt_iff_toInt_lt, ← Int32.toInt_inj, iT0, iT1, iT2, iT3, iT4, iT5, iT6, iT7, iT8, iT9, iT10, iT11, iT12, iT13, iT14, iT15, iT16, iT19, iT20, iT31, iT32, iT42, iT64, iT200, iT318, iT319, iT1000, iTm1, iTm2] at c_283 | skip
              rw [hU, hV, hR, hL, hT, tx_1] at c_283
              have hn : ¬ aaP (f1 a).toInt (f2 a).toInt (f1 b).toInt (f2 b).toInt (f3 a).toInt (f3 b).toInt (fr a).toInt (to1 a).toInt (fr b).toInt (to1 b).toInt (-1) := fun h => c_283 (by have h3 := h.1; rw [Int.neg_one_mul, Int.neg_one_mul] at h3; exact h3)
              refine j_iinc (v := (-3)) (L' := [(7, .int (-3)), (5, .long x_2), (3, .long x_1), (0, .ref (q 0)), (1, .int (nI a)), (2, .int (nI b))]) X dX11_crossArcs_302 0 rfl (by decide) (by decide) rfl ?_
              refine j_goto (tgt := 253) X dX11_crossArcs_305 (by decide) ?_
              refine j_iload X dX11_crossArcs_253 0 rfl ?_
              refine j_bipush (v := (-2)) X dX11_crossArcs_255 (by decide) ?_
              refine j_icmp_le (tgt := 308) X dX11_crossArcs_257 (by decide) (fun _ => ?_) (fun c9 => absurd c9 (by decide))
              refine j_iconst (v := 1) X dX11_crossArcs_308 rfl ?_
              exact E.2.1 309 _ 1 (1, upd sig 0 1, x_44, x_1, [y_37, y_43, y_27, y_29, y_106, y_107, y_108, y_109, y_110, y_15, y_111, y_112, v_4, y_113, v_6, y_114], sf_105) _ dX11_crossArcs_309 (Or.inr ⟨_, (by unfold xaa; rw [if_neg hne]), rfl, by unfold xG aaS; rw [cps_10 ⟨by rw [← hR]; exact c_175, hp⟩ (fun h => hn h.2)]; exact ⟨rfl, sgL_1 _ _, fun _ => ⟨⟨hU, hV, hR, hL⟩, hT, tx_1⟩⟩, rfl, hS_sf_105⟩) hr rfl
            · skip
              first | simp only [bI_0, Decidable.not_not, sg_mul, sg_e0, sg_l0, sg_g0, sg_le0, sg_ge0, cmp_eq, cmp_lt, cmp_ge, cmp_gt, cmp_le, lT0, lT1] at c_283 | simp only [Int32.le_iff_toInt_le, Int32.lt_iff_toInt_lt, ← Int32.toInt_inj, iT0, iT1, iT2, iT3, iT4, iT5, iT6, iT7, iT8, iT9, iT10, iT11, iT12, iT13, iT14, iT15, iT16, iT19, iT20, iT31, iT32, iT42, iT64, iT200, iT318, iT319, iT1000, iTm1, iTm2] at c_283 | skip
              rw [hU, hV, hR, hL, hT, tx_1] at c_283
              have ion := c_283
              refine j_aload_n X dX11_crossArcs_286 rfl 3 rfl ?_
              refine j_iload_n X dX11_crossArcs_287 rfl 5 rfl ?_
              refine j_iload X dX11_crossArcs_288 0 rfl ?_
              refine j_callV X dX11_crossArcs_290 (c_X11_isOfArc_n l G q t n co cr 1 x_44 x_1 y_37 y_43 y_27 y_29 y_106 y_107 y_108 y_109 y_110 y_15 y_111 y_112 v_4 y_113 v_6 y_114 sf_105 hS_sf_105 f1 f2 fr to1 b bcb hfb htb gb (bd_mono by_37 (by decide)) (bd_mono by_43 (by decide)) (bd_mono by_27 (by decide)) (bd_mono by_29 (by decide)) c_175 (bd_mono bx_44 (by decide)) (bd_mono bx_1 (by decide))) gX11_crossArcs_X11_isOfArc rfl hy_X11_isOfArc_V ⟨Nat.le_of_ble_eq_true rfl, Nat.le_of_ble_eq_true rfl⟩ 0 rfl rfl [0, 1, 2, 5, 6, 7, 8] rfl (by decide) rfl rfl (Nat.le_of_ble_eq_true rfl) ⟨Nat.le_of_ble_eq_true rfl, Nat.le_of_ble_eq_true rfl⟩ ?_
              rintro _ ⟨y_116, y_117, y_118, y_119, y_120, y_121, y_122, y_123, y_124, sf_115⟩ ⟨rfl, hS_sf_115⟩
              dsimp only at hS_sf_115
              change J p l e rm_X11_crossArcs s m args below meth c Q G A 8 0 0 293 [(7, .int (-1)), (5, .long x_2), (3, .long x_1), (0, .ref (q 0)), (1, .int (nI a)), (2, .int (nI b))] [.int (bI (ofA (f1 b).toInt (f2 b).toInt (fr b).toInt (to1 b).toInt y_37 y_43 y_27 y_29 (-x_44.toInt) (-x_1.toInt)))] [(q 0, .inr (10, mF t n q co cr 1 x_44 x_1)), (q 2, aJ G 200 f1), (q 3, aJ G 200 f2), (q 4, aJ G 200 f3), (q 5, aJ G 200 f4), (q 6, aI G 200 fr), (q 7, aI G 200 to1), (q 10, aI G 320 (rg [y_37, y_43, y_27, y_29, y_116, y_117, y_118, y_119, y_120, y_15, y_121, y_122, v_4, y_123, v_6, y_124])), (q 11, aZ G 16 sf_115), (q 12, aI G 2 (upd sig 0 1))]
              refine j_if_eq (tgt := 302) X dX11_crossArcs_293 (by decide) (fun c_293 => ?_) (fun c_293 => ?_)
              · skip
                first | simp only [bI_0, Decidable.not_not, sg_mul, sg_e0, sg_l0, sg_g0, sg_le0, sg_ge0, cmp_eq, cmp_lt, cmp_ge, cmp_gt, cmp_le, lT0, lT1] at c_293 | simp only [Int32.le_iff_toInt_le, Int32.lt_iff_toInt_lt, ← Int32.toInt_inj, iT0, iT1, iT2, iT3, iT4, iT5, iT6, iT7, iT8, iT9, iT10, iT11, iT12, iT13, iT14, iT15, iT16, iT19, iT20, iT31, iT32, iT42, iT64, iT200, iT318, iT319, iT1000, iTm1, iTm2] at c_293 | skip
                rw [hU, hV, hR, hL, hT, tx_1] at c_293
                have hn : ¬ aaP (f1 a).toInt (f2 a).toInt (f1 b).toInt (f2 b).toInt (f3 a).toInt (f3 b).toInt (fr a).toInt (to1 a).toInt (fr b).toInt (to1 b).toInt (-1) := fun h => c_293 (by have h3 := h.2; rw [Int.neg_one_mul, Int.neg_one_mul] at h3; exact h3)
                refine j_iinc (v := (-3)) (L' := [(7, .int (-3)), (5, .long x_2), (3, .long x_1), (0, .ref (q 0)), (1, .int (nI a)), (2, .int (nI b))]) X dX11_crossArcs_302 0 rfl (by decide) (by decide) rfl ?_
                refine j_goto (tgt := 253) X dX11_crossArcs_305 (by decide) ?_
                refine j_iload X dX11_crossArcs_253 0 rfl ?_
                refine j_bipush (v := (-2)) X dX11_crossArcs_255 (by decide) ?_
                refine j_icmp_le (tgt := 308) X dX11_crossArcs_257 (by decide) (fun _ => ?_) (fun c9 => absurd c9 (by decide))
                refine j_iconst (v := 1) X dX11_crossArcs_308 rfl ?_
                exact E.2.1 309 _ 1 (1, upd sig 0 1, x_44, x_1, [y_37, y_43, y_27, y_29, y_116, y_117, y_118, y_119, y_120, y_15, y_121, y_122, v_4, y_123, v_6, y_124], sf_115) _ dX11_crossArcs_309 (Or.inr ⟨_, (by unfold xaa; rw [if_neg hne]), rfl, by unfold xG aaS; rw [cps_10 ⟨by rw [← hR]; exact c_175, hp⟩ (fun h => hn h.2)]; exact ⟨rfl, sgL_1 _ _, fun _ => ⟨⟨hU, hV, hR, hL⟩, hT, tx_1⟩⟩, rfl, hS_sf_115⟩) hr rfl
              · skip
                first | simp only [bI_0, Decidable.not_not, sg_mul, sg_e0, sg_l0, sg_g0, sg_le0, sg_ge0, cmp_eq, cmp_lt, cmp_ge, cmp_gt, cmp_le, lT0, lT1] at c_293 | simp only [Int32.le_iff_toInt_le, Int32.lt_iff_toInt_lt, ← Int32.toInt_inj, iT0, iT1, iT2, iT3, iT4, iT5, iT6, iT7, iT8, iT9, iT10, iT11, iT12, iT13, iT14, iT15, iT16, iT19, iT20, iT31, iT32, iT42, iT64, iT200, iT318, iT319, iT1000, iTm1, iTm2] at c_293 | skip
                rw [hU, hV, hR, hL, hT, tx_1] at c_293
                have hn : aaP (f1 a).toInt (f2 a).toInt (f1 b).toInt (f2 b).toInt (f3 a).toInt (f3 b).toInt (fr a).toInt (to1 a).toInt (fr b).toInt (to1 b).toInt (-1) := ⟨by rw [Int.neg_one_mul, Int.neg_one_mul]; exact ion, by rw [Int.neg_one_mul, Int.neg_one_mul]; exact c_293⟩
                refine j_aload_n X dX11_crossArcs_296 rfl 3 rfl ?_
                refine j_iload X dX11_crossArcs_297 0 rfl ?_
                refine j_callV X dX11_crossArcs_299 (c_X11_pointWith_1 l G q t n co cr x_44 x_1 (upd sig 0 1) (-1)) gX11_crossArcs_X11_pointWith rfl hy_X11_pointWith_V ⟨Nat.le_of_ble_eq_true rfl, Nat.le_of_ble_eq_true rfl⟩ 0 rfl rfl [0, 9] rfl (by decide) rfl rfl (Nat.le_of_ble_eq_true rfl) ⟨Nat.le_of_ble_eq_true rfl, Nat.le_of_ble_eq_true rfl⟩ ?_
                rintro _ ⟨⟩ rfl
                change J p l e rm_X11_crossArcs s m args below meth c Q G A 8 0 0 302 [(7, .int (-1)), (5, .long x_2), (3, .long x_1), (0, .ref (q 0)), (1, .int (nI a)), (2, .int (nI b))] [] [(q 0, .inr (10, mF t n q co cr 2 x_44 x_1)), (q 2, aJ G 200 f1), (q 3, aJ G 200 f2), (q 4, aJ G 200 f3), (q 5, aJ G 200 f4), (q 6, aI G 200 fr), (q 7, aI G 200 to1), (q 10, aI G 320 (rg [y_37, y_43, y_27, y_29, y_116, y_117, y_118, y_119, y_120, y_15, y_121, y_122, v_4, y_123, v_6, y_124])), (q 11, aZ G 16 sf_115), (q 12, aI G 2 (upd (upd sig 0 1) 1 (-1)))]
                refine j_iinc (v := (-3)) (L' := [(7, .int (-3)), (5, .long x_2), (3, .long x_1), (0, .ref (q 0)), (1, .int (nI a)), (2, .int (nI b))]) X dX11_crossArcs_302 0 rfl (by decide) (by decide) rfl ?_
                refine j_goto (tgt := 253) X dX11_crossArcs_305 (by decide) ?_
                refine j_iload X dX11_crossArcs_253 0 rfl ?_
                refine j_bipush (v := (-2)) X dX11_crossArcs_255 (by decide) ?_
                refine j_icmp_le (tgt := 308) X dX11_crossArcs_257 (by decide) (fun _ => ?_) (fun c9 => absurd c9 (by decide))
                refine j_iconst (v := 1) X dX11_crossArcs_308 rfl ?_
                exact E.2.1 309 _ 1 (2, upd (upd sig 0 1) 1 (-1), x_44, x_1, [y_37, y_43, y_27, y_29, y_116, y_117, y_118, y_119, y_120, y_15, y_121, y_122, v_4, y_123, v_6, y_124], sf_115) _ dX11_crossArcs_309 (Or.inr ⟨_, (by unfold xaa; rw [if_neg hne]), rfl, by unfold xG aaS; rw [cps_11 ⟨by rw [← hR]; exact c_175, hp⟩ ⟨by rw [← hR]; omega, hn⟩]; exact ⟨rfl, sgL_2 _ _ _, fun _ => ⟨⟨hU, hV, hR, hL⟩, hT, tx_1⟩⟩, rfl, hS_sf_115⟩) hr rfl
          · skip
            first | simp only [bI_0, Decidable.not_not, sg_mul, sg_e0, sg_l0, sg_g0, sg_le0, sg_ge0, cmp_eq, cmp_lt, cmp_ge, cmp_gt, cmp_le, lT0, lT1] at c_271 | simp only [Int32.le_iff_toInt_le, Int32.lt_iff_toInt_lt, ← Int32.toInt_inj, iT0, iT1, iT2, iT3, iT4, iT5, iT6, iT7, iT8, iT9, iT10, iT11, iT12, iT13, iT14, iT15, iT16, iT19, iT20, iT31, iT32, iT42, iT64, iT200, iT318, iT319, iT1000, iTm1, iTm2] at c_271 | skip
            have hz := c_271
            refine j_iconst (v := 1) X dX11_crossArcs_274 rfl ?_
            exact E.2.1 275 _ 1 (1, upd sig 0 1, x_44, x_1, [y_37, y_43, y_27, y_29, y_76, y_77, y_78, y_79, y_80, y_15, y_81, y_82, v_4, y_83, v_6, y_84], sf_75) _ dX11_crossArcs_275 (Or.inr ⟨_, (by unfold xaa; rw [if_neg hne]), rfl, by unfold xG aaS; rw [cps_10 ⟨by rw [← hR]; exact c_175, hp⟩ (fun h => absurd h.1 (by rw [← hR, hz]; decide))]; exact ⟨rfl, sgL_1 _ _, fun _ => ⟨⟨hU, hV, hR, hL⟩, hT, tx_1⟩⟩, rfl, hS_sf_75⟩) hr rfl
    · skip
      first | simp only [bI_0, Decidable.not_not, sg_mul, sg_e0, sg_l0, sg_g0, sg_le0, sg_ge0, cmp_eq, cmp_lt, cmp_ge, cmp_gt, cmp_le, lT0, lT1] at c_175 | simp only [Int32.le_iff_toInt_le, Int32.lt_iff_toInt_lt, ← Int32.toInt_inj, iT0, iT1, iT2, iT3, iT4, iT5, iT6, iT7, iT8, iT9, iT10, iT11, iT12, iT13, iT14, iT15, iT16, iT19, iT20, iT31, iT32, iT42, iT64, iT200, iT318, iT319, iT1000, iTm1, iTm2] at c_175 | skip
      have hF : y_3 = aaF (f1 a).toInt (f2 a).toInt (f1 b).toInt (f2 b).toInt := by rw [ey_3, tx_1, tx_2]; rfl
      have hE : y_15 = aaE (f1 a).toInt (f2 a).toInt (f1 b).toInt (f2 b).toInt (f3 a).toInt (f3 b).toInt := by unfold aaE; rw [← hF, ey_15, ey_11, ey_9, ey_13]
      have hR : y_27 = aaR (f1 a).toInt (f2 a).toInt (f1 b).toInt (f2 b).toInt (f3 a).toInt (f3 b).toInt := by unfold aaR; rw [← hE, ← hF, ey_27, ey_23, ey_25, ey_21, ey_17, ey_19]
      refine j_iconst (v := 1) X dX11_crossArcs_178 rfl ?_
      exact E.2.1 179 _ 1 (0, sig, tx, ty, [z0, z1, y_27, z3, y_23, y_25, y_21, z7, y_15, y_3, z10, z11, v_4, v_5, v_6, v_7], sf_28) _ dX11_crossArcs_179 (Or.inr ⟨_, (by unfold xaa; rw [if_neg hne]), rfl, by unfold xG aaS; rw [cps_00 (fun h => absurd h.1 (by rw [← hR]; omega)) (fun h => absurd h.1 (by rw [← hR]; omega))]; exact ⟨rfl, sgL_0 _, fun h => absurd rfl h⟩, rfl, hS_sf_28⟩) hr rfl
  · skip
    first | simp only [bI_0, Decidable.not_not, sg_mul, sg_e0, sg_l0, sg_g0, sg_le0, sg_ge0, cmp_eq, cmp_lt, cmp_ge, cmp_gt, cmp_le, lT0, lT1] at c_32 | simp only [Int32.le_iff_toInt_le, Int32.lt_iff_toInt_lt, ← Int32.toInt_inj, iT0, iT1, iT2, iT3, iT4, iT5, iT6, iT7, iT8, iT9, iT10, iT11, iT12, iT13, iT14, iT15, iT16, iT19, iT20, iT31, iT32, iT42, iT64, iT200, iT318, iT319, iT1000, iTm1, iTm2] at c_32 | skip
    refine j_lload X dX11_crossArcs_35 0 rfl ?_
    refine j_lconst (v := 0) X dX11_crossArcs_37 rfl ?_
    refine j_lcmp X dX11_crossArcs_38 ?_
    refine j_if_ne (tgt := 64) X dX11_crossArcs_39 (by decide) (fun c_39 => ?_) (fun c_39 => ?_)
    · skip
      first | simp only [bI_0, Decidable.not_not, sg_mul, sg_e0, sg_l0, sg_g0, sg_le0, sg_ge0, cmp_eq, cmp_lt, cmp_ge, cmp_gt, cmp_le, lT0, lT1] at c_39 | simp only [Int32.le_iff_toInt_le, Int32.lt_iff_toInt_lt, ← Int32.toInt_inj, iT0, iT1, iT2, iT3, iT4, iT5, iT6, iT7, iT8, iT9, iT10, iT11, iT12, iT13, iT14, iT15, iT16, iT19, iT20, iT31, iT32, iT42, iT64, iT200, iT318, iT319, iT1000, iTm1, iTm2] at c_39 | skip
      have hne : ¬ ((f1 b).toInt - (f1 a).toInt = 0 ∧ (f2 b).toInt - (f2 a).toInt = 0) := fun h => c_39 (by rw [tx_2]; exact h.2)
      refine j_aload_n X dX11_crossArcs_64 rfl 2 rfl ?_
      refine j_bipush (v := 9) X dX11_crossArcs_65 (by decide) ?_
      refine j_lload_n X dX11_crossArcs_67 rfl 1 rfl ?_
      refine j_lload_n X dX11_crossArcs_68 rfl 1 rfl ?_
      refine j_lload X dX11_crossArcs_69 0 rfl ?_
      refine j_lload X dX11_crossArcs_71 0 rfl ?_
      refine j_iconst (v := 0) X dX11_crossArcs_73 rfl ?_
      obtain ⟨y_125, ey_125⟩ : ∃ zz9 : Int, zz9 = x_1.toInt * x_1.toInt + x_2.toInt * x_2.toInt := ⟨_, rfl⟩
      have by_125 : bd 83 y_125 := by rw [ey_125]; exact bd_add (bd_mono (bd_mul bx_1 bx_1) (by decide)) (bd_mono (bd_mul bx_2 bx_2) (by decide))
      refine j_callV X dX11_crossArcs_74 (n_products l G q t n co cr 0 tx ty [z0, z1, z2, z3, z4, z5, z6, z7, z8, z9, z10, z11, z12, z13, z14, z15] sf rfl hS 9 9 rfl (by decide) x_1 x_1 x_2 x_2 0 (Or.inl rfl) y_125 ey_125) gX11_crossArcs_X11_products rfl hy_X11_products_V ⟨Nat.le_of_ble_eq_true rfl, Nat.le_of_ble_eq_true rfl⟩ 0 rfl rfl [0, 7, 8] rfl (by decide) rfl rfl (Nat.le_of_ble_eq_true rfl) ⟨Nat.le_of_ble_eq_true rfl, Nat.le_of_ble_eq_true rfl⟩ ?_
      rintro _ ⟨v_126, v_127, v_128, v_129, sf_130⟩ ⟨rfl, hS_sf_130⟩
      change J p l e rm_X11_crossArcs s m args below meth c Q G A 8 0 0 77 [(5, .long x_2), (3, .long x_1), (0, .ref (q 0)), (1, .int (nI a)), (2, .int (nI b))] [] [(q 0, .inr (10, mF t n q co cr 0 tx ty)), (q 2, aJ G 200 f1), (q 3, aJ G 200 f2), (q 4, aJ G 200 f3), (q 5, aJ G 200 f4), (q 6, aI G 200 fr), (q 7, aI G 200 to1), (q 10, aI G 320 (rg [z0, z1, z2, z3, z4, z5, z6, z7, z8, y_125, z10, z11, v_126, v_127, v_128, v_129])), (q 11, aZ G 16 sf_130), (q 12, aI G 2 sig)]
      refine j_aload_n X dX11_crossArcs_77 rfl 2 rfl ?_
      refine j_iconst (v := 4) X dX11_crossArcs_78 rfl ?_
      refine j_aload_n X dX11_crossArcs_79 rfl 2 rfl ?_
      refine j_get (v := .ref (q 4)) X dX11_crossArcs_80 0 rfl 5 rfl in_X11_crossArcs_X11 (by decide) fl_X11_crossArcs_20 rfl ?_
      refine j_iload_n X dX11_crossArcs_83 rfl 3 rfl ?_
      refine j_lald X dX11_crossArcs_84 3 rfl a rfl ga (by decide) ?_
      obtain ⟨y_131, ey_131⟩ : ∃ zz9 : Int, zz9 = (f3 a).toInt := ⟨_, rfl⟩
      have by_131 : bd 62 y_131 := by rw [ey_131]; exact (bd_of 62 (B := 4611686018427387904) (by decide) (by omega) bra.2)
      refine j_callV X dX11_crossArcs_85 (n_load l G q t n co cr 0 tx ty [z0, z1, z2, z3, z4, z5, z6, z7, z8, y_125, z10, z11, v_126, v_127, v_128, v_129] sf_130 rfl hS_sf_130 4 4 rfl (by decide) (f3 a) y_131 ey_131) gX11_crossArcs_X11_load rfl hy_X11_load_V ⟨Nat.le_of_ble_eq_true rfl, Nat.le_of_ble_eq_true rfl⟩ 0 rfl rfl [0, 7, 8] rfl (by decide) rfl rfl (Nat.le_of_ble_eq_true rfl) ⟨Nat.le_of_ble_eq_true rfl, Nat.le_of_ble_eq_true rfl⟩ ?_
      rintro _ sf_132 ⟨rfl, hS_sf_132⟩
      change J p l e rm_X11_crossArcs s m args below meth c Q G A 8 0 0 88 [(5, .long x_2), (3, .long x_1), (0, .ref (q 0)), (1, .int (nI a)), (2, .int (nI b))] [] [(q 0, .inr (10, mF t n q co cr 0 tx ty)), (q 2, aJ G 200 f1), (q 3, aJ G 200 f2), (q 4, aJ G 200 f3), (q 5, aJ G 200 f4), (q 6, aI G 200 fr), (q 7, aI G 200 to1), (q 10, aI G 320 (rg [z0, z1, z2, z3, y_131, z5, z6, z7, z8, y_125, z10, z11, v_126, v_127, v_128, v_129])), (q 11, aZ G 16 sf_132), (q 12, aI G 2 sig)]
      refine j_aload_n X dX11_crossArcs_88 rfl 2 rfl ?_
      refine j_iconst (v := 5) X dX11_crossArcs_89 rfl ?_
      refine j_bipush (v := 9) X dX11_crossArcs_90 (by decide) ?_
      refine j_iconst (v := 4) X dX11_crossArcs_92 rfl ?_
      refine j_iconst (v := 0) X dX11_crossArcs_93 rfl ?_
      obtain ⟨y_133, ey_133⟩ : ∃ zz9 : Int, zz9 = y_125 + y_131 := ⟨_, rfl⟩
      have by_133 : bd 84 y_133 := by rw [ey_133]; exact bd_add (bd_mono by_125 (by decide)) (bd_mono by_131 (by decide))
      refine j_callV X dX11_crossArcs_94 (n_join l G q t n co cr 0 tx ty [z0, z1, z2, z3, y_131, z5, z6, z7, z8, y_125, z10, z11, v_126, v_127, v_128, v_129] sf_132 rfl hS_sf_132 5 5 rfl (by decide) 9 9 rfl (by decide) 4 4 rfl (by decide) 0 (Or.inl rfl) (by decide) (by decide) y_133 ey_133 by_125 by_131 (by decide) (by decide)) gX11_crossArcs_X11_join rfl hy_X11_join_V ⟨Nat.le_of_ble_eq_true rfl, Nat.le_of_ble_eq_true rfl⟩ 0 rfl rfl [0, 7, 8] rfl (by decide) rfl rfl (Nat.le_of_ble_eq_true rfl) ⟨Nat.le_of_ble_eq_true rfl, Nat.le_of_ble_eq_true rfl⟩ ?_
      rintro _ sf_134 ⟨rfl, hS_sf_134⟩
      change J p l e rm_X11_crossArcs s m args below meth c Q G A 8 0 0 97 [(5, .long x_2), (3, .long x_1), (0, .ref (q 0)), (1, .int (nI a)), (2, .int (nI b))] [] [(q 0, .inr (10, mF t n q co cr 0 tx ty)), (q 2, aJ G 200 f1), (q 3, aJ G 200 f2), (q 4, aJ G 200 f3), (q 5, aJ G 200 f4), (q 6, aI G 200 fr), (q 7, aI G 200 to1), (q 10, aI G 320 (rg [z0, z1, z2, z3, y_131, y_133, z6, z7, z8, y_125, z10, z11, v_126, v_127, v_128, v_129])), (q 11, aZ G 16 sf_134), (q 12, aI G 2 sig)]
      refine j_aload_n X dX11_crossArcs_97 rfl 2 rfl ?_
      refine j_iconst (v := 4) X dX11_crossArcs_98 rfl ?_
      refine j_aload_n X dX11_crossArcs_99 rfl 2 rfl ?_
      refine j_get (v := .ref (q 4)) X dX11_crossArcs_100 0 rfl 5 rfl in_X11_crossArcs_X11 (by decide) fl_X11_crossArcs_20 rfl ?_
      refine j_iload_n X dX11_crossArcs_103 rfl 4 rfl ?_
      refine j_lald X dX11_crossArcs_104 3 rfl b rfl gb (by decide) ?_
      obtain ⟨y_135, ey_135⟩ : ∃ zz9 : Int, zz9 = (f3 b).toInt := ⟨_, rfl⟩
      have by_135 : bd 62 y_135 := by rw [ey_135]; exact (bd_of 62 (B := 4611686018427387904) (by decide) (by omega) brb.2)
      refine j_callV X dX11_crossArcs_105 (n_load l G q t n co cr 0 tx ty [z0, z1, z2, z3, y_131, y_133, z6, z7, z8, y_125, z10, z11, v_126, v_127, v_128, v_129] sf_134 rfl hS_sf_134 4 4 rfl (by decide) (f3 b) y_135 ey_135) gX11_crossArcs_X11_load rfl hy_X11_load_V ⟨Nat.le_of_ble_eq_true rfl, Nat.le_of_ble_eq_true rfl⟩ 0 rfl rfl [0, 7, 8] rfl (by decide) rfl rfl (Nat.le_of_ble_eq_true rfl) ⟨Nat.le_of_ble_eq_true rfl, Nat.le_of_ble_eq_true rfl⟩ ?_
      rintro _ sf_136 ⟨rfl, hS_sf_136⟩
      change J p l e rm_X11_crossArcs s m args below meth c Q G A 8 0 0 108 [(5, .long x_2), (3, .long x_1), (0, .ref (q 0)), (1, .int (nI a)), (2, .int (nI b))] [] [(q 0, .inr (10, mF t n q co cr 0 tx ty)), (q 2, aJ G 200 f1), (q 3, aJ G 200 f2), (q 4, aJ G 200 f3), (q 5, aJ G 200 f4), (q 6, aI G 200 fr), (q 7, aI G 200 to1), (q 10, aI G 320 (rg [z0, z1, z2, z3, y_135, y_133, z6, z7, z8, y_125, z10, z11, v_126, v_127, v_128, v_129])), (q 11, aZ G 16 sf_136), (q 12, aI G 2 sig)]
      refine j_aload_n X dX11_crossArcs_108 rfl 2 rfl ?_
      refine j_bipush (v := 8) X dX11_crossArcs_109 (by decide) ?_
      refine j_iconst (v := 5) X dX11_crossArcs_111 rfl ?_
      refine j_iconst (v := 4) X dX11_crossArcs_112 rfl ?_
      refine j_iconst (v := 1) X dX11_crossArcs_113 rfl ?_
      obtain ⟨y_137, ey_137⟩ : ∃ zz9 : Int, zz9 = y_133 - y_135 := ⟨_, rfl⟩
      have by_137 : bd 85 y_137 := by rw [ey_137]; exact bd_sub (bd_mono by_133 (by decide)) (bd_mono by_135 (by decide))
      refine j_callV X dX11_crossArcs_114 (n_join l G q t n co cr 0 tx ty [z0, z1, z2, z3, y_135, y_133, z6, z7, z8, y_125, z10, z11, v_126, v_127, v_128, v_129] sf_136 rfl hS_sf_136 8 8 rfl (by decide) 5 5 rfl (by decide) 4 4 rfl (by decide) 1 (Or.inr rfl) (by decide) (by decide) y_137 ey_137 by_133 by_135 (by decide) (by decide)) gX11_crossArcs_X11_join rfl hy_X11_join_V ⟨Nat.le_of_ble_eq_true rfl, Nat.le_of_ble_eq_true rfl⟩ 0 rfl rfl [0, 7, 8] rfl (by decide) rfl rfl (Nat.le_of_ble_eq_true rfl) ⟨Nat.le_of_ble_eq_true rfl, Nat.le_of_ble_eq_true rfl⟩ ?_
      rintro _ sf_138 ⟨rfl, hS_sf_138⟩
      change J p l e rm_X11_crossArcs s m args below meth c Q G A 8 0 0 117 [(5, .long x_2), (3, .long x_1), (0, .ref (q 0)), (1, .int (nI a)), (2, .int (nI b))] [] [(q 0, .inr (10, mF t n q co cr 0 tx ty)), (q 2, aJ G 200 f1), (q 3, aJ G 200 f2), (q 4, aJ G 200 f3), (q 5, aJ G 200 f4), (q 6, aI G 200 fr), (q 7, aI G 200 to1), (q 10, aI G 320 (rg [z0, z1, z2, z3, y_135, y_133, z6, z7, y_137, y_125, z10, z11, v_126, v_127, v_128, v_129])), (q 11, aZ G 16 sf_138), (q 12, aI G 2 sig)]
      refine j_aload_n X dX11_crossArcs_117 rfl 2 rfl ?_
      refine j_iconst (v := 4) X dX11_crossArcs_118 rfl ?_
      refine j_aload_n X dX11_crossArcs_119 rfl 2 rfl ?_
      refine j_get (v := .ref (q 4)) X dX11_crossArcs_120 0 rfl 5 rfl in_X11_crossArcs_X11 (by decide) fl_X11_crossArcs_20 rfl ?_
      refine j_iload_n X dX11_crossArcs_123 rfl 3 rfl ?_
      refine j_lald X dX11_crossArcs_124 3 rfl a rfl ga (by decide) ?_
      obtain ⟨y_139, ey_139⟩ : ∃ zz9 : Int, zz9 = (f3 a).toInt := ⟨_, rfl⟩
      have by_139 : bd 62 y_139 := by rw [ey_139]; exact (bd_of 62 (B := 4611686018427387904) (by decide) (by omega) bra.2)
      refine j_callV X dX11_crossArcs_125 (n_load l G q t n co cr 0 tx ty [z0, z1, z2, z3, y_135, y_133, z6, z7, y_137, y_125, z10, z11, v_126, v_127, v_128, v_129] sf_138 rfl hS_sf_138 4 4 rfl (by decide) (f3 a) y_139 ey_139) gX11_crossArcs_X11_load rfl hy_X11_load_V ⟨Nat.le_of_ble_eq_true rfl, Nat.le_of_ble_eq_true rfl⟩ 0 rfl rfl [0, 7, 8] rfl (by decide) rfl rfl (Nat.le_of_ble_eq_true rfl) ⟨Nat.le_of_ble_eq_true rfl, Nat.le_of_ble_eq_true rfl⟩ ?_
      rintro _ sf_140 ⟨rfl, hS_sf_140⟩
      change J p l e rm_X11_crossArcs s m args below meth c Q G A 8 0 0 128 [(5, .long x_2), (3, .long x_1), (0, .ref (q 0)), (1, .int (nI a)), (2, .int (nI b))] [] [(q 0, .inr (10, mF t n q co cr 0 tx ty)), (q 2, aJ G 200 f1), (q 3, aJ G 200 f2), (q 4, aJ G 200 f3), (q 5, aJ G 200 f4), (q 6, aI G 200 fr), (q 7, aI G 200 to1), (q 10, aI G 320 (rg [z0, z1, z2, z3, y_139, y_133, z6, z7, y_137, y_125, z10, z11, v_126, v_127, v_128, v_129])), (q 11, aZ G 16 sf_140), (q 12, aI G 2 sig)]
      refine j_aload_n X dX11_crossArcs_128 rfl 2 rfl ?_
      refine j_iconst (v := 5) X dX11_crossArcs_129 rfl ?_
      refine j_ldc2 (v := 4) X dX11_crossArcs_130 k_X11_crossArcs_194 ?_
      obtain ⟨y_141, ey_141⟩ : ∃ zz9 : Int, zz9 = 4 := ⟨_, rfl⟩
      have by_141 : bd 3 y_141 := by rw [ey_141]; exact (by decide : Int.natAbs 4 ≤ 2 ^ 3)
      refine j_callV X dX11_crossArcs_133 (n_load l G q t n co cr 0 tx ty [z0, z1, z2, z3, y_139, y_133, z6, z7, y_137, y_125, z10, z11, v_126, v_127, v_128, v_129] sf_140 rfl hS_sf_140 5 5 rfl (by decide) 4 y_141 (by rw [ey_141]; rfl)) gX11_crossArcs_X11_load rfl hy_X11_load_V ⟨Nat.le_of_ble_eq_true rfl, Nat.le_of_ble_eq_true rfl⟩ 0 rfl rfl [0, 7, 8] rfl (by decide) rfl rfl (Nat.le_of_ble_eq_true rfl) ⟨Nat.le_of_ble_eq_true rfl, Nat.le_of_ble_eq_true rfl⟩ ?_
      rintro _ sf_142 ⟨rfl, hS_sf_142⟩
      change J p l e rm_X11_crossArcs s m args below meth c Q G A 8 0 0 136 [(5, .long x_2), (3, .long x_1), (0, .ref (q 0)), (1, .int (nI a)), (2, .int (nI b))] [] [(q 0, .inr (10, mF t n q co cr 0 tx ty)), (q 2, aJ G 200 f1), (q 3, aJ G 200 f2), (q 4, aJ G 200 f3), (q 5, aJ G 200 f4), (q 6, aI G 200 fr), (q 7, aI G 200 to1), (q 10, aI G 320 (rg [z0, z1, z2, z3, y_139, y_141, z6, z7, y_137, y_125, z10, z11, v_126, v_127, v_128, v_129])), (q 11, aZ G 16 sf_142), (q 12, aI G 2 sig)]
      refine j_aload_n X dX11_crossArcs_136 rfl 2 rfl ?_
      refine j_bipush (v := 6) X dX11_crossArcs_137 (by decide) ?_
      refine j_iconst (v := 4) X dX11_crossArcs_139 rfl ?_
      refine j_iconst (v := 5) X dX11_crossArcs_140 rfl ?_
      obtain ⟨y_143, ey_143⟩ : ∃ zz9 : Int, zz9 = y_139 * y_141 := ⟨_, rfl⟩
      have by_143 : bd 65 y_143 := by rw [ey_143]; exact bd_mul by_139 by_141
      refine j_callV X dX11_crossArcs_141 (n_mul l G q t n co cr 0 tx ty [z0, z1, z2, z3, y_139, y_141, z6, z7, y_137, y_125, z10, z11, v_126, v_127, v_128, v_129] sf_142 rfl hS_sf_142 6 6 rfl (by decide) 4 4 rfl (by decide) 5 5 rfl (by decide) (by decide) (by decide) y_143 ey_143) gX11_crossArcs_X11_multiply rfl hy_X11_multiply_V ⟨Nat.le_of_ble_eq_true rfl, Nat.le_of_ble_eq_true rfl⟩ 0 rfl rfl [0, 7, 8] rfl (by decide) rfl rfl (Nat.le_of_ble_eq_true rfl) ⟨Nat.le_of_ble_eq_true rfl, Nat.le_of_ble_eq_true rfl⟩ ?_
      rintro _ sf_144 ⟨rfl, hS_sf_144⟩
      change J p l e rm_X11_crossArcs s m args below meth c Q G A 8 0 0 144 [(5, .long x_2), (3, .long x_1), (0, .ref (q 0)), (1, .int (nI a)), (2, .int (nI b))] [] [(q 0, .inr (10, mF t n q co cr 0 tx ty)), (q 2, aJ G 200 f1), (q 3, aJ G 200 f2), (q 4, aJ G 200 f3), (q 5, aJ G 200 f4), (q 6, aI G 200 fr), (q 7, aI G 200 to1), (q 10, aI G 320 (rg [z0, z1, z2, z3, y_139, y_141, y_143, z7, y_137, y_125, z10, z11, v_126, v_127, v_128, v_129])), (q 11, aZ G 16 sf_144), (q 12, aI G 2 sig)]
      refine j_aload_n X dX11_crossArcs_144 rfl 2 rfl ?_
      refine j_iconst (v := 4) X dX11_crossArcs_145 rfl ?_
      refine j_bipush (v := 6) X dX11_crossArcs_146 (by decide) ?_
      refine j_bipush (v := 9) X dX11_crossArcs_148 (by decide) ?_
      obtain ⟨y_145, ey_145⟩ : ∃ zz9 : Int, zz9 = y_143 * y_125 := ⟨_, rfl⟩
      have by_145 : bd 148 y_145 := by rw [ey_145]; exact bd_mul by_143 by_125
      refine j_callV X dX11_crossArcs_150 (n_mul l G q t n co cr 0 tx ty [z0, z1, z2, z3, y_139, y_141, y_143, z7, y_137, y_125, z10, z11, v_126, v_127, v_128, v_129] sf_144 rfl hS_sf_144 4 4 rfl (by decide) 6 6 rfl (by decide) 9 9 rfl (by decide) (by decide) (by decide) y_145 ey_145) gX11_crossArcs_X11_multiply rfl hy_X11_multiply_V ⟨Nat.le_of_ble_eq_true rfl, Nat.le_of_ble_eq_true rfl⟩ 0 rfl rfl [0, 7, 8] rfl (by decide) rfl rfl (Nat.le_of_ble_eq_true rfl) ⟨Nat.le_of_ble_eq_true rfl, Nat.le_of_ble_eq_true rfl⟩ ?_
      rintro _ sf_146 ⟨rfl, hS_sf_146⟩
      change J p l e rm_X11_crossArcs s m args below meth c Q G A 8 0 0 153 [(5, .long x_2), (3, .long x_1), (0, .ref (q 0)), (1, .int (nI a)), (2, .int (nI b))] [] [(q 0, .inr (10, mF t n q co cr 0 tx ty)), (q 2, aJ G 200 f1), (q 3, aJ G 200 f2), (q 4, aJ G 200 f3), (q 5, aJ G 200 f4), (q 6, aI G 200 fr), (q 7, aI G 200 to1), (q 10, aI G 320 (rg [z0, z1, z2, z3, y_145, y_141, y_143, z7, y_137, y_125, z10, z11, v_126, v_127, v_128, v_129])), (q 11, aZ G 16 sf_146), (q 12, aI G 2 sig)]
      refine j_aload_n X dX11_crossArcs_153 rfl 2 rfl ?_
      refine j_iconst (v := 5) X dX11_crossArcs_154 rfl ?_
      refine j_bipush (v := 8) X dX11_crossArcs_155 (by decide) ?_
      refine j_bipush (v := 8) X dX11_crossArcs_157 (by decide) ?_
      obtain ⟨y_147, ey_147⟩ : ∃ zz9 : Int, zz9 = y_137 * y_137 := ⟨_, rfl⟩
      have by_147 : bd 170 y_147 := by rw [ey_147]; exact bd_mul by_137 by_137
      refine j_callV X dX11_crossArcs_159 (n_mul l G q t n co cr 0 tx ty [z0, z1, z2, z3, y_145, y_141, y_143, z7, y_137, y_125, z10, z11, v_126, v_127, v_128, v_129] sf_146 rfl hS_sf_146 5 5 rfl (by decide) 8 8 rfl (by decide) 8 8 rfl (by decide) (by decide) (by decide) y_147 ey_147) gX11_crossArcs_X11_multiply rfl hy_X11_multiply_V ⟨Nat.le_of_ble_eq_true rfl, Nat.le_of_ble_eq_true rfl⟩ 0 rfl rfl [0, 7, 8] rfl (by decide) rfl rfl (Nat.le_of_ble_eq_true rfl) ⟨Nat.le_of_ble_eq_true rfl, Nat.le_of_ble_eq_true rfl⟩ ?_
      rintro _ sf_148 ⟨rfl, hS_sf_148⟩
      change J p l e rm_X11_crossArcs s m args below meth c Q G A 8 0 0 162 [(5, .long x_2), (3, .long x_1), (0, .ref (q 0)), (1, .int (nI a)), (2, .int (nI b))] [] [(q 0, .inr (10, mF t n q co cr 0 tx ty)), (q 2, aJ G 200 f1), (q 3, aJ G 200 f2), (q 4, aJ G 200 f3), (q 5, aJ G 200 f4), (q 6, aI G 200 fr), (q 7, aI G 200 to1), (q 10, aI G 320 (rg [z0, z1, z2, z3, y_145, y_147, y_143, z7, y_137, y_125, z10, z11, v_126, v_127, v_128, v_129])), (q 11, aZ G 16 sf_148), (q 12, aI G 2 sig)]
      refine j_aload_n X dX11_crossArcs_162 rfl 2 rfl ?_
      refine j_iconst (v := 2) X dX11_crossArcs_163 rfl ?_
      refine j_iconst (v := 4) X dX11_crossArcs_164 rfl ?_
      refine j_iconst (v := 5) X dX11_crossArcs_165 rfl ?_
      refine j_iconst (v := 1) X dX11_crossArcs_166 rfl ?_
      obtain ⟨y_149, ey_149⟩ : ∃ zz9 : Int, zz9 = y_145 - y_147 := ⟨_, rfl⟩
      have by_149 : bd 171 y_149 := by rw [ey_149]; exact bd_sub (bd_mono by_145 (by decide)) (bd_mono by_147 (by decide))
      refine j_callV X dX11_crossArcs_167 (n_join l G q t n co cr 0 tx ty [z0, z1, z2, z3, y_145, y_147, y_143, z7, y_137, y_125, z10, z11, v_126, v_127, v_128, v_129] sf_148 rfl hS_sf_148 2 2 rfl (by decide) 4 4 rfl (by decide) 5 5 rfl (by decide) 1 (Or.inr rfl) (by decide) (by decide) y_149 ey_149 by_145 by_147 (by decide) (by decide)) gX11_crossArcs_X11_join rfl hy_X11_join_V ⟨Nat.le_of_ble_eq_true rfl, Nat.le_of_ble_eq_true rfl⟩ 0 rfl rfl [0, 7, 8] rfl (by decide) rfl rfl (Nat.le_of_ble_eq_true rfl) ⟨Nat.le_of_ble_eq_true rfl, Nat.le_of_ble_eq_true rfl⟩ ?_
      rintro _ sf_150 ⟨rfl, hS_sf_150⟩
      change J p l e rm_X11_crossArcs s m args below meth c Q G A 8 0 0 170 [(5, .long x_2), (3, .long x_1), (0, .ref (q 0)), (1, .int (nI a)), (2, .int (nI b))] [] [(q 0, .inr (10, mF t n q co cr 0 tx ty)), (q 2, aJ G 200 f1), (q 3, aJ G 200 f2), (q 4, aJ G 200 f3), (q 5, aJ G 200 f4), (q 6, aI G 200 fr), (q 7, aI G 200 to1), (q 10, aI G 320 (rg [z0, z1, y_149, z3, y_145, y_147, y_143, z7, y_137, y_125, z10, z11, v_126, v_127, v_128, v_129])), (q 11, aZ G 16 sf_150), (q 12, aI G 2 sig)]
      refine j_aload_n X dX11_crossArcs_170 rfl 2 rfl ?_
      refine j_iconst (v := 2) X dX11_crossArcs_171 rfl ?_
      refine j_callV X dX11_crossArcs_172 (c_X11_sign l G q t n co cr 0 tx ty [z0, z1, y_149, z3, y_145, y_147, y_143, z7, y_137, y_125, z10, z11, v_126, v_127, v_128, v_129] rfl sf_150 2 2 rfl (by decide) (hS_sf_150 2 (by decide)) (bd_lt by_149 (by decide))) gX11_crossArcs_X11_sign rfl hy_X11_sign_V ⟨Nat.le_of_ble_eq_true rfl, Nat.le_of_ble_eq_true rfl⟩ 0 rfl rfl [0, 7, 8] rfl (by decide) rfl rfl (Nat.le_of_ble_eq_true rfl) ⟨Nat.le_of_ble_eq_true rfl, Nat.le_of_ble_eq_true rfl⟩ ?_
      rintro _ ⟨⟩ rfl
      change J p l e rm_X11_crossArcs s m args below meth c Q G A 8 0 0 175 [(5, .long x_2), (3, .long x_1), (0, .ref (q 0)), (1, .int (nI a)), (2, .int (nI b))] [.int (sg y_149)] [(q 0, .inr (10, mF t n q co cr 0 tx ty)), (q 2, aJ G 200 f1), (q 3, aJ G 200 f2), (q 4, aJ G 200 f3), (q 5, aJ G 200 f4), (q 6, aI G 200 fr), (q 7, aI G 200 to1), (q 10, aI G 320 (rg [z0, z1, y_149, z3, y_145, y_147, y_143, z7, y_137, y_125, z10, z11, v_126, v_127, v_128, v_129])), (q 11, aZ G 16 sf_150), (q 12, aI G 2 sig)]
      refine j_if_ge (tgt := 180) X dX11_crossArcs_175 (by decide) (fun c_175 => ?_) (fun c_175 => ?_)
      · skip
        first | simp only [bI_0, Decidable.not_not, sg_mul, sg_e0, sg_l0, sg_g0, sg_le0, sg_ge0, cmp_eq, cmp_lt, cmp_ge, cmp_gt, cmp_le, lT0, lT1] at c_175 | simp only [Int32.le_iff_toInt_le, Int32.lt_iff_toInt_lt, ← Int32.toInt_inj, iT0, iT1, iT2, iT3, iT4, iT5, iT6, iT7, iT8, iT9, iT10, iT11, iT12, iT13, iT14, iT15, iT16, iT19, iT20, iT31, iT32, iT42, iT64, iT200, iT318, iT319, iT1000, iTm1, iTm2] at c_175 | skip
        have hF : y_125 = aaF (f1 a).toInt (f2 a).toInt (f1 b).toInt (f2 b).toInt := by rw [ey_125, tx_1, tx_2]; rfl
        have hE : y_137 = aaE (f1 a).toInt (f2 a).toInt (f1 b).toInt (f2 b).toInt (f3 a).toInt (f3 b).toInt := by unfold aaE; rw [← hF, ey_137, ey_133, ey_131, ey_135]
        have hR : y_149 = aaR (f1 a).toInt (f2 a).toInt (f1 b).toInt (f2 b).toInt (f3 a).toInt (f3 b).toInt := by unfold aaR; rw [← hE, ← hF, ey_149, ey_145, ey_147, ey_143, ey_139, ey_141]
        refine j_aload_n X dX11_crossArcs_180 rfl 2 rfl ?_
        refine j_iconst (v := 3) X dX11_crossArcs_181 rfl ?_
        refine j_bipush (v := 9) X dX11_crossArcs_182 (by decide) ?_
        refine j_bipush (v := 9) X dX11_crossArcs_184 (by decide) ?_
        refine j_iconst (v := 0) X dX11_crossArcs_186 rfl ?_
        obtain ⟨y_151, ey_151⟩ : ∃ zz9 : Int, zz9 = y_125 + y_125 := ⟨_, rfl⟩
        have by_151 : bd 84 y_151 := by rw [ey_151]; exact bd_add (bd_mono by_125 (by decide)) (bd_mono by_125 (by decide))
        refine j_callV X dX11_crossArcs_187 (n_join l G q t n co cr 0 tx ty [z0, z1, y_149, z3, y_145, y_147, y_143, z7, y_137, y_125, z10, z11, v_126, v_127, v_128, v_129] sf_150 rfl hS_sf_150 3 3 rfl (by decide) 9 9 rfl (by decide) 9 9 rfl (by decide) 0 (Or.inl rfl) (by decide) (by decide) y_151 ey_151 by_125 by_125 (by decide) (by decide)) gX11_crossArcs_X11_join rfl hy_X11_join_V ⟨Nat.le_of_ble_eq_true rfl, Nat.le_of_ble_eq_true rfl⟩ 0 rfl rfl [0, 7, 8] rfl (by decide) rfl rfl (Nat.le_of_ble_eq_true rfl) ⟨Nat.le_of_ble_eq_true rfl, Nat.le_of_ble_eq_true rfl⟩ ?_
        rintro _ sf_152 ⟨rfl, hS_sf_152⟩
        change J p l e rm_X11_crossArcs s m args below meth c Q G A 8 0 0 190 [(5, .long x_2), (3, .long x_1), (0, .ref (q 0)), (1, .int (nI a)), (2, .int (nI b))] [] [(q 0, .inr (10, mF t n q co cr 0 tx ty)), (q 2, aJ G 200 f1), (q 3, aJ G 200 f2), (q 4, aJ G 200 f3), (q 5, aJ G 200 f4), (q 6, aI G 200 fr), (q 7, aI G 200 to1), (q 10, aI G 320 (rg [z0, z1, y_149, y_151, y_145, y_147, y_143, z7, y_137, y_125, z10, z11, v_126, v_127, v_128, v_129])), (q 11, aZ G 16 sf_152), (q 12, aI G 2 sig)]
        have hL : y_151 = aaL (f1 a).toInt (f2 a).toInt (f1 b).toInt (f2 b).toInt := by unfold aaL; rw [← hF, ey_151]
        refine j_aload_n X dX11_crossArcs_190 rfl 2 rfl ?_
        refine j_iconst (v := 5) X dX11_crossArcs_191 rfl ?_
        refine j_bipush (v := 8) X dX11_crossArcs_192 (by decide) ?_
        refine j_callV X dX11_crossArcs_194 (h_copy l G q t n co cr 0 tx ty [z0, z1, y_149, y_151, y_145, y_147, y_143, z7, y_137, y_125, z10, z11, v_126, v_127, v_128, v_129] sf_152 rfl hS_sf_152 5 5 rfl (by decide) 8 8 rfl (by decide) (by decide)) gX11_crossArcs_X11_copy rfl hy_X11_copy_V ⟨Nat.le_of_ble_eq_true rfl, Nat.le_of_ble_eq_true rfl⟩ 0 rfl rfl [0, 7, 8] rfl (by decide) rfl rfl (Nat.le_of_ble_eq_true rfl) ⟨Nat.le_of_ble_eq_true rfl, Nat.le_of_ble_eq_true rfl⟩ ?_
        rintro _ sf_153 ⟨rfl, hS_sf_153⟩
        change J p l e rm_X11_crossArcs s m args below meth c Q G A 8 0 0 197 [(5, .long x_2), (3, .long x_1), (0, .ref (q 0)), (1, .int (nI a)), (2, .int (nI b))] [] [(q 0, .inr (10, mF t n q co cr 0 tx ty)), (q 2, aJ G 200 f1), (q 3, aJ G 200 f2), (q 4, aJ G 200 f3), (q 5, aJ G 200 f4), (q 6, aI G 200 fr), (q 7, aI G 200 to1), (q 10, aI G 320 (rg [z0, z1, y_149, y_151, y_145, y_137, y_143, z7, y_137, y_125, z10, z11, v_126, v_127, v_128, v_129])), (q 11, aZ G 16 sf_153), (q 12, aI G 2 sig)]
        refine j_aload_n X dX11_crossArcs_197 rfl 2 rfl ?_
        refine j_bipush (v := 9) X dX11_crossArcs_198 (by decide) ?_
        refine j_bipush (v := 8) X dX11_crossArcs_200 (by decide) ?_
        refine j_callV X dX11_crossArcs_202 (h_copy l G q t n co cr 0 tx ty [z0, z1, y_149, y_151, y_145, y_137, y_143, z7, y_137, y_125, z10, z11, v_126, v_127, v_128, v_129] sf_153 rfl hS_sf_153 9 9 rfl (by decide) 8 8 rfl (by decide) (by decide)) gX11_crossArcs_X11_copy rfl hy_X11_copy_V ⟨Nat.le_of_ble_eq_true rfl, Nat.le_of_ble_eq_true rfl⟩ 0 rfl rfl [0, 7, 8] rfl (by decide) rfl rfl (Nat.le_of_ble_eq_true rfl) ⟨Nat.le_of_ble_eq_true rfl, Nat.le_of_ble_eq_true rfl⟩ ?_
        rintro _ sf_154 ⟨rfl, hS_sf_154⟩
        change J p l e rm_X11_crossArcs s m args below meth c Q G A 8 0 0 205 [(5, .long x_2), (3, .long x_1), (0, .ref (q 0)), (1, .int (nI a)), (2, .int (nI b))] [] [(q 0, .inr (10, mF t n q co cr 0 tx ty)), (q 2, aJ G 200 f1), (q 3, aJ G 200 f2), (q 4, aJ G 200 f3), (q 5, aJ G 200 f4), (q 6, aI G 200 fr), (q 7, aI G 200 to1), (q 10, aI G 320 (rg [z0, z1, y_149, y_151, y_145, y_137, y_143, z7, y_137, y_137, z10, z11, v_126, v_127, v_128, v_129])), (q 11, aZ G 16 sf_154), (q 12, aI G 2 sig)]
        refine j_aload_n X dX11_crossArcs_205 rfl 2 rfl ?_
        refine j_aload_n X dX11_crossArcs_206 rfl 2 rfl ?_
        refine j_get (v := .ref (q 2)) X dX11_crossArcs_207 0 rfl 3 rfl in_X11_crossArcs_X11 (by decide) fl_X11_crossArcs_13 rfl ?_
        refine j_iload_n X dX11_crossArcs_210 rfl 3 rfl ?_
        refine j_lald X dX11_crossArcs_211 1 rfl a rfl ga (by decide) ?_
        refine j_lload_n X dX11_crossArcs_212 rfl 1 rfl ?_
        refine j_iconst (v := 0) X dX11_crossArcs_213 rfl ?_
        refine j_callV X dX11_crossArcs_214 (c_X11_onLine_0 l G q t n co cr 0 tx ty z0 z1 y_149 y_151 y_145 y_137 y_143 z7 y_137 y_137 z10 z11 v_126 v_127 v_128 v_129 sf_154 hS_sf_154 (f1 a) x_1 (bd_mono by_151 (by decide)) (bd_mono by_137 (by decide)) (bd_mono (bd_C bca.1) (by decide)) (bd_mono bx_1 (by decide))) gX11_crossArcs_X11_onLine rfl hy_X11_onLine_V ⟨Nat.le_of_ble_eq_true rfl, Nat.le_of_ble_eq_true rfl⟩ 0 rfl rfl [0, 7, 8] rfl (by decide) rfl rfl (Nat.le_of_ble_eq_true rfl) ⟨Nat.le_of_ble_eq_true rfl, Nat.le_of_ble_eq_true rfl⟩ ?_
        rintro _ ⟨y_156, y_157, y_158, y_159, sf_155⟩ ⟨rfl, ey_159, hS_sf_155⟩
        dsimp only at ey_159 hS_sf_155
        change J p l e rm_X11_crossArcs s m args below meth c Q G A 8 0 0 217 [(5, .long x_2), (3, .long x_1), (0, .ref (q 0)), (1, .int (nI a)), (2, .int (nI b))] [] [(q 0, .inr (10, mF t n q co cr 0 tx ty)), (q 2, aJ G 200 f1), (q 3, aJ G 200 f2), (q 4, aJ G 200 f3), (q 5, aJ G 200 f4), (q 6, aI G 200 fr), (q 7, aI G 200 to1), (q 10, aI G 320 (rg [y_159, z1, y_149, y_151, y_156, y_137, y_157, z7, y_137, y_137, z10, z11, v_126, y_158, v_128, v_129])), (q 11, aZ G 16 sf_155), (q 12, aI G 2 sig)]
        have by_159 : bd 127 y_159 := by rw [ey_159]; exact bd_add (bd_mono (bd_mul (bd_C bca.1) by_151) (by decide)) (bd_mono (bd_mul bx_1 by_137) (by decide))
        refine j_aload_n X dX11_crossArcs_217 rfl 2 rfl ?_
        refine j_iconst (v := 5) X dX11_crossArcs_218 rfl ?_
        refine j_bipush (v := 9) X dX11_crossArcs_219 (by decide) ?_
        refine j_callV X dX11_crossArcs_221 (h_copy l G q t n co cr 0 tx ty [y_159, z1, y_149, y_151, y_156, y_137, y_157, z7, y_137, y_137, z10, z11, v_126, y_158, v_128, v_129] sf_155 rfl hS_sf_155 5 5 rfl (by decide) 9 9 rfl (by decide) (by decide)) gX11_crossArcs_X11_copy rfl hy_X11_copy_V ⟨Nat.le_of_ble_eq_true rfl, Nat.le_of_ble_eq_true rfl⟩ 0 rfl rfl [0, 7, 8] rfl (by decide) rfl rfl (Nat.le_of_ble_eq_true rfl) ⟨Nat.le_of_ble_eq_true rfl, Nat.le_of_ble_eq_true rfl⟩ ?_
        rintro _ sf_160 ⟨rfl, hS_sf_160⟩
        change J p l e rm_X11_crossArcs s m args below meth c Q G A 8 0 0 224 [(5, .long x_2), (3, .long x_1), (0, .ref (q 0)), (1, .int (nI a)), (2, .int (nI b))] [] [(q 0, .inr (10, mF t n q co cr 0 tx ty)), (q 2, aJ G 200 f1), (q 3, aJ G 200 f2), (q 4, aJ G 200 f3), (q 5, aJ G 200 f4), (q 6, aI G 200 fr), (q 7, aI G 200 to1), (q 10, aI G 320 (rg [y_159, z1, y_149, y_151, y_156, y_137, y_157, z7, y_137, y_137, z10, z11, v_126, y_158, v_128, v_129])), (q 11, aZ G 16 sf_160), (q 12, aI G 2 sig)]
        refine j_aload_n X dX11_crossArcs_224 rfl 2 rfl ?_
        refine j_aload_n X dX11_crossArcs_225 rfl 2 rfl ?_
        refine j_get (v := .ref (q 3)) X dX11_crossArcs_226 0 rfl 4 rfl in_X11_crossArcs_X11 (by decide) fl_X11_crossArcs_17 rfl ?_
        refine j_iload_n X dX11_crossArcs_229 rfl 3 rfl ?_
        refine j_lald X dX11_crossArcs_230 2 rfl a rfl ga (by decide) ?_
        refine j_lload X dX11_crossArcs_231 0 rfl ?_
        refine j_iconst (v := 1) X dX11_crossArcs_233 rfl ?_
        refine j_callV X dX11_crossArcs_234 (c_X11_onLine_1 l G q t n co cr 0 tx ty y_159 z1 y_149 y_151 y_156 y_137 y_157 z7 y_137 y_137 z10 z11 v_126 y_158 v_128 v_129 sf_160 hS_sf_160 (f2 a) x_2 (bd_mono by_151 (by decide)) (bd_mono by_137 (by decide)) (bd_mono (bd_C bca.2) (by decide)) (bd_mono bx_2 (by decide))) gX11_crossArcs_X11_onLine rfl hy_X11_onLine_V ⟨Nat.le_of_ble_eq_true rfl, Nat.le_of_ble_eq_true rfl⟩ 0 rfl rfl [0, 7, 8] rfl (by decide) rfl rfl (Nat.le_of_ble_eq_true rfl) ⟨Nat.le_of_ble_eq_true rfl, Nat.le_of_ble_eq_true rfl⟩ ?_
        rintro _ ⟨y_162, y_163, y_164, y_165, sf_161⟩ ⟨rfl, ey_165, hS_sf_161⟩
        dsimp only at ey_165 hS_sf_161
        change J p l e rm_X11_crossArcs s m args below meth c Q G A 8 0 0 237 [(5, .long x_2), (3, .long x_1), (0, .ref (q 0)), (1, .int (nI a)), (2, .int (nI b))] [] [(q 0, .inr (10, mF t n q co cr 0 tx ty)), (q 2, aJ G 200 f1), (q 3, aJ G 200 f2), (q 4, aJ G 200 f3), (q 5, aJ G 200 f4), (q 6, aI G 200 fr), (q 7, aI G 200 to1), (q 10, aI G 320 (rg [y_159, y_165, y_149, y_151, y_162, y_137, y_163, z7, y_137, y_137, z10, z11, v_126, y_164, v_128, v_129])), (q 11, aZ G 16 sf_161), (q 12, aI G 2 sig)]
        have by_165 : bd 127 y_165 := by rw [ey_165]; exact bd_add (bd_mono (bd_mul (bd_C bca.2) by_151) (by decide)) (bd_mono (bd_mul bx_2 by_137) (by decide))
        refine j_aload_n X dX11_crossArcs_237 rfl 2 rfl ?_
        refine j_lconst (v := 0) X dX11_crossArcs_238 rfl ?_
        refine j_lload X dX11_crossArcs_239 0 rfl ?_
        refine j_lsub X dX11_crossArcs_241 ?_
        refine j_topl (fun x_166 ex_166 => ?_)
        have tx_166 : x_166.toInt = -x_2.toInt := by rw [ex_166]; exact bl_neg0 bx_2 (by decide)
        have bx_166 : bd 41 x_166.toInt := by rw [tx_166]; exact bd_neg bx_2
        refine j_put (ws' := [(q 0, .inr (10, mF t n q co cr 0 x_166 ty)), (q 2, aJ G 200 f1), (q 3, aJ G 200 f2), (q 4, aJ G 200 f3), (q 5, aJ G 200 f4), (q 6, aI G 200 fr), (q 7, aI G 200 to1), (q 10, aI G 320 (rg [y_159, y_165, y_149, y_151, y_162, y_137, y_163, z7, y_137, y_137, z10, z11, v_126, y_164, v_128, v_129])), (q 11, aZ G 16 sf_161), (q 12, aI G 2 sig)]) X dX11_crossArcs_242 0 rfl 17 rfl in_X11_crossArcs_X11 tyX11 tyX11_ok nmX11 (by decide) fl_X11_crossArcs_159 rfl rfl rfl rfl (Nat.le_of_ble_eq_true rfl) rfl ?_
        refine j_aload_n X dX11_crossArcs_245 rfl 2 rfl ?_
        refine j_lload_n X dX11_crossArcs_246 rfl 1 rfl ?_
        refine j_put (ws' := [(q 0, .inr (10, mF t n q co cr 0 x_166 x_1)), (q 2, aJ G 200 f1), (q 3, aJ G 200 f2), (q 4, aJ G 200 f3), (q 5, aJ G 200 f4), (q 6, aI G 200 fr), (q 7, aI G 200 to1), (q 10, aI G 320 (rg [y_159, y_165, y_149, y_151, y_162, y_137, y_163, z7, y_137, y_137, z10, z11, v_126, y_164, v_128, v_129])), (q 11, aZ G 16 sf_161), (q 12, aI G 2 sig)]) X dX11_crossArcs_247 0 rfl 18 rfl in_X11_crossArcs_X11 tyX11 tyX11_ok nmX11 (by decide) fl_X11_crossArcs_163 rfl rfl rfl rfl (Nat.le_of_ble_eq_true rfl) rfl ?_
        have hU : y_159 = aaU (f1 a).toInt (f2 a).toInt (f1 b).toInt (f2 b).toInt (f3 a).toInt (f3 b).toInt := by unfold aaU; rw [← hL, ← hE, ey_159, tx_1]
        have hV : y_165 = aaV (f1 a).toInt (f2 a).toInt (f1 b).toInt (f2 b).toInt (f3 a).toInt (f3 b).toInt := by unfold aaV; rw [← hL, ← hE, ey_165, tx_2]
        have hT : x_166.toInt = -((f2 b).toInt - (f2 a).toInt) := by rw [tx_166, tx_2]
        refine j_iconst (v := 1) X dX11_crossArcs_250 rfl ?_
        refine j_istore (L' := [(7, .int 1), (5, .long x_2), (3, .long x_1), (0, .ref (q 0)), (1, .int (nI a)), (2, .int (nI b))]) X dX11_crossArcs_251 (by decide) rfl ?_
        refine j_iload X dX11_crossArcs_253 0 rfl ?_
        refine j_bipush (v := (-2)) X dX11_crossArcs_255 (by decide) ?_
        refine j_icmp_le (tgt := 308) X dX11_crossArcs_257 (by decide) (fun c9 => absurd c9 (by decide)) (fun _ => ?_)
        refine j_iload X dX11_crossArcs_260 0 rfl ?_
        refine j_iconst (v := (-1)) X dX11_crossArcs_262 rfl ?_
        refine j_icmp_ne (tgt := 276) X dX11_crossArcs_263 (by decide) (fun _ => ?_) (fun c9 => absurd c9 (by decide))
        refine j_aload_n X dX11_crossArcs_276 rfl 3 rfl ?_
        refine j_iload_n X dX11_crossArcs_277 rfl 4 rfl ?_
        refine j_iload X dX11_crossArcs_278 0 rfl ?_
        refine j_callV X dX11_crossArcs_280 (c_X11_isOfArc_p l G q t n co cr 0 x_166 x_1 y_159 y_165 y_149 y_151 y_162 y_137 y_163 z7 y_137 y_137 z10 z11 v_126 y_164 v_128 v_129 sf_161 hS_sf_161 f1 f2 fr to1 a bca hfa hta ga (bd_mono by_159 (by decide)) (bd_mono by_165 (by decide)) (bd_mono by_149 (by decide)) (bd_mono by_151 (by decide)) c_175 (bd_mono bx_166 (by decide)) (bd_mono bx_1 (by decide))) gX11_crossArcs_X11_isOfArc rfl hy_X11_isOfArc_V ⟨Nat.le_of_ble_eq_true rfl, Nat.le_of_ble_eq_true rfl⟩ 0 rfl rfl [0, 1, 2, 5, 6, 7, 8] rfl (by decide) rfl rfl (Nat.le_of_ble_eq_true rfl) ⟨Nat.le_of_ble_eq_true rfl, Nat.le_of_ble_eq_true rfl⟩ ?_
        rintro _ ⟨y_168, y_169, y_170, y_171, y_172, y_173, y_174, y_175, y_176, sf_167⟩ ⟨rfl, hS_sf_167⟩
        dsimp only at hS_sf_167
        change J p l e rm_X11_crossArcs s m args below meth c Q G A 8 0 0 283 [(7, .int 1), (5, .long x_2), (3, .long x_1), (0, .ref (q 0)), (1, .int (nI a)), (2, .int (nI b))] [.int (bI (ofA (f1 a).toInt (f2 a).toInt (fr a).toInt (to1 a).toInt y_159 y_165 y_149 y_151 x_166.toInt x_1.toInt))] [(q 0, .inr (10, mF t n q co cr 0 x_166 x_1)), (q 2, aJ G 200 f1), (q 3, aJ G 200 f2), (q 4, aJ G 200 f3), (q 5, aJ G 200 f4), (q 6, aI G 200 fr), (q 7, aI G 200 to1), (q 10, aI G 320 (rg [y_159, y_165, y_149, y_151, y_168, y_169, y_170, y_171, y_172, y_137, y_173, y_174, v_126, y_175, v_128, y_176])), (q 11, aZ G 16 sf_167), (q 12, aI G 2 sig)]
        refine j_if_eq (tgt := 302) X dX11_crossArcs_283 (by decide) (fun c_283 => ?_) (fun c_283 => ?_)
        · skip
          first | simp only [bI_0, Decidable.not_not, sg_mul, sg_e0, sg_l0, sg_g0, sg_le0, sg_ge0, cmp_eq, cmp_lt, cmp_ge, cmp_gt, cmp_le, lT0, lT1] at c_283 | simp only [Int32.le_iff_toInt_le, Int32.lt_iff_toInt_lt, ← Int32.toInt_inj, iT0, iT1, iT2, iT3, iT4, iT5, iT6, iT7, iT8, iT9, iT10, iT11, iT12, iT13, iT14, iT15, iT16, iT19, iT20, iT31, iT32, iT42, iT64, iT200, iT318, iT319, iT1000, iTm1, iTm2] at c_283 | skip
          rw [hU, hV, hR, hL, hT, tx_1] at c_283
          have hp : ¬ aaP (f1 a).toInt (f2 a).toInt (f1 b).toInt (f2 b).toInt (f3 a).toInt (f3 b).toInt (fr a).toInt (to1 a).toInt (fr b).toInt (to1 b).toInt (1) := fun h => c_283 (by have h3 := h.1; rw [Int.one_mul, Int.one_mul] at h3; exact h3)
          refine j_iinc (v := (-1)) (L' := [(7, .int (-1)), (5, .long x_2), (3, .long x_1), (0, .ref (q 0)), (1, .int (nI a)), (2, .int (nI b))]) X dX11_crossArcs_302 0 rfl (by decide) (by decide) rfl ?_
          refine j_goto (tgt := 253) X dX11_crossArcs_305 (by decide) ?_
          refine j_iload X dX11_crossArcs_253 0 rfl ?_
          refine j_bipush (v := (-2)) X dX11_crossArcs_255 (by decide) ?_
          refine j_icmp_le (tgt := 308) X dX11_crossArcs_257 (by decide) (fun c9 => absurd c9 (by decide)) (fun _ => ?_)
          refine j_iload X dX11_crossArcs_260 0 rfl ?_
          refine j_iconst (v := (-1)) X dX11_crossArcs_262 rfl ?_
          refine j_icmp_ne (tgt := 276) X dX11_crossArcs_263 (by decide) (fun c9 => absurd c9 (by decide)) (fun _ => ?_)
          refine j_aload_n X dX11_crossArcs_266 rfl 3 rfl ?_
          refine j_iconst (v := 2) X dX11_crossArcs_267 rfl ?_
          refine j_callV X dX11_crossArcs_268 (c_X11_sign l G q t n co cr 0 x_166 x_1 [y_159, y_165, y_149, y_151, y_168, y_169, y_170, y_171, y_172, y_137, y_173, y_174, v_126, y_175, v_128, y_176] rfl sf_167 2 2 rfl (by decide) (hS_sf_167 2 (by decide)) (bd_lt by_149 (by decide))) gX11_crossArcs_X11_sign rfl hy_X11_sign_V ⟨Nat.le_of_ble_eq_true rfl, Nat.le_of_ble_eq_true rfl⟩ 0 rfl rfl [0, 7, 8] rfl (by decide) rfl rfl (Nat.le_of_ble_eq_true rfl) ⟨Nat.le_of_ble_eq_true rfl, Nat.le_of_ble_eq_true rfl⟩ ?_
          rintro _ ⟨⟩ rfl
          change J p l e rm_X11_crossArcs s m args below meth c Q G A 8 0 0 271 [(7, .int (-1)), (5, .long x_2), (3, .long x_1), (0, .ref (q 0)), (1, .int (nI a)), (2, .int (nI b))] [.int (sg y_149)] [(q 0, .inr (10, mF t n q co cr 0 x_166 x_1)), (q 2, aJ G 200 f1), (q 3, aJ G 200 f2), (q 4, aJ G 200 f3), (q 5, aJ G 200 f4), (q 6, aI G 200 fr), (q 7, aI G 200 to1), (q 10, aI G 320 (rg [y_159, y_165, y_149, y_151, y_168, y_169, y_170, y_171, y_172, y_137, y_173, y_174, v_126, y_175, v_128, y_176])), (q 11, aZ G 16 sf_167), (q 12, aI G 2 sig)]
          refine j_if_ne (tgt := 276) X dX11_crossArcs_271 (by decide) (fun c_271 => ?_) (fun c_271 => ?_)
          · skip
            first | simp only [bI_0, Decidable.not_not, sg_mul, sg_e0, sg_l0, sg_g0, sg_le0, sg_ge0, cmp_eq, cmp_lt, cmp_ge, cmp_gt, cmp_le, lT0, lT1] at c_271 | simp only [Int32.le_iff_toInt_le, Int32.lt_iff_toInt_lt, ← Int32.toInt_inj, iT0, iT1, iT2, iT3, iT4, iT5, iT6, iT7, iT8, iT9, iT10, iT11, iT12, iT13, iT14, iT15, iT16, iT19, iT20, iT31, iT32, iT42, iT64, iT200, iT318, iT319, iT1000, iTm1, iTm2] at c_271 | skip
            have hnz := c_271
            refine j_aload_n X dX11_crossArcs_276 rfl 3 rfl ?_
            refine j_iload_n X dX11_crossArcs_277 rfl 4 rfl ?_
            refine j_iload X dX11_crossArcs_278 0 rfl ?_
            refine j_callV X dX11_crossArcs_280 (c_X11_isOfArc_n l G q t n co cr 0 x_166 x_1 y_159 y_165 y_149 y_151 y_168 y_169 y_170 y_171 y_172 y_137 y_173 y_174 v_126 y_175 v_128 y_176 sf_167 hS_sf_167 f1 f2 fr to1 a bca hfa hta ga (bd_mono by_159 (by decide)) (bd_mono by_165 (by decide)) (bd_mono by_149 (by decide)) (bd_mono by_151 (by decide)) c_175 (bd_mono bx_166 (by decide)) (bd_mono bx_1 (by decide))) gX11_crossArcs_X11_isOfArc rfl hy_X11_isOfArc_V ⟨Nat.le_of_ble_eq_true rfl, Nat.le_of_ble_eq_true rfl⟩ 0 rfl rfl [0, 1, 2, 5, 6, 7, 8] rfl (by decide) rfl rfl (Nat.le_of_ble_eq_true rfl) ⟨Nat.le_of_ble_eq_true rfl, Nat.le_of_ble_eq_true rfl⟩ ?_
            rintro _ ⟨y_178, y_179, y_180, y_181, y_182, y_183, y_184, y_185, y_186, sf_177⟩ ⟨rfl, hS_sf_177⟩
            dsimp only at hS_sf_177
            change J p l e rm_X11_crossArcs s m args below meth c Q G A 8 0 0 283 [(7, .int (-1)), (5, .long x_2), (3, .long x_1), (0, .ref (q 0)), (1, .int (nI a)), (2, .int (nI b))] [.int (bI (ofA (f1 a).toInt (f2 a).toInt (fr a).toInt (to1 a).toInt y_159 y_165 y_149 y_151 (-x_166.toInt) (-x_1.toInt)))] [(q 0, .inr (10, mF t n q co cr 0 x_166 x_1)), (q 2, aJ G 200 f1), (q 3, aJ G 200 f2), (q 4, aJ G 200 f3), (q 5, aJ G 200 f4), (q 6, aI G 200 fr), (q 7, aI G 200 to1), (q 10, aI G 320 (rg [y_159, y_165, y_149, y_151, y_178, y_179, y_180, y_181, y_182, y_137, y_183, y_184, v_126, y_185, v_128, y_186])), (q 11, aZ G 16 sf_177), (q 12, aI G 2 sig)]
            refine j_if_eq (tgt := 302) X dX11_crossArcs_283 (by decide) (fun c_283 => ?_) (fun c_283 => ?_)
            · skip
              first | simp only [bI_0, Decidable.not_not, sg_mul, sg_e0, sg_l0, sg_g0, sg_le0, sg_ge0, cmp_eq, cmp_lt, cmp_ge, cmp_gt, cmp_le, lT0, lT1] at c_283 | simp only [Int32.le_iff_toInt_le, Int32.lt_iff_toInt_lt, ← Int32.toInt_inj, iT0, iT1, iT2, iT3, iT4, iT5, iT6, iT7, iT8, iT9, iT10, iT11, iT12, iT13, iT14, iT15, iT16, iT19, iT20, iT31, iT32, iT42, iT64, iT200, iT318, iT319, iT1000, iTm1, iTm2] at c_283 | skip
              rw [hU, hV, hR, hL, hT, tx_1] at c_283
              have hn : ¬ aaP (f1 a).toInt (f2 a).toInt (f1 b).toInt (f2 b).toInt (f3 a).toInt (f3 b).toInt (fr a).toInt (to1 a).toInt (fr b).toInt (to1 b).toInt (-1) := fun h => c_283 (by have h3 := h.1; rw [Int.neg_one_mul, Int.neg_one_mul] at h3; exact h3)
              refine j_iinc (v := (-3)) (L' := [(7, .int (-3)), (5, .long x_2), (3, .long x_1), (0, .ref (q 0)), (1, .int (nI a)), (2, .int (nI b))]) X dX11_crossArcs_302 0 rfl (by decide) (by decide) rfl ?_
              refine j_goto (tgt := 253) X dX11_crossArcs_305 (by decide) ?_
              refine j_iload X dX11_crossArcs_253 0 rfl ?_
              refine j_bipush (v := (-2)) X dX11_crossArcs_255 (by decide) ?_
              refine j_icmp_le (tgt := 308) X dX11_crossArcs_257 (by decide) (fun _ => ?_) (fun c9 => absurd c9 (by decide))
              refine j_iconst (v := 1) X dX11_crossArcs_308 rfl ?_
              exact E.2.1 309 _ 1 (0, sig, x_166, x_1, [y_159, y_165, y_149, y_151, y_178, y_179, y_180, y_181, y_182, y_137, y_183, y_184, v_126, y_185, v_128, y_186], sf_177) _ dX11_crossArcs_309 (Or.inr ⟨_, (by unfold xaa; rw [if_neg hne]), rfl, by unfold xG aaS; rw [cps_00 (fun h => hp h.2) (fun h => hn h.2)]; exact ⟨rfl, sgL_0 _, fun h => absurd rfl h⟩, rfl, hS_sf_177⟩) hr rfl
            · skip
              first | simp only [bI_0, Decidable.not_not, sg_mul, sg_e0, sg_l0, sg_g0, sg_le0, sg_ge0, cmp_eq, cmp_lt, cmp_ge, cmp_gt, cmp_le, lT0, lT1] at c_283 | simp only [Int32.le_iff_toInt_le, Int32.lt_iff_toInt_lt, ← Int32.toInt_inj, iT0, iT1, iT2, iT3, iT4, iT5, iT6, iT7, iT8, iT9, iT10, iT11, iT12, iT13, iT14, iT15, iT16, iT19, iT20, iT31, iT32, iT42, iT64, iT200, iT318, iT319, iT1000, iTm1, iTm2] at c_283 | skip
              rw [hU, hV, hR, hL, hT, tx_1] at c_283
              have ion := c_283
              refine j_aload_n X dX11_crossArcs_286 rfl 3 rfl ?_
              refine j_iload_n X dX11_crossArcs_287 rfl 5 rfl ?_
              refine j_iload X dX11_crossArcs_288 0 rfl ?_
              refine j_callV X dX11_crossArcs_290 (c_X11_isOfArc_n l G q t n co cr 0 x_166 x_1 y_159 y_165 y_149 y_151 y_178 y_179 y_180 y_181 y_182 y_137 y_183 y_184 v_126 y_185 v_128 y_186 sf_177 hS_sf_177 f1 f2 fr to1 b bcb hfb htb gb (bd_mono by_159 (by decide)) (bd_mono by_165 (by decide)) (bd_mono by_149 (by decide)) (bd_mono by_151 (by decide)) c_175 (bd_mono bx_166 (by decide)) (bd_mono bx_1 (by decide))) gX11_crossArcs_X11_isOfArc rfl hy_X11_isOfArc_V ⟨Nat.le_of_ble_eq_true rfl, Nat.le_of_ble_eq_true rfl⟩ 0 rfl rfl [0, 1, 2, 5, 6, 7, 8] rfl (by decide) rfl rfl (Nat.le_of_ble_eq_true rfl) ⟨Nat.le_of_ble_eq_true rfl, Nat.le_of_ble_eq_true rfl⟩ ?_
              rintro _ ⟨y_188, y_189, y_190, y_191, y_192, y_193, y_194, y_195, y_196, sf_187⟩ ⟨rfl, hS_sf_187⟩
              dsimp only at hS_sf_187
              change J p l e rm_X11_crossArcs s m args below meth c Q G A 8 0 0 293 [(7, .int (-1)), (5, .long x_2), (3, .long x_1), (0, .ref (q 0)), (1, .int (nI a)), (2, .int (nI b))] [.int (bI (ofA (f1 b).toInt (f2 b).toInt (fr b).toInt (to1 b).toInt y_159 y_165 y_149 y_151 (-x_166.toInt) (-x_1.toInt)))] [(q 0, .inr (10, mF t n q co cr 0 x_166 x_1)), (q 2, aJ G 200 f1), (q 3, aJ G 200 f2), (q 4, aJ G 200 f3), (q 5, aJ G 200 f4), (q 6, aI G 200 fr), (q 7, aI G 200 to1), (q 10, aI G 320 (rg [y_159, y_165, y_149, y_151, y_188, y_189, y_190, y_191, y_192, y_137, y_193, y_194, v_126, y_195, v_128, y_196])), (q 11, aZ G 16 sf_187), (q 12, aI G 2 sig)]
              refine j_if_eq (tgt := 302) X dX11_crossArcs_293 (by decide) (fun c_293 => ?_) (fun c_293 => ?_)
              · skip
                first | simp only [bI_0, Decidable.not_not, sg_mul, sg_e0, sg_l0, sg_g0, sg_le0, sg_ge0, cmp_eq, cmp_lt, cmp_ge, cmp_gt, cmp_le, lT0, lT1] at c_293 | simp only [Int32.le_iff_toInt_le, Int32.lt_iff_toInt_lt, ← Int32.toInt_inj, iT0, iT1, iT2, iT3, iT4, iT5, iT6, iT7, iT8, iT9, iT10, iT11, iT12, iT13, iT14, iT15, iT16, iT19, iT20, iT31, iT32, iT42, iT64, iT200, iT318, iT319, iT1000, iTm1, iTm2] at c_293 | skip
                rw [hU, hV, hR, hL, hT, tx_1] at c_293
                have hn : ¬ aaP (f1 a).toInt (f2 a).toInt (f1 b).toInt (f2 b).toInt (f3 a).toInt (f3 b).toInt (fr a).toInt (to1 a).toInt (fr b).toInt (to1 b).toInt (-1) := fun h => c_293 (by have h3 := h.2; rw [Int.neg_one_mul, Int.neg_one_mul] at h3; exact h3)
                refine j_iinc (v := (-3)) (L' := [(7, .int (-3)), (5, .long x_2), (3, .long x_1), (0, .ref (q 0)), (1, .int (nI a)), (2, .int (nI b))]) X dX11_crossArcs_302 0 rfl (by decide) (by decide) rfl ?_
                refine j_goto (tgt := 253) X dX11_crossArcs_305 (by decide) ?_
                refine j_iload X dX11_crossArcs_253 0 rfl ?_
                refine j_bipush (v := (-2)) X dX11_crossArcs_255 (by decide) ?_
                refine j_icmp_le (tgt := 308) X dX11_crossArcs_257 (by decide) (fun _ => ?_) (fun c9 => absurd c9 (by decide))
                refine j_iconst (v := 1) X dX11_crossArcs_308 rfl ?_
                exact E.2.1 309 _ 1 (0, sig, x_166, x_1, [y_159, y_165, y_149, y_151, y_188, y_189, y_190, y_191, y_192, y_137, y_193, y_194, v_126, y_195, v_128, y_196], sf_187) _ dX11_crossArcs_309 (Or.inr ⟨_, (by unfold xaa; rw [if_neg hne]), rfl, by unfold xG aaS; rw [cps_00 (fun h => hp h.2) (fun h => hn h.2)]; exact ⟨rfl, sgL_0 _, fun h => absurd rfl h⟩, rfl, hS_sf_187⟩) hr rfl
              · skip
                first | simp only [bI_0, Decidable.not_not, sg_mul, sg_e0, sg_l0, sg_g0, sg_le0, sg_ge0, cmp_eq, cmp_lt, cmp_ge, cmp_gt, cmp_le, lT0, lT1] at c_293 | simp only [Int32.le_iff_toInt_le, Int32.lt_iff_toInt_lt, ← Int32.toInt_inj, iT0, iT1, iT2, iT3, iT4, iT5, iT6, iT7, iT8, iT9, iT10, iT11, iT12, iT13, iT14, iT15, iT16, iT19, iT20, iT31, iT32, iT42, iT64, iT200, iT318, iT319, iT1000, iTm1, iTm2] at c_293 | skip
                rw [hU, hV, hR, hL, hT, tx_1] at c_293
                have hn : aaP (f1 a).toInt (f2 a).toInt (f1 b).toInt (f2 b).toInt (f3 a).toInt (f3 b).toInt (fr a).toInt (to1 a).toInt (fr b).toInt (to1 b).toInt (-1) := ⟨by rw [Int.neg_one_mul, Int.neg_one_mul]; exact ion, by rw [Int.neg_one_mul, Int.neg_one_mul]; exact c_293⟩
                refine j_aload_n X dX11_crossArcs_296 rfl 3 rfl ?_
                refine j_iload X dX11_crossArcs_297 0 rfl ?_
                refine j_callV X dX11_crossArcs_299 (c_X11_pointWith_0 l G q t n co cr x_166 x_1 sig (-1)) gX11_crossArcs_X11_pointWith rfl hy_X11_pointWith_V ⟨Nat.le_of_ble_eq_true rfl, Nat.le_of_ble_eq_true rfl⟩ 0 rfl rfl [0, 9] rfl (by decide) rfl rfl (Nat.le_of_ble_eq_true rfl) ⟨Nat.le_of_ble_eq_true rfl, Nat.le_of_ble_eq_true rfl⟩ ?_
                rintro _ ⟨⟩ rfl
                change J p l e rm_X11_crossArcs s m args below meth c Q G A 8 0 0 302 [(7, .int (-1)), (5, .long x_2), (3, .long x_1), (0, .ref (q 0)), (1, .int (nI a)), (2, .int (nI b))] [] [(q 0, .inr (10, mF t n q co cr 1 x_166 x_1)), (q 2, aJ G 200 f1), (q 3, aJ G 200 f2), (q 4, aJ G 200 f3), (q 5, aJ G 200 f4), (q 6, aI G 200 fr), (q 7, aI G 200 to1), (q 10, aI G 320 (rg [y_159, y_165, y_149, y_151, y_188, y_189, y_190, y_191, y_192, y_137, y_193, y_194, v_126, y_195, v_128, y_196])), (q 11, aZ G 16 sf_187), (q 12, aI G 2 (upd sig 0 (-1)))]
                refine j_iinc (v := (-3)) (L' := [(7, .int (-3)), (5, .long x_2), (3, .long x_1), (0, .ref (q 0)), (1, .int (nI a)), (2, .int (nI b))]) X dX11_crossArcs_302 0 rfl (by decide) (by decide) rfl ?_
                refine j_goto (tgt := 253) X dX11_crossArcs_305 (by decide) ?_
                refine j_iload X dX11_crossArcs_253 0 rfl ?_
                refine j_bipush (v := (-2)) X dX11_crossArcs_255 (by decide) ?_
                refine j_icmp_le (tgt := 308) X dX11_crossArcs_257 (by decide) (fun _ => ?_) (fun c9 => absurd c9 (by decide))
                refine j_iconst (v := 1) X dX11_crossArcs_308 rfl ?_
                exact E.2.1 309 _ 1 (1, upd sig 0 (-1), x_166, x_1, [y_159, y_165, y_149, y_151, y_188, y_189, y_190, y_191, y_192, y_137, y_193, y_194, v_126, y_195, v_128, y_196], sf_187) _ dX11_crossArcs_309 (Or.inr ⟨_, (by unfold xaa; rw [if_neg hne]), rfl, by unfold xG aaS; rw [cps_01 (fun h => hp h.2) ⟨by rw [← hR]; omega, hn⟩]; exact ⟨rfl, sgL_1 _ _, fun _ => ⟨⟨hU, hV, hR, hL⟩, hT, tx_1⟩⟩, rfl, hS_sf_187⟩) hr rfl
          · skip
            first | simp only [bI_0, Decidable.not_not, sg_mul, sg_e0, sg_l0, sg_g0, sg_le0, sg_ge0, cmp_eq, cmp_lt, cmp_ge, cmp_gt, cmp_le, lT0, lT1] at c_271 | simp only [Int32.le_iff_toInt_le, Int32.lt_iff_toInt_lt, ← Int32.toInt_inj, iT0, iT1, iT2, iT3, iT4, iT5, iT6, iT7, iT8, iT9, iT10, iT11, iT12, iT13, iT14, iT15, iT16, iT19, iT20, iT31, iT32, iT42, iT64, iT200, iT318, iT319, iT1000, iTm1, iTm2] at c_271 | skip
            have hz := c_271
            refine j_iconst (v := 1) X dX11_crossArcs_274 rfl ?_
            exact E.2.1 275 _ 1 (0, sig, x_166, x_1, [y_159, y_165, y_149, y_151, y_168, y_169, y_170, y_171, y_172, y_137, y_173, y_174, v_126, y_175, v_128, y_176], sf_167) _ dX11_crossArcs_275 (Or.inr ⟨_, (by unfold xaa; rw [if_neg hne]), rfl, by unfold xG aaS; rw [cps_00 (fun h => hp h.2) (fun h => absurd h.1 (by rw [← hR, hz]; decide))]; exact ⟨rfl, sgL_0 _, fun h => absurd rfl h⟩, rfl, hS_sf_167⟩) hr rfl
        · skip
          first | simp only [bI_0, Decidable.not_not, sg_mul, sg_e0, sg_l0, sg_g0, sg_le0, sg_ge0, cmp_eq, cmp_lt, cmp_ge, cmp_gt, cmp_le, lT0, lT1] at c_283 | simp only [Int32.le_iff_toInt_le, Int32.lt_iff_toInt_lt, ← Int32.toInt_inj, iT0, iT1, iT2, iT3, iT4, iT5, iT6, iT7, iT8, iT9, iT10, iT11, iT12, iT13, iT14, iT15, iT16, iT19, iT20, iT31, iT32, iT42, iT64, iT200, iT318, iT319, iT1000, iTm1, iTm2] at c_283 | skip
          rw [hU, hV, hR, hL, hT, tx_1] at c_283
          have iop := c_283
          refine j_aload_n X dX11_crossArcs_286 rfl 3 rfl ?_
          refine j_iload_n X dX11_crossArcs_287 rfl 5 rfl ?_
          refine j_iload X dX11_crossArcs_288 0 rfl ?_
          refine j_callV X dX11_crossArcs_290 (c_X11_isOfArc_p l G q t n co cr 0 x_166 x_1 y_159 y_165 y_149 y_151 y_168 y_169 y_170 y_171 y_172 y_137 y_173 y_174 v_126 y_175 v_128 y_176 sf_167 hS_sf_167 f1 f2 fr to1 b bcb hfb htb gb (bd_mono by_159 (by decide)) (bd_mono by_165 (by decide)) (bd_mono by_149 (by decide)) (bd_mono by_151 (by decide)) c_175 (bd_mono bx_166 (by decide)) (bd_mono bx_1 (by decide))) gX11_crossArcs_X11_isOfArc rfl hy_X11_isOfArc_V ⟨Nat.le_of_ble_eq_true rfl, Nat.le_of_ble_eq_true rfl⟩ 0 rfl rfl [0, 1, 2, 5, 6, 7, 8] rfl (by decide) rfl rfl (Nat.le_of_ble_eq_true rfl) ⟨Nat.le_of_ble_eq_true rfl, Nat.le_of_ble_eq_true rfl⟩ ?_
          rintro _ ⟨y_198, y_199, y_200, y_201, y_202, y_203, y_204, y_205, y_206, sf_197⟩ ⟨rfl, hS_sf_197⟩
          dsimp only at hS_sf_197
          change J p l e rm_X11_crossArcs s m args below meth c Q G A 8 0 0 293 [(7, .int 1), (5, .long x_2), (3, .long x_1), (0, .ref (q 0)), (1, .int (nI a)), (2, .int (nI b))] [.int (bI (ofA (f1 b).toInt (f2 b).toInt (fr b).toInt (to1 b).toInt y_159 y_165 y_149 y_151 x_166.toInt x_1.toInt))] [(q 0, .inr (10, mF t n q co cr 0 x_166 x_1)), (q 2, aJ G 200 f1), (q 3, aJ G 200 f2), (q 4, aJ G 200 f3), (q 5, aJ G 200 f4), (q 6, aI G 200 fr), (q 7, aI G 200 to1), (q 10, aI G 320 (rg [y_159, y_165, y_149, y_151, y_198, y_199, y_200, y_201, y_202, y_137, y_203, y_204, v_126, y_205, v_128, y_206])), (q 11, aZ G 16 sf_197), (q 12, aI G 2 sig)]
          refine j_if_eq (tgt := 302) X dX11_crossArcs_293 (by decide) (fun c_293 => ?_) (fun c_293 => ?_)
          · skip
            first | simp only [bI_0, Decidable.not_not, sg_mul, sg_e0, sg_l0, sg_g0, sg_le0, sg_ge0, cmp_eq, cmp_lt, cmp_ge, cmp_gt, cmp_le, lT0, lT1] at c_293 | simp only [Int32.le_iff_toInt_le, Int32.lt_iff_toInt_lt, ← Int32.toInt_inj, iT0, iT1, iT2, iT3, iT4, iT5, iT6, iT7, iT8, iT9, iT10, iT11, iT12, iT13, iT14, iT15, iT16, iT19, iT20, iT31, iT32, iT42, iT64, iT200, iT318, iT319, iT1000, iTm1, iTm2] at c_293 | skip
            rw [hU, hV, hR, hL, hT, tx_1] at c_293
            have hp : ¬ aaP (f1 a).toInt (f2 a).toInt (f1 b).toInt (f2 b).toInt (f3 a).toInt (f3 b).toInt (fr a).toInt (to1 a).toInt (fr b).toInt (to1 b).toInt (1) := fun h => c_293 (by have h3 := h.2; rw [Int.one_mul, Int.one_mul] at h3; exact h3)
            refine j_iinc (v := (-1)) (L' := [(7, .int (-1)), (5, .long x_2), (3, .long x_1), (0, .ref (q 0)), (1, .int (nI a)), (2, .int (nI b))]) X dX11_crossArcs_302 0 rfl (by decide) (by decide) rfl ?_
            refine j_goto (tgt := 253) X dX11_crossArcs_305 (by decide) ?_
            refine j_iload X dX11_crossArcs_253 0 rfl ?_
            refine j_bipush (v := (-2)) X dX11_crossArcs_255 (by decide) ?_
            refine j_icmp_le (tgt := 308) X dX11_crossArcs_257 (by decide) (fun c9 => absurd c9 (by decide)) (fun _ => ?_)
            refine j_iload X dX11_crossArcs_260 0 rfl ?_
            refine j_iconst (v := (-1)) X dX11_crossArcs_262 rfl ?_
            refine j_icmp_ne (tgt := 276) X dX11_crossArcs_263 (by decide) (fun c9 => absurd c9 (by decide)) (fun _ => ?_)
            refine j_aload_n X dX11_crossArcs_266 rfl 3 rfl ?_
            refine j_iconst (v := 2) X dX11_crossArcs_267 rfl ?_
            refine j_callV X dX11_crossArcs_268 (c_X11_sign l G q t n co cr 0 x_166 x_1 [y_159, y_165, y_149, y_151, y_198, y_199, y_200, y_201, y_202, y_137, y_203, y_204, v_126, y_205, v_128, y_206] rfl sf_197 2 2 rfl (by decide) (hS_sf_197 2 (by decide)) (bd_lt by_149 (by decide))) gX11_crossArcs_X11_sign rfl hy_X11_sign_V ⟨Nat.le_of_ble_eq_true rfl, Nat.le_of_ble_eq_true rfl⟩ 0 rfl rfl [0, 7, 8] rfl (by decide) rfl rfl (Nat.le_of_ble_eq_true rfl) ⟨Nat.le_of_ble_eq_true rfl, Nat.le_of_ble_eq_true rfl⟩ ?_
            rintro _ ⟨⟩ rfl
            change J p l e rm_X11_crossArcs s m args below meth c Q G A 8 0 0 271 [(7, .int (-1)), (5, .long x_2), (3, .long x_1), (0, .ref (q 0)), (1, .int (nI a)), (2, .int (nI b))] [.int (sg y_149)] [(q 0, .inr (10, mF t n q co cr 0 x_166 x_1)), (q 2, aJ G 200 f1), (q 3, aJ G 200 f2), (q 4, aJ G 200 f3), (q 5, aJ G 200 f4), (q 6, aI G 200 fr), (q 7, aI G 200 to1), (q 10, aI G 320 (rg [y_159, y_165, y_149, y_151, y_198, y_199, y_200, y_201, y_202, y_137, y_203, y_204, v_126, y_205, v_128, y_206])), (q 11, aZ G 16 sf_197), (q 12, aI G 2 sig)]
            refine j_if_ne (tgt := 276) X dX11_crossArcs_271 (by decide) (fun c_271 => ?_) (fun c_271 => ?_)
            · skip
              first | simp only [bI_0, Decidable.not_not, sg_mul, sg_e0, sg_l0, sg_g0, sg_le0, sg_ge0, cmp_eq, cmp_lt, cmp_ge, cmp_gt, cmp_le, lT0, lT1] at c_271 | simp only [Int32.le_iff_toInt_le, Int32.lt_iff_toInt_lt, ← Int32.toInt_inj, iT0, iT1, iT2, iT3, iT4, iT5, iT6, iT7, iT8, iT9, iT10, iT11, iT12, iT13, iT14, iT15, iT16, iT19, iT20, iT31, iT32, iT42, iT64, iT200, iT318, iT319, iT1000, iTm1, iTm2] at c_271 | skip
              have hnz := c_271
              refine j_aload_n X dX11_crossArcs_276 rfl 3 rfl ?_
              refine j_iload_n X dX11_crossArcs_277 rfl 4 rfl ?_
              refine j_iload X dX11_crossArcs_278 0 rfl ?_
              refine j_callV X dX11_crossArcs_280 (c_X11_isOfArc_n l G q t n co cr 0 x_166 x_1 y_159 y_165 y_149 y_151 y_198 y_199 y_200 y_201 y_202 y_137 y_203 y_204 v_126 y_205 v_128 y_206 sf_197 hS_sf_197 f1 f2 fr to1 a bca hfa hta ga (bd_mono by_159 (by decide)) (bd_mono by_165 (by decide)) (bd_mono by_149 (by decide)) (bd_mono by_151 (by decide)) c_175 (bd_mono bx_166 (by decide)) (bd_mono bx_1 (by decide))) gX11_crossArcs_X11_isOfArc rfl hy_X11_isOfArc_V ⟨Nat.le_of_ble_eq_true rfl, Nat.le_of_ble_eq_true rfl⟩ 0 rfl rfl [0, 1, 2, 5, 6, 7, 8] rfl (by decide) rfl rfl (Nat.le_of_ble_eq_true rfl) ⟨Nat.le_of_ble_eq_true rfl, Nat.le_of_ble_eq_true rfl⟩ ?_
              rintro _ ⟨y_208, y_209, y_210, y_211, y_212, y_213, y_214, y_215, y_216, sf_207⟩ ⟨rfl, hS_sf_207⟩
              dsimp only at hS_sf_207
              change J p l e rm_X11_crossArcs s m args below meth c Q G A 8 0 0 283 [(7, .int (-1)), (5, .long x_2), (3, .long x_1), (0, .ref (q 0)), (1, .int (nI a)), (2, .int (nI b))] [.int (bI (ofA (f1 a).toInt (f2 a).toInt (fr a).toInt (to1 a).toInt y_159 y_165 y_149 y_151 (-x_166.toInt) (-x_1.toInt)))] [(q 0, .inr (10, mF t n q co cr 0 x_166 x_1)), (q 2, aJ G 200 f1), (q 3, aJ G 200 f2), (q 4, aJ G 200 f3), (q 5, aJ G 200 f4), (q 6, aI G 200 fr), (q 7, aI G 200 to1), (q 10, aI G 320 (rg [y_159, y_165, y_149, y_151, y_208, y_209, y_210, y_211, y_212, y_137, y_213, y_214, v_126, y_215, v_128, y_216])), (q 11, aZ G 16 sf_207), (q 12, aI G 2 sig)]
              refine j_if_eq (tgt := 302) X dX11_crossArcs_283 (by decide) (fun c_283 => ?_) (fun c_283 => ?_)
              · skip
                first | simp only [bI_0, Decidable.not_not, sg_mul, sg_e0, sg_l0, sg_g0, sg_le0, sg_ge0, cmp_eq, cmp_lt, cmp_ge, cmp_gt, cmp_le, lT0, lT1] at c_283 | simp only [Int32.le_iff_toInt_le, Int32.lt_iff_toInt_lt, ← Int32.toInt_inj, iT0, iT1, iT2, iT3, iT4, iT5, iT6, iT7, iT8, iT9, iT10, iT11, iT12, iT13, iT14, iT15, iT16, iT19, iT20, iT31, iT32, iT42, iT64, iT200, iT318, iT319, iT1000, iTm1, iTm2] at c_283 | skip
                rw [hU, hV, hR, hL, hT, tx_1] at c_283
                have hn : ¬ aaP (f1 a).toInt (f2 a).toInt (f1 b).toInt (f2 b).toInt (f3 a).toInt (f3 b).toInt (fr a).toInt (to1 a).toInt (fr b).toInt (to1 b).toInt (-1) := fun h => c_283 (by have h3 := h.1; rw [Int.neg_one_mul, Int.neg_one_mul] at h3; exact h3)
                refine j_iinc (v := (-3)) (L' := [(7, .int (-3)), (5, .long x_2), (3, .long x_1), (0, .ref (q 0)), (1, .int (nI a)), (2, .int (nI b))]) X dX11_crossArcs_302 0 rfl (by decide) (by decide) rfl ?_
                refine j_goto (tgt := 253) X dX11_crossArcs_305 (by decide) ?_
                refine j_iload X dX11_crossArcs_253 0 rfl ?_
                refine j_bipush (v := (-2)) X dX11_crossArcs_255 (by decide) ?_
                refine j_icmp_le (tgt := 308) X dX11_crossArcs_257 (by decide) (fun _ => ?_) (fun c9 => absurd c9 (by decide))
                refine j_iconst (v := 1) X dX11_crossArcs_308 rfl ?_
                exact E.2.1 309 _ 1 (0, sig, x_166, x_1, [y_159, y_165, y_149, y_151, y_208, y_209, y_210, y_211, y_212, y_137, y_213, y_214, v_126, y_215, v_128, y_216], sf_207) _ dX11_crossArcs_309 (Or.inr ⟨_, (by unfold xaa; rw [if_neg hne]), rfl, by unfold xG aaS; rw [cps_00 (fun h => hp h.2) (fun h => hn h.2)]; exact ⟨rfl, sgL_0 _, fun h => absurd rfl h⟩, rfl, hS_sf_207⟩) hr rfl
              · skip
                first | simp only [bI_0, Decidable.not_not, sg_mul, sg_e0, sg_l0, sg_g0, sg_le0, sg_ge0, cmp_eq, cmp_lt, cmp_ge, cmp_gt, cmp_le, lT0, lT1] at c_283 | simp only [Int32.le_iff_toInt_le, Int32.lt_iff_toInt_lt, ← Int32.toInt_inj, iT0, iT1, iT2, iT3, iT4, iT5, iT6, iT7, iT8, iT9, iT10, iT11, iT12, iT13, iT14, iT15, iT16, iT19, iT20, iT31, iT32, iT42, iT64, iT200, iT318, iT319, iT1000, iTm1, iTm2] at c_283 | skip
                rw [hU, hV, hR, hL, hT, tx_1] at c_283
                have ion := c_283
                refine j_aload_n X dX11_crossArcs_286 rfl 3 rfl ?_
                refine j_iload_n X dX11_crossArcs_287 rfl 5 rfl ?_
                refine j_iload X dX11_crossArcs_288 0 rfl ?_
                refine j_callV X dX11_crossArcs_290 (c_X11_isOfArc_n l G q t n co cr 0 x_166 x_1 y_159 y_165 y_149 y_151 y_208 y_209 y_210 y_211 y_212 y_137 y_213 y_214 v_126 y_215 v_128 y_216 sf_207 hS_sf_207 f1 f2 fr to1 b bcb hfb htb gb (bd_mono by_159 (by decide)) (bd_mono by_165 (by decide)) (bd_mono by_149 (by decide)) (bd_mono by_151 (by decide)) c_175 (bd_mono bx_166 (by decide)) (bd_mono bx_1 (by decide))) gX11_crossArcs_X11_isOfArc rfl hy_X11_isOfArc_V ⟨Nat.le_of_ble_eq_true rfl, Nat.le_of_ble_eq_true rfl⟩ 0 rfl rfl [0, 1, 2, 5, 6, 7, 8] rfl (by decide) rfl rfl (Nat.le_of_ble_eq_true rfl) ⟨Nat.le_of_ble_eq_true rfl, Nat.le_of_ble_eq_true rfl⟩ ?_
                rintro _ ⟨y_218, y_219, y_220, y_221, y_222, y_223, y_224, y_225, y_226, sf_217⟩ ⟨rfl, hS_sf_217⟩
                dsimp only at hS_sf_217
                change J p l e rm_X11_crossArcs s m args below meth c Q G A 8 0 0 293 [(7, .int (-1)), (5, .long x_2), (3, .long x_1), (0, .ref (q 0)), (1, .int (nI a)), (2, .int (nI b))] [.int (bI (ofA (f1 b).toInt (f2 b).toInt (fr b).toInt (to1 b).toInt y_159 y_165 y_149 y_151 (-x_166.toInt) (-x_1.toInt)))] [(q 0, .inr (10, mF t n q co cr 0 x_166 x_1)), (q 2, aJ G 200 f1), (q 3, aJ G 200 f2), (q 4, aJ G 200 f3), (q 5, aJ G 200 f4), (q 6, aI G 200 fr), (q 7, aI G 200 to1), (q 10, aI G 320 (rg [y_159, y_165, y_149, y_151, y_218, y_219, y_220, y_221, y_222, y_137, y_223, y_224, v_126, y_225, v_128, y_226])), (q 11, aZ G 16 sf_217), (q 12, aI G 2 sig)]
                refine j_if_eq (tgt := 302) X dX11_crossArcs_293 (by decide) (fun c_293 => ?_) (fun c_293 => ?_)
                · skip
                  first | simp only [bI_0, Decidable.not_not, sg_mul, sg_e0, sg_l0, sg_g0, sg_le0, sg_ge0, cmp_eq, cmp_lt, cmp_ge, cmp_gt, cmp_le, lT0, lT1] at c_293 | simp only [Int32.le_iff_toInt_le, Int32.lt_iff_toInt_lt, ← Int32.toInt_inj, iT0, iT1, iT2, iT3, iT4, iT5, iT6, iT7, iT8, iT9, iT10, iT11, iT12, iT13, iT14, iT15, iT16, iT19, iT20, iT31, iT32, iT42, iT64, iT200, iT318, iT319, iT1000, iTm1, iTm2] at c_293 | skip
                  rw [hU, hV, hR, hL, hT, tx_1] at c_293
                  have hn : ¬ aaP (f1 a).toInt (f2 a).toInt (f1 b).toInt (f2 b).toInt (f3 a).toInt (f3 b).toInt (fr a).toInt (to1 a).toInt (fr b).toInt (to1 b).toInt (-1) := fun h => c_293 (by have h3 := h.2; rw [Int.neg_one_mul, Int.neg_one_mul] at h3; exact h3)
                  refine j_iinc (v := (-3)) (L' := [(7, .int (-3)), (5, .long x_2), (3, .long x_1), (0, .ref (q 0)), (1, .int (nI a)), (2, .int (nI b))]) X dX11_crossArcs_302 0 rfl (by decide) (by decide) rfl ?_
                  refine j_goto (tgt := 253) X dX11_crossArcs_305 (by decide) ?_
                  refine j_iload X dX11_crossArcs_253 0 rfl ?_
                  refine j_bipush (v := (-2)) X dX11_crossArcs_255 (by decide) ?_
                  refine j_icmp_le (tgt := 308) X dX11_crossArcs_257 (by decide) (fun _ => ?_) (fun c9 => absurd c9 (by decide))
                  refine j_iconst (v := 1) X dX11_crossArcs_308 rfl ?_
                  exact E.2.1 309 _ 1 (0, sig, x_166, x_1, [y_159, y_165, y_149, y_151, y_218, y_219, y_220, y_221, y_222, y_137, y_223, y_224, v_126, y_225, v_128, y_226], sf_217) _ dX11_crossArcs_309 (Or.inr ⟨_, (by unfold xaa; rw [if_neg hne]), rfl, by unfold xG aaS; rw [cps_00 (fun h => hp h.2) (fun h => hn h.2)]; exact ⟨rfl, sgL_0 _, fun h => absurd rfl h⟩, rfl, hS_sf_217⟩) hr rfl
                · skip
                  first | simp only [bI_0, Decidable.not_not, sg_mul, sg_e0, sg_l0, sg_g0, sg_le0, sg_ge0, cmp_eq, cmp_lt, cmp_ge, cmp_gt, cmp_le, lT0, lT1] at c_293 | simp only [Int32.le_iff_toInt_le, Int32.lt_iff_toInt_lt, ← Int32.toInt_inj, iT0, iT1, iT2, iT3, iT4, iT5, iT6, iT7, iT8, iT9, iT10, iT11, iT12, iT13, iT14, iT15, iT16, iT19, iT20, iT31, iT32, iT42, iT64, iT200, iT318, iT319, iT1000, iTm1, iTm2] at c_293 | skip
                  rw [hU, hV, hR, hL, hT, tx_1] at c_293
                  have hn : aaP (f1 a).toInt (f2 a).toInt (f1 b).toInt (f2 b).toInt (f3 a).toInt (f3 b).toInt (fr a).toInt (to1 a).toInt (fr b).toInt (to1 b).toInt (-1) := ⟨by rw [Int.neg_one_mul, Int.neg_one_mul]; exact ion, by rw [Int.neg_one_mul, Int.neg_one_mul]; exact c_293⟩
                  refine j_aload_n X dX11_crossArcs_296 rfl 3 rfl ?_
                  refine j_iload X dX11_crossArcs_297 0 rfl ?_
                  refine j_callV X dX11_crossArcs_299 (c_X11_pointWith_0 l G q t n co cr x_166 x_1 sig (-1)) gX11_crossArcs_X11_pointWith rfl hy_X11_pointWith_V ⟨Nat.le_of_ble_eq_true rfl, Nat.le_of_ble_eq_true rfl⟩ 0 rfl rfl [0, 9] rfl (by decide) rfl rfl (Nat.le_of_ble_eq_true rfl) ⟨Nat.le_of_ble_eq_true rfl, Nat.le_of_ble_eq_true rfl⟩ ?_
                  rintro _ ⟨⟩ rfl
                  change J p l e rm_X11_crossArcs s m args below meth c Q G A 8 0 0 302 [(7, .int (-1)), (5, .long x_2), (3, .long x_1), (0, .ref (q 0)), (1, .int (nI a)), (2, .int (nI b))] [] [(q 0, .inr (10, mF t n q co cr 1 x_166 x_1)), (q 2, aJ G 200 f1), (q 3, aJ G 200 f2), (q 4, aJ G 200 f3), (q 5, aJ G 200 f4), (q 6, aI G 200 fr), (q 7, aI G 200 to1), (q 10, aI G 320 (rg [y_159, y_165, y_149, y_151, y_218, y_219, y_220, y_221, y_222, y_137, y_223, y_224, v_126, y_225, v_128, y_226])), (q 11, aZ G 16 sf_217), (q 12, aI G 2 (upd sig 0 (-1)))]
                  refine j_iinc (v := (-3)) (L' := [(7, .int (-3)), (5, .long x_2), (3, .long x_1), (0, .ref (q 0)), (1, .int (nI a)), (2, .int (nI b))]) X dX11_crossArcs_302 0 rfl (by decide) (by decide) rfl ?_
                  refine j_goto (tgt := 253) X dX11_crossArcs_305 (by decide) ?_
                  refine j_iload X dX11_crossArcs_253 0 rfl ?_
                  refine j_bipush (v := (-2)) X dX11_crossArcs_255 (by decide) ?_
                  refine j_icmp_le (tgt := 308) X dX11_crossArcs_257 (by decide) (fun _ => ?_) (fun c9 => absurd c9 (by decide))
                  refine j_iconst (v := 1) X dX11_crossArcs_308 rfl ?_
                  exact E.2.1 309 _ 1 (1, upd sig 0 (-1), x_166, x_1, [y_159, y_165, y_149, y_151, y_218, y_219, y_220, y_221, y_222, y_137, y_223, y_224, v_126, y_225, v_128, y_226], sf_217) _ dX11_crossArcs_309 (Or.inr ⟨_, (by unfold xaa; rw [if_neg hne]), rfl, by unfold xG aaS; rw [cps_01 (fun h => hp h.2) ⟨by rw [← hR]; omega, hn⟩]; exact ⟨rfl, sgL_1 _ _, fun _ => ⟨⟨hU, hV, hR, hL⟩, hT, tx_1⟩⟩, rfl, hS_sf_217⟩) hr rfl
            · skip
              first | simp only [bI_0, Decidable.not_not, sg_mul, sg_e0, sg_l0, sg_g0, sg_le0, sg_ge0, cmp_eq, cmp_lt, cmp_ge, cmp_gt, cmp_le, lT0, lT1] at c_271 | simp only [Int32.le_iff_toInt_le, Int32.lt_iff_toInt_lt, ← Int32.toInt_inj, iT0, iT1, iT2, iT3, iT4, iT5, iT6, iT7, iT8, iT9, iT10, iT11, iT12, iT13, iT14, iT15, iT16, iT19, iT20, iT31, iT32, iT42, iT64, iT200, iT318, iT319, iT1000, iTm1, iTm2] at c_271 | skip
              have hz := c_271
              refine j_iconst (v := 1) X dX11_crossArcs_274 rfl ?_
              exact E.2.1 275 _ 1 (0, sig, x_166, x_1, [y_159, y_165, y_149, y_151, y_198, y_199, y_200, y_201, y_202, y_137, y_203, y_204, v_126, y_205, v_128, y_206], sf_197) _ dX11_crossArcs_275 (Or.inr ⟨_, (by unfold xaa; rw [if_neg hne]), rfl, by unfold xG aaS; rw [cps_00 (fun h => hp h.2) (fun h => absurd h.1 (by rw [← hR, hz]; decide))]; exact ⟨rfl, sgL_0 _, fun h => absurd rfl h⟩, rfl, hS_sf_197⟩) hr rfl
          · skip
            first | simp only [bI_0, Decidable.not_not, sg_mul, sg_e0, sg_l0, sg_g0, sg_le0, sg_ge0, cmp_eq, cmp_lt, cmp_ge, cmp_gt, cmp_le, lT0, lT1] at c_293 | simp only [Int32.le_iff_toInt_le, Int32.lt_iff_toInt_lt, ← Int32.toInt_inj, iT0, iT1, iT2, iT3, iT4, iT5, iT6, iT7, iT8, iT9, iT10, iT11, iT12, iT13, iT14, iT15, iT16, iT19, iT20, iT31, iT32, iT42, iT64, iT200, iT318, iT319, iT1000, iTm1, iTm2] at c_293 | skip
            rw [hU, hV, hR, hL, hT, tx_1] at c_293
            have hp : aaP (f1 a).toInt (f2 a).toInt (f1 b).toInt (f2 b).toInt (f3 a).toInt (f3 b).toInt (fr a).toInt (to1 a).toInt (fr b).toInt (to1 b).toInt (1) := ⟨by rw [Int.one_mul, Int.one_mul]; exact iop, by rw [Int.one_mul, Int.one_mul]; exact c_293⟩
            refine j_aload_n X dX11_crossArcs_296 rfl 3 rfl ?_
            refine j_iload X dX11_crossArcs_297 0 rfl ?_
            refine j_callV X dX11_crossArcs_299 (c_X11_pointWith_0 l G q t n co cr x_166 x_1 sig 1) gX11_crossArcs_X11_pointWith rfl hy_X11_pointWith_V ⟨Nat.le_of_ble_eq_true rfl, Nat.le_of_ble_eq_true rfl⟩ 0 rfl rfl [0, 9] rfl (by decide) rfl rfl (Nat.le_of_ble_eq_true rfl) ⟨Nat.le_of_ble_eq_true rfl, Nat.le_of_ble_eq_true rfl⟩ ?_
            rintro _ ⟨⟩ rfl
            change J p l e rm_X11_crossArcs s m args below meth c Q G A 8 0 0 302 [(7, .int 1), (5, .long x_2), (3, .long x_1), (0, .ref (q 0)), (1, .int (nI a)), (2, .int (nI b))] [] [(q 0, .inr (10, mF t n q co cr 1 x_166 x_1)), (q 2, aJ G 200 f1), (q 3, aJ G 200 f2), (q 4, aJ G 200 f3), (q 5, aJ G 200 f4), (q 6, aI G 200 fr), (q 7, aI G 200 to1), (q 10, aI G 320 (rg [y_159, y_165, y_149, y_151, y_198, y_199, y_200, y_201, y_202, y_137, y_203, y_204, v_126, y_205, v_128, y_206])), (q 11, aZ G 16 sf_197), (q 12, aI G 2 (upd sig 0 1))]
            refine j_iinc (v := (-1)) (L' := [(7, .int (-1)), (5, .long x_2), (3, .long x_1), (0, .ref (q 0)), (1, .int (nI a)), (2, .int (nI b))]) X dX11_crossArcs_302 0 rfl (by decide) (by decide) rfl ?_
            refine j_goto (tgt := 253) X dX11_crossArcs_305 (by decide) ?_
            refine j_iload X dX11_crossArcs_253 0 rfl ?_
            refine j_bipush (v := (-2)) X dX11_crossArcs_255 (by decide) ?_
            refine j_icmp_le (tgt := 308) X dX11_crossArcs_257 (by decide) (fun c9 => absurd c9 (by decide)) (fun _ => ?_)
            refine j_iload X dX11_crossArcs_260 0 rfl ?_
            refine j_iconst (v := (-1)) X dX11_crossArcs_262 rfl ?_
            refine j_icmp_ne (tgt := 276) X dX11_crossArcs_263 (by decide) (fun c9 => absurd c9 (by decide)) (fun _ => ?_)
            refine j_aload_n X dX11_crossArcs_266 rfl 3 rfl ?_
            refine j_iconst (v := 2) X dX11_crossArcs_267 rfl ?_
            refine j_callV X dX11_crossArcs_268 (c_X11_sign l G q t n co cr 1 x_166 x_1 [y_159, y_165, y_149, y_151, y_198, y_199, y_200, y_201, y_202, y_137, y_203, y_204, v_126, y_205, v_128, y_206] rfl sf_197 2 2 rfl (by decide) (hS_sf_197 2 (by decide)) (bd_lt by_149 (by decide))) gX11_crossArcs_X11_sign rfl hy_X11_sign_V ⟨Nat.le_of_ble_eq_true rfl, Nat.le_of_ble_eq_true rfl⟩ 0 rfl rfl [0, 7, 8] rfl (by decide) rfl rfl (Nat.le_of_ble_eq_true rfl) ⟨Nat.le_of_ble_eq_true rfl, Nat.le_of_ble_eq_true rfl⟩ ?_
            rintro _ ⟨⟩ rfl
            change J p l e rm_X11_crossArcs s m args below meth c Q G A 8 0 0 271 [(7, .int (-1)), (5, .long x_2), (3, .long x_1), (0, .ref (q 0)), (1, .int (nI a)), (2, .int (nI b))] [.int (sg y_149)] [(q 0, .inr (10, mF t n q co cr 1 x_166 x_1)), (q 2, aJ G 200 f1), (q 3, aJ G 200 f2), (q 4, aJ G 200 f3), (q 5, aJ G 200 f4), (q 6, aI G 200 fr), (q 7, aI G 200 to1), (q 10, aI G 320 (rg [y_159, y_165, y_149, y_151, y_198, y_199, y_200, y_201, y_202, y_137, y_203, y_204, v_126, y_205, v_128, y_206])), (q 11, aZ G 16 sf_197), (q 12, aI G 2 (upd sig 0 1))]
            refine j_if_ne (tgt := 276) X dX11_crossArcs_271 (by decide) (fun c_271 => ?_) (fun c_271 => ?_)
            · skip
              first | simp only [bI_0, Decidable.not_not, sg_mul, sg_e0, sg_l0, sg_g0, sg_le0, sg_ge0, cmp_eq, cmp_lt, cmp_ge, cmp_gt, cmp_le, lT0, lT1] at c_271 | simp only [Int32.le_iff_toInt_le, Int32.lt_iff_toInt_lt, ← Int32.toInt_inj, iT0, iT1, iT2, iT3, iT4, iT5, iT6, iT7, iT8, iT9, iT10, iT11, iT12, iT13, iT14, iT15, iT16, iT19, iT20, iT31, iT32, iT42, iT64, iT200, iT318, iT319, iT1000, iTm1, iTm2] at c_271 | skip
              have hnz := c_271
              refine j_aload_n X dX11_crossArcs_276 rfl 3 rfl ?_
              refine j_iload_n X dX11_crossArcs_277 rfl 4 rfl ?_
              refine j_iload X dX11_crossArcs_278 0 rfl ?_
              refine j_callV X dX11_crossArcs_280 (c_X11_isOfArc_n l G q t n co cr 1 x_166 x_1 y_159 y_165 y_149 y_151 y_198 y_199 y_200 y_201 y_202 y_137 y_203 y_204 v_126 y_205 v_128 y_206 sf_197 hS_sf_197 f1 f2 fr to1 a bca hfa hta ga (bd_mono by_159 (by decide)) (bd_mono by_165 (by decide)) (bd_mono by_149 (by decide)) (bd_mono by_151 (by decide)) c_175 (bd_mono bx_166 (by decide)) (bd_mono bx_1 (by decide))) gX11_crossArcs_X11_isOfArc rfl hy_X11_isOfArc_V ⟨Nat.le_of_ble_eq_true rfl, Nat.le_of_ble_eq_true rfl⟩ 0 rfl rfl [0, 1, 2, 5, 6, 7, 8] rfl (by decide) rfl rfl (Nat.le_of_ble_eq_true rfl) ⟨Nat.le_of_ble_eq_true rfl, Nat.le_of_ble_eq_true rfl⟩ ?_
              rintro _ ⟨y_228, y_229, y_230, y_231, y_232, y_233, y_234, y_235, y_236, sf_227⟩ ⟨rfl, hS_sf_227⟩
              dsimp only at hS_sf_227
              change J p l e rm_X11_crossArcs s m args below meth c Q G A 8 0 0 283 [(7, .int (-1)), (5, .long x_2), (3, .long x_1), (0, .ref (q 0)), (1, .int (nI a)), (2, .int (nI b))] [.int (bI (ofA (f1 a).toInt (f2 a).toInt (fr a).toInt (to1 a).toInt y_159 y_165 y_149 y_151 (-x_166.toInt) (-x_1.toInt)))] [(q 0, .inr (10, mF t n q co cr 1 x_166 x_1)), (q 2, aJ G 200 f1), (q 3, aJ G 200 f2), (q 4, aJ G 200 f3), (q 5, aJ G 200 f4), (q 6, aI G 200 fr), (q 7, aI G 200 to1), (q 10, aI G 320 (rg [y_159, y_165, y_149, y_151, y_228, y_229, y_230, y_231, y_232, y_137, y_233, y_234, v_126, y_235, v_128, y_236])), (q 11, aZ G 16 sf_227), (q 12, aI G 2 (upd sig 0 1))]
              refine j_if_eq (tgt := 302) X dX11_crossArcs_283 (by decide) (fun c_283 => ?_) (fun c_283 => ?_)
              · skip
                first | simp only [bI_0, Decidable.not_not, sg_mul, sg_e0, sg_l0, sg_g0, sg_le0, sg_ge0, cmp_eq, cmp_lt, cmp_ge, cmp_gt, cmp_le, lT0, lT1] at c_283 | simp only [Int32.le_iff_toInt_le, Int32.lt_iff_toInt_lt, ← Int32.toInt_inj, iT0, iT1, iT2, iT3, iT4, iT5, iT6, iT7, iT8, iT9, iT10, iT11, iT12, iT13, iT14, iT15, iT16, iT19, iT20, iT31, iT32, iT42, iT64, iT200, iT318, iT319, iT1000, iTm1, iTm2] at c_283 | skip
                rw [hU, hV, hR, hL, hT, tx_1] at c_283
                have hn : ¬ aaP (f1 a).toInt (f2 a).toInt (f1 b).toInt (f2 b).toInt (f3 a).toInt (f3 b).toInt (fr a).toInt (to1 a).toInt (fr b).toInt (to1 b).toInt (-1) := fun h => c_283 (by have h3 := h.1; rw [Int.neg_one_mul, Int.neg_one_mul] at h3; exact h3)
                refine j_iinc (v := (-3)) (L' := [(7, .int (-3)), (5, .long x_2), (3, .long x_1), (0, .ref (q 0)), (1, .int (nI a)), (2, .int (nI b))]) X dX11_crossArcs_302 0 rfl (by decide) (by decide) rfl ?_
                refine j_goto (tgt := 253) X dX11_crossArcs_305 (by decide) ?_
                refine j_iload X dX11_crossArcs_253 0 rfl ?_
                refine j_bipush (v := (-2)) X dX11_crossArcs_255 (by decide) ?_
                refine j_icmp_le (tgt := 308) X dX11_crossArcs_257 (by decide) (fun _ => ?_) (fun c9 => absurd c9 (by decide))
                refine j_iconst (v := 1) X dX11_crossArcs_308 rfl ?_
                exact E.2.1 309 _ 1 (1, upd sig 0 1, x_166, x_1, [y_159, y_165, y_149, y_151, y_228, y_229, y_230, y_231, y_232, y_137, y_233, y_234, v_126, y_235, v_128, y_236], sf_227) _ dX11_crossArcs_309 (Or.inr ⟨_, (by unfold xaa; rw [if_neg hne]), rfl, by unfold xG aaS; rw [cps_10 ⟨by rw [← hR]; exact c_175, hp⟩ (fun h => hn h.2)]; exact ⟨rfl, sgL_1 _ _, fun _ => ⟨⟨hU, hV, hR, hL⟩, hT, tx_1⟩⟩, rfl, hS_sf_227⟩) hr rfl
              · skip
                first | simp only [bI_0, Decidable.not_not, sg_mul, sg_e0, sg_l0, sg_g0, sg_le0, sg_ge0, cmp_eq, cmp_lt, cmp_ge, cmp_gt, cmp_le, lT0, lT1] at c_283 | simp only [Int32.le_iff_toInt_le, Int32.lt_iff_toInt_lt, ← Int32.toInt_inj, iT0, iT1, iT2, iT3, iT4, iT5, iT6, iT7, iT8, iT9, iT10, iT11, iT12, iT13, iT14, iT15, iT16, iT19, iT20, iT31, iT32, iT42, iT64, iT200, iT318, iT319, iT1000, iTm1, iTm2] at c_283 | skip
                rw [hU, hV, hR, hL, hT, tx_1] at c_283
                have ion := c_283
                refine j_aload_n X dX11_crossArcs_286 rfl 3 rfl ?_
                refine j_iload_n X dX11_crossArcs_287 rfl 5 rfl ?_
                refine j_iload X dX11_crossArcs_288 0 rfl ?_
                refine j_callV X dX11_crossArcs_290 (c_X11_isOfArc_n l G q t n co cr 1 x_166 x_1 y_159 y_165 y_149 y_151 y_228 y_229 y_230 y_231 y_232 y_137 y_233 y_234 v_126 y_235 v_128 y_236 sf_227 hS_sf_227 f1 f2 fr to1 b bcb hfb htb gb (bd_mono by_159 (by decide)) (bd_mono by_165 (by decide)) (bd_mono by_149 (by decide)) (bd_mono by_151 (by decide)) c_175 (bd_mono bx_166 (by decide)) (bd_mono bx_1 (by decide))) gX11_crossArcs_X11_isOfArc rfl hy_X11_isOfArc_V ⟨Nat.le_of_ble_eq_true rfl, Nat.le_of_ble_eq_true rfl⟩ 0 rfl rfl [0, 1, 2, 5, 6, 7, 8] rfl (by decide) rfl rfl (Nat.le_of_ble_eq_true rfl) ⟨Nat.le_of_ble_eq_true rfl, Nat.le_of_ble_eq_true rfl⟩ ?_
                rintro _ ⟨y_238, y_239, y_240, y_241, y_242, y_243, y_244, y_245, y_246, sf_237⟩ ⟨rfl, hS_sf_237⟩
                dsimp only at hS_sf_237
                change J p l e rm_X11_crossArcs s m args below meth c Q G A 8 0 0 293 [(7, .int (-1)), (5, .long x_2), (3, .long x_1), (0, .ref (q 0)), (1, .int (nI a)), (2, .int (nI b))] [.int (bI (ofA (f1 b).toInt (f2 b).toInt (fr b).toInt (to1 b).toInt y_159 y_165 y_149 y_151 (-x_166.toInt) (-x_1.toInt)))] [(q 0, .inr (10, mF t n q co cr 1 x_166 x_1)), (q 2, aJ G 200 f1), (q 3, aJ G 200 f2), (q 4, aJ G 200 f3), (q 5, aJ G 200 f4), (q 6, aI G 200 fr), (q 7, aI G 200 to1), (q 10, aI G 320 (rg [y_159, y_165, y_149, y_151, y_238, y_239, y_240, y_241, y_242, y_137, y_243, y_244, v_126, y_245, v_128, y_246])), (q 11, aZ G 16 sf_237), (q 12, aI G 2 (upd sig 0 1))]
                refine j_if_eq (tgt := 302) X dX11_crossArcs_293 (by decide) (fun c_293 => ?_) (fun c_293 => ?_)
                · skip
                  first | simp only [bI_0, Decidable.not_not, sg_mul, sg_e0, sg_l0, sg_g0, sg_le0, sg_ge0, cmp_eq, cmp_lt, cmp_ge, cmp_gt, cmp_le, lT0, lT1] at c_293 | simp only [Int32.le_iff_toInt_le, Int32.lt_iff_toInt_lt, ← Int32.toInt_inj, iT0, iT1, iT2, iT3, iT4, iT5, iT6, iT7, iT8, iT9, iT10, iT11, iT12, iT13, iT14, iT15, iT16, iT19, iT20, iT31, iT32, iT42, iT64, iT200, iT318, iT319, iT1000, iTm1, iTm2] at c_293 | skip
                  rw [hU, hV, hR, hL, hT, tx_1] at c_293
                  have hn : ¬ aaP (f1 a).toInt (f2 a).toInt (f1 b).toInt (f2 b).toInt (f3 a).toInt (f3 b).toInt (fr a).toInt (to1 a).toInt (fr b).toInt (to1 b).toInt (-1) := fun h => c_293 (by have h3 := h.2; rw [Int.neg_one_mul, Int.neg_one_mul] at h3; exact h3)
                  refine j_iinc (v := (-3)) (L' := [(7, .int (-3)), (5, .long x_2), (3, .long x_1), (0, .ref (q 0)), (1, .int (nI a)), (2, .int (nI b))]) X dX11_crossArcs_302 0 rfl (by decide) (by decide) rfl ?_
                  refine j_goto (tgt := 253) X dX11_crossArcs_305 (by decide) ?_
                  refine j_iload X dX11_crossArcs_253 0 rfl ?_
                  refine j_bipush (v := (-2)) X dX11_crossArcs_255 (by decide) ?_
                  refine j_icmp_le (tgt := 308) X dX11_crossArcs_257 (by decide) (fun _ => ?_) (fun c9 => absurd c9 (by decide))
                  refine j_iconst (v := 1) X dX11_crossArcs_308 rfl ?_
                  exact E.2.1 309 _ 1 (1, upd sig 0 1, x_166, x_1, [y_159, y_165, y_149, y_151, y_238, y_239, y_240, y_241, y_242, y_137, y_243, y_244, v_126, y_245, v_128, y_246], sf_237) _ dX11_crossArcs_309 (Or.inr ⟨_, (by unfold xaa; rw [if_neg hne]), rfl, by unfold xG aaS; rw [cps_10 ⟨by rw [← hR]; exact c_175, hp⟩ (fun h => hn h.2)]; exact ⟨rfl, sgL_1 _ _, fun _ => ⟨⟨hU, hV, hR, hL⟩, hT, tx_1⟩⟩, rfl, hS_sf_237⟩) hr rfl
                · skip
                  first | simp only [bI_0, Decidable.not_not, sg_mul, sg_e0, sg_l0, sg_g0, sg_le0, sg_ge0, cmp_eq, cmp_lt, cmp_ge, cmp_gt, cmp_le, lT0, lT1] at c_293 | simp only [Int32.le_iff_toInt_le, Int32.lt_iff_toInt_lt, ← Int32.toInt_inj, iT0, iT1, iT2, iT3, iT4, iT5, iT6, iT7, iT8, iT9, iT10, iT11, iT12, iT13, iT14, iT15, iT16, iT19, iT20, iT31, iT32, iT42, iT64, iT200, iT318, iT319, iT1000, iTm1, iTm2] at c_293 | skip
                  rw [hU, hV, hR, hL, hT, tx_1] at c_293
                  have hn : aaP (f1 a).toInt (f2 a).toInt (f1 b).toInt (f2 b).toInt (f3 a).toInt (f3 b).toInt (fr a).toInt (to1 a).toInt (fr b).toInt (to1 b).toInt (-1) := ⟨by rw [Int.neg_one_mul, Int.neg_one_mul]; exact ion, by rw [Int.neg_one_mul, Int.neg_one_mul]; exact c_293⟩
                  refine j_aload_n X dX11_crossArcs_296 rfl 3 rfl ?_
                  refine j_iload X dX11_crossArcs_297 0 rfl ?_
                  refine j_callV X dX11_crossArcs_299 (c_X11_pointWith_1 l G q t n co cr x_166 x_1 (upd sig 0 1) (-1)) gX11_crossArcs_X11_pointWith rfl hy_X11_pointWith_V ⟨Nat.le_of_ble_eq_true rfl, Nat.le_of_ble_eq_true rfl⟩ 0 rfl rfl [0, 9] rfl (by decide) rfl rfl (Nat.le_of_ble_eq_true rfl) ⟨Nat.le_of_ble_eq_true rfl, Nat.le_of_ble_eq_true rfl⟩ ?_
                  rintro _ ⟨⟩ rfl
                  change J p l e rm_X11_crossArcs s m args below meth c Q G A 8 0 0 302 [(7, .int (-1)), (5, .long x_2), (3, .long x_1), (0, .ref (q 0)), (1, .int (nI a)), (2, .int (nI b))] [] [(q 0, .inr (10, mF t n q co cr 2 x_166 x_1)), (q 2, aJ G 200 f1), (q 3, aJ G 200 f2), (q 4, aJ G 200 f3), (q 5, aJ G 200 f4), (q 6, aI G 200 fr), (q 7, aI G 200 to1), (q 10, aI G 320 (rg [y_159, y_165, y_149, y_151, y_238, y_239, y_240, y_241, y_242, y_137, y_243, y_244, v_126, y_245, v_128, y_246])), (q 11, aZ G 16 sf_237), (q 12, aI G 2 (upd (upd sig 0 1) 1 (-1)))]
                  refine j_iinc (v := (-3)) (L' := [(7, .int (-3)), (5, .long x_2), (3, .long x_1), (0, .ref (q 0)), (1, .int (nI a)), (2, .int (nI b))]) X dX11_crossArcs_302 0 rfl (by decide) (by decide) rfl ?_
                  refine j_goto (tgt := 253) X dX11_crossArcs_305 (by decide) ?_
                  refine j_iload X dX11_crossArcs_253 0 rfl ?_
                  refine j_bipush (v := (-2)) X dX11_crossArcs_255 (by decide) ?_
                  refine j_icmp_le (tgt := 308) X dX11_crossArcs_257 (by decide) (fun _ => ?_) (fun c9 => absurd c9 (by decide))
                  refine j_iconst (v := 1) X dX11_crossArcs_308 rfl ?_
                  exact E.2.1 309 _ 1 (2, upd (upd sig 0 1) 1 (-1), x_166, x_1, [y_159, y_165, y_149, y_151, y_238, y_239, y_240, y_241, y_242, y_137, y_243, y_244, v_126, y_245, v_128, y_246], sf_237) _ dX11_crossArcs_309 (Or.inr ⟨_, (by unfold xaa; rw [if_neg hne]), rfl, by unfold xG aaS; rw [cps_11 ⟨by rw [← hR]; exact c_175, hp⟩ ⟨by rw [← hR]; omega, hn⟩]; exact ⟨rfl, sgL_2 _ _ _, fun _ => ⟨⟨hU, hV, hR, hL⟩, hT, tx_1⟩⟩, rfl, hS_sf_237⟩) hr rfl
            · skip
              first | simp only [bI_0, Decidable.not_not, sg_mul, sg_e0, sg_l0, sg_g0, sg_le0, sg_ge0, cmp_eq, cmp_lt, cmp_ge, cmp_gt, cmp_le, lT0, lT1] at c_271 | simp only [Int32.le_iff_toInt_le, Int32.lt_iff_toInt_lt, ← Int32.toInt_inj, iT0, iT1, iT2, iT3, iT4, iT5, iT6, iT7, iT8, iT9, iT10, iT11, iT12, iT13, iT14, iT15, iT16, iT19, iT20, iT31, iT32, iT42, iT64, iT200, iT318, iT319, iT1000, iTm1, iTm2] at c_271 | skip
              have hz := c_271
              refine j_iconst (v := 1) X dX11_crossArcs_274 rfl ?_
              exact E.2.1 275 _ 1 (1, upd sig 0 1, x_166, x_1, [y_159, y_165, y_149, y_151, y_198, y_199, y_200, y_201, y_202, y_137, y_203, y_204, v_126, y_205, v_128, y_206], sf_197) _ dX11_crossArcs_275 (Or.inr ⟨_, (by unfold xaa; rw [if_neg hne]), rfl, by unfold xG aaS; rw [cps_10 ⟨by rw [← hR]; exact c_175, hp⟩ (fun h => absurd h.1 (by rw [← hR, hz]; decide))]; exact ⟨rfl, sgL_1 _ _, fun _ => ⟨⟨hU, hV, hR, hL⟩, hT, tx_1⟩⟩, rfl, hS_sf_197⟩) hr rfl
      · skip
        first | simp only [bI_0, Decidable.not_not, sg_mul, sg_e0, sg_l0, sg_g0, sg_le0, sg_ge0, cmp_eq, cmp_lt, cmp_ge, cmp_gt, cmp_le, lT0, lT1] at c_175 | simp only [Int32.le_iff_toInt_le, Int32.lt_iff_toInt_lt, ← Int32.toInt_inj, iT0, iT1, iT2, iT3, iT4, iT5, iT6, iT7, iT8, iT9, iT10, iT11, iT12, iT13, iT14, iT15, iT16, iT19, iT20, iT31, iT32, iT42, iT64, iT200, iT318, iT319, iT1000, iTm1, iTm2] at c_175 | skip
        have hF : y_125 = aaF (f1 a).toInt (f2 a).toInt (f1 b).toInt (f2 b).toInt := by rw [ey_125, tx_1, tx_2]; rfl
        have hE : y_137 = aaE (f1 a).toInt (f2 a).toInt (f1 b).toInt (f2 b).toInt (f3 a).toInt (f3 b).toInt := by unfold aaE; rw [← hF, ey_137, ey_133, ey_131, ey_135]
        have hR : y_149 = aaR (f1 a).toInt (f2 a).toInt (f1 b).toInt (f2 b).toInt (f3 a).toInt (f3 b).toInt := by unfold aaR; rw [← hE, ← hF, ey_149, ey_145, ey_147, ey_143, ey_139, ey_141]
        refine j_iconst (v := 1) X dX11_crossArcs_178 rfl ?_
        exact E.2.1 179 _ 1 (0, sig, tx, ty, [z0, z1, y_149, z3, y_145, y_147, y_143, z7, y_137, y_125, z10, z11, v_126, v_127, v_128, v_129], sf_150) _ dX11_crossArcs_179 (Or.inr ⟨_, (by unfold xaa; rw [if_neg hne]), rfl, by unfold xG aaS; rw [cps_00 (fun h => absurd h.1 (by rw [← hR]; omega)) (fun h => absurd h.1 (by rw [← hR]; omega))]; exact ⟨rfl, sgL_0 _, fun h => absurd rfl h⟩, rfl, hS_sf_150⟩) hr rfl
    · skip
      first | simp only [bI_0, Decidable.not_not, sg_mul, sg_e0, sg_l0, sg_g0, sg_le0, sg_ge0, cmp_eq, cmp_lt, cmp_ge, cmp_gt, cmp_le, lT0, lT1] at c_39 | simp only [Int32.le_iff_toInt_le, Int32.lt_iff_toInt_lt, ← Int32.toInt_inj, iT0, iT1, iT2, iT3, iT4, iT5, iT6, iT7, iT8, iT9, iT10, iT11, iT12, iT13, iT14, iT15, iT16, iT19, iT20, iT31, iT32, iT42, iT64, iT200, iT318, iT319, iT1000, iTm1, iTm2] at c_39 | skip
      refine j_aload_n X dX11_crossArcs_42 rfl 2 rfl ?_
      refine j_get (v := .ref (q 4)) X dX11_crossArcs_43 0 rfl 5 rfl in_X11_crossArcs_X11 (by decide) fl_X11_crossArcs_20 rfl ?_
      refine j_iload_n X dX11_crossArcs_46 rfl 3 rfl ?_
      refine j_lald X dX11_crossArcs_47 3 rfl a rfl ga (by decide) ?_
      refine j_aload_n X dX11_crossArcs_48 rfl 2 rfl ?_
      refine j_get (v := .ref (q 4)) X dX11_crossArcs_49 0 rfl 5 rfl in_X11_crossArcs_X11 (by decide) fl_X11_crossArcs_20 rfl ?_
      refine j_iload_n X dX11_crossArcs_52 rfl 4 rfl ?_
      refine j_lald X dX11_crossArcs_53 3 rfl b rfl gb (by decide) ?_
      refine j_lcmp X dX11_crossArcs_54 ?_
      refine j_if_eq (tgt := 62) X dX11_crossArcs_55 (by decide) (fun c_55 => ?_) (fun c_55 => ?_)
      · skip
        first | simp only [bI_0, Decidable.not_not, sg_mul, sg_e0, sg_l0, sg_g0, sg_le0, sg_ge0, cmp_eq, cmp_lt, cmp_ge, cmp_gt, cmp_le, lT0, lT1] at c_55 | simp only [Int32.le_iff_toInt_le, Int32.lt_iff_toInt_lt, ← Int32.toInt_inj, iT0, iT1, iT2, iT3, iT4, iT5, iT6, iT7, iT8, iT9, iT10, iT11, iT12, iT13, iT14, iT15, iT16, iT19, iT20, iT31, iT32, iT42, iT64, iT200, iT318, iT319, iT1000, iTm1, iTm2] at c_55 | skip
        refine j_iconst (v := 0) X dX11_crossArcs_62 rfl ?_
        exact E.2.1 63 _ 0 (0, sig, tx, ty, [z0, z1, z2, z3, z4, z5, z6, z7, z8, z9, z10, z11, z12, z13, z14, z15], sf) _ dX11_crossArcs_63 (Or.inl ⟨by unfold xaa; rw [if_pos ⟨by rw [← tx_1]; exact c_32, by rw [← tx_2]; exact c_39⟩, if_pos c_55], rfl, rfl, rfl, hS⟩) hr rfl
      · skip
        first | simp only [bI_0, Decidable.not_not, sg_mul, sg_e0, sg_l0, sg_g0, sg_le0, sg_ge0, cmp_eq, cmp_lt, cmp_ge, cmp_gt, cmp_le, lT0, lT1] at c_55 | simp only [Int32.le_iff_toInt_le, Int32.lt_iff_toInt_lt, ← Int32.toInt_inj, iT0, iT1, iT2, iT3, iT4, iT5, iT6, iT7, iT8, iT9, iT10, iT11, iT12, iT13, iT14, iT15, iT16, iT19, iT20, iT31, iT32, iT42, iT64, iT200, iT318, iT319, iT1000, iTm1, iTm2] at c_55 | skip
        refine j_iconst (v := 1) X dX11_crossArcs_58 rfl ?_
        refine j_goto (tgt := 63) X dX11_crossArcs_59 (by decide) ?_
        exact E.2.1 63 _ 1 (0, sig, tx, ty, [z0, z1, z2, z3, z4, z5, z6, z7, z8, z9, z10, z11, z12, z13, z14, z15], sf) _ dX11_crossArcs_63 (Or.inr ⟨([], 0, 0, 0, 0, 0, 0), by unfold xaa; rw [if_pos ⟨by rw [← tx_1]; exact c_32, by rw [← tx_2]; exact c_39⟩, if_neg c_55], rfl, xG_0, rfl, hS⟩) hr rfl

theorem hy_X11_crossArcs_V : yX11_crossArcs.cls = RX11 ∧ yX11_crossArcs.cls ≠ "java/lang/invoke/MethodHandle" ∧ yX11_crossArcs.cls ≠ "java/lang/invoke/VarHandle" ∧ (parseMethodDescriptor yX11_crossArcs.desc).map (fun d => d.parameters.length) = some 2 := by decide +kernel
