abbrev rm_X11_load : Room := { frames := 0, cells := 0, slots := 0, locals := 0 }
theorem in_X11_load_X11 : ∀ w ∈ u_ws RX11 TX11 19, w ∈ wsX11_load := by decide +kernel
theorem fl_X11_load_42 : Cond.fieldLink RX11 42 (TX11 13).1 (TX11 13).2.1 (TX11 13).2.2.1 ∈ wsX11_load := by decide +kernel
theorem fl_X11_load_39 : Cond.fieldLink RX11 39 (TX11 12).1 (TX11 12).2.1 (TX11 12).2.2.1 ∈ wsX11_load := by decide +kernel
theorem k_X11_load_60 : Cond.constantLong RX11 60 (65535) ∈ wsX11_load := by decide +kernel
set_option maxHeartbeats 4000000 in
set_option maxRecDepth 100000 in
theorem c_X11_load (l : Launch) (G : jG) (q : Nat → Nat) (t n co cr po : Int32) (tx ty : Int64) (zs : List Int) (hl : zs.length = 16) (sf : Nat → Int32) (r : Int32) (dd : Nat) (hdd : r.toInt = dd) (gdd : dd < 16) (v : Int64) : Ct l yX11_load wsX11_load rm_X11_load G [.ref (q 0), .int r, .long v] [(q 0, .inr (10, mF t n q co cr po tx ty)), (q 10, aI G 320 (rg zs)), (q 11, aZ G 16 sf)] (S := Int32) (fun r b => r = none ∧ ((b = 1 ∧ v.toInt < 0) ∨ (b = 0 ∧ 0 ≤ v.toInt))) (fun b => [(q 0, .inr (10, mF t n q co cr po tx ty)), (q 10, aI G 320 (rg (zs.set dd v.toInt))), (q 11, aZ G 16 (upd sf dd b))]) (fun _ => []) := by
  refine c_intro (cc := cX11_load) (maxL := 7) (ret := none) (by decide) rfl (Nat.le_of_ble_eq_true rfl) (fun _ => by simp only [List.map_cons, List.map_nil]) ?_
  intro p e s m args below meth c Q A X hr hin E
  change J p l e rm_X11_load s m args below meth c Q G A 7 0 0 0 [(0, .ref (q 0)), (1, .int r), (2, .long v)] [] [(q 0, .inr (10, mF t n q co cr po tx ty)), (q 10, aI G 320 (rg zs)), (q 11, aZ G 16 sf)]
  refine j_aload_n X dX11_load_0 rfl 0 rfl ?_
  refine j_get (v := .ref (q 11)) X dX11_load_1 0 rfl 13 rfl in_X11_load_X11 (by decide) fl_X11_load_42 rfl ?_
  refine j_iload_n X dX11_load_4 rfl 1 rfl ?_
  refine j_lload_n X dX11_load_5 rfl 2 rfl ?_
  refine j_lconst (v := 0) X dX11_load_6 rfl ?_
  refine j_lcmp X dX11_load_7 ?_
  have cut16 : ∀ (b : Int32) (hb : (b = 1 ∧ v.toInt < 0) ∨ (b = 0 ∧ 0 ≤ v.toInt)), J p l e rm_X11_load s m args below meth c Q G A 7 0 0 16 [(0, .ref (q 0)), (1, .int r), (2, .long v)] [.int b, .int r, .ref (q 11)] [(q 0, .inr (10, mF t n q co cr po tx ty)), (q 10, aI G 320 (rg zs)), (q 11, aZ G 16 sf)] := by
    intro b hb
    refine j_zast (ws' := [(q 0, .inr (10, mF t n q co cr po tx ty)), (q 10, aI G 320 (rg zs)), (q 11, aZ G 16 (upd sf dd b))]) X dX11_load_16 2 rfl dd (i_nI hdd (by omega)) (by omega) (by decide) (mb_01 hb) rfl ?_
    refine j_lload_n X dX11_load_17 rfl 2 rfl ?_
    refine j_lconst (v := 0) X dX11_load_18 rfl ?_
    refine j_lcmp X dX11_load_19 ?_
    have cut30 : ∀ (x : Int64) (hxa : (v.toInt < 0 ∧ x = 0 - v) ∨ (0 ≤ v.toInt ∧ x = v)), J p l e rm_X11_load s m args below meth c Q G A 7 0 0 30 [(0, .ref (q 0)), (1, .int r), (2, .long v)] [.long x] [(q 0, .inr (10, mF t n q co cr po tx ty)), (q 10, aI G 320 (rg zs)), (q 11, aZ G 16 (upd sf dd b))] := by
      intro x hxa
      refine j_lstore (L' := [(4, .long x), (0, .ref (q 0)), (1, .int r), (2, .long v)]) X dX11_load_30 (by decide) rfl ?_
      refine j_iconst (v := 0) X dX11_load_32 rfl ?_
      refine j_istore (L' := [(6, .int 0), (4, .long x), (0, .ref (q 0)), (1, .int r), (2, .long v)]) X dX11_load_33 (by decide) rfl ?_
      have loop : ∀ (d : Nat) (i : Nat) (k : Int32) (g : Nat → Int32) (hi : i ≤ 20) (hx : k.toInt = i) (hg1 : ∀ j, j < i → g (20 * dd + j) = eg (v.toInt.natAbs : Int) j) (hg2 : ∀ k, k < 320 → k / 20 ≠ dd → g k = rg zs k), 20 - i < d → J p l e rm_X11_load s m args below meth c Q G A 7 0 0 35 [(0, .ref (q 0)), (1, .int r), (4, .long x), (6, .int k)] [] [(q 0, .inr (10, mF t n q co cr po tx ty)), (q 10, aI G 320 g), (q 11, aZ G 16 (upd sf dd b))] := by
        intro d
        induction d with
        | zero => intro i k g hi hx hg1 hg2 hd0; exact absurd hd0 (Nat.not_lt_zero _)
        | succ d ih =>
          intro i k g hi hx hg1 hg2 hd0
          refine j_iload X dX11_load_35 3 rfl ?_
          refine j_bipush (v := 20) X dX11_load_37 (by decide) ?_
          refine j_icmp_ge (tgt := 83) X dX11_load_39 (by decide) (fun c_39 => ?_) (fun c_39 => ?_)
          · skip
            first | simp only [cmp_eq, cmp_lt, cmp_ge, cmp_gt, cmp_le, lT0, lT1] at c_39 | simp only [Int32.le_iff_toInt_le, Int32.lt_iff_toInt_lt, ← Int32.toInt_inj, iT0, iT1, iT2, iT3, iT4, iT5, iT6, iT7, iT8, iT9, iT10, iT11, iT12, iT13, iT14, iT15, iT16, iT19, iT20, iT31, iT32, iT42, iT64, iT200, iT318, iT319, iT1000, iTm1, iTm2] at c_39
            refine j_setI (g := rg (zs.set dd v.toInt)) 1 rfl (rg_set hl gdd (fun j hj => hg1 j (by omega)) hg2) rfl ?_
            exact E.1 83 _ b dX11_load_83 (⟨rfl, hb⟩) hr
          · skip
            first | simp only [cmp_eq, cmp_lt, cmp_ge, cmp_gt, cmp_le, lT0, lT1] at c_39 | simp only [Int32.le_iff_toInt_le, Int32.lt_iff_toInt_lt, ← Int32.toInt_inj, iT0, iT1, iT2, iT3, iT4, iT5, iT6, iT7, iT8, iT9, iT10, iT11, iT12, iT13, iT14, iT15, iT16, iT19, iT20, iT31, iT32, iT42, iT64, iT200, iT318, iT319, iT1000, iTm1, iTm2] at c_39
            refine j_aload_n X dX11_load_42 rfl 0 rfl ?_
            refine j_get (v := .ref (q 10)) X dX11_load_43 0 rfl 12 rfl in_X11_load_X11 (by decide) fl_X11_load_39 rfl ?_
            refine j_bipush (v := 20) X dX11_load_46 (by decide) ?_
            refine j_iload_n X dX11_load_48 rfl 1 rfl ?_
            refine j_imul X dX11_load_49 ?_
            refine j_iload X dX11_load_50 3 rfl ?_
            refine j_iadd X dX11_load_52 ?_
            refine j_iload X dX11_load_53 3 rfl ?_
            refine j_iconst (v := 4) X dX11_load_55 rfl ?_
            have cut76 : ∀ (w : Int32) (hw : w = eg (v.toInt.natAbs : Int) i), J p l e rm_X11_load s m args below meth c Q G A 7 0 0 76 [(0, .ref (q 0)), (1, .int r), (4, .long x), (6, .int k)] [.int w, .int ((20 * r) + k), .ref (q 10)] [(q 0, .inr (10, mF t n q co cr po tx ty)), (q 10, aI G 320 g), (q 11, aZ G 16 (upd sf dd b))] := by
              intro w hw
              refine j_iast (ws' := [(q 0, .inr (10, mF t n q co cr po tx ty)), (q 10, aI G 320 (upd g (20 * dd + i) w)), (q 11, aZ G 16 (upd sf dd b))]) X dX11_load_76 1 rfl (20 * dd + i) (i_nI (ix20 hdd hx gdd (by omega)) (by omega)) (by omega) (by decide) rfl ?_
              obtain ⟨x_1, ex_1⟩ : ∃ y9 : Int32, y9 = k + 1 := ⟨_, rfl⟩
              refine j_iinc (v := x_1) (L' := [(6, .int x_1), (0, .ref (q 0)), (1, .int r), (4, .long x)]) X dX11_load_77 3 rfl (by rw [ex_1]; rfl) (by decide) rfl ?_
              refine j_goto (tgt := 35) X dX11_load_80 (by decide) ?_
              refine j_sub [1, 2, 3, 0] rfl ?_
              exact ih (i + 1) x_1 (upd g (20 * dd + i) w) (by omega) (x_s hx (by omega) ex_1) (r_step hg1 hw) (r_rest (by omega) hg2) (by omega)
            refine j_icmp_ge (tgt := 75) X dX11_load_56 (by decide) (fun c_56 => ?_) (fun c_56 => ?_)
            · skip
              first | simp only [cmp_eq, cmp_lt, cmp_ge, cmp_gt, cmp_le, lT0, lT1] at c_56 | simp only [Int32.le_iff_toInt_le, Int32.lt_iff_toInt_lt, ← Int32.toInt_inj, iT0, iT1, iT2, iT3, iT4, iT5, iT6, iT7, iT8, iT9, iT10, iT11, iT12, iT13, iT14, iT15, iT16, iT19, iT20, iT31, iT32, iT42, iT64, iT200, iT318, iT319, iT1000, iTm1, iTm2] at c_56
              refine j_iconst (v := 0) X dX11_load_75 rfl ?_
              exact cut76 0 (ld_zero (by have := l_rng v; omega) (by omega))
            · skip
              first | simp only [cmp_eq, cmp_lt, cmp_ge, cmp_gt, cmp_le, lT0, lT1] at c_56 | simp only [Int32.le_iff_toInt_le, Int32.lt_iff_toInt_lt, ← Int32.toInt_inj, iT0, iT1, iT2, iT3, iT4, iT5, iT6, iT7, iT8, iT9, iT10, iT11, iT12, iT13, iT14, iT15, iT16, iT19, iT20, iT31, iT32, iT42, iT64, iT200, iT318, iT319, iT1000, iTm1, iTm2] at c_56
              refine j_lload X dX11_load_59 2 rfl ?_
              refine j_bipush (v := 16) X dX11_load_61 (by decide) ?_
              refine j_iload X dX11_load_63 3 rfl ?_
              refine j_imul X dX11_load_65 ?_
              obtain ⟨x_2, ex_2⟩ : ∃ z9 : Int64, (x.toUInt64 >>> ((16 * k).toInt64.toUInt64 &&& Int64.toUInt64 63)).toInt64 = z9 := ⟨_, rfl⟩
              refine j_lushr (v := x_2) X dX11_load_66 ex_2 ?_
              refine j_ldc2 (v := 65535) X dX11_load_67 k_X11_load_60 ?_
              refine j_land X dX11_load_70 ?_
              refine j_l2i X dX11_load_71 rfl ?_
              refine j_goto (tgt := 76) X dX11_load_72 (by decide) ?_
              exact cut76 ((x_2 &&& 65535).toInt32) (ld_dig (ld_abs hxa) hx (by omega) ex_2)
      refine j_sub [2, 3, 1, 0] rfl ?_
      exact loop 21 0 0 (rg zs) (by omega) rfl (fun j hj => absurd hj (Nat.not_lt_zero j)) (fun k _ _ => rfl) (by omega)
    refine j_if_ge (tgt := 29) X dX11_load_20 (by decide) (fun c_20 => ?_) (fun c_20 => ?_)
    · skip
      first | simp only [cmp_eq, cmp_lt, cmp_ge, cmp_gt, cmp_le, lT0, lT1] at c_20 | simp only [Int32.le_iff_toInt_le, Int32.lt_iff_toInt_lt, ← Int32.toInt_inj, iT0, iT1, iT2, iT3, iT4, iT5, iT6, iT7, iT8, iT9, iT10, iT11, iT12, iT13, iT14, iT15, iT16, iT19, iT20, iT31, iT32, iT42, iT64, iT200, iT318, iT319, iT1000, iTm1, iTm2] at c_20
      refine j_lload_n X dX11_load_29 rfl 2 rfl ?_
      exact cut30 v (by exact Or.inr ⟨by omega, rfl⟩)
    · skip
      first | simp only [cmp_eq, cmp_lt, cmp_ge, cmp_gt, cmp_le, lT0, lT1] at c_20 | simp only [Int32.le_iff_toInt_le, Int32.lt_iff_toInt_lt, ← Int32.toInt_inj, iT0, iT1, iT2, iT3, iT4, iT5, iT6, iT7, iT8, iT9, iT10, iT11, iT12, iT13, iT14, iT15, iT16, iT19, iT20, iT31, iT32, iT42, iT64, iT200, iT318, iT319, iT1000, iTm1, iTm2] at c_20
      refine j_lconst (v := 0) X dX11_load_23 rfl ?_
      refine j_lload_n X dX11_load_24 rfl 2 rfl ?_
      refine j_lsub X dX11_load_25 ?_
      refine j_goto (tgt := 30) X dX11_load_26 (by decide) ?_
      exact cut30 (0 - v) (by exact Or.inl ⟨by omega, rfl⟩)
  refine j_if_ge (tgt := 15) X dX11_load_8 (by decide) (fun c_8 => ?_) (fun c_8 => ?_)
  · skip
    first | simp only [cmp_eq, cmp_lt, cmp_ge, cmp_gt, cmp_le, lT0, lT1] at c_8 | simp only [Int32.le_iff_toInt_le, Int32.lt_iff_toInt_lt, ← Int32.toInt_inj, iT0, iT1, iT2, iT3, iT4, iT5, iT6, iT7, iT8, iT9, iT10, iT11, iT12, iT13, iT14, iT15, iT16, iT19, iT20, iT31, iT32, iT42, iT64, iT200, iT318, iT319, iT1000, iTm1, iTm2] at c_8
    refine j_iconst (v := 0) X dX11_load_15 rfl ?_
    exact cut16 0 (by exact Or.inr ⟨rfl, by omega⟩)
  · skip
    first | simp only [cmp_eq, cmp_lt, cmp_ge, cmp_gt, cmp_le, lT0, lT1] at c_8 | simp only [Int32.le_iff_toInt_le, Int32.lt_iff_toInt_lt, ← Int32.toInt_inj, iT0, iT1, iT2, iT3, iT4, iT5, iT6, iT7, iT8, iT9, iT10, iT11, iT12, iT13, iT14, iT15, iT16, iT19, iT20, iT31, iT32, iT42, iT64, iT200, iT318, iT319, iT1000, iTm1, iTm2] at c_8
    refine j_iconst (v := 1) X dX11_load_11 rfl ?_
    refine j_goto (tgt := 16) X dX11_load_12 (by decide) ?_
    exact cut16 1 (by exact Or.inl ⟨rfl, by omega⟩)

theorem hy_X11_load_V : yX11_load.cls = RX11 ∧ yX11_load.cls ≠ "java/lang/invoke/MethodHandle" ∧ yX11_load.cls ≠ "java/lang/invoke/VarHandle" ∧ (parseMethodDescriptor yX11_load.desc).map (fun d => d.parameters.length) = some 2 := by decide +kernel
abbrev rm_X11_copy : Room := { frames := 0, cells := 0, slots := 0, locals := 0 }
theorem in_X11_copy_X11 : ∀ w ∈ u_ws RX11 TX11 19, w ∈ wsX11_copy := by decide +kernel
theorem fl_X11_copy_42 : Cond.fieldLink RX11 42 (TX11 13).1 (TX11 13).2.1 (TX11 13).2.2.1 ∈ wsX11_copy := by decide +kernel
theorem fl_X11_copy_39 : Cond.fieldLink RX11 39 (TX11 12).1 (TX11 12).2.1 (TX11 12).2.2.1 ∈ wsX11_copy := by decide +kernel
set_option maxHeartbeats 4000000 in
set_option maxRecDepth 100000 in
theorem c_X11_copy (l : Launch) (G : jG) (q : Nat → Nat) (t n co cr po : Int32) (tx ty : Int64) (zs : List Int) (hl : zs.length = 16) (sf : Nat → Int32) (r : Int32) (dd : Nat) (hdd : r.toInt = dd) (gdd : dd < 16) (ra : Int32) (aa : Nat) (haa : ra.toInt = aa) (gaa : aa < 16) (hne : dd ≠ aa) (h01 : sf aa = 0 ∨ sf aa = 1) : Ct l yX11_copy wsX11_copy rm_X11_copy G [.ref (q 0), .int r, .int ra] [(q 0, .inr (10, mF t n q co cr po tx ty)), (q 10, aI G 320 (rg zs)), (q 11, aZ G 16 sf)] (S := Unit) (fun r _ => r = none) (fun _ => [(q 0, .inr (10, mF t n q co cr po tx ty)), (q 10, aI G 320 (rg (zs.set dd (zs.getD aa 0)))), (q 11, aZ G 16 (upd sf dd (sf aa)))]) (fun _ => []) := by
  refine c_intro (cc := cX11_copy) (maxL := 4) (ret := none) (by decide) rfl (Nat.le_of_ble_eq_true rfl) (fun _ => by simp only [List.map_cons, List.map_nil]) ?_
  intro p e s m args below meth c Q A X hr hin E
  change J p l e rm_X11_copy s m args below meth c Q G A 4 0 0 0 [(0, .ref (q 0)), (1, .int r), (2, .int ra)] [] [(q 0, .inr (10, mF t n q co cr po tx ty)), (q 10, aI G 320 (rg zs)), (q 11, aZ G 16 sf)]
  refine j_aload_n X dX11_copy_0 rfl 0 rfl ?_
  refine j_get (v := .ref (q 11)) X dX11_copy_1 0 rfl 13 rfl in_X11_copy_X11 (by decide) fl_X11_copy_42 rfl ?_
  refine j_iload_n X dX11_copy_4 rfl 1 rfl ?_
  refine j_aload_n X dX11_copy_5 rfl 0 rfl ?_
  refine j_get (v := .ref (q 11)) X dX11_copy_6 0 rfl 13 rfl in_X11_copy_X11 (by decide) fl_X11_copy_42 rfl ?_
  refine j_iload_n X dX11_copy_9 rfl 2 rfl ?_
  refine j_zald X dX11_copy_10 2 rfl aa (i_nI haa (by omega)) (by omega) (by decide) ?_
  refine j_zast (ws' := [(q 0, .inr (10, mF t n q co cr po tx ty)), (q 10, aI G 320 (rg zs)), (q 11, aZ G 16 (upd sf dd (sf aa)))]) X dX11_copy_11 2 rfl dd (i_nI hdd (by omega)) (by omega) (by decide) h01 rfl ?_
  refine j_iconst (v := 0) X dX11_copy_12 rfl ?_
  refine j_istore_n (L' := [(3, .int 0), (0, .ref (q 0)), (1, .int r), (2, .int ra)]) X dX11_copy_13 rfl (by decide) rfl ?_
  have loop : ∀ (d : Nat) (i : Nat) (k : Int32) (g : Nat → Int32) (hi : i ≤ 20) (hx : k.toInt = i) (hg1 : ∀ j, j < i → g (20 * dd + j) = eg (zA zs aa) j) (hg2 : ∀ k, k < 320 → k / 20 ≠ dd → g k = rg zs k), 20 - i < d → J p l e rm_X11_copy s m args below meth c Q G A 4 0 0 14 [(0, .ref (q 0)), (1, .int r), (2, .int ra), (3, .int k)] [] [(q 0, .inr (10, mF t n q co cr po tx ty)), (q 10, aI G 320 g), (q 11, aZ G 16 (upd sf dd (sf aa)))] := by
    intro d
    induction d with
    | zero => intro i k g hi hx hg1 hg2 hd0; exact absurd hd0 (Nat.not_lt_zero _)
    | succ d ih =>
      intro i k g hi hx hg1 hg2 hd0
      refine j_iload_n X dX11_copy_14 rfl 3 rfl ?_
      refine j_bipush (v := 20) X dX11_copy_15 (by decide) ?_
      refine j_icmp_ge (tgt := 48) X dX11_copy_17 (by decide) (fun c_17 => ?_) (fun c_17 => ?_)
      · skip
        first | simp only [cmp_eq, cmp_lt, cmp_ge, cmp_gt, cmp_le, lT0, lT1] at c_17 | simp only [Int32.le_iff_toInt_le, Int32.lt_iff_toInt_lt, ← Int32.toInt_inj, iT0, iT1, iT2, iT3, iT4, iT5, iT6, iT7, iT8, iT9, iT10, iT11, iT12, iT13, iT14, iT15, iT16, iT19, iT20, iT31, iT32, iT42, iT64, iT200, iT318, iT319, iT1000, iTm1, iTm2] at c_17
        refine j_setI (g := rg (zs.set dd (zs.getD aa 0))) 1 rfl (rg_set hl gdd (fun j hj => hg1 j (by omega)) hg2) rfl ?_
        exact E.1 48 _ () dX11_copy_48 rfl hr
      · skip
        first | simp only [cmp_eq, cmp_lt, cmp_ge, cmp_gt, cmp_le, lT0, lT1] at c_17 | simp only [Int32.le_iff_toInt_le, Int32.lt_iff_toInt_lt, ← Int32.toInt_inj, iT0, iT1, iT2, iT3, iT4, iT5, iT6, iT7, iT8, iT9, iT10, iT11, iT12, iT13, iT14, iT15, iT16, iT19, iT20, iT31, iT32, iT42, iT64, iT200, iT318, iT319, iT1000, iTm1, iTm2] at c_17
        refine j_aload_n X dX11_copy_20 rfl 0 rfl ?_
        refine j_get (v := .ref (q 10)) X dX11_copy_21 0 rfl 12 rfl in_X11_copy_X11 (by decide) fl_X11_copy_39 rfl ?_
        refine j_bipush (v := 20) X dX11_copy_24 (by decide) ?_
        refine j_iload_n X dX11_copy_26 rfl 1 rfl ?_
        refine j_imul X dX11_copy_27 ?_
        refine j_iload_n X dX11_copy_28 rfl 3 rfl ?_
        refine j_iadd X dX11_copy_29 ?_
        refine j_aload_n X dX11_copy_30 rfl 0 rfl ?_
        refine j_get (v := .ref (q 10)) X dX11_copy_31 0 rfl 12 rfl in_X11_copy_X11 (by decide) fl_X11_copy_39 rfl ?_
        refine j_bipush (v := 20) X dX11_copy_34 (by decide) ?_
        refine j_iload_n X dX11_copy_36 rfl 2 rfl ?_
        refine j_imul X dX11_copy_37 ?_
        refine j_iload_n X dX11_copy_38 rfl 3 rfl ?_
        refine j_iadd X dX11_copy_39 ?_
        refine j_iald X dX11_copy_40 1 rfl (20 * aa + i) (i_nI (ix20 haa hx gaa (by omega)) (by omega)) (by omega) (by decide) ?_
        refine j_topi (fun x_1 ex_1 => ?_)
        refine j_iast (ws' := [(q 0, .inr (10, mF t n q co cr po tx ty)), (q 10, aI G 320 (upd g (20 * dd + i) x_1)), (q 11, aZ G 16 (upd sf dd (sf aa)))]) X dX11_copy_41 1 rfl (20 * dd + i) (i_nI (ix20 hdd hx gdd (by omega)) (by omega)) (by omega) (by decide) rfl ?_
        obtain ⟨x_2, ex_2⟩ : ∃ y9 : Int32, y9 = k + 1 := ⟨_, rfl⟩
        refine j_iinc (v := x_2) (L' := [(3, .int x_2), (0, .ref (q 0)), (1, .int r), (2, .int ra)]) X dX11_copy_42 3 rfl (by rw [ex_2]; rfl) (by decide) rfl ?_
        refine j_goto (tgt := 14) X dX11_copy_45 (by decide) ?_
        refine j_sub [1, 2, 3, 0] rfl ?_
        exact ih (i + 1) x_2 (upd g (20 * dd + i) x_1) (by omega) (x_s hx (by omega) ex_2) (r_step hg1 (ex_1.trans ((hg2 _ (by omega) (by omega)).trans (rg_at zs (by omega))))) (r_rest (by omega) hg2) (by omega)
  refine j_sub [1, 2, 3, 0] rfl ?_
  exact loop 21 0 0 (rg zs) (by omega) rfl (fun j hj => absurd hj (Nat.not_lt_zero j)) (fun k _ _ => rfl) (by omega)

theorem hy_X11_copy_V : yX11_copy.cls = RX11 ∧ yX11_copy.cls ≠ "java/lang/invoke/MethodHandle" ∧ yX11_copy.cls ≠ "java/lang/invoke/VarHandle" ∧ (parseMethodDescriptor yX11_copy.desc).map (fun d => d.parameters.length) = some 2 := by decide +kernel
abbrev rm_X11_sign : Room := { frames := 0, cells := 0, slots := 0, locals := 0 }
theorem in_X11_sign_X11 : ∀ w ∈ u_ws RX11 TX11 19, w ∈ wsX11_sign := by decide +kernel
theorem fl_X11_sign_39 : Cond.fieldLink RX11 39 (TX11 12).1 (TX11 12).2.1 (TX11 12).2.2.1 ∈ wsX11_sign := by decide +kernel
theorem fl_X11_sign_42 : Cond.fieldLink RX11 42 (TX11 13).1 (TX11 13).2.1 (TX11 13).2.2.1 ∈ wsX11_sign := by decide +kernel
set_option maxHeartbeats 4000000 in
set_option maxRecDepth 100000 in
theorem c_X11_sign (l : Launch) (G : jG) (q : Nat → Nat) (t n co cr po : Int32) (tx ty : Int64) (zs : List Int) (hl : zs.length = 16) (sf : Nat → Int32) (r : Int32) (dd : Nat) (hdd : r.toInt = dd) (gdd : dd < 16) (hok : ok1 (sf dd) (zs.getD dd 0)) (hbd : (zs.getD dd 0).natAbs < 2135987035920910082395021706169552114602704522356652769947041607822219725780640550022962086936576) : Ct l yX11_sign wsX11_sign rm_X11_sign G [.ref (q 0), .int r] [(q 0, .inr (10, mF t n q co cr po tx ty)), (q 10, aI G 320 (rg zs)), (q 11, aZ G 16 sf)] (S := Unit) (fun r _ => r = some (.int (sg (zs.getD dd 0)))) (fun _ => [(q 0, .inr (10, mF t n q co cr po tx ty)), (q 10, aI G 320 (rg zs)), (q 11, aZ G 16 sf)]) (fun _ => []) := by
  refine c_intro (cc := cX11_sign) (maxL := 3) (ret := (some .int)) (by decide) rfl (Nat.le_of_ble_eq_true rfl) (fun _ => by simp only [List.map_cons, List.map_nil]) ?_
  intro p e s m args below meth c Q A X hr hin E
  change J p l e rm_X11_sign s m args below meth c Q G A 3 0 0 0 [(0, .ref (q 0)), (1, .int r)] [] [(q 0, .inr (10, mF t n q co cr po tx ty)), (q 10, aI G 320 (rg zs)), (q 11, aZ G 16 sf)]
  refine j_iconst (v := 0) X dX11_sign_0 rfl ?_
  refine j_istore_n (L' := [(2, .int 0), (0, .ref (q 0)), (1, .int r)]) X dX11_sign_1 rfl (by decide) rfl ?_
  have loop : ∀ (d : Nat) (i : Nat) (k : Int32) (hi : i ≤ 20) (hx : k.toInt = i) (hm : zA zs dd % eP i = 0), 20 - i < d → J p l e rm_X11_sign s m args below meth c Q G A 3 0 0 2 [(0, .ref (q 0)), (1, .int r), (2, .int k)] [] [(q 0, .inr (10, mF t n q co cr po tx ty)), (q 10, aI G 320 (rg zs)), (q 11, aZ G 16 sf)] := by
    intro d
    induction d with
    | zero => intro i k hi hx hm hd0; exact absurd hd0 (Nat.not_lt_zero _)
    | succ d ih =>
      intro i k hi hx hm hd0
      refine j_iload_n X dX11_sign_2 rfl 2 rfl ?_
      refine j_bipush (v := 20) X dX11_sign_3 (by decide) ?_
      refine j_icmp_ge (tgt := 43) X dX11_sign_5 (by decide) (fun c_5 => ?_) (fun c_5 => ?_)
      · skip
        first | simp only [cmp_eq, cmp_lt, cmp_ge, cmp_gt, cmp_le, lT0, lT1] at c_5 | simp only [Int32.le_iff_toInt_le, Int32.lt_iff_toInt_lt, ← Int32.toInt_inj, iT0, iT1, iT2, iT3, iT4, iT5, iT6, iT7, iT8, iT9, iT10, iT11, iT12, iT13, iT14, iT15, iT16, iT19, iT20, iT31, iT32, iT42, iT64, iT200, iT318, iT319, iT1000, iTm1, iTm2] at c_5
        have h8 : i = 20 := by omega
        subst h8
        rw [eP_20] at hm
        unfold zA at hm
        refine j_iconst (v := 0) X dX11_sign_43 rfl ?_
        exact E.2.1 44 _ 0 () _ dX11_sign_44 (by rw [sg_zero (by omega)]) hr rfl
      · skip
        first | simp only [cmp_eq, cmp_lt, cmp_ge, cmp_gt, cmp_le, lT0, lT1] at c_5 | simp only [Int32.le_iff_toInt_le, Int32.lt_iff_toInt_lt, ← Int32.toInt_inj, iT0, iT1, iT2, iT3, iT4, iT5, iT6, iT7, iT8, iT9, iT10, iT11, iT12, iT13, iT14, iT15, iT16, iT19, iT20, iT31, iT32, iT42, iT64, iT200, iT318, iT319, iT1000, iTm1, iTm2] at c_5
        refine j_aload_n X dX11_sign_8 rfl 0 rfl ?_
        refine j_get (v := .ref (q 10)) X dX11_sign_9 0 rfl 12 rfl in_X11_sign_X11 (by decide) fl_X11_sign_39 rfl ?_
        refine j_bipush (v := 20) X dX11_sign_12 (by decide) ?_
        refine j_iload_n X dX11_sign_14 rfl 1 rfl ?_
        refine j_imul X dX11_sign_15 ?_
        refine j_iload_n X dX11_sign_16 rfl 2 rfl ?_
        refine j_iadd X dX11_sign_17 ?_
        refine j_iald X dX11_sign_18 1 rfl (20 * dd + i) (i_nI (ix20 hdd hx gdd (by omega)) (by omega)) (by omega) (by decide) ?_
        refine j_if_eq (tgt := 37) X dX11_sign_19 (by decide) (fun c_19 => ?_) (fun c_19 => ?_)
        · skip
          first | simp only [cmp_eq, cmp_lt, cmp_ge, cmp_gt, cmp_le, lT0, lT1] at c_19 | simp only [Int32.le_iff_toInt_le, Int32.lt_iff_toInt_lt, ← Int32.toInt_inj, iT0, iT1, iT2, iT3, iT4, iT5, iT6, iT7, iT8, iT9, iT10, iT11, iT12, iT13, iT14, iT15, iT16, iT19, iT20, iT31, iT32, iT42, iT64, iT200, iT318, iT319, iT1000, iTm1, iTm2] at c_19
          obtain ⟨x_1, ex_1⟩ : ∃ y9 : Int32, y9 = k + 1 := ⟨_, rfl⟩
          refine j_iinc (v := x_1) (L' := [(2, .int x_1), (0, .ref (q 0)), (1, .int r)]) X dX11_sign_37 2 rfl (by rw [ex_1]; rfl) (by decide) rfl ?_
          refine j_goto (tgt := 2) X dX11_sign_40 (by decide) ?_
          refine j_sub [1, 2, 0] rfl ?_
          exact ih (i + 1) x_1 (by omega) (x_s hx (by omega) ex_1) (es_next hm (rg_at zs (by omega)) c_19) (by omega)
        · skip
          first | simp only [cmp_eq, cmp_lt, cmp_ge, cmp_gt, cmp_le, lT0, lT1] at c_19 | simp only [Int32.le_iff_toInt_le, Int32.lt_iff_toInt_lt, ← Int32.toInt_inj, iT0, iT1, iT2, iT3, iT4, iT5, iT6, iT7, iT8, iT9, iT10, iT11, iT12, iT13, iT14, iT15, iT16, iT19, iT20, iT31, iT32, iT42, iT64, iT200, iT318, iT319, iT1000, iTm1, iTm2] at c_19
          have hn := es_nz (rg_at zs (by omega)) c_19
          unfold zA at hn
          refine j_aload_n X dX11_sign_22 rfl 0 rfl ?_
          refine j_get (v := .ref (q 11)) X dX11_sign_23 0 rfl 13 rfl in_X11_sign_X11 (by decide) fl_X11_sign_42 rfl ?_
          refine j_iload_n X dX11_sign_26 rfl 1 rfl ?_
          refine j_zald X dX11_sign_27 2 rfl dd (i_nI hdd (by omega)) (by omega) (by decide) ?_
          refine j_if_eq (tgt := 35) X dX11_sign_28 (by decide) (fun c_28 => ?_) (fun c_28 => ?_)
          · skip
            have hs0 : 0 ≤ zs.getD dd 0 := by rcases hok with h | h; exact h.2; exact absurd (c_28.symm.trans h.1) (by decide)
            refine j_iconst (v := 1) X dX11_sign_35 rfl ?_
            exact E.2.1 36 _ 1 () _ dX11_sign_36 (by rw [sg_pos (by omega)]) hr rfl
          · skip
            have hs1 : zs.getD dd 0 ≤ 0 := by rcases hok with h | h; exact absurd h.1 c_28; exact h.2
            refine j_iconst (v := (-1)) X dX11_sign_31 rfl ?_
            refine j_goto (tgt := 36) X dX11_sign_32 (by decide) ?_
            exact E.2.1 36 _ (-1) () _ dX11_sign_36 (by rw [sg_neg (by omega)]) hr rfl
  refine j_sub [1, 2, 0] rfl ?_
  exact loop 21 0 0 (by omega) rfl (by rw [eP_0, Int.emod_one]) (by omega)

theorem hy_X11_sign_V : yX11_sign.cls = RX11 ∧ yX11_sign.cls ≠ "java/lang/invoke/MethodHandle" ∧ yX11_sign.cls ≠ "java/lang/invoke/VarHandle" ∧ (parseMethodDescriptor yX11_sign.desc).map (fun d => d.parameters.length) = some 1 := by decide +kernel
abbrev rm_X11_sizes : Room := { frames := 0, cells := 0, slots := 0, locals := 0 }
theorem in_X11_sizes_X11 : ∀ w ∈ u_ws RX11 TX11 19, w ∈ wsX11_sizes := by decide +kernel
theorem fl_X11_sizes_39 : Cond.fieldLink RX11 39 (TX11 12).1 (TX11 12).2.1 (TX11 12).2.2.1 ∈ wsX11_sizes := by decide +kernel
set_option maxHeartbeats 4000000 in
set_option maxRecDepth 100000 in
theorem c_X11_sizes (l : Launch) (G : jG) (q : Nat → Nat) (t n co cr po : Int32) (tx ty : Int64) (zs : List Int) (hl : zs.length = 16) (sf : Nat → Int32) (ra : Int32) (aa : Nat) (haa : ra.toInt = aa) (gaa : aa < 16) (rb : Int32) (bb : Nat) (hbb : rb.toInt = bb) (gbb : bb < 16) (ha : (zs.getD aa 0).natAbs < 2135987035920910082395021706169552114602704522356652769947041607822219725780640550022962086936576) (hb : (zs.getD bb 0).natAbs < 2135987035920910082395021706169552114602704522356652769947041607822219725780640550022962086936576) : Ct l yX11_sizes wsX11_sizes rm_X11_sizes G [.ref (q 0), .int ra, .int rb] [(q 0, .inr (10, mF t n q co cr po tx ty)), (q 10, aI G 320 (rg zs)), (q 11, aZ G 16 sf)] (S := Unit) (fun r _ => r = some (.int (sg (zA zs aa - zA zs bb)))) (fun _ => [(q 0, .inr (10, mF t n q co cr po tx ty)), (q 10, aI G 320 (rg zs)), (q 11, aZ G 16 sf)]) (fun _ => []) := by
  refine c_intro (cc := cX11_sizes) (maxL := 5) (ret := (some .int)) (by decide) rfl (Nat.le_of_ble_eq_true rfl) (fun _ => by simp only [List.map_cons, List.map_nil]) ?_
  intro p e s m args below meth c Q A X hr hin E
  change J p l e rm_X11_sizes s m args below meth c Q G A 5 0 0 0 [(0, .ref (q 0)), (1, .int ra), (2, .int rb)] [] [(q 0, .inr (10, mF t n q co cr po tx ty)), (q 10, aI G 320 (rg zs)), (q 11, aZ G 16 sf)]
  refine j_bipush (v := 19) X dX11_sizes_0 (by decide) ?_
  refine j_istore_n (L' := [(3, .int 19), (0, .ref (q 0)), (1, .int ra), (2, .int rb)]) X dX11_sizes_2 rfl (by decide) rfl ?_
  have loop : ∀ (d : Nat) (kk : Nat) (k : Int32) (hk : kk ≤ 20) (ht : k.toInt = (kk : Int) - 1) (he : zA zs aa / eP kk = zA zs bb / eP kk), kk < d → J p l e rm_X11_sizes s m args below meth c Q G A 5 0 0 3 [(0, .ref (q 0)), (1, .int ra), (2, .int rb), (3, .int k)] [] [(q 0, .inr (10, mF t n q co cr po tx ty)), (q 10, aI G 320 (rg zs)), (q 11, aZ G 16 sf)] := by
    intro d
    induction d with
    | zero => intro kk k hk ht he hd0; exact absurd hd0 (Nat.not_lt_zero _)
    | succ d ih =>
      intro kk k hk ht he hd0
      refine j_iload_n X dX11_sizes_3 rfl 3 rfl ?_
      refine j_if_lt (tgt := 54) X dX11_sizes_4 (by decide) (fun c_4 => ?_) (fun c_4 => ?_)
      · skip
        first | simp only [cmp_eq, cmp_lt, cmp_ge, cmp_gt, cmp_le, lT0, lT1] at c_4 | simp only [Int32.le_iff_toInt_le, Int32.lt_iff_toInt_lt, ← Int32.toInt_inj, iT0, iT1, iT2, iT3, iT4, iT5, iT6, iT7, iT8, iT9, iT10, iT11, iT12, iT13, iT14, iT15, iT16, iT19, iT20, iT31, iT32, iT42, iT64, iT200, iT318, iT319, iT1000, iTm1, iTm2] at c_4
        have hk0 : kk = 0 := by omega
        subst hk0
        rw [eP_0, Int.ediv_one, Int.ediv_one] at he
        refine j_iconst (v := 0) X dX11_sizes_54 rfl ?_
        exact E.2.1 55 _ 0 () _ dX11_sizes_55 (by rw [sg_zero (by omega)]) hr rfl
      · skip
        first | simp only [cmp_eq, cmp_lt, cmp_ge, cmp_gt, cmp_le, lT0, lT1] at c_4 | simp only [Int32.le_iff_toInt_le, Int32.lt_iff_toInt_lt, ← Int32.toInt_inj, iT0, iT1, iT2, iT3, iT4, iT5, iT6, iT7, iT8, iT9, iT10, iT11, iT12, iT13, iT14, iT15, iT16, iT19, iT20, iT31, iT32, iT42, iT64, iT200, iT318, iT319, iT1000, iTm1, iTm2] at c_4
        obtain ⟨kk, rfl⟩ : ∃ k1, kk = k1 + 1 := ⟨kk - 1, by omega⟩
        refine j_aload_n X dX11_sizes_7 rfl 0 rfl ?_
        refine j_get (v := .ref (q 10)) X dX11_sizes_8 0 rfl 12 rfl in_X11_sizes_X11 (by decide) fl_X11_sizes_39 rfl ?_
        refine j_bipush (v := 20) X dX11_sizes_11 (by decide) ?_
        refine j_iload_n X dX11_sizes_13 rfl 1 rfl ?_
        refine j_imul X dX11_sizes_14 ?_
        refine j_iload_n X dX11_sizes_15 rfl 3 rfl ?_
        refine j_iadd X dX11_sizes_16 ?_
        refine j_iald X dX11_sizes_17 1 rfl (20 * aa + kk) (i_nI (ix20 haa (by omega) gaa (by omega)) (by omega)) (by omega) (by decide) ?_
        refine j_aload_n X dX11_sizes_18 rfl 0 rfl ?_
        refine j_get (v := .ref (q 10)) X dX11_sizes_19 0 rfl 12 rfl in_X11_sizes_X11 (by decide) fl_X11_sizes_39 rfl ?_
        refine j_bipush (v := 20) X dX11_sizes_22 (by decide) ?_
        refine j_iload_n X dX11_sizes_24 rfl 2 rfl ?_
        refine j_imul X dX11_sizes_25 ?_
        refine j_iload_n X dX11_sizes_26 rfl 3 rfl ?_
        refine j_iadd X dX11_sizes_27 ?_
        refine j_iald X dX11_sizes_28 1 rfl (20 * bb + kk) (i_nI (ix20 hbb (by omega) gbb (by omega)) (by omega)) (by omega) (by decide) ?_
        refine j_isub X dX11_sizes_29 ?_
        refine j_topi (fun x_1 ex_1 => ?_)
        refine j_istore (L' := [(4, .int x_1), (0, .ref (q 0)), (1, .int ra), (2, .int rb), (3, .int k)]) X dX11_sizes_30 (by decide) rfl ?_
        refine j_iload X dX11_sizes_32 0 rfl ?_
        refine j_if_eq (tgt := 48) X dX11_sizes_34 (by decide) (fun c_34 => ?_) (fun c_34 => ?_)
        · skip
          first | simp only [cmp_eq, cmp_lt, cmp_ge, cmp_gt, cmp_le, lT0, lT1] at c_34 | simp only [Int32.le_iff_toInt_le, Int32.lt_iff_toInt_lt, ← Int32.toInt_inj, iT0, iT1, iT2, iT3, iT4, iT5, iT6, iT7, iT8, iT9, iT10, iT11, iT12, iT13, iT14, iT15, iT16, iT19, iT20, iT31, iT32, iT42, iT64, iT200, iT318, iT319, iT1000, iTm1, iTm2] at c_34
          obtain ⟨x_2, ex_2⟩ : ∃ y9 : Int32, y9 = k + (-1) := ⟨_, rfl⟩
          refine j_iinc (v := x_2) (L' := [(3, .int x_2), (4, .int x_1), (0, .ref (q 0)), (1, .int ra), (2, .int rb)]) X dX11_sizes_48 4 rfl (by rw [ex_2]; rfl) (by decide) rfl ?_
          refine j_goto (tgt := 3) X dX11_sizes_51 (by decide) ?_
          refine j_sub [2, 3, 4, 0] rfl ?_
          exact ih kk x_2 (by omega) (by rw [x_dec ht (by omega) ex_2]; omega) (ea_eq he (rg_at zs (by omega)) (rg_at zs (by omega)) (by rw [dsub ex_1 (rg_rng ..) (rg_rng ..)] at c_34; omega)) (by omega)
        · skip
          first | simp only [cmp_eq, cmp_lt, cmp_ge, cmp_gt, cmp_le, lT0, lT1] at c_34 | simp only [Int32.le_iff_toInt_le, Int32.lt_iff_toInt_lt, ← Int32.toInt_inj, iT0, iT1, iT2, iT3, iT4, iT5, iT6, iT7, iT8, iT9, iT10, iT11, iT12, iT13, iT14, iT15, iT16, iT19, iT20, iT31, iT32, iT42, iT64, iT200, iT318, iT319, iT1000, iTm1, iTm2] at c_34
          refine j_iload X dX11_sizes_37 0 rfl ?_
          refine j_if_ge (tgt := 46) X dX11_sizes_39 (by decide) (fun c_39 => ?_) (fun c_39 => ?_)
          · skip
            first | simp only [cmp_eq, cmp_lt, cmp_ge, cmp_gt, cmp_le, lT0, lT1] at c_39 | simp only [Int32.le_iff_toInt_le, Int32.lt_iff_toInt_lt, ← Int32.toInt_inj, iT0, iT1, iT2, iT3, iT4, iT5, iT6, iT7, iT8, iT9, iT10, iT11, iT12, iT13, iT14, iT15, iT16, iT19, iT20, iT31, iT32, iT42, iT64, iT200, iT318, iT319, iT1000, iTm1, iTm2] at c_39
            rw [dsub ex_1 (rg_rng ..) (rg_rng ..)] at c_39 c_34
            have hlt := ea_lt he.symm (rg_at zs (by omega)) (rg_at zs (by omega)) (show (rg zs (20 * bb + kk)).toInt < (rg zs (20 * aa + kk)).toInt by omega)
            refine j_iconst (v := 1) X dX11_sizes_46 rfl ?_
            exact E.2.1 47 _ 1 () _ dX11_sizes_47 (by rw [sg_pos (by omega)]) hr rfl
          · skip
            first | simp only [cmp_eq, cmp_lt, cmp_ge, cmp_gt, cmp_le, lT0, lT1] at c_39 | simp only [Int32.le_iff_toInt_le, Int32.lt_iff_toInt_lt, ← Int32.toInt_inj, iT0, iT1, iT2, iT3, iT4, iT5, iT6, iT7, iT8, iT9, iT10, iT11, iT12, iT13, iT14, iT15, iT16, iT19, iT20, iT31, iT32, iT42, iT64, iT200, iT318, iT319, iT1000, iTm1, iTm2] at c_39
            rw [dsub ex_1 (rg_rng ..) (rg_rng ..)] at c_39 c_34
            have hlt := ea_lt he (rg_at zs (by omega)) (rg_at zs (by omega)) (show (rg zs (20 * aa + kk)).toInt < (rg zs (20 * bb + kk)).toInt by omega)
            refine j_iconst (v := (-1)) X dX11_sizes_42 rfl ?_
            refine j_goto (tgt := 47) X dX11_sizes_43 (by decide) ?_
            exact E.2.1 47 _ (-1) () _ dX11_sizes_47 (by rw [sg_neg (by omega)]) hr rfl
  refine j_sub [1, 2, 3, 0] rfl ?_
  exact loop 21 20 19 (by omega) rfl (by rw [eP_20]; unfold zA; omega) (by omega)

theorem hy_X11_sizes_V : yX11_sizes.cls = RX11 ∧ yX11_sizes.cls ≠ "java/lang/invoke/MethodHandle" ∧ yX11_sizes.cls ≠ "java/lang/invoke/VarHandle" ∧ (parseMethodDescriptor yX11_sizes.desc).map (fun d => d.parameters.length) = some 2 := by decide +kernel
abbrev rm_X11_doubled : Room := { frames := 0, cells := 0, slots := 0, locals := 0 }
theorem in_X11_doubled_X11 : ∀ w ∈ u_ws RX11 TX11 19, w ∈ wsX11_doubled := by decide +kernel
theorem fl_X11_doubled_39 : Cond.fieldLink RX11 39 (TX11 12).1 (TX11 12).2.1 (TX11 12).2.2.1 ∈ wsX11_doubled := by decide +kernel
theorem k_X11_doubled_66 : Cond.constant RX11 66 (65535) ∈ wsX11_doubled := by decide +kernel
set_option maxHeartbeats 4000000 in
set_option maxRecDepth 100000 in
theorem c_X11_doubled (l : Launch) (G : jG) (q : Nat → Nat) (t n co cr po : Int32) (tx ty : Int64) (zs : List Int) (hl : zs.length = 16) (sf : Nat → Int32) (r : Int32) (dd : Nat) (hdd : r.toInt = dd) (gdd : dd < 16) (b0 : Int32) (hb0 : b0.toInt = 0 ∨ b0.toInt = 1) (hz : 0 ≤ zs.getD dd 0) : Ct l yX11_doubled wsX11_doubled rm_X11_doubled G [.ref (q 0), .int r, .int b0] [(q 0, .inr (10, mF t n q co cr po tx ty)), (q 10, aI G 320 (rg zs)), (q 11, aZ G 16 sf)] (S := Unit) (fun r _ => r = none) (fun _ => [(q 0, .inr (10, mF t n q co cr po tx ty)), (q 10, aI G 320 (rg (zs.set dd (2 * zs.getD dd 0 + b0.toInt)))), (q 11, aZ G 16 sf)]) (fun _ => []) := by
  refine c_intro (cc := cX11_doubled) (maxL := 6) (ret := none) (by decide) rfl (Nat.le_of_ble_eq_true rfl) (fun _ => by simp only [List.map_cons, List.map_nil]) ?_
  intro p e s m args below meth c Q A X hr hin E
  change J p l e rm_X11_doubled s m args below meth c Q G A 6 0 0 0 [(0, .ref (q 0)), (1, .int r), (2, .int b0)] [] [(q 0, .inr (10, mF t n q co cr po tx ty)), (q 10, aI G 320 (rg zs)), (q 11, aZ G 16 sf)]
  refine j_iload_n X dX11_doubled_0 rfl 2 rfl ?_
  refine j_istore_n (L' := [(3, .int b0), (0, .ref (q 0)), (1, .int r), (2, .int b0)]) X dX11_doubled_1 rfl (by decide) rfl ?_
  refine j_iconst (v := 0) X dX11_doubled_2 rfl ?_
  refine j_istore (L' := [(4, .int 0), (3, .int b0), (0, .ref (q 0)), (1, .int r), (2, .int b0)]) X dX11_doubled_3 (by decide) rfl ?_
  have loop : ∀ (d : Nat) (i : Nat) (k c3 : Int32) (g : Nat → Int32) (hi : i ≤ 20) (hx : k.toInt = i) (hr1 : c3.toInt = (2 * (zA zs dd % eP i) + b0.toInt) / eP i) (hg1 : ∀ j, j < i → g (20 * dd + j) = eg (2 * zA zs dd + b0.toInt) j) (hg2 : ∀ k, k < 320 → k / 20 ≠ dd → g k = rg zs k) (hg3 : ∀ j, i ≤ j → j < 20 → g (20 * dd + j) = eg (zA zs dd) j), 20 - i < d → J p l e rm_X11_doubled s m args below meth c Q G A 6 0 0 5 [(0, .ref (q 0)), (1, .int r), (3, .int c3), (4, .int k)] [] [(q 0, .inr (10, mF t n q co cr po tx ty)), (q 10, aI G 320 g), (q 11, aZ G 16 sf)] := by
    intro d
    induction d with
    | zero => intro i k c3 g hi hx hr1 hg1 hg2 hg3 hd0; exact absurd hd0 (Nat.not_lt_zero _)
    | succ d ih =>
      intro i k c3 g hi hx hr1 hg1 hg2 hg3 hd0
      refine j_iload X dX11_doubled_5 3 rfl ?_
      refine j_bipush (v := 20) X dX11_doubled_7 (by decide) ?_
      refine j_icmp_ge (tgt := 59) X dX11_doubled_9 (by decide) (fun c_9 => ?_) (fun c_9 => ?_)
      · skip
        first | simp only [cmp_eq, cmp_lt, cmp_ge, cmp_gt, cmp_le, lT0, lT1] at c_9 | simp only [Int32.le_iff_toInt_le, Int32.lt_iff_toInt_lt, ← Int32.toInt_inj, iT0, iT1, iT2, iT3, iT4, iT5, iT6, iT7, iT8, iT9, iT10, iT11, iT12, iT13, iT14, iT15, iT16, iT19, iT20, iT31, iT32, iT42, iT64, iT200, iT318, iT319, iT1000, iTm1, iTm2] at c_9
        have hN : ((2 * zs.getD dd 0 + b0.toInt).natAbs : Int) = 2 * zA zs dd + b0.toInt := by unfold zA; omega
        refine j_setI (g := rg (zs.set dd (2 * zs.getD dd 0 + b0.toInt))) 1 rfl (rg_set hl gdd (fun j hj => by rw [hN]; exact hg1 j (by omega)) hg2) rfl ?_
        exact E.1 59 _ () dX11_doubled_59 rfl hr
      · skip
        first | simp only [cmp_eq, cmp_lt, cmp_ge, cmp_gt, cmp_le, lT0, lT1] at c_9 | simp only [Int32.le_iff_toInt_le, Int32.lt_iff_toInt_lt, ← Int32.toInt_inj, iT0, iT1, iT2, iT3, iT4, iT5, iT6, iT7, iT8, iT9, iT10, iT11, iT12, iT13, iT14, iT15, iT16, iT19, iT20, iT31, iT32, iT42, iT64, iT200, iT318, iT319, iT1000, iTm1, iTm2] at c_9
        refine j_iconst (v := 2) X dX11_doubled_12 rfl ?_
        refine j_aload_n X dX11_doubled_13 rfl 0 rfl ?_
        refine j_get (v := .ref (q 10)) X dX11_doubled_14 0 rfl 12 rfl in_X11_doubled_X11 (by decide) fl_X11_doubled_39 rfl ?_
        refine j_bipush (v := 20) X dX11_doubled_17 (by decide) ?_
        refine j_iload_n X dX11_doubled_19 rfl 1 rfl ?_
        refine j_imul X dX11_doubled_20 ?_
        refine j_iload X dX11_doubled_21 3 rfl ?_
        refine j_iadd X dX11_doubled_23 ?_
        refine j_iald X dX11_doubled_24 1 rfl (20 * dd + i) (i_nI (ix20 hdd hx gdd (by omega)) (by omega)) (by omega) (by decide) ?_
        refine j_imul X dX11_doubled_25 ?_
        refine j_iload_n X dX11_doubled_26 rfl 2 rfl ?_
        refine j_iadd X dX11_doubled_27 ?_
        refine j_topi (fun x_1 ex_1 => ?_)
        refine j_istore (L' := [(5, .int x_1), (0, .ref (q 0)), (1, .int r), (3, .int c3), (4, .int k)]) X dX11_doubled_28 (by decide) rfl ?_
        refine j_aload_n X dX11_doubled_30 rfl 1 rfl ?_
        refine j_get (v := .ref (q 10)) X dX11_doubled_31 0 rfl 12 rfl in_X11_doubled_X11 (by decide) fl_X11_doubled_39 rfl ?_
        refine j_bipush (v := 20) X dX11_doubled_34 (by decide) ?_
        refine j_iload_n X dX11_doubled_36 rfl 2 rfl ?_
        refine j_imul X dX11_doubled_37 ?_
        refine j_iload X dX11_doubled_38 4 rfl ?_
        refine j_iadd X dX11_doubled_40 ?_
        refine j_iload X dX11_doubled_41 0 rfl ?_
        refine j_ldc (v := 65535) X dX11_doubled_43 k_X11_doubled_66 ?_
        refine j_iand X dX11_doubled_45 ?_
        refine j_topi (fun x_2 ex_2 => ?_)
        refine j_iast (ws' := [(q 0, .inr (10, mF t n q co cr po tx ty)), (q 10, aI G 320 (upd g (20 * dd + i) x_2)), (q 11, aZ G 16 sf)]) X dX11_doubled_46 1 rfl (20 * dd + i) (i_nI (ix20 hdd hx gdd (by omega)) (by omega)) (by omega) (by decide) rfl ?_
        refine j_iload X dX11_doubled_47 0 rfl ?_
        refine j_bipush (v := 16) X dX11_doubled_49 (by decide) ?_
        refine j_ishr X dX11_doubled_51 ?_
        refine j_topi (fun x_3 ex_3 => ?_)
        refine j_istore_n (L' := [(3, .int x_3), (5, .int x_1), (0, .ref (q 0)), (1, .int r), (4, .int k)]) X dX11_doubled_52 rfl (by decide) rfl ?_
        obtain ⟨x_4, ex_4⟩ : ∃ y9 : Int32, y9 = k + 1 := ⟨_, rfl⟩
        refine j_iinc (v := x_4) (L' := [(4, .int x_4), (3, .int x_3), (5, .int x_1), (0, .ref (q 0)), (1, .int r)]) X dX11_doubled_53 4 rfl (by rw [ex_4]; rfl) (by decide) rfl ?_
        refine j_goto (tgt := 5) X dX11_doubled_56 (by decide) ?_
        refine j_sub [3, 4, 1, 0] rfl ?_
        exact ih (i + 1) x_4 x_3 (upd g (20 * dd + i) x_2) (by omega) (x_s hx (by omega) ex_4) (ed_c (hg3 i (Nat.le_refl i) (by omega)) hb0 hr1 ex_1 ex_3) (r_step hg1 (ex_2.trans (ed_d (hg3 i (Nat.le_refl i) (by omega)) hb0 hr1 ex_1))) (r_rest (by omega) hg2) (r_tail hg3) (by omega)
  refine j_sub [2, 3, 1, 0] rfl ?_
  exact loop 21 0 0 b0 (rg zs) (by omega) rfl (by rw [eP_0]; omega) (fun j hj => absurd hj (Nat.not_lt_zero j)) (fun k _ _ => rfl) (fun j _ hj => rg_at zs hj) (by omega)

theorem hy_X11_doubled_V : yX11_doubled.cls = RX11 ∧ yX11_doubled.cls ≠ "java/lang/invoke/MethodHandle" ∧ yX11_doubled.cls ≠ "java/lang/invoke/VarHandle" ∧ (parseMethodDescriptor yX11_doubled.desc).map (fun d => d.parameters.length) = some 2 := by decide +kernel
abbrev rm_X11_takeAway : Room := { frames := 0, cells := 0, slots := 0, locals := 0 }
theorem in_X11_takeAway_X11 : ∀ w ∈ u_ws RX11 TX11 19, w ∈ wsX11_takeAway := by decide +kernel
theorem fl_X11_takeAway_39 : Cond.fieldLink RX11 39 (TX11 12).1 (TX11 12).2.1 (TX11 12).2.2.1 ∈ wsX11_takeAway := by decide +kernel
theorem k_X11_takeAway_66 : Cond.constant RX11 66 (65535) ∈ wsX11_takeAway := by decide +kernel
set_option maxHeartbeats 4000000 in
set_option maxRecDepth 100000 in
theorem c_X11_takeAway (l : Launch) (G : jG) (q : Nat → Nat) (t n co cr po : Int32) (tx ty : Int64) (zs : List Int) (hl : zs.length = 16) (sf : Nat → Int32) (r : Int32) (dd : Nat) (hdd : r.toInt = dd) (gdd : dd < 16) (rb : Int32) (bb : Nat) (hbb : rb.toInt = bb) (gbb : bb < 16) (hne : dd ≠ bb) (hz : zA zs bb ≤ zs.getD dd 0) : Ct l yX11_takeAway wsX11_takeAway rm_X11_takeAway G [.ref (q 0), .int r, .int rb] [(q 0, .inr (10, mF t n q co cr po tx ty)), (q 10, aI G 320 (rg zs)), (q 11, aZ G 16 sf)] (S := Unit) (fun r _ => r = none) (fun _ => [(q 0, .inr (10, mF t n q co cr po tx ty)), (q 10, aI G 320 (rg (zs.set dd (zs.getD dd 0 - zA zs bb)))), (q 11, aZ G 16 sf)]) (fun _ => []) := by
  refine c_intro (cc := cX11_takeAway) (maxL := 6) (ret := none) (by decide) rfl (Nat.le_of_ble_eq_true rfl) (fun _ => by simp only [List.map_cons, List.map_nil]) ?_
  intro p e s m args below meth c Q A X hr hin E
  change J p l e rm_X11_takeAway s m args below meth c Q G A 6 0 0 0 [(0, .ref (q 0)), (1, .int r), (2, .int rb)] [] [(q 0, .inr (10, mF t n q co cr po tx ty)), (q 10, aI G 320 (rg zs)), (q 11, aZ G 16 sf)]
  refine j_iconst (v := 0) X dX11_takeAway_0 rfl ?_
  refine j_istore_n (L' := [(3, .int 0), (0, .ref (q 0)), (1, .int r), (2, .int rb)]) X dX11_takeAway_1 rfl (by decide) rfl ?_
  refine j_iconst (v := 0) X dX11_takeAway_2 rfl ?_
  refine j_istore (L' := [(4, .int 0), (3, .int 0), (0, .ref (q 0)), (1, .int r), (2, .int rb)]) X dX11_takeAway_3 (by decide) rfl ?_
  have loop : ∀ (d : Nat) (i : Nat) (k c3 : Int32) (g : Nat → Int32) (hi : i ≤ 20) (hx : k.toInt = i) (hr1 : c3.toInt = -((zA zs dd % eP i - zA zs bb % eP i) / eP i)) (hg1 : ∀ j, j < i → g (20 * dd + j) = eg (zA zs dd - zA zs bb) j) (hg2 : ∀ k, k < 320 → k / 20 ≠ dd → g k = rg zs k) (hg3 : ∀ j, i ≤ j → j < 20 → g (20 * dd + j) = eg (zA zs dd) j), 20 - i < d → J p l e rm_X11_takeAway s m args below meth c Q G A 6 0 0 5 [(0, .ref (q 0)), (1, .int r), (2, .int rb), (3, .int c3), (4, .int k)] [] [(q 0, .inr (10, mF t n q co cr po tx ty)), (q 10, aI G 320 g), (q 11, aZ G 16 sf)] := by
    intro d
    induction d with
    | zero => intro i k c3 g hi hx hr1 hg1 hg2 hg3 hd0; exact absurd hd0 (Nat.not_lt_zero _)
    | succ d ih =>
      intro i k c3 g hi hx hr1 hg1 hg2 hg3 hd0
      refine j_iload X dX11_takeAway_5 4 rfl ?_
      refine j_bipush (v := 20) X dX11_takeAway_7 (by decide) ?_
      refine j_icmp_ge (tgt := 75) X dX11_takeAway_9 (by decide) (fun c_9 => ?_) (fun c_9 => ?_)
      · skip
        first | simp only [cmp_eq, cmp_lt, cmp_ge, cmp_gt, cmp_le, lT0, lT1] at c_9 | simp only [Int32.le_iff_toInt_le, Int32.lt_iff_toInt_lt, ← Int32.toInt_inj, iT0, iT1, iT2, iT3, iT4, iT5, iT6, iT7, iT8, iT9, iT10, iT11, iT12, iT13, iT14, iT15, iT16, iT19, iT20, iT31, iT32, iT42, iT64, iT200, iT318, iT319, iT1000, iTm1, iTm2] at c_9
        have hb0 := zA_nn zs bb
        have hN : ((zs.getD dd 0 - zA zs bb).natAbs : Int) = zA zs dd - zA zs bb := by unfold zA at *; omega
        refine j_setI (g := rg (zs.set dd (zs.getD dd 0 - zA zs bb))) 1 rfl (rg_set hl gdd (fun j hj => by rw [hN]; exact hg1 j (by omega)) hg2) rfl ?_
        exact E.1 75 _ () dX11_takeAway_75 rfl hr
      · skip
        first | simp only [cmp_eq, cmp_lt, cmp_ge, cmp_gt, cmp_le, lT0, lT1] at c_9 | simp only [Int32.le_iff_toInt_le, Int32.lt_iff_toInt_lt, ← Int32.toInt_inj, iT0, iT1, iT2, iT3, iT4, iT5, iT6, iT7, iT8, iT9, iT10, iT11, iT12, iT13, iT14, iT15, iT16, iT19, iT20, iT31, iT32, iT42, iT64, iT200, iT318, iT319, iT1000, iTm1, iTm2] at c_9
        refine j_aload_n X dX11_takeAway_12 rfl 0 rfl ?_
        refine j_get (v := .ref (q 10)) X dX11_takeAway_13 0 rfl 12 rfl in_X11_takeAway_X11 (by decide) fl_X11_takeAway_39 rfl ?_
        refine j_bipush (v := 20) X dX11_takeAway_16 (by decide) ?_
        refine j_iload_n X dX11_takeAway_18 rfl 1 rfl ?_
        refine j_imul X dX11_takeAway_19 ?_
        refine j_iload X dX11_takeAway_20 4 rfl ?_
        refine j_iadd X dX11_takeAway_22 ?_
        refine j_iald X dX11_takeAway_23 1 rfl (20 * dd + i) (i_nI (ix20 hdd hx gdd (by omega)) (by omega)) (by omega) (by decide) ?_
        refine j_aload_n X dX11_takeAway_24 rfl 0 rfl ?_
        refine j_get (v := .ref (q 10)) X dX11_takeAway_25 0 rfl 12 rfl in_X11_takeAway_X11 (by decide) fl_X11_takeAway_39 rfl ?_
        refine j_bipush (v := 20) X dX11_takeAway_28 (by decide) ?_
        refine j_iload_n X dX11_takeAway_30 rfl 2 rfl ?_
        refine j_imul X dX11_takeAway_31 ?_
        refine j_iload X dX11_takeAway_32 4 rfl ?_
        refine j_iadd X dX11_takeAway_34 ?_
        refine j_iald X dX11_takeAway_35 1 rfl (20 * bb + i) (i_nI (ix20 hbb hx gbb (by omega)) (by omega)) (by omega) (by decide) ?_
        refine j_isub X dX11_takeAway_36 ?_
        refine j_iload_n X dX11_takeAway_37 rfl 3 rfl ?_
        refine j_isub X dX11_takeAway_38 ?_
        refine j_topi (fun x_1 ex_1 => ?_)
        refine j_istore (L' := [(5, .int x_1), (0, .ref (q 0)), (1, .int r), (2, .int rb), (3, .int c3), (4, .int k)]) X dX11_takeAway_39 (by decide) rfl ?_
        refine j_aload_n X dX11_takeAway_41 rfl 1 rfl ?_
        refine j_get (v := .ref (q 10)) X dX11_takeAway_42 0 rfl 12 rfl in_X11_takeAway_X11 (by decide) fl_X11_takeAway_39 rfl ?_
        refine j_bipush (v := 20) X dX11_takeAway_45 (by decide) ?_
        refine j_iload_n X dX11_takeAway_47 rfl 2 rfl ?_
        refine j_imul X dX11_takeAway_48 ?_
        refine j_iload X dX11_takeAway_49 5 rfl ?_
        refine j_iadd X dX11_takeAway_51 ?_
        refine j_iload X dX11_takeAway_52 0 rfl ?_
        refine j_ldc (v := 65535) X dX11_takeAway_54 k_X11_takeAway_66 ?_
        refine j_iand X dX11_takeAway_56 ?_
        refine j_topi (fun x_2 ex_2 => ?_)
        refine j_iast (ws' := [(q 0, .inr (10, mF t n q co cr po tx ty)), (q 10, aI G 320 (upd g (20 * dd + i) x_2)), (q 11, aZ G 16 sf)]) X dX11_takeAway_57 1 rfl (20 * dd + i) (i_nI (ix20 hdd hx gdd (by omega)) (by omega)) (by omega) (by decide) rfl ?_
        refine j_iload X dX11_takeAway_58 0 rfl ?_
        have cut68 : ∀ (c4 : Int32) (hc4 : (x_1.toInt < 0 ∧ c4.toInt = 1) ∨ (0 ≤ x_1.toInt ∧ c4.toInt = 0)), J p l e rm_X11_takeAway s m args below meth c Q G A 6 0 0 68 [(5, .int x_1), (0, .ref (q 0)), (1, .int r), (2, .int rb), (3, .int c3), (4, .int k)] [.int c4] [(q 0, .inr (10, mF t n q co cr po tx ty)), (q 10, aI G 320 (upd g (20 * dd + i) x_2)), (q 11, aZ G 16 sf)] := by
          intro c4 hc4
          refine j_istore_n (L' := [(3, .int c4), (5, .int x_1), (0, .ref (q 0)), (1, .int r), (2, .int rb), (4, .int k)]) X dX11_takeAway_68 rfl (by decide) rfl ?_
          obtain ⟨x_3, ex_3⟩ : ∃ y9 : Int32, y9 = k + 1 := ⟨_, rfl⟩
          refine j_iinc (v := x_3) (L' := [(4, .int x_3), (3, .int c4), (5, .int x_1), (0, .ref (q 0)), (1, .int r), (2, .int rb)]) X dX11_takeAway_69 5 rfl (by rw [ex_3]; rfl) (by decide) rfl ?_
          refine j_goto (tgt := 5) X dX11_takeAway_72 (by decide) ?_
          refine j_sub [3, 4, 5, 1, 0] rfl ?_
          exact ih (i + 1) x_3 c4 (upd g (20 * dd + i) x_2) (by omega) (x_s hx (by omega) ex_3) (ek_c (hg3 i (Nat.le_refl i) (by omega)) ((hg2 _ (by omega) (by omega)).trans (rg_at zs (by omega))) hr1 ex_1 hc4) (r_step hg1 (ex_2.trans (ek_d (hg3 i (Nat.le_refl i) (by omega)) ((hg2 _ (by omega) (by omega)).trans (rg_at zs (by omega))) hr1 ex_1))) (r_rest (by omega) hg2) (r_tail hg3) (by omega)
        refine j_if_ge (tgt := 67) X dX11_takeAway_60 (by decide) (fun c_60 => ?_) (fun c_60 => ?_)
        · skip
          first | simp only [cmp_eq, cmp_lt, cmp_ge, cmp_gt, cmp_le, lT0, lT1] at c_60 | simp only [Int32.le_iff_toInt_le, Int32.lt_iff_toInt_lt, ← Int32.toInt_inj, iT0, iT1, iT2, iT3, iT4, iT5, iT6, iT7, iT8, iT9, iT10, iT11, iT12, iT13, iT14, iT15, iT16, iT19, iT20, iT31, iT32, iT42, iT64, iT200, iT318, iT319, iT1000, iTm1, iTm2] at c_60
          refine j_iconst (v := 0) X dX11_takeAway_67 rfl ?_
          exact cut68 0 (by exact Or.inr ⟨by omega, rfl⟩)
        · skip
          first | simp only [cmp_eq, cmp_lt, cmp_ge, cmp_gt, cmp_le, lT0, lT1] at c_60 | simp only [Int32.le_iff_toInt_le, Int32.lt_iff_toInt_lt, ← Int32.toInt_inj, iT0, iT1, iT2, iT3, iT4, iT5, iT6, iT7, iT8, iT9, iT10, iT11, iT12, iT13, iT14, iT15, iT16, iT19, iT20, iT31, iT32, iT42, iT64, iT200, iT318, iT319, iT1000, iTm1, iTm2] at c_60
          refine j_iconst (v := 1) X dX11_takeAway_63 rfl ?_
          refine j_goto (tgt := 68) X dX11_takeAway_64 (by decide) ?_
          exact cut68 1 (by exact Or.inl ⟨by omega, rfl⟩)
  refine j_sub [2, 3, 4, 1, 0] rfl ?_
  exact loop 21 0 0 0 (rg zs) (by omega) rfl (by rw [eP_0, iT0]; omega) (fun j hj => absurd hj (Nat.not_lt_zero j)) (fun k _ _ => rfl) (fun j _ hj => rg_at zs hj) (by omega)

theorem hy_X11_takeAway_V : yX11_takeAway.cls = RX11 ∧ yX11_takeAway.cls ≠ "java/lang/invoke/MethodHandle" ∧ yX11_takeAway.cls ≠ "java/lang/invoke/VarHandle" ∧ (parseMethodDescriptor yX11_takeAway.desc).map (fun d => d.parameters.length) = some 2 := by decide +kernel
