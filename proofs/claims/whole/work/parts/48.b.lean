abbrev rm_X11_isTurned : Room := { frames := 0, cells := 0, slots := 0, locals := 0 }
theorem in_X11_isTurned_X11 : ∀ w ∈ u_ws RX11 TX11 19, w ∈ wsX11_isTurned := by decide +kernel
theorem fl_X11_isTurned_26 : Cond.fieldLink RX11 26 (TX11 7).1 (TX11 7).2.1 (TX11 7).2.2.1 ∈ wsX11_isTurned := by decide +kernel
theorem fl_X11_isTurned_30 : Cond.fieldLink RX11 30 (TX11 8).1 (TX11 8).2.1 (TX11 8).2.2.1 ∈ wsX11_isTurned := by decide +kernel
set_option maxHeartbeats 4000000 in
set_option maxRecDepth 100000 in
theorem c_X11_isTurned (l : Launch) (G : jG) (q : Nat → Nat) (t n co cr po : Int32) (tx ty : Int64) (fr to1 : Nat → Int32) (a : Nat) (ga : a < 200) (p0 : Int32) (hp : 0 ≤ p0.toInt ∧ p0.toInt < 16) (hf : 0 ≤ (fr a).toInt ∧ (fr a).toInt < 8) (ht : 0 ≤ (to1 a).toInt ∧ (to1 a).toInt < 8) : Ct l yX11_isTurned wsX11_isTurned rm_X11_isTurned G [.ref (q 0), .int (nI a), .int p0] [(q 0, .inr (10, mF t n q co cr po tx ty)), (q 6, aI G 200 fr), (q 7, aI G 200 to1)] (S := Unit) (fun r _ => r = some (.int (bI (trn (fr a).toInt (to1 a).toInt p0.toInt)))) (fun _ => [(q 0, .inr (10, mF t n q co cr po tx ty)), (q 6, aI G 200 fr), (q 7, aI G 200 to1)]) (fun _ => []) := by
  refine c_intro (cc := cX11_isTurned) (maxL := 3) (ret := (some .boolean)) (by decide) rfl (Nat.le_of_ble_eq_true rfl) (fun _ => by simp only [List.map_cons, List.map_nil]) ?_
  intro p e s m args below meth c Q A X hr hin E
  change J p l e rm_X11_isTurned s m args below meth c Q G A 3 0 0 0 [(0, .ref (q 0)), (1, .int (nI a)), (2, .int p0)] [] [(q 0, .inr (10, mF t n q co cr po tx ty)), (q 6, aI G 200 fr), (q 7, aI G 200 to1)]
  refine j_aload_n X dX11_isTurned_0 rfl 0 rfl ?_
  refine j_get (v := .ref (q 6)) X dX11_isTurned_1 0 rfl 7 rfl in_X11_isTurned_X11 (by decide) fl_X11_isTurned_26 rfl ?_
  refine j_iload_n X dX11_isTurned_4 rfl 1 rfl ?_
  refine j_iald X dX11_isTurned_5 1 rfl a rfl ga (by decide) ?_
  refine j_aload_n X dX11_isTurned_6 rfl 0 rfl ?_
  refine j_get (v := .ref (q 7)) X dX11_isTurned_7 0 rfl 8 rfl in_X11_isTurned_X11 (by decide) fl_X11_isTurned_30 rfl ?_
  refine j_iload_n X dX11_isTurned_10 rfl 1 rfl ?_
  refine j_iald X dX11_isTurned_11 2 rfl a rfl ga (by decide) ?_
  refine j_icmp_ne (tgt := 17) X dX11_isTurned_12 (by decide) (fun c_12 => ?_) (fun c_12 => ?_)
  · skip
    first | simp only [bI_0, Decidable.not_not, sg_mul, sg_e0, sg_l0, sg_g0, sg_le0, sg_ge0, cmp_eq, cmp_lt, cmp_ge, cmp_gt, cmp_le, lT0, lT1] at c_12 | simp only [Int32.le_iff_toInt_le, Int32.lt_iff_toInt_lt, ← Int32.toInt_inj, iT0, iT1, iT2, iT3, iT4, iT5, iT6, iT7, iT8, iT9, iT10, iT11, iT12, iT13, iT14, iT15, iT16, iT19, iT20, iT31, iT32, iT42, iT64, iT200, iT318, iT319, iT1000, iTm1, iTm2] at c_12 | skip
    refine j_iload_n X dX11_isTurned_17 rfl 2 rfl ?_
    refine j_iconst (v := 2) X dX11_isTurned_18 rfl ?_
    refine j_aload_n X dX11_isTurned_19 rfl 0 rfl ?_
    refine j_get (v := .ref (q 6)) X dX11_isTurned_20 0 rfl 7 rfl in_X11_isTurned_X11 (by decide) fl_X11_isTurned_26 rfl ?_
    refine j_iload_n X dX11_isTurned_23 rfl 1 rfl ?_
    refine j_iald X dX11_isTurned_24 1 rfl a rfl ga (by decide) ?_
    refine j_imul X dX11_isTurned_25 ?_
    refine j_isub X dX11_isTurned_26 ?_
    refine j_bipush (v := 16) X dX11_isTurned_27 (by decide) ?_
    refine j_iadd X dX11_isTurned_29 ?_
    refine j_bipush (v := 16) X dX11_isTurned_30 (by decide) ?_
    refine j_irem X dX11_isTurned_32 (by decide) ?_
    refine j_iconst (v := 2) X dX11_isTurned_33 rfl ?_
    refine j_aload_n X dX11_isTurned_34 rfl 0 rfl ?_
    refine j_get (v := .ref (q 7)) X dX11_isTurned_35 0 rfl 8 rfl in_X11_isTurned_X11 (by decide) fl_X11_isTurned_30 rfl ?_
    refine j_iload_n X dX11_isTurned_38 rfl 1 rfl ?_
    refine j_iald X dX11_isTurned_39 2 rfl a rfl ga (by decide) ?_
    refine j_imul X dX11_isTurned_40 ?_
    refine j_iconst (v := 2) X dX11_isTurned_41 rfl ?_
    refine j_aload_n X dX11_isTurned_42 rfl 0 rfl ?_
    refine j_get (v := .ref (q 6)) X dX11_isTurned_43 0 rfl 7 rfl in_X11_isTurned_X11 (by decide) fl_X11_isTurned_26 rfl ?_
    refine j_iload_n X dX11_isTurned_46 rfl 1 rfl ?_
    refine j_iald X dX11_isTurned_47 1 rfl a rfl ga (by decide) ?_
    refine j_imul X dX11_isTurned_48 ?_
    refine j_isub X dX11_isTurned_49 ?_
    refine j_bipush (v := 16) X dX11_isTurned_50 (by decide) ?_
    refine j_iadd X dX11_isTurned_52 ?_
    refine j_bipush (v := 16) X dX11_isTurned_53 (by decide) ?_
    refine j_irem X dX11_isTurned_55 (by decide) ?_
    refine j_icmp_gt (tgt := 63) X dX11_isTurned_56 (by decide) (fun c_56 => ?_) (fun c_56 => ?_)
    · skip
      first | simp only [bI_0, Decidable.not_not, sg_mul, sg_e0, sg_l0, sg_g0, sg_le0, sg_ge0, cmp_eq, cmp_lt, cmp_ge, cmp_gt, cmp_le, lT0, lT1] at c_56 | simp only [Int32.le_iff_toInt_le, Int32.lt_iff_toInt_lt, ← Int32.toInt_inj, iT0, iT1, iT2, iT3, iT4, iT5, iT6, iT7, iT8, iT9, iT10, iT11, iT12, iT13, iT14, iT15, iT16, iT19, iT20, iT31, iT32, iT42, iT64, iT200, iT318, iT319, iT1000, iTm1, iTm2] at c_56 | skip
      have hi := isT_eq hp hf ht rfl rfl
      rw [hi.1, hi.2] at c_56
      refine j_iconst (v := 0) X dX11_isTurned_63 rfl ?_
      exact E.2.1 64 _ 0 () _ dX11_isTurned_64 (by rw [bI_f (by omega)]) hr rfl
    · skip
      first | simp only [bI_0, Decidable.not_not, sg_mul, sg_e0, sg_l0, sg_g0, sg_le0, sg_ge0, cmp_eq, cmp_lt, cmp_ge, cmp_gt, cmp_le, lT0, lT1] at c_56 | simp only [Int32.le_iff_toInt_le, Int32.lt_iff_toInt_lt, ← Int32.toInt_inj, iT0, iT1, iT2, iT3, iT4, iT5, iT6, iT7, iT8, iT9, iT10, iT11, iT12, iT13, iT14, iT15, iT16, iT19, iT20, iT31, iT32, iT42, iT64, iT200, iT318, iT319, iT1000, iTm1, iTm2] at c_56 | skip
      have hi := isT_eq hp hf ht rfl rfl
      rw [hi.1, hi.2] at c_56
      refine j_iconst (v := 1) X dX11_isTurned_59 rfl ?_
      refine j_goto (tgt := 64) X dX11_isTurned_60 (by decide) ?_
      exact E.2.1 64 _ 1 () _ dX11_isTurned_64 (by rw [bI_t (by omega)]) hr rfl
  · skip
    first | simp only [bI_0, Decidable.not_not, sg_mul, sg_e0, sg_l0, sg_g0, sg_le0, sg_ge0, cmp_eq, cmp_lt, cmp_ge, cmp_gt, cmp_le, lT0, lT1] at c_12 | simp only [Int32.le_iff_toInt_le, Int32.lt_iff_toInt_lt, ← Int32.toInt_inj, iT0, iT1, iT2, iT3, iT4, iT5, iT6, iT7, iT8, iT9, iT10, iT11, iT12, iT13, iT14, iT15, iT16, iT19, iT20, iT31, iT32, iT42, iT64, iT200, iT318, iT319, iT1000, iTm1, iTm2] at c_12 | skip
    refine j_iconst (v := 1) X dX11_isTurned_15 rfl ?_
    exact E.2.1 16 _ 1 () _ dX11_isTurned_16 (by rw [bI_t (by omega)]) hr rfl

theorem hy_X11_isTurned_V : yX11_isTurned.cls = RX11 ∧ yX11_isTurned.cls ≠ "java/lang/invoke/MethodHandle" ∧ yX11_isTurned.cls ≠ "java/lang/invoke/VarHandle" ∧ (parseMethodDescriptor yX11_isTurned.desc).map (fun d => d.parameters.length) = some 2 := by decide +kernel
abbrev rm_X11_on : Room := { frames := 5, cells := 0, slots := 0, locals := 143 }
theorem in_X11_on_X11 : ∀ w ∈ u_ws RX11 TX11 19, w ∈ wsX11_on := by decide +kernel
theorem fl_X11_on_48 : Cond.fieldLink RX11 48 (TX11 0).1 (TX11 0).2.1 (TX11 0).2.2.1 ∈ wsX11_on := by decide +kernel
set_option maxHeartbeats 4000000 in
set_option maxRecDepth 100000 in
theorem c_X11_on_1 (l : Launch) (G : jG) (q : Nat → Nat) (t n co cr po : Int32) (tx ty : Int64) (x1 : Int32) (x y : Int64) (hP : ¬ (0 ≤ x1.toInt ∧ x1.toInt < n.toInt)) : Ct l yX11_on wsX11_on rm_X11_on G [.ref (q 0), .int x1, .long x, .long y] [(q 0, .inr (10, mF t n q co cr po tx ty))] (S := Unit) (fun r _ => r = some (.int 0)) (fun _ => [(q 0, .inr (10, mF 1 n q co cr po tx ty))]) (fun _ => []) := by
  refine c_intro (cc := cX11_on) (maxL := 10) (ret := (some .boolean)) (by decide) rfl (Nat.le_of_ble_eq_true rfl) (fun _ => by simp only [List.map_cons, List.map_nil]) ?_
  intro p e s m args below meth c Q A X hr hin E
  change J p l e rm_X11_on s m args below meth c Q G A 10 0 0 0 [(0, .ref (q 0)), (1, .int x1), (2, .long x), (4, .long y)] [] [(q 0, .inr (10, mF t n q co cr po tx ty))]
  refine j_aload_n X dX11_on_0 rfl 0 rfl ?_
  refine j_aload_n X dX11_on_1 rfl 0 rfl ?_
  refine j_iload_n X dX11_on_2 rfl 1 rfl ?_
  refine j_callV X dX11_on_3 (c_X11_isShape l G q t n co cr po tx ty x1) gX11_on_X11_isShape rfl hy_X11_isShape_V ⟨Nat.le_of_ble_eq_true rfl, Nat.le_of_ble_eq_true rfl⟩ 0 rfl rfl [0] rfl (by decide) rfl rfl (Nat.le_of_ble_eq_true rfl) ⟨Nat.le_of_ble_eq_true rfl, Nat.le_of_ble_eq_true rfl⟩ ?_
  rintro _ ⟨⟩ rfl
  change J p l e rm_X11_on s m args below meth c Q G A 10 0 0 6 [(0, .ref (q 0)), (1, .int x1), (2, .long x), (4, .long y)] [.int (bI (0 ≤ x1.toInt ∧ x1.toInt < n.toInt)), .ref (q 0)] [(q 0, .inr (10, mF t n q co cr po tx ty))]
  refine j_if_ne (tgt := 13) X dX11_on_6 (by decide) (fun c_6 => ?_) (fun c_6 => ?_)
  · skip
    first | simp only [bI_0, Decidable.not_not, sg_mul, sg_e0, sg_l0, sg_g0, sg_le0, sg_ge0, cmp_eq, cmp_lt, cmp_ge, cmp_gt, cmp_le, lT0, lT1] at c_6 | simp only [Int32.le_iff_toInt_le, Int32.lt_iff_toInt_lt, ← Int32.toInt_inj, iT0, iT1, iT2, iT3, iT4, iT5, iT6, iT7, iT8, iT9, iT10, iT11, iT12, iT13, iT14, iT15, iT16, iT19, iT20, iT31, iT32, iT42, iT64, iT200, iT318, iT319, iT1000, iTm1, iTm2] at c_6 | skip
    exfalso; omega
  · skip
    first | simp only [bI_0, Decidable.not_not, sg_mul, sg_e0, sg_l0, sg_g0, sg_le0, sg_ge0, cmp_eq, cmp_lt, cmp_ge, cmp_gt, cmp_le, lT0, lT1] at c_6 | simp only [Int32.le_iff_toInt_le, Int32.lt_iff_toInt_lt, ← Int32.toInt_inj, iT0, iT1, iT2, iT3, iT4, iT5, iT6, iT7, iT8, iT9, iT10, iT11, iT12, iT13, iT14, iT15, iT16, iT19, iT20, iT31, iT32, iT42, iT64, iT200, iT318, iT319, iT1000, iTm1, iTm2] at c_6 | skip
    refine j_iconst (v := 1) X dX11_on_9 rfl ?_
    refine j_goto (tgt := 27) X dX11_on_10 (by decide) ?_
    refine j_put (ws' := [(q 0, .inr (10, mF 1 n q co cr po tx ty))]) X dX11_on_27 0 rfl 0 rfl in_X11_on_X11 tyX11 tyX11_ok nmX11 (by decide) fl_X11_on_48 rfl rfl rfl rfl (Nat.le_of_ble_eq_true rfl) rfl ?_
    refine j_aload_n X dX11_on_30 rfl 0 rfl ?_
    refine j_get (v := .int 1) X dX11_on_31 0 rfl 0 rfl in_X11_on_X11 (by decide) fl_X11_on_48 rfl ?_
    refine j_if_eq (tgt := 39) X dX11_on_34 (by decide) (fun c9 => absurd c9 (by decide)) (fun _ => ?_)
    refine j_iconst (v := 0) X dX11_on_37 rfl ?_
    exact E.2.1 38 _ 0 () _ dX11_on_38 rfl hr rfl

theorem hy_X11_on_V : yX11_on.cls = RX11 ∧ yX11_on.cls ≠ "java/lang/invoke/MethodHandle" ∧ yX11_on.cls ≠ "java/lang/invoke/VarHandle" ∧ (parseMethodDescriptor yX11_on.desc).map (fun d => d.parameters.length) = some 3 := by decide +kernel
set_option maxHeartbeats 4000000 in
set_option maxRecDepth 100000 in
theorem c_X11_on_2 (l : Launch) (G : jG) (q : Nat → Nat) (t n co cr po : Int32) (tx ty : Int64) (x1 : Int32) (x y : Int64) (hP : (0 ≤ x1.toInt ∧ x1.toInt < n.toInt)) (hQ : ¬ (inC x.toInt ∧ inC y.toInt)) : Ct l yX11_on wsX11_on rm_X11_on G [.ref (q 0), .int x1, .long x, .long y] [(q 0, .inr (10, mF t n q co cr po tx ty))] (S := Unit) (fun r _ => r = some (.int 0)) (fun _ => [(q 0, .inr (10, mF 2 n q co cr po tx ty))]) (fun _ => []) := by
  refine c_intro (cc := cX11_on) (maxL := 10) (ret := (some .boolean)) (by decide) rfl (Nat.le_of_ble_eq_true rfl) (fun _ => by simp only [List.map_cons, List.map_nil]) ?_
  intro p e s m args below meth c Q A X hr hin E
  change J p l e rm_X11_on s m args below meth c Q G A 10 0 0 0 [(0, .ref (q 0)), (1, .int x1), (2, .long x), (4, .long y)] [] [(q 0, .inr (10, mF t n q co cr po tx ty))]
  refine j_aload_n X dX11_on_0 rfl 0 rfl ?_
  refine j_aload_n X dX11_on_1 rfl 0 rfl ?_
  refine j_iload_n X dX11_on_2 rfl 1 rfl ?_
  refine j_callV X dX11_on_3 (c_X11_isShape l G q t n co cr po tx ty x1) gX11_on_X11_isShape rfl hy_X11_isShape_V ⟨Nat.le_of_ble_eq_true rfl, Nat.le_of_ble_eq_true rfl⟩ 0 rfl rfl [0] rfl (by decide) rfl rfl (Nat.le_of_ble_eq_true rfl) ⟨Nat.le_of_ble_eq_true rfl, Nat.le_of_ble_eq_true rfl⟩ ?_
  rintro _ ⟨⟩ rfl
  change J p l e rm_X11_on s m args below meth c Q G A 10 0 0 6 [(0, .ref (q 0)), (1, .int x1), (2, .long x), (4, .long y)] [.int (bI (0 ≤ x1.toInt ∧ x1.toInt < n.toInt)), .ref (q 0)] [(q 0, .inr (10, mF t n q co cr po tx ty))]
  refine j_if_ne (tgt := 13) X dX11_on_6 (by decide) (fun c_6 => ?_) (fun c_6 => ?_)
  · skip
    first | simp only [bI_0, Decidable.not_not, sg_mul, sg_e0, sg_l0, sg_g0, sg_le0, sg_ge0, cmp_eq, cmp_lt, cmp_ge, cmp_gt, cmp_le, lT0, lT1] at c_6 | simp only [Int32.le_iff_toInt_le, Int32.lt_iff_toInt_lt, ← Int32.toInt_inj, iT0, iT1, iT2, iT3, iT4, iT5, iT6, iT7, iT8, iT9, iT10, iT11, iT12, iT13, iT14, iT15, iT16, iT19, iT20, iT31, iT32, iT42, iT64, iT200, iT318, iT319, iT1000, iTm1, iTm2] at c_6 | skip
    refine j_lload_n X dX11_on_13 rfl 2 rfl ?_
    refine j_lload X dX11_on_14 3 rfl ?_
    refine j_callS X dX11_on_16 (c_X11_isPlace l G x y) gX11_on_X11_isPlace rfl hy_X11_isPlace_S ⟨Nat.le_of_ble_eq_true rfl, Nat.le_of_ble_eq_true rfl⟩ [] rfl (by decide) rfl rfl (Nat.le_of_ble_eq_true rfl) ⟨Nat.le_of_ble_eq_true rfl, Nat.le_of_ble_eq_true rfl⟩ ?_
    rintro _ ⟨⟩ rfl
    change J p l e rm_X11_on s m args below meth c Q G A 10 0 0 19 [(0, .ref (q 0)), (1, .int x1), (2, .long x), (4, .long y)] [.int (bI (inC x.toInt ∧ inC y.toInt)), .ref (q 0)] [(q 0, .inr (10, mF t n q co cr po tx ty))]
    refine j_if_ne (tgt := 26) X dX11_on_19 (by decide) (fun c_19 => ?_) (fun c_19 => ?_)
    · skip
      first | simp only [bI_0, Decidable.not_not, sg_mul, sg_e0, sg_l0, sg_g0, sg_le0, sg_ge0, cmp_eq, cmp_lt, cmp_ge, cmp_gt, cmp_le, lT0, lT1] at c_19 | simp only [Int32.le_iff_toInt_le, Int32.lt_iff_toInt_lt, ← Int32.toInt_inj, iT0, iT1, iT2, iT3, iT4, iT5, iT6, iT7, iT8, iT9, iT10, iT11, iT12, iT13, iT14, iT15, iT16, iT19, iT20, iT31, iT32, iT42, iT64, iT200, iT318, iT319, iT1000, iTm1, iTm2] at c_19 | skip
      exfalso; omega
    · skip
      first | simp only [bI_0, Decidable.not_not, sg_mul, sg_e0, sg_l0, sg_g0, sg_le0, sg_ge0, cmp_eq, cmp_lt, cmp_ge, cmp_gt, cmp_le, lT0, lT1] at c_19 | simp only [Int32.le_iff_toInt_le, Int32.lt_iff_toInt_lt, ← Int32.toInt_inj, iT0, iT1, iT2, iT3, iT4, iT5, iT6, iT7, iT8, iT9, iT10, iT11, iT12, iT13, iT14, iT15, iT16, iT19, iT20, iT31, iT32, iT42, iT64, iT200, iT318, iT319, iT1000, iTm1, iTm2] at c_19 | skip
      refine j_iconst (v := 2) X dX11_on_22 rfl ?_
      refine j_goto (tgt := 27) X dX11_on_23 (by decide) ?_
      refine j_put (ws' := [(q 0, .inr (10, mF 2 n q co cr po tx ty))]) X dX11_on_27 0 rfl 0 rfl in_X11_on_X11 tyX11 tyX11_ok nmX11 (by decide) fl_X11_on_48 rfl rfl rfl rfl (Nat.le_of_ble_eq_true rfl) rfl ?_
      refine j_aload_n X dX11_on_30 rfl 0 rfl ?_
      refine j_get (v := .int 2) X dX11_on_31 0 rfl 0 rfl in_X11_on_X11 (by decide) fl_X11_on_48 rfl ?_
      refine j_if_eq (tgt := 39) X dX11_on_34 (by decide) (fun c9 => absurd c9 (by decide)) (fun _ => ?_)
      refine j_iconst (v := 0) X dX11_on_37 rfl ?_
      exact E.2.1 38 _ 0 () _ dX11_on_38 rfl hr rfl
  · skip
    first | simp only [bI_0, Decidable.not_not, sg_mul, sg_e0, sg_l0, sg_g0, sg_le0, sg_ge0, cmp_eq, cmp_lt, cmp_ge, cmp_gt, cmp_le, lT0, lT1] at c_6 | simp only [Int32.le_iff_toInt_le, Int32.lt_iff_toInt_lt, ← Int32.toInt_inj, iT0, iT1, iT2, iT3, iT4, iT5, iT6, iT7, iT8, iT9, iT10, iT11, iT12, iT13, iT14, iT15, iT16, iT19, iT20, iT31, iT32, iT42, iT64, iT200, iT318, iT319, iT1000, iTm1, iTm2] at c_6 | skip
    exfalso; omega

theorem fl_X11_on_7 : Cond.fieldLink RX11 7 (TX11 2).1 (TX11 2).2.1 (TX11 2).2.2.1 ∈ wsX11_on := by decide +kernel
set_option maxHeartbeats 4000000 in
set_option maxRecDepth 100000 in
theorem c_X11_on_s (l : Launch) (G : jG) (q : Nat → Nat) (t n co cr po : Int32) (tx ty : Int64) (zs : List Int) (hl : zs.length = 16) (sf : Nat → Int32) (hS : okS zs sf) (fa : Nat → Int32) (f1 f2 f3 f4 : Nat → Int64) (x1 : Int32) (x y : Int64) (a : Nat) (hx1 : x1 = nI a) (ga : a < 200) (hP : (0 ≤ x1.toInt ∧ x1.toInt < n.toInt)) (bx : inC x.toInt) (by_ : inC y.toInt) (hA : fa a = 0) (ba : segB f1 f2 f3 f4 a) : Ct l yX11_on wsX11_on rm_X11_on G [.ref (q 0), .int x1, .long x, .long y] [(q 0, .inr (10, mF t n q co cr po tx ty)), (q 1, aZ G 200 fa), (q 2, aJ G 200 f1), (q 3, aJ G 200 f2), (q 4, aJ G 200 f3), (q 5, aJ G 200 f4), (q 10, aI G 320 (rg zs)), (q 11, aZ G 16 sf)] (S := List Int × (Nat → Int32)) (fun r u => r = some (.int (bI (onS (f1 a).toInt (f2 a).toInt (f3 a).toInt (f4 a).toInt x.toInt y.toInt))) ∧ kp zs u.1 ∧ okS u.1 u.2) (fun u => [(q 0, .inr (10, mF 0 n q co cr po tx ty)), (q 1, aZ G 200 fa), (q 2, aJ G 200 f1), (q 3, aJ G 200 f2), (q 4, aJ G 200 f3), (q 5, aJ G 200 f4), (q 10, aI G 320 (rg u.1)), (q 11, aZ G 16 u.2)]) (fun _ => []) := by
  refine c_intro (cc := cX11_on) (maxL := 10) (ret := (some .boolean)) (by decide) rfl (Nat.le_of_ble_eq_true rfl) (fun _ => by simp only [List.map_cons, List.map_nil]) ?_
  intro p e s m args below meth c Q A X hr hin E
  change J p l e rm_X11_on s m args below meth c Q G A 10 0 0 0 [(0, .ref (q 0)), (1, .int x1), (2, .long x), (4, .long y)] [] [(q 0, .inr (10, mF t n q co cr po tx ty)), (q 1, aZ G 200 fa), (q 2, aJ G 200 f1), (q 3, aJ G 200 f2), (q 4, aJ G 200 f3), (q 5, aJ G 200 f4), (q 10, aI G 320 (rg zs)), (q 11, aZ G 16 sf)]
  obtain ⟨z0, z1, z2, z3, z4, z5, z6, z7, z8, z9, z10, z11, z12, z13, z14, z15, rfl⟩ := l16 hl
  refine j_aload_n X dX11_on_0 rfl 0 rfl ?_
  refine j_aload_n X dX11_on_1 rfl 0 rfl ?_
  refine j_iload_n X dX11_on_2 rfl 1 rfl ?_
  refine j_callV X dX11_on_3 (c_X11_isShape l G q t n co cr po tx ty x1) gX11_on_X11_isShape rfl hy_X11_isShape_V ⟨Nat.le_of_ble_eq_true rfl, Nat.le_of_ble_eq_true rfl⟩ 0 rfl rfl [0] rfl (by decide) rfl rfl (Nat.le_of_ble_eq_true rfl) ⟨Nat.le_of_ble_eq_true rfl, Nat.le_of_ble_eq_true rfl⟩ ?_
  rintro _ ⟨⟩ rfl
  change J p l e rm_X11_on s m args below meth c Q G A 10 0 0 6 [(0, .ref (q 0)), (1, .int x1), (2, .long x), (4, .long y)] [.int (bI (0 ≤ x1.toInt ∧ x1.toInt < n.toInt)), .ref (q 0)] [(q 0, .inr (10, mF t n q co cr po tx ty)), (q 1, aZ G 200 fa), (q 2, aJ G 200 f1), (q 3, aJ G 200 f2), (q 4, aJ G 200 f3), (q 5, aJ G 200 f4), (q 10, aI G 320 (rg [z0, z1, z2, z3, z4, z5, z6, z7, z8, z9, z10, z11, z12, z13, z14, z15])), (q 11, aZ G 16 sf)]
  refine j_if_ne (tgt := 13) X dX11_on_6 (by decide) (fun c_6 => ?_) (fun c_6 => ?_)
  · skip
    first | simp only [bI_0, Decidable.not_not, sg_mul, sg_e0, sg_l0, sg_g0, sg_le0, sg_ge0, cmp_eq, cmp_lt, cmp_ge, cmp_gt, cmp_le, lT0, lT1] at c_6 | simp only [Int32.le_iff_toInt_le, Int32.lt_iff_toInt_lt, ← Int32.toInt_inj, iT0, iT1, iT2, iT3, iT4, iT5, iT6, iT7, iT8, iT9, iT10, iT11, iT12, iT13, iT14, iT15, iT16, iT19, iT20, iT31, iT32, iT42, iT64, iT200, iT318, iT319, iT1000, iTm1, iTm2] at c_6 | skip
    refine j_lload_n X dX11_on_13 rfl 2 rfl ?_
    refine j_lload X dX11_on_14 3 rfl ?_
    refine j_callS X dX11_on_16 (c_X11_isPlace l G x y) gX11_on_X11_isPlace rfl hy_X11_isPlace_S ⟨Nat.le_of_ble_eq_true rfl, Nat.le_of_ble_eq_true rfl⟩ [] rfl (by decide) rfl rfl (Nat.le_of_ble_eq_true rfl) ⟨Nat.le_of_ble_eq_true rfl, Nat.le_of_ble_eq_true rfl⟩ ?_
    rintro _ ⟨⟩ rfl
    change J p l e rm_X11_on s m args below meth c Q G A 10 0 0 19 [(0, .ref (q 0)), (1, .int x1), (2, .long x), (4, .long y)] [.int (bI (inC x.toInt ∧ inC y.toInt)), .ref (q 0)] [(q 0, .inr (10, mF t n q co cr po tx ty)), (q 1, aZ G 200 fa), (q 2, aJ G 200 f1), (q 3, aJ G 200 f2), (q 4, aJ G 200 f3), (q 5, aJ G 200 f4), (q 10, aI G 320 (rg [z0, z1, z2, z3, z4, z5, z6, z7, z8, z9, z10, z11, z12, z13, z14, z15])), (q 11, aZ G 16 sf)]
    refine j_if_ne (tgt := 26) X dX11_on_19 (by decide) (fun c_19 => ?_) (fun c_19 => ?_)
    · skip
      first | simp only [bI_0, Decidable.not_not, sg_mul, sg_e0, sg_l0, sg_g0, sg_le0, sg_ge0, cmp_eq, cmp_lt, cmp_ge, cmp_gt, cmp_le, lT0, lT1] at c_19 | simp only [Int32.le_iff_toInt_le, Int32.lt_iff_toInt_lt, ← Int32.toInt_inj, iT0, iT1, iT2, iT3, iT4, iT5, iT6, iT7, iT8, iT9, iT10, iT11, iT12, iT13, iT14, iT15, iT16, iT19, iT20, iT31, iT32, iT42, iT64, iT200, iT318, iT319, iT1000, iTm1, iTm2] at c_19 | skip
      refine j_iconst (v := 0) X dX11_on_26 rfl ?_
      refine j_put (ws' := [(q 0, .inr (10, mF 0 n q co cr po tx ty)), (q 1, aZ G 200 fa), (q 2, aJ G 200 f1), (q 3, aJ G 200 f2), (q 4, aJ G 200 f3), (q 5, aJ G 200 f4), (q 10, aI G 320 (rg [z0, z1, z2, z3, z4, z5, z6, z7, z8, z9, z10, z11, z12, z13, z14, z15])), (q 11, aZ G 16 sf)]) X dX11_on_27 0 rfl 0 rfl in_X11_on_X11 tyX11 tyX11_ok nmX11 (by decide) fl_X11_on_48 rfl rfl rfl rfl (Nat.le_of_ble_eq_true rfl) rfl ?_
      refine j_aload_n X dX11_on_30 rfl 0 rfl ?_
      refine j_get (v := .int 0) X dX11_on_31 0 rfl 0 rfl in_X11_on_X11 (by decide) fl_X11_on_48 rfl ?_
      refine j_if_eq (tgt := 39) X dX11_on_34 (by decide) (fun _ => ?_) (fun c9 => absurd c9 (by decide))
      subst hx1
      refine j_aload_n X dX11_on_39 rfl 0 rfl ?_
      refine j_get (v := .ref (q 1)) X dX11_on_40 0 rfl 2 rfl in_X11_on_X11 (by decide) fl_X11_on_7 rfl ?_
      refine j_iload_n X dX11_on_43 rfl 1 rfl ?_
      refine j_zald X dX11_on_44 1 rfl a rfl ga (by decide) ?_
      refine j_if_ne (tgt := 57) X dX11_on_45 (by decide) (fun c_45 => ?_) (fun c_45 => ?_)
      · skip
        exact absurd hA c_45
      · skip
        refine j_aload_n X dX11_on_48 rfl 0 rfl ?_
        refine j_iload_n X dX11_on_49 rfl 1 rfl ?_
        refine j_lload_n X dX11_on_50 rfl 2 rfl ?_
        refine j_lload X dX11_on_51 3 rfl ?_
        refine j_callV X dX11_on_53 (c_X11_onSegment l G q 0 n co cr po tx ty [z0, z1, z2, z3, z4, z5, z6, z7, z8, z9, z10, z11, z12, z13, z14, z15] rfl sf hS f1 f2 f3 f4 a ba ga x y bx by_) gX11_on_X11_onSegment rfl hy_X11_onSegment_V ⟨Nat.le_of_ble_eq_true rfl, Nat.le_of_ble_eq_true rfl⟩ 0 rfl rfl [0, 2, 3, 4, 5, 6, 7] rfl (by decide) rfl rfl (Nat.le_of_ble_eq_true rfl) ⟨Nat.le_of_ble_eq_true rfl, Nat.le_of_ble_eq_true rfl⟩ ?_
        rintro _ ⟨zs_2, sf_1⟩ ⟨rfl, hk_sf_1, hS_sf_1⟩
        obtain ⟨y4_sf_1, y5_sf_1, y6_sf_1, y7_sf_1, y8_sf_1, y9_sf_1, y10_sf_1, y11_sf_1, y12_sf_1, y13_sf_1, y14_sf_1, y15_sf_1, rfl⟩ := kp_4 hk_sf_1
        change J p l e rm_X11_on s m args below meth c Q G A 10 0 0 56 [(0, .ref (q 0)), (1, .int (nI a)), (2, .long x), (4, .long y)] [.int (bI (onS (f1 a).toInt (f2 a).toInt (f3 a).toInt (f4 a).toInt x.toInt y.toInt))] [(q 0, .inr (10, mF 0 n q co cr po tx ty)), (q 1, aZ G 200 fa), (q 2, aJ G 200 f1), (q 3, aJ G 200 f2), (q 4, aJ G 200 f3), (q 5, aJ G 200 f4), (q 10, aI G 320 (rg [z0, z1, z2, z3, y4_sf_1, y5_sf_1, y6_sf_1, y7_sf_1, y8_sf_1, y9_sf_1, y10_sf_1, y11_sf_1, y12_sf_1, y13_sf_1, y14_sf_1, y15_sf_1])), (q 11, aZ G 16 sf_1)]
        exact E.2.1 56 _ (bI (onS (f1 a).toInt (f2 a).toInt (f3 a).toInt (f4 a).toInt x.toInt y.toInt)) ([z0, z1, z2, z3, y4_sf_1, y5_sf_1, y6_sf_1, y7_sf_1, y8_sf_1, y9_sf_1, y10_sf_1, y11_sf_1, y12_sf_1, y13_sf_1, y14_sf_1, y15_sf_1], sf_1) _ dX11_on_56 (⟨rfl, kp_i, hS_sf_1⟩) hr (nar_I _)
    · skip
      first | simp only [bI_0, Decidable.not_not, sg_mul, sg_e0, sg_l0, sg_g0, sg_le0, sg_ge0, cmp_eq, cmp_lt, cmp_ge, cmp_gt, cmp_le, lT0, lT1] at c_19 | simp only [Int32.le_iff_toInt_le, Int32.lt_iff_toInt_lt, ← Int32.toInt_inj, iT0, iT1, iT2, iT3, iT4, iT5, iT6, iT7, iT8, iT9, iT10, iT11, iT12, iT13, iT14, iT15, iT16, iT19, iT20, iT31, iT32, iT42, iT64, iT200, iT318, iT319, iT1000, iTm1, iTm2] at c_19 | skip
      exfalso; omega
  · skip
    first | simp only [bI_0, Decidable.not_not, sg_mul, sg_e0, sg_l0, sg_g0, sg_le0, sg_ge0, cmp_eq, cmp_lt, cmp_ge, cmp_gt, cmp_le, lT0, lT1] at c_6 | simp only [Int32.le_iff_toInt_le, Int32.lt_iff_toInt_lt, ← Int32.toInt_inj, iT0, iT1, iT2, iT3, iT4, iT5, iT6, iT7, iT8, iT9, iT10, iT11, iT12, iT13, iT14, iT15, iT16, iT19, iT20, iT31, iT32, iT42, iT64, iT200, iT318, iT319, iT1000, iTm1, iTm2] at c_6 | skip
    exfalso; omega

theorem fl_X11_on_13 : Cond.fieldLink RX11 13 (TX11 3).1 (TX11 3).2.1 (TX11 3).2.2.1 ∈ wsX11_on := by decide +kernel
theorem fl_X11_on_17 : Cond.fieldLink RX11 17 (TX11 4).1 (TX11 4).2.1 (TX11 4).2.2.1 ∈ wsX11_on := by decide +kernel
theorem fl_X11_on_20 : Cond.fieldLink RX11 20 (TX11 5).1 (TX11 5).2.1 (TX11 5).2.2.1 ∈ wsX11_on := by decide +kernel
set_option maxHeartbeats 4000000 in
set_option maxRecDepth 100000 in
theorem c_X11_on_a (l : Launch) (G : jG) (q : Nat → Nat) (t n co cr po : Int32) (tx ty : Int64) (zs : List Int) (hl : zs.length = 16) (sf : Nat → Int32) (hS : okS zs sf) (fa : Nat → Int32) (f1 f2 f3 f4 : Nat → Int64) (x1 : Int32) (x y : Int64) (a : Nat) (hx1 : x1 = nI a) (ga : a < 200) (hP : (0 ≤ x1.toInt ∧ x1.toInt < n.toInt)) (bx : inC x.toInt) (by_ : inC y.toInt) (fr to1 : Nat → Int32) (hA : ¬ fa a = 0) (bc : inC (f1 a).toInt ∧ inC (f2 a).toInt) (br : 1 ≤ (f3 a).toInt ∧ (f3 a).toInt ≤ 4611686018427387904) (hf : 0 ≤ (fr a).toInt ∧ (fr a).toInt < 8) (ht : 0 ≤ (to1 a).toInt ∧ (to1 a).toInt < 8) : Ct l yX11_on wsX11_on rm_X11_on G [.ref (q 0), .int x1, .long x, .long y] [(q 0, .inr (10, mF t n q co cr po tx ty)), (q 1, aZ G 200 fa), (q 2, aJ G 200 f1), (q 3, aJ G 200 f2), (q 4, aJ G 200 f3), (q 5, aJ G 200 f4), (q 6, aI G 200 fr), (q 7, aI G 200 to1), (q 10, aI G 320 (rg zs)), (q 11, aZ G 16 sf)] (S := List Int × (Nat → Int32)) (fun r u => r = some (.int (bI (onA (f1 a).toInt (f2 a).toInt (f3 a).toInt (fr a).toInt (to1 a).toInt x.toInt y.toInt))) ∧ kp zs u.1 ∧ okS u.1 u.2) (fun u => [(q 0, .inr (10, mF 0 n q co cr po tx ty)), (q 1, aZ G 200 fa), (q 2, aJ G 200 f1), (q 3, aJ G 200 f2), (q 4, aJ G 200 f3), (q 5, aJ G 200 f4), (q 6, aI G 200 fr), (q 7, aI G 200 to1), (q 10, aI G 320 (rg u.1)), (q 11, aZ G 16 u.2)]) (fun _ => []) := by
  refine c_intro (cc := cX11_on) (maxL := 10) (ret := (some .boolean)) (by decide) rfl (Nat.le_of_ble_eq_true rfl) (fun _ => by simp only [List.map_cons, List.map_nil]) ?_
  intro p e s m args below meth c Q A X hr hin E
  change J p l e rm_X11_on s m args below meth c Q G A 10 0 0 0 [(0, .ref (q 0)), (1, .int x1), (2, .long x), (4, .long y)] [] [(q 0, .inr (10, mF t n q co cr po tx ty)), (q 1, aZ G 200 fa), (q 2, aJ G 200 f1), (q 3, aJ G 200 f2), (q 4, aJ G 200 f3), (q 5, aJ G 200 f4), (q 6, aI G 200 fr), (q 7, aI G 200 to1), (q 10, aI G 320 (rg zs)), (q 11, aZ G 16 sf)]
  obtain ⟨z0, z1, z2, z3, z4, z5, z6, z7, z8, z9, z10, z11, z12, z13, z14, z15, rfl⟩ := l16 hl
  refine j_aload_n X dX11_on_0 rfl 0 rfl ?_
  refine j_aload_n X dX11_on_1 rfl 0 rfl ?_
  refine j_iload_n X dX11_on_2 rfl 1 rfl ?_
  refine j_callV X dX11_on_3 (c_X11_isShape l G q t n co cr po tx ty x1) gX11_on_X11_isShape rfl hy_X11_isShape_V ⟨Nat.le_of_ble_eq_true rfl, Nat.le_of_ble_eq_true rfl⟩ 0 rfl rfl [0] rfl (by decide) rfl rfl (Nat.le_of_ble_eq_true rfl) ⟨Nat.le_of_ble_eq_true rfl, Nat.le_of_ble_eq_true rfl⟩ ?_
  rintro _ ⟨⟩ rfl
  change J p l e rm_X11_on s m args below meth c Q G A 10 0 0 6 [(0, .ref (q 0)), (1, .int x1), (2, .long x), (4, .long y)] [.int (bI (0 ≤ x1.toInt ∧ x1.toInt < n.toInt)), .ref (q 0)] [(q 0, .inr (10, mF t n q co cr po tx ty)), (q 1, aZ G 200 fa), (q 2, aJ G 200 f1), (q 3, aJ G 200 f2), (q 4, aJ G 200 f3), (q 5, aJ G 200 f4), (q 6, aI G 200 fr), (q 7, aI G 200 to1), (q 10, aI G 320 (rg [z0, z1, z2, z3, z4, z5, z6, z7, z8, z9, z10, z11, z12, z13, z14, z15])), (q 11, aZ G 16 sf)]
  refine j_if_ne (tgt := 13) X dX11_on_6 (by decide) (fun c_6 => ?_) (fun c_6 => ?_)
  · skip
    first | simp only [bI_0, Decidable.not_not, sg_mul, sg_e0, sg_l0, sg_g0, sg_le0, sg_ge0, cmp_eq, cmp_lt, cmp_ge, cmp_gt, cmp_le, lT0, lT1] at c_6 | simp only [Int32.le_iff_toInt_le, Int32.lt_iff_toInt_lt, ← Int32.toInt_inj, iT0, iT1, iT2, iT3, iT4, iT5, iT6, iT7, iT8, iT9, iT10, iT11, iT12, iT13, iT14, iT15, iT16, iT19, iT20, iT31, iT32, iT42, iT64, iT200, iT318, iT319, iT1000, iTm1, iTm2] at c_6 | skip
    refine j_lload_n X dX11_on_13 rfl 2 rfl ?_
    refine j_lload X dX11_on_14 3 rfl ?_
    refine j_callS X dX11_on_16 (c_X11_isPlace l G x y) gX11_on_X11_isPlace rfl hy_X11_isPlace_S ⟨Nat.le_of_ble_eq_true rfl, Nat.le_of_ble_eq_true rfl⟩ [] rfl (by decide) rfl rfl (Nat.le_of_ble_eq_true rfl) ⟨Nat.le_of_ble_eq_true rfl, Nat.le_of_ble_eq_true rfl⟩ ?_
    rintro _ ⟨⟩ rfl
    change J p l e rm_X11_on s m args below meth c Q G A 10 0 0 19 [(0, .ref (q 0)), (1, .int x1), (2, .long x), (4, .long y)] [.int (bI (inC x.toInt ∧ inC y.toInt)), .ref (q 0)] [(q 0, .inr (10, mF t n q co cr po tx ty)), (q 1, aZ G 200 fa), (q 2, aJ G 200 f1), (q 3, aJ G 200 f2), (q 4, aJ G 200 f3), (q 5, aJ G 200 f4), (q 6, aI G 200 fr), (q 7, aI G 200 to1), (q 10, aI G 320 (rg [z0, z1, z2, z3, z4, z5, z6, z7, z8, z9, z10, z11, z12, z13, z14, z15])), (q 11, aZ G 16 sf)]
    refine j_if_ne (tgt := 26) X dX11_on_19 (by decide) (fun c_19 => ?_) (fun c_19 => ?_)
    · skip
      first | simp only [bI_0, Decidable.not_not, sg_mul, sg_e0, sg_l0, sg_g0, sg_le0, sg_ge0, cmp_eq, cmp_lt, cmp_ge, cmp_gt, cmp_le, lT0, lT1] at c_19 | simp only [Int32.le_iff_toInt_le, Int32.lt_iff_toInt_lt, ← Int32.toInt_inj, iT0, iT1, iT2, iT3, iT4, iT5, iT6, iT7, iT8, iT9, iT10, iT11, iT12, iT13, iT14, iT15, iT16, iT19, iT20, iT31, iT32, iT42, iT64, iT200, iT318, iT319, iT1000, iTm1, iTm2] at c_19 | skip
      refine j_iconst (v := 0) X dX11_on_26 rfl ?_
      refine j_put (ws' := [(q 0, .inr (10, mF 0 n q co cr po tx ty)), (q 1, aZ G 200 fa), (q 2, aJ G 200 f1), (q 3, aJ G 200 f2), (q 4, aJ G 200 f3), (q 5, aJ G 200 f4), (q 6, aI G 200 fr), (q 7, aI G 200 to1), (q 10, aI G 320 (rg [z0, z1, z2, z3, z4, z5, z6, z7, z8, z9, z10, z11, z12, z13, z14, z15])), (q 11, aZ G 16 sf)]) X dX11_on_27 0 rfl 0 rfl in_X11_on_X11 tyX11 tyX11_ok nmX11 (by decide) fl_X11_on_48 rfl rfl rfl rfl (Nat.le_of_ble_eq_true rfl) rfl ?_
      refine j_aload_n X dX11_on_30 rfl 0 rfl ?_
      refine j_get (v := .int 0) X dX11_on_31 0 rfl 0 rfl in_X11_on_X11 (by decide) fl_X11_on_48 rfl ?_
      refine j_if_eq (tgt := 39) X dX11_on_34 (by decide) (fun _ => ?_) (fun c9 => absurd c9 (by decide))
      subst hx1
      refine j_aload_n X dX11_on_39 rfl 0 rfl ?_
      refine j_get (v := .ref (q 1)) X dX11_on_40 0 rfl 2 rfl in_X11_on_X11 (by decide) fl_X11_on_7 rfl ?_
      refine j_iload_n X dX11_on_43 rfl 1 rfl ?_
      refine j_zald X dX11_on_44 1 rfl a rfl ga (by decide) ?_
      refine j_if_ne (tgt := 57) X dX11_on_45 (by decide) (fun c_45 => ?_) (fun c_45 => ?_)
      · skip
        refine j_lload_n X dX11_on_57 rfl 2 rfl ?_
        refine j_aload_n X dX11_on_58 rfl 0 rfl ?_
        refine j_get (v := .ref (q 2)) X dX11_on_59 0 rfl 3 rfl in_X11_on_X11 (by decide) fl_X11_on_13 rfl ?_
        refine j_iload_n X dX11_on_62 rfl 1 rfl ?_
        refine j_lald X dX11_on_63 2 rfl a rfl ga (by decide) ?_
        refine j_lsub X dX11_on_64 ?_
        refine j_topl (fun x_1 ex_1 => ?_)
        have tx_1 : x_1.toInt = x.toInt - (f1 a).toInt := by rw [ex_1]; exact bl_sub (bd_C bx) (bd_C bc.1) (by decide) (by decide)
        have bx_1 : bd 41 x_1.toInt := by rw [tx_1]; exact bd_sub (bd_mono (bd_C bx) (by decide)) (bd_mono (bd_C bc.1) (by decide))
        refine j_lstore (L' := [(6, .long x_1), (0, .ref (q 0)), (1, .int (nI a)), (2, .long x), (4, .long y)]) X dX11_on_65 (by decide) rfl ?_
        refine j_lload X dX11_on_67 4 rfl ?_
        refine j_aload_n X dX11_on_69 rfl 1 rfl ?_
        refine j_get (v := .ref (q 3)) X dX11_on_70 0 rfl 4 rfl in_X11_on_X11 (by decide) fl_X11_on_17 rfl ?_
        refine j_iload_n X dX11_on_73 rfl 2 rfl ?_
        refine j_lald X dX11_on_74 3 rfl a rfl ga (by decide) ?_
        refine j_lsub X dX11_on_75 ?_
        refine j_topl (fun x_2 ex_2 => ?_)
        have tx_2 : x_2.toInt = y.toInt - (f2 a).toInt := by rw [ex_2]; exact bl_sub (bd_C by_) (bd_C bc.2) (by decide) (by decide)
        have bx_2 : bd 41 x_2.toInt := by rw [tx_2]; exact bd_sub (bd_mono (bd_C by_) (by decide)) (bd_mono (bd_C bc.2) (by decide))
        refine j_lstore (L' := [(8, .long x_2), (6, .long x_1), (0, .ref (q 0)), (1, .int (nI a)), (2, .long x), (4, .long y)]) X dX11_on_76 (by decide) rfl ?_
        refine j_aload_n X dX11_on_78 rfl 2 rfl ?_
        refine j_iconst (v := 4) X dX11_on_79 rfl ?_
        refine j_lload X dX11_on_80 1 rfl ?_
        refine j_lload X dX11_on_82 1 rfl ?_
        refine j_lload X dX11_on_84 0 rfl ?_
        refine j_lload X dX11_on_86 0 rfl ?_
        refine j_iconst (v := 0) X dX11_on_88 rfl ?_
        obtain ⟨y_3, ey_3⟩ : ∃ zz9 : Int, zz9 = x_1.toInt * x_1.toInt + x_2.toInt * x_2.toInt := ⟨_, rfl⟩
        have by_3 : bd 83 y_3 := by rw [ey_3]; exact bd_add (bd_mono (bd_mul bx_1 bx_1) (by decide)) (bd_mono (bd_mul bx_2 bx_2) (by decide))
        refine j_callV X dX11_on_89 (n_products l G q 0 n co cr po tx ty [z0, z1, z2, z3, z4, z5, z6, z7, z8, z9, z10, z11, z12, z13, z14, z15] sf rfl hS 4 4 rfl (by decide) x_1 x_1 x_2 x_2 0 (Or.inl rfl) y_3 ey_3) gX11_on_X11_products rfl hy_X11_products_V ⟨Nat.le_of_ble_eq_true rfl, Nat.le_of_ble_eq_true rfl⟩ 0 rfl rfl [0, 8, 9] rfl (by decide) rfl rfl (Nat.le_of_ble_eq_true rfl) ⟨Nat.le_of_ble_eq_true rfl, Nat.le_of_ble_eq_true rfl⟩ ?_
        rintro _ ⟨v_4, v_5, v_6, v_7, sf_8⟩ ⟨rfl, hS_sf_8⟩
        change J p l e rm_X11_on s m args below meth c Q G A 10 0 0 92 [(8, .long x_2), (6, .long x_1), (0, .ref (q 0)), (1, .int (nI a)), (2, .long x), (4, .long y)] [] [(q 0, .inr (10, mF 0 n q co cr po tx ty)), (q 1, aZ G 200 fa), (q 2, aJ G 200 f1), (q 3, aJ G 200 f2), (q 4, aJ G 200 f3), (q 5, aJ G 200 f4), (q 6, aI G 200 fr), (q 7, aI G 200 to1), (q 10, aI G 320 (rg [z0, z1, z2, z3, y_3, z5, z6, z7, z8, z9, z10, z11, v_4, v_5, v_6, v_7])), (q 11, aZ G 16 sf_8)]
        refine j_aload_n X dX11_on_92 rfl 2 rfl ?_
        refine j_iconst (v := 5) X dX11_on_93 rfl ?_
        refine j_aload_n X dX11_on_94 rfl 2 rfl ?_
        refine j_get (v := .ref (q 4)) X dX11_on_95 0 rfl 5 rfl in_X11_on_X11 (by decide) fl_X11_on_20 rfl ?_
        refine j_iload_n X dX11_on_98 rfl 3 rfl ?_
        refine j_lald X dX11_on_99 4 rfl a rfl ga (by decide) ?_
        obtain ⟨y_9, ey_9⟩ : ∃ zz9 : Int, zz9 = (f3 a).toInt := ⟨_, rfl⟩
        have by_9 : bd 63 y_9 := by rw [ey_9]; exact (bd_l (f3 a))
        refine j_callV X dX11_on_100 (n_load l G q 0 n co cr po tx ty [z0, z1, z2, z3, y_3, z5, z6, z7, z8, z9, z10, z11, v_4, v_5, v_6, v_7] sf_8 rfl hS_sf_8 5 5 rfl (by decide) (f3 a) y_9 ey_9) gX11_on_X11_load rfl hy_X11_load_V ⟨Nat.le_of_ble_eq_true rfl, Nat.le_of_ble_eq_true rfl⟩ 0 rfl rfl [0, 8, 9] rfl (by decide) rfl rfl (Nat.le_of_ble_eq_true rfl) ⟨Nat.le_of_ble_eq_true rfl, Nat.le_of_ble_eq_true rfl⟩ ?_
        rintro _ sf_10 ⟨rfl, hS_sf_10⟩
        change J p l e rm_X11_on s m args below meth c Q G A 10 0 0 103 [(8, .long x_2), (6, .long x_1), (0, .ref (q 0)), (1, .int (nI a)), (2, .long x), (4, .long y)] [] [(q 0, .inr (10, mF 0 n q co cr po tx ty)), (q 1, aZ G 200 fa), (q 2, aJ G 200 f1), (q 3, aJ G 200 f2), (q 4, aJ G 200 f3), (q 5, aJ G 200 f4), (q 6, aI G 200 fr), (q 7, aI G 200 to1), (q 10, aI G 320 (rg [z0, z1, z2, z3, y_3, y_9, z6, z7, z8, z9, z10, z11, v_4, v_5, v_6, v_7])), (q 11, aZ G 16 sf_10)]
        refine j_aload_n X dX11_on_103 rfl 2 rfl ?_
        refine j_iconst (v := 4) X dX11_on_104 rfl ?_
        refine j_iconst (v := 5) X dX11_on_105 rfl ?_
        refine j_callV X dX11_on_106 (c_X11_sizes l G q 0 n co cr po tx ty [z0, z1, z2, z3, y_3, y_9, z6, z7, z8, z9, z10, z11, v_4, v_5, v_6, v_7] rfl sf_10 4 4 rfl (by decide) 5 5 rfl (by decide) (bd_lt by_3 (by decide)) (bd_lt by_9 (by decide))) gX11_on_X11_sizes rfl hy_X11_sizes_V ⟨Nat.le_of_ble_eq_true rfl, Nat.le_of_ble_eq_true rfl⟩ 0 rfl rfl [0, 8, 9] rfl (by decide) rfl rfl (Nat.le_of_ble_eq_true rfl) ⟨Nat.le_of_ble_eq_true rfl, Nat.le_of_ble_eq_true rfl⟩ ?_
        rintro _ ⟨⟩ rfl
        change J p l e rm_X11_on s m args below meth c Q G A 10 0 0 109 [(8, .long x_2), (6, .long x_1), (0, .ref (q 0)), (1, .int (nI a)), (2, .long x), (4, .long y)] [.int (sg ((y_3.natAbs : Int) - (y_9.natAbs : Int)))] [(q 0, .inr (10, mF 0 n q co cr po tx ty)), (q 1, aZ G 200 fa), (q 2, aJ G 200 f1), (q 3, aJ G 200 f2), (q 4, aJ G 200 f3), (q 5, aJ G 200 f4), (q 6, aI G 200 fr), (q 7, aI G 200 to1), (q 10, aI G 320 (rg [z0, z1, z2, z3, y_3, y_9, z6, z7, z8, z9, z10, z11, v_4, v_5, v_6, v_7])), (q 11, aZ G 16 sf_10)]
        refine j_if_eq (tgt := 114) X dX11_on_109 (by decide) (fun c_109 => ?_) (fun c_109 => ?_)
        · skip
          first | simp only [bI_0, Decidable.not_not, sg_mul, sg_e0, sg_l0, sg_g0, sg_le0, sg_ge0, cmp_eq, cmp_lt, cmp_ge, cmp_gt, cmp_le, lT0, lT1] at c_109 | simp only [Int32.le_iff_toInt_le, Int32.lt_iff_toInt_lt, ← Int32.toInt_inj, iT0, iT1, iT2, iT3, iT4, iT5, iT6, iT7, iT8, iT9, iT10, iT11, iT12, iT13, iT14, iT15, iT16, iT19, iT20, iT31, iT32, iT42, iT64, iT200, iT318, iT319, iT1000, iTm1, iTm2] at c_109 | skip
          have hd1 : (x_1 - x_2).toInt = x_1.toInt - x_2.toInt := bl_sub bx_1 bx_2 (by decide) (by decide)
          have hd2 : (x_1 + x_2).toInt = x_1.toInt + x_2.toInt := bl_add bx_1 bx_2 (by decide) (by decide)
          have hr2 : (x.toInt - (f1 a).toInt) * (x.toInt - (f1 a).toInt) + (y.toInt - (f2 a).toInt) * (y.toInt - (f2 a).toInt) = (f3 a).toInt := by rw [← tx_1, ← tx_2, ← ey_3, ← ey_9]; have : 0 ≤ y_3 := (by rw [ey_3]; exact Int.add_nonneg (sq_nn _) (sq_nn _)); omega
          have hpn : posn (sg x_1.toInt) (sg x_2.toInt) (sg (x_1 - x_2).toInt) (sg (x_1 + x_2).toInt) = posn (sg (x.toInt - (f1 a).toInt)) (sg (y.toInt - (f2 a).toInt)) (sg ((x.toInt - (f1 a).toInt) - (y.toInt - (f2 a).toInt))) (sg ((x.toInt - (f1 a).toInt) + (y.toInt - (f2 a).toInt))) := by rw [hd1, hd2, tx_1, tx_2]
          refine j_aload_n X dX11_on_114 rfl 2 rfl ?_
          refine j_iload_n X dX11_on_115 rfl 3 rfl ?_
          refine j_lload X dX11_on_116 1 rfl ?_
          refine j_callS X dX11_on_118 (c_X11_side l G x_1) gX11_on_X11_side rfl hy_X11_side_S ⟨Nat.le_of_ble_eq_true rfl, Nat.le_of_ble_eq_true rfl⟩ [] rfl (by decide) rfl rfl (Nat.le_of_ble_eq_true rfl) ⟨Nat.le_of_ble_eq_true rfl, Nat.le_of_ble_eq_true rfl⟩ ?_
          rintro _ ⟨⟩ rfl
          change J p l e rm_X11_on s m args below meth c Q G A 10 0 0 121 [(8, .long x_2), (6, .long x_1), (0, .ref (q 0)), (1, .int (nI a)), (2, .long x), (4, .long y)] [.int (sg x_1.toInt), .int (nI a), .ref (q 0)] [(q 0, .inr (10, mF 0 n q co cr po tx ty)), (q 1, aZ G 200 fa), (q 2, aJ G 200 f1), (q 3, aJ G 200 f2), (q 4, aJ G 200 f3), (q 5, aJ G 200 f4), (q 6, aI G 200 fr), (q 7, aI G 200 to1), (q 10, aI G 320 (rg [z0, z1, z2, z3, y_3, y_9, z6, z7, z8, z9, z10, z11, v_4, v_5, v_6, v_7])), (q 11, aZ G 16 sf_10)]
          refine j_lload X dX11_on_121 0 rfl ?_
          refine j_callS X dX11_on_123 (c_X11_side l G x_2) gX11_on_X11_side rfl hy_X11_side_S ⟨Nat.le_of_ble_eq_true rfl, Nat.le_of_ble_eq_true rfl⟩ [] rfl (by decide) rfl rfl (Nat.le_of_ble_eq_true rfl) ⟨Nat.le_of_ble_eq_true rfl, Nat.le_of_ble_eq_true rfl⟩ ?_
          rintro _ ⟨⟩ rfl
          change J p l e rm_X11_on s m args below meth c Q G A 10 0 0 126 [(8, .long x_2), (6, .long x_1), (0, .ref (q 0)), (1, .int (nI a)), (2, .long x), (4, .long y)] [.int (sg x_2.toInt), .int (sg x_1.toInt), .int (nI a), .ref (q 0)] [(q 0, .inr (10, mF 0 n q co cr po tx ty)), (q 1, aZ G 200 fa), (q 2, aJ G 200 f1), (q 3, aJ G 200 f2), (q 4, aJ G 200 f3), (q 5, aJ G 200 f4), (q 6, aI G 200 fr), (q 7, aI G 200 to1), (q 10, aI G 320 (rg [z0, z1, z2, z3, y_3, y_9, z6, z7, z8, z9, z10, z11, v_4, v_5, v_6, v_7])), (q 11, aZ G 16 sf_10)]
          refine j_lload X dX11_on_126 1 rfl ?_
          refine j_lload X dX11_on_128 0 rfl ?_
          refine j_lsub X dX11_on_130 ?_
          refine j_callS X dX11_on_131 (c_X11_side l G (x_1 - x_2)) gX11_on_X11_side rfl hy_X11_side_S ⟨Nat.le_of_ble_eq_true rfl, Nat.le_of_ble_eq_true rfl⟩ [] rfl (by decide) rfl rfl (Nat.le_of_ble_eq_true rfl) ⟨Nat.le_of_ble_eq_true rfl, Nat.le_of_ble_eq_true rfl⟩ ?_
          rintro _ ⟨⟩ rfl
          change J p l e rm_X11_on s m args below meth c Q G A 10 0 0 134 [(8, .long x_2), (6, .long x_1), (0, .ref (q 0)), (1, .int (nI a)), (2, .long x), (4, .long y)] [.int (sg ((x_1 - x_2).toInt)), .int (sg x_2.toInt), .int (sg x_1.toInt), .int (nI a), .ref (q 0)] [(q 0, .inr (10, mF 0 n q co cr po tx ty)), (q 1, aZ G 200 fa), (q 2, aJ G 200 f1), (q 3, aJ G 200 f2), (q 4, aJ G 200 f3), (q 5, aJ G 200 f4), (q 6, aI G 200 fr), (q 7, aI G 200 to1), (q 10, aI G 320 (rg [z0, z1, z2, z3, y_3, y_9, z6, z7, z8, z9, z10, z11, v_4, v_5, v_6, v_7])), (q 11, aZ G 16 sf_10)]
          refine j_lload X dX11_on_134 1 rfl ?_
          refine j_lload X dX11_on_136 0 rfl ?_
          refine j_ladd X dX11_on_138 ?_
          refine j_callS X dX11_on_139 (c_X11_side l G (x_1 + x_2)) gX11_on_X11_side rfl hy_X11_side_S ⟨Nat.le_of_ble_eq_true rfl, Nat.le_of_ble_eq_true rfl⟩ [] rfl (by decide) rfl rfl (Nat.le_of_ble_eq_true rfl) ⟨Nat.le_of_ble_eq_true rfl, Nat.le_of_ble_eq_true rfl⟩ ?_
          rintro _ ⟨⟩ rfl
          change J p l e rm_X11_on s m args below meth c Q G A 10 0 0 142 [(8, .long x_2), (6, .long x_1), (0, .ref (q 0)), (1, .int (nI a)), (2, .long x), (4, .long y)] [.int (sg ((x_1 + x_2).toInt)), .int (sg ((x_1 - x_2).toInt)), .int (sg x_2.toInt), .int (sg x_1.toInt), .int (nI a), .ref (q 0)] [(q 0, .inr (10, mF 0 n q co cr po tx ty)), (q 1, aZ G 200 fa), (q 2, aJ G 200 f1), (q 3, aJ G 200 f2), (q 4, aJ G 200 f3), (q 5, aJ G 200 f4), (q 6, aI G 200 fr), (q 7, aI G 200 to1), (q 10, aI G 320 (rg [z0, z1, z2, z3, y_3, y_9, z6, z7, z8, z9, z10, z11, v_4, v_5, v_6, v_7])), (q 11, aZ G 16 sf_10)]
          refine j_callS X dX11_on_142 (c_X11_position l G (sg x_1.toInt) (sg x_2.toInt) (sg ((x_1 - x_2).toInt)) (sg ((x_1 + x_2).toInt))) gX11_on_X11_position rfl hy_X11_position_S ⟨Nat.le_of_ble_eq_true rfl, Nat.le_of_ble_eq_true rfl⟩ [] rfl (by decide) rfl rfl (Nat.le_of_ble_eq_true rfl) ⟨Nat.le_of_ble_eq_true rfl, Nat.le_of_ble_eq_true rfl⟩ ?_
          rintro _ ⟨⟩ rfl
          change J p l e rm_X11_on s m args below meth c Q G A 10 0 0 145 [(8, .long x_2), (6, .long x_1), (0, .ref (q 0)), (1, .int (nI a)), (2, .long x), (4, .long y)] [.int (posn (sg x_1.toInt) (sg x_2.toInt) (sg ((x_1 - x_2).toInt)) (sg ((x_1 + x_2).toInt))), .int (nI a), .ref (q 0)] [(q 0, .inr (10, mF 0 n q co cr po tx ty)), (q 1, aZ G 200 fa), (q 2, aJ G 200 f1), (q 3, aJ G 200 f2), (q 4, aJ G 200 f3), (q 5, aJ G 200 f4), (q 6, aI G 200 fr), (q 7, aI G 200 to1), (q 10, aI G 320 (rg [z0, z1, z2, z3, y_3, y_9, z6, z7, z8, z9, z10, z11, v_4, v_5, v_6, v_7])), (q 11, aZ G 16 sf_10)]
          refine j_callV X dX11_on_145 (c_X11_isTurned l G q 0 n co cr po tx ty fr to1 a ga (posn (sg x_1.toInt) (sg x_2.toInt) (sg ((x_1 - x_2).toInt)) (sg ((x_1 + x_2).toInt))) (posn_r (sg_r _) (sg_r _)) hf ht) gX11_on_X11_isTurned rfl hy_X11_isTurned_V ⟨Nat.le_of_ble_eq_true rfl, Nat.le_of_ble_eq_true rfl⟩ 0 rfl rfl [0, 6, 7] rfl (by decide) rfl rfl (Nat.le_of_ble_eq_true rfl) ⟨Nat.le_of_ble_eq_true rfl, Nat.le_of_ble_eq_true rfl⟩ ?_
          rintro _ ⟨⟩ rfl
          change J p l e rm_X11_on s m args below meth c Q G A 10 0 0 148 [(8, .long x_2), (6, .long x_1), (0, .ref (q 0)), (1, .int (nI a)), (2, .long x), (4, .long y)] [.int (bI (trn (fr a).toInt (to1 a).toInt (posn (sg x_1.toInt) (sg x_2.toInt) (sg ((x_1 - x_2).toInt)) (sg ((x_1 + x_2).toInt))).toInt))] [(q 0, .inr (10, mF 0 n q co cr po tx ty)), (q 1, aZ G 200 fa), (q 2, aJ G 200 f1), (q 3, aJ G 200 f2), (q 4, aJ G 200 f3), (q 5, aJ G 200 f4), (q 6, aI G 200 fr), (q 7, aI G 200 to1), (q 10, aI G 320 (rg [z0, z1, z2, z3, y_3, y_9, z6, z7, z8, z9, z10, z11, v_4, v_5, v_6, v_7])), (q 11, aZ G 16 sf_10)]
          exact E.2.1 148 _ (bI (trn (fr a).toInt (to1 a).toInt (posn (sg x_1.toInt) (sg x_2.toInt) (sg ((x_1 - x_2).toInt)) (sg ((x_1 + x_2).toInt))).toInt)) ([z0, z1, z2, z3, y_3, y_9, z6, z7, z8, z9, z10, z11, v_4, v_5, v_6, v_7], sf_10) _ dX11_on_148 (⟨(by rw [hpn]; exact congrArg (fun w => some (Value.int w)) (bI_c ⟨fun h => ⟨hr2, h⟩, fun h => h.2⟩)), kp_i, hS_sf_10⟩) hr (nar_I _)
        · skip
          first | simp only [bI_0, Decidable.not_not, sg_mul, sg_e0, sg_l0, sg_g0, sg_le0, sg_ge0, cmp_eq, cmp_lt, cmp_ge, cmp_gt, cmp_le, lT0, lT1] at c_109 | simp only [Int32.le_iff_toInt_le, Int32.lt_iff_toInt_lt, ← Int32.toInt_inj, iT0, iT1, iT2, iT3, iT4, iT5, iT6, iT7, iT8, iT9, iT10, iT11, iT12, iT13, iT14, iT15, iT16, iT19, iT20, iT31, iT32, iT42, iT64, iT200, iT318, iT319, iT1000, iTm1, iTm2] at c_109 | skip
          refine j_iconst (v := 0) X dX11_on_112 rfl ?_
          exact E.2.1 113 _ 0 ([z0, z1, z2, z3, y_3, y_9, z6, z7, z8, z9, z10, z11, v_4, v_5, v_6, v_7], sf_10) _ dX11_on_113 (⟨(by rw [bI_f (fun h => c_109 (by rw [ey_3, ey_9, tx_1, tx_2]; have := h.1; omega))]), kp_i, hS_sf_10⟩) hr rfl
      · skip
        exact absurd c_45 hA
    · skip
      first | simp only [bI_0, Decidable.not_not, sg_mul, sg_e0, sg_l0, sg_g0, sg_le0, sg_ge0, cmp_eq, cmp_lt, cmp_ge, cmp_gt, cmp_le, lT0, lT1] at c_19 | simp only [Int32.le_iff_toInt_le, Int32.lt_iff_toInt_lt, ← Int32.toInt_inj, iT0, iT1, iT2, iT3, iT4, iT5, iT6, iT7, iT8, iT9, iT10, iT11, iT12, iT13, iT14, iT15, iT16, iT19, iT20, iT31, iT32, iT42, iT64, iT200, iT318, iT319, iT1000, iTm1, iTm2] at c_19 | skip
      exfalso; omega
  · skip
    first | simp only [bI_0, Decidable.not_not, sg_mul, sg_e0, sg_l0, sg_g0, sg_le0, sg_ge0, cmp_eq, cmp_lt, cmp_ge, cmp_gt, cmp_le, lT0, lT1] at c_6 | simp only [Int32.le_iff_toInt_le, Int32.lt_iff_toInt_lt, ← Int32.toInt_inj, iT0, iT1, iT2, iT3, iT4, iT5, iT6, iT7, iT8, iT9, iT10, iT11, iT12, iT13, iT14, iT15, iT16, iT19, iT20, iT31, iT32, iT42, iT64, iT200, iT318, iT319, iT1000, iTm1, iTm2] at c_6 | skip
    exfalso; omega

