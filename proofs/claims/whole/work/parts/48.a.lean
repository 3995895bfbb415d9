abbrev rm_X11_over : Room := { frames := 0, cells := 0, slots := 0, locals := 0 }
theorem in_X11_over_X11 : ∀ w ∈ u_ws RX11 TX11 19, w ∈ wsX11_over := by decide +kernel
theorem fl_X11_over_48 : Cond.fieldLink RX11 48 (TX11 0).1 (TX11 0).2.1 (TX11 0).2.2.1 ∈ wsX11_over := by decide +kernel
set_option maxHeartbeats 4000000 in
set_option maxRecDepth 100000 in
theorem c_X11_over_1 (l : Launch) (G : jG) (q : Nat → Nat) (t n co cr po : Int32) (tx ty : Int64) (a b : Int64) (how : Int32) (hP : b.toInt = 0) : Ct l yX11_over wsX11_over rm_X11_over G [.ref (q 0), .long a, .long b, .int how] [(q 0, .inr (10, mF t n q co cr po tx ty))] (S := Unit) (fun r _ => r = some (.long 0)) (fun _ => [(q 0, .inr (10, mF 1 n q co cr po tx ty))]) (fun _ => []) := by
  refine c_intro (cc := cX11_over) (maxL := 11) (ret := (some .long)) (by decide) rfl (Nat.le_of_ble_eq_true rfl) (fun _ => by simp only [List.map_cons, List.map_nil]) ?_
  intro p e s m args below meth c Q A X hr hin E
  change J p l e rm_X11_over s m args below meth c Q G A 11 0 0 0 [(0, .ref (q 0)), (1, .long a), (3, .long b), (5, .int how)] [] [(q 0, .inr (10, mF t n q co cr po tx ty))]
  refine j_aload_n X dX11_over_0 rfl 0 rfl ?_
  refine j_lload_n X dX11_over_1 rfl 2 rfl ?_
  refine j_lconst (v := 0) X dX11_over_2 rfl ?_
  refine j_lcmp X dX11_over_3 ?_
  refine j_if_ne (tgt := 11) X dX11_over_4 (by decide) (fun c_4 => ?_) (fun c_4 => ?_)
  · skip
    first | simp only [bI_0, Decidable.not_not, sg_mul, sg_e0, sg_l0, sg_g0, sg_le0, sg_ge0, cmp_eq, cmp_lt, cmp_ge, cmp_gt, cmp_le, lT0, lT1] at c_4 | simp only [Int32.le_iff_toInt_le, Int32.lt_iff_toInt_lt, ← Int32.toInt_inj, iT0, iT1, iT2, iT3, iT4, iT5, iT6, iT7, iT8, iT9, iT10, iT11, iT12, iT13, iT14, iT15, iT16, iT19, iT20, iT31, iT32, iT42, iT64, iT200, iT318, iT319, iT1000, iTm1, iTm2] at c_4 | skip
    exfalso; omega
  · skip
    first | simp only [bI_0, Decidable.not_not, sg_mul, sg_e0, sg_l0, sg_g0, sg_le0, sg_ge0, cmp_eq, cmp_lt, cmp_ge, cmp_gt, cmp_le, lT0, lT1] at c_4 | simp only [Int32.le_iff_toInt_le, Int32.lt_iff_toInt_lt, ← Int32.toInt_inj, iT0, iT1, iT2, iT3, iT4, iT5, iT6, iT7, iT8, iT9, iT10, iT11, iT12, iT13, iT14, iT15, iT16, iT19, iT20, iT31, iT32, iT42, iT64, iT200, iT318, iT319, iT1000, iTm1, iTm2] at c_4 | skip
    refine j_iconst (v := 1) X dX11_over_7 rfl ?_
    refine j_goto (tgt := 27) X dX11_over_8 (by decide) ?_
    refine j_put (ws' := [(q 0, .inr (10, mF 1 n q co cr po tx ty))]) X dX11_over_27 0 rfl 0 rfl in_X11_over_X11 tyX11 tyX11_ok nmX11 (by decide) fl_X11_over_48 rfl rfl rfl rfl (Nat.le_of_ble_eq_true rfl) rfl ?_
    refine j_aload_n X dX11_over_30 rfl 0 rfl ?_
    refine j_get (v := .int 1) X dX11_over_31 0 rfl 0 rfl in_X11_over_X11 (by decide) fl_X11_over_48 rfl ?_
    refine j_if_eq (tgt := 39) X dX11_over_34 (by decide) (fun c9 => absurd c9 (by decide)) (fun _ => ?_)
    refine j_lconst (v := 0) X dX11_over_37 rfl ?_
    exact E.2.2 38 _ 0 () dX11_over_38 rfl hr

theorem hy_X11_over_V : yX11_over.cls = RX11 ∧ yX11_over.cls ≠ "java/lang/invoke/MethodHandle" ∧ yX11_over.cls ≠ "java/lang/invoke/VarHandle" ∧ (parseMethodDescriptor yX11_over.desc).map (fun d => d.parameters.length) = some 3 := by decide +kernel
set_option maxHeartbeats 4000000 in
set_option maxRecDepth 100000 in
theorem c_X11_over_2 (l : Launch) (G : jG) (q : Nat → Nat) (t n co cr po : Int32) (tx ty : Int64) (a b : Int64) (how : Int32) (hb : ¬ b.toInt = 0) (hP : ¬ (0 ≤ how.toInt ∧ how.toInt ≤ 2)) : Ct l yX11_over wsX11_over rm_X11_over G [.ref (q 0), .long a, .long b, .int how] [(q 0, .inr (10, mF t n q co cr po tx ty))] (S := Unit) (fun r _ => r = some (.long 0)) (fun _ => [(q 0, .inr (10, mF 2 n q co cr po tx ty))]) (fun _ => []) := by
  refine c_intro (cc := cX11_over) (maxL := 11) (ret := (some .long)) (by decide) rfl (Nat.le_of_ble_eq_true rfl) (fun _ => by simp only [List.map_cons, List.map_nil]) ?_
  intro p e s m args below meth c Q A X hr hin E
  change J p l e rm_X11_over s m args below meth c Q G A 11 0 0 0 [(0, .ref (q 0)), (1, .long a), (3, .long b), (5, .int how)] [] [(q 0, .inr (10, mF t n q co cr po tx ty))]
  refine j_aload_n X dX11_over_0 rfl 0 rfl ?_
  refine j_lload_n X dX11_over_1 rfl 2 rfl ?_
  refine j_lconst (v := 0) X dX11_over_2 rfl ?_
  refine j_lcmp X dX11_over_3 ?_
  refine j_if_ne (tgt := 11) X dX11_over_4 (by decide) (fun c_4 => ?_) (fun c_4 => ?_)
  · skip
    first | simp only [bI_0, Decidable.not_not, sg_mul, sg_e0, sg_l0, sg_g0, sg_le0, sg_ge0, cmp_eq, cmp_lt, cmp_ge, cmp_gt, cmp_le, lT0, lT1] at c_4 | simp only [Int32.le_iff_toInt_le, Int32.lt_iff_toInt_lt, ← Int32.toInt_inj, iT0, iT1, iT2, iT3, iT4, iT5, iT6, iT7, iT8, iT9, iT10, iT11, iT12, iT13, iT14, iT15, iT16, iT19, iT20, iT31, iT32, iT42, iT64, iT200, iT318, iT319, iT1000, iTm1, iTm2] at c_4 | skip
    refine j_iload X dX11_over_11 3 rfl ?_
    refine j_if_lt (tgt := 22) X dX11_over_13 (by decide) (fun c_13 => ?_) (fun c_13 => ?_)
    · skip
      first | simp only [bI_0, Decidable.not_not, sg_mul, sg_e0, sg_l0, sg_g0, sg_le0, sg_ge0, cmp_eq, cmp_lt, cmp_ge, cmp_gt, cmp_le, lT0, lT1] at c_13 | simp only [Int32.le_iff_toInt_le, Int32.lt_iff_toInt_lt, ← Int32.toInt_inj, iT0, iT1, iT2, iT3, iT4, iT5, iT6, iT7, iT8, iT9, iT10, iT11, iT12, iT13, iT14, iT15, iT16, iT19, iT20, iT31, iT32, iT42, iT64, iT200, iT318, iT319, iT1000, iTm1, iTm2] at c_13 | skip
      refine j_iconst (v := 2) X dX11_over_22 rfl ?_
      refine j_goto (tgt := 27) X dX11_over_23 (by decide) ?_
      refine j_put (ws' := [(q 0, .inr (10, mF 2 n q co cr po tx ty))]) X dX11_over_27 0 rfl 0 rfl in_X11_over_X11 tyX11 tyX11_ok nmX11 (by decide) fl_X11_over_48 rfl rfl rfl rfl (Nat.le_of_ble_eq_true rfl) rfl ?_
      refine j_aload_n X dX11_over_30 rfl 0 rfl ?_
      refine j_get (v := .int 2) X dX11_over_31 0 rfl 0 rfl in_X11_over_X11 (by decide) fl_X11_over_48 rfl ?_
      refine j_if_eq (tgt := 39) X dX11_over_34 (by decide) (fun c9 => absurd c9 (by decide)) (fun _ => ?_)
      refine j_lconst (v := 0) X dX11_over_37 rfl ?_
      exact E.2.2 38 _ 0 () dX11_over_38 rfl hr
    · skip
      first | simp only [bI_0, Decidable.not_not, sg_mul, sg_e0, sg_l0, sg_g0, sg_le0, sg_ge0, cmp_eq, cmp_lt, cmp_ge, cmp_gt, cmp_le, lT0, lT1] at c_13 | simp only [Int32.le_iff_toInt_le, Int32.lt_iff_toInt_lt, ← Int32.toInt_inj, iT0, iT1, iT2, iT3, iT4, iT5, iT6, iT7, iT8, iT9, iT10, iT11, iT12, iT13, iT14, iT15, iT16, iT19, iT20, iT31, iT32, iT42, iT64, iT200, iT318, iT319, iT1000, iTm1, iTm2] at c_13 | skip
      refine j_iload X dX11_over_16 3 rfl ?_
      refine j_iconst (v := 2) X dX11_over_18 rfl ?_
      refine j_icmp_le (tgt := 26) X dX11_over_19 (by decide) (fun c_19 => ?_) (fun c_19 => ?_)
      · skip
        first | simp only [bI_0, Decidable.not_not, sg_mul, sg_e0, sg_l0, sg_g0, sg_le0, sg_ge0, cmp_eq, cmp_lt, cmp_ge, cmp_gt, cmp_le, lT0, lT1] at c_19 | simp only [Int32.le_iff_toInt_le, Int32.lt_iff_toInt_lt, ← Int32.toInt_inj, iT0, iT1, iT2, iT3, iT4, iT5, iT6, iT7, iT8, iT9, iT10, iT11, iT12, iT13, iT14, iT15, iT16, iT19, iT20, iT31, iT32, iT42, iT64, iT200, iT318, iT319, iT1000, iTm1, iTm2] at c_19 | skip
        exfalso; omega
      · skip
        first | simp only [bI_0, Decidable.not_not, sg_mul, sg_e0, sg_l0, sg_g0, sg_le0, sg_ge0, cmp_eq, cmp_lt, cmp_ge, cmp_gt, cmp_le, lT0, lT1] at c_19 | simp only [Int32.le_iff_toInt_le, Int32.lt_iff_toInt_lt, ← Int32.toInt_inj, iT0, iT1, iT2, iT3, iT4, iT5, iT6, iT7, iT8, iT9, iT10, iT11, iT12, iT13, iT14, iT15, iT16, iT19, iT20, iT31, iT32, iT42, iT64, iT200, iT318, iT319, iT1000, iTm1, iTm2] at c_19 | skip
        refine j_iconst (v := 2) X dX11_over_22 rfl ?_
        refine j_goto (tgt := 27) X dX11_over_23 (by decide) ?_
        refine j_put (ws' := [(q 0, .inr (10, mF 2 n q co cr po tx ty))]) X dX11_over_27 0 rfl 0 rfl in_X11_over_X11 tyX11 tyX11_ok nmX11 (by decide) fl_X11_over_48 rfl rfl rfl rfl (Nat.le_of_ble_eq_true rfl) rfl ?_
        refine j_aload_n X dX11_over_30 rfl 0 rfl ?_
        refine j_get (v := .int 2) X dX11_over_31 0 rfl 0 rfl in_X11_over_X11 (by decide) fl_X11_over_48 rfl ?_
        refine j_if_eq (tgt := 39) X dX11_over_34 (by decide) (fun c9 => absurd c9 (by decide)) (fun _ => ?_)
        refine j_lconst (v := 0) X dX11_over_37 rfl ?_
        exact E.2.2 38 _ 0 () dX11_over_38 rfl hr
  · skip
    first | simp only [bI_0, Decidable.not_not, sg_mul, sg_e0, sg_l0, sg_g0, sg_le0, sg_ge0, cmp_eq, cmp_lt, cmp_ge, cmp_gt, cmp_le, lT0, lT1] at c_4 | simp only [Int32.le_iff_toInt_le, Int32.lt_iff_toInt_lt, ← Int32.toInt_inj, iT0, iT1, iT2, iT3, iT4, iT5, iT6, iT7, iT8, iT9, iT10, iT11, iT12, iT13, iT14, iT15, iT16, iT19, iT20, iT31, iT32, iT42, iT64, iT200, iT318, iT319, iT1000, iTm1, iTm2] at c_4 | skip
    exfalso; omega

set_option maxHeartbeats 4000000 in
set_option maxRecDepth 100000 in
theorem c_X11_over_0 (l : Launch) (G : jG) (q : Nat → Nat) (t n co cr po : Int32) (tx ty : Int64) (a b : Int64) (how : Int32) (hb : ¬ b.toInt = 0) (hb1 : ¬ b.toInt = -1) (hP : 0 ≤ how.toInt ∧ how.toInt ≤ 2) : Ct l yX11_over wsX11_over rm_X11_over G [.ref (q 0), .long a, .long b, .int how] [(q 0, .inr (10, mF t n q co cr po tx ty))] (S := Int64 × Int × Int) (fun r u => r = some (.long u.1) ∧ ovR a.toInt b.toInt u.2.1 u.2.2 ∧ u.1.toInt = ovV u.2.1 u.2.2 b.toInt how.toInt) (fun _ => [(q 0, .inr (10, mF 0 n q co cr po tx ty))]) (fun _ => []) := by
  refine c_intro (cc := cX11_over) (maxL := 11) (ret := (some .long)) (by decide) rfl (Nat.le_of_ble_eq_true rfl) (fun _ => by simp only [List.map_cons, List.map_nil]) ?_
  intro p e s m args below meth c Q A X hr hin E
  change J p l e rm_X11_over s m args below meth c Q G A 11 0 0 0 [(0, .ref (q 0)), (1, .long a), (3, .long b), (5, .int how)] [] [(q 0, .inr (10, mF t n q co cr po tx ty))]
  refine j_aload_n X dX11_over_0 rfl 0 rfl ?_
  refine j_lload_n X dX11_over_1 rfl 2 rfl ?_
  refine j_lconst (v := 0) X dX11_over_2 rfl ?_
  refine j_lcmp X dX11_over_3 ?_
  refine j_if_ne (tgt := 11) X dX11_over_4 (by decide) (fun c_4 => ?_) (fun c_4 => ?_)
  · skip
    first | simp only [bI_0, Decidable.not_not, sg_mul, sg_e0, sg_l0, sg_g0, sg_le0, sg_ge0, cmp_eq, cmp_lt, cmp_ge, cmp_gt, cmp_le, lT0, lT1] at c_4 | simp only [Int32.le_iff_toInt_le, Int32.lt_iff_toInt_lt, ← Int32.toInt_inj, iT0, iT1, iT2, iT3, iT4, iT5, iT6, iT7, iT8, iT9, iT10, iT11, iT12, iT13, iT14, iT15, iT16, iT19, iT20, iT31, iT32, iT42, iT64, iT200, iT318, iT319, iT1000, iTm1, iTm2] at c_4 | skip
    refine j_iload X dX11_over_11 3 rfl ?_
    refine j_if_lt (tgt := 22) X dX11_over_13 (by decide) (fun c_13 => ?_) (fun c_13 => ?_)
    · skip
      first | simp only [bI_0, Decidable.not_not, sg_mul, sg_e0, sg_l0, sg_g0, sg_le0, sg_ge0, cmp_eq, cmp_lt, cmp_ge, cmp_gt, cmp_le, lT0, lT1] at c_13 | simp only [Int32.le_iff_toInt_le, Int32.lt_iff_toInt_lt, ← Int32.toInt_inj, iT0, iT1, iT2, iT3, iT4, iT5, iT6, iT7, iT8, iT9, iT10, iT11, iT12, iT13, iT14, iT15, iT16, iT19, iT20, iT31, iT32, iT42, iT64, iT200, iT318, iT319, iT1000, iTm1, iTm2] at c_13 | skip
      exfalso; omega
    · skip
      first | simp only [bI_0, Decidable.not_not, sg_mul, sg_e0, sg_l0, sg_g0, sg_le0, sg_ge0, cmp_eq, cmp_lt, cmp_ge, cmp_gt, cmp_le, lT0, lT1] at c_13 | simp only [Int32.le_iff_toInt_le, Int32.lt_iff_toInt_lt, ← Int32.toInt_inj, iT0, iT1, iT2, iT3, iT4, iT5, iT6, iT7, iT8, iT9, iT10, iT11, iT12, iT13, iT14, iT15, iT16, iT19, iT20, iT31, iT32, iT42, iT64, iT200, iT318, iT319, iT1000, iTm1, iTm2] at c_13 | skip
      refine j_iload X dX11_over_16 3 rfl ?_
      refine j_iconst (v := 2) X dX11_over_18 rfl ?_
      refine j_icmp_le (tgt := 26) X dX11_over_19 (by decide) (fun c_19 => ?_) (fun c_19 => ?_)
      · skip
        first | simp only [bI_0, Decidable.not_not, sg_mul, sg_e0, sg_l0, sg_g0, sg_le0, sg_ge0, cmp_eq, cmp_lt, cmp_ge, cmp_gt, cmp_le, lT0, lT1] at c_19 | simp only [Int32.le_iff_toInt_le, Int32.lt_iff_toInt_lt, ← Int32.toInt_inj, iT0, iT1, iT2, iT3, iT4, iT5, iT6, iT7, iT8, iT9, iT10, iT11, iT12, iT13, iT14, iT15, iT16, iT19, iT20, iT31, iT32, iT42, iT64, iT200, iT318, iT319, iT1000, iTm1, iTm2] at c_19 | skip
        refine j_iconst (v := 0) X dX11_over_26 rfl ?_
        refine j_put (ws' := [(q 0, .inr (10, mF 0 n q co cr po tx ty))]) X dX11_over_27 0 rfl 0 rfl in_X11_over_X11 tyX11 tyX11_ok nmX11 (by decide) fl_X11_over_48 rfl rfl rfl rfl (Nat.le_of_ble_eq_true rfl) rfl ?_
        refine j_aload_n X dX11_over_30 rfl 0 rfl ?_
        refine j_get (v := .int 0) X dX11_over_31 0 rfl 0 rfl in_X11_over_X11 (by decide) fl_X11_over_48 rfl ?_
        refine j_if_eq (tgt := 39) X dX11_over_34 (by decide) (fun _ => ?_) (fun c9 => absurd c9 (by decide))
        refine j_lload_n X dX11_over_39 rfl 1 rfl ?_
        refine j_lload_n X dX11_over_40 rfl 2 rfl ?_
        refine j_ldiv X dX11_over_41 (fun h => hb (by rw [h]; rfl)) ?_
        refine j_topl (fun x_1 ex_1 => ?_)
        refine j_lstore (L' := [(6, .long x_1), (0, .ref (q 0)), (1, .long a), (3, .long b), (5, .int how)]) X dX11_over_42 (by decide) rfl ?_
        refine j_lload_n X dX11_over_44 rfl 2 rfl ?_
        refine j_lload_n X dX11_over_45 rfl 3 rfl ?_
        refine j_lrem X dX11_over_46 (fun h => hb (by rw [h]; rfl)) ?_
        refine j_topl (fun x_2 ex_2 => ?_)
        refine j_lstore (L' := [(8, .long x_2), (6, .long x_1), (0, .ref (q 0)), (1, .long a), (3, .long b), (5, .int how)]) X dX11_over_47 (by decide) rfl ?_
        have hd := ov_d hb hb1 ex_1 ex_2
        refine j_lload X dX11_over_49 0 rfl ?_
        refine j_lconst (v := 0) X dX11_over_51 rfl ?_
        refine j_lcmp X dX11_over_52 ?_
        have cut94 : ∀ (q2 r2 : Int64) (hO : ovR a.toInt b.toInt q2.toInt r2.toInt) (hq2 : ¬ r2.toInt = 0 → -4611686018427387905 ≤ q2.toInt ∧ q2.toInt ≤ 4611686018427387904), J p l e rm_X11_over s m args below meth c Q G A 11 0 0 94 [(0, .ref (q 0)), (1, .long a), (3, .long b), (5, .int how), (6, .long q2), (8, .long r2)] [] [(q 0, .inr (10, mF 0 n q co cr po tx ty))] := by
          intro q2 r2 hO hq2
          refine j_iload X dX11_over_94 3 rfl ?_
          refine j_iconst (v := 1) X dX11_over_96 rfl ?_
          refine j_icmp_ne (tgt := 117) X dX11_over_97 (by decide) (fun c_97 => ?_) (fun c_97 => ?_)
          · skip
            first | simp only [bI_0, Decidable.not_not, sg_mul, sg_e0, sg_l0, sg_g0, sg_le0, sg_ge0, cmp_eq, cmp_lt, cmp_ge, cmp_gt, cmp_le, lT0, lT1] at c_97 | simp only [Int32.le_iff_toInt_le, Int32.lt_iff_toInt_lt, ← Int32.toInt_inj, iT0, iT1, iT2, iT3, iT4, iT5, iT6, iT7, iT8, iT9, iT10, iT11, iT12, iT13, iT14, iT15, iT16, iT19, iT20, iT31, iT32, iT42, iT64, iT200, iT318, iT319, iT1000, iTm1, iTm2] at c_97 | skip
            refine j_iload X dX11_over_117 3 rfl ?_
            refine j_iconst (v := 2) X dX11_over_119 rfl ?_
            refine j_icmp_ne (tgt := 163) X dX11_over_120 (by decide) (fun c_120 => ?_) (fun c_120 => ?_)
            · skip
              first | simp only [bI_0, Decidable.not_not, sg_mul, sg_e0, sg_l0, sg_g0, sg_le0, sg_ge0, cmp_eq, cmp_lt, cmp_ge, cmp_gt, cmp_le, lT0, lT1] at c_120 | simp only [Int32.le_iff_toInt_le, Int32.lt_iff_toInt_lt, ← Int32.toInt_inj, iT0, iT1, iT2, iT3, iT4, iT5, iT6, iT7, iT8, iT9, iT10, iT11, iT12, iT13, iT14, iT15, iT16, iT19, iT20, iT31, iT32, iT42, iT64, iT200, iT318, iT319, iT1000, iTm1, iTm2] at c_120 | skip
              refine j_iconst (v := 0) X dX11_over_163 rfl ?_
              refine j_istore (L' := [(10, .int 0), (0, .ref (q 0)), (1, .long a), (3, .long b), (5, .int how), (6, .long q2), (8, .long r2)]) X dX11_over_164 (by decide) rfl ?_
              refine j_iload X dX11_over_166 0 rfl ?_
              refine j_if_eq (tgt := 178) X dX11_over_168 (by decide) (fun _ => ?_) (fun c9 => absurd c9 (by decide))
              refine j_lload X dX11_over_178 5 rfl ?_
              exact E.2.2 180 _ q2 (q2, q2.toInt, r2.toInt) dX11_over_180 (⟨rfl, hO, (by dsimp only; unfold ovV; rw [if_pos (by omega)])⟩) hr
            · skip
              first | simp only [bI_0, Decidable.not_not, sg_mul, sg_e0, sg_l0, sg_g0, sg_le0, sg_ge0, cmp_eq, cmp_lt, cmp_ge, cmp_gt, cmp_le, lT0, lT1] at c_120 | simp only [Int32.le_iff_toInt_le, Int32.lt_iff_toInt_lt, ← Int32.toInt_inj, iT0, iT1, iT2, iT3, iT4, iT5, iT6, iT7, iT8, iT9, iT10, iT11, iT12, iT13, iT14, iT15, iT16, iT19, iT20, iT31, iT32, iT42, iT64, iT200, iT318, iT319, iT1000, iTm1, iTm2] at c_120 | skip
              refine j_lload X dX11_over_123 5 rfl ?_
              refine j_lconst (v := 0) X dX11_over_125 rfl ?_
              refine j_lcmp X dX11_over_126 ?_
              refine j_if_eq (tgt := 163) X dX11_over_127 (by decide) (fun c_127 => ?_) (fun c_127 => ?_)
              · skip
                first | simp only [bI_0, Decidable.not_not, sg_mul, sg_e0, sg_l0, sg_g0, sg_le0, sg_ge0, cmp_eq, cmp_lt, cmp_ge, cmp_gt, cmp_le, lT0, lT1] at c_127 | simp only [Int32.le_iff_toInt_le, Int32.lt_iff_toInt_lt, ← Int32.toInt_inj, iT0, iT1, iT2, iT3, iT4, iT5, iT6, iT7, iT8, iT9, iT10, iT11, iT12, iT13, iT14, iT15, iT16, iT19, iT20, iT31, iT32, iT42, iT64, iT200, iT318, iT319, iT1000, iTm1, iTm2] at c_127 | skip
                refine j_iconst (v := 0) X dX11_over_163 rfl ?_
                refine j_istore (L' := [(10, .int 0), (0, .ref (q 0)), (1, .long a), (3, .long b), (5, .int how), (6, .long q2), (8, .long r2)]) X dX11_over_164 (by decide) rfl ?_
                refine j_iload X dX11_over_166 0 rfl ?_
                refine j_if_eq (tgt := 178) X dX11_over_168 (by decide) (fun _ => ?_) (fun c9 => absurd c9 (by decide))
                refine j_lload X dX11_over_178 5 rfl ?_
                exact E.2.2 180 _ q2 (q2, q2.toInt, r2.toInt) dX11_over_180 (⟨rfl, hO, (by dsimp only; unfold ovV; rw [if_neg (by omega), if_neg (by omega), if_pos (by omega)])⟩) hr
              · skip
                first | simp only [bI_0, Decidable.not_not, sg_mul, sg_e0, sg_l0, sg_g0, sg_le0, sg_ge0, cmp_eq, cmp_lt, cmp_ge, cmp_gt, cmp_le, lT0, lT1] at c_127 | simp only [Int32.le_iff_toInt_le, Int32.lt_iff_toInt_lt, ← Int32.toInt_inj, iT0, iT1, iT2, iT3, iT4, iT5, iT6, iT7, iT8, iT9, iT10, iT11, iT12, iT13, iT14, iT15, iT16, iT19, iT20, iT31, iT32, iT42, iT64, iT200, iT318, iT319, iT1000, iTm1, iTm2] at c_127 | skip
                refine j_lload_n X dX11_over_130 rfl 2 rfl ?_
                refine j_lconst (v := 0) X dX11_over_131 rfl ?_
                refine j_lcmp X dX11_over_132 ?_
                refine j_if_le (tgt := 149) X dX11_over_133 (by decide) (fun c_133 => ?_) (fun c_133 => ?_)
                · skip
                  first | simp only [bI_0, Decidable.not_not, sg_mul, sg_e0, sg_l0, sg_g0, sg_le0, sg_ge0, cmp_eq, cmp_lt, cmp_ge, cmp_gt, cmp_le, lT0, lT1] at c_133 | simp only [Int32.le_iff_toInt_le, Int32.lt_iff_toInt_lt, ← Int32.toInt_inj, iT0, iT1, iT2, iT3, iT4, iT5, iT6, iT7, iT8, iT9, iT10, iT11, iT12, iT13, iT14, iT15, iT16, iT19, iT20, iT31, iT32, iT42, iT64, iT200, iT318, iT319, iT1000, iTm1, iTm2] at c_133 | skip
                  have hsb : (b - r2).toInt = b.toInt - r2.toInt := by have := l_rng b; have := l_rng r2; have h1 := hO.2.1; have h2 := hO.2.2; rw [l_sub] <;> omega
                  refine j_lload X dX11_over_149 5 rfl ?_
                  refine j_lload_n X dX11_over_151 rfl 2 rfl ?_
                  refine j_lload X dX11_over_152 5 rfl ?_
                  refine j_lsub X dX11_over_154 ?_
                  refine j_lcmp X dX11_over_155 ?_
                  refine j_if_gt (tgt := 163) X dX11_over_156 (by decide) (fun c_156 => ?_) (fun c_156 => ?_)
                  · skip
                    first | simp only [bI_0, Decidable.not_not, sg_mul, sg_e0, sg_l0, sg_g0, sg_le0, sg_ge0, cmp_eq, cmp_lt, cmp_ge, cmp_gt, cmp_le, lT0, lT1] at c_156 | simp only [Int32.le_iff_toInt_le, Int32.lt_iff_toInt_lt, ← Int32.toInt_inj, iT0, iT1, iT2, iT3, iT4, iT5, iT6, iT7, iT8, iT9, iT10, iT11, iT12, iT13, iT14, iT15, iT16, iT19, iT20, iT31, iT32, iT42, iT64, iT200, iT318, iT319, iT1000, iTm1, iTm2] at c_156 | skip
                    refine j_iconst (v := 0) X dX11_over_163 rfl ?_
                    refine j_istore (L' := [(10, .int 0), (0, .ref (q 0)), (1, .long a), (3, .long b), (5, .int how), (6, .long q2), (8, .long r2)]) X dX11_over_164 (by decide) rfl ?_
                    refine j_iload X dX11_over_166 0 rfl ?_
                    refine j_if_eq (tgt := 178) X dX11_over_168 (by decide) (fun _ => ?_) (fun c9 => absurd c9 (by decide))
                    refine j_lload X dX11_over_178 5 rfl ?_
                    exact E.2.2 180 _ q2 (q2, q2.toInt, r2.toInt) dX11_over_180 (⟨rfl, hO, (by dsimp only; unfold ovV; rw [if_neg (by omega), if_neg (by omega), if_neg (by omega), if_neg (by omega), if_neg (by omega)])⟩) hr
                  · skip
                    first | simp only [bI_0, Decidable.not_not, sg_mul, sg_e0, sg_l0, sg_g0, sg_le0, sg_ge0, cmp_eq, cmp_lt, cmp_ge, cmp_gt, cmp_le, lT0, lT1] at c_156 | simp only [Int32.le_iff_toInt_le, Int32.lt_iff_toInt_lt, ← Int32.toInt_inj, iT0, iT1, iT2, iT3, iT4, iT5, iT6, iT7, iT8, iT9, iT10, iT11, iT12, iT13, iT14, iT15, iT16, iT19, iT20, iT31, iT32, iT42, iT64, iT200, iT318, iT319, iT1000, iTm1, iTm2] at c_156 | skip
                    refine j_iconst (v := 1) X dX11_over_159 rfl ?_
                    refine j_goto (tgt := 164) X dX11_over_160 (by decide) ?_
                    refine j_istore (L' := [(10, .int 1), (0, .ref (q 0)), (1, .long a), (3, .long b), (5, .int how), (6, .long q2), (8, .long r2)]) X dX11_over_164 (by decide) rfl ?_
                    refine j_iload X dX11_over_166 0 rfl ?_
                    refine j_if_eq (tgt := 178) X dX11_over_168 (by decide) (fun c9 => absurd c9 (by decide)) (fun _ => ?_)
                    refine j_lload X dX11_over_171 5 rfl ?_
                    refine j_lconst (v := 1) X dX11_over_173 rfl ?_
                    refine j_ladd X dX11_over_174 ?_
                    refine j_goto (tgt := 180) X dX11_over_175 (by decide) ?_
                    exact E.2.2 180 _ (q2 + 1) ((q2 + 1), q2.toInt, r2.toInt) dX11_over_180 (⟨rfl, hO, (by dsimp only; unfold ovV; rw [if_neg (by omega), if_neg (by omega), if_neg (by omega), if_neg (by omega), if_pos (by omega)]; rw [l_add] <;> rw [lT1] <;> (have := hq2 (by omega); omega))⟩) hr
                · skip
                  first | simp only [bI_0, Decidable.not_not, sg_mul, sg_e0, sg_l0, sg_g0, sg_le0, sg_ge0, cmp_eq, cmp_lt, cmp_ge, cmp_gt, cmp_le, lT0, lT1] at c_133 | simp only [Int32.le_iff_toInt_le, Int32.lt_iff_toInt_lt, ← Int32.toInt_inj, iT0, iT1, iT2, iT3, iT4, iT5, iT6, iT7, iT8, iT9, iT10, iT11, iT12, iT13, iT14, iT15, iT16, iT19, iT20, iT31, iT32, iT42, iT64, iT200, iT318, iT319, iT1000, iTm1, iTm2] at c_133 | skip
                  have hsb : (b - r2).toInt = b.toInt - r2.toInt := by have := l_rng b; have := l_rng r2; have h1 := hO.2.1; have h2 := hO.2.2; rw [l_sub] <;> omega
                  refine j_lload X dX11_over_136 5 rfl ?_
                  refine j_lload_n X dX11_over_138 rfl 2 rfl ?_
                  refine j_lload X dX11_over_139 5 rfl ?_
                  refine j_lsub X dX11_over_141 ?_
                  refine j_lcmp X dX11_over_142 ?_
                  refine j_if_lt (tgt := 163) X dX11_over_143 (by decide) (fun c_143 => ?_) (fun c_143 => ?_)
                  · skip
                    first | simp only [bI_0, Decidable.not_not, sg_mul, sg_e0, sg_l0, sg_g0, sg_le0, sg_ge0, cmp_eq, cmp_lt, cmp_ge, cmp_gt, cmp_le, lT0, lT1] at c_143 | simp only [Int32.le_iff_toInt_le, Int32.lt_iff_toInt_lt, ← Int32.toInt_inj, iT0, iT1, iT2, iT3, iT4, iT5, iT6, iT7, iT8, iT9, iT10, iT11, iT12, iT13, iT14, iT15, iT16, iT19, iT20, iT31, iT32, iT42, iT64, iT200, iT318, iT319, iT1000, iTm1, iTm2] at c_143 | skip
                    refine j_iconst (v := 0) X dX11_over_163 rfl ?_
                    refine j_istore (L' := [(10, .int 0), (0, .ref (q 0)), (1, .long a), (3, .long b), (5, .int how), (6, .long q2), (8, .long r2)]) X dX11_over_164 (by decide) rfl ?_
                    refine j_iload X dX11_over_166 0 rfl ?_
                    refine j_if_eq (tgt := 178) X dX11_over_168 (by decide) (fun _ => ?_) (fun c9 => absurd c9 (by decide))
                    refine j_lload X dX11_over_178 5 rfl ?_
                    exact E.2.2 180 _ q2 (q2, q2.toInt, r2.toInt) dX11_over_180 (⟨rfl, hO, (by dsimp only; unfold ovV; rw [if_neg (by omega), if_neg (by omega), if_neg (by omega), if_pos (by omega), if_neg (by omega)])⟩) hr
                  · skip
                    first | simp only [bI_0, Decidable.not_not, sg_mul, sg_e0, sg_l0, sg_g0, sg_le0, sg_ge0, cmp_eq, cmp_lt, cmp_ge, cmp_gt, cmp_le, lT0, lT1] at c_143 | simp only [Int32.le_iff_toInt_le, Int32.lt_iff_toInt_lt, ← Int32.toInt_inj, iT0, iT1, iT2, iT3, iT4, iT5, iT6, iT7, iT8, iT9, iT10, iT11, iT12, iT13, iT14, iT15, iT16, iT19, iT20, iT31, iT32, iT42, iT64, iT200, iT318, iT319, iT1000, iTm1, iTm2] at c_143 | skip
                    refine j_goto (tgt := 159) X dX11_over_146 (by decide) ?_
                    refine j_iconst (v := 1) X dX11_over_159 rfl ?_
                    refine j_goto (tgt := 164) X dX11_over_160 (by decide) ?_
                    refine j_istore (L' := [(10, .int 1), (0, .ref (q 0)), (1, .long a), (3, .long b), (5, .int how), (6, .long q2), (8, .long r2)]) X dX11_over_164 (by decide) rfl ?_
                    refine j_iload X dX11_over_166 0 rfl ?_
                    refine j_if_eq (tgt := 178) X dX11_over_168 (by decide) (fun c9 => absurd c9 (by decide)) (fun _ => ?_)
                    refine j_lload X dX11_over_171 5 rfl ?_
                    refine j_lconst (v := 1) X dX11_over_173 rfl ?_
                    refine j_ladd X dX11_over_174 ?_
                    refine j_goto (tgt := 180) X dX11_over_175 (by decide) ?_
                    exact E.2.2 180 _ (q2 + 1) ((q2 + 1), q2.toInt, r2.toInt) dX11_over_180 (⟨rfl, hO, (by dsimp only; unfold ovV; rw [if_neg (by omega), if_neg (by omega), if_neg (by omega), if_pos (by omega), if_pos (by omega)]; rw [l_add] <;> rw [lT1] <;> (have := hq2 (by omega); omega))⟩) hr
          · skip
            first | simp only [bI_0, Decidable.not_not, sg_mul, sg_e0, sg_l0, sg_g0, sg_le0, sg_ge0, cmp_eq, cmp_lt, cmp_ge, cmp_gt, cmp_le, lT0, lT1] at c_97 | simp only [Int32.le_iff_toInt_le, Int32.lt_iff_toInt_lt, ← Int32.toInt_inj, iT0, iT1, iT2, iT3, iT4, iT5, iT6, iT7, iT8, iT9, iT10, iT11, iT12, iT13, iT14, iT15, iT16, iT19, iT20, iT31, iT32, iT42, iT64, iT200, iT318, iT319, iT1000, iTm1, iTm2] at c_97 | skip
            refine j_lload X dX11_over_100 5 rfl ?_
            refine j_lconst (v := 0) X dX11_over_102 rfl ?_
            refine j_lcmp X dX11_over_103 ?_
            refine j_if_ne (tgt := 112) X dX11_over_104 (by decide) (fun c_104 => ?_) (fun c_104 => ?_)
            · skip
              first | simp only [bI_0, Decidable.not_not, sg_mul, sg_e0, sg_l0, sg_g0, sg_le0, sg_ge0, cmp_eq, cmp_lt, cmp_ge, cmp_gt, cmp_le, lT0, lT1] at c_104 | simp only [Int32.le_iff_toInt_le, Int32.lt_iff_toInt_lt, ← Int32.toInt_inj, iT0, iT1, iT2, iT3, iT4, iT5, iT6, iT7, iT8, iT9, iT10, iT11, iT12, iT13, iT14, iT15, iT16, iT19, iT20, iT31, iT32, iT42, iT64, iT200, iT318, iT319, iT1000, iTm1, iTm2] at c_104 | skip
              refine j_lload X dX11_over_112 4 rfl ?_
              refine j_lconst (v := 1) X dX11_over_114 rfl ?_
              refine j_ladd X dX11_over_115 ?_
              exact E.2.2 116 _ (q2 + 1) ((q2 + 1), q2.toInt, r2.toInt) dX11_over_116 (⟨rfl, hO, (by dsimp only; unfold ovV; rw [if_neg (by omega), if_pos (by omega), if_neg (by omega)]; rw [l_add] <;> rw [lT1] <;> (have := hq2 (by omega); omega))⟩) hr
            · skip
              first | simp only [bI_0, Decidable.not_not, sg_mul, sg_e0, sg_l0, sg_g0, sg_le0, sg_ge0, cmp_eq, cmp_lt, cmp_ge, cmp_gt, cmp_le, lT0, lT1] at c_104 | simp only [Int32.le_iff_toInt_le, Int32.lt_iff_toInt_lt, ← Int32.toInt_inj, iT0, iT1, iT2, iT3, iT4, iT5, iT6, iT7, iT8, iT9, iT10, iT11, iT12, iT13, iT14, iT15, iT16, iT19, iT20, iT31, iT32, iT42, iT64, iT200, iT318, iT319, iT1000, iTm1, iTm2] at c_104 | skip
              refine j_lload X dX11_over_107 4 rfl ?_
              refine j_goto (tgt := 116) X dX11_over_109 (by decide) ?_
              exact E.2.2 116 _ q2 (q2, q2.toInt, r2.toInt) dX11_over_116 (⟨rfl, hO, (by dsimp only; unfold ovV; rw [if_neg (by omega), if_pos (by omega), if_pos (by omega)])⟩) hr
        refine j_if_eq (tgt := 94) X dX11_over_53 (by decide) (fun c_53 => ?_) (fun c_53 => ?_)
        · skip
          first | simp only [bI_0, Decidable.not_not, sg_mul, sg_e0, sg_l0, sg_g0, sg_le0, sg_ge0, cmp_eq, cmp_lt, cmp_ge, cmp_gt, cmp_le, lT0, lT1] at c_53 | simp only [Int32.le_iff_toInt_le, Int32.lt_iff_toInt_lt, ← Int32.toInt_inj, iT0, iT1, iT2, iT3, iT4, iT5, iT6, iT7, iT8, iT9, iT10, iT11, iT12, iT13, iT14, iT15, iT16, iT19, iT20, iT31, iT32, iT42, iT64, iT200, iT318, iT319, iT1000, iTm1, iTm2] at c_53 | skip
          refine j_sub [2, 3, 4, 5, 1, 0] rfl ?_
          exact cut94 x_1 x_2 (ov_0 hd.1 c_53) (fun h => absurd c_53 h)
        · skip
          first | simp only [bI_0, Decidable.not_not, sg_mul, sg_e0, sg_l0, sg_g0, sg_le0, sg_ge0, cmp_eq, cmp_lt, cmp_ge, cmp_gt, cmp_le, lT0, lT1] at c_53 | simp only [Int32.le_iff_toInt_le, Int32.lt_iff_toInt_lt, ← Int32.toInt_inj, iT0, iT1, iT2, iT3, iT4, iT5, iT6, iT7, iT8, iT9, iT10, iT11, iT12, iT13, iT14, iT15, iT16, iT19, iT20, iT31, iT32, iT42, iT64, iT200, iT318, iT319, iT1000, iTm1, iTm2] at c_53 | skip
          refine j_lload X dX11_over_56 0 rfl ?_
          refine j_lconst (v := 0) X dX11_over_58 rfl ?_
          refine j_lcmp X dX11_over_59 ?_
          refine j_if_ge (tgt := 67) X dX11_over_60 (by decide) (fun c_60 => ?_) (fun c_60 => ?_)
          · skip
            first | simp only [bI_0, Decidable.not_not, sg_mul, sg_e0, sg_l0, sg_g0, sg_le0, sg_ge0, cmp_eq, cmp_lt, cmp_ge, cmp_gt, cmp_le, lT0, lT1] at c_60 | simp only [Int32.le_iff_toInt_le, Int32.lt_iff_toInt_lt, ← Int32.toInt_inj, iT0, iT1, iT2, iT3, iT4, iT5, iT6, iT7, iT8, iT9, iT10, iT11, iT12, iT13, iT14, iT15, iT16, iT19, iT20, iT31, iT32, iT42, iT64, iT200, iT318, iT319, iT1000, iTm1, iTm2] at c_60 | skip
            refine j_iconst (v := 0) X dX11_over_67 rfl ?_
            refine j_lload_n X dX11_over_68 rfl 4 rfl ?_
            refine j_lconst (v := 0) X dX11_over_69 rfl ?_
            refine j_lcmp X dX11_over_70 ?_
            refine j_if_ge (tgt := 78) X dX11_over_71 (by decide) (fun c_71 => ?_) (fun c_71 => ?_)
            · skip
              first | simp only [bI_0, Decidable.not_not, sg_mul, sg_e0, sg_l0, sg_g0, sg_le0, sg_ge0, cmp_eq, cmp_lt, cmp_ge, cmp_gt, cmp_le, lT0, lT1] at c_71 | simp only [Int32.le_iff_toInt_le, Int32.lt_iff_toInt_lt, ← Int32.toInt_inj, iT0, iT1, iT2, iT3, iT4, iT5, iT6, iT7, iT8, iT9, iT10, iT11, iT12, iT13, iT14, iT15, iT16, iT19, iT20, iT31, iT32, iT42, iT64, iT200, iT318, iT319, iT1000, iTm1, iTm2] at c_71 | skip
              refine j_iconst (v := 0) X dX11_over_78 rfl ?_
              refine j_icmp_eq (tgt := 94) X dX11_over_79 (by decide) (fun _ => ?_) (fun c9 => absurd c9 (by decide))
              refine j_sub [2, 3, 4, 5, 1, 0] rfl ?_
              exact cut94 x_1 x_2 (ov_s hd.1 hd.2.1 (by omega)) (fun h => by have := hd.2.2 h; omega)
            · skip
              first | simp only [bI_0, Decidable.not_not, sg_mul, sg_e0, sg_l0, sg_g0, sg_le0, sg_ge0, cmp_eq, cmp_lt, cmp_ge, cmp_gt, cmp_le, lT0, lT1] at c_71 | simp only [Int32.le_iff_toInt_le, Int32.lt_iff_toInt_lt, ← Int32.toInt_inj, iT0, iT1, iT2, iT3, iT4, iT5, iT6, iT7, iT8, iT9, iT10, iT11, iT12, iT13, iT14, iT15, iT16, iT19, iT20, iT31, iT32, iT42, iT64, iT200, iT318, iT319, iT1000, iTm1, iTm2] at c_71 | skip
              refine j_iconst (v := 1) X dX11_over_74 rfl ?_
              refine j_goto (tgt := 79) X dX11_over_75 (by decide) ?_
              refine j_icmp_eq (tgt := 94) X dX11_over_79 (by decide) (fun c9 => absurd c9 (by decide)) (fun _ => ?_)
              refine j_lload X dX11_over_82 1 rfl ?_
              refine j_lconst (v := 1) X dX11_over_84 rfl ?_
              refine j_lsub X dX11_over_85 ?_
              refine j_topl (fun x_3 ex_3 => ?_)
              refine j_lstore (L' := [(6, .long x_3), (8, .long x_2), (0, .ref (q 0)), (1, .long a), (3, .long b), (5, .int how)]) X dX11_over_86 (by decide) rfl ?_
              refine j_lload X dX11_over_88 1 rfl ?_
              refine j_lload_n X dX11_over_90 rfl 4 rfl ?_
              refine j_ladd X dX11_over_91 ?_
              refine j_topl (fun x_4 ex_4 => ?_)
              refine j_lstore (L' := [(8, .long x_4), (6, .long x_3), (0, .ref (q 0)), (1, .long a), (3, .long b), (5, .int how)]) X dX11_over_92 (by decide) rfl ?_
              refine j_sub [2, 3, 4, 5, 1, 0] rfl ?_
              have hq3 : x_3.toInt = x_1.toInt - 1 := by rw [ex_3, l_sub] <;> rw [lT1] <;> (have := hd.2.2 c_53; omega)
              have hr3 : x_4.toInt = x_2.toInt + b.toInt := by have := hd.2.1; have := l_rng b; rw [ex_4, l_add] <;> omega
              exact cut94 x_3 x_4 (ov_a hd.1 hd.2.1 (by omega) hq3 hr3) (fun h => by have := hd.2.2 c_53; omega)
          · skip
            first | simp only [bI_0, Decidable.not_not, sg_mul, sg_e0, sg_l0, sg_g0, sg_le0, sg_ge0, cmp_eq, cmp_lt, cmp_ge, cmp_gt, cmp_le, lT0, lT1] at c_60 | simp only [Int32.le_iff_toInt_le, Int32.lt_iff_toInt_lt, ← Int32.toInt_inj, iT0, iT1, iT2, iT3, iT4, iT5, iT6, iT7, iT8, iT9, iT10, iT11, iT12, iT13, iT14, iT15, iT16, iT19, iT20, iT31, iT32, iT42, iT64, iT200, iT318, iT319, iT1000, iTm1, iTm2] at c_60 | skip
            refine j_iconst (v := 1) X dX11_over_63 rfl ?_
            refine j_goto (tgt := 68) X dX11_over_64 (by decide) ?_
            refine j_lload_n X dX11_over_68 rfl 4 rfl ?_
            refine j_lconst (v := 0) X dX11_over_69 rfl ?_
            refine j_lcmp X dX11_over_70 ?_
            refine j_if_ge (tgt := 78) X dX11_over_71 (by decide) (fun c_71 => ?_) (fun c_71 => ?_)
            · skip
              first | simp only [bI_0, Decidable.not_not, sg_mul, sg_e0, sg_l0, sg_g0, sg_le0, sg_ge0, cmp_eq, cmp_lt, cmp_ge, cmp_gt, cmp_le, lT0, lT1] at c_71 | simp only [Int32.le_iff_toInt_le, Int32.lt_iff_toInt_lt, ← Int32.toInt_inj, iT0, iT1, iT2, iT3, iT4, iT5, iT6, iT7, iT8, iT9, iT10, iT11, iT12, iT13, iT14, iT15, iT16, iT19, iT20, iT31, iT32, iT42, iT64, iT200, iT318, iT319, iT1000, iTm1, iTm2] at c_71 | skip
              refine j_iconst (v := 0) X dX11_over_78 rfl ?_
              refine j_icmp_eq (tgt := 94) X dX11_over_79 (by decide) (fun c9 => absurd c9 (by decide)) (fun _ => ?_)
              refine j_lload X dX11_over_82 1 rfl ?_
              refine j_lconst (v := 1) X dX11_over_84 rfl ?_
              refine j_lsub X dX11_over_85 ?_
              refine j_topl (fun x_5 ex_5 => ?_)
              refine j_lstore (L' := [(6, .long x_5), (8, .long x_2), (0, .ref (q 0)), (1, .long a), (3, .long b), (5, .int how)]) X dX11_over_86 (by decide) rfl ?_
              refine j_lload X dX11_over_88 1 rfl ?_
              refine j_lload_n X dX11_over_90 rfl 4 rfl ?_
              refine j_ladd X dX11_over_91 ?_
              refine j_topl (fun x_6 ex_6 => ?_)
              refine j_lstore (L' := [(8, .long x_6), (6, .long x_5), (0, .ref (q 0)), (1, .long a), (3, .long b), (5, .int how)]) X dX11_over_92 (by decide) rfl ?_
              refine j_sub [2, 3, 4, 5, 1, 0] rfl ?_
              have hq3 : x_5.toInt = x_1.toInt - 1 := by rw [ex_5, l_sub] <;> rw [lT1] <;> (have := hd.2.2 c_53; omega)
              have hr3 : x_6.toInt = x_2.toInt + b.toInt := by have := hd.2.1; have := l_rng b; rw [ex_6, l_add] <;> omega
              exact cut94 x_5 x_6 (ov_a hd.1 hd.2.1 (by omega) hq3 hr3) (fun h => by have := hd.2.2 c_53; omega)
            · skip
              first | simp only [bI_0, Decidable.not_not, sg_mul, sg_e0, sg_l0, sg_g0, sg_le0, sg_ge0, cmp_eq, cmp_lt, cmp_ge, cmp_gt, cmp_le, lT0, lT1] at c_71 | simp only [Int32.le_iff_toInt_le, Int32.lt_iff_toInt_lt, ← Int32.toInt_inj, iT0, iT1, iT2, iT3, iT4, iT5, iT6, iT7, iT8, iT9, iT10, iT11, iT12, iT13, iT14, iT15, iT16, iT19, iT20, iT31, iT32, iT42, iT64, iT200, iT318, iT319, iT1000, iTm1, iTm2] at c_71 | skip
              refine j_iconst (v := 1) X dX11_over_74 rfl ?_
              refine j_goto (tgt := 79) X dX11_over_75 (by decide) ?_
              refine j_icmp_eq (tgt := 94) X dX11_over_79 (by decide) (fun _ => ?_) (fun c9 => absurd c9 (by decide))
              refine j_sub [2, 3, 4, 5, 1, 0] rfl ?_
              exact cut94 x_1 x_2 (ov_s hd.1 hd.2.1 (by omega)) (fun h => by have := hd.2.2 h; omega)
      · skip
        first | simp only [bI_0, Decidable.not_not, sg_mul, sg_e0, sg_l0, sg_g0, sg_le0, sg_ge0, cmp_eq, cmp_lt, cmp_ge, cmp_gt, cmp_le, lT0, lT1] at c_19 | simp only [Int32.le_iff_toInt_le, Int32.lt_iff_toInt_lt, ← Int32.toInt_inj, iT0, iT1, iT2, iT3, iT4, iT5, iT6, iT7, iT8, iT9, iT10, iT11, iT12, iT13, iT14, iT15, iT16, iT19, iT20, iT31, iT32, iT42, iT64, iT200, iT318, iT319, iT1000, iTm1, iTm2] at c_19 | skip
        exfalso; omega
  · skip
    first | simp only [bI_0, Decidable.not_not, sg_mul, sg_e0, sg_l0, sg_g0, sg_le0, sg_ge0, cmp_eq, cmp_lt, cmp_ge, cmp_gt, cmp_le, lT0, lT1] at c_4 | simp only [Int32.le_iff_toInt_le, Int32.lt_iff_toInt_lt, ← Int32.toInt_inj, iT0, iT1, iT2, iT3, iT4, iT5, iT6, iT7, iT8, iT9, iT10, iT11, iT12, iT13, iT14, iT15, iT16, iT19, iT20, iT31, iT32, iT42, iT64, iT200, iT318, iT319, iT1000, iTm1, iTm2] at c_4 | skip
    exfalso; omega

set_option maxHeartbeats 4000000 in
set_option maxRecDepth 100000 in
theorem c_X11_over_m (l : Launch) (G : jG) (q : Nat → Nat) (t n co cr po : Int32) (tx ty : Int64) (a b : Int64) (how : Int32) (hb1 : b.toInt = -1) (hP : 0 ≤ how.toInt ∧ how.toInt ≤ 2) : Ct l yX11_over wsX11_over rm_X11_over G [.ref (q 0), .long a, .long b, .int how] [(q 0, .inr (10, mF t n q co cr po tx ty))] (S := Unit) (fun r _ => r = some (.long (-a))) (fun _ => [(q 0, .inr (10, mF 0 n q co cr po tx ty))]) (fun _ => []) := by
  refine c_intro (cc := cX11_over) (maxL := 11) (ret := (some .long)) (by decide) rfl (Nat.le_of_ble_eq_true rfl) (fun _ => by simp only [List.map_cons, List.map_nil]) ?_
  intro p e s m args below meth c Q A X hr hin E
  change J p l e rm_X11_over s m args below meth c Q G A 11 0 0 0 [(0, .ref (q 0)), (1, .long a), (3, .long b), (5, .int how)] [] [(q 0, .inr (10, mF t n q co cr po tx ty))]
  refine j_aload_n X dX11_over_0 rfl 0 rfl ?_
  refine j_lload_n X dX11_over_1 rfl 2 rfl ?_
  refine j_lconst (v := 0) X dX11_over_2 rfl ?_
  refine j_lcmp X dX11_over_3 ?_
  refine j_if_ne (tgt := 11) X dX11_over_4 (by decide) (fun c_4 => ?_) (fun c_4 => ?_)
  · skip
    first | simp only [bI_0, Decidable.not_not, sg_mul, sg_e0, sg_l0, sg_g0, sg_le0, sg_ge0, cmp_eq, cmp_lt, cmp_ge, cmp_gt, cmp_le, lT0, lT1] at c_4 | simp only [Int32.le_iff_toInt_le, Int32.lt_iff_toInt_lt, ← Int32.toInt_inj, iT0, iT1, iT2, iT3, iT4, iT5, iT6, iT7, iT8, iT9, iT10, iT11, iT12, iT13, iT14, iT15, iT16, iT19, iT20, iT31, iT32, iT42, iT64, iT200, iT318, iT319, iT1000, iTm1, iTm2] at c_4 | skip
    refine j_iload X dX11_over_11 3 rfl ?_
    refine j_if_lt (tgt := 22) X dX11_over_13 (by decide) (fun c_13 => ?_) (fun c_13 => ?_)
    · skip
      first | simp only [bI_0, Decidable.not_not, sg_mul, sg_e0, sg_l0, sg_g0, sg_le0, sg_ge0, cmp_eq, cmp_lt, cmp_ge, cmp_gt, cmp_le, lT0, lT1] at c_13 | simp only [Int32.le_iff_toInt_le, Int32.lt_iff_toInt_lt, ← Int32.toInt_inj, iT0, iT1, iT2, iT3, iT4, iT5, iT6, iT7, iT8, iT9, iT10, iT11, iT12, iT13, iT14, iT15, iT16, iT19, iT20, iT31, iT32, iT42, iT64, iT200, iT318, iT319, iT1000, iTm1, iTm2] at c_13 | skip
      exfalso; omega
    · skip
      first | simp only [bI_0, Decidable.not_not, sg_mul, sg_e0, sg_l0, sg_g0, sg_le0, sg_ge0, cmp_eq, cmp_lt, cmp_ge, cmp_gt, cmp_le, lT0, lT1] at c_13 | simp only [Int32.le_iff_toInt_le, Int32.lt_iff_toInt_lt, ← Int32.toInt_inj, iT0, iT1, iT2, iT3, iT4, iT5, iT6, iT7, iT8, iT9, iT10, iT11, iT12, iT13, iT14, iT15, iT16, iT19, iT20, iT31, iT32, iT42, iT64, iT200, iT318, iT319, iT1000, iTm1, iTm2] at c_13 | skip
      refine j_iload X dX11_over_16 3 rfl ?_
      refine j_iconst (v := 2) X dX11_over_18 rfl ?_
      refine j_icmp_le (tgt := 26) X dX11_over_19 (by decide) (fun c_19 => ?_) (fun c_19 => ?_)
      · skip
        first | simp only [bI_0, Decidable.not_not, sg_mul, sg_e0, sg_l0, sg_g0, sg_le0, sg_ge0, cmp_eq, cmp_lt, cmp_ge, cmp_gt, cmp_le, lT0, lT1] at c_19 | simp only [Int32.le_iff_toInt_le, Int32.lt_iff_toInt_lt, ← Int32.toInt_inj, iT0, iT1, iT2, iT3, iT4, iT5, iT6, iT7, iT8, iT9, iT10, iT11, iT12, iT13, iT14, iT15, iT16, iT19, iT20, iT31, iT32, iT42, iT64, iT200, iT318, iT319, iT1000, iTm1, iTm2] at c_19 | skip
        refine j_iconst (v := 0) X dX11_over_26 rfl ?_
        refine j_put (ws' := [(q 0, .inr (10, mF 0 n q co cr po tx ty))]) X dX11_over_27 0 rfl 0 rfl in_X11_over_X11 tyX11 tyX11_ok nmX11 (by decide) fl_X11_over_48 rfl rfl rfl rfl (Nat.le_of_ble_eq_true rfl) rfl ?_
        refine j_aload_n X dX11_over_30 rfl 0 rfl ?_
        refine j_get (v := .int 0) X dX11_over_31 0 rfl 0 rfl in_X11_over_X11 (by decide) fl_X11_over_48 rfl ?_
        refine j_if_eq (tgt := 39) X dX11_over_34 (by decide) (fun _ => ?_) (fun c9 => absurd c9 (by decide))
        refine j_lload_n X dX11_over_39 rfl 1 rfl ?_
        refine j_lload_n X dX11_over_40 rfl 2 rfl ?_
        refine j_ldiv X dX11_over_41 (fun h => absurd (hb1.symm.trans (by rw [h])) (by decide)) ?_
        refine j_topl (fun x_1 ex_1 => ?_)
        refine j_lstore (L' := [(6, .long x_1), (0, .ref (q 0)), (1, .long a), (3, .long b), (5, .int how)]) X dX11_over_42 (by decide) rfl ?_
        refine j_lload_n X dX11_over_44 rfl 2 rfl ?_
        refine j_lload_n X dX11_over_45 rfl 3 rfl ?_
        refine j_lrem X dX11_over_46 (fun h => absurd (hb1.symm.trans (by rw [h])) (by decide)) ?_
        refine j_topl (fun x_2 ex_2 => ?_)
        refine j_lstore (L' := [(8, .long x_2), (6, .long x_1), (0, .ref (q 0)), (1, .long a), (3, .long b), (5, .int how)]) X dX11_over_47 (by decide) rfl ?_
        have hm := ov_m hb1 ex_1 ex_2
        refine j_lload X dX11_over_49 0 rfl ?_
        refine j_lconst (v := 0) X dX11_over_51 rfl ?_
        refine j_lcmp X dX11_over_52 ?_
        refine j_if_eq (tgt := 94) X dX11_over_53 (by decide) (fun c_53 => ?_) (fun c_53 => ?_)
        · skip
          first | simp only [bI_0, Decidable.not_not, sg_mul, sg_e0, sg_l0, sg_g0, sg_le0, sg_ge0, cmp_eq, cmp_lt, cmp_ge, cmp_gt, cmp_le, lT0, lT1] at c_53 | simp only [Int32.le_iff_toInt_le, Int32.lt_iff_toInt_lt, ← Int32.toInt_inj, iT0, iT1, iT2, iT3, iT4, iT5, iT6, iT7, iT8, iT9, iT10, iT11, iT12, iT13, iT14, iT15, iT16, iT19, iT20, iT31, iT32, iT42, iT64, iT200, iT318, iT319, iT1000, iTm1, iTm2] at c_53 | skip
          refine j_iload X dX11_over_94 5 rfl ?_
          refine j_iconst (v := 1) X dX11_over_96 rfl ?_
          refine j_icmp_ne (tgt := 117) X dX11_over_97 (by decide) (fun c_97 => ?_) (fun c_97 => ?_)
          · skip
            first | simp only [bI_0, Decidable.not_not, sg_mul, sg_e0, sg_l0, sg_g0, sg_le0, sg_ge0, cmp_eq, cmp_lt, cmp_ge, cmp_gt, cmp_le, lT0, lT1] at c_97 | simp only [Int32.le_iff_toInt_le, Int32.lt_iff_toInt_lt, ← Int32.toInt_inj, iT0, iT1, iT2, iT3, iT4, iT5, iT6, iT7, iT8, iT9, iT10, iT11, iT12, iT13, iT14, iT15, iT16, iT19, iT20, iT31, iT32, iT42, iT64, iT200, iT318, iT319, iT1000, iTm1, iTm2] at c_97 | skip
            refine j_iload X dX11_over_117 5 rfl ?_
            refine j_iconst (v := 2) X dX11_over_119 rfl ?_
            refine j_icmp_ne (tgt := 163) X dX11_over_120 (by decide) (fun c_120 => ?_) (fun c_120 => ?_)
            · skip
              first | simp only [bI_0, Decidable.not_not, sg_mul, sg_e0, sg_l0, sg_g0, sg_le0, sg_ge0, cmp_eq, cmp_lt, cmp_ge, cmp_gt, cmp_le, lT0, lT1] at c_120 | simp only [Int32.le_iff_toInt_le, Int32.lt_iff_toInt_lt, ← Int32.toInt_inj, iT0, iT1, iT2, iT3, iT4, iT5, iT6, iT7, iT8, iT9, iT10, iT11, iT12, iT13, iT14, iT15, iT16, iT19, iT20, iT31, iT32, iT42, iT64, iT200, iT318, iT319, iT1000, iTm1, iTm2] at c_120 | skip
              refine j_iconst (v := 0) X dX11_over_163 rfl ?_
              refine j_istore (L' := [(10, .int 0), (8, .long x_2), (6, .long x_1), (0, .ref (q 0)), (1, .long a), (3, .long b), (5, .int how)]) X dX11_over_164 (by decide) rfl ?_
              refine j_iload X dX11_over_166 0 rfl ?_
              refine j_if_eq (tgt := 178) X dX11_over_168 (by decide) (fun _ => ?_) (fun c9 => absurd c9 (by decide))
              refine j_lload X dX11_over_178 2 rfl ?_
              exact E.2.2 180 _ x_1 () dX11_over_180 (by rw [show x_1 = -a from hm.1]) hr
            · skip
              first | simp only [bI_0, Decidable.not_not, sg_mul, sg_e0, sg_l0, sg_g0, sg_le0, sg_ge0, cmp_eq, cmp_lt, cmp_ge, cmp_gt, cmp_le, lT0, lT1] at c_120 | simp only [Int32.le_iff_toInt_le, Int32.lt_iff_toInt_lt, ← Int32.toInt_inj, iT0, iT1, iT2, iT3, iT4, iT5, iT6, iT7, iT8, iT9, iT10, iT11, iT12, iT13, iT14, iT15, iT16, iT19, iT20, iT31, iT32, iT42, iT64, iT200, iT318, iT319, iT1000, iTm1, iTm2] at c_120 | skip
              refine j_lload X dX11_over_123 0 rfl ?_
              refine j_lconst (v := 0) X dX11_over_125 rfl ?_
              refine j_lcmp X dX11_over_126 ?_
              refine j_if_eq (tgt := 163) X dX11_over_127 (by decide) (fun c_127 => ?_) (fun c_127 => ?_)
              · skip
                first | simp only [bI_0, Decidable.not_not, sg_mul, sg_e0, sg_l0, sg_g0, sg_le0, sg_ge0, cmp_eq, cmp_lt, cmp_ge, cmp_gt, cmp_le, lT0, lT1] at c_127 | simp only [Int32.le_iff_toInt_le, Int32.lt_iff_toInt_lt, ← Int32.toInt_inj, iT0, iT1, iT2, iT3, iT4, iT5, iT6, iT7, iT8, iT9, iT10, iT11, iT12, iT13, iT14, iT15, iT16, iT19, iT20, iT31, iT32, iT42, iT64, iT200, iT318, iT319, iT1000, iTm1, iTm2] at c_127 | skip
                refine j_iconst (v := 0) X dX11_over_163 rfl ?_
                refine j_istore (L' := [(10, .int 0), (8, .long x_2), (6, .long x_1), (0, .ref (q 0)), (1, .long a), (3, .long b), (5, .int how)]) X dX11_over_164 (by decide) rfl ?_
                refine j_iload X dX11_over_166 0 rfl ?_
                refine j_if_eq (tgt := 178) X dX11_over_168 (by decide) (fun _ => ?_) (fun c9 => absurd c9 (by decide))
                refine j_lload X dX11_over_178 2 rfl ?_
                exact E.2.2 180 _ x_1 () dX11_over_180 (by rw [show x_1 = -a from hm.1]) hr
              · skip
                first | simp only [bI_0, Decidable.not_not, sg_mul, sg_e0, sg_l0, sg_g0, sg_le0, sg_ge0, cmp_eq, cmp_lt, cmp_ge, cmp_gt, cmp_le, lT0, lT1] at c_127 | simp only [Int32.le_iff_toInt_le, Int32.lt_iff_toInt_lt, ← Int32.toInt_inj, iT0, iT1, iT2, iT3, iT4, iT5, iT6, iT7, iT8, iT9, iT10, iT11, iT12, iT13, iT14, iT15, iT16, iT19, iT20, iT31, iT32, iT42, iT64, iT200, iT318, iT319, iT1000, iTm1, iTm2] at c_127 | skip
                exact absurd hm.2 c_127
          · skip
            first | simp only [bI_0, Decidable.not_not, sg_mul, sg_e0, sg_l0, sg_g0, sg_le0, sg_ge0, cmp_eq, cmp_lt, cmp_ge, cmp_gt, cmp_le, lT0, lT1] at c_97 | simp only [Int32.le_iff_toInt_le, Int32.lt_iff_toInt_lt, ← Int32.toInt_inj, iT0, iT1, iT2, iT3, iT4, iT5, iT6, iT7, iT8, iT9, iT10, iT11, iT12, iT13, iT14, iT15, iT16, iT19, iT20, iT31, iT32, iT42, iT64, iT200, iT318, iT319, iT1000, iTm1, iTm2] at c_97 | skip
            refine j_lload X dX11_over_100 0 rfl ?_
            refine j_lconst (v := 0) X dX11_over_102 rfl ?_
            refine j_lcmp X dX11_over_103 ?_
            refine j_if_ne (tgt := 112) X dX11_over_104 (by decide) (fun c_104 => ?_) (fun c_104 => ?_)
            · skip
              first | simp only [bI_0, Decidable.not_not, sg_mul, sg_e0, sg_l0, sg_g0, sg_le0, sg_ge0, cmp_eq, cmp_lt, cmp_ge, cmp_gt, cmp_le, lT0, lT1] at c_104 | simp only [Int32.le_iff_toInt_le, Int32.lt_iff_toInt_lt, ← Int32.toInt_inj, iT0, iT1, iT2, iT3, iT4, iT5, iT6, iT7, iT8, iT9, iT10, iT11, iT12, iT13, iT14, iT15, iT16, iT19, iT20, iT31, iT32, iT42, iT64, iT200, iT318, iT319, iT1000, iTm1, iTm2] at c_104 | skip
              exact absurd hm.2 c_104
            · skip
              first | simp only [bI_0, Decidable.not_not, sg_mul, sg_e0, sg_l0, sg_g0, sg_le0, sg_ge0, cmp_eq, cmp_lt, cmp_ge, cmp_gt, cmp_le, lT0, lT1] at c_104 | simp only [Int32.le_iff_toInt_le, Int32.lt_iff_toInt_lt, ← Int32.toInt_inj, iT0, iT1, iT2, iT3, iT4, iT5, iT6, iT7, iT8, iT9, iT10, iT11, iT12, iT13, iT14, iT15, iT16, iT19, iT20, iT31, iT32, iT42, iT64, iT200, iT318, iT319, iT1000, iTm1, iTm2] at c_104 | skip
              refine j_lload X dX11_over_107 1 rfl ?_
              refine j_goto (tgt := 116) X dX11_over_109 (by decide) ?_
              exact E.2.2 116 _ x_1 () dX11_over_116 (by rw [show x_1 = -a from hm.1]) hr
        · skip
          first | simp only [bI_0, Decidable.not_not, sg_mul, sg_e0, sg_l0, sg_g0, sg_le0, sg_ge0, cmp_eq, cmp_lt, cmp_ge, cmp_gt, cmp_le, lT0, lT1] at c_53 | simp only [Int32.le_iff_toInt_le, Int32.lt_iff_toInt_lt, ← Int32.toInt_inj, iT0, iT1, iT2, iT3, iT4, iT5, iT6, iT7, iT8, iT9, iT10, iT11, iT12, iT13, iT14, iT15, iT16, iT19, iT20, iT31, iT32, iT42, iT64, iT200, iT318, iT319, iT1000, iTm1, iTm2] at c_53 | skip
          exact absurd hm.2 c_53
      · skip
        first | simp only [bI_0, Decidable.not_not, sg_mul, sg_e0, sg_l0, sg_g0, sg_le0, sg_ge0, cmp_eq, cmp_lt, cmp_ge, cmp_gt, cmp_le, lT0, lT1] at c_19 | simp only [Int32.le_iff_toInt_le, Int32.lt_iff_toInt_lt, ← Int32.toInt_inj, iT0, iT1, iT2, iT3, iT4, iT5, iT6, iT7, iT8, iT9, iT10, iT11, iT12, iT13, iT14, iT15, iT16, iT19, iT20, iT31, iT32, iT42, iT64, iT200, iT318, iT319, iT1000, iTm1, iTm2] at c_19 | skip
        exfalso; omega
  · skip
    first | simp only [bI_0, Decidable.not_not, sg_mul, sg_e0, sg_l0, sg_g0, sg_le0, sg_ge0, cmp_eq, cmp_lt, cmp_ge, cmp_gt, cmp_le, lT0, lT1] at c_4 | simp only [Int32.le_iff_toInt_le, Int32.lt_iff_toInt_lt, ← Int32.toInt_inj, iT0, iT1, iT2, iT3, iT4, iT5, iT6, iT7, iT8, iT9, iT10, iT11, iT12, iT13, iT14, iT15, iT16, iT19, iT20, iT31, iT32, iT42, iT64, iT200, iT318, iT319, iT1000, iTm1, iTm2] at c_4 | skip
    exfalso; omega

abbrev rm_X11_corner : Room := { frames := 2, cells := 0, slots := 0, locals := 44 }
theorem in_X11_corner_X11 : ∀ w ∈ u_ws RX11 TX11 19, w ∈ wsX11_corner := by decide +kernel
theorem fl_X11_corner_48 : Cond.fieldLink RX11 48 (TX11 0).1 (TX11 0).2.1 (TX11 0).2.2.1 ∈ wsX11_corner := by decide +kernel
set_option maxHeartbeats 4000000 in
set_option maxRecDepth 100000 in
theorem c_X11_corner_no (l : Launch) (G : jG) (q : Nat → Nat) (t n co cr po : Int32) (tx ty : Int64) (x y : Int64) (hP : ¬ (inC x.toInt ∧ inC y.toInt)) : Ct l yX11_corner wsX11_corner rm_X11_corner G [.ref (q 0), .long x, .long y] [(q 0, .inr (10, mF t n q co cr po tx ty))] (S := Unit) (fun r _ => r = some (.int 0)) (fun _ => [(q 0, .inr (10, mF 1 n q co cr po tx ty))]) (fun _ => []) := by
  refine c_intro (cc := cX11_corner) (maxL := 5) (ret := (some .boolean)) (by decide) rfl (Nat.le_of_ble_eq_true rfl) (fun _ => by simp only [List.map_cons, List.map_nil]) ?_
  intro p e s m args below meth c Q A X hr hin E
  change J p l e rm_X11_corner s m args below meth c Q G A 5 0 0 0 [(0, .ref (q 0)), (1, .long x), (3, .long y)] [] [(q 0, .inr (10, mF t n q co cr po tx ty))]
  refine j_aload_n X dX11_corner_0 rfl 0 rfl ?_
  refine j_lload_n X dX11_corner_1 rfl 1 rfl ?_
  refine j_lload_n X dX11_corner_2 rfl 2 rfl ?_
  refine j_callS X dX11_corner_3 (c_X11_isPlace l G x y) gX11_corner_X11_isPlace rfl hy_X11_isPlace_S ⟨Nat.le_of_ble_eq_true rfl, Nat.le_of_ble_eq_true rfl⟩ [] rfl (by decide) rfl rfl (Nat.le_of_ble_eq_true rfl) ⟨Nat.le_of_ble_eq_true rfl, Nat.le_of_ble_eq_true rfl⟩ ?_
  rintro _ ⟨⟩ rfl
  change J p l e rm_X11_corner s m args below meth c Q G A 5 0 0 6 [(0, .ref (q 0)), (1, .long x), (3, .long y)] [.int (bI (inC x.toInt ∧ inC y.toInt)), .ref (q 0)] [(q 0, .inr (10, mF t n q co cr po tx ty))]
  refine j_if_eq (tgt := 13) X dX11_corner_6 (by decide) (fun c_6 => ?_) (fun c_6 => ?_)
  · skip
    first | simp only [bI_0, Decidable.not_not, sg_mul, sg_e0, sg_l0, sg_g0, sg_le0, sg_ge0, cmp_eq, cmp_lt, cmp_ge, cmp_gt, cmp_le, lT0, lT1] at c_6 | simp only [Int32.le_iff_toInt_le, Int32.lt_iff_toInt_lt, ← Int32.toInt_inj, iT0, iT1, iT2, iT3, iT4, iT5, iT6, iT7, iT8, iT9, iT10, iT11, iT12, iT13, iT14, iT15, iT16, iT19, iT20, iT31, iT32, iT42, iT64, iT200, iT318, iT319, iT1000, iTm1, iTm2] at c_6 | skip
    refine j_iconst (v := 1) X dX11_corner_13 rfl ?_
    refine j_put (ws' := [(q 0, .inr (10, mF 1 n q co cr po tx ty))]) X dX11_corner_14 0 rfl 0 rfl in_X11_corner_X11 tyX11 tyX11_ok nmX11 (by decide) fl_X11_corner_48 rfl rfl rfl rfl (Nat.le_of_ble_eq_true rfl) rfl ?_
    refine j_aload_n X dX11_corner_17 rfl 0 rfl ?_
    refine j_get (v := .int 1) X dX11_corner_18 0 rfl 0 rfl in_X11_corner_X11 (by decide) fl_X11_corner_48 rfl ?_
    refine j_if_ne (tgt := 34) X dX11_corner_21 (by decide) (fun _ => ?_) (fun c9 => absurd c9 (by decide))
    refine j_iconst (v := 0) X dX11_corner_34 rfl ?_
    exact E.2.1 35 _ 0 () _ dX11_corner_35 rfl hr rfl
  · skip
    first | simp only [bI_0, Decidable.not_not, sg_mul, sg_e0, sg_l0, sg_g0, sg_le0, sg_ge0, cmp_eq, cmp_lt, cmp_ge, cmp_gt, cmp_le, lT0, lT1] at c_6 | simp only [Int32.le_iff_toInt_le, Int32.lt_iff_toInt_lt, ← Int32.toInt_inj, iT0, iT1, iT2, iT3, iT4, iT5, iT6, iT7, iT8, iT9, iT10, iT11, iT12, iT13, iT14, iT15, iT16, iT19, iT20, iT31, iT32, iT42, iT64, iT200, iT318, iT319, iT1000, iTm1, iTm2] at c_6 | skip
    exfalso; omega

theorem hy_X11_corner_V : yX11_corner.cls = RX11 ∧ yX11_corner.cls ≠ "java/lang/invoke/MethodHandle" ∧ yX11_corner.cls ≠ "java/lang/invoke/VarHandle" ∧ (parseMethodDescriptor yX11_corner.desc).map (fun d => d.parameters.length) = some 2 := by decide +kernel
theorem fl_X11_corner_224 : Cond.fieldLink RX11 224 (TX11 9).1 (TX11 9).2.1 (TX11 9).2.2.1 ∈ wsX11_corner := by decide +kernel
theorem fl_X11_corner_33 : Cond.fieldLink RX11 33 (TX11 10).1 (TX11 10).2.1 (TX11 10).2.2.1 ∈ wsX11_corner := by decide +kernel
theorem fl_X11_corner_36 : Cond.fieldLink RX11 36 (TX11 11).1 (TX11 11).2.1 (TX11 11).2.2.1 ∈ wsX11_corner := by decide +kernel
set_option maxHeartbeats 4000000 in
set_option maxRecDepth 100000 in
theorem c_X11_corner_ok (l : Launch) (G : jG) (q : Nat → Nat) (t n cr po : Int32) (tx ty : Int64) (cx cy : Nat → Int64) (C : Nat) (gC : C < 200) (x y : Int64) (hP : inC x.toInt ∧ inC y.toInt) : Ct l yX11_corner wsX11_corner rm_X11_corner G [.ref (q 0), .long x, .long y] [(q 0, .inr (10, mF t n q (nI C) cr po tx ty)), (q 8, aJ G 200 cx), (q 9, aJ G 200 cy)] (S := Unit) (fun r _ => r = some (.int 1)) (fun _ => [(q 0, .inr (10, mF 0 n q (nI (C + 1)) cr po tx ty)), (q 8, aJ G 200 (vp_updL cx C x)), (q 9, aJ G 200 (vp_updL cy C y))]) (fun _ => []) := by
  refine c_intro (cc := cX11_corner) (maxL := 5) (ret := (some .boolean)) (by decide) rfl (Nat.le_of_ble_eq_true rfl) (fun _ => by simp only [List.map_cons, List.map_nil]) ?_
  intro p e s m args below meth c Q A X hr hin E
  change J p l e rm_X11_corner s m args below meth c Q G A 5 0 0 0 [(0, .ref (q 0)), (1, .long x), (3, .long y)] [] [(q 0, .inr (10, mF t n q (nI C) cr po tx ty)), (q 8, aJ G 200 cx), (q 9, aJ G 200 cy)]
  refine j_aload_n X dX11_corner_0 rfl 0 rfl ?_
  refine j_lload_n X dX11_corner_1 rfl 1 rfl ?_
  refine j_lload_n X dX11_corner_2 rfl 2 rfl ?_
  refine j_callS X dX11_corner_3 (c_X11_isPlace l G x y) gX11_corner_X11_isPlace rfl hy_X11_isPlace_S ⟨Nat.le_of_ble_eq_true rfl, Nat.le_of_ble_eq_true rfl⟩ [] rfl (by decide) rfl rfl (Nat.le_of_ble_eq_true rfl) ⟨Nat.le_of_ble_eq_true rfl, Nat.le_of_ble_eq_true rfl⟩ ?_
  rintro _ ⟨⟩ rfl
  change J p l e rm_X11_corner s m args below meth c Q G A 5 0 0 6 [(0, .ref (q 0)), (1, .long x), (3, .long y)] [.int (bI (inC x.toInt ∧ inC y.toInt)), .ref (q 0)] [(q 0, .inr (10, mF t n q (nI C) cr po tx ty)), (q 8, aJ G 200 cx), (q 9, aJ G 200 cy)]
  refine j_if_eq (tgt := 13) X dX11_corner_6 (by decide) (fun c_6 => ?_) (fun c_6 => ?_)
  · skip
    first | simp only [bI_0, Decidable.not_not, sg_mul, sg_e0, sg_l0, sg_g0, sg_le0, sg_ge0, cmp_eq, cmp_lt, cmp_ge, cmp_gt, cmp_le, lT0, lT1] at c_6 | simp only [Int32.le_iff_toInt_le, Int32.lt_iff_toInt_lt, ← Int32.toInt_inj, iT0, iT1, iT2, iT3, iT4, iT5, iT6, iT7, iT8, iT9, iT10, iT11, iT12, iT13, iT14, iT15, iT16, iT19, iT20, iT31, iT32, iT42, iT64, iT200, iT318, iT319, iT1000, iTm1, iTm2] at c_6 | skip
    exfalso; omega
  · skip
    first | simp only [bI_0, Decidable.not_not, sg_mul, sg_e0, sg_l0, sg_g0, sg_le0, sg_ge0, cmp_eq, cmp_lt, cmp_ge, cmp_gt, cmp_le, lT0, lT1] at c_6 | simp only [Int32.le_iff_toInt_le, Int32.lt_iff_toInt_lt, ← Int32.toInt_inj, iT0, iT1, iT2, iT3, iT4, iT5, iT6, iT7, iT8, iT9, iT10, iT11, iT12, iT13, iT14, iT15, iT16, iT19, iT20, iT31, iT32, iT42, iT64, iT200, iT318, iT319, iT1000, iTm1, iTm2] at c_6 | skip
    refine j_iconst (v := 0) X dX11_corner_9 rfl ?_
    refine j_goto (tgt := 14) X dX11_corner_10 (by decide) ?_
    refine j_put (ws' := [(q 0, .inr (10, mF 0 n q (nI C) cr po tx ty)), (q 8, aJ G 200 cx), (q 9, aJ G 200 cy)]) X dX11_corner_14 0 rfl 0 rfl in_X11_corner_X11 tyX11 tyX11_ok nmX11 (by decide) fl_X11_corner_48 rfl rfl rfl rfl (Nat.le_of_ble_eq_true rfl) rfl ?_
    refine j_aload_n X dX11_corner_17 rfl 0 rfl ?_
    refine j_get (v := .int 0) X dX11_corner_18 0 rfl 0 rfl in_X11_corner_X11 (by decide) fl_X11_corner_48 rfl ?_
    refine j_if_ne (tgt := 34) X dX11_corner_21 (by decide) (fun c9 => absurd c9 (by decide)) (fun _ => ?_)
    refine j_aload_n X dX11_corner_24 rfl 0 rfl ?_
    refine j_get (v := .int (nI C)) X dX11_corner_25 0 rfl 9 rfl in_X11_corner_X11 (by decide) fl_X11_corner_224 rfl ?_
    refine j_sipush (v := 200) X dX11_corner_28 (by decide) ?_
    refine j_icmp_ne (tgt := 36) X dX11_corner_31 (by decide) (fun c_31 => ?_) (fun c_31 => ?_)
    · skip
      first | simp only [bI_0, Decidable.not_not, sg_mul, sg_e0, sg_l0, sg_g0, sg_le0, sg_ge0, cmp_eq, cmp_lt, cmp_ge, cmp_gt, cmp_le, lT0, lT1] at c_31 | simp only [Int32.le_iff_toInt_le, Int32.lt_iff_toInt_lt, ← Int32.toInt_inj, iT0, iT1, iT2, iT3, iT4, iT5, iT6, iT7, iT8, iT9, iT10, iT11, iT12, iT13, iT14, iT15, iT16, iT19, iT20, iT31, iT32, iT42, iT64, iT200, iT318, iT319, iT1000, iTm1, iTm2] at c_31 | skip
      refine j_aload_n X dX11_corner_36 rfl 0 rfl ?_
      refine j_get (v := .ref (q 8)) X dX11_corner_37 0 rfl 10 rfl in_X11_corner_X11 (by decide) fl_X11_corner_33 rfl ?_
      refine j_aload_n X dX11_corner_40 rfl 0 rfl ?_
      refine j_get (v := .int (nI C)) X dX11_corner_41 0 rfl 9 rfl in_X11_corner_X11 (by decide) fl_X11_corner_224 rfl ?_
      refine j_lload_n X dX11_corner_44 rfl 1 rfl ?_
      refine j_last (ws' := [(q 0, .inr (10, mF 0 n q (nI C) cr po tx ty)), (q 8, aJ G 200 (vp_updL cx C x)), (q 9, aJ G 200 cy)]) X dX11_corner_45 1 rfl C rfl gC (by decide) rfl ?_
      refine j_aload_n X dX11_corner_46 rfl 0 rfl ?_
      refine j_get (v := .ref (q 9)) X dX11_corner_47 0 rfl 11 rfl in_X11_corner_X11 (by decide) fl_X11_corner_36 rfl ?_
      refine j_aload_n X dX11_corner_50 rfl 0 rfl ?_
      refine j_get (v := .int (nI C)) X dX11_corner_51 0 rfl 9 rfl in_X11_corner_X11 (by decide) fl_X11_corner_224 rfl ?_
      refine j_lload_n X dX11_corner_54 rfl 2 rfl ?_
      refine j_last (ws' := [(q 0, .inr (10, mF 0 n q (nI C) cr po tx ty)), (q 8, aJ G 200 (vp_updL cx C x)), (q 9, aJ G 200 (vp_updL cy C y))]) X dX11_corner_55 2 rfl C rfl gC (by decide) rfl ?_
      refine j_aload_n X dX11_corner_56 rfl 0 rfl ?_
      refine j_dup X dX11_corner_57 rfl ?_
      refine j_get (v := .int (nI C)) X dX11_corner_58 0 rfl 9 rfl in_X11_corner_X11 (by decide) fl_X11_corner_224 rfl ?_
      refine j_iconst (v := 1) X dX11_corner_61 rfl ?_
      refine j_iadd X dX11_corner_62 ?_
      refine j_topi (fun x_1 ex_1 => ?_)
      refine j_put (ws' := [(q 0, .inr (10, mF 0 n q x_1 cr po tx ty)), (q 8, aJ G 200 (vp_updL cx C x)), (q 9, aJ G 200 (vp_updL cy C y))]) X dX11_corner_63 0 rfl 9 rfl in_X11_corner_X11 tyX11 tyX11_ok nmX11 (by decide) fl_X11_corner_224 rfl rfl rfl rfl (Nat.le_of_ble_eq_true rfl) rfl ?_
      obtain rfl : x_1 = nI (C + 1) := by rw [ex_1]; exact nI_s (by omega)
      refine j_iconst (v := 1) X dX11_corner_66 rfl ?_
      exact E.2.1 67 _ 1 () _ dX11_corner_67 rfl hr rfl
    · skip
      first | simp only [bI_0, Decidable.not_not, sg_mul, sg_e0, sg_l0, sg_g0, sg_le0, sg_ge0, cmp_eq, cmp_lt, cmp_ge, cmp_gt, cmp_le, lT0, lT1] at c_31 | simp only [Int32.le_iff_toInt_le, Int32.lt_iff_toInt_lt, ← Int32.toInt_inj, iT0, iT1, iT2, iT3, iT4, iT5, iT6, iT7, iT8, iT9, iT10, iT11, iT12, iT13, iT14, iT15, iT16, iT19, iT20, iT31, iT32, iT42, iT64, iT200, iT318, iT319, iT1000, iTm1, iTm2] at c_31 | skip
      rw [nI_T (by omega)] at c_31
      exfalso; omega

abbrev rm_X11_clear : Room := { frames := 0, cells := 0, slots := 0, locals := 0 }
theorem in_X11_clear_X11 : ∀ w ∈ u_ws RX11 TX11 19, w ∈ wsX11_clear := by decide +kernel
theorem fl_X11_clear_48 : Cond.fieldLink RX11 48 (TX11 0).1 (TX11 0).2.1 (TX11 0).2.2.1 ∈ wsX11_clear := by decide +kernel
theorem fl_X11_clear_109 : Cond.fieldLink RX11 109 (TX11 1).1 (TX11 1).2.1 (TX11 1).2.2.1 ∈ wsX11_clear := by decide +kernel
theorem fl_X11_clear_224 : Cond.fieldLink RX11 224 (TX11 9).1 (TX11 9).2.1 (TX11 9).2.2.1 ∈ wsX11_clear := by decide +kernel
theorem fl_X11_clear_196 : Cond.fieldLink RX11 196 (TX11 14).1 (TX11 14).2.1 (TX11 14).2.2.1 ∈ wsX11_clear := by decide +kernel
theorem fl_X11_clear_173 : Cond.fieldLink RX11 173 (TX11 15).1 (TX11 15).2.1 (TX11 15).2.2.1 ∈ wsX11_clear := by decide +kernel
set_option maxHeartbeats 4000000 in
set_option maxRecDepth 100000 in
theorem c_X11_clear (l : Launch) (G : jG) (q : Nat → Nat) (t n co cr po : Int32) (tx ty : Int64) : Ct l yX11_clear wsX11_clear rm_X11_clear G [.ref (q 0)] [(q 0, .inr (10, mF t n q co cr po tx ty))] (S := Unit) (fun r _ => r = none) (fun _ => [(q 0, .inr (10, mF 0 0 q 0 0 0 tx ty))]) (fun _ => []) := by
  refine c_intro (cc := cX11_clear) (maxL := 1) (ret := none) (by decide) rfl (Nat.le_of_ble_eq_true rfl) (fun _ => by simp only [List.map_cons, List.map_nil]) ?_
  intro p e s m args below meth c Q A X hr hin E
  change J p l e rm_X11_clear s m args below meth c Q G A 1 0 0 0 [(0, .ref (q 0))] [] [(q 0, .inr (10, mF t n q co cr po tx ty))]
  refine j_aload_n X dX11_clear_0 rfl 0 rfl ?_
  refine j_iconst (v := 0) X dX11_clear_1 rfl ?_
  refine j_put (ws' := [(q 0, .inr (10, mF 0 n q co cr po tx ty))]) X dX11_clear_2 0 rfl 0 rfl in_X11_clear_X11 tyX11 tyX11_ok nmX11 (by decide) fl_X11_clear_48 rfl rfl rfl rfl (Nat.le_of_ble_eq_true rfl) rfl ?_
  refine j_aload_n X dX11_clear_5 rfl 0 rfl ?_
  refine j_iconst (v := 0) X dX11_clear_6 rfl ?_
  refine j_put (ws' := [(q 0, .inr (10, mF 0 0 q co cr po tx ty))]) X dX11_clear_7 0 rfl 1 rfl in_X11_clear_X11 tyX11 tyX11_ok nmX11 (by decide) fl_X11_clear_109 rfl rfl rfl rfl (Nat.le_of_ble_eq_true rfl) rfl ?_
  refine j_aload_n X dX11_clear_10 rfl 0 rfl ?_
  refine j_iconst (v := 0) X dX11_clear_11 rfl ?_
  refine j_put (ws' := [(q 0, .inr (10, mF 0 0 q 0 cr po tx ty))]) X dX11_clear_12 0 rfl 9 rfl in_X11_clear_X11 tyX11 tyX11_ok nmX11 (by decide) fl_X11_clear_224 rfl rfl rfl rfl (Nat.le_of_ble_eq_true rfl) rfl ?_
  refine j_aload_n X dX11_clear_15 rfl 0 rfl ?_
  refine j_iconst (v := 0) X dX11_clear_16 rfl ?_
  refine j_put (ws' := [(q 0, .inr (10, mF 0 0 q 0 0 po tx ty))]) X dX11_clear_17 0 rfl 14 rfl in_X11_clear_X11 tyX11 tyX11_ok nmX11 (by decide) fl_X11_clear_196 rfl rfl rfl rfl (Nat.le_of_ble_eq_true rfl) rfl ?_
  refine j_aload_n X dX11_clear_20 rfl 0 rfl ?_
  refine j_iconst (v := 0) X dX11_clear_21 rfl ?_
  refine j_put (ws' := [(q 0, .inr (10, mF 0 0 q 0 0 0 tx ty))]) X dX11_clear_22 0 rfl 15 rfl in_X11_clear_X11 tyX11 tyX11_ok nmX11 (by decide) fl_X11_clear_173 rfl rfl rfl rfl (Nat.le_of_ble_eq_true rfl) rfl ?_
  exact E.1 25 _ () dX11_clear_25 rfl hr

theorem hy_X11_clear_V : yX11_clear.cls = RX11 ∧ yX11_clear.cls ≠ "java/lang/invoke/MethodHandle" ∧ yX11_clear.cls ≠ "java/lang/invoke/VarHandle" ∧ (parseMethodDescriptor yX11_clear.desc).map (fun d => d.parameters.length) = some 0 := by decide +kernel
abbrev rm_X11_area : Room := { frames := 3, cells := 0, slots := 0, locals := 86 }
theorem in_X11_area_X11 : ∀ w ∈ u_ws RX11 TX11 19, w ∈ wsX11_area := by decide +kernel
theorem fl_X11_area_48 : Cond.fieldLink RX11 48 (TX11 0).1 (TX11 0).2.1 (TX11 0).2.2.1 ∈ wsX11_area := by decide +kernel
set_option maxHeartbeats 4000000 in
set_option maxRecDepth 100000 in
theorem c_X11_area_1 (l : Launch) (G : jG) (q : Nat → Nat) (t n co cr po : Int32) (tx ty : Int64) (li : Int32) (hP : ¬ (0 ≤ li.toInt ∧ li.toInt < 4)) : Ct l yX11_area wsX11_area rm_X11_area G [.ref (q 0), .int li] [(q 0, .inr (10, mF t n q co cr po tx ty))] (S := Unit) (fun r _ => r = some (.long 0)) (fun _ => [(q 0, .inr (10, mF 1 n q co cr po tx ty))]) (fun _ => []) := by
  refine c_intro (cc := cX11_area) (maxL := 4) (ret := (some .long)) (by decide) rfl (Nat.le_of_ble_eq_true rfl) (fun _ => by simp only [List.map_cons, List.map_nil]) ?_
  intro p e s m args below meth c Q A X hr hin E
  change J p l e rm_X11_area s m args below meth c Q G A 4 0 0 0 [(0, .ref (q 0)), (1, .int li)] [] [(q 0, .inr (10, mF t n q co cr po tx ty))]
  refine j_aload_n X dX11_area_0 rfl 0 rfl ?_
  refine j_iload_n X dX11_area_1 rfl 1 rfl ?_
  refine j_if_lt (tgt := 10) X dX11_area_2 (by decide) (fun c_2 => ?_) (fun c_2 => ?_)
  · skip
    first | simp only [bI_0, Decidable.not_not, sg_mul, sg_e0, sg_l0, sg_g0, sg_le0, sg_ge0, cmp_eq, cmp_lt, cmp_ge, cmp_gt, cmp_le, lT0, lT1] at c_2 | simp only [Int32.le_iff_toInt_le, Int32.lt_iff_toInt_lt, ← Int32.toInt_inj, iT0, iT1, iT2, iT3, iT4, iT5, iT6, iT7, iT8, iT9, iT10, iT11, iT12, iT13, iT14, iT15, iT16, iT19, iT20, iT31, iT32, iT42, iT64, iT200, iT318, iT319, iT1000, iTm1, iTm2] at c_2 | skip
    refine j_iconst (v := 1) X dX11_area_10 rfl ?_
    refine j_goto (tgt := 15) X dX11_area_11 (by decide) ?_
    refine j_put (ws' := [(q 0, .inr (10, mF 1 n q co cr po tx ty))]) X dX11_area_15 0 rfl 0 rfl in_X11_area_X11 tyX11 tyX11_ok nmX11 (by decide) fl_X11_area_48 rfl rfl rfl rfl (Nat.le_of_ble_eq_true rfl) rfl ?_
    refine j_aload_n X dX11_area_18 rfl 0 rfl ?_
    refine j_get (v := .int 1) X dX11_area_19 0 rfl 0 rfl in_X11_area_X11 (by decide) fl_X11_area_48 rfl ?_
    refine j_if_ne (tgt := 33) X dX11_area_22 (by decide) (fun _ => ?_) (fun c9 => absurd c9 (by decide))
    refine j_lconst (v := 0) X dX11_area_33 rfl ?_
    exact E.2.2 34 _ 0 () dX11_area_34 rfl hr
  · skip
    first | simp only [bI_0, Decidable.not_not, sg_mul, sg_e0, sg_l0, sg_g0, sg_le0, sg_ge0, cmp_eq, cmp_lt, cmp_ge, cmp_gt, cmp_le, lT0, lT1] at c_2 | simp only [Int32.le_iff_toInt_le, Int32.lt_iff_toInt_lt, ← Int32.toInt_inj, iT0, iT1, iT2, iT3, iT4, iT5, iT6, iT7, iT8, iT9, iT10, iT11, iT12, iT13, iT14, iT15, iT16, iT19, iT20, iT31, iT32, iT42, iT64, iT200, iT318, iT319, iT1000, iTm1, iTm2] at c_2 | skip
    refine j_iload_n X dX11_area_5 rfl 1 rfl ?_
    refine j_iconst (v := 3) X dX11_area_6 rfl ?_
    refine j_icmp_le (tgt := 14) X dX11_area_7 (by decide) (fun c_7 => ?_) (fun c_7 => ?_)
    · skip
      first | simp only [bI_0, Decidable.not_not, sg_mul, sg_e0, sg_l0, sg_g0, sg_le0, sg_ge0, cmp_eq, cmp_lt, cmp_ge, cmp_gt, cmp_le, lT0, lT1] at c_7 | simp only [Int32.le_iff_toInt_le, Int32.lt_iff_toInt_lt, ← Int32.toInt_inj, iT0, iT1, iT2, iT3, iT4, iT5, iT6, iT7, iT8, iT9, iT10, iT11, iT12, iT13, iT14, iT15, iT16, iT19, iT20, iT31, iT32, iT42, iT64, iT200, iT318, iT319, iT1000, iTm1, iTm2] at c_7 | skip
      exfalso; omega
    · skip
      first | simp only [bI_0, Decidable.not_not, sg_mul, sg_e0, sg_l0, sg_g0, sg_le0, sg_ge0, cmp_eq, cmp_lt, cmp_ge, cmp_gt, cmp_le, lT0, lT1] at c_7 | simp only [Int32.le_iff_toInt_le, Int32.lt_iff_toInt_lt, ← Int32.toInt_inj, iT0, iT1, iT2, iT3, iT4, iT5, iT6, iT7, iT8, iT9, iT10, iT11, iT12, iT13, iT14, iT15, iT16, iT19, iT20, iT31, iT32, iT42, iT64, iT200, iT318, iT319, iT1000, iTm1, iTm2] at c_7 | skip
      refine j_iconst (v := 1) X dX11_area_10 rfl ?_
      refine j_goto (tgt := 15) X dX11_area_11 (by decide) ?_
      refine j_put (ws' := [(q 0, .inr (10, mF 1 n q co cr po tx ty))]) X dX11_area_15 0 rfl 0 rfl in_X11_area_X11 tyX11 tyX11_ok nmX11 (by decide) fl_X11_area_48 rfl rfl rfl rfl (Nat.le_of_ble_eq_true rfl) rfl ?_
      refine j_aload_n X dX11_area_18 rfl 0 rfl ?_
      refine j_get (v := .int 1) X dX11_area_19 0 rfl 0 rfl in_X11_area_X11 (by decide) fl_X11_area_48 rfl ?_
      refine j_if_ne (tgt := 33) X dX11_area_22 (by decide) (fun _ => ?_) (fun c9 => absurd c9 (by decide))
      refine j_lconst (v := 0) X dX11_area_33 rfl ?_
      exact E.2.2 34 _ 0 () dX11_area_34 rfl hr

theorem hy_X11_area_V : yX11_area.cls = RX11 ∧ yX11_area.cls ≠ "java/lang/invoke/MethodHandle" ∧ yX11_area.cls ≠ "java/lang/invoke/VarHandle" ∧ (parseMethodDescriptor yX11_area.desc).map (fun d => d.parameters.length) = some 1 := by decide +kernel
theorem fl_X11_area_224 : Cond.fieldLink RX11 224 (TX11 9).1 (TX11 9).2.1 (TX11 9).2.2.1 ∈ wsX11_area := by decide +kernel
theorem fl_X11_area_42 : Cond.fieldLink RX11 42 (TX11 13).1 (TX11 13).2.1 (TX11 13).2.2.1 ∈ wsX11_area := by decide +kernel
theorem k_X11_area_227 : Cond.constantLong RX11 227 (4294967296) ∈ wsX11_area := by decide +kernel
theorem fl_X11_area_33 : Cond.fieldLink RX11 33 (TX11 10).1 (TX11 10).2.1 (TX11 10).2.2.1 ∈ wsX11_area := by decide +kernel
theorem fl_X11_area_36 : Cond.fieldLink RX11 36 (TX11 11).1 (TX11 11).2.1 (TX11 11).2.2.1 ∈ wsX11_area := by decide +kernel
set_option maxHeartbeats 4000000 in
set_option maxRecDepth 100000 in
theorem c_X11_area_0 (l : Launch) (G : jG) (q : Nat → Nat) (t n cr po : Int32) (tx ty : Int64) (zs : List Int) (hl : zs.length = 16) (sf : Nat → Int32) (hS : okS zs sf) (cx cy : Nat → Int64) (C : Nat) (hC : coI C cx cy) (li : Int32) (hP : 0 ≤ li.toInt ∧ li.toInt < 4) : Ct l yX11_area wsX11_area rm_X11_area G [.ref (q 0), .int li] [(q 0, .inr (10, mF t n q (nI C) cr po tx ty)), (q 8, aJ G 200 cx), (q 9, aJ G 200 cy), (q 10, aI G 320 (rg zs)), (q 11, aZ G 16 sf)] (S := Int64 × List Int × (Nat → Int32)) (fun r u => r = some (.long u.1) ∧ u.1.toInt = ar2 cx cy C / dP li.toInt.toNat % 4294967296 ∧ kp zs u.2.1 ∧ okS u.2.1 u.2.2) (fun u => [(q 0, .inr (10, mF 0 n q (nI C) cr po tx ty)), (q 8, aJ G 200 cx), (q 9, aJ G 200 cy), (q 10, aI G 320 (rg u.2.1)), (q 11, aZ G 16 u.2.2)]) (fun _ => []) := by
  refine c_intro (cc := cX11_area) (maxL := 4) (ret := (some .long)) (by decide) rfl (Nat.le_of_ble_eq_true rfl) (fun _ => by simp only [List.map_cons, List.map_nil]) ?_
  intro p e s m args below meth c Q A X hr hin E
  change J p l e rm_X11_area s m args below meth c Q G A 4 0 0 0 [(0, .ref (q 0)), (1, .int li)] [] [(q 0, .inr (10, mF t n q (nI C) cr po tx ty)), (q 8, aJ G 200 cx), (q 9, aJ G 200 cy), (q 10, aI G 320 (rg zs)), (q 11, aZ G 16 sf)]
  obtain ⟨z0, z1, z2, z3, z4, z5, z6, z7, z8, z9, z10, z11, z12, z13, z14, z15, rfl⟩ := l16 hl
  refine j_aload_n X dX11_area_0 rfl 0 rfl ?_
  refine j_iload_n X dX11_area_1 rfl 1 rfl ?_
  refine j_if_lt (tgt := 10) X dX11_area_2 (by decide) (fun c_2 => ?_) (fun c_2 => ?_)
  · skip
    first | simp only [bI_0, Decidable.not_not, sg_mul, sg_e0, sg_l0, sg_g0, sg_le0, sg_ge0, cmp_eq, cmp_lt, cmp_ge, cmp_gt, cmp_le, lT0, lT1] at c_2 | simp only [Int32.le_iff_toInt_le, Int32.lt_iff_toInt_lt, ← Int32.toInt_inj, iT0, iT1, iT2, iT3, iT4, iT5, iT6, iT7, iT8, iT9, iT10, iT11, iT12, iT13, iT14, iT15, iT16, iT19, iT20, iT31, iT32, iT42, iT64, iT200, iT318, iT319, iT1000, iTm1, iTm2] at c_2 | skip
    exfalso; omega
  · skip
    first | simp only [bI_0, Decidable.not_not, sg_mul, sg_e0, sg_l0, sg_g0, sg_le0, sg_ge0, cmp_eq, cmp_lt, cmp_ge, cmp_gt, cmp_le, lT0, lT1] at c_2 | simp only [Int32.le_iff_toInt_le, Int32.lt_iff_toInt_lt, ← Int32.toInt_inj, iT0, iT1, iT2, iT3, iT4, iT5, iT6, iT7, iT8, iT9, iT10, iT11, iT12, iT13, iT14, iT15, iT16, iT19, iT20, iT31, iT32, iT42, iT64, iT200, iT318, iT319, iT1000, iTm1, iTm2] at c_2 | skip
    refine j_iload_n X dX11_area_5 rfl 1 rfl ?_
    refine j_iconst (v := 3) X dX11_area_6 rfl ?_
    refine j_icmp_le (tgt := 14) X dX11_area_7 (by decide) (fun c_7 => ?_) (fun c_7 => ?_)
    · skip
      first | simp only [bI_0, Decidable.not_not, sg_mul, sg_e0, sg_l0, sg_g0, sg_le0, sg_ge0, cmp_eq, cmp_lt, cmp_ge, cmp_gt, cmp_le, lT0, lT1] at c_7 | simp only [Int32.le_iff_toInt_le, Int32.lt_iff_toInt_lt, ← Int32.toInt_inj, iT0, iT1, iT2, iT3, iT4, iT5, iT6, iT7, iT8, iT9, iT10, iT11, iT12, iT13, iT14, iT15, iT16, iT19, iT20, iT31, iT32, iT42, iT64, iT200, iT318, iT319, iT1000, iTm1, iTm2] at c_7 | skip
      refine j_iconst (v := 0) X dX11_area_14 rfl ?_
      refine j_put (ws' := [(q 0, .inr (10, mF 0 n q (nI C) cr po tx ty)), (q 8, aJ G 200 cx), (q 9, aJ G 200 cy), (q 10, aI G 320 (rg [z0, z1, z2, z3, z4, z5, z6, z7, z8, z9, z10, z11, z12, z13, z14, z15])), (q 11, aZ G 16 sf)]) X dX11_area_15 0 rfl 0 rfl in_X11_area_X11 tyX11 tyX11_ok nmX11 (by decide) fl_X11_area_48 rfl rfl rfl rfl (Nat.le_of_ble_eq_true rfl) rfl ?_
      refine j_aload_n X dX11_area_18 rfl 0 rfl ?_
      refine j_get (v := .int 0) X dX11_area_19 0 rfl 0 rfl in_X11_area_X11 (by decide) fl_X11_area_48 rfl ?_
      refine j_if_ne (tgt := 33) X dX11_area_22 (by decide) (fun c9 => absurd c9 (by decide)) (fun _ => ?_)
      refine j_aload_n X dX11_area_25 rfl 0 rfl ?_
      refine j_get (v := .int (nI C)) X dX11_area_26 0 rfl 9 rfl in_X11_area_X11 (by decide) fl_X11_area_224 rfl ?_
      refine j_iconst (v := 3) X dX11_area_29 rfl ?_
      refine j_icmp_ge (tgt := 35) X dX11_area_30 (by decide) (fun c_30 => ?_) (fun c_30 => ?_)
      · skip
        first | simp only [bI_0, Decidable.not_not, sg_mul, sg_e0, sg_l0, sg_g0, sg_le0, sg_ge0, cmp_eq, cmp_lt, cmp_ge, cmp_gt, cmp_le, lT0, lT1] at c_30 | simp only [Int32.le_iff_toInt_le, Int32.lt_iff_toInt_lt, ← Int32.toInt_inj, iT0, iT1, iT2, iT3, iT4, iT5, iT6, iT7, iT8, iT9, iT10, iT11, iT12, iT13, iT14, iT15, iT16, iT19, iT20, iT31, iT32, iT42, iT64, iT200, iT318, iT319, iT1000, iTm1, iTm2] at c_30 | skip
        rw [nI_T (by have := hC.1; omega)] at c_30
        refine j_aload_n X dX11_area_35 rfl 0 rfl ?_
        refine j_iconst (v := 4) X dX11_area_36 rfl ?_
        refine j_lconst (v := 0) X dX11_area_37 rfl ?_
        obtain ⟨y_1, ey_1⟩ : ∃ zz9 : Int, zz9 = 0 := ⟨_, rfl⟩
        have by_1 : bd 1 y_1 := by rw [ey_1]; exact (by decide : Int.natAbs 0 ≤ 2 ^ 1)
        refine j_callV X dX11_area_38 (n_load l G q 0 n (nI C) cr po tx ty [z0, z1, z2, z3, z4, z5, z6, z7, z8, z9, z10, z11, z12, z13, z14, z15] sf rfl hS 4 4 rfl (by decide) 0 y_1 (by rw [ey_1]; rfl)) gX11_area_X11_load rfl hy_X11_load_V ⟨Nat.le_of_ble_eq_true rfl, Nat.le_of_ble_eq_true rfl⟩ 0 rfl rfl [0, 3, 4] rfl (by decide) rfl rfl (Nat.le_of_ble_eq_true rfl) ⟨Nat.le_of_ble_eq_true rfl, Nat.le_of_ble_eq_true rfl⟩ ?_
        rintro _ sf_2 ⟨rfl, hS_sf_2⟩
        change J p l e rm_X11_area s m args below meth c Q G A 4 0 0 41 [(0, .ref (q 0)), (1, .int li)] [] [(q 0, .inr (10, mF 0 n q (nI C) cr po tx ty)), (q 8, aJ G 200 cx), (q 9, aJ G 200 cy), (q 10, aI G 320 (rg [z0, z1, z2, z3, y_1, z5, z6, z7, z8, z9, z10, z11, z12, z13, z14, z15])), (q 11, aZ G 16 sf_2)]
        refine j_iconst (v := 0) X dX11_area_41 rfl ?_
        refine j_istore_n (L' := [(2, .int 0), (0, .ref (q 0)), (1, .int li)]) X dX11_area_42 rfl (by decide) rfl ?_
        have loop : ∀ (d : Nat) (k : Nat) (x : Int32) (a4 a5 a6 a12 a13 a14 a15 : Int) (s2 : Nat → Int32) (hx : x = nI k) (hk : k ≤ C) (hI : (k < C ∧ a4 = aro cx cy k) ∨ (k = C ∧ a4 = aro cx cy (C - 1) + acr cx cy (C - 1) 0)) (hb4 : a4.natAbs ≤ k * 2417851639229258349412352) (hS2 : okS [z0, z1, z2, z3, a4, a5, a6, z7, z8, z9, z10, z11, a12, a13, a14, a15] s2), C - k < d → J p l e rm_X11_area s m args below meth c Q G A 4 0 0 43 [(0, .ref (q 0)), (1, .int li), (2, .int x)] [] [(q 0, .inr (10, mF 0 n q (nI C) cr po tx ty)), (q 8, aJ G 200 cx), (q 9, aJ G 200 cy), (q 10, aI G 320 (rg [z0, z1, z2, z3, a4, a5, a6, z7, z8, z9, z10, z11, a12, a13, a14, a15])), (q 11, aZ G 16 s2)] := by
          intro d
          induction d with
          | zero => intro k x a4 a5 a6 a12 a13 a14 a15 s2 hx hk hI hb4 hS2 hd0; exact absurd hd0 (Nat.not_lt_zero _)
          | succ d ih =>
            intro k x a4 a5 a6 a12 a13 a14 a15 s2 hx hk hI hb4 hS2 hd0
            refine j_iload_n X dX11_area_43 rfl 2 rfl ?_
            refine j_aload_n X dX11_area_44 rfl 0 rfl ?_
            refine j_get (v := .int (nI C)) X dX11_area_45 0 rfl 9 rfl in_X11_area_X11 (by decide) fl_X11_area_224 rfl ?_
            refine j_icmp_ge (tgt := 121) X dX11_area_48 (by decide) (fun c_48 => ?_) (fun c_48 => ?_)
            · skip
              first | simp only [bI_0, Decidable.not_not, sg_mul, sg_e0, sg_l0, sg_g0, sg_le0, sg_ge0, cmp_eq, cmp_lt, cmp_ge, cmp_gt, cmp_le, lT0, lT1] at c_48 | simp only [Int32.le_iff_toInt_le, Int32.lt_iff_toInt_lt, ← Int32.toInt_inj, iT0, iT1, iT2, iT3, iT4, iT5, iT6, iT7, iT8, iT9, iT10, iT11, iT12, iT13, iT14, iT15, iT16, iT19, iT20, iT31, iT32, iT42, iT64, iT200, iT318, iT319, iT1000, iTm1, iTm2] at c_48 | skip
              subst hx
              rw [nI_T (by have := hC.1; omega), nI_T (by have := hC.1; omega)] at c_48
              have har : a4 = aro cx cy (C - 1) + acr cx cy (C - 1) 0 := by rcases hI with h | h; exact absurd h.1 (by omega); exact h.2
              have ba4 : bd 92 a4 := by show a4.natAbs ≤ 2 ^ 92; have h2 : (2 : Nat) ^ 92 = 4951760157141521099596496896 := (by decide); have := hC.1; omega
              have hb92 := bd_to ba4 (B := 4951760157141521099596496896) (by decide)
              have hA2 : ar2 cx cy C = a4 := by unfold ar2; rw [if_neg (by omega)]; exact har.symm
              refine j_aload_n X dX11_area_121 rfl 0 rfl ?_
              refine j_get (v := .ref (q 11)) X dX11_area_122 0 rfl 13 rfl in_X11_area_X11 (by decide) fl_X11_area_42 rfl ?_
              refine j_iconst (v := 4) X dX11_area_125 rfl ?_
              refine j_zald X dX11_area_126 4 rfl 4 rfl (by decide) (by decide) ?_
              refine j_if_eq (tgt := 138) X dX11_area_127 (by decide) (fun c_127 => ?_) (fun c_127 => ?_)
              · skip
                have ha0 : 0 ≤ a4 := by rcases hS2 4 (by decide) with h | h; exact h.2; exact absurd (c_127.symm.trans h.1) (by decide)
                refine j_aload_n X dX11_area_138 rfl 0 rfl ?_
                refine j_iconst (v := 4) X dX11_area_139 rfl ?_
                refine j_iload_n X dX11_area_140 rfl 1 rfl ?_
                refine j_callV X dX11_area_141 (c_X11_limbOf l G q 0 n (nI C) cr po tx ty ([z0, z1, z2, z3, a4, a5, a6, z7, z8, z9, z10, z11, a12, a13, a14, a15]) rfl s2 4 4 rfl (by decide) li li.toInt.toNat (by omega) (by omega)) gX11_area_X11_limbOf rfl hy_X11_limbOf_V ⟨Nat.le_of_ble_eq_true rfl, Nat.le_of_ble_eq_true rfl⟩ 0 rfl rfl [0, 3, 4] rfl (by decide) rfl rfl (Nat.le_of_ble_eq_true rfl) ⟨Nat.le_of_ble_eq_true rfl, Nat.le_of_ble_eq_true rfl⟩ ?_
                rintro _ w_3 ⟨rfl, hw_3⟩
                change J p l e rm_X11_area s m args below meth c Q G A 4 0 0 144 [(0, .ref (q 0)), (1, .int li), (2, .int (nI k))] [.long w_3] [(q 0, .inr (10, mF 0 n q (nI C) cr po tx ty)), (q 8, aJ G 200 cx), (q 9, aJ G 200 cy), (q 10, aI G 320 (rg [z0, z1, z2, z3, a4, a5, a6, z7, z8, z9, z10, z11, a12, a13, a14, a15])), (q 11, aZ G 16 s2)]
                exact E.2.2 144 _ w_3 (w_3, [z0, z1, z2, z3, a4, a5, a6, z7, z8, z9, z10, z11, a12, a13, a14, a15], s2) dX11_area_144 (⟨rfl, (by rw [hA2, hw_3]; show (((a4 : Int).natAbs : Nat) : Int) / _ % _ = _; rw [Int.natAbs_of_nonneg ha0]), kp_i, hS2⟩) hr
              · skip
                have ha1 : a4 ≤ 0 := by rcases hS2 4 (by decide) with h | h; exact absurd h.1 c_127; exact h.2
                refine j_aload_n X dX11_area_130 rfl 0 rfl ?_
                refine j_iconst (v := 4) X dX11_area_131 rfl ?_
                refine j_callV X dX11_area_132 (c_X11_sign l G q 0 n (nI C) cr po tx ty [z0, z1, z2, z3, a4, a5, a6, z7, z8, z9, z10, z11, a12, a13, a14, a15] rfl s2 4 4 rfl (by decide) (hS2 4 (by decide)) (bd_lt ba4 (by decide))) gX11_area_X11_sign rfl hy_X11_sign_V ⟨Nat.le_of_ble_eq_true rfl, Nat.le_of_ble_eq_true rfl⟩ 0 rfl rfl [0, 3, 4] rfl (by decide) rfl rfl (Nat.le_of_ble_eq_true rfl) ⟨Nat.le_of_ble_eq_true rfl, Nat.le_of_ble_eq_true rfl⟩ ?_
                rintro _ ⟨⟩ rfl
                change J p l e rm_X11_area s m args below meth c Q G A 4 0 0 135 [(0, .ref (q 0)), (1, .int li), (2, .int (nI k))] [.int (sg a4)] [(q 0, .inr (10, mF 0 n q (nI C) cr po tx ty)), (q 8, aJ G 200 cx), (q 9, aJ G 200 cy), (q 10, aI G 320 (rg [z0, z1, z2, z3, a4, a5, a6, z7, z8, z9, z10, z11, a12, a13, a14, a15])), (q 11, aZ G 16 s2)]
                refine j_if_ne (tgt := 145) X dX11_area_135 (by decide) (fun c_135 => ?_) (fun c_135 => ?_)
                · skip
                  first | simp only [bI_0, Decidable.not_not, sg_mul, sg_e0, sg_l0, sg_g0, sg_le0, sg_ge0, cmp_eq, cmp_lt, cmp_ge, cmp_gt, cmp_le, lT0, lT1] at c_135 | simp only [Int32.le_iff_toInt_le, Int32.lt_iff_toInt_lt, ← Int32.toInt_inj, iT0, iT1, iT2, iT3, iT4, iT5, iT6, iT7, iT8, iT9, iT10, iT11, iT12, iT13, iT14, iT15, iT16, iT19, iT20, iT31, iT32, iT42, iT64, iT200, iT318, iT319, iT1000, iTm1, iTm2] at c_135 | skip
                  refine j_aload_n X dX11_area_145 rfl 0 rfl ?_
                  refine j_iconst (v := 5) X dX11_area_146 rfl ?_
                  refine j_ldc2 (v := 4294967296) X dX11_area_147 k_X11_area_227 ?_
                  obtain ⟨y_4, ey_4⟩ : ∃ zz9 : Int, zz9 = 4294967296 := ⟨_, rfl⟩
                  have by_4 : bd 33 y_4 := by rw [ey_4]; exact (by decide : Int.natAbs 4294967296 ≤ 2 ^ 33)
                  refine j_callV X dX11_area_150 (n_load l G q 0 n (nI C) cr po tx ty [z0, z1, z2, z3, a4, a5, a6, z7, z8, z9, z10, z11, a12, a13, a14, a15] s2 rfl hS2 5 5 rfl (by decide) 4294967296 y_4 (by rw [ey_4]; rfl)) gX11_area_X11_load rfl hy_X11_load_V ⟨Nat.le_of_ble_eq_true rfl, Nat.le_of_ble_eq_true rfl⟩ 0 rfl rfl [0, 3, 4] rfl (by decide) rfl rfl (Nat.le_of_ble_eq_true rfl) ⟨Nat.le_of_ble_eq_true rfl, Nat.le_of_ble_eq_true rfl⟩ ?_
                  rintro _ sf_5 ⟨rfl, hS_sf_5⟩
                  change J p l e rm_X11_area s m args below meth c Q G A 4 0 0 153 [(0, .ref (q 0)), (1, .int li), (2, .int (nI k))] [] [(q 0, .inr (10, mF 0 n q (nI C) cr po tx ty)), (q 8, aJ G 200 cx), (q 9, aJ G 200 cy), (q 10, aI G 320 (rg [z0, z1, z2, z3, a4, y_4, a6, z7, z8, z9, z10, z11, a12, a13, a14, a15])), (q 11, aZ G 16 sf_5)]
                  refine j_aload_n X dX11_area_153 rfl 0 rfl ?_
                  refine j_bipush (v := 6) X dX11_area_154 (by decide) ?_
                  refine j_iconst (v := 5) X dX11_area_156 rfl ?_
                  refine j_iconst (v := 5) X dX11_area_157 rfl ?_
                  obtain ⟨y_6, ey_6⟩ : ∃ zz9 : Int, zz9 = y_4 * y_4 := ⟨_, rfl⟩
                  have by_6 : bd 66 y_6 := by rw [ey_6]; exact bd_mul by_4 by_4
                  refine j_callV X dX11_area_158 (n_mul l G q 0 n (nI C) cr po tx ty [z0, z1, z2, z3, a4, y_4, a6, z7, z8, z9, z10, z11, a12, a13, a14, a15] sf_5 rfl hS_sf_5 6 6 rfl (by decide) 5 5 rfl (by decide) 5 5 rfl (by decide) (by decide) (by decide) y_6 ey_6) gX11_area_X11_multiply rfl hy_X11_multiply_V ⟨Nat.le_of_ble_eq_true rfl, Nat.le_of_ble_eq_true rfl⟩ 0 rfl rfl [0, 3, 4] rfl (by decide) rfl rfl (Nat.le_of_ble_eq_true rfl) ⟨Nat.le_of_ble_eq_true rfl, Nat.le_of_ble_eq_true rfl⟩ ?_
                  rintro _ sf_7 ⟨rfl, hS_sf_7⟩
                  change J p l e rm_X11_area s m args below meth c Q G A 4 0 0 161 [(0, .ref (q 0)), (1, .int li), (2, .int (nI k))] [] [(q 0, .inr (10, mF 0 n q (nI C) cr po tx ty)), (q 8, aJ G 200 cx), (q 9, aJ G 200 cy), (q 10, aI G 320 (rg [z0, z1, z2, z3, a4, y_4, y_6, z7, z8, z9, z10, z11, a12, a13, a14, a15])), (q 11, aZ G 16 sf_7)]
                  refine j_aload_n X dX11_area_161 rfl 0 rfl ?_
                  refine j_bipush (v := 7) X dX11_area_162 (by decide) ?_
                  refine j_bipush (v := 6) X dX11_area_164 (by decide) ?_
                  refine j_iconst (v := 5) X dX11_area_166 rfl ?_
                  obtain ⟨y_8, ey_8⟩ : ∃ zz9 : Int, zz9 = y_6 * y_4 := ⟨_, rfl⟩
                  have by_8 : bd 99 y_8 := by rw [ey_8]; exact bd_mul by_6 by_4
                  refine j_callV X dX11_area_167 (n_mul l G q 0 n (nI C) cr po tx ty [z0, z1, z2, z3, a4, y_4, y_6, z7, z8, z9, z10, z11, a12, a13, a14, a15] sf_7 rfl hS_sf_7 7 7 rfl (by decide) 6 6 rfl (by decide) 5 5 rfl (by decide) (by decide) (by decide) y_8 ey_8) gX11_area_X11_multiply rfl hy_X11_multiply_V ⟨Nat.le_of_ble_eq_true rfl, Nat.le_of_ble_eq_true rfl⟩ 0 rfl rfl [0, 3, 4] rfl (by decide) rfl rfl (Nat.le_of_ble_eq_true rfl) ⟨Nat.le_of_ble_eq_true rfl, Nat.le_of_ble_eq_true rfl⟩ ?_
                  rintro _ sf_9 ⟨rfl, hS_sf_9⟩
                  change J p l e rm_X11_area s m args below meth c Q G A 4 0 0 170 [(0, .ref (q 0)), (1, .int li), (2, .int (nI k))] [] [(q 0, .inr (10, mF 0 n q (nI C) cr po tx ty)), (q 8, aJ G 200 cx), (q 9, aJ G 200 cy), (q 10, aI G 320 (rg [z0, z1, z2, z3, a4, y_4, y_6, y_8, z8, z9, z10, z11, a12, a13, a14, a15])), (q 11, aZ G 16 sf_9)]
                  refine j_aload_n X dX11_area_170 rfl 0 rfl ?_
                  refine j_bipush (v := 6) X dX11_area_171 (by decide) ?_
                  refine j_bipush (v := 7) X dX11_area_173 (by decide) ?_
                  refine j_iconst (v := 5) X dX11_area_175 rfl ?_
                  obtain ⟨y_10, ey_10⟩ : ∃ zz9 : Int, zz9 = y_8 * y_4 := ⟨_, rfl⟩
                  have by_10 : bd 132 y_10 := by rw [ey_10]; exact bd_mul by_8 by_4
                  refine j_callV X dX11_area_176 (n_mul l G q 0 n (nI C) cr po tx ty [z0, z1, z2, z3, a4, y_4, y_6, y_8, z8, z9, z10, z11, a12, a13, a14, a15] sf_9 rfl hS_sf_9 6 6 rfl (by decide) 7 7 rfl (by decide) 5 5 rfl (by decide) (by decide) (by decide) y_10 ey_10) gX11_area_X11_multiply rfl hy_X11_multiply_V ⟨Nat.le_of_ble_eq_true rfl, Nat.le_of_ble_eq_true rfl⟩ 0 rfl rfl [0, 3, 4] rfl (by decide) rfl rfl (Nat.le_of_ble_eq_true rfl) ⟨Nat.le_of_ble_eq_true rfl, Nat.le_of_ble_eq_true rfl⟩ ?_
                  rintro _ sf_11 ⟨rfl, hS_sf_11⟩
                  change J p l e rm_X11_area s m args below meth c Q G A 4 0 0 179 [(0, .ref (q 0)), (1, .int li), (2, .int (nI k))] [] [(q 0, .inr (10, mF 0 n q (nI C) cr po tx ty)), (q 8, aJ G 200 cx), (q 9, aJ G 200 cy), (q 10, aI G 320 (rg [z0, z1, z2, z3, a4, y_4, y_10, y_8, z8, z9, z10, z11, a12, a13, a14, a15])), (q 11, aZ G 16 sf_11)]
                  refine j_aload_n X dX11_area_179 rfl 0 rfl ?_
                  refine j_bipush (v := 7) X dX11_area_180 (by decide) ?_
                  refine j_bipush (v := 6) X dX11_area_182 (by decide) ?_
                  refine j_iconst (v := 4) X dX11_area_184 rfl ?_
                  refine j_iconst (v := 0) X dX11_area_185 rfl ?_
                  obtain ⟨y_12, ey_12⟩ : ∃ zz9 : Int, zz9 = y_10 + a4 := ⟨_, rfl⟩
                  have by_12 : bd 133 y_12 := by rw [ey_12]; exact bd_add (bd_mono by_10 (by decide)) (bd_mono ba4 (by decide))
                  refine j_callV X dX11_area_186 (n_join l G q 0 n (nI C) cr po tx ty [z0, z1, z2, z3, a4, y_4, y_10, y_8, z8, z9, z10, z11, a12, a13, a14, a15] sf_11 rfl hS_sf_11 7 7 rfl (by decide) 6 6 rfl (by decide) 4 4 rfl (by decide) 0 (Or.inl rfl) (by decide) (by decide) y_12 ey_12 by_10 ba4 (by decide) (by decide)) gX11_area_X11_join rfl hy_X11_join_V ⟨Nat.le_of_ble_eq_true rfl, Nat.le_of_ble_eq_true rfl⟩ 0 rfl rfl [0, 3, 4] rfl (by decide) rfl rfl (Nat.le_of_ble_eq_true rfl) ⟨Nat.le_of_ble_eq_true rfl, Nat.le_of_ble_eq_true rfl⟩ ?_
                  rintro _ sf_13 ⟨rfl, hS_sf_13⟩
                  change J p l e rm_X11_area s m args below meth c Q G A 4 0 0 189 [(0, .ref (q 0)), (1, .int li), (2, .int (nI k))] [] [(q 0, .inr (10, mF 0 n q (nI C) cr po tx ty)), (q 8, aJ G 200 cx), (q 9, aJ G 200 cy), (q 10, aI G 320 (rg [z0, z1, z2, z3, a4, y_4, y_10, y_12, z8, z9, z10, z11, a12, a13, a14, a15])), (q 11, aZ G 16 sf_13)]
                  refine j_aload_n X dX11_area_189 rfl 0 rfl ?_
                  refine j_bipush (v := 7) X dX11_area_190 (by decide) ?_
                  refine j_iload_n X dX11_area_192 rfl 1 rfl ?_
                  refine j_callV X dX11_area_193 (c_X11_limbOf l G q 0 n (nI C) cr po tx ty ([z0, z1, z2, z3, a4, y_4, y_10, y_12, z8, z9, z10, z11, a12, a13, a14, a15]) rfl sf_13 7 7 rfl (by decide) li li.toInt.toNat (by omega) (by omega)) gX11_area_X11_limbOf rfl hy_X11_limbOf_V ⟨Nat.le_of_ble_eq_true rfl, Nat.le_of_ble_eq_true rfl⟩ 0 rfl rfl [0, 3, 4] rfl (by decide) rfl rfl (Nat.le_of_ble_eq_true rfl) ⟨Nat.le_of_ble_eq_true rfl, Nat.le_of_ble_eq_true rfl⟩ ?_
                  rintro _ w_14 ⟨rfl, hw_14⟩
                  change J p l e rm_X11_area s m args below meth c Q G A 4 0 0 196 [(0, .ref (q 0)), (1, .int li), (2, .int (nI k))] [.long w_14] [(q 0, .inr (10, mF 0 n q (nI C) cr po tx ty)), (q 8, aJ G 200 cx), (q 9, aJ G 200 cy), (q 10, aI G 320 (rg [z0, z1, z2, z3, a4, y_4, y_10, y_12, z8, z9, z10, z11, a12, a13, a14, a15])), (q 11, aZ G 16 sf_13)]
                  exact E.2.2 196 _ w_14 (w_14, [z0, z1, z2, z3, a4, y_4, y_10, y_12, z8, z9, z10, z11, a12, a13, a14, a15], sf_13) dX11_area_196 (⟨rfl, (by rw [hA2, hw_14]; show (((y_12 : Int).natAbs : Nat) : Int) / _ % _ = _; rw [ey_12, ey_10, ey_8, ey_6, ey_4]; exact ar_neg (by omega) (by omega) (by omega)), kp_i, hS_sf_13⟩) hr
                · skip
                  first | simp only [bI_0, Decidable.not_not, sg_mul, sg_e0, sg_l0, sg_g0, sg_le0, sg_ge0, cmp_eq, cmp_lt, cmp_ge, cmp_gt, cmp_le, lT0, lT1] at c_135 | simp only [Int32.le_iff_toInt_le, Int32.lt_iff_toInt_lt, ← Int32.toInt_inj, iT0, iT1, iT2, iT3, iT4, iT5, iT6, iT7, iT8, iT9, iT10, iT11, iT12, iT13, iT14, iT15, iT16, iT19, iT20, iT31, iT32, iT42, iT64, iT200, iT318, iT319, iT1000, iTm1, iTm2] at c_135 | skip
                  have ha0 : 0 ≤ a4 := by omega
                  refine j_aload_n X dX11_area_138 rfl 0 rfl ?_
                  refine j_iconst (v := 4) X dX11_area_139 rfl ?_
                  refine j_iload_n X dX11_area_140 rfl 1 rfl ?_
                  refine j_callV X dX11_area_141 (c_X11_limbOf l G q 0 n (nI C) cr po tx ty ([z0, z1, z2, z3, a4, a5, a6, z7, z8, z9, z10, z11, a12, a13, a14, a15]) rfl s2 4 4 rfl (by decide) li li.toInt.toNat (by omega) (by omega)) gX11_area_X11_limbOf rfl hy_X11_limbOf_V ⟨Nat.le_of_ble_eq_true rfl, Nat.le_of_ble_eq_true rfl⟩ 0 rfl rfl [0, 3, 4] rfl (by decide) rfl rfl (Nat.le_of_ble_eq_true rfl) ⟨Nat.le_of_ble_eq_true rfl, Nat.le_of_ble_eq_true rfl⟩ ?_
                  rintro _ w_15 ⟨rfl, hw_15⟩
                  change J p l e rm_X11_area s m args below meth c Q G A 4 0 0 144 [(0, .ref (q 0)), (1, .int li), (2, .int (nI k))] [.long w_15] [(q 0, .inr (10, mF 0 n q (nI C) cr po tx ty)), (q 8, aJ G 200 cx), (q 9, aJ G 200 cy), (q 10, aI G 320 (rg [z0, z1, z2, z3, a4, a5, a6, z7, z8, z9, z10, z11, a12, a13, a14, a15])), (q 11, aZ G 16 s2)]
                  exact E.2.2 144 _ w_15 (w_15, [z0, z1, z2, z3, a4, a5, a6, z7, z8, z9, z10, z11, a12, a13, a14, a15], s2) dX11_area_144 (⟨rfl, (by rw [hA2, hw_15]; show (((a4 : Int).natAbs : Nat) : Int) / _ % _ = _; rw [Int.natAbs_of_nonneg ha0]), kp_i, hS2⟩) hr
            · skip
              first | simp only [bI_0, Decidable.not_not, sg_mul, sg_e0, sg_l0, sg_g0, sg_le0, sg_ge0, cmp_eq, cmp_lt, cmp_ge, cmp_gt, cmp_le, lT0, lT1] at c_48 | simp only [Int32.le_iff_toInt_le, Int32.lt_iff_toInt_lt, ← Int32.toInt_inj, iT0, iT1, iT2, iT3, iT4, iT5, iT6, iT7, iT8, iT9, iT10, iT11, iT12, iT13, iT14, iT15, iT16, iT19, iT20, iT31, iT32, iT42, iT64, iT200, iT318, iT319, iT1000, iTm1, iTm2] at c_48 | skip
              subst hx
              rw [nI_T (by have := hC.1; omega), nI_T (by have := hC.1; omega)] at c_48
              have har : k < C ∧ a4 = aro cx cy k := by rcases hI with h | h; exact h; exact absurd h.1 (by omega)
              have gk : k < 200 := by have := hC.1; omega
              have ba4 : bd 92 a4 := by show a4.natAbs ≤ 2 ^ 92; have h2 : (2 : Nat) ^ 92 = 4951760157141521099596496896 := (by decide); omega
              refine j_iload_n X dX11_area_51 rfl 2 rfl ?_
              refine j_iconst (v := 1) X dX11_area_52 rfl ?_
              refine j_iadd X dX11_area_53 ?_
              refine j_aload_n X dX11_area_54 rfl 0 rfl ?_
              refine j_get (v := .int (nI C)) X dX11_area_55 0 rfl 9 rfl in_X11_area_X11 (by decide) fl_X11_area_224 rfl ?_
              refine j_icmp_ge (tgt := 67) X dX11_area_58 (by decide) (fun c_58 => ?_) (fun c_58 => ?_)
              · skip
                first | simp only [bI_0, Decidable.not_not, sg_mul, sg_e0, sg_l0, sg_g0, sg_le0, sg_ge0, cmp_eq, cmp_lt, cmp_ge, cmp_gt, cmp_le, lT0, lT1] at c_58 | simp only [Int32.le_iff_toInt_le, Int32.lt_iff_toInt_lt, ← Int32.toInt_inj, iT0, iT1, iT2, iT3, iT4, iT5, iT6, iT7, iT8, iT9, iT10, iT11, iT12, iT13, iT14, iT15, iT16, iT19, iT20, iT31, iT32, iT42, iT64, iT200, iT318, iT319, iT1000, iTm1, iTm2] at c_58 | skip
                rw [nI_s (by omega), nI_T (by have := hC.1; omega), nI_T (by have := hC.1; omega)] at c_58
                refine j_iconst (v := 0) X dX11_area_67 rfl ?_
                refine j_istore_n (L' := [(3, .int 0), (0, .ref (q 0)), (1, .int li), (2, .int (nI k))]) X dX11_area_68 rfl (by decide) rfl ?_
                refine j_aload_n X dX11_area_69 rfl 1 rfl ?_
                refine j_iconst (v := 5) X dX11_area_70 rfl ?_
                refine j_aload_n X dX11_area_71 rfl 1 rfl ?_
                refine j_get (v := .ref (q 8)) X dX11_area_72 0 rfl 10 rfl in_X11_area_X11 (by decide) fl_X11_area_33 rfl ?_
                refine j_iload_n X dX11_area_75 rfl 3 rfl ?_
                refine j_lald X dX11_area_76 1 rfl k rfl gk (by decide) ?_
                refine j_aload_n X dX11_area_77 rfl 1 rfl ?_
                refine j_get (v := .ref (q 9)) X dX11_area_78 0 rfl 11 rfl in_X11_area_X11 (by decide) fl_X11_area_36 rfl ?_
                refine j_iload_n X dX11_area_81 rfl 0 rfl ?_
                refine j_lald X dX11_area_82 2 rfl 0 rfl (by decide) (by decide) ?_
                refine j_aload_n X dX11_area_83 rfl 1 rfl ?_
                refine j_get (v := .ref (q 9)) X dX11_area_84 0 rfl 11 rfl in_X11_area_X11 (by decide) fl_X11_area_36 rfl ?_
                refine j_iload_n X dX11_area_87 rfl 3 rfl ?_
                refine j_lald X dX11_area_88 2 rfl k rfl gk (by decide) ?_
                refine j_aload_n X dX11_area_89 rfl 1 rfl ?_
                refine j_get (v := .ref (q 8)) X dX11_area_90 0 rfl 10 rfl in_X11_area_X11 (by decide) fl_X11_area_33 rfl ?_
                refine j_iload_n X dX11_area_93 rfl 0 rfl ?_
                refine j_lald X dX11_area_94 1 rfl 0 rfl (by decide) (by decide) ?_
                refine j_iconst (v := 1) X dX11_area_95 rfl ?_
                obtain ⟨y_16, ey_16⟩ : ∃ zz9 : Int, zz9 = (cx k).toInt * (cy 0).toInt - (cx 0).toInt * (cy k).toInt := ⟨_, rfl⟩
                have by_16 : bd 127 y_16 := by rw [ey_16]; exact bd_sub (bd_mono (bd_mul (bd_l (cx k)) (bd_l (cy 0))) (by decide)) (bd_mono (bd_mul (bd_l (cx 0)) (bd_l (cy k))) (by decide))
                refine j_callV X dX11_area_96 (n_products l G q 0 n (nI C) cr po tx ty [z0, z1, z2, z3, a4, a5, a6, z7, z8, z9, z10, z11, a12, a13, a14, a15] s2 rfl hS2 5 5 rfl (by decide) (cx k) (cy 0) (cy k) (cx 0) 1 (Or.inr rfl) y_16 ey_16) gX11_area_X11_products rfl hy_X11_products_V ⟨Nat.le_of_ble_eq_true rfl, Nat.le_of_ble_eq_true rfl⟩ 0 rfl rfl [0, 3, 4] rfl (by decide) rfl rfl (Nat.le_of_ble_eq_true rfl) ⟨Nat.le_of_ble_eq_true rfl, Nat.le_of_ble_eq_true rfl⟩ ?_
                rintro _ ⟨v_17, v_18, v_19, v_20, sf_21⟩ ⟨rfl, hS_sf_21⟩
                change J p l e rm_X11_area s m args below meth c Q G A 4 0 0 99 [(3, .int 0), (0, .ref (q 0)), (1, .int li), (2, .int (nI k))] [] [(q 0, .inr (10, mF 0 n q (nI C) cr po tx ty)), (q 8, aJ G 200 cx), (q 9, aJ G 200 cy), (q 10, aI G 320 (rg [z0, z1, z2, z3, a4, y_16, a6, z7, z8, z9, z10, z11, v_17, v_18, v_19, v_20])), (q 11, aZ G 16 sf_21)]
                refine j_aload_n X dX11_area_99 rfl 1 rfl ?_
                refine j_bipush (v := 6) X dX11_area_100 (by decide) ?_
                refine j_iconst (v := 4) X dX11_area_102 rfl ?_
                refine j_iconst (v := 5) X dX11_area_103 rfl ?_
                refine j_iconst (v := 0) X dX11_area_104 rfl ?_
                obtain ⟨y_22, ey_22⟩ : ∃ zz9 : Int, zz9 = a4 + y_16 := ⟨_, rfl⟩
                have by_22 : bd 128 y_22 := by rw [ey_22]; exact bd_add (bd_mono ba4 (by decide)) (bd_mono by_16 (by decide))
                refine j_callV X dX11_area_105 (n_join l G q 0 n (nI C) cr po tx ty [z0, z1, z2, z3, a4, y_16, a6, z7, z8, z9, z10, z11, v_17, v_18, v_19, v_20] sf_21 rfl hS_sf_21 6 6 rfl (by decide) 4 4 rfl (by decide) 5 5 rfl (by decide) 0 (Or.inl rfl) (by decide) (by decide) y_22 ey_22 ba4 by_16 (by decide) (by decide)) gX11_area_X11_join rfl hy_X11_join_V ⟨Nat.le_of_ble_eq_true rfl, Nat.le_of_ble_eq_true rfl⟩ 0 rfl rfl [0, 3, 4] rfl (by decide) rfl rfl (Nat.le_of_ble_eq_true rfl) ⟨Nat.le_of_ble_eq_true rfl, Nat.le_of_ble_eq_true rfl⟩ ?_
                rintro _ sf_23 ⟨rfl, hS_sf_23⟩
                change J p l e rm_X11_area s m args below meth c Q G A 4 0 0 108 [(3, .int 0), (0, .ref (q 0)), (1, .int li), (2, .int (nI k))] [] [(q 0, .inr (10, mF 0 n q (nI C) cr po tx ty)), (q 8, aJ G 200 cx), (q 9, aJ G 200 cy), (q 10, aI G 320 (rg [z0, z1, z2, z3, a4, y_16, y_22, z7, z8, z9, z10, z11, v_17, v_18, v_19, v_20])), (q 11, aZ G 16 sf_23)]
                refine j_aload_n X dX11_area_108 rfl 1 rfl ?_
                refine j_iconst (v := 4) X dX11_area_109 rfl ?_
                refine j_bipush (v := 6) X dX11_area_110 (by decide) ?_
                refine j_callV X dX11_area_112 (h_copy l G q 0 n (nI C) cr po tx ty [z0, z1, z2, z3, a4, y_16, y_22, z7, z8, z9, z10, z11, v_17, v_18, v_19, v_20] sf_23 rfl hS_sf_23 4 4 rfl (by decide) 6 6 rfl (by decide) (by decide)) gX11_area_X11_copy rfl hy_X11_copy_V ⟨Nat.le_of_ble_eq_true rfl, Nat.le_of_ble_eq_true rfl⟩ 0 rfl rfl [0, 3, 4] rfl (by decide) rfl rfl (Nat.le_of_ble_eq_true rfl) ⟨Nat.le_of_ble_eq_true rfl, Nat.le_of_ble_eq_true rfl⟩ ?_
                rintro _ sf_24 ⟨rfl, hS_sf_24⟩
                change J p l e rm_X11_area s m args below meth c Q G A 4 0 0 115 [(3, .int 0), (0, .ref (q 0)), (1, .int li), (2, .int (nI k))] [] [(q 0, .inr (10, mF 0 n q (nI C) cr po tx ty)), (q 8, aJ G 200 cx), (q 9, aJ G 200 cy), (q 10, aI G 320 (rg [z0, z1, z2, z3, y_22, y_16, y_22, z7, z8, z9, z10, z11, v_17, v_18, v_19, v_20])), (q 11, aZ G 16 sf_24)]
                refine j_iinc (v := nI (k + 1)) (L' := [(2, .int (nI (k + 1))), (3, .int 0), (0, .ref (q 0)), (1, .int li)]) X dX11_area_115 3 rfl (nI_s (by omega)) (by decide) rfl ?_
                refine j_goto (tgt := 43) X dX11_area_118 (by decide) ?_
                refine j_sub [2, 3, 0] rfl ?_
                have hac : y_16 = acr cx cy k 0 := ey_16
                have hn4 : y_22 = a4 + y_16 := ey_22
                have hb5 : y_16.natAbs ≤ 2417851639229258349412352 := by rw [hac]; exact acr_b (hC.2 k (by omega)) (hC.2 0 (by omega))
                exact ih (k + 1) (nI (k + 1)) y_22 y_16 y_22 v_17 v_18 v_19 v_20 sf_24 rfl (by omega) (by exact Or.inr ⟨by omega, by rw [hn4, hac, har.2, show C - 1 = k by omega]⟩) (by omega) hS_sf_24 (by omega)
              · skip
                first | simp only [bI_0, Decidable.not_not, sg_mul, sg_e0, sg_l0, sg_g0, sg_le0, sg_ge0, cmp_eq, cmp_lt, cmp_ge, cmp_gt, cmp_le, lT0, lT1] at c_58 | simp only [Int32.le_iff_toInt_le, Int32.lt_iff_toInt_lt, ← Int32.toInt_inj, iT0, iT1, iT2, iT3, iT4, iT5, iT6, iT7, iT8, iT9, iT10, iT11, iT12, iT13, iT14, iT15, iT16, iT19, iT20, iT31, iT32, iT42, iT64, iT200, iT318, iT319, iT1000, iTm1, iTm2] at c_58 | skip
                rw [nI_s (by omega), nI_T (by have := hC.1; omega), nI_T (by have := hC.1; omega)] at c_58
                have gk1 : k + 1 < 200 := by have := hC.1; omega
                refine j_iload_n X dX11_area_61 rfl 2 rfl ?_
                refine j_iconst (v := 1) X dX11_area_62 rfl ?_
                refine j_iadd X dX11_area_63 ?_
                refine j_goto (tgt := 68) X dX11_area_64 (by decide) ?_
                rw [nI_s (by omega)]
                refine j_istore_n (L' := [(3, .int (nI (k + 1))), (0, .ref (q 0)), (1, .int li), (2, .int (nI k))]) X dX11_area_68 rfl (by decide) rfl ?_
                refine j_aload_n X dX11_area_69 rfl 1 rfl ?_
                refine j_iconst (v := 5) X dX11_area_70 rfl ?_
                refine j_aload_n X dX11_area_71 rfl 1 rfl ?_
                refine j_get (v := .ref (q 8)) X dX11_area_72 0 rfl 10 rfl in_X11_area_X11 (by decide) fl_X11_area_33 rfl ?_
                refine j_iload_n X dX11_area_75 rfl 3 rfl ?_
                refine j_lald X dX11_area_76 1 rfl k rfl gk (by decide) ?_
                refine j_aload_n X dX11_area_77 rfl 1 rfl ?_
                refine j_get (v := .ref (q 9)) X dX11_area_78 0 rfl 11 rfl in_X11_area_X11 (by decide) fl_X11_area_36 rfl ?_
                refine j_iload_n X dX11_area_81 rfl 0 rfl ?_
                refine j_lald X dX11_area_82 2 rfl (k + 1) rfl gk1 (by decide) ?_
                refine j_aload_n X dX11_area_83 rfl 1 rfl ?_
                refine j_get (v := .ref (q 9)) X dX11_area_84 0 rfl 11 rfl in_X11_area_X11 (by decide) fl_X11_area_36 rfl ?_
                refine j_iload_n X dX11_area_87 rfl 3 rfl ?_
                refine j_lald X dX11_area_88 2 rfl k rfl gk (by decide) ?_
                refine j_aload_n X dX11_area_89 rfl 1 rfl ?_
                refine j_get (v := .ref (q 8)) X dX11_area_90 0 rfl 10 rfl in_X11_area_X11 (by decide) fl_X11_area_33 rfl ?_
                refine j_iload_n X dX11_area_93 rfl 0 rfl ?_
                refine j_lald X dX11_area_94 1 rfl (k + 1) rfl gk1 (by decide) ?_
                refine j_iconst (v := 1) X dX11_area_95 rfl ?_
                obtain ⟨y_25, ey_25⟩ : ∃ zz9 : Int, zz9 = (cx k).toInt * (cy (k + 1)).toInt - (cx (k + 1)).toInt * (cy k).toInt := ⟨_, rfl⟩
                have by_25 : bd 127 y_25 := by rw [ey_25]; exact bd_sub (bd_mono (bd_mul (bd_l (cx k)) (bd_l (cy (k + 1)))) (by decide)) (bd_mono (bd_mul (bd_l (cx (k + 1))) (bd_l (cy k))) (by decide))
                refine j_callV X dX11_area_96 (n_products l G q 0 n (nI C) cr po tx ty [z0, z1, z2, z3, a4, a5, a6, z7, z8, z9, z10, z11, a12, a13, a14, a15] s2 rfl hS2 5 5 rfl (by decide) (cx k) (cy (k + 1)) (cy k) (cx (k + 1)) 1 (Or.inr rfl) y_25 ey_25) gX11_area_X11_products rfl hy_X11_products_V ⟨Nat.le_of_ble_eq_true rfl, Nat.le_of_ble_eq_true rfl⟩ 0 rfl rfl [0, 3, 4] rfl (by decide) rfl rfl (Nat.le_of_ble_eq_true rfl) ⟨Nat.le_of_ble_eq_true rfl, Nat.le_of_ble_eq_true rfl⟩ ?_
                rintro _ ⟨v_26, v_27, v_28, v_29, sf_30⟩ ⟨rfl, hS_sf_30⟩
                change J p l e rm_X11_area s m args below meth c Q G A 4 0 0 99 [(3, .int (nI (k + 1))), (0, .ref (q 0)), (1, .int li), (2, .int (nI k))] [] [(q 0, .inr (10, mF 0 n q (nI C) cr po tx ty)), (q 8, aJ G 200 cx), (q 9, aJ G 200 cy), (q 10, aI G 320 (rg [z0, z1, z2, z3, a4, y_25, a6, z7, z8, z9, z10, z11, v_26, v_27, v_28, v_29])), (q 11, aZ G 16 sf_30)]
                refine j_aload_n X dX11_area_99 rfl 1 rfl ?_
                refine j_bipush (v := 6) X dX11_area_100 (by decide) ?_
                refine j_iconst (v := 4) X dX11_area_102 rfl ?_
                refine j_iconst (v := 5) X dX11_area_103 rfl ?_
                refine j_iconst (v := 0) X dX11_area_104 rfl ?_
                obtain ⟨y_31, ey_31⟩ : ∃ zz9 : Int, zz9 = a4 + y_25 := ⟨_, rfl⟩
                have by_31 : bd 128 y_31 := by rw [ey_31]; exact bd_add (bd_mono ba4 (by decide)) (bd_mono by_25 (by decide))
                refine j_callV X dX11_area_105 (n_join l G q 0 n (nI C) cr po tx ty [z0, z1, z2, z3, a4, y_25, a6, z7, z8, z9, z10, z11, v_26, v_27, v_28, v_29] sf_30 rfl hS_sf_30 6 6 rfl (by decide) 4 4 rfl (by decide) 5 5 rfl (by decide) 0 (Or.inl rfl) (by decide) (by decide) y_31 ey_31 ba4 by_25 (by decide) (by decide)) gX11_area_X11_join rfl hy_X11_join_V ⟨Nat.le_of_ble_eq_true rfl, Nat.le_of_ble_eq_true rfl⟩ 0 rfl rfl [0, 3, 4] rfl (by decide) rfl rfl (Nat.le_of_ble_eq_true rfl) ⟨Nat.le_of_ble_eq_true rfl, Nat.le_of_ble_eq_true rfl⟩ ?_
                rintro _ sf_32 ⟨rfl, hS_sf_32⟩
                change J p l e rm_X11_area s m args below meth c Q G A 4 0 0 108 [(3, .int (nI (k + 1))), (0, .ref (q 0)), (1, .int li), (2, .int (nI k))] [] [(q 0, .inr (10, mF 0 n q (nI C) cr po tx ty)), (q 8, aJ G 200 cx), (q 9, aJ G 200 cy), (q 10, aI G 320 (rg [z0, z1, z2, z3, a4, y_25, y_31, z7, z8, z9, z10, z11, v_26, v_27, v_28, v_29])), (q 11, aZ G 16 sf_32)]
                refine j_aload_n X dX11_area_108 rfl 1 rfl ?_
                refine j_iconst (v := 4) X dX11_area_109 rfl ?_
                refine j_bipush (v := 6) X dX11_area_110 (by decide) ?_
                refine j_callV X dX11_area_112 (h_copy l G q 0 n (nI C) cr po tx ty [z0, z1, z2, z3, a4, y_25, y_31, z7, z8, z9, z10, z11, v_26, v_27, v_28, v_29] sf_32 rfl hS_sf_32 4 4 rfl (by decide) 6 6 rfl (by decide) (by decide)) gX11_area_X11_copy rfl hy_X11_copy_V ⟨Nat.le_of_ble_eq_true rfl, Nat.le_of_ble_eq_true rfl⟩ 0 rfl rfl [0, 3, 4] rfl (by decide) rfl rfl (Nat.le_of_ble_eq_true rfl) ⟨Nat.le_of_ble_eq_true rfl, Nat.le_of_ble_eq_true rfl⟩ ?_
                rintro _ sf_33 ⟨rfl, hS_sf_33⟩
                change J p l e rm_X11_area s m args below meth c Q G A 4 0 0 115 [(3, .int (nI (k + 1))), (0, .ref (q 0)), (1, .int li), (2, .int (nI k))] [] [(q 0, .inr (10, mF 0 n q (nI C) cr po tx ty)), (q 8, aJ G 200 cx), (q 9, aJ G 200 cy), (q 10, aI G 320 (rg [z0, z1, z2, z3, y_31, y_25, y_31, z7, z8, z9, z10, z11, v_26, v_27, v_28, v_29])), (q 11, aZ G 16 sf_33)]
                refine j_iinc (v := nI (k + 1)) (L' := [(2, .int (nI (k + 1))), (3, .int (nI (k + 1))), (0, .ref (q 0)), (1, .int li)]) X dX11_area_115 3 rfl (nI_s (by omega)) (by decide) rfl ?_
                refine j_goto (tgt := 43) X dX11_area_118 (by decide) ?_
                refine j_sub [2, 3, 0] rfl ?_
                have hac : y_25 = acr cx cy k (k + 1) := ey_25
                have hn4 : y_31 = a4 + y_25 := ey_31
                have hb5 : y_25.natAbs ≤ 2417851639229258349412352 := by rw [hac]; exact acr_b (hC.2 k (by omega)) (hC.2 (k + 1) (by omega))
                exact ih (k + 1) (nI (k + 1)) y_31 y_25 y_31 v_26 v_27 v_28 v_29 sf_33 rfl (by omega) (by exact Or.inl ⟨by omega, by rw [hn4, hac, har.2]; rfl⟩) (by omega) hS_sf_33 (by omega)
        refine j_sub [1, 2, 0] rfl ?_
        exact loop (C + 1) 0 0 y_1 z5 z6 z12 z13 z14 z15 sf_2 rfl (by omega) (by exact Or.inl ⟨by omega, ey_1⟩) (by rw [ey_1]; decide) hS_sf_2 (by omega)
      · skip
        first | simp only [bI_0, Decidable.not_not, sg_mul, sg_e0, sg_l0, sg_g0, sg_le0, sg_ge0, cmp_eq, cmp_lt, cmp_ge, cmp_gt, cmp_le, lT0, lT1] at c_30 | simp only [Int32.le_iff_toInt_le, Int32.lt_iff_toInt_lt, ← Int32.toInt_inj, iT0, iT1, iT2, iT3, iT4, iT5, iT6, iT7, iT8, iT9, iT10, iT11, iT12, iT13, iT14, iT15, iT16, iT19, iT20, iT31, iT32, iT42, iT64, iT200, iT318, iT319, iT1000, iTm1, iTm2] at c_30 | skip
        rw [nI_T (by have := hC.1; omega)] at c_30
        refine j_lconst (v := 0) X dX11_area_33 rfl ?_
        exact E.2.2 34 _ 0 (0, [z0, z1, z2, z3, z4, z5, z6, z7, z8, z9, z10, z11, z12, z13, z14, z15], sf) dX11_area_34 (⟨rfl, (by unfold ar2; rw [if_pos (by omega), Int.zero_ediv]; rfl), kp_i, hS⟩) hr
    · skip
      first | simp only [bI_0, Decidable.not_not, sg_mul, sg_e0, sg_l0, sg_g0, sg_le0, sg_ge0, cmp_eq, cmp_lt, cmp_ge, cmp_gt, cmp_le, lT0, lT1] at c_7 | simp only [Int32.le_iff_toInt_le, Int32.lt_iff_toInt_lt, ← Int32.toInt_inj, iT0, iT1, iT2, iT3, iT4, iT5, iT6, iT7, iT8, iT9, iT10, iT11, iT12, iT13, iT14, iT15, iT16, iT19, iT20, iT31, iT32, iT42, iT64, iT200, iT318, iT319, iT1000, iTm1, iTm2] at c_7 | skip
      exfalso; omega

