abbrev rm_X11_at : Room := { frames := 4, cells := 0, slots := 0, locals := 109 }
theorem in_X11_at_X11 : ∀ w ∈ u_ws RX11 TX11 19, w ∈ wsX11_at := by decide +kernel
theorem fl_X11_at_196 : Cond.fieldLink RX11 196 (TX11 14).1 (TX11 14).2.1 (TX11 14).2.2.1 ∈ wsX11_at := by decide +kernel
theorem fl_X11_at_48 : Cond.fieldLink RX11 48 (TX11 0).1 (TX11 0).2.1 (TX11 0).2.2.1 ∈ wsX11_at := by decide +kernel
theorem fl_X11_at_173 : Cond.fieldLink RX11 173 (TX11 15).1 (TX11 15).2.1 (TX11 15).2.2.1 ∈ wsX11_at := by decide +kernel
set_option maxHeartbeats 4000000 in
set_option maxRecDepth 100000 in
theorem c_X11_at_1 (l : Launch) (G : jG) (q : Nat → Nat) (t n co cr po : Int32) (tx ty : Int64) (x1 ax how : Int32) (hC : cr = 0) : Ct l yX11_at wsX11_at rm_X11_at G [.ref (q 0), .int x1, .int ax, .int how] [(q 0, .inr (10, mF t n q co cr po tx ty))] (S := Unit) (fun r _ => r = some (.long 0)) (fun _ => [(q 0, .inr (10, mF 1 n q co cr po tx ty))]) (fun _ => []) := by
  refine c_intro (cc := cX11_at) (maxL := 8) (ret := (some .long)) (by decide) rfl (Nat.le_of_ble_eq_true rfl) (fun _ => by simp only [List.map_cons, List.map_nil]) ?_
  intro p e s m args below meth c Q A X hr hin E
  change J p l e rm_X11_at s m args below meth c Q G A 8 0 0 0 [(0, .ref (q 0)), (1, .int x1), (2, .int ax), (3, .int how)] [] [(q 0, .inr (10, mF t n q co cr po tx ty))]
  refine j_iload_n X dX11_at_0 rfl 1 rfl ?_
  refine j_if_lt (tgt := 34) X dX11_at_1 (by decide) (fun c_1 => ?_) (fun c_1 => ?_)
  · skip
    first | simp only [bI_0, Decidable.not_not, sg_mul, sg_e0, sg_l0, sg_g0, sg_le0, sg_ge0, cmp_eq, cmp_lt, cmp_ge, cmp_gt, cmp_le, lT0, lT1] at c_1 | simp only [Int32.le_iff_toInt_le, Int32.lt_iff_toInt_lt, ← Int32.toInt_inj, iT0, iT1, iT2, iT3, iT4, iT5, iT6, iT7, iT8, iT9, iT10, iT11, iT12, iT13, iT14, iT15, iT16, iT19, iT20, iT31, iT32, iT42, iT64, iT200, iT318, iT319, iT1000, iTm1, iTm2] at c_1 | skip
    refine j_iconst (v := 0) X dX11_at_34 rfl ?_
    refine j_istore (L' := [(4, .int 0), (0, .ref (q 0)), (1, .int x1), (2, .int ax), (3, .int how)]) X dX11_at_35 (by decide) rfl ?_
    refine j_aload_n X dX11_at_37 rfl 1 rfl ?_
    refine j_aload_n X dX11_at_38 rfl 1 rfl ?_
    refine j_get (v := .int cr) X dX11_at_39 0 rfl 14 rfl in_X11_at_X11 (by decide) fl_X11_at_196 rfl ?_
    refine j_if_ne (tgt := 49) X dX11_at_42 (by decide) (fun c_42 => ?_) (fun c_42 => ?_)
    · skip
      exact absurd hC c_42
    · skip
      refine j_iconst (v := 1) X dX11_at_45 rfl ?_
      refine j_goto (tgt := 59) X dX11_at_46 (by decide) ?_
      refine j_put (ws' := [(q 0, .inr (10, mF 1 n q co cr po tx ty))]) X dX11_at_59 0 rfl 0 rfl in_X11_at_X11 tyX11 tyX11_ok nmX11 (by decide) fl_X11_at_48 rfl rfl rfl rfl (Nat.le_of_ble_eq_true rfl) rfl ?_
      refine j_aload_n X dX11_at_62 rfl 1 rfl ?_
      refine j_get (v := .int 1) X dX11_at_63 0 rfl 0 rfl in_X11_at_X11 (by decide) fl_X11_at_48 rfl ?_
      refine j_if_eq (tgt := 71) X dX11_at_66 (by decide) (fun c9 => absurd c9 (by decide)) (fun _ => ?_)
      refine j_lconst (v := 0) X dX11_at_69 rfl ?_
      exact E.2.2 70 _ 0 () dX11_at_70 rfl hr
  · skip
    first | simp only [bI_0, Decidable.not_not, sg_mul, sg_e0, sg_l0, sg_g0, sg_le0, sg_ge0, cmp_eq, cmp_lt, cmp_ge, cmp_gt, cmp_le, lT0, lT1] at c_1 | simp only [Int32.le_iff_toInt_le, Int32.lt_iff_toInt_lt, ← Int32.toInt_inj, iT0, iT1, iT2, iT3, iT4, iT5, iT6, iT7, iT8, iT9, iT10, iT11, iT12, iT13, iT14, iT15, iT16, iT19, iT20, iT31, iT32, iT42, iT64, iT200, iT318, iT319, iT1000, iTm1, iTm2] at c_1 | skip
    refine j_iload_n X dX11_at_4 rfl 1 rfl ?_
    refine j_aload_n X dX11_at_5 rfl 0 rfl ?_
    refine j_get (v := .int po) X dX11_at_6 0 rfl 15 rfl in_X11_at_X11 (by decide) fl_X11_at_173 rfl ?_
    refine j_icmp_ge (tgt := 34) X dX11_at_9 (by decide) (fun c_9 => ?_) (fun c_9 => ?_)
    · skip
      first | simp only [bI_0, Decidable.not_not, sg_mul, sg_e0, sg_l0, sg_g0, sg_le0, sg_ge0, cmp_eq, cmp_lt, cmp_ge, cmp_gt, cmp_le, lT0, lT1] at c_9 | simp only [Int32.le_iff_toInt_le, Int32.lt_iff_toInt_lt, ← Int32.toInt_inj, iT0, iT1, iT2, iT3, iT4, iT5, iT6, iT7, iT8, iT9, iT10, iT11, iT12, iT13, iT14, iT15, iT16, iT19, iT20, iT31, iT32, iT42, iT64, iT200, iT318, iT319, iT1000, iTm1, iTm2] at c_9 | skip
      refine j_iconst (v := 0) X dX11_at_34 rfl ?_
      refine j_istore (L' := [(4, .int 0), (0, .ref (q 0)), (1, .int x1), (2, .int ax), (3, .int how)]) X dX11_at_35 (by decide) rfl ?_
      refine j_aload_n X dX11_at_37 rfl 1 rfl ?_
      refine j_aload_n X dX11_at_38 rfl 1 rfl ?_
      refine j_get (v := .int cr) X dX11_at_39 0 rfl 14 rfl in_X11_at_X11 (by decide) fl_X11_at_196 rfl ?_
      refine j_if_ne (tgt := 49) X dX11_at_42 (by decide) (fun c_42 => ?_) (fun c_42 => ?_)
      · skip
        exact absurd hC c_42
      · skip
        refine j_iconst (v := 1) X dX11_at_45 rfl ?_
        refine j_goto (tgt := 59) X dX11_at_46 (by decide) ?_
        refine j_put (ws' := [(q 0, .inr (10, mF 1 n q co cr po tx ty))]) X dX11_at_59 0 rfl 0 rfl in_X11_at_X11 tyX11 tyX11_ok nmX11 (by decide) fl_X11_at_48 rfl rfl rfl rfl (Nat.le_of_ble_eq_true rfl) rfl ?_
        refine j_aload_n X dX11_at_62 rfl 1 rfl ?_
        refine j_get (v := .int 1) X dX11_at_63 0 rfl 0 rfl in_X11_at_X11 (by decide) fl_X11_at_48 rfl ?_
        refine j_if_eq (tgt := 71) X dX11_at_66 (by decide) (fun c9 => absurd c9 (by decide)) (fun _ => ?_)
        refine j_lconst (v := 0) X dX11_at_69 rfl ?_
        exact E.2.2 70 _ 0 () dX11_at_70 rfl hr
    · skip
      first | simp only [bI_0, Decidable.not_not, sg_mul, sg_e0, sg_l0, sg_g0, sg_le0, sg_ge0, cmp_eq, cmp_lt, cmp_ge, cmp_gt, cmp_le, lT0, lT1] at c_9 | simp only [Int32.le_iff_toInt_le, Int32.lt_iff_toInt_lt, ← Int32.toInt_inj, iT0, iT1, iT2, iT3, iT4, iT5, iT6, iT7, iT8, iT9, iT10, iT11, iT12, iT13, iT14, iT15, iT16, iT19, iT20, iT31, iT32, iT42, iT64, iT200, iT318, iT319, iT1000, iTm1, iTm2] at c_9 | skip
      refine j_iload_n X dX11_at_12 rfl 2 rfl ?_
      refine j_if_lt (tgt := 34) X dX11_at_13 (by decide) (fun c_13 => ?_) (fun c_13 => ?_)
      · skip
        first | simp only [bI_0, Decidable.not_not, sg_mul, sg_e0, sg_l0, sg_g0, sg_le0, sg_ge0, cmp_eq, cmp_lt, cmp_ge, cmp_gt, cmp_le, lT0, lT1] at c_13 | simp only [Int32.le_iff_toInt_le, Int32.lt_iff_toInt_lt, ← Int32.toInt_inj, iT0, iT1, iT2, iT3, iT4, iT5, iT6, iT7, iT8, iT9, iT10, iT11, iT12, iT13, iT14, iT15, iT16, iT19, iT20, iT31, iT32, iT42, iT64, iT200, iT318, iT319, iT1000, iTm1, iTm2] at c_13 | skip
        refine j_iconst (v := 0) X dX11_at_34 rfl ?_
        refine j_istore (L' := [(4, .int 0), (0, .ref (q 0)), (1, .int x1), (2, .int ax), (3, .int how)]) X dX11_at_35 (by decide) rfl ?_
        refine j_aload_n X dX11_at_37 rfl 1 rfl ?_
        refine j_aload_n X dX11_at_38 rfl 1 rfl ?_
        refine j_get (v := .int cr) X dX11_at_39 0 rfl 14 rfl in_X11_at_X11 (by decide) fl_X11_at_196 rfl ?_
        refine j_if_ne (tgt := 49) X dX11_at_42 (by decide) (fun c_42 => ?_) (fun c_42 => ?_)
        · skip
          exact absurd hC c_42
        · skip
          refine j_iconst (v := 1) X dX11_at_45 rfl ?_
          refine j_goto (tgt := 59) X dX11_at_46 (by decide) ?_
          refine j_put (ws' := [(q 0, .inr (10, mF 1 n q co cr po tx ty))]) X dX11_at_59 0 rfl 0 rfl in_X11_at_X11 tyX11 tyX11_ok nmX11 (by decide) fl_X11_at_48 rfl rfl rfl rfl (Nat.le_of_ble_eq_true rfl) rfl ?_
          refine j_aload_n X dX11_at_62 rfl 1 rfl ?_
          refine j_get (v := .int 1) X dX11_at_63 0 rfl 0 rfl in_X11_at_X11 (by decide) fl_X11_at_48 rfl ?_
          refine j_if_eq (tgt := 71) X dX11_at_66 (by decide) (fun c9 => absurd c9 (by decide)) (fun _ => ?_)
          refine j_lconst (v := 0) X dX11_at_69 rfl ?_
          exact E.2.2 70 _ 0 () dX11_at_70 rfl hr
      · skip
        first | simp only [bI_0, Decidable.not_not, sg_mul, sg_e0, sg_l0, sg_g0, sg_le0, sg_ge0, cmp_eq, cmp_lt, cmp_ge, cmp_gt, cmp_le, lT0, lT1] at c_13 | simp only [Int32.le_iff_toInt_le, Int32.lt_iff_toInt_lt, ← Int32.toInt_inj, iT0, iT1, iT2, iT3, iT4, iT5, iT6, iT7, iT8, iT9, iT10, iT11, iT12, iT13, iT14, iT15, iT16, iT19, iT20, iT31, iT32, iT42, iT64, iT200, iT318, iT319, iT1000, iTm1, iTm2] at c_13 | skip
        refine j_iload_n X dX11_at_16 rfl 2 rfl ?_
        refine j_iconst (v := 2) X dX11_at_17 rfl ?_
        refine j_icmp_ge (tgt := 34) X dX11_at_18 (by decide) (fun c_18 => ?_) (fun c_18 => ?_)
        · skip
          first | simp only [bI_0, Decidable.not_not, sg_mul, sg_e0, sg_l0, sg_g0, sg_le0, sg_ge0, cmp_eq, cmp_lt, cmp_ge, cmp_gt, cmp_le, lT0, lT1] at c_18 | simp only [Int32.le_iff_toInt_le, Int32.lt_iff_toInt_lt, ← Int32.toInt_inj, iT0, iT1, iT2, iT3, iT4, iT5, iT6, iT7, iT8, iT9, iT10, iT11, iT12, iT13, iT14, iT15, iT16, iT19, iT20, iT31, iT32, iT42, iT64, iT200, iT318, iT319, iT1000, iTm1, iTm2] at c_18 | skip
          refine j_iconst (v := 0) X dX11_at_34 rfl ?_
          refine j_istore (L' := [(4, .int 0), (0, .ref (q 0)), (1, .int x1), (2, .int ax), (3, .int how)]) X dX11_at_35 (by decide) rfl ?_
          refine j_aload_n X dX11_at_37 rfl 1 rfl ?_
          refine j_aload_n X dX11_at_38 rfl 1 rfl ?_
          refine j_get (v := .int cr) X dX11_at_39 0 rfl 14 rfl in_X11_at_X11 (by decide) fl_X11_at_196 rfl ?_
          refine j_if_ne (tgt := 49) X dX11_at_42 (by decide) (fun c_42 => ?_) (fun c_42 => ?_)
          · skip
            exact absurd hC c_42
          · skip
            refine j_iconst (v := 1) X dX11_at_45 rfl ?_
            refine j_goto (tgt := 59) X dX11_at_46 (by decide) ?_
            refine j_put (ws' := [(q 0, .inr (10, mF 1 n q co cr po tx ty))]) X dX11_at_59 0 rfl 0 rfl in_X11_at_X11 tyX11 tyX11_ok nmX11 (by decide) fl_X11_at_48 rfl rfl rfl rfl (Nat.le_of_ble_eq_true rfl) rfl ?_
            refine j_aload_n X dX11_at_62 rfl 1 rfl ?_
            refine j_get (v := .int 1) X dX11_at_63 0 rfl 0 rfl in_X11_at_X11 (by decide) fl_X11_at_48 rfl ?_
            refine j_if_eq (tgt := 71) X dX11_at_66 (by decide) (fun c9 => absurd c9 (by decide)) (fun _ => ?_)
            refine j_lconst (v := 0) X dX11_at_69 rfl ?_
            exact E.2.2 70 _ 0 () dX11_at_70 rfl hr
        · skip
          first | simp only [bI_0, Decidable.not_not, sg_mul, sg_e0, sg_l0, sg_g0, sg_le0, sg_ge0, cmp_eq, cmp_lt, cmp_ge, cmp_gt, cmp_le, lT0, lT1] at c_18 | simp only [Int32.le_iff_toInt_le, Int32.lt_iff_toInt_lt, ← Int32.toInt_inj, iT0, iT1, iT2, iT3, iT4, iT5, iT6, iT7, iT8, iT9, iT10, iT11, iT12, iT13, iT14, iT15, iT16, iT19, iT20, iT31, iT32, iT42, iT64, iT200, iT318, iT319, iT1000, iTm1, iTm2] at c_18 | skip
          refine j_iload_n X dX11_at_21 rfl 3 rfl ?_
          refine j_if_lt (tgt := 34) X dX11_at_22 (by decide) (fun c_22 => ?_) (fun c_22 => ?_)
          · skip
            first | simp only [bI_0, Decidable.not_not, sg_mul, sg_e0, sg_l0, sg_g0, sg_le0, sg_ge0, cmp_eq, cmp_lt, cmp_ge, cmp_gt, cmp_le, lT0, lT1] at c_22 | simp only [Int32.le_iff_toInt_le, Int32.lt_iff_toInt_lt, ← Int32.toInt_inj, iT0, iT1, iT2, iT3, iT4, iT5, iT6, iT7, iT8, iT9, iT10, iT11, iT12, iT13, iT14, iT15, iT16, iT19, iT20, iT31, iT32, iT42, iT64, iT200, iT318, iT319, iT1000, iTm1, iTm2] at c_22 | skip
            refine j_iconst (v := 0) X dX11_at_34 rfl ?_
            refine j_istore (L' := [(4, .int 0), (0, .ref (q 0)), (1, .int x1), (2, .int ax), (3, .int how)]) X dX11_at_35 (by decide) rfl ?_
            refine j_aload_n X dX11_at_37 rfl 1 rfl ?_
            refine j_aload_n X dX11_at_38 rfl 1 rfl ?_
            refine j_get (v := .int cr) X dX11_at_39 0 rfl 14 rfl in_X11_at_X11 (by decide) fl_X11_at_196 rfl ?_
            refine j_if_ne (tgt := 49) X dX11_at_42 (by decide) (fun c_42 => ?_) (fun c_42 => ?_)
            · skip
              exact absurd hC c_42
            · skip
              refine j_iconst (v := 1) X dX11_at_45 rfl ?_
              refine j_goto (tgt := 59) X dX11_at_46 (by decide) ?_
              refine j_put (ws' := [(q 0, .inr (10, mF 1 n q co cr po tx ty))]) X dX11_at_59 0 rfl 0 rfl in_X11_at_X11 tyX11 tyX11_ok nmX11 (by decide) fl_X11_at_48 rfl rfl rfl rfl (Nat.le_of_ble_eq_true rfl) rfl ?_
              refine j_aload_n X dX11_at_62 rfl 1 rfl ?_
              refine j_get (v := .int 1) X dX11_at_63 0 rfl 0 rfl in_X11_at_X11 (by decide) fl_X11_at_48 rfl ?_
              refine j_if_eq (tgt := 71) X dX11_at_66 (by decide) (fun c9 => absurd c9 (by decide)) (fun _ => ?_)
              refine j_lconst (v := 0) X dX11_at_69 rfl ?_
              exact E.2.2 70 _ 0 () dX11_at_70 rfl hr
          · skip
            first | simp only [bI_0, Decidable.not_not, sg_mul, sg_e0, sg_l0, sg_g0, sg_le0, sg_ge0, cmp_eq, cmp_lt, cmp_ge, cmp_gt, cmp_le, lT0, lT1] at c_22 | simp only [Int32.le_iff_toInt_le, Int32.lt_iff_toInt_lt, ← Int32.toInt_inj, iT0, iT1, iT2, iT3, iT4, iT5, iT6, iT7, iT8, iT9, iT10, iT11, iT12, iT13, iT14, iT15, iT16, iT19, iT20, iT31, iT32, iT42, iT64, iT200, iT318, iT319, iT1000, iTm1, iTm2] at c_22 | skip
            refine j_iload_n X dX11_at_25 rfl 3 rfl ?_
            refine j_iconst (v := 3) X dX11_at_26 rfl ?_
            refine j_icmp_ge (tgt := 34) X dX11_at_27 (by decide) (fun c_27 => ?_) (fun c_27 => ?_)
            · skip
              first | simp only [bI_0, Decidable.not_not, sg_mul, sg_e0, sg_l0, sg_g0, sg_le0, sg_ge0, cmp_eq, cmp_lt, cmp_ge, cmp_gt, cmp_le, lT0, lT1] at c_27 | simp only [Int32.le_iff_toInt_le, Int32.lt_iff_toInt_lt, ← Int32.toInt_inj, iT0, iT1, iT2, iT3, iT4, iT5, iT6, iT7, iT8, iT9, iT10, iT11, iT12, iT13, iT14, iT15, iT16, iT19, iT20, iT31, iT32, iT42, iT64, iT200, iT318, iT319, iT1000, iTm1, iTm2] at c_27 | skip
              refine j_iconst (v := 0) X dX11_at_34 rfl ?_
              refine j_istore (L' := [(4, .int 0), (0, .ref (q 0)), (1, .int x1), (2, .int ax), (3, .int how)]) X dX11_at_35 (by decide) rfl ?_
              refine j_aload_n X dX11_at_37 rfl 1 rfl ?_
              refine j_aload_n X dX11_at_38 rfl 1 rfl ?_
              refine j_get (v := .int cr) X dX11_at_39 0 rfl 14 rfl in_X11_at_X11 (by decide) fl_X11_at_196 rfl ?_
              refine j_if_ne (tgt := 49) X dX11_at_42 (by decide) (fun c_42 => ?_) (fun c_42 => ?_)
              · skip
                exact absurd hC c_42
              · skip
                refine j_iconst (v := 1) X dX11_at_45 rfl ?_
                refine j_goto (tgt := 59) X dX11_at_46 (by decide) ?_
                refine j_put (ws' := [(q 0, .inr (10, mF 1 n q co cr po tx ty))]) X dX11_at_59 0 rfl 0 rfl in_X11_at_X11 tyX11 tyX11_ok nmX11 (by decide) fl_X11_at_48 rfl rfl rfl rfl (Nat.le_of_ble_eq_true rfl) rfl ?_
                refine j_aload_n X dX11_at_62 rfl 1 rfl ?_
                refine j_get (v := .int 1) X dX11_at_63 0 rfl 0 rfl in_X11_at_X11 (by decide) fl_X11_at_48 rfl ?_
                refine j_if_eq (tgt := 71) X dX11_at_66 (by decide) (fun c9 => absurd c9 (by decide)) (fun _ => ?_)
                refine j_lconst (v := 0) X dX11_at_69 rfl ?_
                exact E.2.2 70 _ 0 () dX11_at_70 rfl hr
            · skip
              first | simp only [bI_0, Decidable.not_not, sg_mul, sg_e0, sg_l0, sg_g0, sg_le0, sg_ge0, cmp_eq, cmp_lt, cmp_ge, cmp_gt, cmp_le, lT0, lT1] at c_27 | simp only [Int32.le_iff_toInt_le, Int32.lt_iff_toInt_lt, ← Int32.toInt_inj, iT0, iT1, iT2, iT3, iT4, iT5, iT6, iT7, iT8, iT9, iT10, iT11, iT12, iT13, iT14, iT15, iT16, iT19, iT20, iT31, iT32, iT42, iT64, iT200, iT318, iT319, iT1000, iTm1, iTm2] at c_27 | skip
              refine j_iconst (v := 1) X dX11_at_30 rfl ?_
              refine j_goto (tgt := 35) X dX11_at_31 (by decide) ?_
              refine j_istore (L' := [(4, .int 1), (0, .ref (q 0)), (1, .int x1), (2, .int ax), (3, .int how)]) X dX11_at_35 (by decide) rfl ?_
              refine j_aload_n X dX11_at_37 rfl 1 rfl ?_
              refine j_aload_n X dX11_at_38 rfl 1 rfl ?_
              refine j_get (v := .int cr) X dX11_at_39 0 rfl 14 rfl in_X11_at_X11 (by decide) fl_X11_at_196 rfl ?_
              refine j_if_ne (tgt := 49) X dX11_at_42 (by decide) (fun c_42 => ?_) (fun c_42 => ?_)
              · skip
                exact absurd hC c_42
              · skip
                refine j_iconst (v := 1) X dX11_at_45 rfl ?_
                refine j_goto (tgt := 59) X dX11_at_46 (by decide) ?_
                refine j_put (ws' := [(q 0, .inr (10, mF 1 n q co cr po tx ty))]) X dX11_at_59 0 rfl 0 rfl in_X11_at_X11 tyX11 tyX11_ok nmX11 (by decide) fl_X11_at_48 rfl rfl rfl rfl (Nat.le_of_ble_eq_true rfl) rfl ?_
                refine j_aload_n X dX11_at_62 rfl 1 rfl ?_
                refine j_get (v := .int 1) X dX11_at_63 0 rfl 0 rfl in_X11_at_X11 (by decide) fl_X11_at_48 rfl ?_
                refine j_if_eq (tgt := 71) X dX11_at_66 (by decide) (fun c9 => absurd c9 (by decide)) (fun _ => ?_)
                refine j_lconst (v := 0) X dX11_at_69 rfl ?_
                exact E.2.2 70 _ 0 () dX11_at_70 rfl hr

theorem hy_X11_at_V : yX11_at.cls = RX11 ∧ yX11_at.cls ≠ "java/lang/invoke/MethodHandle" ∧ yX11_at.cls ≠ "java/lang/invoke/VarHandle" ∧ (parseMethodDescriptor yX11_at.desc).map (fun d => d.parameters.length) = some 3 := by decide +kernel
set_option maxHeartbeats 4000000 in
set_option maxRecDepth 100000 in
theorem c_X11_at_2 (l : Launch) (G : jG) (q : Nat → Nat) (t n co cr po : Int32) (tx ty : Int64) (x1 ax how : Int32) (hC : ¬ cr = 0) (hP : ¬ ((0 ≤ x1.toInt ∧ x1.toInt < po.toInt) ∧ (0 ≤ ax.toInt ∧ ax.toInt < 2) ∧ (0 ≤ how.toInt ∧ how.toInt < 3))) : Ct l yX11_at wsX11_at rm_X11_at G [.ref (q 0), .int x1, .int ax, .int how] [(q 0, .inr (10, mF t n q co cr po tx ty))] (S := Unit) (fun r _ => r = some (.long 0)) (fun _ => [(q 0, .inr (10, mF 2 n q co cr po tx ty))]) (fun _ => []) := by
  refine c_intro (cc := cX11_at) (maxL := 8) (ret := (some .long)) (by decide) rfl (Nat.le_of_ble_eq_true rfl) (fun _ => by simp only [List.map_cons, List.map_nil]) ?_
  intro p e s m args below meth c Q A X hr hin E
  change J p l e rm_X11_at s m args below meth c Q G A 8 0 0 0 [(0, .ref (q 0)), (1, .int x1), (2, .int ax), (3, .int how)] [] [(q 0, .inr (10, mF t n q co cr po tx ty))]
  refine j_iload_n X dX11_at_0 rfl 1 rfl ?_
  refine j_if_lt (tgt := 34) X dX11_at_1 (by decide) (fun c_1 => ?_) (fun c_1 => ?_)
  · skip
    first | simp only [bI_0, Decidable.not_not, sg_mul, sg_e0, sg_l0, sg_g0, sg_le0, sg_ge0, cmp_eq, cmp_lt, cmp_ge, cmp_gt, cmp_le, lT0, lT1] at c_1 | simp only [Int32.le_iff_toInt_le, Int32.lt_iff_toInt_lt, ← Int32.toInt_inj, iT0, iT1, iT2, iT3, iT4, iT5, iT6, iT7, iT8, iT9, iT10, iT11, iT12, iT13, iT14, iT15, iT16, iT19, iT20, iT31, iT32, iT42, iT64, iT200, iT318, iT319, iT1000, iTm1, iTm2] at c_1 | skip
    refine j_iconst (v := 0) X dX11_at_34 rfl ?_
    refine j_istore (L' := [(4, .int 0), (0, .ref (q 0)), (1, .int x1), (2, .int ax), (3, .int how)]) X dX11_at_35 (by decide) rfl ?_
    refine j_aload_n X dX11_at_37 rfl 1 rfl ?_
    refine j_aload_n X dX11_at_38 rfl 1 rfl ?_
    refine j_get (v := .int cr) X dX11_at_39 0 rfl 14 rfl in_X11_at_X11 (by decide) fl_X11_at_196 rfl ?_
    refine j_if_ne (tgt := 49) X dX11_at_42 (by decide) (fun c_42 => ?_) (fun c_42 => ?_)
    · skip
      refine j_iload X dX11_at_49 0 rfl ?_
      refine j_if_ne (tgt := 58) X dX11_at_51 (by decide) (fun c9 => absurd c9 (by decide)) (fun _ => ?_)
      refine j_iconst (v := 2) X dX11_at_54 rfl ?_
      refine j_goto (tgt := 59) X dX11_at_55 (by decide) ?_
      refine j_put (ws' := [(q 0, .inr (10, mF 2 n q co cr po tx ty))]) X dX11_at_59 0 rfl 0 rfl in_X11_at_X11 tyX11 tyX11_ok nmX11 (by decide) fl_X11_at_48 rfl rfl rfl rfl (Nat.le_of_ble_eq_true rfl) rfl ?_
      refine j_aload_n X dX11_at_62 rfl 1 rfl ?_
      refine j_get (v := .int 2) X dX11_at_63 0 rfl 0 rfl in_X11_at_X11 (by decide) fl_X11_at_48 rfl ?_
      refine j_if_eq (tgt := 71) X dX11_at_66 (by decide) (fun c9 => absurd c9 (by decide)) (fun _ => ?_)
      refine j_lconst (v := 0) X dX11_at_69 rfl ?_
      exact E.2.2 70 _ 0 () dX11_at_70 rfl hr
    · skip
      exact absurd c_42 hC
  · skip
    first | simp only [bI_0, Decidable.not_not, sg_mul, sg_e0, sg_l0, sg_g0, sg_le0, sg_ge0, cmp_eq, cmp_lt, cmp_ge, cmp_gt, cmp_le, lT0, lT1] at c_1 | simp only [Int32.le_iff_toInt_le, Int32.lt_iff_toInt_lt, ← Int32.toInt_inj, iT0, iT1, iT2, iT3, iT4, iT5, iT6, iT7, iT8, iT9, iT10, iT11, iT12, iT13, iT14, iT15, iT16, iT19, iT20, iT31, iT32, iT42, iT64, iT200, iT318, iT319, iT1000, iTm1, iTm2] at c_1 | skip
    refine j_iload_n X dX11_at_4 rfl 1 rfl ?_
    refine j_aload_n X dX11_at_5 rfl 0 rfl ?_
    refine j_get (v := .int po) X dX11_at_6 0 rfl 15 rfl in_X11_at_X11 (by decide) fl_X11_at_173 rfl ?_
    refine j_icmp_ge (tgt := 34) X dX11_at_9 (by decide) (fun c_9 => ?_) (fun c_9 => ?_)
    · skip
      first | simp only [bI_0, Decidable.not_not, sg_mul, sg_e0, sg_l0, sg_g0, sg_le0, sg_ge0, cmp_eq, cmp_lt, cmp_ge, cmp_gt, cmp_le, lT0, lT1] at c_9 | simp only [Int32.le_iff_toInt_le, Int32.lt_iff_toInt_lt, ← Int32.toInt_inj, iT0, iT1, iT2, iT3, iT4, iT5, iT6, iT7, iT8, iT9, iT10, iT11, iT12, iT13, iT14, iT15, iT16, iT19, iT20, iT31, iT32, iT42, iT64, iT200, iT318, iT319, iT1000, iTm1, iTm2] at c_9 | skip
      refine j_iconst (v := 0) X dX11_at_34 rfl ?_
      refine j_istore (L' := [(4, .int 0), (0, .ref (q 0)), (1, .int x1), (2, .int ax), (3, .int how)]) X dX11_at_35 (by decide) rfl ?_
      refine j_aload_n X dX11_at_37 rfl 1 rfl ?_
      refine j_aload_n X dX11_at_38 rfl 1 rfl ?_
      refine j_get (v := .int cr) X dX11_at_39 0 rfl 14 rfl in_X11_at_X11 (by decide) fl_X11_at_196 rfl ?_
      refine j_if_ne (tgt := 49) X dX11_at_42 (by decide) (fun c_42 => ?_) (fun c_42 => ?_)
      · skip
        refine j_iload X dX11_at_49 0 rfl ?_
        refine j_if_ne (tgt := 58) X dX11_at_51 (by decide) (fun c9 => absurd c9 (by decide)) (fun _ => ?_)
        refine j_iconst (v := 2) X dX11_at_54 rfl ?_
        refine j_goto (tgt := 59) X dX11_at_55 (by decide) ?_
        refine j_put (ws' := [(q 0, .inr (10, mF 2 n q co cr po tx ty))]) X dX11_at_59 0 rfl 0 rfl in_X11_at_X11 tyX11 tyX11_ok nmX11 (by decide) fl_X11_at_48 rfl rfl rfl rfl (Nat.le_of_ble_eq_true rfl) rfl ?_
        refine j_aload_n X dX11_at_62 rfl 1 rfl ?_
        refine j_get (v := .int 2) X dX11_at_63 0 rfl 0 rfl in_X11_at_X11 (by decide) fl_X11_at_48 rfl ?_
        refine j_if_eq (tgt := 71) X dX11_at_66 (by decide) (fun c9 => absurd c9 (by decide)) (fun _ => ?_)
        refine j_lconst (v := 0) X dX11_at_69 rfl ?_
        exact E.2.2 70 _ 0 () dX11_at_70 rfl hr
      · skip
        exact absurd c_42 hC
    · skip
      first | simp only [bI_0, Decidable.not_not, sg_mul, sg_e0, sg_l0, sg_g0, sg_le0, sg_ge0, cmp_eq, cmp_lt, cmp_ge, cmp_gt, cmp_le, lT0, lT1] at c_9 | simp only [Int32.le_iff_toInt_le, Int32.lt_iff_toInt_lt, ← Int32.toInt_inj, iT0, iT1, iT2, iT3, iT4, iT5, iT6, iT7, iT8, iT9, iT10, iT11, iT12, iT13, iT14, iT15, iT16, iT19, iT20, iT31, iT32, iT42, iT64, iT200, iT318, iT319, iT1000, iTm1, iTm2] at c_9 | skip
      refine j_iload_n X dX11_at_12 rfl 2 rfl ?_
      refine j_if_lt (tgt := 34) X dX11_at_13 (by decide) (fun c_13 => ?_) (fun c_13 => ?_)
      · skip
        first | simp only [bI_0, Decidable.not_not, sg_mul, sg_e0, sg_l0, sg_g0, sg_le0, sg_ge0, cmp_eq, cmp_lt, cmp_ge, cmp_gt, cmp_le, lT0, lT1] at c_13 | simp only [Int32.le_iff_toInt_le, Int32.lt_iff_toInt_lt, ← Int32.toInt_inj, iT0, iT1, iT2, iT3, iT4, iT5, iT6, iT7, iT8, iT9, iT10, iT11, iT12, iT13, iT14, iT15, iT16, iT19, iT20, iT31, iT32, iT42, iT64, iT200, iT318, iT319, iT1000, iTm1, iTm2] at c_13 | skip
        refine j_iconst (v := 0) X dX11_at_34 rfl ?_
        refine j_istore (L' := [(4, .int 0), (0, .ref (q 0)), (1, .int x1), (2, .int ax), (3, .int how)]) X dX11_at_35 (by decide) rfl ?_
        refine j_aload_n X dX11_at_37 rfl 1 rfl ?_
        refine j_aload_n X dX11_at_38 rfl 1 rfl ?_
        refine j_get (v := .int cr) X dX11_at_39 0 rfl 14 rfl in_X11_at_X11 (by decide) fl_X11_at_196 rfl ?_
        refine j_if_ne (tgt := 49) X dX11_at_42 (by decide) (fun c_42 => ?_) (fun c_42 => ?_)
        · skip
          refine j_iload X dX11_at_49 0 rfl ?_
          refine j_if_ne (tgt := 58) X dX11_at_51 (by decide) (fun c9 => absurd c9 (by decide)) (fun _ => ?_)
          refine j_iconst (v := 2) X dX11_at_54 rfl ?_
          refine j_goto (tgt := 59) X dX11_at_55 (by decide) ?_
          refine j_put (ws' := [(q 0, .inr (10, mF 2 n q co cr po tx ty))]) X dX11_at_59 0 rfl 0 rfl in_X11_at_X11 tyX11 tyX11_ok nmX11 (by decide) fl_X11_at_48 rfl rfl rfl rfl (Nat.le_of_ble_eq_true rfl) rfl ?_
          refine j_aload_n X dX11_at_62 rfl 1 rfl ?_
          refine j_get (v := .int 2) X dX11_at_63 0 rfl 0 rfl in_X11_at_X11 (by decide) fl_X11_at_48 rfl ?_
          refine j_if_eq (tgt := 71) X dX11_at_66 (by decide) (fun c9 => absurd c9 (by decide)) (fun _ => ?_)
          refine j_lconst (v := 0) X dX11_at_69 rfl ?_
          exact E.2.2 70 _ 0 () dX11_at_70 rfl hr
        · skip
          exact absurd c_42 hC
      · skip
        first | simp only [bI_0, Decidable.not_not, sg_mul, sg_e0, sg_l0, sg_g0, sg_le0, sg_ge0, cmp_eq, cmp_lt, cmp_ge, cmp_gt, cmp_le, lT0, lT1] at c_13 | simp only [Int32.le_iff_toInt_le, Int32.lt_iff_toInt_lt, ← Int32.toInt_inj, iT0, iT1, iT2, iT3, iT4, iT5, iT6, iT7, iT8, iT9, iT10, iT11, iT12, iT13, iT14, iT15, iT16, iT19, iT20, iT31, iT32, iT42, iT64, iT200, iT318, iT319, iT1000, iTm1, iTm2] at c_13 | skip
        refine j_iload_n X dX11_at_16 rfl 2 rfl ?_
        refine j_iconst (v := 2) X dX11_at_17 rfl ?_
        refine j_icmp_ge (tgt := 34) X dX11_at_18 (by decide) (fun c_18 => ?_) (fun c_18 => ?_)
        · skip
          first | simp only [bI_0, Decidable.not_not, sg_mul, sg_e0, sg_l0, sg_g0, sg_le0, sg_ge0, cmp_eq, cmp_lt, cmp_ge, cmp_gt, cmp_le, lT0, lT1] at c_18 | simp only [Int32.le_iff_toInt_le, Int32.lt_iff_toInt_lt, ← Int32.toInt_inj, iT0, iT1, iT2, iT3, iT4, iT5, iT6, iT7, iT8, iT9, iT10, iT11, iT12, iT13, iT14, iT15, iT16, iT19, iT20, iT31, iT32, iT42, iT64, iT200, iT318, iT319, iT1000, iTm1, iTm2] at c_18 | skip
          refine j_iconst (v := 0) X dX11_at_34 rfl ?_
          refine j_istore (L' := [(4, .int 0), (0, .ref (q 0)), (1, .int x1), (2, .int ax), (3, .int how)]) X dX11_at_35 (by decide) rfl ?_
          refine j_aload_n X dX11_at_37 rfl 1 rfl ?_
          refine j_aload_n X dX11_at_38 rfl 1 rfl ?_
          refine j_get (v := .int cr) X dX11_at_39 0 rfl 14 rfl in_X11_at_X11 (by decide) fl_X11_at_196 rfl ?_
          refine j_if_ne (tgt := 49) X dX11_at_42 (by decide) (fun c_42 => ?_) (fun c_42 => ?_)
          · skip
            refine j_iload X dX11_at_49 0 rfl ?_
            refine j_if_ne (tgt := 58) X dX11_at_51 (by decide) (fun c9 => absurd c9 (by decide)) (fun _ => ?_)
            refine j_iconst (v := 2) X dX11_at_54 rfl ?_
            refine j_goto (tgt := 59) X dX11_at_55 (by decide) ?_
            refine j_put (ws' := [(q 0, .inr (10, mF 2 n q co cr po tx ty))]) X dX11_at_59 0 rfl 0 rfl in_X11_at_X11 tyX11 tyX11_ok nmX11 (by decide) fl_X11_at_48 rfl rfl rfl rfl (Nat.le_of_ble_eq_true rfl) rfl ?_
            refine j_aload_n X dX11_at_62 rfl 1 rfl ?_
            refine j_get (v := .int 2) X dX11_at_63 0 rfl 0 rfl in_X11_at_X11 (by decide) fl_X11_at_48 rfl ?_
            refine j_if_eq (tgt := 71) X dX11_at_66 (by decide) (fun c9 => absurd c9 (by decide)) (fun _ => ?_)
            refine j_lconst (v := 0) X dX11_at_69 rfl ?_
            exact E.2.2 70 _ 0 () dX11_at_70 rfl hr
          · skip
            exact absurd c_42 hC
        · skip
          first | simp only [bI_0, Decidable.not_not, sg_mul, sg_e0, sg_l0, sg_g0, sg_le0, sg_ge0, cmp_eq, cmp_lt, cmp_ge, cmp_gt, cmp_le, lT0, lT1] at c_18 | simp only [Int32.le_iff_toInt_le, Int32.lt_iff_toInt_lt, ← Int32.toInt_inj, iT0, iT1, iT2, iT3, iT4, iT5, iT6, iT7, iT8, iT9, iT10, iT11, iT12, iT13, iT14, iT15, iT16, iT19, iT20, iT31, iT32, iT42, iT64, iT200, iT318, iT319, iT1000, iTm1, iTm2] at c_18 | skip
          refine j_iload_n X dX11_at_21 rfl 3 rfl ?_
          refine j_if_lt (tgt := 34) X dX11_at_22 (by decide) (fun c_22 => ?_) (fun c_22 => ?_)
          · skip
            first | simp only [bI_0, Decidable.not_not, sg_mul, sg_e0, sg_l0, sg_g0, sg_le0, sg_ge0, cmp_eq, cmp_lt, cmp_ge, cmp_gt, cmp_le, lT0, lT1] at c_22 | simp only [Int32.le_iff_toInt_le, Int32.lt_iff_toInt_lt, ← Int32.toInt_inj, iT0, iT1, iT2, iT3, iT4, iT5, iT6, iT7, iT8, iT9, iT10, iT11, iT12, iT13, iT14, iT15, iT16, iT19, iT20, iT31, iT32, iT42, iT64, iT200, iT318, iT319, iT1000, iTm1, iTm2] at c_22 | skip
            refine j_iconst (v := 0) X dX11_at_34 rfl ?_
            refine j_istore (L' := [(4, .int 0), (0, .ref (q 0)), (1, .int x1), (2, .int ax), (3, .int how)]) X dX11_at_35 (by decide) rfl ?_
            refine j_aload_n X dX11_at_37 rfl 1 rfl ?_
            refine j_aload_n X dX11_at_38 rfl 1 rfl ?_
            refine j_get (v := .int cr) X dX11_at_39 0 rfl 14 rfl in_X11_at_X11 (by decide) fl_X11_at_196 rfl ?_
            refine j_if_ne (tgt := 49) X dX11_at_42 (by decide) (fun c_42 => ?_) (fun c_42 => ?_)
            · skip
              refine j_iload X dX11_at_49 0 rfl ?_
              refine j_if_ne (tgt := 58) X dX11_at_51 (by decide) (fun c9 => absurd c9 (by decide)) (fun _ => ?_)
              refine j_iconst (v := 2) X dX11_at_54 rfl ?_
              refine j_goto (tgt := 59) X dX11_at_55 (by decide) ?_
              refine j_put (ws' := [(q 0, .inr (10, mF 2 n q co cr po tx ty))]) X dX11_at_59 0 rfl 0 rfl in_X11_at_X11 tyX11 tyX11_ok nmX11 (by decide) fl_X11_at_48 rfl rfl rfl rfl (Nat.le_of_ble_eq_true rfl) rfl ?_
              refine j_aload_n X dX11_at_62 rfl 1 rfl ?_
              refine j_get (v := .int 2) X dX11_at_63 0 rfl 0 rfl in_X11_at_X11 (by decide) fl_X11_at_48 rfl ?_
              refine j_if_eq (tgt := 71) X dX11_at_66 (by decide) (fun c9 => absurd c9 (by decide)) (fun _ => ?_)
              refine j_lconst (v := 0) X dX11_at_69 rfl ?_
              exact E.2.2 70 _ 0 () dX11_at_70 rfl hr
            · skip
              exact absurd c_42 hC
          · skip
            first | simp only [bI_0, Decidable.not_not, sg_mul, sg_e0, sg_l0, sg_g0, sg_le0, sg_ge0, cmp_eq, cmp_lt, cmp_ge, cmp_gt, cmp_le, lT0, lT1] at c_22 | simp only [Int32.le_iff_toInt_le, Int32.lt_iff_toInt_lt, ← Int32.toInt_inj, iT0, iT1, iT2, iT3, iT4, iT5, iT6, iT7, iT8, iT9, iT10, iT11, iT12, iT13, iT14, iT15, iT16, iT19, iT20, iT31, iT32, iT42, iT64, iT200, iT318, iT319, iT1000, iTm1, iTm2] at c_22 | skip
            refine j_iload_n X dX11_at_25 rfl 3 rfl ?_
            refine j_iconst (v := 3) X dX11_at_26 rfl ?_
            refine j_icmp_ge (tgt := 34) X dX11_at_27 (by decide) (fun c_27 => ?_) (fun c_27 => ?_)
            · skip
              first | simp only [bI_0, Decidable.not_not, sg_mul, sg_e0, sg_l0, sg_g0, sg_le0, sg_ge0, cmp_eq, cmp_lt, cmp_ge, cmp_gt, cmp_le, lT0, lT1] at c_27 | simp only [Int32.le_iff_toInt_le, Int32.lt_iff_toInt_lt, ← Int32.toInt_inj, iT0, iT1, iT2, iT3, iT4, iT5, iT6, iT7, iT8, iT9, iT10, iT11, iT12, iT13, iT14, iT15, iT16, iT19, iT20, iT31, iT32, iT42, iT64, iT200, iT318, iT319, iT1000, iTm1, iTm2] at c_27 | skip
              refine j_iconst (v := 0) X dX11_at_34 rfl ?_
              refine j_istore (L' := [(4, .int 0), (0, .ref (q 0)), (1, .int x1), (2, .int ax), (3, .int how)]) X dX11_at_35 (by decide) rfl ?_
              refine j_aload_n X dX11_at_37 rfl 1 rfl ?_
              refine j_aload_n X dX11_at_38 rfl 1 rfl ?_
              refine j_get (v := .int cr) X dX11_at_39 0 rfl 14 rfl in_X11_at_X11 (by decide) fl_X11_at_196 rfl ?_
              refine j_if_ne (tgt := 49) X dX11_at_42 (by decide) (fun c_42 => ?_) (fun c_42 => ?_)
              · skip
                refine j_iload X dX11_at_49 0 rfl ?_
                refine j_if_ne (tgt := 58) X dX11_at_51 (by decide) (fun c9 => absurd c9 (by decide)) (fun _ => ?_)
                refine j_iconst (v := 2) X dX11_at_54 rfl ?_
                refine j_goto (tgt := 59) X dX11_at_55 (by decide) ?_
                refine j_put (ws' := [(q 0, .inr (10, mF 2 n q co cr po tx ty))]) X dX11_at_59 0 rfl 0 rfl in_X11_at_X11 tyX11 tyX11_ok nmX11 (by decide) fl_X11_at_48 rfl rfl rfl rfl (Nat.le_of_ble_eq_true rfl) rfl ?_
                refine j_aload_n X dX11_at_62 rfl 1 rfl ?_
                refine j_get (v := .int 2) X dX11_at_63 0 rfl 0 rfl in_X11_at_X11 (by decide) fl_X11_at_48 rfl ?_
                refine j_if_eq (tgt := 71) X dX11_at_66 (by decide) (fun c9 => absurd c9 (by decide)) (fun _ => ?_)
                refine j_lconst (v := 0) X dX11_at_69 rfl ?_
                exact E.2.2 70 _ 0 () dX11_at_70 rfl hr
              · skip
                exact absurd c_42 hC
            · skip
              first | simp only [bI_0, Decidable.not_not, sg_mul, sg_e0, sg_l0, sg_g0, sg_le0, sg_ge0, cmp_eq, cmp_lt, cmp_ge, cmp_gt, cmp_le, lT0, lT1] at c_27 | simp only [Int32.le_iff_toInt_le, Int32.lt_iff_toInt_lt, ← Int32.toInt_inj, iT0, iT1, iT2, iT3, iT4, iT5, iT6, iT7, iT8, iT9, iT10, iT11, iT12, iT13, iT14, iT15, iT16, iT19, iT20, iT31, iT32, iT42, iT64, iT200, iT318, iT319, iT1000, iTm1, iTm2] at c_27 | skip
              exfalso; omega

theorem fl_X11_at_163 : Cond.fieldLink RX11 163 (TX11 18).1 (TX11 18).2.1 (TX11 18).2.2.1 ∈ wsX11_at := by decide +kernel
theorem fl_X11_at_42 : Cond.fieldLink RX11 42 (TX11 13).1 (TX11 13).2.1 (TX11 13).2.2.1 ∈ wsX11_at := by decide +kernel
theorem fl_X11_at_45 : Cond.fieldLink RX11 45 (TX11 16).1 (TX11 16).2.1 (TX11 16).2.2.1 ∈ wsX11_at := by decide +kernel
theorem fl_X11_at_159 : Cond.fieldLink RX11 159 (TX11 17).1 (TX11 17).2.1 (TX11 17).2.2.1 ∈ wsX11_at := by decide +kernel
set_option maxHeartbeats 4000000 in
set_option maxRecDepth 100000 in
theorem c_X11_at_0 (l : Launch) (G : jG) (q : Nat → Nat) (t n co cr po : Int32) (tx ty : Int64) (z0 z1 z2 z3 z4 z5 z6 z7 z8 z9 z10 z11 z12 z13 z14 z15 : Int) (sf : Nat → Int32) (hS : okS [z0, z1, z2, z3, z4, z5, z6, z7, z8, z9, z10, z11, z12, z13, z14, z15] sf) (sig : Nat → Int32) (x1 ax how : Int32) (kk : Nat) (hx1 : x1 = nI kk) (gkk : kk < 2) (hC : ¬ cr = 0) (hP : (0 ≤ x1.toInt ∧ x1.toInt < po.toInt) ∧ (0 ≤ ax.toInt ∧ ax.toInt < 2) ∧ (0 ≤ how.toInt ∧ how.toInt < 3)) (b0 : bd 127 z0) (b1 : bd 127 z1) (b2 : bd 172 z2) (hR : 0 ≤ z2) (b3 : bd 84 z3) (h3 : 0 < z3) (btx : bd 41 tx.toInt) (bty : bd 41 ty.toInt) (hsgtx : sig kk = 1 ∨ sig kk = -1 ∨ (sig kk = 0 ∧ tx.toInt = 0)) (hsgty : sig kk = 1 ∨ sig kk = -1 ∨ (sig kk = 0 ∧ ty.toInt = 0)) (hV : ∀ E, rtR (atN how.toInt (if ax.toInt = 0 then tx.toInt else ty.toInt) z2) E → (atV how.toInt (if ax.toInt = 0 then z0 else z1) (if ax.toInt = 0 then tx.toInt else ty.toInt) z2 z3 E (sig kk).toInt).natAbs < 9223372036854775808) : Ct l yX11_at wsX11_at rm_X11_at G [.ref (q 0), .int x1, .int ax, .int how] [(q 0, .inr (10, mF t n q co cr po tx ty)), (q 10, aI G 320 (rg [z0, z1, z2, z3, z4, z5, z6, z7, z8, z9, z10, z11, z12, z13, z14, z15])), (q 11, aZ G 16 sf), (q 12, aI G 2 sig)] (S := Int64 × Int × List Int × (Nat → Int32)) (fun r u => r = some (.long u.1) ∧ rtR (atN how.toInt (if ax.toInt = 0 then tx.toInt else ty.toInt) z2) u.2.1 ∧ u.1.toInt = atV how.toInt (if ax.toInt = 0 then z0 else z1) (if ax.toInt = 0 then tx.toInt else ty.toInt) z2 z3 u.2.1 (sig kk).toInt ∧ kp [z0, z1, z2, z3, z4, z5, z6, z7, z8, z9, z10, z11, z12, z13, z14, z15] u.2.2.1 ∧ okS u.2.2.1 u.2.2.2) (fun u => [(q 0, .inr (10, mF 0 n q co cr po tx ty)), (q 10, aI G 320 (rg u.2.2.1)), (q 11, aZ G 16 u.2.2.2), (q 12, aI G 2 sig)]) (fun _ => []) := by
  refine c_intro (cc := cX11_at) (maxL := 8) (ret := (some .long)) (by decide) rfl (Nat.le_of_ble_eq_true rfl) (fun _ => by simp only [List.map_cons, List.map_nil]) ?_
  intro p e s m args below meth c Q A X hr hin E
  change J p l e rm_X11_at s m args below meth c Q G A 8 0 0 0 [(0, .ref (q 0)), (1, .int x1), (2, .int ax), (3, .int how)] [] [(q 0, .inr (10, mF t n q co cr po tx ty)), (q 10, aI G 320 (rg [z0, z1, z2, z3, z4, z5, z6, z7, z8, z9, z10, z11, z12, z13, z14, z15])), (q 11, aZ G 16 sf), (q 12, aI G 2 sig)]
  refine j_iload_n X dX11_at_0 rfl 1 rfl ?_
  refine j_if_lt (tgt := 34) X dX11_at_1 (by decide) (fun c_1 => ?_) (fun c_1 => ?_)
  · skip
    first | simp only [bI_0, Decidable.not_not, sg_mul, sg_e0, sg_l0, sg_g0, sg_le0, sg_ge0, cmp_eq, cmp_lt, cmp_ge, cmp_gt, cmp_le, lT0, lT1] at c_1 | simp only [Int32.le_iff_toInt_le, Int32.lt_iff_toInt_lt, ← Int32.toInt_inj, iT0, iT1, iT2, iT3, iT4, iT5, iT6, iT7, iT8, iT9, iT10, iT11, iT12, iT13, iT14, iT15, iT16, iT19, iT20, iT31, iT32, iT42, iT64, iT200, iT318, iT319, iT1000, iTm1, iTm2] at c_1 | skip
    exfalso; omega
  · skip
    first | simp only [bI_0, Decidable.not_not, sg_mul, sg_e0, sg_l0, sg_g0, sg_le0, sg_ge0, cmp_eq, cmp_lt, cmp_ge, cmp_gt, cmp_le, lT0, lT1] at c_1 | simp only [Int32.le_iff_toInt_le, Int32.lt_iff_toInt_lt, ← Int32.toInt_inj, iT0, iT1, iT2, iT3, iT4, iT5, iT6, iT7, iT8, iT9, iT10, iT11, iT12, iT13, iT14, iT15, iT16, iT19, iT20, iT31, iT32, iT42, iT64, iT200, iT318, iT319, iT1000, iTm1, iTm2] at c_1 | skip
    refine j_iload_n X dX11_at_4 rfl 1 rfl ?_
    refine j_aload_n X dX11_at_5 rfl 0 rfl ?_
    refine j_get (v := .int po) X dX11_at_6 0 rfl 15 rfl in_X11_at_X11 (by decide) fl_X11_at_173 rfl ?_
    refine j_icmp_ge (tgt := 34) X dX11_at_9 (by decide) (fun c_9 => ?_) (fun c_9 => ?_)
    · skip
      first | simp only [bI_0, Decidable.not_not, sg_mul, sg_e0, sg_l0, sg_g0, sg_le0, sg_ge0, cmp_eq, cmp_lt, cmp_ge, cmp_gt, cmp_le, lT0, lT1] at c_9 | simp only [Int32.le_iff_toInt_le, Int32.lt_iff_toInt_lt, ← Int32.toInt_inj, iT0, iT1, iT2, iT3, iT4, iT5, iT6, iT7, iT8, iT9, iT10, iT11, iT12, iT13, iT14, iT15, iT16, iT19, iT20, iT31, iT32, iT42, iT64, iT200, iT318, iT319, iT1000, iTm1, iTm2] at c_9 | skip
      exfalso; omega
    · skip
      first | simp only [bI_0, Decidable.not_not, sg_mul, sg_e0, sg_l0, sg_g0, sg_le0, sg_ge0, cmp_eq, cmp_lt, cmp_ge, cmp_gt, cmp_le, lT0, lT1] at c_9 | simp only [Int32.le_iff_toInt_le, Int32.lt_iff_toInt_lt, ← Int32.toInt_inj, iT0, iT1, iT2, iT3, iT4, iT5, iT6, iT7, iT8, iT9, iT10, iT11, iT12, iT13, iT14, iT15, iT16, iT19, iT20, iT31, iT32, iT42, iT64, iT200, iT318, iT319, iT1000, iTm1, iTm2] at c_9 | skip
      refine j_iload_n X dX11_at_12 rfl 2 rfl ?_
      refine j_if_lt (tgt := 34) X dX11_at_13 (by decide) (fun c_13 => ?_) (fun c_13 => ?_)
      · skip
        first | simp only [bI_0, Decidable.not_not, sg_mul, sg_e0, sg_l0, sg_g0, sg_le0, sg_ge0, cmp_eq, cmp_lt, cmp_ge, cmp_gt, cmp_le, lT0, lT1] at c_13 | simp only [Int32.le_iff_toInt_le, Int32.lt_iff_toInt_lt, ← Int32.toInt_inj, iT0, iT1, iT2, iT3, iT4, iT5, iT6, iT7, iT8, iT9, iT10, iT11, iT12, iT13, iT14, iT15, iT16, iT19, iT20, iT31, iT32, iT42, iT64, iT200, iT318, iT319, iT1000, iTm1, iTm2] at c_13 | skip
        exfalso; omega
      · skip
        first | simp only [bI_0, Decidable.not_not, sg_mul, sg_e0, sg_l0, sg_g0, sg_le0, sg_ge0, cmp_eq, cmp_lt, cmp_ge, cmp_gt, cmp_le, lT0, lT1] at c_13 | simp only [Int32.le_iff_toInt_le, Int32.lt_iff_toInt_lt, ← Int32.toInt_inj, iT0, iT1, iT2, iT3, iT4, iT5, iT6, iT7, iT8, iT9, iT10, iT11, iT12, iT13, iT14, iT15, iT16, iT19, iT20, iT31, iT32, iT42, iT64, iT200, iT318, iT319, iT1000, iTm1, iTm2] at c_13 | skip
        refine j_iload_n X dX11_at_16 rfl 2 rfl ?_
        refine j_iconst (v := 2) X dX11_at_17 rfl ?_
        refine j_icmp_ge (tgt := 34) X dX11_at_18 (by decide) (fun c_18 => ?_) (fun c_18 => ?_)
        · skip
          first | simp only [bI_0, Decidable.not_not, sg_mul, sg_e0, sg_l0, sg_g0, sg_le0, sg_ge0, cmp_eq, cmp_lt, cmp_ge, cmp_gt, cmp_le, lT0, lT1] at c_18 | simp only [Int32.le_iff_toInt_le, Int32.lt_iff_toInt_lt, ← Int32.toInt_inj, iT0, iT1, iT2, iT3, iT4, iT5, iT6, iT7, iT8, iT9, iT10, iT11, iT12, iT13, iT14, iT15, iT16, iT19, iT20, iT31, iT32, iT42, iT64, iT200, iT318, iT319, iT1000, iTm1, iTm2] at c_18 | skip
          exfalso; omega
        · skip
          first | simp only [bI_0, Decidable.not_not, sg_mul, sg_e0, sg_l0, sg_g0, sg_le0, sg_ge0, cmp_eq, cmp_lt, cmp_ge, cmp_gt, cmp_le, lT0, lT1] at c_18 | simp only [Int32.le_iff_toInt_le, Int32.lt_iff_toInt_lt, ← Int32.toInt_inj, iT0, iT1, iT2, iT3, iT4, iT5, iT6, iT7, iT8, iT9, iT10, iT11, iT12, iT13, iT14, iT15, iT16, iT19, iT20, iT31, iT32, iT42, iT64, iT200, iT318, iT319, iT1000, iTm1, iTm2] at c_18 | skip
          refine j_iload_n X dX11_at_21 rfl 3 rfl ?_
          refine j_if_lt (tgt := 34) X dX11_at_22 (by decide) (fun c_22 => ?_) (fun c_22 => ?_)
          · skip
            first | simp only [bI_0, Decidable.not_not, sg_mul, sg_e0, sg_l0, sg_g0, sg_le0, sg_ge0, cmp_eq, cmp_lt, cmp_ge, cmp_gt, cmp_le, lT0, lT1] at c_22 | simp only [Int32.le_iff_toInt_le, Int32.lt_iff_toInt_lt, ← Int32.toInt_inj, iT0, iT1, iT2, iT3, iT4, iT5, iT6, iT7, iT8, iT9, iT10, iT11, iT12, iT13, iT14, iT15, iT16, iT19, iT20, iT31, iT32, iT42, iT64, iT200, iT318, iT319, iT1000, iTm1, iTm2] at c_22 | skip
            exfalso; omega
          · skip
            first | simp only [bI_0, Decidable.not_not, sg_mul, sg_e0, sg_l0, sg_g0, sg_le0, sg_ge0, cmp_eq, cmp_lt, cmp_ge, cmp_gt, cmp_le, lT0, lT1] at c_22 | simp only [Int32.le_iff_toInt_le, Int32.lt_iff_toInt_lt, ← Int32.toInt_inj, iT0, iT1, iT2, iT3, iT4, iT5, iT6, iT7, iT8, iT9, iT10, iT11, iT12, iT13, iT14, iT15, iT16, iT19, iT20, iT31, iT32, iT42, iT64, iT200, iT318, iT319, iT1000, iTm1, iTm2] at c_22 | skip
            refine j_iload_n X dX11_at_25 rfl 3 rfl ?_
            refine j_iconst (v := 3) X dX11_at_26 rfl ?_
            refine j_icmp_ge (tgt := 34) X dX11_at_27 (by decide) (fun c_27 => ?_) (fun c_27 => ?_)
            · skip
              first | simp only [bI_0, Decidable.not_not, sg_mul, sg_e0, sg_l0, sg_g0, sg_le0, sg_ge0, cmp_eq, cmp_lt, cmp_ge, cmp_gt, cmp_le, lT0, lT1] at c_27 | simp only [Int32.le_iff_toInt_le, Int32.lt_iff_toInt_lt, ← Int32.toInt_inj, iT0, iT1, iT2, iT3, iT4, iT5, iT6, iT7, iT8, iT9, iT10, iT11, iT12, iT13, iT14, iT15, iT16, iT19, iT20, iT31, iT32, iT42, iT64, iT200, iT318, iT319, iT1000, iTm1, iTm2] at c_27 | skip
              exfalso; omega
            · skip
              first | simp only [bI_0, Decidable.not_not, sg_mul, sg_e0, sg_l0, sg_g0, sg_le0, sg_ge0, cmp_eq, cmp_lt, cmp_ge, cmp_gt, cmp_le, lT0, lT1] at c_27 | simp only [Int32.le_iff_toInt_le, Int32.lt_iff_toInt_lt, ← Int32.toInt_inj, iT0, iT1, iT2, iT3, iT4, iT5, iT6, iT7, iT8, iT9, iT10, iT11, iT12, iT13, iT14, iT15, iT16, iT19, iT20, iT31, iT32, iT42, iT64, iT200, iT318, iT319, iT1000, iTm1, iTm2] at c_27 | skip
              refine j_iconst (v := 1) X dX11_at_30 rfl ?_
              refine j_goto (tgt := 35) X dX11_at_31 (by decide) ?_
              refine j_istore (L' := [(4, .int 1), (0, .ref (q 0)), (1, .int x1), (2, .int ax), (3, .int how)]) X dX11_at_35 (by decide) rfl ?_
              refine j_aload_n X dX11_at_37 rfl 1 rfl ?_
              refine j_aload_n X dX11_at_38 rfl 1 rfl ?_
              refine j_get (v := .int cr) X dX11_at_39 0 rfl 14 rfl in_X11_at_X11 (by decide) fl_X11_at_196 rfl ?_
              refine j_if_ne (tgt := 49) X dX11_at_42 (by decide) (fun c_42 => ?_) (fun c_42 => ?_)
              · skip
                subst hx1
                refine j_iload X dX11_at_49 0 rfl ?_
                refine j_if_ne (tgt := 58) X dX11_at_51 (by decide) (fun _ => ?_) (fun c9 => absurd c9 (by decide))
                refine j_iconst (v := 0) X dX11_at_58 rfl ?_
                refine j_put (ws' := [(q 0, .inr (10, mF 0 n q co cr po tx ty)), (q 10, aI G 320 (rg [z0, z1, z2, z3, z4, z5, z6, z7, z8, z9, z10, z11, z12, z13, z14, z15])), (q 11, aZ G 16 sf), (q 12, aI G 2 sig)]) X dX11_at_59 0 rfl 0 rfl in_X11_at_X11 tyX11 tyX11_ok nmX11 (by decide) fl_X11_at_48 rfl rfl rfl rfl (Nat.le_of_ble_eq_true rfl) rfl ?_
                refine j_aload_n X dX11_at_62 rfl 1 rfl ?_
                refine j_get (v := .int 0) X dX11_at_63 0 rfl 0 rfl in_X11_at_X11 (by decide) fl_X11_at_48 rfl ?_
                refine j_if_eq (tgt := 71) X dX11_at_66 (by decide) (fun _ => ?_) (fun c9 => absurd c9 (by decide))
                refine j_iload_n X dX11_at_71 rfl 3 rfl ?_
                refine j_if_ne (tgt := 79) X dX11_at_72 (by decide) (fun c_72 => ?_) (fun c_72 => ?_)
                · skip
                  first | simp only [bI_0, Decidable.not_not, sg_mul, sg_e0, sg_l0, sg_g0, sg_le0, sg_ge0, cmp_eq, cmp_lt, cmp_ge, cmp_gt, cmp_le, lT0, lT1] at c_72 | simp only [Int32.le_iff_toInt_le, Int32.lt_iff_toInt_lt, ← Int32.toInt_inj, iT0, iT1, iT2, iT3, iT4, iT5, iT6, iT7, iT8, iT9, iT10, iT11, iT12, iT13, iT14, iT15, iT16, iT19, iT20, iT31, iT32, iT42, iT64, iT200, iT318, iT319, iT1000, iTm1, iTm2] at c_72 | skip
                  refine j_iconst (v := 1) X dX11_at_79 rfl ?_
                  refine j_istore (L' := [(5, .int 1), (4, .int 1), (0, .ref (q 0)), (1, .int (nI kk)), (2, .int ax), (3, .int how)]) X dX11_at_80 (by decide) rfl ?_
                  refine j_iload_n X dX11_at_82 rfl 4 rfl ?_
                  refine j_if_ne (tgt := 93) X dX11_at_83 (by decide) (fun c_83 => ?_) (fun c_83 => ?_)
                  · skip
                    first | simp only [bI_0, Decidable.not_not, sg_mul, sg_e0, sg_l0, sg_g0, sg_le0, sg_ge0, cmp_eq, cmp_lt, cmp_ge, cmp_gt, cmp_le, lT0, lT1] at c_83 | simp only [Int32.le_iff_toInt_le, Int32.lt_iff_toInt_lt, ← Int32.toInt_inj, iT0, iT1, iT2, iT3, iT4, iT5, iT6, iT7, iT8, iT9, iT10, iT11, iT12, iT13, iT14, iT15, iT16, iT19, iT20, iT31, iT32, iT42, iT64, iT200, iT318, iT319, iT1000, iTm1, iTm2] at c_83 | skip
                    refine j_aload_n X dX11_at_93 rfl 2 rfl ?_
                    refine j_get (v := .long ty) X dX11_at_94 0 rfl 18 rfl in_X11_at_X11 (by decide) fl_X11_at_163 rfl ?_
                    refine j_lstore (L' := [(6, .long ty), (5, .int 1), (4, .int 1), (0, .ref (q 0)), (1, .int (nI kk)), (2, .int ax), (3, .int how)]) X dX11_at_97 (by decide) rfl ?_
                    refine j_iload_n X dX11_at_99 rfl 6 rfl ?_
                    refine j_iconst (v := 1) X dX11_at_100 rfl ?_
                    refine j_icmp_eq (tgt := 144) X dX11_at_101 (by decide) (fun c_101 => ?_) (fun c_101 => ?_)
                    · skip
                      first | simp only [bI_0, Decidable.not_not, sg_mul, sg_e0, sg_l0, sg_g0, sg_le0, sg_ge0, cmp_eq, cmp_lt, cmp_ge, cmp_gt, cmp_le, lT0, lT1] at c_101 | simp only [Int32.le_iff_toInt_le, Int32.lt_iff_toInt_lt, ← Int32.toInt_inj, iT0, iT1, iT2, iT3, iT4, iT5, iT6, iT7, iT8, iT9, iT10, iT11, iT12, iT13, iT14, iT15, iT16, iT19, iT20, iT31, iT32, iT42, iT64, iT200, iT318, iT319, iT1000, iTm1, iTm2] at c_101 | skip
                      refine j_aload_n X dX11_at_144 rfl 3 rfl ?_
                      refine j_bipush (v := 10) X dX11_at_145 (by decide) ?_
                      refine j_iload X dX11_at_147 1 rfl ?_
                      refine j_callV X dX11_at_149 (h_copy l G q 0 n co cr po tx ty [z0, z1, z2, z3, z4, z5, z6, z7, z8, z9, z10, z11, z12, z13, z14, z15] sf rfl hS 10 10 rfl (by decide) 1 1 rfl (by decide) (by decide)) gX11_at_X11_copy rfl hy_X11_copy_V ⟨Nat.le_of_ble_eq_true rfl, Nat.le_of_ble_eq_true rfl⟩ 0 rfl rfl [0, 1, 2] rfl (by decide) rfl rfl (Nat.le_of_ble_eq_true rfl) ⟨Nat.le_of_ble_eq_true rfl, Nat.le_of_ble_eq_true rfl⟩ ?_
                      rintro _ sf_1 ⟨rfl, hS_sf_1⟩
                      change J p l e rm_X11_at s m args below meth c Q G A 8 0 0 152 [(6, .long ty), (5, .int 1), (4, .int 1), (0, .ref (q 0)), (1, .int (nI kk)), (2, .int ax), (3, .int how)] [] [(q 0, .inr (10, mF 0 n q co cr po tx ty)), (q 10, aI G 320 (rg [z0, z1, z2, z3, z4, z5, z6, z7, z8, z9, z1, z11, z12, z13, z14, z15])), (q 11, aZ G 16 sf_1), (q 12, aI G 2 sig)]
                      refine j_aload_n X dX11_at_152 rfl 3 rfl ?_
                      refine j_get (v := .ref (q 11)) X dX11_at_153 0 rfl 13 rfl in_X11_at_X11 (by decide) fl_X11_at_42 rfl ?_
                      refine j_bipush (v := 10) X dX11_at_156 (by decide) ?_
                      refine j_aload_n X dX11_at_158 rfl 3 rfl ?_
                      refine j_get (v := .ref (q 11)) X dX11_at_159 0 rfl 13 rfl in_X11_at_X11 (by decide) fl_X11_at_42 rfl ?_
                      refine j_bipush (v := 10) X dX11_at_162 (by decide) ?_
                      refine j_zald X dX11_at_164 2 rfl 10 rfl (by decide) (by decide) ?_
                      refine j_if_ne (tgt := 172) X dX11_at_165 (by decide) (fun c_165 => ?_) (fun c_165 => ?_)
                      · skip
                        refine j_iconst (v := 0) X dX11_at_172 rfl ?_
                        refine j_zast (ws' := [(q 0, .inr (10, mF 0 n q co cr po tx ty)), (q 10, aI G 320 (rg [z0, z1, z2, z3, z4, z5, z6, z7, z8, z9, z1, z11, z12, z13, z14, z15])), (q 11, aZ G 16 (upd sf_1 10 0)), (q 12, aI G 2 sig)]) X dX11_at_173 2 rfl 10 rfl (by decide) (by decide) (Or.inl rfl) rfl ?_
                        obtain ⟨y_2, ey_2⟩ : ∃ zz9 : Int, zz9 = -z1 := ⟨_, rfl⟩
                        have by_2 : bd 127 y_2 := by rw [ey_2]; exact bd_neg b1
                        have hS_y_2 : okS [z0, z1, z2, z3, z4, z5, z6, z7, z8, z9, y_2, z11, z12, z13, z14, z15] (upd sf_1 10 0) := by rw [ey_2]; exact okS_set (d := 10) rfl (by decide) hS_sf_1 (ok_flip1 (hS_sf_1 10 (by decide)) c_165)
                        refine j_setI (ws' := [(q 0, .inr (10, mF 0 n q co cr po tx ty)), (q 10, aI G 320 (rg [z0, z1, z2, z3, z4, z5, z6, z7, z8, z9, y_2, z11, z12, z13, z14, z15])), (q 11, aZ G 16 (upd sf_1 10 0)), (q 12, aI G 2 sig)]) (g := rg [z0, z1, z2, z3, z4, z5, z6, z7, z8, z9, y_2, z11, z12, z13, z14, z15]) 1 rfl (rg_abs (fun r => by rw [ey_2]; exact rg_flip (zs := [z0, z1, z2, z3, z4, z5, z6, z7, z8, z9, z1, z11, z12, z13, z14, z15]) (d := 10) (Nat.le_of_ble_eq_true rfl) r)) rfl ?_
                        refine j_aload_n X dX11_at_174 rfl 3 rfl ?_
                        refine j_bipush (v := 10) X dX11_at_175 (by decide) ?_
                        refine j_lload X dX11_at_177 0 rfl ?_
                        refine j_iconst (v := 0) X dX11_at_179 rfl ?_
                        refine j_aload_n X dX11_at_180 rfl 3 rfl ?_
                        refine j_get (v := .ref (q 12)) X dX11_at_181 0 rfl 16 rfl in_X11_at_X11 (by decide) fl_X11_at_45 rfl ?_
                        refine j_iload_n X dX11_at_184 rfl 4 rfl ?_
                        refine j_iald X dX11_at_185 3 rfl kk rfl gkk (by decide) ?_
                        refine j_isub X dX11_at_186 ?_
                        refine j_iconst (v := 1) X dX11_at_187 rfl ?_
                        refine j_iconst (v := 0) X dX11_at_188 rfl ?_
                        refine j_callV X dX11_at_189 (c_X11_cut_10_1 l G q 0 n co cr po tx ty z0 z1 z2 z3 z4 z5 z6 z7 z8 z9 y_2 z11 z12 z13 z14 z15 (upd sf_1 10 0) hS_y_2 ty (0 - (sig kk)) (bd_mono by_2 (by decide)) b2 hR b3 h3 bty (hs_ng hsgty)) gX11_at_X11_cut rfl hy_X11_cut_V ⟨Nat.le_of_ble_eq_true rfl, Nat.le_of_ble_eq_true rfl⟩ 0 rfl rfl [0, 1, 2] rfl (by decide) rfl rfl (Nat.le_of_ble_eq_true rfl) ⟨Nat.le_of_ble_eq_true rfl, Nat.le_of_ble_eq_true rfl⟩ ?_
                        rintro _ ⟨y_4, y_5, y_6, y_7, y_8, y_9, y_10, y_11, y_12, y_13, sf_3⟩ ⟨rfl, ⟨E_14, hE_14, ey_6⟩, hS_sf_3⟩
                        dsimp only at ey_6
                        change J p l e rm_X11_at s m args below meth c Q G A 8 0 0 192 [(6, .long ty), (5, .int 1), (4, .int 1), (0, .ref (q 0)), (1, .int (nI kk)), (2, .int ax), (3, .int how)] [] [(q 0, .inr (10, mF 0 n q co cr po tx ty)), (q 10, aI G 320 (rg [z0, z1, z2, z3, y_4, y_5, y_6, y_7, y_8, y_9, y_2, z11, y_10, y_11, y_12, y_13])), (q 11, aZ G 16 sf_3), (q 12, aI G 2 sig)]
                        have hUw : (if ax.toInt = 0 then z0 else z1) = z1 := if_neg (show ¬ ax.toInt = 0 by omega)
                        have hFw : (if ax.toInt = 0 then tx.toInt else ty.toInt) = ty.toInt := if_neg (show ¬ ax.toInt = 0 by omega)
                        have hb9 := hV E_14 (by rw [hFw, show atN how.toInt ty.toInt z2 = ty.toInt * ty.toInt * z2 from if_neg (by omega)]; exact hE_14)
                        rw [hUw, hFw, show atV how.toInt z1 ty.toInt z2 z3 E_14 (sig kk).toInt = _ from (if_neg (by omega)).trans (if_pos (by omega))] at hb9
                        have e6x : y_6 = flA (-z1) (sg (-(sig kk).toInt * ty.toInt)) (ty.toInt * ty.toInt * z2) E_14 z3 := by rw [ey_6, ey_2, hs_nT hsgty]
                        rw [← e6x] at hb9
                        refine j_lconst (v := 0) X dX11_at_192 rfl ?_
                        refine j_aload_n X dX11_at_193 rfl 3 rfl ?_
                        refine j_bipush (v := 6) X dX11_at_194 (by decide) ?_
                        refine j_callV X dX11_at_196 (c_X11_valueOf l G q 0 n co cr po tx ty [z0, z1, z2, z3, y_4, y_5, y_6, y_7, y_8, y_9, y_2, z11, y_10, y_11, y_12, y_13] rfl sf_3 6 6 rfl (by decide) (hS_sf_3 6 (by decide)) (by show Int.natAbs y_6 < _; omega)) gX11_at_X11_valueOf rfl hy_X11_valueOf_V ⟨Nat.le_of_ble_eq_true rfl, Nat.le_of_ble_eq_true rfl⟩ 0 rfl rfl [0, 1, 2] rfl (by decide) rfl rfl (Nat.le_of_ble_eq_true rfl) ⟨Nat.le_of_ble_eq_true rfl, Nat.le_of_ble_eq_true rfl⟩ ?_
                        rintro _ w_15 ⟨rfl, hw_15⟩
                        change J p l e rm_X11_at s m args below meth c Q G A 8 0 0 199 [(6, .long ty), (5, .int 1), (4, .int 1), (0, .ref (q 0)), (1, .int (nI kk)), (2, .int ax), (3, .int how)] [.long w_15, .long 0] [(q 0, .inr (10, mF 0 n q co cr po tx ty)), (q 10, aI G 320 (rg [z0, z1, z2, z3, y_4, y_5, y_6, y_7, y_8, y_9, y_2, z11, y_10, y_11, y_12, y_13])), (q 11, aZ G 16 sf_3), (q 12, aI G 2 sig)]
                        change w_15.toInt = y_6 at hw_15
                        refine j_lsub X dX11_at_199 ?_
                        exact E.2.2 200 _ (0 - w_15) ((0 - w_15), E_14, [z0, z1, z2, z3, y_4, y_5, y_6, y_7, y_8, y_9, y_2, z11, y_10, y_11, y_12, y_13], sf_3) dX11_at_200 (⟨rfl, by rw [hFw, show atN how.toInt ty.toInt z2 = ty.toInt * ty.toInt * z2 from if_neg (by omega)]; exact hE_14, by rw [hUw, hFw, show atV how.toInt z1 ty.toInt z2 z3 E_14 (sig kk).toInt = _ from (if_neg (by omega)).trans (if_pos (by omega))]; rw [← e6x, l_sub] <;> rw [lT0, hw_15] <;> omega, kp_i, hS_sf_3⟩) hr
                      · skip
                        refine j_iconst (v := 1) X dX11_at_168 rfl ?_
                        refine j_goto (tgt := 173) X dX11_at_169 (by decide) ?_
                        refine j_zast (ws' := [(q 0, .inr (10, mF 0 n q co cr po tx ty)), (q 10, aI G 320 (rg [z0, z1, z2, z3, z4, z5, z6, z7, z8, z9, z1, z11, z12, z13, z14, z15])), (q 11, aZ G 16 (upd sf_1 10 1)), (q 12, aI G 2 sig)]) X dX11_at_173 2 rfl 10 rfl (by decide) (by decide) (Or.inr rfl) rfl ?_
                        obtain ⟨y_16, ey_16⟩ : ∃ zz9 : Int, zz9 = -z1 := ⟨_, rfl⟩
                        have by_16 : bd 127 y_16 := by rw [ey_16]; exact bd_neg b1
                        have hS_y_16 : okS [z0, z1, z2, z3, z4, z5, z6, z7, z8, z9, y_16, z11, z12, z13, z14, z15] (upd sf_1 10 1) := by rw [ey_16]; exact okS_set (d := 10) rfl (by decide) hS_sf_1 (ok_flip0 (hS_sf_1 10 (by decide)) c_165)
                        refine j_setI (ws' := [(q 0, .inr (10, mF 0 n q co cr po tx ty)), (q 10, aI G 320 (rg [z0, z1, z2, z3, z4, z5, z6, z7, z8, z9, y_16, z11, z12, z13, z14, z15])), (q 11, aZ G 16 (upd sf_1 10 1)), (q 12, aI G 2 sig)]) (g := rg [z0, z1, z2, z3, z4, z5, z6, z7, z8, z9, y_16, z11, z12, z13, z14, z15]) 1 rfl (rg_abs (fun r => by rw [ey_16]; exact rg_flip (zs := [z0, z1, z2, z3, z4, z5, z6, z7, z8, z9, z1, z11, z12, z13, z14, z15]) (d := 10) (Nat.le_of_ble_eq_true rfl) r)) rfl ?_
                        refine j_aload_n X dX11_at_174 rfl 3 rfl ?_
                        refine j_bipush (v := 10) X dX11_at_175 (by decide) ?_
                        refine j_lload X dX11_at_177 0 rfl ?_
                        refine j_iconst (v := 0) X dX11_at_179 rfl ?_
                        refine j_aload_n X dX11_at_180 rfl 3 rfl ?_
                        refine j_get (v := .ref (q 12)) X dX11_at_181 0 rfl 16 rfl in_X11_at_X11 (by decide) fl_X11_at_45 rfl ?_
                        refine j_iload_n X dX11_at_184 rfl 4 rfl ?_
                        refine j_iald X dX11_at_185 3 rfl kk rfl gkk (by decide) ?_
                        refine j_isub X dX11_at_186 ?_
                        refine j_iconst (v := 1) X dX11_at_187 rfl ?_
                        refine j_iconst (v := 0) X dX11_at_188 rfl ?_
                        refine j_callV X dX11_at_189 (c_X11_cut_10_1 l G q 0 n co cr po tx ty z0 z1 z2 z3 z4 z5 z6 z7 z8 z9 y_16 z11 z12 z13 z14 z15 (upd sf_1 10 1) hS_y_16 ty (0 - (sig kk)) (bd_mono by_16 (by decide)) b2 hR b3 h3 bty (hs_ng hsgty)) gX11_at_X11_cut rfl hy_X11_cut_V ⟨Nat.le_of_ble_eq_true rfl, Nat.le_of_ble_eq_true rfl⟩ 0 rfl rfl [0, 1, 2] rfl (by decide) rfl rfl (Nat.le_of_ble_eq_true rfl) ⟨Nat.le_of_ble_eq_true rfl, Nat.le_of_ble_eq_true rfl⟩ ?_
                        rintro _ ⟨y_18, y_19, y_20, y_21, y_22, y_23, y_24, y_25, y_26, y_27, sf_17⟩ ⟨rfl, ⟨E_28, hE_28, ey_20⟩, hS_sf_17⟩
                        dsimp only at ey_20
                        change J p l e rm_X11_at s m args below meth c Q G A 8 0 0 192 [(6, .long ty), (5, .int 1), (4, .int 1), (0, .ref (q 0)), (1, .int (nI kk)), (2, .int ax), (3, .int how)] [] [(q 0, .inr (10, mF 0 n q co cr po tx ty)), (q 10, aI G 320 (rg [z0, z1, z2, z3, y_18, y_19, y_20, y_21, y_22, y_23, y_16, z11, y_24, y_25, y_26, y_27])), (q 11, aZ G 16 sf_17), (q 12, aI G 2 sig)]
                        have hUw : (if ax.toInt = 0 then z0 else z1) = z1 := if_neg (show ¬ ax.toInt = 0 by omega)
                        have hFw : (if ax.toInt = 0 then tx.toInt else ty.toInt) = ty.toInt := if_neg (show ¬ ax.toInt = 0 by omega)
                        have hb9 := hV E_28 (by rw [hFw, show atN how.toInt ty.toInt z2 = ty.toInt * ty.toInt * z2 from if_neg (by omega)]; exact hE_28)
                        rw [hUw, hFw, show atV how.toInt z1 ty.toInt z2 z3 E_28 (sig kk).toInt = _ from (if_neg (by omega)).trans (if_pos (by omega))] at hb9
                        have e6x : y_20 = flA (-z1) (sg (-(sig kk).toInt * ty.toInt)) (ty.toInt * ty.toInt * z2) E_28 z3 := by rw [ey_20, ey_16, hs_nT hsgty]
                        rw [← e6x] at hb9
                        refine j_lconst (v := 0) X dX11_at_192 rfl ?_
                        refine j_aload_n X dX11_at_193 rfl 3 rfl ?_
                        refine j_bipush (v := 6) X dX11_at_194 (by decide) ?_
                        refine j_callV X dX11_at_196 (c_X11_valueOf l G q 0 n co cr po tx ty [z0, z1, z2, z3, y_18, y_19, y_20, y_21, y_22, y_23, y_16, z11, y_24, y_25, y_26, y_27] rfl sf_17 6 6 rfl (by decide) (hS_sf_17 6 (by decide)) (by show Int.natAbs y_20 < _; omega)) gX11_at_X11_valueOf rfl hy_X11_valueOf_V ⟨Nat.le_of_ble_eq_true rfl, Nat.le_of_ble_eq_true rfl⟩ 0 rfl rfl [0, 1, 2] rfl (by decide) rfl rfl (Nat.le_of_ble_eq_true rfl) ⟨Nat.le_of_ble_eq_true rfl, Nat.le_of_ble_eq_true rfl⟩ ?_
                        rintro _ w_29 ⟨rfl, hw_29⟩
                        change J p l e rm_X11_at s m args below meth c Q G A 8 0 0 199 [(6, .long ty), (5, .int 1), (4, .int 1), (0, .ref (q 0)), (1, .int (nI kk)), (2, .int ax), (3, .int how)] [.long w_29, .long 0] [(q 0, .inr (10, mF 0 n q co cr po tx ty)), (q 10, aI G 320 (rg [z0, z1, z2, z3, y_18, y_19, y_20, y_21, y_22, y_23, y_16, z11, y_24, y_25, y_26, y_27])), (q 11, aZ G 16 sf_17), (q 12, aI G 2 sig)]
                        change w_29.toInt = y_20 at hw_29
                        refine j_lsub X dX11_at_199 ?_
                        exact E.2.2 200 _ (0 - w_29) ((0 - w_29), E_28, [z0, z1, z2, z3, y_18, y_19, y_20, y_21, y_22, y_23, y_16, z11, y_24, y_25, y_26, y_27], sf_17) dX11_at_200 (⟨rfl, by rw [hFw, show atN how.toInt ty.toInt z2 = ty.toInt * ty.toInt * z2 from if_neg (by omega)]; exact hE_28, by rw [hUw, hFw, show atV how.toInt z1 ty.toInt z2 z3 E_28 (sig kk).toInt = _ from (if_neg (by omega)).trans (if_pos (by omega))]; rw [← e6x, l_sub] <;> rw [lT0, hw_29] <;> omega, kp_i, hS_sf_17⟩) hr
                    · skip
                      first | simp only [bI_0, Decidable.not_not, sg_mul, sg_e0, sg_l0, sg_g0, sg_le0, sg_ge0, cmp_eq, cmp_lt, cmp_ge, cmp_gt, cmp_le, lT0, lT1] at c_101 | simp only [Int32.le_iff_toInt_le, Int32.lt_iff_toInt_lt, ← Int32.toInt_inj, iT0, iT1, iT2, iT3, iT4, iT5, iT6, iT7, iT8, iT9, iT10, iT11, iT12, iT13, iT14, iT15, iT16, iT19, iT20, iT31, iT32, iT42, iT64, iT200, iT318, iT319, iT1000, iTm1, iTm2] at c_101 | skip
                      refine j_aload_n X dX11_at_104 rfl 3 rfl ?_
                      refine j_iload X dX11_at_105 1 rfl ?_
                      refine j_lload X dX11_at_107 0 rfl ?_
                      refine j_aload_n X dX11_at_109 rfl 3 rfl ?_
                      refine j_get (v := .ref (q 12)) X dX11_at_110 0 rfl 16 rfl in_X11_at_X11 (by decide) fl_X11_at_45 rfl ?_
                      refine j_iload_n X dX11_at_113 rfl 4 rfl ?_
                      refine j_iald X dX11_at_114 3 rfl kk rfl gkk (by decide) ?_
                      refine j_iload_n X dX11_at_115 rfl 6 rfl ?_
                      refine j_if_ne (tgt := 123) X dX11_at_116 (by decide) (fun c_116 => ?_) (fun c_116 => ?_)
                      · skip
                        first | simp only [bI_0, Decidable.not_not, sg_mul, sg_e0, sg_l0, sg_g0, sg_le0, sg_ge0, cmp_eq, cmp_lt, cmp_ge, cmp_gt, cmp_le, lT0, lT1] at c_116 | simp only [Int32.le_iff_toInt_le, Int32.lt_iff_toInt_lt, ← Int32.toInt_inj, iT0, iT1, iT2, iT3, iT4, iT5, iT6, iT7, iT8, iT9, iT10, iT11, iT12, iT13, iT14, iT15, iT16, iT19, iT20, iT31, iT32, iT42, iT64, iT200, iT318, iT319, iT1000, iTm1, iTm2] at c_116 | skip
                        refine j_iconst (v := 2) X dX11_at_123 rfl ?_
                        refine j_iload_n X dX11_at_124 rfl 6 rfl ?_
                        refine j_iconst (v := 2) X dX11_at_125 rfl ?_
                        refine j_icmp_ne (tgt := 133) X dX11_at_126 (by decide) (fun c_126 => ?_) (fun c_126 => ?_)
                        · skip
                          first | simp only [bI_0, Decidable.not_not, sg_mul, sg_e0, sg_l0, sg_g0, sg_le0, sg_ge0, cmp_eq, cmp_lt, cmp_ge, cmp_gt, cmp_le, lT0, lT1] at c_126 | simp only [Int32.le_iff_toInt_le, Int32.lt_iff_toInt_lt, ← Int32.toInt_inj, iT0, iT1, iT2, iT3, iT4, iT5, iT6, iT7, iT8, iT9, iT10, iT11, iT12, iT13, iT14, iT15, iT16, iT19, iT20, iT31, iT32, iT42, iT64, iT200, iT318, iT319, iT1000, iTm1, iTm2] at c_126 | skip
                          exfalso; omega
                        · skip
                          first | simp only [bI_0, Decidable.not_not, sg_mul, sg_e0, sg_l0, sg_g0, sg_le0, sg_ge0, cmp_eq, cmp_lt, cmp_ge, cmp_gt, cmp_le, lT0, lT1] at c_126 | simp only [Int32.le_iff_toInt_le, Int32.lt_iff_toInt_lt, ← Int32.toInt_inj, iT0, iT1, iT2, iT3, iT4, iT5, iT6, iT7, iT8, iT9, iT10, iT11, iT12, iT13, iT14, iT15, iT16, iT19, iT20, iT31, iT32, iT42, iT64, iT200, iT318, iT319, iT1000, iTm1, iTm2] at c_126 | skip
                          refine j_iconst (v := 1) X dX11_at_129 rfl ?_
                          refine j_goto (tgt := 134) X dX11_at_130 (by decide) ?_
                          refine j_callV X dX11_at_134 (c_X11_cut_1_2 l G q 0 n co cr po tx ty z0 z1 z2 z3 z4 z5 z6 z7 z8 z9 z10 z11 z12 z13 z14 z15 sf hS ty (sig kk) (bd_mono b1 (by decide)) b2 hR b3 h3 bty hsgty) gX11_at_X11_cut rfl hy_X11_cut_V ⟨Nat.le_of_ble_eq_true rfl, Nat.le_of_ble_eq_true rfl⟩ 0 rfl rfl [0, 1, 2] rfl (by decide) rfl rfl (Nat.le_of_ble_eq_true rfl) ⟨Nat.le_of_ble_eq_true rfl, Nat.le_of_ble_eq_true rfl⟩ ?_
                          rintro _ ⟨y_31, y_32, y_33, y_34, y_35, y_36, y_37, y_38, y_39, y_40, sf_30⟩ ⟨rfl, ⟨E_41, hE_41, ey_33⟩, hS_sf_30⟩
                          dsimp only at ey_33
                          change J p l e rm_X11_at s m args below meth c Q G A 8 0 0 137 [(6, .long ty), (5, .int 1), (4, .int 1), (0, .ref (q 0)), (1, .int (nI kk)), (2, .int ax), (3, .int how)] [] [(q 0, .inr (10, mF 0 n q co cr po tx ty)), (q 10, aI G 320 (rg [z0, z1, z2, z3, y_31, y_32, y_33, y_34, y_35, y_36, z10, z11, y_37, y_38, y_39, y_40])), (q 11, aZ G 16 sf_30), (q 12, aI G 2 sig)]
                          have hUw : (if ax.toInt = 0 then z0 else z1) = z1 := if_neg (show ¬ ax.toInt = 0 by omega)
                          have hFw : (if ax.toInt = 0 then tx.toInt else ty.toInt) = ty.toInt := if_neg (show ¬ ax.toInt = 0 by omega)
                          have hb9 := hV E_41 (by rw [hFw, show atN how.toInt ty.toInt z2 = 2 * ty.toInt * (2 * ty.toInt) * z2 from if_pos (by omega)]; exact hE_41)
                          rw [hUw, hFw, show atV how.toInt z1 ty.toInt z2 z3 E_41 (sig kk).toInt = _ from (if_neg (by omega)).trans (if_neg (by omega))] at hb9
                          rw [← ey_33] at hb9
                          refine j_aload_n X dX11_at_137 rfl 3 rfl ?_
                          refine j_bipush (v := 6) X dX11_at_138 (by decide) ?_
                          refine j_callV X dX11_at_140 (c_X11_valueOf l G q 0 n co cr po tx ty [z0, z1, z2, z3, y_31, y_32, y_33, y_34, y_35, y_36, z10, z11, y_37, y_38, y_39, y_40] rfl sf_30 6 6 rfl (by decide) (hS_sf_30 6 (by decide)) hb9) gX11_at_X11_valueOf rfl hy_X11_valueOf_V ⟨Nat.le_of_ble_eq_true rfl, Nat.le_of_ble_eq_true rfl⟩ 0 rfl rfl [0, 1, 2] rfl (by decide) rfl rfl (Nat.le_of_ble_eq_true rfl) ⟨Nat.le_of_ble_eq_true rfl, Nat.le_of_ble_eq_true rfl⟩ ?_
                          rintro _ w_42 ⟨rfl, hw_42⟩
                          change J p l e rm_X11_at s m args below meth c Q G A 8 0 0 143 [(6, .long ty), (5, .int 1), (4, .int 1), (0, .ref (q 0)), (1, .int (nI kk)), (2, .int ax), (3, .int how)] [.long w_42] [(q 0, .inr (10, mF 0 n q co cr po tx ty)), (q 10, aI G 320 (rg [z0, z1, z2, z3, y_31, y_32, y_33, y_34, y_35, y_36, z10, z11, y_37, y_38, y_39, y_40])), (q 11, aZ G 16 sf_30), (q 12, aI G 2 sig)]
                          change w_42.toInt = y_33 at hw_42
                          exact E.2.2 143 _ w_42 (w_42, E_41, [z0, z1, z2, z3, y_31, y_32, y_33, y_34, y_35, y_36, z10, z11, y_37, y_38, y_39, y_40], sf_30) dX11_at_143 (⟨rfl, by rw [hFw, show atN how.toInt ty.toInt z2 = 2 * ty.toInt * (2 * ty.toInt) * z2 from if_pos (by omega)]; exact hE_41, by rw [hUw, hFw, show atV how.toInt z1 ty.toInt z2 z3 E_41 (sig kk).toInt = _ from (if_neg (by omega)).trans (if_neg (by omega))]; rw [← ey_33]; exact hw_42, kp_i, hS_sf_30⟩) hr
                      · skip
                        first | simp only [bI_0, Decidable.not_not, sg_mul, sg_e0, sg_l0, sg_g0, sg_le0, sg_ge0, cmp_eq, cmp_lt, cmp_ge, cmp_gt, cmp_le, lT0, lT1] at c_116 | simp only [Int32.le_iff_toInt_le, Int32.lt_iff_toInt_lt, ← Int32.toInt_inj, iT0, iT1, iT2, iT3, iT4, iT5, iT6, iT7, iT8, iT9, iT10, iT11, iT12, iT13, iT14, iT15, iT16, iT19, iT20, iT31, iT32, iT42, iT64, iT200, iT318, iT319, iT1000, iTm1, iTm2] at c_116 | skip
                        refine j_iconst (v := 1) X dX11_at_119 rfl ?_
                        refine j_goto (tgt := 124) X dX11_at_120 (by decide) ?_
                        refine j_iload_n X dX11_at_124 rfl 6 rfl ?_
                        refine j_iconst (v := 2) X dX11_at_125 rfl ?_
                        refine j_icmp_ne (tgt := 133) X dX11_at_126 (by decide) (fun c_126 => ?_) (fun c_126 => ?_)
                        · skip
                          first | simp only [bI_0, Decidable.not_not, sg_mul, sg_e0, sg_l0, sg_g0, sg_le0, sg_ge0, cmp_eq, cmp_lt, cmp_ge, cmp_gt, cmp_le, lT0, lT1] at c_126 | simp only [Int32.le_iff_toInt_le, Int32.lt_iff_toInt_lt, ← Int32.toInt_inj, iT0, iT1, iT2, iT3, iT4, iT5, iT6, iT7, iT8, iT9, iT10, iT11, iT12, iT13, iT14, iT15, iT16, iT19, iT20, iT31, iT32, iT42, iT64, iT200, iT318, iT319, iT1000, iTm1, iTm2] at c_126 | skip
                          refine j_iconst (v := 0) X dX11_at_133 rfl ?_
                          refine j_callV X dX11_at_134 (c_X11_cut_1_1 l G q 0 n co cr po tx ty z0 z1 z2 z3 z4 z5 z6 z7 z8 z9 z10 z11 z12 z13 z14 z15 sf hS ty (sig kk) (bd_mono b1 (by decide)) b2 hR b3 h3 bty hsgty) gX11_at_X11_cut rfl hy_X11_cut_V ⟨Nat.le_of_ble_eq_true rfl, Nat.le_of_ble_eq_true rfl⟩ 0 rfl rfl [0, 1, 2] rfl (by decide) rfl rfl (Nat.le_of_ble_eq_true rfl) ⟨Nat.le_of_ble_eq_true rfl, Nat.le_of_ble_eq_true rfl⟩ ?_
                          rintro _ ⟨y_44, y_45, y_46, y_47, y_48, y_49, y_50, y_51, y_52, y_53, sf_43⟩ ⟨rfl, ⟨E_54, hE_54, ey_46⟩, hS_sf_43⟩
                          dsimp only at ey_46
                          change J p l e rm_X11_at s m args below meth c Q G A 8 0 0 137 [(6, .long ty), (5, .int 1), (4, .int 1), (0, .ref (q 0)), (1, .int (nI kk)), (2, .int ax), (3, .int how)] [] [(q 0, .inr (10, mF 0 n q co cr po tx ty)), (q 10, aI G 320 (rg [z0, z1, z2, z3, y_44, y_45, y_46, y_47, y_48, y_49, z10, z11, y_50, y_51, y_52, y_53])), (q 11, aZ G 16 sf_43), (q 12, aI G 2 sig)]
                          have hUw : (if ax.toInt = 0 then z0 else z1) = z1 := if_neg (show ¬ ax.toInt = 0 by omega)
                          have hFw : (if ax.toInt = 0 then tx.toInt else ty.toInt) = ty.toInt := if_neg (show ¬ ax.toInt = 0 by omega)
                          have hb9 := hV E_54 (by rw [hFw, show atN how.toInt ty.toInt z2 = ty.toInt * ty.toInt * z2 from if_neg (by omega)]; exact hE_54)
                          rw [hUw, hFw, show atV how.toInt z1 ty.toInt z2 z3 E_54 (sig kk).toInt = _ from if_pos (by omega)] at hb9
                          rw [← ey_46] at hb9
                          refine j_aload_n X dX11_at_137 rfl 3 rfl ?_
                          refine j_bipush (v := 6) X dX11_at_138 (by decide) ?_
                          refine j_callV X dX11_at_140 (c_X11_valueOf l G q 0 n co cr po tx ty [z0, z1, z2, z3, y_44, y_45, y_46, y_47, y_48, y_49, z10, z11, y_50, y_51, y_52, y_53] rfl sf_43 6 6 rfl (by decide) (hS_sf_43 6 (by decide)) hb9) gX11_at_X11_valueOf rfl hy_X11_valueOf_V ⟨Nat.le_of_ble_eq_true rfl, Nat.le_of_ble_eq_true rfl⟩ 0 rfl rfl [0, 1, 2] rfl (by decide) rfl rfl (Nat.le_of_ble_eq_true rfl) ⟨Nat.le_of_ble_eq_true rfl, Nat.le_of_ble_eq_true rfl⟩ ?_
                          rintro _ w_55 ⟨rfl, hw_55⟩
                          change J p l e rm_X11_at s m args below meth c Q G A 8 0 0 143 [(6, .long ty), (5, .int 1), (4, .int 1), (0, .ref (q 0)), (1, .int (nI kk)), (2, .int ax), (3, .int how)] [.long w_55] [(q 0, .inr (10, mF 0 n q co cr po tx ty)), (q 10, aI G 320 (rg [z0, z1, z2, z3, y_44, y_45, y_46, y_47, y_48, y_49, z10, z11, y_50, y_51, y_52, y_53])), (q 11, aZ G 16 sf_43), (q 12, aI G 2 sig)]
                          change w_55.toInt = y_46 at hw_55
                          exact E.2.2 143 _ w_55 (w_55, E_54, [z0, z1, z2, z3, y_44, y_45, y_46, y_47, y_48, y_49, z10, z11, y_50, y_51, y_52, y_53], sf_43) dX11_at_143 (⟨rfl, by rw [hFw, show atN how.toInt ty.toInt z2 = ty.toInt * ty.toInt * z2 from if_neg (by omega)]; exact hE_54, by rw [hUw, hFw, show atV how.toInt z1 ty.toInt z2 z3 E_54 (sig kk).toInt = _ from if_pos (by omega)]; rw [← ey_46]; exact hw_55, kp_i, hS_sf_43⟩) hr
                        · skip
                          first | simp only [bI_0, Decidable.not_not, sg_mul, sg_e0, sg_l0, sg_g0, sg_le0, sg_ge0, cmp_eq, cmp_lt, cmp_ge, cmp_gt, cmp_le, lT0, lT1] at c_126 | simp only [Int32.le_iff_toInt_le, Int32.lt_iff_toInt_lt, ← Int32.toInt_inj, iT0, iT1, iT2, iT3, iT4, iT5, iT6, iT7, iT8, iT9, iT10, iT11, iT12, iT13, iT14, iT15, iT16, iT19, iT20, iT31, iT32, iT42, iT64, iT200, iT318, iT319, iT1000, iTm1, iTm2] at c_126 | skip
                          exfalso; omega
                  · skip
                    first | simp only [bI_0, Decidable.not_not, sg_mul, sg_e0, sg_l0, sg_g0, sg_le0, sg_ge0, cmp_eq, cmp_lt, cmp_ge, cmp_gt, cmp_le, lT0, lT1] at c_83 | simp only [Int32.le_iff_toInt_le, Int32.lt_iff_toInt_lt, ← Int32.toInt_inj, iT0, iT1, iT2, iT3, iT4, iT5, iT6, iT7, iT8, iT9, iT10, iT11, iT12, iT13, iT14, iT15, iT16, iT19, iT20, iT31, iT32, iT42, iT64, iT200, iT318, iT319, iT1000, iTm1, iTm2] at c_83 | skip
                    exfalso; omega
                · skip
                  first | simp only [bI_0, Decidable.not_not, sg_mul, sg_e0, sg_l0, sg_g0, sg_le0, sg_ge0, cmp_eq, cmp_lt, cmp_ge, cmp_gt, cmp_le, lT0, lT1] at c_72 | simp only [Int32.le_iff_toInt_le, Int32.lt_iff_toInt_lt, ← Int32.toInt_inj, iT0, iT1, iT2, iT3, iT4, iT5, iT6, iT7, iT8, iT9, iT10, iT11, iT12, iT13, iT14, iT15, iT16, iT19, iT20, iT31, iT32, iT42, iT64, iT200, iT318, iT319, iT1000, iTm1, iTm2] at c_72 | skip
                  refine j_iconst (v := 0) X dX11_at_75 rfl ?_
                  refine j_goto (tgt := 80) X dX11_at_76 (by decide) ?_
                  refine j_istore (L' := [(5, .int 0), (4, .int 1), (0, .ref (q 0)), (1, .int (nI kk)), (2, .int ax), (3, .int how)]) X dX11_at_80 (by decide) rfl ?_
                  refine j_iload_n X dX11_at_82 rfl 4 rfl ?_
                  refine j_if_ne (tgt := 93) X dX11_at_83 (by decide) (fun c_83 => ?_) (fun c_83 => ?_)
                  · skip
                    first | simp only [bI_0, Decidable.not_not, sg_mul, sg_e0, sg_l0, sg_g0, sg_le0, sg_ge0, cmp_eq, cmp_lt, cmp_ge, cmp_gt, cmp_le, lT0, lT1] at c_83 | simp only [Int32.le_iff_toInt_le, Int32.lt_iff_toInt_lt, ← Int32.toInt_inj, iT0, iT1, iT2, iT3, iT4, iT5, iT6, iT7, iT8, iT9, iT10, iT11, iT12, iT13, iT14, iT15, iT16, iT19, iT20, iT31, iT32, iT42, iT64, iT200, iT318, iT319, iT1000, iTm1, iTm2] at c_83 | skip
                    exfalso; omega
                  · skip
                    first | simp only [bI_0, Decidable.not_not, sg_mul, sg_e0, sg_l0, sg_g0, sg_le0, sg_ge0, cmp_eq, cmp_lt, cmp_ge, cmp_gt, cmp_le, lT0, lT1] at c_83 | simp only [Int32.le_iff_toInt_le, Int32.lt_iff_toInt_lt, ← Int32.toInt_inj, iT0, iT1, iT2, iT3, iT4, iT5, iT6, iT7, iT8, iT9, iT10, iT11, iT12, iT13, iT14, iT15, iT16, iT19, iT20, iT31, iT32, iT42, iT64, iT200, iT318, iT319, iT1000, iTm1, iTm2] at c_83 | skip
                    refine j_aload_n X dX11_at_86 rfl 2 rfl ?_
                    refine j_get (v := .long tx) X dX11_at_87 0 rfl 17 rfl in_X11_at_X11 (by decide) fl_X11_at_159 rfl ?_
                    refine j_goto (tgt := 97) X dX11_at_90 (by decide) ?_
                    refine j_lstore (L' := [(6, .long tx), (5, .int 0), (4, .int 1), (0, .ref (q 0)), (1, .int (nI kk)), (2, .int ax), (3, .int how)]) X dX11_at_97 (by decide) rfl ?_
                    refine j_iload_n X dX11_at_99 rfl 6 rfl ?_
                    refine j_iconst (v := 1) X dX11_at_100 rfl ?_
                    refine j_icmp_eq (tgt := 144) X dX11_at_101 (by decide) (fun c_101 => ?_) (fun c_101 => ?_)
                    · skip
                      first | simp only [bI_0, Decidable.not_not, sg_mul, sg_e0, sg_l0, sg_g0, sg_le0, sg_ge0, cmp_eq, cmp_lt, cmp_ge, cmp_gt, cmp_le, lT0, lT1] at c_101 | simp only [Int32.le_iff_toInt_le, Int32.lt_iff_toInt_lt, ← Int32.toInt_inj, iT0, iT1, iT2, iT3, iT4, iT5, iT6, iT7, iT8, iT9, iT10, iT11, iT12, iT13, iT14, iT15, iT16, iT19, iT20, iT31, iT32, iT42, iT64, iT200, iT318, iT319, iT1000, iTm1, iTm2] at c_101 | skip
                      refine j_aload_n X dX11_at_144 rfl 3 rfl ?_
                      refine j_bipush (v := 10) X dX11_at_145 (by decide) ?_
                      refine j_iload X dX11_at_147 1 rfl ?_
                      refine j_callV X dX11_at_149 (h_copy l G q 0 n co cr po tx ty [z0, z1, z2, z3, z4, z5, z6, z7, z8, z9, z10, z11, z12, z13, z14, z15] sf rfl hS 10 10 rfl (by decide) 0 0 rfl (by decide) (by decide)) gX11_at_X11_copy rfl hy_X11_copy_V ⟨Nat.le_of_ble_eq_true rfl, Nat.le_of_ble_eq_true rfl⟩ 0 rfl rfl [0, 1, 2] rfl (by decide) rfl rfl (Nat.le_of_ble_eq_true rfl) ⟨Nat.le_of_ble_eq_true rfl, Nat.le_of_ble_eq_true rfl⟩ ?_
                      rintro _ sf_56 ⟨rfl, hS_sf_56⟩
                      change J p l e rm_X11_at s m args below meth c Q G A 8 0 0 152 [(6, .long tx), (5, .int 0), (4, .int 1), (0, .ref (q 0)), (1, .int (nI kk)), (2, .int ax), (3, .int how)] [] [(q 0, .inr (10, mF 0 n q co cr po tx ty)), (q 10, aI G 320 (rg [z0, z1, z2, z3, z4, z5, z6, z7, z8, z9, z0, z11, z12, z13, z14, z15])), (q 11, aZ G 16 sf_56), (q 12, aI G 2 sig)]
                      refine j_aload_n X dX11_at_152 rfl 3 rfl ?_
                      refine j_get (v := .ref (q 11)) X dX11_at_153 0 rfl 13 rfl in_X11_at_X11 (by decide) fl_X11_at_42 rfl ?_
                      refine j_bipush (v := 10) X dX11_at_156 (by decide) ?_
                      refine j_aload_n X dX11_at_158 rfl 3 rfl ?_
                      refine j_get (v := .ref (q 11)) X dX11_at_159 0 rfl 13 rfl in_X11_at_X11 (by decide) fl_X11_at_42 rfl ?_
                      refine j_bipush (v := 10) X dX11_at_162 (by decide) ?_
                      refine j_zald X dX11_at_164 2 rfl 10 rfl (by decide) (by decide) ?_
                      refine j_if_ne (tgt := 172) X dX11_at_165 (by decide) (fun c_165 => ?_) (fun c_165 => ?_)
                      · skip
                        refine j_iconst (v := 0) X dX11_at_172 rfl ?_
                        refine j_zast (ws' := [(q 0, .inr (10, mF 0 n q co cr po tx ty)), (q 10, aI G 320 (rg [z0, z1, z2, z3, z4, z5, z6, z7, z8, z9, z0, z11, z12, z13, z14, z15])), (q 11, aZ G 16 (upd sf_56 10 0)), (q 12, aI G 2 sig)]) X dX11_at_173 2 rfl 10 rfl (by decide) (by decide) (Or.inl rfl) rfl ?_
                        obtain ⟨y_57, ey_57⟩ : ∃ zz9 : Int, zz9 = -z0 := ⟨_, rfl⟩
                        have by_57 : bd 127 y_57 := by rw [ey_57]; exact bd_neg b0
                        have hS_y_57 : okS [z0, z1, z2, z3, z4, z5, z6, z7, z8, z9, y_57, z11, z12, z13, z14, z15] (upd sf_56 10 0) := by rw [ey_57]; exact okS_set (d := 10) rfl (by decide) hS_sf_56 (ok_flip1 (hS_sf_56 10 (by decide)) c_165)
                        refine j_setI (ws' := [(q 0, .inr (10, mF 0 n q co cr po tx ty)), (q 10, aI G 320 (rg [z0, z1, z2, z3, z4, z5, z6, z7, z8, z9, y_57, z11, z12, z13, z14, z15])), (q 11, aZ G 16 (upd sf_56 10 0)), (q 12, aI G 2 sig)]) (g := rg [z0, z1, z2, z3, z4, z5, z6, z7, z8, z9, y_57, z11, z12, z13, z14, z15]) 1 rfl (rg_abs (fun r => by rw [ey_57]; exact rg_flip (zs := [z0, z1, z2, z3, z4, z5, z6, z7, z8, z9, z0, z11, z12, z13, z14, z15]) (d := 10) (Nat.le_of_ble_eq_true rfl) r)) rfl ?_
                        refine j_aload_n X dX11_at_174 rfl 3 rfl ?_
                        refine j_bipush (v := 10) X dX11_at_175 (by decide) ?_
                        refine j_lload X dX11_at_177 0 rfl ?_
                        refine j_iconst (v := 0) X dX11_at_179 rfl ?_
                        refine j_aload_n X dX11_at_180 rfl 3 rfl ?_
                        refine j_get (v := .ref (q 12)) X dX11_at_181 0 rfl 16 rfl in_X11_at_X11 (by decide) fl_X11_at_45 rfl ?_
                        refine j_iload_n X dX11_at_184 rfl 4 rfl ?_
                        refine j_iald X dX11_at_185 3 rfl kk rfl gkk (by decide) ?_
                        refine j_isub X dX11_at_186 ?_
                        refine j_iconst (v := 1) X dX11_at_187 rfl ?_
                        refine j_iconst (v := 0) X dX11_at_188 rfl ?_
                        refine j_callV X dX11_at_189 (c_X11_cut_10_1 l G q 0 n co cr po tx ty z0 z1 z2 z3 z4 z5 z6 z7 z8 z9 y_57 z11 z12 z13 z14 z15 (upd sf_56 10 0) hS_y_57 tx (0 - (sig kk)) (bd_mono by_57 (by decide)) b2 hR b3 h3 btx (hs_ng hsgtx)) gX11_at_X11_cut rfl hy_X11_cut_V ⟨Nat.le_of_ble_eq_true rfl, Nat.le_of_ble_eq_true rfl⟩ 0 rfl rfl [0, 1, 2] rfl (by decide) rfl rfl (Nat.le_of_ble_eq_true rfl) ⟨Nat.le_of_ble_eq_true rfl, Nat.le_of_ble_eq_true rfl⟩ ?_
                        rintro _ ⟨y_59, y_60, y_61, y_62, y_63, y_64, y_65, y_66, y_67, y_68, sf_58⟩ ⟨rfl, ⟨E_69, hE_69, ey_61⟩, hS_sf_58⟩
                        dsimp only at ey_61
                        change J p l e rm_X11_at s m args below meth c Q G A 8 0 0 192 [(6, .long tx), (5, .int 0), (4, .int 1), (0, .ref (q 0)), (1, .int (nI kk)), (2, .int ax), (3, .int how)] [] [(q 0, .inr (10, mF 0 n q co cr po tx ty)), (q 10, aI G 320 (rg [z0, z1, z2, z3, y_59, y_60, y_61, y_62, y_63, y_64, y_57, z11, y_65, y_66, y_67, y_68])), (q 11, aZ G 16 sf_58), (q 12, aI G 2 sig)]
                        have hUw : (if ax.toInt = 0 then z0 else z1) = z0 := if_pos (show ax.toInt = 0 by omega)
                        have hFw : (if ax.toInt = 0 then tx.toInt else ty.toInt) = tx.toInt := if_pos (show ax.toInt = 0 by omega)
                        have hb9 := hV E_69 (by rw [hFw, show atN how.toInt tx.toInt z2 = tx.toInt * tx.toInt * z2 from if_neg (by omega)]; exact hE_69)
                        rw [hUw, hFw, show atV how.toInt z0 tx.toInt z2 z3 E_69 (sig kk).toInt = _ from (if_neg (by omega)).trans (if_pos (by omega))] at hb9
                        have e6x : y_61 = flA (-z0) (sg (-(sig kk).toInt * tx.toInt)) (tx.toInt * tx.toInt * z2) E_69 z3 := by rw [ey_61, ey_57, hs_nT hsgtx]
                        rw [← e6x] at hb9
                        refine j_lconst (v := 0) X dX11_at_192 rfl ?_
                        refine j_aload_n X dX11_at_193 rfl 3 rfl ?_
                        refine j_bipush (v := 6) X dX11_at_194 (by decide) ?_
                        refine j_callV X dX11_at_196 (c_X11_valueOf l G q 0 n co cr po tx ty [z0, z1, z2, z3, y_59, y_60, y_61, y_62, y_63, y_64, y_57, z11, y_65, y_66, y_67, y_68] rfl sf_58 6 6 rfl (by decide) (hS_sf_58 6 (by decide)) (by show Int.natAbs y_61 < _; omega)) gX11_at_X11_valueOf rfl hy_X11_valueOf_V ⟨Nat.le_of_ble_eq_true rfl, Nat.le_of_ble_eq_true rfl⟩ 0 rfl rfl [0, 1, 2] rfl (by decide) rfl rfl (Nat.le_of_ble_eq_true rfl) ⟨Nat.le_of_ble_eq_true rfl, Nat.le_of_ble_eq_true rfl⟩ ?_
                        rintro _ w_70 ⟨rfl, hw_70⟩
                        change J p l e rm_X11_at s m args below meth c Q G A 8 0 0 199 [(6, .long tx), (5, .int 0), (4, .int 1), (0, .ref (q 0)), (1, .int (nI kk)), (2, .int ax), (3, .int how)] [.long w_70, .long 0] [(q 0, .inr (10, mF 0 n q co cr po tx ty)), (q 10, aI G 320 (rg [z0, z1, z2, z3, y_59, y_60, y_61, y_62, y_63, y_64, y_57, z11, y_65, y_66, y_67, y_68])), (q 11, aZ G 16 sf_58), (q 12, aI G 2 sig)]
                        change w_70.toInt = y_61 at hw_70
                        refine j_lsub X dX11_at_199 ?_
                        exact E.2.2 200 _ (0 - w_70) ((0 - w_70), E_69, [z0, z1, z2, z3, y_59, y_60, y_61, y_62, y_63, y_64, y_57, z11, y_65, y_66, y_67, y_68], sf_58) dX11_at_200 (⟨rfl, by rw [hFw, show atN how.toInt tx.toInt z2 = tx.toInt * tx.toInt * z2 from if_neg (by omega)]; exact hE_69, by rw [hUw, hFw, show atV how.toInt z0 tx.toInt z2 z3 E_69 (sig kk).toInt = _ from (if_neg (by omega)).trans (if_pos (by omega))]; rw [← e6x, l_sub] <;> rw [lT0, hw_70] <;> omega, kp_i, hS_sf_58⟩) hr
                      · skip
                        refine j_iconst (v := 1) X dX11_at_168 rfl ?_
                        refine j_goto (tgt := 173) X dX11_at_169 (by decide) ?_
                        refine j_zast (ws' := [(q 0, .inr (10, mF 0 n q co cr po tx ty)), (q 10, aI G 320 (rg [z0, z1, z2, z3, z4, z5, z6, z7, z8, z9, z0, z11, z12, z13, z14, z15])), (q 11, aZ G 16 (upd sf_56 10 1)), (q 12, aI G 2 sig)]) X dX11_at_173 2 rfl 10 rfl (by decide) (by decide) (Or.inr rfl) rfl ?_
                        obtain ⟨y_71, ey_71⟩ : ∃ zz9 : Int, zz9 = -z0 := ⟨_, rfl⟩
                        have by_71 : bd 127 y_71 := by rw [ey_71]; exact bd_neg b0
                        have hS_y_71 : okS [z0, z1, z2, z3, z4, z5, z6, z7, z8, z9, y_71, z11, z12, z13, z14, z15] (upd sf_56 10 1) := by rw [ey_71]; exact okS_set (d := 10) rfl (by decide) hS_sf_56 (ok_flip0 (hS_sf_56 10 (by decide)) c_165)
                        refine j_setI (ws' := [(q 0, .inr (10, mF 0 n q co cr po tx ty)), (q 10, aI G 320 (rg [z0, z1, z2, z3, z4, z5, z6, z7, z8, z9, y_71, z11, z12, z13, z14, z15])), (q 11, aZ G 16 (upd sf_56 10 1)), (q 12, aI G 2 sig)]) (g := rg [z0, z1, z2, z3, z4, z5, z6, z7, z8, z9, y_71, z11, z12, z13, z14, z15]) 1 rfl (rg_abs (fun r => by rw [ey_71]; exact rg_flip (zs := [z0, z1, z2, z3, z4, z5, z6, z7, z8, z9, z0, z11, z12, z13, z14, z15]) (d := 10) (Nat.le_of_ble_eq_true rfl) r)) rfl ?_
                        refine j_aload_n X dX11_at_174 rfl 3 rfl ?_
                        refine j_bipush (v := 10) X dX11_at_175 (by decide) ?_
                        refine j_lload X dX11_at_177 0 rfl ?_
                        refine j_iconst (v := 0) X dX11_at_179 rfl ?_
                        refine j_aload_n X dX11_at_180 rfl 3 rfl ?_
                        refine j_get (v := .ref (q 12)) X dX11_at_181 0 rfl 16 rfl in_X11_at_X11 (by decide) fl_X11_at_45 rfl ?_
                        refine j_iload_n X dX11_at_184 rfl 4 rfl ?_
                        refine j_iald X dX11_at_185 3 rfl kk rfl gkk (by decide) ?_
                        refine j_isub X dX11_at_186 ?_
                        refine j_iconst (v := 1) X dX11_at_187 rfl ?_
                        refine j_iconst (v := 0) X dX11_at_188 rfl ?_
                        refine j_callV X dX11_at_189 (c_X11_cut_10_1 l G q 0 n co cr po tx ty z0 z1 z2 z3 z4 z5 z6 z7 z8 z9 y_71 z11 z12 z13 z14 z15 (upd sf_56 10 1) hS_y_71 tx (0 - (sig kk)) (bd_mono by_71 (by decide)) b2 hR b3 h3 btx (hs_ng hsgtx)) gX11_at_X11_cut rfl hy_X11_cut_V ⟨Nat.le_of_ble_eq_true rfl, Nat.le_of_ble_eq_true rfl⟩ 0 rfl rfl [0, 1, 2] rfl (by decide) rfl rfl (Nat.le_of_ble_eq_true rfl) ⟨Nat.le_of_ble_eq_true rfl, Nat.le_of_ble_eq_true rfl⟩ ?_
                        rintro _ ⟨y_73, y_74, y_75, y_76, y_77, y_78, y_79, y_80, y_81, y_82, sf_72⟩ ⟨rfl, ⟨E_83, hE_83, ey_75⟩, hS_sf_72⟩
                        dsimp only at ey_75
                        change J p l e rm_X11_at s m args below meth c Q G A 8 0 0 192 [(6, .long tx), (5, .int 0), (4, .int 1), (0, .ref (q 0)), (1, .int (nI kk)), (2, .int ax), (3, .int how)] [] [(q 0, .inr (10, mF 0 n q co cr po tx ty)), (q 10, aI G 320 (rg [z0, z1, z2, z3, y_73, y_74, y_75, y_76, y_77, y_78, y_71, z11, y_79, y_80, y_81, y_82])), (q 11, aZ G 16 sf_72), (q 12, aI G 2 sig)]
                        have hUw : (if ax.toInt = 0 then z0 else z1) = z0 := if_pos (show ax.toInt = 0 by omega)
                        have hFw : (if ax.toInt = 0 then tx.toInt else ty.toInt) = tx.toInt := if_pos (show ax.toInt = 0 by omega)
                        have hb9 := hV E_83 (by rw [hFw, show atN how.toInt tx.toInt z2 = tx.toInt * tx.toInt * z2 from if_neg (by omega)]; exact hE_83)
                        rw [hUw, hFw, show atV how.toInt z0 tx.toInt z2 z3 E_83 (sig kk).toInt = _ from (if_neg (by omega)).trans (if_pos (by omega))] at hb9
                        have e6x : y_75 = flA (-z0) (sg (-(sig kk).toInt * tx.toInt)) (tx.toInt * tx.toInt * z2) E_83 z3 := by rw [ey_75, ey_71, hs_nT hsgtx]
                        rw [← e6x] at hb9
                        refine j_lconst (v := 0) X dX11_at_192 rfl ?_
                        refine j_aload_n X dX11_at_193 rfl 3 rfl ?_
                        refine j_bipush (v := 6) X dX11_at_194 (by decide) ?_
                        refine j_callV X dX11_at_196 (c_X11_valueOf l G q 0 n co cr po tx ty [z0, z1, z2, z3, y_73, y_74, y_75, y_76, y_77, y_78, y_71, z11, y_79, y_80, y_81, y_82] rfl sf_72 6 6 rfl (by decide) (hS_sf_72 6 (by decide)) (by show Int.natAbs y_75 < _; omega)) gX11_at_X11_valueOf rfl hy_X11_valueOf_V ⟨Nat.le_of_ble_eq_true rfl, Nat.le_of_ble_eq_true rfl⟩ 0 rfl rfl [0, 1, 2] rfl (by decide) rfl rfl (Nat.le_of_ble_eq_true rfl) ⟨Nat.le_of_ble_eq_true rfl, Nat.le_of_ble_eq_true rfl⟩ ?_
                        rintro _ w_84 ⟨rfl, hw_84⟩
                        change J p l e rm_X11_at s m args below meth c Q G A 8 0 0 199 [(6, .long tx), (5, .int 0), (4, .int 1), (0, .ref (q 0)), (1, .int (nI kk)), (2, .int ax), (3, .int how)] [.long w_84, .long 0] [(q 0, .inr (10, mF 0 n q co cr po tx ty)), (q 10, aI G 320 (rg [z0, z1, z2, z3, y_73, y_74, y_75, y_76, y_77, y_78, y_71, z11, y_79, y_80, y_81, y_82])), (q 11, aZ G 16 sf_72), (q 12, aI G 2 sig)]
                        change w_84.toInt = y_75 at hw_84
                        refine j_lsub X dX11_at_199 ?_
                        exact E.2.2 200 _ (0 - w_84) ((0 - w_84), E_83, [z0, z1, z2, z3, y_73, y_74, y_75, y_76, y_77, y_78, y_71, z11, y_79, y_80, y_81, y_82], sf_72) dX11_at_200 (⟨rfl, by rw [hFw, show atN how.toInt tx.toInt z2 = tx.toInt * tx.toInt * z2 from if_neg (by omega)]; exact hE_83, by rw [hUw, hFw, show atV how.toInt z0 tx.toInt z2 z3 E_83 (sig kk).toInt = _ from (if_neg (by omega)).trans (if_pos (by omega))]; rw [← e6x, l_sub] <;> rw [lT0, hw_84] <;> omega, kp_i, hS_sf_72⟩) hr
                    · skip
                      first | simp only [bI_0, Decidable.not_not, sg_mul, sg_e0, sg_l0, sg_g0, sg_le0, sg_ge0, cmp_eq, cmp_lt, cmp_ge, cmp_gt, cmp_le, lT0, lT1] at c_101 | simp only [Int32.le_iff_toInt_le, Int32.lt_iff_toInt_lt, ← Int32.toInt_inj, iT0, iT1, iT2, iT3, iT4, iT5, iT6, iT7, iT8, iT9, iT10, iT11, iT12, iT13, iT14, iT15, iT16, iT19, iT20, iT31, iT32, iT42, iT64, iT200, iT318, iT319, iT1000, iTm1, iTm2] at c_101 | skip
                      refine j_aload_n X dX11_at_104 rfl 3 rfl ?_
                      refine j_iload X dX11_at_105 1 rfl ?_
                      refine j_lload X dX11_at_107 0 rfl ?_
                      refine j_aload_n X dX11_at_109 rfl 3 rfl ?_
                      refine j_get (v := .ref (q 12)) X dX11_at_110 0 rfl 16 rfl in_X11_at_X11 (by decide) fl_X11_at_45 rfl ?_
                      refine j_iload_n X dX11_at_113 rfl 4 rfl ?_
                      refine j_iald X dX11_at_114 3 rfl kk rfl gkk (by decide) ?_
                      refine j_iload_n X dX11_at_115 rfl 6 rfl ?_
                      refine j_if_ne (tgt := 123) X dX11_at_116 (by decide) (fun c_116 => ?_) (fun c_116 => ?_)
                      · skip
                        first | simp only [bI_0, Decidable.not_not, sg_mul, sg_e0, sg_l0, sg_g0, sg_le0, sg_ge0, cmp_eq, cmp_lt, cmp_ge, cmp_gt, cmp_le, lT0, lT1] at c_116 | simp only [Int32.le_iff_toInt_le, Int32.lt_iff_toInt_lt, ← Int32.toInt_inj, iT0, iT1, iT2, iT3, iT4, iT5, iT6, iT7, iT8, iT9, iT10, iT11, iT12, iT13, iT14, iT15, iT16, iT19, iT20, iT31, iT32, iT42, iT64, iT200, iT318, iT319, iT1000, iTm1, iTm2] at c_116 | skip
                        refine j_iconst (v := 2) X dX11_at_123 rfl ?_
                        refine j_iload_n X dX11_at_124 rfl 6 rfl ?_
                        refine j_iconst (v := 2) X dX11_at_125 rfl ?_
                        refine j_icmp_ne (tgt := 133) X dX11_at_126 (by decide) (fun c_126 => ?_) (fun c_126 => ?_)
                        · skip
                          first | simp only [bI_0, Decidable.not_not, sg_mul, sg_e0, sg_l0, sg_g0, sg_le0, sg_ge0, cmp_eq, cmp_lt, cmp_ge, cmp_gt, cmp_le, lT0, lT1] at c_126 | simp only [Int32.le_iff_toInt_le, Int32.lt_iff_toInt_lt, ← Int32.toInt_inj, iT0, iT1, iT2, iT3, iT4, iT5, iT6, iT7, iT8, iT9, iT10, iT11, iT12, iT13, iT14, iT15, iT16, iT19, iT20, iT31, iT32, iT42, iT64, iT200, iT318, iT319, iT1000, iTm1, iTm2] at c_126 | skip
                          exfalso; omega
                        · skip
                          first | simp only [bI_0, Decidable.not_not, sg_mul, sg_e0, sg_l0, sg_g0, sg_le0, sg_ge0, cmp_eq, cmp_lt, cmp_ge, cmp_gt, cmp_le, lT0, lT1] at c_126 | simp only [Int32.le_iff_toInt_le, Int32.lt_iff_toInt_lt, ← Int32.toInt_inj, iT0, iT1, iT2, iT3, iT4, iT5, iT6, iT7, iT8, iT9, iT10, iT11, iT12, iT13, iT14, iT15, iT16, iT19, iT20, iT31, iT32, iT42, iT64, iT200, iT318, iT319, iT1000, iTm1, iTm2] at c_126 | skip
                          refine j_iconst (v := 1) X dX11_at_129 rfl ?_
                          refine j_goto (tgt := 134) X dX11_at_130 (by decide) ?_
                          refine j_callV X dX11_at_134 (c_X11_cut_0_2 l G q 0 n co cr po tx ty z0 z1 z2 z3 z4 z5 z6 z7 z8 z9 z10 z11 z12 z13 z14 z15 sf hS tx (sig kk) (bd_mono b0 (by decide)) b2 hR b3 h3 btx hsgtx) gX11_at_X11_cut rfl hy_X11_cut_V ⟨Nat.le_of_ble_eq_true rfl, Nat.le_of_ble_eq_true rfl⟩ 0 rfl rfl [0, 1, 2] rfl (by decide) rfl rfl (Nat.le_of_ble_eq_true rfl) ⟨Nat.le_of_ble_eq_true rfl, Nat.le_of_ble_eq_true rfl⟩ ?_
                          rintro _ ⟨y_86, y_87, y_88, y_89, y_90, y_91, y_92, y_93, y_94, y_95, sf_85⟩ ⟨rfl, ⟨E_96, hE_96, ey_88⟩, hS_sf_85⟩
                          dsimp only at ey_88
                          change J p l e rm_X11_at s m args below meth c Q G A 8 0 0 137 [(6, .long tx), (5, .int 0), (4, .int 1), (0, .ref (q 0)), (1, .int (nI kk)), (2, .int ax), (3, .int how)] [] [(q 0, .inr (10, mF 0 n q co cr po tx ty)), (q 10, aI G 320 (rg [z0, z1, z2, z3, y_86, y_87, y_88, y_89, y_90, y_91, z10, z11, y_92, y_93, y_94, y_95])), (q 11, aZ G 16 sf_85), (q 12, aI G 2 sig)]
                          have hUw : (if ax.toInt = 0 then z0 else z1) = z0 := if_pos (show ax.toInt = 0 by omega)
                          have hFw : (if ax.toInt = 0 then tx.toInt else ty.toInt) = tx.toInt := if_pos (show ax.toInt = 0 by omega)
                          have hb9 := hV E_96 (by rw [hFw, show atN how.toInt tx.toInt z2 = 2 * tx.toInt * (2 * tx.toInt) * z2 from if_pos (by omega)]; exact hE_96)
                          rw [hUw, hFw, show atV how.toInt z0 tx.toInt z2 z3 E_96 (sig kk).toInt = _ from (if_neg (by omega)).trans (if_neg (by omega))] at hb9
                          rw [← ey_88] at hb9
                          refine j_aload_n X dX11_at_137 rfl 3 rfl ?_
                          refine j_bipush (v := 6) X dX11_at_138 (by decide) ?_
                          refine j_callV X dX11_at_140 (c_X11_valueOf l G q 0 n co cr po tx ty [z0, z1, z2, z3, y_86, y_87, y_88, y_89, y_90, y_91, z10, z11, y_92, y_93, y_94, y_95] rfl sf_85 6 6 rfl (by decide) (hS_sf_85 6 (by decide)) hb9) gX11_at_X11_valueOf rfl hy_X11_valueOf_V ⟨Nat.le_of_ble_eq_true rfl, Nat.le_of_ble_eq_true rfl⟩ 0 rfl rfl [0, 1, 2] rfl (by decide) rfl rfl (Nat.le_of_ble_eq_true rfl) ⟨Nat.le_of_ble_eq_true rfl, Nat.le_of_ble_eq_true rfl⟩ ?_
                          rintro _ w_97 ⟨rfl, hw_97⟩
                          change J p l e rm_X11_at s m args below meth c Q G A 8 0 0 143 [(6, .long tx), (5, .int 0), (4, .int 1), (0, .ref (q 0)), (1, .int (nI kk)), (2, .int ax), (3, .int how)] [.long w_97] [(q 0, .inr (10, mF 0 n q co cr po tx ty)), (q 10, aI G 320 (rg [z0, z1, z2, z3, y_86, y_87, y_88, y_89, y_90, y_91, z10, z11, y_92, y_93, y_94, y_95])), (q 11, aZ G 16 sf_85), (q 12, aI G 2 sig)]
                          change w_97.toInt = y_88 at hw_97
                          exact E.2.2 143 _ w_97 (w_97, E_96, [z0, z1, z2, z3, y_86, y_87, y_88, y_89, y_90, y_91, z10, z11, y_92, y_93, y_94, y_95], sf_85) dX11_at_143 (⟨rfl, by rw [hFw, show atN how.toInt tx.toInt z2 = 2 * tx.toInt * (2 * tx.toInt) * z2 from if_pos (by omega)]; exact hE_96, by rw [hUw, hFw, show atV how.toInt z0 tx.toInt z2 z3 E_96 (sig kk).toInt = _ from (if_neg (by omega)).trans (if_neg (by omega))]; rw [← ey_88]; exact hw_97, kp_i, hS_sf_85⟩) hr
                      · skip
                        first | simp only [bI_0, Decidable.not_not, sg_mul, sg_e0, sg_l0, sg_g0, sg_le0, sg_ge0, cmp_eq, cmp_lt, cmp_ge, cmp_gt, cmp_le, lT0, lT1] at c_116 | simp only [Int32.le_iff_toInt_le, Int32.lt_iff_toInt_lt, ← Int32.toInt_inj, iT0, iT1, iT2, iT3, iT4, iT5, iT6, iT7, iT8, iT9, iT10, iT11, iT12, iT13, iT14, iT15, iT16, iT19, iT20, iT31, iT32, iT42, iT64, iT200, iT318, iT319, iT1000, iTm1, iTm2] at c_116 | skip
                        refine j_iconst (v := 1) X dX11_at_119 rfl ?_
                        refine j_goto (tgt := 124) X dX11_at_120 (by decide) ?_
                        refine j_iload_n X dX11_at_124 rfl 6 rfl ?_
                        refine j_iconst (v := 2) X dX11_at_125 rfl ?_
                        refine j_icmp_ne (tgt := 133) X dX11_at_126 (by decide) (fun c_126 => ?_) (fun c_126 => ?_)
                        · skip
                          first | simp only [bI_0, Decidable.not_not, sg_mul, sg_e0, sg_l0, sg_g0, sg_le0, sg_ge0, cmp_eq, cmp_lt, cmp_ge, cmp_gt, cmp_le, lT0, lT1] at c_126 | simp only [Int32.le_iff_toInt_le, Int32.lt_iff_toInt_lt, ← Int32.toInt_inj, iT0, iT1, iT2, iT3, iT4, iT5, iT6, iT7, iT8, iT9, iT10, iT11, iT12, iT13, iT14, iT15, iT16, iT19, iT20, iT31, iT32, iT42, iT64, iT200, iT318, iT319, iT1000, iTm1, iTm2] at c_126 | skip
                          refine j_iconst (v := 0) X dX11_at_133 rfl ?_
                          refine j_callV X dX11_at_134 (c_X11_cut_0_1 l G q 0 n co cr po tx ty z0 z1 z2 z3 z4 z5 z6 z7 z8 z9 z10 z11 z12 z13 z14 z15 sf hS tx (sig kk) (bd_mono b0 (by decide)) b2 hR b3 h3 btx hsgtx) gX11_at_X11_cut rfl hy_X11_cut_V ⟨Nat.le_of_ble_eq_true rfl, Nat.le_of_ble_eq_true rfl⟩ 0 rfl rfl [0, 1, 2] rfl (by decide) rfl rfl (Nat.le_of_ble_eq_true rfl) ⟨Nat.le_of_ble_eq_true rfl, Nat.le_of_ble_eq_true rfl⟩ ?_
                          rintro _ ⟨y_99, y_100, y_101, y_102, y_103, y_104, y_105, y_106, y_107, y_108, sf_98⟩ ⟨rfl, ⟨E_109, hE_109, ey_101⟩, hS_sf_98⟩
                          dsimp only at ey_101
                          change J p l e rm_X11_at s m args below meth c Q G A 8 0 0 137 [(6, .long tx), (5, .int 0), (4, .int 1), (0, .ref (q 0)), (1, .int (nI kk)), (2, .int ax), (3, .int how)] [] [(q 0, .inr (10, mF 0 n q co cr po tx ty)), (q 10, aI G 320 (rg [z0, z1, z2, z3, y_99, y_100, y_101, y_102, y_103, y_104, z10, z11, y_105, y_106, y_107, y_108])), (q 11, aZ G 16 sf_98), (q 12, aI G 2 sig)]
                          have hUw : (if ax.toInt = 0 then z0 else z1) = z0 := if_pos (show ax.toInt = 0 by omega)
                          have hFw : (if ax.toInt = 0 then tx.toInt else ty.toInt) = tx.toInt := if_pos (show ax.toInt = 0 by omega)
                          have hb9 := hV E_109 (by rw [hFw, show atN how.toInt tx.toInt z2 = tx.toInt * tx.toInt * z2 from if_neg (by omega)]; exact hE_109)
                          rw [hUw, hFw, show atV how.toInt z0 tx.toInt z2 z3 E_109 (sig kk).toInt = _ from if_pos (by omega)] at hb9
                          rw [← ey_101] at hb9
                          refine j_aload_n X dX11_at_137 rfl 3 rfl ?_
                          refine j_bipush (v := 6) X dX11_at_138 (by decide) ?_
                          refine j_callV X dX11_at_140 (c_X11_valueOf l G q 0 n co cr po tx ty [z0, z1, z2, z3, y_99, y_100, y_101, y_102, y_103, y_104, z10, z11, y_105, y_106, y_107, y_108] rfl sf_98 6 6 rfl (by decide) (hS_sf_98 6 (by decide)) hb9) gX11_at_X11_valueOf rfl hy_X11_valueOf_V ⟨Nat.le_of_ble_eq_true rfl, Nat.le_of_ble_eq_true rfl⟩ 0 rfl rfl [0, 1, 2] rfl (by decide) rfl rfl (Nat.le_of_ble_eq_true rfl) ⟨Nat.le_of_ble_eq_true rfl, Nat.le_of_ble_eq_true rfl⟩ ?_
                          rintro _ w_110 ⟨rfl, hw_110⟩
                          change J p l e rm_X11_at s m args below meth c Q G A 8 0 0 143 [(6, .long tx), (5, .int 0), (4, .int 1), (0, .ref (q 0)), (1, .int (nI kk)), (2, .int ax), (3, .int how)] [.long w_110] [(q 0, .inr (10, mF 0 n q co cr po tx ty)), (q 10, aI G 320 (rg [z0, z1, z2, z3, y_99, y_100, y_101, y_102, y_103, y_104, z10, z11, y_105, y_106, y_107, y_108])), (q 11, aZ G 16 sf_98), (q 12, aI G 2 sig)]
                          change w_110.toInt = y_101 at hw_110
                          exact E.2.2 143 _ w_110 (w_110, E_109, [z0, z1, z2, z3, y_99, y_100, y_101, y_102, y_103, y_104, z10, z11, y_105, y_106, y_107, y_108], sf_98) dX11_at_143 (⟨rfl, by rw [hFw, show atN how.toInt tx.toInt z2 = tx.toInt * tx.toInt * z2 from if_neg (by omega)]; exact hE_109, by rw [hUw, hFw, show atV how.toInt z0 tx.toInt z2 z3 E_109 (sig kk).toInt = _ from if_pos (by omega)]; rw [← ey_101]; exact hw_110, kp_i, hS_sf_98⟩) hr
                        · skip
                          first | simp only [bI_0, Decidable.not_not, sg_mul, sg_e0, sg_l0, sg_g0, sg_le0, sg_ge0, cmp_eq, cmp_lt, cmp_ge, cmp_gt, cmp_le, lT0, lT1] at c_126 | simp only [Int32.le_iff_toInt_le, Int32.lt_iff_toInt_lt, ← Int32.toInt_inj, iT0, iT1, iT2, iT3, iT4, iT5, iT6, iT7, iT8, iT9, iT10, iT11, iT12, iT13, iT14, iT15, iT16, iT19, iT20, iT31, iT32, iT42, iT64, iT200, iT318, iT319, iT1000, iTm1, iTm2] at c_126 | skip
                          exfalso; omega
              · skip
                exact absurd c_42 hC

