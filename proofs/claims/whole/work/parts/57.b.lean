abbrev rm_X2_isParted : Room := { frames := 3, cells := 0, slots := 0, locals := 96 }
theorem in_X2_isParted_X2 : ∀ w ∈ u_ws RX2 TX2 10, w ∈ wsX2_isParted := by decide +kernel
theorem fl_X2_isParted_25 : Cond.fieldLink RX2 25 (TX2 4).1 (TX2 4).2.1 (TX2 4).2.2.1 ∈ wsX2_isParted := by decide +kernel
theorem in_X2_isParted_X7 : ∀ w ∈ u_ws RX7 TX7 6, w ∈ wsX2_isParted := by decide +kernel
theorem fl_X2_isParted_74 : Cond.fieldLink RX2 74 (TX7 4).1 (TX7 4).2.1 (TX7 4).2.2.1 ∈ wsX2_isParted := by decide +kernel
theorem fl_X2_isParted_77 : Cond.fieldLink RX2 77 (TX7 5).1 (TX7 5).2.1 (TX7 5).2.2.1 ∈ wsX2_isParted := by decide +kernel
theorem fl_X2_isParted_52 : Cond.fieldLink RX2 52 (TX7 0).1 (TX7 0).2.1 (TX7 0).2.2.1 ∈ wsX2_isParted := by decide +kernel
theorem fl_X2_isParted_58 : Cond.fieldLink RX2 58 (TX7 1).1 (TX7 1).2.1 (TX7 1).2.2.1 ∈ wsX2_isParted := by decide +kernel
theorem fl_X2_isParted_28 : Cond.fieldLink RX2 28 (TX2 5).1 (TX2 5).2.1 (TX2 5).2.2.1 ∈ wsX2_isParted := by decide +kernel
theorem fl_X2_isParted_65 : Cond.fieldLink RX2 65 (TX7 2).1 (TX7 2).2.1 (TX7 2).2.2.1 ∈ wsX2_isParted := by decide +kernel
theorem fl_X2_isParted_68 : Cond.fieldLink RX2 68 (TX7 3).1 (TX7 3).2.1 (TX7 3).2.2.1 ∈ wsX2_isParted := by decide +kernel
set_option maxHeartbeats 4000000 in
set_option maxRecDepth 100000 in
theorem c_X2_isParted (l : Launch) (G : jG) (o ab be na nb le ri qu sh aab abe ana anb ale ari aqu ash : Nat) (me mw : Option Nat) (fle fri : Nat → Int64) (s0 : Nat) (sax say sbx sby sdx sdy : Int64) (hs : sgH sax say sbx sby sdx sdy) (t0 : Nat) (tax tay tbx tby tdx tdy : Int64) (ht : sgH tax tay tbx tby tdx tdy) : Ct l yX2_isParted wsX2_isParted rm_X2_isParted G [.ref o, .ref s0, .ref t0] [(o, .inr (2, [.ref ab, .ref be, .ref na, .ref nb, .ref le, .ref ri, .ref qu, .ref sh, va_rf (me), va_rf (mw)])), (le, .inr (8, [.ref ale])), (ale, aJ G 8 fle), (ri, .inr (8, [.ref ari])), (ari, aJ G 8 fri), (s0, .inr (7, [.long sax, .long say, .long sbx, .long sby, .long sdx, .long sdy])), (t0, .inr (7, [.long tax, .long tay, .long tbx, .long tby, .long tdx, .long tdy]))] (S := (Nat → Int64) × (Nat → Int64)) (fun r _ => r = some (.int (bI (tn sax.toInt say.toInt sbx.toInt sby.toInt tax.toInt tay.toInt * tn sax.toInt say.toInt sbx.toInt sby.toInt tbx.toInt tby.toInt < 0)))) (fun u => [(o, .inr (2, [.ref ab, .ref be, .ref na, .ref nb, .ref le, .ref ri, .ref qu, .ref sh, va_rf (me), va_rf (mw)])), (le, .inr (8, [.ref ale])), (ale, aJ G 8 u.1), (ri, .inr (8, [.ref ari])), (ari, aJ G 8 u.2), (s0, .inr (7, [.long sax, .long say, .long sbx, .long sby, .long sdx, .long sdy])), (t0, .inr (7, [.long tax, .long tay, .long tbx, .long tby, .long tdx, .long tdy]))]) (fun _ => []) := by
  refine c_intro (cc := cX2_isParted) (maxL := 3) (ret := (some .boolean)) (by decide) rfl (Nat.le_of_ble_eq_true rfl) (fun _ => by simp only [List.map_cons, List.map_nil]) ?_
  intro p e s m args below meth c Q A X hr hin E
  change J p l e rm_X2_isParted s m args below meth c Q G A 3 0 0 0 [(0, .ref o), (1, .ref s0), (2, .ref t0)] [] [(o, .inr (2, [.ref ab, .ref be, .ref na, .ref nb, .ref le, .ref ri, .ref qu, .ref sh, va_rf (me), va_rf (mw)])), (le, .inr (8, [.ref ale])), (ale, aJ G 8 fle), (ri, .inr (8, [.ref ari])), (ari, aJ G 8 fri), (s0, .inr (7, [.long sax, .long say, .long sbx, .long sby, .long sdx, .long sdy])), (t0, .inr (7, [.long tax, .long tay, .long tbx, .long tby, .long tdx, .long tdy]))]
  refine j_aload_n X dX2_isParted_0 rfl 0 rfl ?_
  refine j_get (v := .ref le) X dX2_isParted_1 0 rfl 4 rfl in_X2_isParted_X2 (by decide) fl_X2_isParted_25 rfl ?_
  refine j_aload_n X dX2_isParted_4 rfl 1 rfl ?_
  refine j_get (v := .long sdx) X dX2_isParted_5 5 rfl 4 rfl in_X2_isParted_X7 (by decide) fl_X2_isParted_74 rfl ?_
  refine j_aload_n X dX2_isParted_8 rfl 1 rfl ?_
  refine j_get (v := .long sdy) X dX2_isParted_9 5 rfl 5 rfl in_X2_isParted_X7 (by decide) fl_X2_isParted_77 rfl ?_
  refine j_aload_n X dX2_isParted_12 rfl 2 rfl ?_
  refine j_get (v := .long tax) X dX2_isParted_13 6 rfl 0 rfl in_X2_isParted_X7 (by decide) fl_X2_isParted_52 rfl ?_
  refine j_aload_n X dX2_isParted_16 rfl 1 rfl ?_
  refine j_get (v := .long sax) X dX2_isParted_17 5 rfl 0 rfl in_X2_isParted_X7 (by decide) fl_X2_isParted_52 rfl ?_
  refine j_lsub X dX2_isParted_20 ?_
  refine j_aload_n X dX2_isParted_21 rfl 2 rfl ?_
  refine j_get (v := .long tay) X dX2_isParted_22 6 rfl 1 rfl in_X2_isParted_X7 (by decide) fl_X2_isParted_58 rfl ?_
  refine j_aload_n X dX2_isParted_25 rfl 1 rfl ?_
  refine j_get (v := .long say) X dX2_isParted_26 5 rfl 1 rfl in_X2_isParted_X7 (by decide) fl_X2_isParted_58 rfl ?_
  refine j_lsub X dX2_isParted_29 ?_
  refine j_callV X dX2_isParted_30 (c_X9_setToCross l G le ale fle sdx sdy (tax - sax) (tay - say) (sg_dl hs)) gX2_isParted_X9_setToCross rfl hy_X9_setToCross_V ⟨Nat.le_of_ble_eq_true rfl, Nat.le_of_ble_eq_true rfl⟩ 0 rfl rfl [1, 2] rfl (by decide) rfl rfl (Nat.le_of_ble_eq_true rfl) ⟨Nat.le_of_ble_eq_true rfl, Nat.le_of_ble_eq_true rfl⟩ ?_
  rintro _ ⟨⟩ rfl
  change J p l e rm_X2_isParted s m args below meth c Q G A 3 0 0 33 [(0, .ref o), (1, .ref s0), (2, .ref t0)] [] [(o, .inr (2, [.ref ab, .ref be, .ref na, .ref nb, .ref le, .ref ri, .ref qu, .ref sh, va_rf (me), va_rf (mw)])), (le, .inr (8, [.ref ale])), (ale, aJ G 8 (dg (sdx.toInt * (tay - say).toInt - sdy.toInt * (tax - sax).toInt))), (ri, .inr (8, [.ref ari])), (ari, aJ G 8 fri), (s0, .inr (7, [.long sax, .long say, .long sbx, .long sby, .long sdx, .long sdy])), (t0, .inr (7, [.long tax, .long tay, .long tbx, .long tby, .long tdx, .long tdy]))]
  rw [show (sdx.toInt * (tay - say).toInt - sdy.toInt * (tax - sax).toInt) = tn sax.toInt say.toInt sbx.toInt sby.toInt tax.toInt tay.toInt from (cr_t hs ht.1.1 ht.1.2.1)]
  refine j_aload_n X dX2_isParted_33 rfl 0 rfl ?_
  refine j_get (v := .ref ri) X dX2_isParted_34 0 rfl 5 rfl in_X2_isParted_X2 (by decide) fl_X2_isParted_28 rfl ?_
  refine j_aload_n X dX2_isParted_37 rfl 1 rfl ?_
  refine j_get (v := .long sdx) X dX2_isParted_38 5 rfl 4 rfl in_X2_isParted_X7 (by decide) fl_X2_isParted_74 rfl ?_
  refine j_aload_n X dX2_isParted_41 rfl 1 rfl ?_
  refine j_get (v := .long sdy) X dX2_isParted_42 5 rfl 5 rfl in_X2_isParted_X7 (by decide) fl_X2_isParted_77 rfl ?_
  refine j_aload_n X dX2_isParted_45 rfl 2 rfl ?_
  refine j_get (v := .long tbx) X dX2_isParted_46 6 rfl 2 rfl in_X2_isParted_X7 (by decide) fl_X2_isParted_65 rfl ?_
  refine j_aload_n X dX2_isParted_49 rfl 1 rfl ?_
  refine j_get (v := .long sax) X dX2_isParted_50 5 rfl 0 rfl in_X2_isParted_X7 (by decide) fl_X2_isParted_52 rfl ?_
  refine j_lsub X dX2_isParted_53 ?_
  refine j_aload_n X dX2_isParted_54 rfl 2 rfl ?_
  refine j_get (v := .long tby) X dX2_isParted_55 6 rfl 3 rfl in_X2_isParted_X7 (by decide) fl_X2_isParted_68 rfl ?_
  refine j_aload_n X dX2_isParted_58 rfl 1 rfl ?_
  refine j_get (v := .long say) X dX2_isParted_59 5 rfl 1 rfl in_X2_isParted_X7 (by decide) fl_X2_isParted_58 rfl ?_
  refine j_lsub X dX2_isParted_62 ?_
  refine j_callV X dX2_isParted_63 (c_X9_setToCross l G ri ari fri sdx sdy (tbx - sax) (tby - say) (sg_dl hs)) gX2_isParted_X9_setToCross rfl hy_X9_setToCross_V ⟨Nat.le_of_ble_eq_true rfl, Nat.le_of_ble_eq_true rfl⟩ 0 rfl rfl [3, 4] rfl (by decide) rfl rfl (Nat.le_of_ble_eq_true rfl) ⟨Nat.le_of_ble_eq_true rfl, Nat.le_of_ble_eq_true rfl⟩ ?_
  rintro _ ⟨⟩ rfl
  change J p l e rm_X2_isParted s m args below meth c Q G A 3 0 0 66 [(0, .ref o), (1, .ref s0), (2, .ref t0)] [] [(o, .inr (2, [.ref ab, .ref be, .ref na, .ref nb, .ref le, .ref ri, .ref qu, .ref sh, va_rf (me), va_rf (mw)])), (le, .inr (8, [.ref ale])), (ale, aJ G 8 (dg (tn sax.toInt say.toInt sbx.toInt sby.toInt tax.toInt tay.toInt))), (ri, .inr (8, [.ref ari])), (ari, aJ G 8 (dg (sdx.toInt * (tby - say).toInt - sdy.toInt * (tbx - sax).toInt))), (s0, .inr (7, [.long sax, .long say, .long sbx, .long sby, .long sdx, .long sdy])), (t0, .inr (7, [.long tax, .long tay, .long tbx, .long tby, .long tdx, .long tdy]))]
  rw [show (sdx.toInt * (tby - say).toInt - sdy.toInt * (tbx - sax).toInt) = tn sax.toInt say.toInt sbx.toInt sby.toInt tbx.toInt tby.toInt from (cr_t hs ht.1.2.2.1 ht.1.2.2.2)]
  refine j_aload_n X dX2_isParted_66 rfl 0 rfl ?_
  refine j_get (v := .ref le) X dX2_isParted_67 0 rfl 4 rfl in_X2_isParted_X2 (by decide) fl_X2_isParted_25 rfl ?_
  refine j_callV X dX2_isParted_70 (c_X9_sign l G le ale (tn sax.toInt say.toInt sbx.toInt sby.toInt tax.toInt tay.toInt) (cr_b hs ht.1.1 ht.1.2.1)) gX2_isParted_X9_sign rfl hy_X9_sign_V ⟨Nat.le_of_ble_eq_true rfl, Nat.le_of_ble_eq_true rfl⟩ 0 rfl rfl [1, 2] rfl (by decide) rfl rfl (Nat.le_of_ble_eq_true rfl) ⟨Nat.le_of_ble_eq_true rfl, Nat.le_of_ble_eq_true rfl⟩ ?_
  rintro _ ⟨⟩ rfl
  change J p l e rm_X2_isParted s m args below meth c Q G A 3 0 0 73 [(0, .ref o), (1, .ref s0), (2, .ref t0)] [.int (sg (tn sax.toInt say.toInt sbx.toInt sby.toInt tax.toInt tay.toInt))] [(o, .inr (2, [.ref ab, .ref be, .ref na, .ref nb, .ref le, .ref ri, .ref qu, .ref sh, va_rf (me), va_rf (mw)])), (le, .inr (8, [.ref ale])), (ale, aJ G 8 (dg (tn sax.toInt say.toInt sbx.toInt sby.toInt tax.toInt tay.toInt))), (ri, .inr (8, [.ref ari])), (ari, aJ G 8 (dg (tn sax.toInt say.toInt sbx.toInt sby.toInt tbx.toInt tby.toInt))), (s0, .inr (7, [.long sax, .long say, .long sbx, .long sby, .long sdx, .long sdy])), (t0, .inr (7, [.long tax, .long tay, .long tbx, .long tby, .long tdx, .long tdy]))]
  refine j_aload_n X dX2_isParted_73 rfl 0 rfl ?_
  refine j_get (v := .ref ri) X dX2_isParted_74 0 rfl 5 rfl in_X2_isParted_X2 (by decide) fl_X2_isParted_28 rfl ?_
  refine j_callV X dX2_isParted_77 (c_X9_sign l G ri ari (tn sax.toInt say.toInt sbx.toInt sby.toInt tbx.toInt tby.toInt) (cr_b hs ht.1.2.2.1 ht.1.2.2.2)) gX2_isParted_X9_sign rfl hy_X9_sign_V ⟨Nat.le_of_ble_eq_true rfl, Nat.le_of_ble_eq_true rfl⟩ 0 rfl rfl [3, 4] rfl (by decide) rfl rfl (Nat.le_of_ble_eq_true rfl) ⟨Nat.le_of_ble_eq_true rfl, Nat.le_of_ble_eq_true rfl⟩ ?_
  rintro _ ⟨⟩ rfl
  change J p l e rm_X2_isParted s m args below meth c Q G A 3 0 0 80 [(0, .ref o), (1, .ref s0), (2, .ref t0)] [.int (sg (tn sax.toInt say.toInt sbx.toInt sby.toInt tbx.toInt tby.toInt)), .int (sg (tn sax.toInt say.toInt sbx.toInt sby.toInt tax.toInt tay.toInt))] [(o, .inr (2, [.ref ab, .ref be, .ref na, .ref nb, .ref le, .ref ri, .ref qu, .ref sh, va_rf (me), va_rf (mw)])), (le, .inr (8, [.ref ale])), (ale, aJ G 8 (dg (tn sax.toInt say.toInt sbx.toInt sby.toInt tax.toInt tay.toInt))), (ri, .inr (8, [.ref ari])), (ari, aJ G 8 (dg (tn sax.toInt say.toInt sbx.toInt sby.toInt tbx.toInt tby.toInt))), (s0, .inr (7, [.long sax, .long say, .long sbx, .long sby, .long sdx, .long sdy])), (t0, .inr (7, [.long tax, .long tay, .long tbx, .long tby, .long tdx, .long tdy]))]
  refine j_imul X dX2_isParted_80 ?_
  refine j_if_ge (tgt := 88) X dX2_isParted_81 (by decide) (fun c_81 => ?_) (fun c_81 => ?_)
  · skip
    rw [sg_mul, sg_ge0] at c_81
    refine j_iconst (v := 0) X dX2_isParted_88 rfl ?_
    exact E.2.1 89 _ 0 (dg (tn sax.toInt say.toInt sbx.toInt sby.toInt tax.toInt tay.toInt), dg (tn sax.toInt say.toInt sbx.toInt sby.toInt tbx.toInt tby.toInt)) _ dX2_isParted_89 (by rw [bI_f (by omega)]) hr rfl
  · skip
    rw [sg_mul, sg_ge0] at c_81
    refine j_iconst (v := 1) X dX2_isParted_84 rfl ?_
    refine j_goto (tgt := 89) X dX2_isParted_85 (by decide) ?_
    exact E.2.1 89 _ 1 (dg (tn sax.toInt say.toInt sbx.toInt sby.toInt tax.toInt tay.toInt), dg (tn sax.toInt say.toInt sbx.toInt sby.toInt tbx.toInt tby.toInt)) _ dX2_isParted_89 (by rw [bI_t (by omega)]) hr rfl

theorem hy_X2_isParted_V : yX2_isParted.cls = RX2 ∧ yX2_isParted.cls ≠ "java/lang/invoke/MethodHandle" ∧ yX2_isParted.cls ≠ "java/lang/invoke/VarHandle" ∧ (parseMethodDescriptor yX2_isParted.desc).map (fun d => d.parameters.length) = some 2 := by decide +kernel
set_option maxHeartbeats 4000000 in
set_option maxRecDepth 100000 in
theorem c_X2_isParted_s (l : Launch) (G : jG) (o ab be na nb le ri qu sh aab abe ana anb ale ari aqu ash : Nat) (me mw : Option Nat) (fle fri : Nat → Int64) (s0 : Nat) (sax say sbx sby sdx sdy : Int64) (hs : sgH sax say sbx sby sdx sdy) : Ct l yX2_isParted wsX2_isParted rm_X2_isParted G [.ref o, .ref s0, .ref s0] [(o, .inr (2, [.ref ab, .ref be, .ref na, .ref nb, .ref le, .ref ri, .ref qu, .ref sh, va_rf (me), va_rf (mw)])), (le, .inr (8, [.ref ale])), (ale, aJ G 8 fle), (ri, .inr (8, [.ref ari])), (ari, aJ G 8 fri), (s0, .inr (7, [.long sax, .long say, .long sbx, .long sby, .long sdx, .long sdy]))] (S := (Nat → Int64) × (Nat → Int64)) (fun r _ => r = some (.int (bI (tn sax.toInt say.toInt sbx.toInt sby.toInt sax.toInt say.toInt * tn sax.toInt say.toInt sbx.toInt sby.toInt sbx.toInt sby.toInt < 0)))) (fun u => [(o, .inr (2, [.ref ab, .ref be, .ref na, .ref nb, .ref le, .ref ri, .ref qu, .ref sh, va_rf (me), va_rf (mw)])), (le, .inr (8, [.ref ale])), (ale, aJ G 8 u.1), (ri, .inr (8, [.ref ari])), (ari, aJ G 8 u.2), (s0, .inr (7, [.long sax, .long say, .long sbx, .long sby, .long sdx, .long sdy]))]) (fun _ => []) := by
  refine c_intro (cc := cX2_isParted) (maxL := 3) (ret := (some .boolean)) (by decide) rfl (Nat.le_of_ble_eq_true rfl) (fun _ => by simp only [List.map_cons, List.map_nil]) ?_
  intro p e s m args below meth c Q A X hr hin E
  change J p l e rm_X2_isParted s m args below meth c Q G A 3 0 0 0 [(0, .ref o), (1, .ref s0), (2, .ref s0)] [] [(o, .inr (2, [.ref ab, .ref be, .ref na, .ref nb, .ref le, .ref ri, .ref qu, .ref sh, va_rf (me), va_rf (mw)])), (le, .inr (8, [.ref ale])), (ale, aJ G 8 fle), (ri, .inr (8, [.ref ari])), (ari, aJ G 8 fri), (s0, .inr (7, [.long sax, .long say, .long sbx, .long sby, .long sdx, .long sdy]))]
  refine j_aload_n X dX2_isParted_0 rfl 0 rfl ?_
  refine j_get (v := .ref le) X dX2_isParted_1 0 rfl 4 rfl in_X2_isParted_X2 (by decide) fl_X2_isParted_25 rfl ?_
  refine j_aload_n X dX2_isParted_4 rfl 1 rfl ?_
  refine j_get (v := .long sdx) X dX2_isParted_5 5 rfl 4 rfl in_X2_isParted_X7 (by decide) fl_X2_isParted_74 rfl ?_
  refine j_aload_n X dX2_isParted_8 rfl 1 rfl ?_
  refine j_get (v := .long sdy) X dX2_isParted_9 5 rfl 5 rfl in_X2_isParted_X7 (by decide) fl_X2_isParted_77 rfl ?_
  refine j_aload_n X dX2_isParted_12 rfl 2 rfl ?_
  refine j_get (v := .long sax) X dX2_isParted_13 5 rfl 0 rfl in_X2_isParted_X7 (by decide) fl_X2_isParted_52 rfl ?_
  refine j_aload_n X dX2_isParted_16 rfl 1 rfl ?_
  refine j_get (v := .long sax) X dX2_isParted_17 5 rfl 0 rfl in_X2_isParted_X7 (by decide) fl_X2_isParted_52 rfl ?_
  refine j_lsub X dX2_isParted_20 ?_
  refine j_aload_n X dX2_isParted_21 rfl 2 rfl ?_
  refine j_get (v := .long say) X dX2_isParted_22 5 rfl 1 rfl in_X2_isParted_X7 (by decide) fl_X2_isParted_58 rfl ?_
  refine j_aload_n X dX2_isParted_25 rfl 1 rfl ?_
  refine j_get (v := .long say) X dX2_isParted_26 5 rfl 1 rfl in_X2_isParted_X7 (by decide) fl_X2_isParted_58 rfl ?_
  refine j_lsub X dX2_isParted_29 ?_
  refine j_callV X dX2_isParted_30 (c_X9_setToCross l G le ale fle sdx sdy (sax - sax) (say - say) (sg_dl hs)) gX2_isParted_X9_setToCross rfl hy_X9_setToCross_V ⟨Nat.le_of_ble_eq_true rfl, Nat.le_of_ble_eq_true rfl⟩ 0 rfl rfl [1, 2] rfl (by decide) rfl rfl (Nat.le_of_ble_eq_true rfl) ⟨Nat.le_of_ble_eq_true rfl, Nat.le_of_ble_eq_true rfl⟩ ?_
  rintro _ ⟨⟩ rfl
  change J p l e rm_X2_isParted s m args below meth c Q G A 3 0 0 33 [(0, .ref o), (1, .ref s0), (2, .ref s0)] [] [(o, .inr (2, [.ref ab, .ref be, .ref na, .ref nb, .ref le, .ref ri, .ref qu, .ref sh, va_rf (me), va_rf (mw)])), (le, .inr (8, [.ref ale])), (ale, aJ G 8 (dg (sdx.toInt * (say - say).toInt - sdy.toInt * (sax - sax).toInt))), (ri, .inr (8, [.ref ari])), (ari, aJ G 8 fri), (s0, .inr (7, [.long sax, .long say, .long sbx, .long sby, .long sdx, .long sdy]))]
  rw [show (sdx.toInt * (say - say).toInt - sdy.toInt * (sax - sax).toInt) = tn sax.toInt say.toInt sbx.toInt sby.toInt sax.toInt say.toInt from (cr_t hs hs.1.1 hs.1.2.1)]
  refine j_aload_n X dX2_isParted_33 rfl 0 rfl ?_
  refine j_get (v := .ref ri) X dX2_isParted_34 0 rfl 5 rfl in_X2_isParted_X2 (by decide) fl_X2_isParted_28 rfl ?_
  refine j_aload_n X dX2_isParted_37 rfl 1 rfl ?_
  refine j_get (v := .long sdx) X dX2_isParted_38 5 rfl 4 rfl in_X2_isParted_X7 (by decide) fl_X2_isParted_74 rfl ?_
  refine j_aload_n X dX2_isParted_41 rfl 1 rfl ?_
  refine j_get (v := .long sdy) X dX2_isParted_42 5 rfl 5 rfl in_X2_isParted_X7 (by decide) fl_X2_isParted_77 rfl ?_
  refine j_aload_n X dX2_isParted_45 rfl 2 rfl ?_
  refine j_get (v := .long sbx) X dX2_isParted_46 5 rfl 2 rfl in_X2_isParted_X7 (by decide) fl_X2_isParted_65 rfl ?_
  refine j_aload_n X dX2_isParted_49 rfl 1 rfl ?_
  refine j_get (v := .long sax) X dX2_isParted_50 5 rfl 0 rfl in_X2_isParted_X7 (by decide) fl_X2_isParted_52 rfl ?_
  refine j_lsub X dX2_isParted_53 ?_
  refine j_aload_n X dX2_isParted_54 rfl 2 rfl ?_
  refine j_get (v := .long sby) X dX2_isParted_55 5 rfl 3 rfl in_X2_isParted_X7 (by decide) fl_X2_isParted_68 rfl ?_
  refine j_aload_n X dX2_isParted_58 rfl 1 rfl ?_
  refine j_get (v := .long say) X dX2_isParted_59 5 rfl 1 rfl in_X2_isParted_X7 (by decide) fl_X2_isParted_58 rfl ?_
  refine j_lsub X dX2_isParted_62 ?_
  refine j_callV X dX2_isParted_63 (c_X9_setToCross l G ri ari fri sdx sdy (sbx - sax) (sby - say) (sg_dl hs)) gX2_isParted_X9_setToCross rfl hy_X9_setToCross_V ⟨Nat.le_of_ble_eq_true rfl, Nat.le_of_ble_eq_true rfl⟩ 0 rfl rfl [3, 4] rfl (by decide) rfl rfl (Nat.le_of_ble_eq_true rfl) ⟨Nat.le_of_ble_eq_true rfl, Nat.le_of_ble_eq_true rfl⟩ ?_
  rintro _ ⟨⟩ rfl
  change J p l e rm_X2_isParted s m args below meth c Q G A 3 0 0 66 [(0, .ref o), (1, .ref s0), (2, .ref s0)] [] [(o, .inr (2, [.ref ab, .ref be, .ref na, .ref nb, .ref le, .ref ri, .ref qu, .ref sh, va_rf (me), va_rf (mw)])), (le, .inr (8, [.ref ale])), (ale, aJ G 8 (dg (tn sax.toInt say.toInt sbx.toInt sby.toInt sax.toInt say.toInt))), (ri, .inr (8, [.ref ari])), (ari, aJ G 8 (dg (sdx.toInt * (sby - say).toInt - sdy.toInt * (sbx - sax).toInt))), (s0, .inr (7, [.long sax, .long say, .long sbx, .long sby, .long sdx, .long sdy]))]
  rw [show (sdx.toInt * (sby - say).toInt - sdy.toInt * (sbx - sax).toInt) = tn sax.toInt say.toInt sbx.toInt sby.toInt sbx.toInt sby.toInt from (cr_t hs hs.1.2.2.1 hs.1.2.2.2)]
  refine j_aload_n X dX2_isParted_66 rfl 0 rfl ?_
  refine j_get (v := .ref le) X dX2_isParted_67 0 rfl 4 rfl in_X2_isParted_X2 (by decide) fl_X2_isParted_25 rfl ?_
  refine j_callV X dX2_isParted_70 (c_X9_sign l G le ale (tn sax.toInt say.toInt sbx.toInt sby.toInt sax.toInt say.toInt) (cr_b hs hs.1.1 hs.1.2.1)) gX2_isParted_X9_sign rfl hy_X9_sign_V ⟨Nat.le_of_ble_eq_true rfl, Nat.le_of_ble_eq_true rfl⟩ 0 rfl rfl [1, 2] rfl (by decide) rfl rfl (Nat.le_of_ble_eq_true rfl) ⟨Nat.le_of_ble_eq_true rfl, Nat.le_of_ble_eq_true rfl⟩ ?_
  rintro _ ⟨⟩ rfl
  change J p l e rm_X2_isParted s m args below meth c Q G A 3 0 0 73 [(0, .ref o), (1, .ref s0), (2, .ref s0)] [.int (sg (tn sax.toInt say.toInt sbx.toInt sby.toInt sax.toInt say.toInt))] [(o, .inr (2, [.ref ab, .ref be, .ref na, .ref nb, .ref le, .ref ri, .ref qu, .ref sh, va_rf (me), va_rf (mw)])), (le, .inr (8, [.ref ale])), (ale, aJ G 8 (dg (tn sax.toInt say.toInt sbx.toInt sby.toInt sax.toInt say.toInt))), (ri, .inr (8, [.ref ari])), (ari, aJ G 8 (dg (tn sax.toInt say.toInt sbx.toInt sby.toInt sbx.toInt sby.toInt))), (s0, .inr (7, [.long sax, .long say, .long sbx, .long sby, .long sdx, .long sdy]))]
  refine j_aload_n X dX2_isParted_73 rfl 0 rfl ?_
  refine j_get (v := .ref ri) X dX2_isParted_74 0 rfl 5 rfl in_X2_isParted_X2 (by decide) fl_X2_isParted_28 rfl ?_
  refine j_callV X dX2_isParted_77 (c_X9_sign l G ri ari (tn sax.toInt say.toInt sbx.toInt sby.toInt sbx.toInt sby.toInt) (cr_b hs hs.1.2.2.1 hs.1.2.2.2)) gX2_isParted_X9_sign rfl hy_X9_sign_V ⟨Nat.le_of_ble_eq_true rfl, Nat.le_of_ble_eq_true rfl⟩ 0 rfl rfl [3, 4] rfl (by decide) rfl rfl (Nat.le_of_ble_eq_true rfl) ⟨Nat.le_of_ble_eq_true rfl, Nat.le_of_ble_eq_true rfl⟩ ?_
  rintro _ ⟨⟩ rfl
  change J p l e rm_X2_isParted s m args below meth c Q G A 3 0 0 80 [(0, .ref o), (1, .ref s0), (2, .ref s0)] [.int (sg (tn sax.toInt say.toInt sbx.toInt sby.toInt sbx.toInt sby.toInt)), .int (sg (tn sax.toInt say.toInt sbx.toInt sby.toInt sax.toInt say.toInt))] [(o, .inr (2, [.ref ab, .ref be, .ref na, .ref nb, .ref le, .ref ri, .ref qu, .ref sh, va_rf (me), va_rf (mw)])), (le, .inr (8, [.ref ale])), (ale, aJ G 8 (dg (tn sax.toInt say.toInt sbx.toInt sby.toInt sax.toInt say.toInt))), (ri, .inr (8, [.ref ari])), (ari, aJ G 8 (dg (tn sax.toInt say.toInt sbx.toInt sby.toInt sbx.toInt sby.toInt))), (s0, .inr (7, [.long sax, .long say, .long sbx, .long sby, .long sdx, .long sdy]))]
  refine j_imul X dX2_isParted_80 ?_
  refine j_if_ge (tgt := 88) X dX2_isParted_81 (by decide) (fun c_81 => ?_) (fun c_81 => ?_)
  · skip
    rw [sg_mul, sg_ge0] at c_81
    refine j_iconst (v := 0) X dX2_isParted_88 rfl ?_
    exact E.2.1 89 _ 0 (dg (tn sax.toInt say.toInt sbx.toInt sby.toInt sax.toInt say.toInt), dg (tn sax.toInt say.toInt sbx.toInt sby.toInt sbx.toInt sby.toInt)) _ dX2_isParted_89 (by rw [bI_f (by omega)]) hr rfl
  · skip
    rw [sg_mul, sg_ge0] at c_81
    refine j_iconst (v := 1) X dX2_isParted_84 rfl ?_
    refine j_goto (tgt := 89) X dX2_isParted_85 (by decide) ?_
    exact E.2.1 89 _ 1 (dg (tn sax.toInt say.toInt sbx.toInt sby.toInt sax.toInt say.toInt), dg (tn sax.toInt say.toInt sbx.toInt sby.toInt sbx.toInt sby.toInt)) _ dX2_isParted_89 (by rw [bI_t (by omega)]) hr rfl

