abbrev rm_X2_setNew : Room := { frames := 3, cells := 0, slots := 0, locals := 96 }
theorem in_X2_setNew_X7 : ∀ w ∈ u_ws RX7 TX7 6, w ∈ wsX2_setNew := by decide +kernel
theorem fl_X2_setNew_52 : Cond.fieldLink RX2 52 (TX7 0).1 (TX7 0).2.1 (TX7 0).2.2.1 ∈ wsX2_setNew := by decide +kernel
theorem fl_X2_setNew_58 : Cond.fieldLink RX2 58 (TX7 1).1 (TX7 1).2.1 (TX7 1).2.2.1 ∈ wsX2_setNew := by decide +kernel
theorem in_X2_setNew_X2 : ∀ w ∈ u_ws RX2 TX2 10, w ∈ wsX2_setNew := by decide +kernel
theorem fl_X2_setNew_22 : Cond.fieldLink RX2 22 (TX2 3).1 (TX2 3).2.1 (TX2 3).2.2.1 ∈ wsX2_setNew := by decide +kernel
theorem fl_X2_setNew_74 : Cond.fieldLink RX2 74 (TX7 4).1 (TX7 4).2.1 (TX7 4).2.2.1 ∈ wsX2_setNew := by decide +kernel
theorem fl_X2_setNew_77 : Cond.fieldLink RX2 77 (TX7 5).1 (TX7 5).2.1 (TX7 5).2.2.1 ∈ wsX2_setNew := by decide +kernel
theorem fl_X2_setNew_25 : Cond.fieldLink RX2 25 (TX2 4).1 (TX2 4).2.1 (TX2 4).2.2.1 ∈ wsX2_setNew := by decide +kernel
theorem fl_X2_setNew_19 : Cond.fieldLink RX2 19 (TX2 2).1 (TX2 2).2.1 (TX2 2).2.2.1 ∈ wsX2_setNew := by decide +kernel
theorem fl_X2_setNew_65 : Cond.fieldLink RX2 65 (TX7 2).1 (TX7 2).2.1 (TX7 2).2.2.1 ∈ wsX2_setNew := by decide +kernel
theorem fl_X2_setNew_68 : Cond.fieldLink RX2 68 (TX7 3).1 (TX7 3).2.1 (TX7 3).2.2.1 ∈ wsX2_setNew := by decide +kernel
set_option maxHeartbeats 4000000 in
set_option maxRecDepth 100000 in
theorem c_X2_setNew (l : Launch) (G : jG) (o ab be na nb le ri qu sh aab abe ana anb ale ari aqu ash : Nat) (me mw : Option Nat) (fna fnb fle : Nat → Int64) (s0 : Nat) (sax say sbx sby sdx sdy : Int64) (hs : sgH sax say sbx sby sdx sdy) (x y : Int64) (hx : inC x.toInt) (hy : inC y.toInt) : Ct l yX2_setNew wsX2_setNew rm_X2_setNew G [.ref o, .ref s0, .long x, .long y] [(o, .inr (2, [.ref ab, .ref be, .ref na, .ref nb, .ref le, .ref ri, .ref qu, .ref sh, va_rf (me), va_rf (mw)])), (na, .inr (8, [.ref ana])), (ana, aJ G 8 fna), (nb, .inr (8, [.ref anb])), (anb, aJ G 8 fnb), (le, .inr (8, [.ref ale])), (ale, aJ G 8 fle), (s0, .inr (7, [.long sax, .long say, .long sbx, .long sby, .long sdx, .long sdy]))] (S := Int × Int × (Nat → Int64)) (fun r u => r = none ∧ u.1 = pdA sax.toInt say.toInt sbx.toInt sby.toInt x.toInt y.toInt ∧ u.2.1 = pdB sax.toInt say.toInt sbx.toInt sby.toInt x.toInt y.toInt) (fun u => [(o, .inr (2, [.ref ab, .ref be, .ref na, .ref nb, .ref le, .ref ri, .ref qu, .ref sh, va_rf (me), va_rf (mw)])), (na, .inr (8, [.ref ana])), (ana, aJ G 8 (dg u.1)), (nb, .inr (8, [.ref anb])), (anb, aJ G 8 (dg u.2.1)), (le, .inr (8, [.ref ale])), (ale, aJ G 8 u.2.2), (s0, .inr (7, [.long sax, .long say, .long sbx, .long sby, .long sdx, .long sdy]))]) (fun _ => []) := by
  refine c_intro (cc := cX2_setNew) (maxL := 10) (ret := none) (by decide) rfl (Nat.le_of_ble_eq_true rfl) (fun _ => by simp only [List.map_cons, List.map_nil]) ?_
  intro p e s m args below meth c Q A X hr hin E
  change J p l e rm_X2_setNew s m args below meth c Q G A 10 0 0 0 [(0, .ref o), (1, .ref s0), (2, .long x), (4, .long y)] [] [(o, .inr (2, [.ref ab, .ref be, .ref na, .ref nb, .ref le, .ref ri, .ref qu, .ref sh, va_rf (me), va_rf (mw)])), (na, .inr (8, [.ref ana])), (ana, aJ G 8 fna), (nb, .inr (8, [.ref anb])), (anb, aJ G 8 fnb), (le, .inr (8, [.ref ale])), (ale, aJ G 8 fle), (s0, .inr (7, [.long sax, .long say, .long sbx, .long sby, .long sdx, .long sdy]))]
  refine j_lload_n X dX2_setNew_0 rfl 2 rfl ?_
  refine j_aload_n X dX2_setNew_1 rfl 1 rfl ?_
  refine j_get (v := .long sax) X dX2_setNew_2 7 rfl 0 rfl in_X2_setNew_X7 (by decide) fl_X2_setNew_52 rfl ?_
  refine j_lsub X dX2_setNew_5 ?_
  refine j_topl (fun x_1 ex_1 => ?_)
  refine j_lstore (L' := [(6, .long x_1), (0, .ref o), (1, .ref s0), (2, .long x), (4, .long y)]) X dX2_setNew_6 (by decide) rfl ?_
  refine j_lload X dX2_setNew_8 4 rfl ?_
  refine j_aload_n X dX2_setNew_10 rfl 2 rfl ?_
  refine j_get (v := .long say) X dX2_setNew_11 7 rfl 1 rfl in_X2_setNew_X7 (by decide) fl_X2_setNew_58 rfl ?_
  refine j_lsub X dX2_setNew_14 ?_
  refine j_topl (fun x_2 ex_2 => ?_)
  refine j_lstore (L' := [(8, .long x_2), (6, .long x_1), (0, .ref o), (1, .ref s0), (2, .long x), (4, .long y)]) X dX2_setNew_15 (by decide) rfl ?_
  have hpx : x_1.toInt = x.toInt - sax.toInt := by rw [ex_1]; exact l_sC hx hs.1.1
  have hpy : x_2.toInt = y.toInt - say.toInt := by rw [ex_2]; exact l_sC hy hs.1.2.1
  have bx1 : bd 41 x_1.toInt := by rw [hpx]; exact bd_sC hx hs.1.1
  have bx2 : bd 41 x_2.toInt := by rw [hpy]; exact bd_sC hy hs.1.2.1
  have bx3 : bd 41 sdx.toInt := by rw [hs.2.1]; exact bd_sC hs.1.2.2.1 hs.1.1
  have bx4 : bd 41 sdy.toInt := by rw [hs.2.2]; exact bd_sC hs.1.2.2.2 hs.1.2.1
  have hBB := sn_bB bx3 bx4
  refine j_aload_n X dX2_setNew_17 rfl 2 rfl ?_
  refine j_get (v := .ref nb) X dX2_setNew_18 0 rfl 3 rfl in_X2_setNew_X2 (by decide) fl_X2_setNew_22 rfl ?_
  refine j_aload_n X dX2_setNew_21 rfl 3 rfl ?_
  refine j_get (v := .long sdx) X dX2_setNew_22 7 rfl 4 rfl in_X2_setNew_X7 (by decide) fl_X2_setNew_74 rfl ?_
  refine j_aload_n X dX2_setNew_25 rfl 3 rfl ?_
  refine j_get (v := .long sdy) X dX2_setNew_26 7 rfl 5 rfl in_X2_setNew_X7 (by decide) fl_X2_setNew_77 rfl ?_
  refine j_aload_n X dX2_setNew_29 rfl 3 rfl ?_
  refine j_get (v := .long sdx) X dX2_setNew_30 7 rfl 4 rfl in_X2_setNew_X7 (by decide) fl_X2_setNew_74 rfl ?_
  refine j_aload_n X dX2_setNew_33 rfl 3 rfl ?_
  refine j_get (v := .long sdy) X dX2_setNew_34 7 rfl 5 rfl in_X2_setNew_X7 (by decide) fl_X2_setNew_77 rfl ?_
  refine j_callV X dX2_setNew_37 (c_X9_setToDot l G nb anb fnb sdx sdy sdx sdy) gX2_setNew_X9_setToDot rfl hy_X9_setToDot_V ⟨Nat.le_of_ble_eq_true rfl, Nat.le_of_ble_eq_true rfl⟩ 0 rfl rfl [3, 4] rfl (by decide) rfl rfl (Nat.le_of_ble_eq_true rfl) ⟨Nat.le_of_ble_eq_true rfl, Nat.le_of_ble_eq_true rfl⟩ ?_
  rintro _ ⟨⟩ rfl
  change J p l e rm_X2_setNew s m args below meth c Q G A 10 0 0 40 [(8, .long x_2), (6, .long x_1), (0, .ref o), (1, .ref s0), (2, .long x), (4, .long y)] [] [(o, .inr (2, [.ref ab, .ref be, .ref na, .ref nb, .ref le, .ref ri, .ref qu, .ref sh, va_rf (me), va_rf (mw)])), (na, .inr (8, [.ref ana])), (ana, aJ G 8 fna), (nb, .inr (8, [.ref anb])), (anb, aJ G 8 (dg (sdx.toInt * sdx.toInt + sdy.toInt * sdy.toInt))), (le, .inr (8, [.ref ale])), (ale, aJ G 8 fle), (s0, .inr (7, [.long sax, .long say, .long sbx, .long sby, .long sdx, .long sdy]))]
  refine j_aload_n X dX2_setNew_40 rfl 2 rfl ?_
  refine j_get (v := .ref le) X dX2_setNew_41 0 rfl 4 rfl in_X2_setNew_X2 (by decide) fl_X2_setNew_25 rfl ?_
  refine j_lload X dX2_setNew_44 1 rfl ?_
  refine j_lload X dX2_setNew_46 0 rfl ?_
  refine j_aload_n X dX2_setNew_48 rfl 3 rfl ?_
  refine j_get (v := .long sdx) X dX2_setNew_49 7 rfl 4 rfl in_X2_setNew_X7 (by decide) fl_X2_setNew_74 rfl ?_
  refine j_aload_n X dX2_setNew_52 rfl 3 rfl ?_
  refine j_get (v := .long sdy) X dX2_setNew_53 7 rfl 5 rfl in_X2_setNew_X7 (by decide) fl_X2_setNew_77 rfl ?_
  refine j_callV X dX2_setNew_56 (c_X9_setToDot l G le ale fle x_1 x_2 sdx sdy) gX2_setNew_X9_setToDot rfl hy_X9_setToDot_V ⟨Nat.le_of_ble_eq_true rfl, Nat.le_of_ble_eq_true rfl⟩ 0 rfl rfl [5, 6] rfl (by decide) rfl rfl (Nat.le_of_ble_eq_true rfl) ⟨Nat.le_of_ble_eq_true rfl, Nat.le_of_ble_eq_true rfl⟩ ?_
  rintro _ ⟨⟩ rfl
  change J p l e rm_X2_setNew s m args below meth c Q G A 10 0 0 59 [(8, .long x_2), (6, .long x_1), (0, .ref o), (1, .ref s0), (2, .long x), (4, .long y)] [] [(o, .inr (2, [.ref ab, .ref be, .ref na, .ref nb, .ref le, .ref ri, .ref qu, .ref sh, va_rf (me), va_rf (mw)])), (na, .inr (8, [.ref ana])), (ana, aJ G 8 fna), (nb, .inr (8, [.ref anb])), (anb, aJ G 8 (dg (sdx.toInt * sdx.toInt + sdy.toInt * sdy.toInt))), (le, .inr (8, [.ref ale])), (ale, aJ G 8 (dg (x_1.toInt * sdx.toInt + x_2.toInt * sdy.toInt))), (s0, .inr (7, [.long sax, .long say, .long sbx, .long sby, .long sdx, .long sdy]))]
  refine j_aload_n X dX2_setNew_59 rfl 2 rfl ?_
  refine j_get (v := .ref le) X dX2_setNew_60 0 rfl 4 rfl in_X2_setNew_X2 (by decide) fl_X2_setNew_25 rfl ?_
  refine j_callV X dX2_setNew_63 (c_X9_sign l G le ale (x_1.toInt * sdx.toInt + x_2.toInt * sdy.toInt) (sgnB (sn_bA bx3 bx4 bx1 bx2) (by decide))) gX2_setNew_X9_sign rfl hy_X9_sign_V ⟨Nat.le_of_ble_eq_true rfl, Nat.le_of_ble_eq_true rfl⟩ 0 rfl rfl [5, 6] rfl (by decide) rfl rfl (Nat.le_of_ble_eq_true rfl) ⟨Nat.le_of_ble_eq_true rfl, Nat.le_of_ble_eq_true rfl⟩ ?_
  rintro _ ⟨⟩ rfl
  change J p l e rm_X2_setNew s m args below meth c Q G A 10 0 0 66 [(8, .long x_2), (6, .long x_1), (0, .ref o), (1, .ref s0), (2, .long x), (4, .long y)] [.int (sg (x_1.toInt * sdx.toInt + x_2.toInt * sdy.toInt))] [(o, .inr (2, [.ref ab, .ref be, .ref na, .ref nb, .ref le, .ref ri, .ref qu, .ref sh, va_rf (me), va_rf (mw)])), (na, .inr (8, [.ref ana])), (ana, aJ G 8 fna), (nb, .inr (8, [.ref anb])), (anb, aJ G 8 (dg (sdx.toInt * sdx.toInt + sdy.toInt * sdy.toInt))), (le, .inr (8, [.ref ale])), (ale, aJ G 8 (dg (x_1.toInt * sdx.toInt + x_2.toInt * sdy.toInt))), (s0, .inr (7, [.long sax, .long say, .long sbx, .long sby, .long sdx, .long sdy]))]
  refine j_if_gt (tgt := 95) X dX2_setNew_66 (by decide) (fun c_66 => ?_) (fun c_66 => ?_)
  · skip
    rw [sg_g0, ← Int.not_le] at c_66
    refine j_aload_n X dX2_setNew_95 rfl 2 rfl ?_
    refine j_get (v := .ref le) X dX2_setNew_96 0 rfl 4 rfl in_X2_setNew_X2 (by decide) fl_X2_setNew_25 rfl ?_
    refine j_aload_n X dX2_setNew_99 rfl 2 rfl ?_
    refine j_get (v := .ref nb) X dX2_setNew_100 0 rfl 3 rfl in_X2_setNew_X2 (by decide) fl_X2_setNew_22 rfl ?_
    refine j_callV X dX2_setNew_103 (c_X9_against l G le ale nb anb (x_1.toInt * sdx.toInt + x_2.toInt * sdy.toInt) (sdx.toInt * sdx.toInt + sdy.toInt * sdy.toInt) (nnB (sn_bA bx3 bx4 bx1 bx2) (by omega) (by decide)) (nnB hBB.1 hBB.2 (by decide))) gX2_setNew_X9_against rfl hy_X9_against_V ⟨Nat.le_of_ble_eq_true rfl, Nat.le_of_ble_eq_true rfl⟩ 0 rfl rfl [5, 6, 3, 4] rfl (by decide) rfl rfl (Nat.le_of_ble_eq_true rfl) ⟨Nat.le_of_ble_eq_true rfl, Nat.le_of_ble_eq_true rfl⟩ ?_
    rintro _ ⟨⟩ rfl
    change J p l e rm_X2_setNew s m args below meth c Q G A 10 0 0 106 [(8, .long x_2), (6, .long x_1), (0, .ref o), (1, .ref s0), (2, .long x), (4, .long y)] [.int (sg ((x_1.toInt * sdx.toInt + x_2.toInt * sdy.toInt) - (sdx.toInt * sdx.toInt + sdy.toInt * sdy.toInt)))] [(o, .inr (2, [.ref ab, .ref be, .ref na, .ref nb, .ref le, .ref ri, .ref qu, .ref sh, va_rf (me), va_rf (mw)])), (na, .inr (8, [.ref ana])), (ana, aJ G 8 fna), (nb, .inr (8, [.ref anb])), (anb, aJ G 8 (dg (sdx.toInt * sdx.toInt + sdy.toInt * sdy.toInt))), (le, .inr (8, [.ref ale])), (ale, aJ G 8 (dg (x_1.toInt * sdx.toInt + x_2.toInt * sdy.toInt))), (s0, .inr (7, [.long sax, .long say, .long sbx, .long sby, .long sdx, .long sdy]))]
    refine j_if_lt (tgt := 153) X dX2_setNew_106 (by decide) (fun c_106 => ?_) (fun c_106 => ?_)
    · skip
      rw [sg_l0] at c_106
      refine j_aload_n X dX2_setNew_153 rfl 2 rfl ?_
      refine j_get (v := .ref le) X dX2_setNew_154 0 rfl 4 rfl in_X2_setNew_X2 (by decide) fl_X2_setNew_25 rfl ?_
      refine j_aload_n X dX2_setNew_157 rfl 3 rfl ?_
      refine j_get (v := .long sdx) X dX2_setNew_158 7 rfl 4 rfl in_X2_setNew_X7 (by decide) fl_X2_setNew_74 rfl ?_
      refine j_aload_n X dX2_setNew_161 rfl 3 rfl ?_
      refine j_get (v := .long sdy) X dX2_setNew_162 7 rfl 5 rfl in_X2_setNew_X7 (by decide) fl_X2_setNew_77 rfl ?_
      refine j_lload X dX2_setNew_165 1 rfl ?_
      refine j_lload X dX2_setNew_167 0 rfl ?_
      refine j_callV X dX2_setNew_169 (c_X9_setToCross l G le ale (dg (x_1.toInt * sdx.toInt + x_2.toInt * sdy.toInt)) sdx sdy x_1 x_2 (sg_dl hs)) gX2_setNew_X9_setToCross rfl hy_X9_setToCross_V ⟨Nat.le_of_ble_eq_true rfl, Nat.le_of_ble_eq_true rfl⟩ 0 rfl rfl [5, 6] rfl (by decide) rfl rfl (Nat.le_of_ble_eq_true rfl) ⟨Nat.le_of_ble_eq_true rfl, Nat.le_of_ble_eq_true rfl⟩ ?_
      rintro _ ⟨⟩ rfl
      change J p l e rm_X2_setNew s m args below meth c Q G A 10 0 0 172 [(8, .long x_2), (6, .long x_1), (0, .ref o), (1, .ref s0), (2, .long x), (4, .long y)] [] [(o, .inr (2, [.ref ab, .ref be, .ref na, .ref nb, .ref le, .ref ri, .ref qu, .ref sh, va_rf (me), va_rf (mw)])), (na, .inr (8, [.ref ana])), (ana, aJ G 8 fna), (nb, .inr (8, [.ref anb])), (anb, aJ G 8 (dg (sdx.toInt * sdx.toInt + sdy.toInt * sdy.toInt))), (le, .inr (8, [.ref ale])), (ale, aJ G 8 (dg (sdx.toInt * x_2.toInt - sdy.toInt * x_1.toInt))), (s0, .inr (7, [.long sax, .long say, .long sbx, .long sby, .long sdx, .long sdy]))]
      refine j_aload_n X dX2_setNew_172 rfl 2 rfl ?_
      refine j_get (v := .ref na) X dX2_setNew_173 0 rfl 2 rfl in_X2_setNew_X2 (by decide) fl_X2_setNew_19 rfl ?_
      refine j_aload_n X dX2_setNew_176 rfl 2 rfl ?_
      refine j_get (v := .ref le) X dX2_setNew_177 0 rfl 4 rfl in_X2_setNew_X2 (by decide) fl_X2_setNew_25 rfl ?_
      refine j_aload_n X dX2_setNew_180 rfl 2 rfl ?_
      refine j_get (v := .ref le) X dX2_setNew_181 0 rfl 4 rfl in_X2_setNew_X2 (by decide) fl_X2_setNew_25 rfl ?_
      refine j_callV X dX2_setNew_184 (c_X9_setToProduct_s l G na ana le ale fna (sdx.toInt * x_2.toInt - sdy.toInt * x_1.toInt)) gX2_setNew_X9_setToProduct rfl hy_X9_setToProduct_V ⟨Nat.le_of_ble_eq_true rfl, Nat.le_of_ble_eq_true rfl⟩ 0 rfl rfl [1, 2, 5, 6] rfl (by decide) rfl rfl (Nat.le_of_ble_eq_true rfl) ⟨Nat.le_of_ble_eq_true rfl, Nat.le_of_ble_eq_true rfl⟩ ?_
      rintro _ ⟨⟩ rfl
      change J p l e rm_X2_setNew s m args below meth c Q G A 10 0 0 187 [(8, .long x_2), (6, .long x_1), (0, .ref o), (1, .ref s0), (2, .long x), (4, .long y)] [] [(o, .inr (2, [.ref ab, .ref be, .ref na, .ref nb, .ref le, .ref ri, .ref qu, .ref sh, va_rf (me), va_rf (mw)])), (na, .inr (8, [.ref ana])), (ana, aJ G 8 (dg ((sdx.toInt * x_2.toInt - sdy.toInt * x_1.toInt) * (sdx.toInt * x_2.toInt - sdy.toInt * x_1.toInt)))), (nb, .inr (8, [.ref anb])), (anb, aJ G 8 (dg (sdx.toInt * sdx.toInt + sdy.toInt * sdy.toInt))), (le, .inr (8, [.ref ale])), (ale, aJ G 8 (dg (sdx.toInt * x_2.toInt - sdy.toInt * x_1.toInt))), (s0, .inr (7, [.long sax, .long say, .long sbx, .long sby, .long sdx, .long sdy]))]
      exact E.1 187 _ (((sdx.toInt * x_2.toInt - sdy.toInt * x_1.toInt) * (sdx.toInt * x_2.toInt - sdy.toInt * x_1.toInt)), (sdx.toInt * sdx.toInt + sdy.toInt * sdy.toInt), dg (sdx.toInt * x_2.toInt - sdy.toInt * x_1.toInt)) dX2_setNew_187 (⟨rfl, (qn_3 hs.2.1 hs.2.2 hpx hpy c_66 c_106).1, (qn_3 hs.2.1 hs.2.2 hpx hpy c_66 c_106).2⟩) hr
    · skip
      rw [sg_l0] at c_106
      refine j_aload_n X dX2_setNew_109 rfl 2 rfl ?_
      refine j_get (v := .ref na) X dX2_setNew_110 0 rfl 2 rfl in_X2_setNew_X2 (by decide) fl_X2_setNew_19 rfl ?_
      refine j_lload_n X dX2_setNew_113 rfl 4 rfl ?_
      refine j_aload_n X dX2_setNew_114 rfl 3 rfl ?_
      refine j_get (v := .long sbx) X dX2_setNew_115 7 rfl 2 rfl in_X2_setNew_X7 (by decide) fl_X2_setNew_65 rfl ?_
      refine j_lsub X dX2_setNew_118 ?_
      refine j_lload X dX2_setNew_119 5 rfl ?_
      refine j_aload_n X dX2_setNew_121 rfl 3 rfl ?_
      refine j_get (v := .long sby) X dX2_setNew_122 7 rfl 3 rfl in_X2_setNew_X7 (by decide) fl_X2_setNew_68 rfl ?_
      refine j_lsub X dX2_setNew_125 ?_
      refine j_lload_n X dX2_setNew_126 rfl 4 rfl ?_
      refine j_aload_n X dX2_setNew_127 rfl 3 rfl ?_
      refine j_get (v := .long sbx) X dX2_setNew_128 7 rfl 2 rfl in_X2_setNew_X7 (by decide) fl_X2_setNew_65 rfl ?_
      refine j_lsub X dX2_setNew_131 ?_
      refine j_lload X dX2_setNew_132 5 rfl ?_
      refine j_aload_n X dX2_setNew_134 rfl 3 rfl ?_
      refine j_get (v := .long sby) X dX2_setNew_135 7 rfl 3 rfl in_X2_setNew_X7 (by decide) fl_X2_setNew_68 rfl ?_
      refine j_lsub X dX2_setNew_138 ?_
      refine j_callV X dX2_setNew_139 (c_X9_setToDot l G na ana fna (x - sbx) (y - sby) (x - sbx) (y - sby)) gX2_setNew_X9_setToDot rfl hy_X9_setToDot_V ⟨Nat.le_of_ble_eq_true rfl, Nat.le_of_ble_eq_true rfl⟩ 0 rfl rfl [1, 2] rfl (by decide) rfl rfl (Nat.le_of_ble_eq_true rfl) ⟨Nat.le_of_ble_eq_true rfl, Nat.le_of_ble_eq_true rfl⟩ ?_
      rintro _ ⟨⟩ rfl
      change J p l e rm_X2_setNew s m args below meth c Q G A 10 0 0 142 [(8, .long x_2), (6, .long x_1), (0, .ref o), (1, .ref s0), (2, .long x), (4, .long y)] [] [(o, .inr (2, [.ref ab, .ref be, .ref na, .ref nb, .ref le, .ref ri, .ref qu, .ref sh, va_rf (me), va_rf (mw)])), (na, .inr (8, [.ref ana])), (ana, aJ G 8 (dg ((x - sbx).toInt * (x - sbx).toInt + (y - sby).toInt * (y - sby).toInt))), (nb, .inr (8, [.ref anb])), (anb, aJ G 8 (dg (sdx.toInt * sdx.toInt + sdy.toInt * sdy.toInt))), (le, .inr (8, [.ref ale])), (ale, aJ G 8 (dg (x_1.toInt * sdx.toInt + x_2.toInt * sdy.toInt))), (s0, .inr (7, [.long sax, .long say, .long sbx, .long sby, .long sdx, .long sdy]))]
      refine j_aload_n X dX2_setNew_142 rfl 2 rfl ?_
      refine j_get (v := .ref nb) X dX2_setNew_143 0 rfl 3 rfl in_X2_setNew_X2 (by decide) fl_X2_setNew_22 rfl ?_
      refine j_lconst (v := 1) X dX2_setNew_146 rfl ?_
      refine j_callV X dX2_setNew_147 (c_X9_setTo l G nb anb (dg (sdx.toInt * sdx.toInt + sdy.toInt * sdy.toInt)) 1) gX2_setNew_X9_setTo rfl hy_X9_setTo_V ⟨Nat.le_of_ble_eq_true rfl, Nat.le_of_ble_eq_true rfl⟩ 0 rfl rfl [3, 4] rfl (by decide) rfl rfl (Nat.le_of_ble_eq_true rfl) ⟨Nat.le_of_ble_eq_true rfl, Nat.le_of_ble_eq_true rfl⟩ ?_
      rintro _ ⟨⟩ rfl
      change J p l e rm_X2_setNew s m args below meth c Q G A 10 0 0 150 [(8, .long x_2), (6, .long x_1), (0, .ref o), (1, .ref s0), (2, .long x), (4, .long y)] [] [(o, .inr (2, [.ref ab, .ref be, .ref na, .ref nb, .ref le, .ref ri, .ref qu, .ref sh, va_rf (me), va_rf (mw)])), (na, .inr (8, [.ref ana])), (ana, aJ G 8 (dg ((x - sbx).toInt * (x - sbx).toInt + (y - sby).toInt * (y - sby).toInt))), (nb, .inr (8, [.ref anb])), (anb, aJ G 8 (dg 1)), (le, .inr (8, [.ref ale])), (ale, aJ G 8 (dg (x_1.toInt * sdx.toInt + x_2.toInt * sdy.toInt))), (s0, .inr (7, [.long sax, .long say, .long sbx, .long sby, .long sdx, .long sdy]))]
      refine j_goto (tgt := 187) X dX2_setNew_150 (by decide) ?_
      exact E.1 187 _ (((x - sbx).toInt * (x - sbx).toInt + (y - sby).toInt * (y - sby).toInt), 1, dg (x_1.toInt * sdx.toInt + x_2.toInt * sdy.toInt)) dX2_setNew_187 (⟨rfl, (qn_2 hs.2.1 hs.2.2 hpx hpy c_66 c_106 (l_sC hx hs.1.2.2.1) (l_sC hy hs.1.2.2.2)).1, (qn_2 hs.2.1 hs.2.2 hpx hpy c_66 c_106 (l_sC hx hs.1.2.2.1) (l_sC hy hs.1.2.2.2)).2⟩) hr
  · skip
    rw [sg_g0, Int.not_lt] at c_66
    refine j_aload_n X dX2_setNew_69 rfl 2 rfl ?_
    refine j_get (v := .ref na) X dX2_setNew_70 0 rfl 2 rfl in_X2_setNew_X2 (by decide) fl_X2_setNew_19 rfl ?_
    refine j_lload X dX2_setNew_73 1 rfl ?_
    refine j_lload X dX2_setNew_75 0 rfl ?_
    refine j_lload X dX2_setNew_77 1 rfl ?_
    refine j_lload X dX2_setNew_79 0 rfl ?_
    refine j_callV X dX2_setNew_81 (c_X9_setToDot l G na ana fna x_1 x_2 x_1 x_2) gX2_setNew_X9_setToDot rfl hy_X9_setToDot_V ⟨Nat.le_of_ble_eq_true rfl, Nat.le_of_ble_eq_true rfl⟩ 0 rfl rfl [1, 2] rfl (by decide) rfl rfl (Nat.le_of_ble_eq_true rfl) ⟨Nat.le_of_ble_eq_true rfl, Nat.le_of_ble_eq_true rfl⟩ ?_
    rintro _ ⟨⟩ rfl
    change J p l e rm_X2_setNew s m args below meth c Q G A 10 0 0 84 [(8, .long x_2), (6, .long x_1), (0, .ref o), (1, .ref s0), (2, .long x), (4, .long y)] [] [(o, .inr (2, [.ref ab, .ref be, .ref na, .ref nb, .ref le, .ref ri, .ref qu, .ref sh, va_rf (me), va_rf (mw)])), (na, .inr (8, [.ref ana])), (ana, aJ G 8 (dg (x_1.toInt * x_1.toInt + x_2.toInt * x_2.toInt))), (nb, .inr (8, [.ref anb])), (anb, aJ G 8 (dg (sdx.toInt * sdx.toInt + sdy.toInt * sdy.toInt))), (le, .inr (8, [.ref ale])), (ale, aJ G 8 (dg (x_1.toInt * sdx.toInt + x_2.toInt * sdy.toInt))), (s0, .inr (7, [.long sax, .long say, .long sbx, .long sby, .long sdx, .long sdy]))]
    refine j_aload_n X dX2_setNew_84 rfl 2 rfl ?_
    refine j_get (v := .ref nb) X dX2_setNew_85 0 rfl 3 rfl in_X2_setNew_X2 (by decide) fl_X2_setNew_22 rfl ?_
    refine j_lconst (v := 1) X dX2_setNew_88 rfl ?_
    refine j_callV X dX2_setNew_89 (c_X9_setTo l G nb anb (dg (sdx.toInt * sdx.toInt + sdy.toInt * sdy.toInt)) 1) gX2_setNew_X9_setTo rfl hy_X9_setTo_V ⟨Nat.le_of_ble_eq_true rfl, Nat.le_of_ble_eq_true rfl⟩ 0 rfl rfl [3, 4] rfl (by decide) rfl rfl (Nat.le_of_ble_eq_true rfl) ⟨Nat.le_of_ble_eq_true rfl, Nat.le_of_ble_eq_true rfl⟩ ?_
    rintro _ ⟨⟩ rfl
    change J p l e rm_X2_setNew s m args below meth c Q G A 10 0 0 92 [(8, .long x_2), (6, .long x_1), (0, .ref o), (1, .ref s0), (2, .long x), (4, .long y)] [] [(o, .inr (2, [.ref ab, .ref be, .ref na, .ref nb, .ref le, .ref ri, .ref qu, .ref sh, va_rf (me), va_rf (mw)])), (na, .inr (8, [.ref ana])), (ana, aJ G 8 (dg (x_1.toInt * x_1.toInt + x_2.toInt * x_2.toInt))), (nb, .inr (8, [.ref anb])), (anb, aJ G 8 (dg 1)), (le, .inr (8, [.ref ale])), (ale, aJ G 8 (dg (x_1.toInt * sdx.toInt + x_2.toInt * sdy.toInt))), (s0, .inr (7, [.long sax, .long say, .long sbx, .long sby, .long sdx, .long sdy]))]
    refine j_goto (tgt := 187) X dX2_setNew_92 (by decide) ?_
    exact E.1 187 _ ((x_1.toInt * x_1.toInt + x_2.toInt * x_2.toInt), 1, dg (x_1.toInt * sdx.toInt + x_2.toInt * sdy.toInt)) dX2_setNew_187 (⟨rfl, (qn_1 hs.2.1 hs.2.2 hpx hpy c_66).1, (qn_1 hs.2.1 hs.2.2 hpx hpy c_66).2⟩) hr

theorem hy_X2_setNew_V : yX2_setNew.cls = RX2 ∧ yX2_setNew.cls ≠ "java/lang/invoke/MethodHandle" ∧ yX2_setNew.cls ≠ "java/lang/invoke/VarHandle" ∧ (parseMethodDescriptor yX2_setNew.desc).map (fun d => d.parameters.length) = some 3 := by decide +kernel
