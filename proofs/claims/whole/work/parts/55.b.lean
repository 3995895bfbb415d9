theorem dv_rb {a b q r : Int} (ha : 0 ≤ a ∧ a < 115792089237316195423570985008687907853269984665640564039457584007913129639936) (he : a = q * b + r) (hq : 0 ≤ q) (hb : 0 < b) (hr : 0 ≤ r) : r < 115792089237316195423570985008687907853269984665640564039457584007913129639936 := by
  have := Int.mul_nonneg hq (Int.le_of_lt hb)
  omega
abbrev rm_X2_divide : Room := { frames := 3, cells := 0, slots := 0, locals := 64 }
theorem in_X2_divide_X2 : ∀ w ∈ u_ws RX2 TX2 10, w ∈ wsX2_divide := by decide +kernel
theorem fl_X2_divide_31 : Cond.fieldLink RX2 31 (TX2 6).1 (TX2 6).2.1 (TX2 6).2.2.1 ∈ wsX2_divide := by decide +kernel
theorem fl_X2_divide_34 : Cond.fieldLink RX2 34 (TX2 7).1 (TX2 7).2.1 (TX2 7).2.2.1 ∈ wsX2_divide := by decide +kernel
set_option maxHeartbeats 4000000 in
set_option maxRecDepth 100000 in
theorem c_X2_divide (l : Launch) (G : jG) (o ab be na nb le ri qu sh aab abe ana anb ale ari aqu ash : Nat) (me mw : Option Nat) (x ax y ay : Nat) (fq fs : Nat → Int64) (a b : Int) (ha : 0 ≤ a ∧ a < 115792089237316195423570985008687907853269984665640564039457584007913129639936) (hb : 0 < b) (hb2 : b < 115792089237316195423570985008687907853269984665640564039457584007913129639936) : Ct l yX2_divide wsX2_divide rm_X2_divide G [.ref o, .ref x, .ref y] [(o, .inr (2, [.ref ab, .ref be, .ref na, .ref nb, .ref le, .ref ri, .ref qu, .ref sh, va_rf (me), va_rf (mw)])), (x, .inr (8, [.ref ax])), (ax, aJ G 8 (dg a)), (y, .inr (8, [.ref ay])), (ay, aJ G 8 (dg b)), (qu, .inr (8, [.ref aqu])), (aqu, aJ G 8 fq), (sh, .inr (8, [.ref ash])), (ash, aJ G 8 fs)] (S := Nat → Int64) (fun r _ => r = none) (fun u => [(o, .inr (2, [.ref ab, .ref be, .ref na, .ref nb, .ref le, .ref ri, .ref qu, .ref sh, va_rf (me), va_rf (mw)])), (x, .inr (8, [.ref ax])), (ax, aJ G 8 (dg (a % b))), (y, .inr (8, [.ref ay])), (ay, aJ G 8 (dg b)), (qu, .inr (8, [.ref aqu])), (aqu, aJ G 8 (dg (a / b))), (sh, .inr (8, [.ref ash])), (ash, aJ G 8 u)]) (fun _ => []) := by
  refine c_intro (cc := cX2_divide) (maxL := 5) (ret := none) (by decide) rfl (Nat.le_of_ble_eq_true rfl) (fun _ => by simp only [List.map_cons, List.map_nil]) ?_
  intro p e s m args below meth c Q A X hr hin E
  change J p l e rm_X2_divide s m args below meth c Q G A 5 0 0 0 [(0, .ref o), (1, .ref x), (2, .ref y)] [] [(o, .inr (2, [.ref ab, .ref be, .ref na, .ref nb, .ref le, .ref ri, .ref qu, .ref sh, va_rf (me), va_rf (mw)])), (x, .inr (8, [.ref ax])), (ax, aJ G 8 (dg a)), (y, .inr (8, [.ref ay])), (ay, aJ G 8 (dg b)), (qu, .inr (8, [.ref aqu])), (aqu, aJ G 8 fq), (sh, .inr (8, [.ref ash])), (ash, aJ G 8 fs)]
  have hbb : 0 ≤ b ∧ b < 115792089237316195423570985008687907853269984665640564039457584007913129639936 := ⟨by omega, hb2⟩
  refine j_aload_n X dX2_divide_0 rfl 1 rfl ?_
  refine j_callV X dX2_divide_1 (c_X9_bits l G x ax a ha) gX2_divide_X9_bits rfl hy_X9_bits_V ⟨Nat.le_of_ble_eq_true rfl, Nat.le_of_ble_eq_true rfl⟩ 0 rfl rfl [1, 2] rfl (by decide) rfl rfl (Nat.le_of_ble_eq_true rfl) ⟨Nat.le_of_ble_eq_true rfl, Nat.le_of_ble_eq_true rfl⟩ ?_
  rintro _ n_1 ⟨rfl, hbn_1, hln_1⟩
  change J p l e rm_X2_divide s m args below meth c Q G A 5 0 0 4 [(0, .ref o), (1, .ref x), (2, .ref y)] [.int (nI n_1)] [(o, .inr (2, [.ref ab, .ref be, .ref na, .ref nb, .ref le, .ref ri, .ref qu, .ref sh, va_rf (me), va_rf (mw)])), (x, .inr (8, [.ref ax])), (ax, aJ G 8 (dg a)), (y, .inr (8, [.ref ay])), (ay, aJ G 8 (dg b)), (qu, .inr (8, [.ref aqu])), (aqu, aJ G 8 fq), (sh, .inr (8, [.ref ash])), (ash, aJ G 8 fs)]
  refine j_aload_n X dX2_divide_4 rfl 2 rfl ?_
  refine j_callV X dX2_divide_5 (c_X9_bits l G y ay b hbb) gX2_divide_X9_bits rfl hy_X9_bits_V ⟨Nat.le_of_ble_eq_true rfl, Nat.le_of_ble_eq_true rfl⟩ 0 rfl rfl [3, 4] rfl (by decide) rfl rfl (Nat.le_of_ble_eq_true rfl) ⟨Nat.le_of_ble_eq_true rfl, Nat.le_of_ble_eq_true rfl⟩ ?_
  rintro _ n_2 ⟨rfl, hbn_2, hln_2⟩
  change J p l e rm_X2_divide s m args below meth c Q G A 5 0 0 8 [(0, .ref o), (1, .ref x), (2, .ref y)] [.int (nI n_2), .int (nI n_1)] [(o, .inr (2, [.ref ab, .ref be, .ref na, .ref nb, .ref le, .ref ri, .ref qu, .ref sh, va_rf (me), va_rf (mw)])), (x, .inr (8, [.ref ax])), (ax, aJ G 8 (dg a)), (y, .inr (8, [.ref ay])), (ay, aJ G 8 (dg b)), (qu, .inr (8, [.ref aqu])), (aqu, aJ G 8 fq), (sh, .inr (8, [.ref ash])), (ash, aJ G 8 fs)]
  refine j_isub X dX2_divide_8 ?_
  refine j_topi (fun x_3 ex_3 => ?_)
  refine j_istore_n (L' := [(3, .int x_3), (0, .ref o), (1, .ref x), (2, .ref y)]) X dX2_divide_9 rfl (by decide) rfl ?_
  refine j_aload_n X dX2_divide_10 rfl 1 rfl ?_
  refine j_get (v := .ref qu) X dX2_divide_11 0 rfl 6 rfl in_X2_divide_X2 (by decide) fl_X2_divide_31 rfl ?_
  refine j_lconst (v := 0) X dX2_divide_14 rfl ?_
  refine j_callV X dX2_divide_15 (c_X9_setTo l G qu aqu fq 0) gX2_divide_X9_setTo rfl hy_X9_setTo_V ⟨Nat.le_of_ble_eq_true rfl, Nat.le_of_ble_eq_true rfl⟩ 0 rfl rfl [5, 6] rfl (by decide) rfl rfl (Nat.le_of_ble_eq_true rfl) ⟨Nat.le_of_ble_eq_true rfl, Nat.le_of_ble_eq_true rfl⟩ ?_
  rintro _ ⟨⟩ rfl
  change J p l e rm_X2_divide s m args below meth c Q G A 5 0 0 18 [(3, .int x_3), (0, .ref o), (1, .ref x), (2, .ref y)] [] [(o, .inr (2, [.ref ab, .ref be, .ref na, .ref nb, .ref le, .ref ri, .ref qu, .ref sh, va_rf (me), va_rf (mw)])), (x, .inr (8, [.ref ax])), (ax, aJ G 8 (dg a)), (y, .inr (8, [.ref ay])), (ay, aJ G 8 (dg b)), (qu, .inr (8, [.ref aqu])), (aqu, aJ G 8 (dg 0)), (sh, .inr (8, [.ref ash])), (ash, aJ G 8 fs)]
  refine j_iload_n X dX2_divide_18 rfl 0 rfl ?_
  refine j_if_ge (tgt := 23) X dX2_divide_19 (by decide) (fun c_19 => ?_) (fun c_19 => ?_)
  · skip
    first | simp only [cmp_eq, cmp_lt, cmp_ge, cmp_gt, cmp_le, lT0, lT1] at c_19 | simp only [Int32.le_iff_toInt_le, Int32.lt_iff_toInt_lt, ← Int32.toInt_inj, iT0, iT1, iT2, iT3, iT4, iT5, iT6, iT7, iT8, iT9, iT10, iT11, iT12, iT13, iT14, iT15, iT16, iT19, iT20, iT31, iT32, iT42, iT64, iT200, iT318, iT319, iT1000, iTm1, iTm2] at c_19
    have hs0 : x_3.toInt = (n_1 : Int) - n_2 := by rw [ex_3, i_sub] <;> rw [nI_T (by omega), nI_T (by omega)] <;> omega
    have hn2 := bt_pos hbn_2 hb
    obtain ⟨sw, hsw9⟩ : ∃ sw : Nat, n_1 = n_2 + sw := ⟨n_1 - n_2, by omega⟩
    have hsw : x_3.toInt = (sw : Int) := by omega
    refine j_aload_n X dX2_divide_23 rfl 1 rfl ?_
    refine j_get (v := .ref sh) X dX2_divide_24 0 rfl 7 rfl in_X2_divide_X2 (by decide) fl_X2_divide_34 rfl ?_
    refine j_aload_n X dX2_divide_27 rfl 3 rfl ?_
    refine j_callV X dX2_divide_28 (c_X9_setTo_ l G sh ash y ay fs b) gX2_divide_X9_setTo_ rfl hy_X9_setTo__V ⟨Nat.le_of_ble_eq_true rfl, Nat.le_of_ble_eq_true rfl⟩ 0 rfl rfl [7, 8, 3, 4] rfl (by decide) rfl rfl (Nat.le_of_ble_eq_true rfl) ⟨Nat.le_of_ble_eq_true rfl, Nat.le_of_ble_eq_true rfl⟩ ?_
    rintro _ ⟨⟩ rfl
    change J p l e rm_X2_divide s m args below meth c Q G A 5 0 0 31 [(3, .int x_3), (0, .ref o), (1, .ref x), (2, .ref y)] [] [(o, .inr (2, [.ref ab, .ref be, .ref na, .ref nb, .ref le, .ref ri, .ref qu, .ref sh, va_rf (me), va_rf (mw)])), (x, .inr (8, [.ref ax])), (ax, aJ G 8 (dg a)), (y, .inr (8, [.ref ay])), (ay, aJ G 8 (dg b)), (qu, .inr (8, [.ref aqu])), (aqu, aJ G 8 (dg 0)), (sh, .inr (8, [.ref ash])), (ash, aJ G 8 (dg b))]
    refine j_aload_n X dX2_divide_31 rfl 1 rfl ?_
    refine j_get (v := .ref sh) X dX2_divide_32 0 rfl 7 rfl in_X2_divide_X2 (by decide) fl_X2_divide_34 rfl ?_
    refine j_iload_n X dX2_divide_35 rfl 0 rfl ?_
    refine j_callV X dX2_divide_36 (c_X9_shiftLeft l G sh ash b x_3 sw hsw (by omega)) gX2_divide_X9_shiftLeft rfl hy_X9_shiftLeft_V ⟨Nat.le_of_ble_eq_true rfl, Nat.le_of_ble_eq_true rfl⟩ 0 rfl rfl [7, 8] rfl (by decide) rfl rfl (Nat.le_of_ble_eq_true rfl) ⟨Nat.le_of_ble_eq_true rfl, Nat.le_of_ble_eq_true rfl⟩ ?_
    rintro _ ⟨⟩ rfl
    change J p l e rm_X2_divide s m args below meth c Q G A 5 0 0 39 [(3, .int x_3), (0, .ref o), (1, .ref x), (2, .ref y)] [] [(o, .inr (2, [.ref ab, .ref be, .ref na, .ref nb, .ref le, .ref ri, .ref qu, .ref sh, va_rf (me), va_rf (mw)])), (x, .inr (8, [.ref ax])), (ax, aJ G 8 (dg a)), (y, .inr (8, [.ref ay])), (ay, aJ G 8 (dg b)), (qu, .inr (8, [.ref aqu])), (aqu, aJ G 8 (dg 0)), (sh, .inr (8, [.ref ash])), (ash, aJ G 8 (dg (b * 2 ^ sw)))]
    refine j_iload_n X dX2_divide_39 rfl 0 rfl ?_
    refine j_istore (L' := [(4, .int x_3), (3, .int x_3), (0, .ref o), (1, .ref x), (2, .ref y)]) X dX2_divide_40 (by decide) rfl ?_
    have loop : ∀ (d : Nat) (k : Nat) (t : Int32) (r q T : Int) (hk : k ≤ sw + 1) (ht : t.toInt = (k : Int) - 1) (hT : T = b * 2 ^ k / 2) (he : a = q * b + r) (hr1 : 0 ≤ r ∧ r < b * 2 ^ k) (hm : q % 2 ^ k = 0) (hq : 0 ≤ q), k < d → J p l e rm_X2_divide s m args below meth c Q G A 5 0 0 42 [(0, .ref o), (1, .ref x), (2, .ref y), (4, .int t)] [] [(o, .inr (2, [.ref ab, .ref be, .ref na, .ref nb, .ref le, .ref ri, .ref qu, .ref sh, va_rf (me), va_rf (mw)])), (x, .inr (8, [.ref ax])), (ax, aJ G 8 (dg r)), (y, .inr (8, [.ref ay])), (ay, aJ G 8 (dg b)), (qu, .inr (8, [.ref aqu])), (aqu, aJ G 8 (dg q)), (sh, .inr (8, [.ref ash])), (ash, aJ G 8 (dg T))] := by
      intro d
      induction d with
      | zero => intro k t r q T hk ht hT he hr1 hm hq hd0; exact absurd hd0 (Nat.not_lt_zero _)
      | succ d ih =>
        intro k t r q T hk ht hT he hr1 hm hq hd0
        refine j_iload X dX2_divide_42 3 rfl ?_
        refine j_if_lt (tgt := 88) X dX2_divide_44 (by decide) (fun c_44 => ?_) (fun c_44 => ?_)
        · skip
          first | simp only [cmp_eq, cmp_lt, cmp_ge, cmp_gt, cmp_le, lT0, lT1] at c_44 | simp only [Int32.le_iff_toInt_le, Int32.lt_iff_toInt_lt, ← Int32.toInt_inj, iT0, iT1, iT2, iT3, iT4, iT5, iT6, iT7, iT8, iT9, iT10, iT11, iT12, iT13, iT14, iT15, iT16, iT19, iT20, iT31, iT32, iT42, iT64, iT200, iT318, iT319, iT1000, iTm1, iTm2] at c_44
          have hk0 : k = 0 := by omega
          subst hk0
          obtain ⟨hq9, hr9⟩ := dv_end hb he hr1
          subst hq9 hr9
          exact E.1 88 _ (dg T) dX2_divide_88 rfl hr
        · skip
          first | simp only [cmp_eq, cmp_lt, cmp_ge, cmp_gt, cmp_le, lT0, lT1] at c_44 | simp only [Int32.le_iff_toInt_le, Int32.lt_iff_toInt_lt, ← Int32.toInt_inj, iT0, iT1, iT2, iT3, iT4, iT5, iT6, iT7, iT8, iT9, iT10, iT11, iT12, iT13, iT14, iT15, iT16, iT19, iT20, iT31, iT32, iT42, iT64, iT200, iT318, iT319, iT1000, iTm1, iTm2] at c_44
          obtain ⟨k, rfl⟩ : ∃ k1, k = k1 + 1 := ⟨k - 1, by omega⟩
          have hT1 := rd_T hT
          have htb := dv_b hbn_2 hb hsw9 (show k ≤ sw by omega) hT1 hln_1
          refine j_aload_n X dX2_divide_47 rfl 1 rfl ?_
          refine j_aload_n X dX2_divide_48 rfl 0 rfl ?_
          refine j_get (v := .ref sh) X dX2_divide_49 0 rfl 7 rfl in_X2_divide_X2 (by decide) fl_X2_divide_34 rfl ?_
          refine j_callV X dX2_divide_52 (c_X9_against l G x ax sh ash r T ⟨hr1.1, by have := dv_rb ha he hq hb hr1.1; omega⟩ htb) gX2_divide_X9_against rfl hy_X9_against_V ⟨Nat.le_of_ble_eq_true rfl, Nat.le_of_ble_eq_true rfl⟩ 0 rfl rfl [1, 2, 7, 8] rfl (by decide) rfl rfl (Nat.le_of_ble_eq_true rfl) ⟨Nat.le_of_ble_eq_true rfl, Nat.le_of_ble_eq_true rfl⟩ ?_
          rintro _ ⟨⟩ rfl
          change J p l e rm_X2_divide s m args below meth c Q G A 5 0 0 55 [(0, .ref o), (1, .ref x), (2, .ref y), (4, .int t)] [.int (sg (r - T))] [(o, .inr (2, [.ref ab, .ref be, .ref na, .ref nb, .ref le, .ref ri, .ref qu, .ref sh, va_rf (me), va_rf (mw)])), (x, .inr (8, [.ref ax])), (ax, aJ G 8 (dg r)), (y, .inr (8, [.ref ay])), (ay, aJ G 8 (dg b)), (qu, .inr (8, [.ref aqu])), (aqu, aJ G 8 (dg q)), (sh, .inr (8, [.ref ash])), (ash, aJ G 8 (dg T))]
          refine j_if_lt (tgt := 75) X dX2_divide_55 (by decide) (fun c_55 => ?_) (fun c_55 => ?_)
          · skip
            rw [sg_l0] at c_55
            refine j_aload_n X dX2_divide_75 rfl 0 rfl ?_
            refine j_get (v := .ref sh) X dX2_divide_76 0 rfl 7 rfl in_X2_divide_X2 (by decide) fl_X2_divide_34 rfl ?_
            refine j_callV X dX2_divide_79 (c_X9_halve l G sh ash T htb) gX2_divide_X9_halve rfl hy_X9_halve_V ⟨Nat.le_of_ble_eq_true rfl, Nat.le_of_ble_eq_true rfl⟩ 0 rfl rfl [7, 8] rfl (by decide) rfl rfl (Nat.le_of_ble_eq_true rfl) ⟨Nat.le_of_ble_eq_true rfl, Nat.le_of_ble_eq_true rfl⟩ ?_
            rintro _ ⟨⟩ rfl
            change J p l e rm_X2_divide s m args below meth c Q G A 5 0 0 82 [(0, .ref o), (1, .ref x), (2, .ref y), (4, .int t)] [] [(o, .inr (2, [.ref ab, .ref be, .ref na, .ref nb, .ref le, .ref ri, .ref qu, .ref sh, va_rf (me), va_rf (mw)])), (x, .inr (8, [.ref ax])), (ax, aJ G 8 (dg r)), (y, .inr (8, [.ref ay])), (ay, aJ G 8 (dg b)), (qu, .inr (8, [.ref aqu])), (aqu, aJ G 8 (dg q)), (sh, .inr (8, [.ref ash])), (ash, aJ G 8 (dg (T / 2)))]
            obtain ⟨x_4, ex_4⟩ : ∃ y9 : Int32, y9 = t + (-1) := ⟨_, rfl⟩
            refine j_iinc (v := x_4) (L' := [(4, .int x_4), (0, .ref o), (1, .ref x), (2, .ref y)]) X dX2_divide_82 3 rfl (by rw [ex_4]; rfl) (by decide) rfl ?_
            refine j_goto (tgt := 42) X dX2_divide_85 (by decide) ?_
            refine j_sub [1, 2, 3, 0] rfl ?_
            exact ih k x_4 r q (T / 2) (by omega) (by rw [x_dec ht (by omega) ex_4]; omega) (by rw [hT1]) he (dv_lr hr1 hT1 c_55) (dv_m2 hm) hq (by omega)
          · skip
            rw [sg_l0] at c_55
            refine j_aload_n X dX2_divide_58 rfl 1 rfl ?_
            refine j_aload_n X dX2_divide_59 rfl 0 rfl ?_
            refine j_get (v := .ref sh) X dX2_divide_60 0 rfl 7 rfl in_X2_divide_X2 (by decide) fl_X2_divide_34 rfl ?_
            refine j_callV X dX2_divide_63 (c_X9_subtract l G x ax sh ash r T) gX2_divide_X9_subtract rfl hy_X9_subtract_V ⟨Nat.le_of_ble_eq_true rfl, Nat.le_of_ble_eq_true rfl⟩ 0 rfl rfl [1, 2, 7, 8] rfl (by decide) rfl rfl (Nat.le_of_ble_eq_true rfl) ⟨Nat.le_of_ble_eq_true rfl, Nat.le_of_ble_eq_true rfl⟩ ?_
            rintro _ ⟨⟩ rfl
            change J p l e rm_X2_divide s m args below meth c Q G A 5 0 0 66 [(0, .ref o), (1, .ref x), (2, .ref y), (4, .int t)] [] [(o, .inr (2, [.ref ab, .ref be, .ref na, .ref nb, .ref le, .ref ri, .ref qu, .ref sh, va_rf (me), va_rf (mw)])), (x, .inr (8, [.ref ax])), (ax, aJ G 8 (dg (r - T))), (y, .inr (8, [.ref ay])), (ay, aJ G 8 (dg b)), (qu, .inr (8, [.ref aqu])), (aqu, aJ G 8 (dg q)), (sh, .inr (8, [.ref ash])), (ash, aJ G 8 (dg T))]
            refine j_aload_n X dX2_divide_66 rfl 0 rfl ?_
            refine j_get (v := .ref qu) X dX2_divide_67 0 rfl 6 rfl in_X2_divide_X2 (by decide) fl_X2_divide_31 rfl ?_
            refine j_iload X dX2_divide_70 3 rfl ?_
            refine j_callV X dX2_divide_72 (c_X9_setBit l G qu aqu q t k (by omega) (by omega) hm) gX2_divide_X9_setBit rfl hy_X9_setBit_V ⟨Nat.le_of_ble_eq_true rfl, Nat.le_of_ble_eq_true rfl⟩ 0 rfl rfl [5, 6] rfl (by decide) rfl rfl (Nat.le_of_ble_eq_true rfl) ⟨Nat.le_of_ble_eq_true rfl, Nat.le_of_ble_eq_true rfl⟩ ?_
            rintro _ ⟨⟩ rfl
            change J p l e rm_X2_divide s m args below meth c Q G A 5 0 0 75 [(0, .ref o), (1, .ref x), (2, .ref y), (4, .int t)] [] [(o, .inr (2, [.ref ab, .ref be, .ref na, .ref nb, .ref le, .ref ri, .ref qu, .ref sh, va_rf (me), va_rf (mw)])), (x, .inr (8, [.ref ax])), (ax, aJ G 8 (dg (r - T))), (y, .inr (8, [.ref ay])), (ay, aJ G 8 (dg b)), (qu, .inr (8, [.ref aqu])), (aqu, aJ G 8 (dg (q + 2 ^ k))), (sh, .inr (8, [.ref ash])), (ash, aJ G 8 (dg T))]
            refine j_aload_n X dX2_divide_75 rfl 0 rfl ?_
            refine j_get (v := .ref sh) X dX2_divide_76 0 rfl 7 rfl in_X2_divide_X2 (by decide) fl_X2_divide_34 rfl ?_
            refine j_callV X dX2_divide_79 (c_X9_halve l G sh ash T htb) gX2_divide_X9_halve rfl hy_X9_halve_V ⟨Nat.le_of_ble_eq_true rfl, Nat.le_of_ble_eq_true rfl⟩ 0 rfl rfl [7, 8] rfl (by decide) rfl rfl (Nat.le_of_ble_eq_true rfl) ⟨Nat.le_of_ble_eq_true rfl, Nat.le_of_ble_eq_true rfl⟩ ?_
            rintro _ ⟨⟩ rfl
            change J p l e rm_X2_divide s m args below meth c Q G A 5 0 0 82 [(0, .ref o), (1, .ref x), (2, .ref y), (4, .int t)] [] [(o, .inr (2, [.ref ab, .ref be, .ref na, .ref nb, .ref le, .ref ri, .ref qu, .ref sh, va_rf (me), va_rf (mw)])), (x, .inr (8, [.ref ax])), (ax, aJ G 8 (dg (r - T))), (y, .inr (8, [.ref ay])), (ay, aJ G 8 (dg b)), (qu, .inr (8, [.ref aqu])), (aqu, aJ G 8 (dg (q + 2 ^ k))), (sh, .inr (8, [.ref ash])), (ash, aJ G 8 (dg (T / 2)))]
            obtain ⟨x_5, ex_5⟩ : ∃ y9 : Int32, y9 = t + (-1) := ⟨_, rfl⟩
            refine j_iinc (v := x_5) (L' := [(4, .int x_5), (0, .ref o), (1, .ref x), (2, .ref y)]) X dX2_divide_82 3 rfl (by rw [ex_5]; rfl) (by decide) rfl ?_
            refine j_goto (tgt := 42) X dX2_divide_85 (by decide) ?_
            refine j_sub [1, 2, 3, 0] rfl ?_
            exact ih k x_5 (r - T) (q + 2 ^ k) (T / 2) (by omega) (by rw [x_dec ht (by omega) ex_5]; omega) (by rw [hT1]) (dv_u he hT1) (dv_ur hr1 hT1 c_55) (dv_m hm) (by have := rd_p k; omega) (by omega)
    refine j_sub [2, 3, 4, 0] rfl ?_
    exact loop (sw + 2) (sw + 1) x_3 a 0 (b * 2 ^ sw) (by omega) (by rw [hsw]; omega) (rd_0 b sw) (by omega) ⟨ha.1, dv_0 hbn_1 hbn_2 hb (by omega)⟩ (by rw [Int.zero_emod]) (by decide) (by omega)
  · skip
    first | simp only [cmp_eq, cmp_lt, cmp_ge, cmp_gt, cmp_le, lT0, lT1] at c_19 | simp only [Int32.le_iff_toInt_le, Int32.lt_iff_toInt_lt, ← Int32.toInt_inj, iT0, iT1, iT2, iT3, iT4, iT5, iT6, iT7, iT8, iT9, iT10, iT11, iT12, iT13, iT14, iT15, iT16, iT19, iT20, iT31, iT32, iT42, iT64, iT200, iT318, iT319, iT1000, iTm1, iTm2] at c_19
    have hs0 : x_3.toInt = (n_1 : Int) - n_2 := by rw [ex_3, i_sub] <;> rw [nI_T (by omega), nI_T (by omega)] <;> omega
    have hlt := dv_lt hbn_1 hbn_2 hb (by omega)
    have hds := dv_sm hb ha.1 hlt
    rw [show dg a = dg (a % b) from by rw [hds.2], show dg 0 = dg (a / b) from by rw [hds.1]]
    exact E.1 22 _ (fs) dX2_divide_22 rfl hr

theorem hy_X2_divide_V : yX2_divide.cls = RX2 ∧ yX2_divide.cls ≠ "java/lang/invoke/MethodHandle" ∧ yX2_divide.cls ≠ "java/lang/invoke/VarHandle" ∧ (parseMethodDescriptor yX2_divide.desc).map (fun d => d.parameters.length) = some 2 := by decide +kernel
