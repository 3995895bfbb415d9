abbrev rm_X2_commonDivisor : Room := { frames := 4, cells := 0, slots := 0, locals := 88 }
theorem in_X2_commonDivisor_X2 : ∀ w ∈ u_ws RX2 TX2 10, w ∈ wsX2_commonDivisor := by decide +kernel
theorem fl_X2_commonDivisor_25 : Cond.fieldLink RX2 25 (TX2 4).1 (TX2 4).2.1 (TX2 4).2.2.1 ∈ wsX2_commonDivisor := by decide +kernel
theorem fl_X2_commonDivisor_10 : Cond.fieldLink RX2 10 (TX2 0).1 (TX2 0).2.1 (TX2 0).2.2.1 ∈ wsX2_commonDivisor := by decide +kernel
theorem fl_X2_commonDivisor_28 : Cond.fieldLink RX2 28 (TX2 5).1 (TX2 5).2.1 (TX2 5).2.2.1 ∈ wsX2_commonDivisor := by decide +kernel
theorem fl_X2_commonDivisor_16 : Cond.fieldLink RX2 16 (TX2 1).1 (TX2 1).2.1 (TX2 1).2.2.1 ∈ wsX2_commonDivisor := by decide +kernel
set_option maxHeartbeats 4000000 in
set_option maxRecDepth 100000 in
theorem c_X2_commonDivisor (l : Launch) (G : jG) (o ab be na nb le ri qu sh aab abe ana anb ale ari aqu ash : Nat) (me mw : Option Nat) (fl fr fq fs : Nat → Int64) (a0 b0 : Int) (h0 : (0 ≤ a0 ∧ a0 ≤ 93536104789177786765035829293842113257979682750464) ∧ (0 ≤ b0 ∧ b0 ≤ 93536104789177786765035829293842113257979682750464)) (hM0 : a0 * b0 < 2 ^ 250) : Ct l yX2_commonDivisor wsX2_commonDivisor rm_X2_commonDivisor G [.ref o] [(o, .inr (2, [.ref ab, .ref be, .ref na, .ref nb, .ref le, .ref ri, .ref qu, .ref sh, va_rf (me), va_rf (mw)])), (le, .inr (8, [.ref ale])), (ale, aJ G 8 fl), (ri, .inr (8, [.ref ari])), (ari, aJ G 8 fr), (qu, .inr (8, [.ref aqu])), (aqu, aJ G 8 fq), (sh, .inr (8, [.ref ash])), (ash, aJ G 8 fs), (ab, .inr (8, [.ref aab])), (aab, aJ G 8 (dg a0)), (be, .inr (8, [.ref abe])), (abe, aJ G 8 (dg b0))] (S := Int × Int × (Nat → Int64) × (Nat → Int64)) (fun r u => (r = some (.ref le) ∧ u.1 = gc a0 b0) ∨ (r = some (.ref ri) ∧ u.2.1 = gc a0 b0)) (fun u => [(o, .inr (2, [.ref ab, .ref be, .ref na, .ref nb, .ref le, .ref ri, .ref qu, .ref sh, va_rf (me), va_rf (mw)])), (le, .inr (8, [.ref ale])), (ale, aJ G 8 (dg u.1)), (ri, .inr (8, [.ref ari])), (ari, aJ G 8 (dg u.2.1)), (qu, .inr (8, [.ref aqu])), (aqu, aJ G 8 u.2.2.1), (sh, .inr (8, [.ref ash])), (ash, aJ G 8 u.2.2.2), (ab, .inr (8, [.ref aab])), (aab, aJ G 8 (dg a0)), (be, .inr (8, [.ref abe])), (abe, aJ G 8 (dg b0))]) (fun _ => []) := by
  refine c_introR (cc := cX2_commonDivisor) (maxL := 5) (ret := (some (.object "NanoSigns$Whole"))) (by decide) rfl (Nat.le_of_ble_eq_true rfl) (fun _ => by simp only [List.map_cons, List.map_nil]) ?_
  intro p e s m args below meth c Q A X hr hin E
  change J p l e rm_X2_commonDivisor s m args below meth c Q G A 5 0 0 0 [(0, .ref o)] [] [(o, .inr (2, [.ref ab, .ref be, .ref na, .ref nb, .ref le, .ref ri, .ref qu, .ref sh, va_rf (me), va_rf (mw)])), (le, .inr (8, [.ref ale])), (ale, aJ G 8 fl), (ri, .inr (8, [.ref ari])), (ari, aJ G 8 fr), (qu, .inr (8, [.ref aqu])), (aqu, aJ G 8 fq), (sh, .inr (8, [.ref ash])), (ash, aJ G 8 fs), (ab, .inr (8, [.ref aab])), (aab, aJ G 8 (dg a0)), (be, .inr (8, [.ref abe])), (abe, aJ G 8 (dg b0))]
  refine j_aload_n X dX2_commonDivisor_0 rfl 0 rfl ?_
  refine j_get (v := .ref le) X dX2_commonDivisor_1 0 rfl 4 rfl in_X2_commonDivisor_X2 (by decide) fl_X2_commonDivisor_25 rfl ?_
  refine j_aload_n X dX2_commonDivisor_4 rfl 0 rfl ?_
  refine j_get (v := .ref ab) X dX2_commonDivisor_5 0 rfl 0 rfl in_X2_commonDivisor_X2 (by decide) fl_X2_commonDivisor_10 rfl ?_
  refine j_callV X dX2_commonDivisor_8 (c_X9_setTo_ l G le ale ab aab fl a0) gX2_commonDivisor_X9_setTo_ rfl hy_X9_setTo__V ⟨Nat.le_of_ble_eq_true rfl, Nat.le_of_ble_eq_true rfl⟩ 0 rfl rfl [1, 2, 9, 10] rfl (by decide) rfl rfl (Nat.le_of_ble_eq_true rfl) ⟨Nat.le_of_ble_eq_true rfl, Nat.le_of_ble_eq_true rfl⟩ ?_
  rintro _ ⟨⟩ rfl
  change J p l e rm_X2_commonDivisor s m args below meth c Q G A 5 0 0 11 [(0, .ref o)] [] [(o, .inr (2, [.ref ab, .ref be, .ref na, .ref nb, .ref le, .ref ri, .ref qu, .ref sh, va_rf (me), va_rf (mw)])), (le, .inr (8, [.ref ale])), (ale, aJ G 8 (dg a0)), (ri, .inr (8, [.ref ari])), (ari, aJ G 8 fr), (qu, .inr (8, [.ref aqu])), (aqu, aJ G 8 fq), (sh, .inr (8, [.ref ash])), (ash, aJ G 8 fs), (ab, .inr (8, [.ref aab])), (aab, aJ G 8 (dg a0)), (be, .inr (8, [.ref abe])), (abe, aJ G 8 (dg b0))]
  refine j_aload_n X dX2_commonDivisor_11 rfl 0 rfl ?_
  refine j_get (v := .ref ri) X dX2_commonDivisor_12 0 rfl 5 rfl in_X2_commonDivisor_X2 (by decide) fl_X2_commonDivisor_28 rfl ?_
  refine j_aload_n X dX2_commonDivisor_15 rfl 0 rfl ?_
  refine j_get (v := .ref be) X dX2_commonDivisor_16 0 rfl 1 rfl in_X2_commonDivisor_X2 (by decide) fl_X2_commonDivisor_16 rfl ?_
  refine j_callV X dX2_commonDivisor_19 (c_X9_setTo_ l G ri ari be abe fr b0) gX2_commonDivisor_X9_setTo_ rfl hy_X9_setTo__V ⟨Nat.le_of_ble_eq_true rfl, Nat.le_of_ble_eq_true rfl⟩ 0 rfl rfl [3, 4, 11, 12] rfl (by decide) rfl rfl (Nat.le_of_ble_eq_true rfl) ⟨Nat.le_of_ble_eq_true rfl, Nat.le_of_ble_eq_true rfl⟩ ?_
  rintro _ ⟨⟩ rfl
  change J p l e rm_X2_commonDivisor s m args below meth c Q G A 5 0 0 22 [(0, .ref o)] [] [(o, .inr (2, [.ref ab, .ref be, .ref na, .ref nb, .ref le, .ref ri, .ref qu, .ref sh, va_rf (me), va_rf (mw)])), (le, .inr (8, [.ref ale])), (ale, aJ G 8 (dg a0)), (ri, .inr (8, [.ref ari])), (ari, aJ G 8 (dg b0)), (qu, .inr (8, [.ref aqu])), (aqu, aJ G 8 fq), (sh, .inr (8, [.ref ash])), (ash, aJ G 8 fs), (ab, .inr (8, [.ref aab])), (aab, aJ G 8 (dg a0)), (be, .inr (8, [.ref abe])), (abe, aJ G 8 (dg b0))]
  refine j_aload_n X dX2_commonDivisor_22 rfl 0 rfl ?_
  refine j_get (v := .ref le) X dX2_commonDivisor_23 0 rfl 4 rfl in_X2_commonDivisor_X2 (by decide) fl_X2_commonDivisor_25 rfl ?_
  refine j_astore_n (L' := [(1, .ref le), (0, .ref o)]) X dX2_commonDivisor_26 rfl (by decide) rfl ?_
  refine j_aload_n X dX2_commonDivisor_27 rfl 1 rfl ?_
  refine j_get (v := .ref ri) X dX2_commonDivisor_28 0 rfl 5 rfl in_X2_commonDivisor_X2 (by decide) fl_X2_commonDivisor_28 rfl ?_
  refine j_astore_n (L' := [(2, .ref ri), (1, .ref le), (0, .ref o)]) X dX2_commonDivisor_31 rfl (by decide) rfl ?_
  refine j_iconst (v := 0) X dX2_commonDivisor_32 rfl ?_
  refine j_istore_n (L' := [(3, .int 0), (2, .ref ri), (1, .ref le), (0, .ref o)]) X dX2_commonDivisor_33 rfl (by decide) rfl ?_
  have loop : ∀ (d : Nat) (x ax y ay : Nat) (a b : Int) (fq fs : Nat → Int64) (j M : Nat) (t : Int32) (hxy : ((x = le ∧ ax = ale) ∧ (y = ri ∧ ay = ari)) ∨ ((x = ri ∧ ax = ari) ∧ (y = le ∧ ay = ale))) (hab : (0 ≤ a ∧ a ≤ 93536104789177786765035829293842113257979682750464) ∧ (0 ≤ b ∧ b ≤ 93536104789177786765035829293842113257979682750464)) (hg : gc a b = gc a0 b0) (hM : a * b < 2 ^ M) (hj : (j = 0 ∧ M ≤ 250) ∨ (b < a ∧ j + M ≤ 251)) (ht : t.toInt = j), 252 - j < d → J p l e rm_X2_commonDivisor s m args below meth c Q G A 5 0 0 34 [(0, .ref o), (1, .ref x), (2, .ref y), (3, .int t)] [] [(o, .inr (2, [.ref ab, .ref be, .ref na, .ref nb, .ref le, .ref ri, .ref qu, .ref sh, va_rf (me), va_rf (mw)])), (x, .inr (8, [.ref ax])), (ax, aJ G 8 (dg a)), (y, .inr (8, [.ref ay])), (ay, aJ G 8 (dg b)), (qu, .inr (8, [.ref aqu])), (aqu, aJ G 8 fq), (sh, .inr (8, [.ref ash])), (ash, aJ G 8 fs), (ab, .inr (8, [.ref aab])), (aab, aJ G 8 (dg a0)), (be, .inr (8, [.ref abe])), (abe, aJ G 8 (dg b0))] := by
    intro d
    induction d with
    | zero => intro x ax y ay a b fq fs j M t hxy hab hg hM hj ht hd0; exact absurd hd0 (Nat.not_lt_zero _)
    | succ d ih =>
      intro x ax y ay a b fq fs j M t hxy hab hg hM hj ht hd0
      refine j_iload_n X dX2_commonDivisor_34 rfl 3 rfl ?_
      refine j_sipush (v := 1000) X dX2_commonDivisor_35 (by decide) ?_
      refine j_icmp_ge (tgt := 68) X dX2_commonDivisor_38 (by decide) (fun c_38 => ?_) (fun c_38 => ?_)
      · skip
        first | simp only [cmp_eq, cmp_lt, cmp_ge, cmp_gt, cmp_le, lT0, lT1] at c_38 | simp only [Int32.le_iff_toInt_le, Int32.lt_iff_toInt_lt, ← Int32.toInt_inj, iT0, iT1, iT2, iT3, iT4, iT5, iT6, iT7, iT8, iT9, iT10, iT11, iT12, iT13, iT14, iT15, iT16, iT19, iT20, iT31, iT32, iT42, iT64, iT200, iT318, iT319, iT1000, iTm1, iTm2] at c_38
        exact absurd c_38 (by have := cd_j hj; omega)
      · skip
        first | simp only [cmp_eq, cmp_lt, cmp_ge, cmp_gt, cmp_le, lT0, lT1] at c_38 | simp only [Int32.le_iff_toInt_le, Int32.lt_iff_toInt_lt, ← Int32.toInt_inj, iT0, iT1, iT2, iT3, iT4, iT5, iT6, iT7, iT8, iT9, iT10, iT11, iT12, iT13, iT14, iT15, iT16, iT19, iT20, iT31, iT32, iT42, iT64, iT200, iT318, iT319, iT1000, iTm1, iTm2] at c_38
        refine j_aload_n X dX2_commonDivisor_41 rfl 2 rfl ?_
        refine j_callV X dX2_commonDivisor_42 (c_X9_sign l G y ay b ⟨by omega, by omega⟩) gX2_commonDivisor_X9_sign rfl hy_X9_sign_V ⟨Nat.le_of_ble_eq_true rfl, Nat.le_of_ble_eq_true rfl⟩ 0 rfl rfl [3, 4] rfl (by decide) rfl rfl (Nat.le_of_ble_eq_true rfl) ⟨Nat.le_of_ble_eq_true rfl, Nat.le_of_ble_eq_true rfl⟩ ?_
        rintro _ ⟨⟩ rfl
        change J p l e rm_X2_commonDivisor s m args below meth c Q G A 5 0 0 45 [(0, .ref o), (1, .ref x), (2, .ref y), (3, .int t)] [.int (sg b)] [(o, .inr (2, [.ref ab, .ref be, .ref na, .ref nb, .ref le, .ref ri, .ref qu, .ref sh, va_rf (me), va_rf (mw)])), (x, .inr (8, [.ref ax])), (ax, aJ G 8 (dg a)), (y, .inr (8, [.ref ay])), (ay, aJ G 8 (dg b)), (qu, .inr (8, [.ref aqu])), (aqu, aJ G 8 fq), (sh, .inr (8, [.ref ash])), (ash, aJ G 8 fs), (ab, .inr (8, [.ref aab])), (aab, aJ G 8 (dg a0)), (be, .inr (8, [.ref abe])), (abe, aJ G 8 (dg b0))]
        refine j_if_eq (tgt := 68) X dX2_commonDivisor_45 (by decide) (fun c_45 => ?_) (fun c_45 => ?_)
        · skip
          rw [sg_e0] at c_45
          have hb0 : b = 0 := by omega
          have hga : a = gc a0 b0 := by rw [← hg, hb0, gc_end hab.1.1]
          rcases hxy with ⟨⟨q1, q2⟩, q3, q4⟩ | ⟨⟨q1, q2⟩, q3, q4⟩
          · rw [q1, q2, q3, q4]
            refine j_aload_n X dX2_commonDivisor_68 rfl 1 rfl ?_
            exact E 69 _ (.ref le) (a, b, fq, fs) _ dX2_commonDivisor_69 (Or.inr ⟨_, rfl⟩) (Or.inl ⟨rfl, hga⟩) hr
          · rw [q1, q2, q3, q4]
            refine j_pick (ws' := [(o, .inr (2, [.ref ab, .ref be, .ref na, .ref nb, .ref le, .ref ri, .ref qu, .ref sh, va_rf (me), va_rf (mw)])), (le, .inr (8, [.ref ale])), (ale, aJ G 8 (dg b)), (ri, .inr (8, [.ref ari])), (ari, aJ G 8 (dg a)), (qu, .inr (8, [.ref aqu])), (aqu, aJ G 8 fq), (sh, .inr (8, [.ref ash])), (ash, aJ G 8 fs), (ab, .inr (8, [.ref aab])), (aab, aJ G 8 (dg a0)), (be, .inr (8, [.ref abe])), (abe, aJ G 8 (dg b0))]) [0, 3, 4, 1, 2, 5, 6, 7, 8, 9, 10, 11, 12] rfl (by decide) ?_
            refine j_aload_n X dX2_commonDivisor_68 rfl 1 rfl ?_
            exact E 69 _ (.ref ri) (b, a, fq, fs) _ dX2_commonDivisor_69 (Or.inr ⟨_, rfl⟩) (Or.inr ⟨rfl, hga⟩) hr
        · skip
          rw [sg_e0] at c_45
          refine j_aload_n X dX2_commonDivisor_48 rfl 0 rfl ?_
          refine j_aload_n X dX2_commonDivisor_49 rfl 1 rfl ?_
          refine j_aload_n X dX2_commonDivisor_50 rfl 2 rfl ?_
          refine j_callV X dX2_commonDivisor_51 (c_X2_divide l G o ab be na nb le ri qu sh aab abe 0 0 0 0 aqu ash me mw x ax y ay fq fs a b ⟨by omega, by omega⟩ (by omega) (by omega)) gX2_commonDivisor_X2_divide rfl hy_X2_divide_V ⟨Nat.le_of_ble_eq_true rfl, Nat.le_of_ble_eq_true rfl⟩ 0 rfl rfl [0, 1, 2, 3, 4, 5, 6, 7, 8] rfl (by decide) rfl rfl (Nat.le_of_ble_eq_true rfl) ⟨Nat.le_of_ble_eq_true rfl, Nat.le_of_ble_eq_true rfl⟩ ?_
          rintro _ g_1 rfl
          change J p l e rm_X2_commonDivisor s m args below meth c Q G A 5 0 0 54 [(0, .ref o), (1, .ref x), (2, .ref y), (3, .int t)] [] [(o, .inr (2, [.ref ab, .ref be, .ref na, .ref nb, .ref le, .ref ri, .ref qu, .ref sh, va_rf (me), va_rf (mw)])), (x, .inr (8, [.ref ax])), (ax, aJ G 8 (dg (a % b))), (y, .inr (8, [.ref ay])), (ay, aJ G 8 (dg b)), (qu, .inr (8, [.ref aqu])), (aqu, aJ G 8 (dg (a / b))), (sh, .inr (8, [.ref ash])), (ash, aJ G 8 g_1), (ab, .inr (8, [.ref aab])), (aab, aJ G 8 (dg a0)), (be, .inr (8, [.ref abe])), (abe, aJ G 8 (dg b0))]
          refine j_aload_n X dX2_commonDivisor_54 rfl 1 rfl ?_
          refine j_astore (L' := [(4, .ref x), (0, .ref o), (1, .ref x), (2, .ref y), (3, .int t)]) X dX2_commonDivisor_55 (by decide) rfl ?_
          refine j_aload_n X dX2_commonDivisor_57 rfl 3 rfl ?_
          refine j_astore_n (L' := [(1, .ref y), (4, .ref x), (0, .ref o), (2, .ref y), (3, .int t)]) X dX2_commonDivisor_58 rfl (by decide) rfl ?_
          refine j_aload X dX2_commonDivisor_59 1 rfl ?_
          refine j_astore_n (L' := [(2, .ref x), (1, .ref y), (4, .ref x), (0, .ref o), (3, .int t)]) X dX2_commonDivisor_61 rfl (by decide) rfl ?_
          obtain ⟨x_2, ex_2⟩ : ∃ y9 : Int32, y9 = t + 1 := ⟨_, rfl⟩
          refine j_iinc (v := x_2) (L' := [(3, .int x_2), (2, .ref x), (1, .ref y), (4, .ref x), (0, .ref o)]) X dX2_commonDivisor_62 4 rfl (by rw [ex_2]; rfl) (by decide) rfl ?_
          refine j_goto (tgt := 34) X dX2_commonDivisor_65 (by decide) ?_
          refine j_sub [4, 2, 1, 0] rfl ?_
          obtain ⟨M2, hM2, hj2⟩ := cd_st hab.1.1 (by omega) hM hj
          have hem := Int.emod_nonneg a (show b ≠ 0 by omega)
          refine j_pick (ws' := [(o, .inr (2, [.ref ab, .ref be, .ref na, .ref nb, .ref le, .ref ri, .ref qu, .ref sh, va_rf (me), va_rf (mw)])), (y, .inr (8, [.ref ay])), (ay, aJ G 8 (dg b)), (x, .inr (8, [.ref ax])), (ax, aJ G 8 (dg (a % b))), (qu, .inr (8, [.ref aqu])), (aqu, aJ G 8 (dg (a / b))), (sh, .inr (8, [.ref ash])), (ash, aJ G 8 g_1), (ab, .inr (8, [.ref aab])), (aab, aJ G 8 (dg a0)), (be, .inr (8, [.ref abe])), (abe, aJ G 8 (dg b0))]) [0, 3, 4, 1, 2, 5, 6, 7, 8, 9, 10, 11, 12] rfl (by decide) ?_
          exact ih y ay x ax b (a % b) (dg (a / b)) g_1 (j + 1) M2 x_2 (hxy.symm.imp (fun h => ⟨h.2, h.1⟩) (fun h => ⟨h.2, h.1⟩)) ⟨⟨by omega, by omega⟩, by omega, by omega⟩ ((cd_gc hab.1.1 hab.2.1).trans hg) hM2 (Or.inr hj2) (x_s ht (by omega) ex_2) (by omega)
  refine j_sub [3, 2, 1, 0] rfl ?_
  exact loop 300 le ale ri ari a0 b0 fq fs 0 250 0 (Or.inl ⟨⟨rfl, rfl⟩, rfl, rfl⟩) h0 rfl hM0 (Or.inl ⟨rfl, by decide⟩) rfl (by omega)

theorem hy_X2_commonDivisor_V : yX2_commonDivisor.cls = RX2 ∧ yX2_commonDivisor.cls ≠ "java/lang/invoke/MethodHandle" ∧ yX2_commonDivisor.cls ≠ "java/lang/invoke/VarHandle" ∧ (parseMethodDescriptor yX2_commonDivisor.desc).map (fun d => d.parameters.length) = some 0 := by decide +kernel
abbrev rm_X2_reduce : Room := { frames := 5, cells := 0, slots := 0, locals := 112 }
theorem in_X2_reduce_X2 : ∀ w ∈ u_ws RX2 TX2 10, w ∈ wsX2_reduce := by decide +kernel
theorem fl_X2_reduce_19 : Cond.fieldLink RX2 19 (TX2 2).1 (TX2 2).2.1 (TX2 2).2.2.1 ∈ wsX2_reduce := by decide +kernel
theorem fl_X2_reduce_10 : Cond.fieldLink RX2 10 (TX2 0).1 (TX2 0).2.1 (TX2 0).2.2.1 ∈ wsX2_reduce := by decide +kernel
theorem fl_X2_reduce_31 : Cond.fieldLink RX2 31 (TX2 6).1 (TX2 6).2.1 (TX2 6).2.2.1 ∈ wsX2_reduce := by decide +kernel
theorem fl_X2_reduce_22 : Cond.fieldLink RX2 22 (TX2 3).1 (TX2 3).2.1 (TX2 3).2.2.1 ∈ wsX2_reduce := by decide +kernel
theorem fl_X2_reduce_16 : Cond.fieldLink RX2 16 (TX2 1).1 (TX2 1).2.1 (TX2 1).2.2.1 ∈ wsX2_reduce := by decide +kernel
set_option maxHeartbeats 4000000 in
set_option maxRecDepth 100000 in
theorem c_X2_reduce (l : Launch) (G : jG) (o ab be na nb le ri qu sh aab abe ana anb ale ari aqu ash : Nat) (me mw : Option Nat) (fna fnb fle fri fqu fsh : Nat → Int64) (a b : Int) (h0 : (0 ≤ a ∧ a ≤ 93536104789177786765035829293842113257979682750464) ∧ (0 ≤ b ∧ b ≤ 93536104789177786765035829293842113257979682750464)) (hb0 : 0 < b) (hM0 : a * b < 2 ^ 250) : Ct l yX2_reduce wsX2_reduce rm_X2_reduce G [.ref o] [(o, .inr (2, [.ref ab, .ref be, .ref na, .ref nb, .ref le, .ref ri, .ref qu, .ref sh, va_rf (me), va_rf (mw)])), (ab, .inr (8, [.ref aab])), (aab, aJ G 8 (dg a)), (be, .inr (8, [.ref abe])), (abe, aJ G 8 (dg b)), (na, .inr (8, [.ref ana])), (ana, aJ G 8 fna), (nb, .inr (8, [.ref anb])), (anb, aJ G 8 fnb), (le, .inr (8, [.ref ale])), (ale, aJ G 8 fle), (ri, .inr (8, [.ref ari])), (ari, aJ G 8 fri), (qu, .inr (8, [.ref aqu])), (aqu, aJ G 8 fqu), (sh, .inr (8, [.ref ash])), (ash, aJ G 8 fsh)] (S := (Nat → Int64) × (Nat → Int64) × (Nat → Int64) × (Nat → Int64) × (Nat → Int64) × (Nat → Int64)) (fun r _ => r = none) (fun u => [(o, .inr (2, [.ref ab, .ref be, .ref na, .ref nb, .ref le, .ref ri, .ref qu, .ref sh, va_rf (me), va_rf (mw)])), (ab, .inr (8, [.ref aab])), (aab, aJ G 8 (dg (a / gc a b))), (be, .inr (8, [.ref abe])), (abe, aJ G 8 (dg (b / gc a b))), (na, .inr (8, [.ref ana])), (ana, aJ G 8 u.1), (nb, .inr (8, [.ref anb])), (anb, aJ G 8 u.2.1), (le, .inr (8, [.ref ale])), (ale, aJ G 8 u.2.2.1), (ri, .inr (8, [.ref ari])), (ari, aJ G 8 u.2.2.2.1), (qu, .inr (8, [.ref aqu])), (aqu, aJ G 8 u.2.2.2.2.1), (sh, .inr (8, [.ref ash])), (ash, aJ G 8 u.2.2.2.2.2)]) (fun _ => []) := by
  refine c_intro (cc := cX2_reduce) (maxL := 2) (ret := none) (by decide) rfl (Nat.le_of_ble_eq_true rfl) (fun _ => by simp only [List.map_cons, List.map_nil]) ?_
  intro p e s m args below meth c Q A X hr hin E
  change J p l e rm_X2_reduce s m args below meth c Q G A 2 0 0 0 [(0, .ref o)] [] [(o, .inr (2, [.ref ab, .ref be, .ref na, .ref nb, .ref le, .ref ri, .ref qu, .ref sh, va_rf (me), va_rf (mw)])), (ab, .inr (8, [.ref aab])), (aab, aJ G 8 (dg a)), (be, .inr (8, [.ref abe])), (abe, aJ G 8 (dg b)), (na, .inr (8, [.ref ana])), (ana, aJ G 8 fna), (nb, .inr (8, [.ref anb])), (anb, aJ G 8 fnb), (le, .inr (8, [.ref ale])), (ale, aJ G 8 fle), (ri, .inr (8, [.ref ari])), (ari, aJ G 8 fri), (qu, .inr (8, [.ref aqu])), (aqu, aJ G 8 fqu), (sh, .inr (8, [.ref ash])), (ash, aJ G 8 fsh)]
  have hgp := gc_pos (a := a) hb0
  have hgl := gc_le (a := a) hb0
  refine j_aload_n X dX2_reduce_0 rfl 0 rfl ?_
  refine j_callV X dX2_reduce_1 (c_X2_commonDivisor l G o ab be na nb le ri qu sh aab abe ana anb ale ari aqu ash me mw fle fri fqu fsh a b h0 hM0) gX2_reduce_X2_commonDivisor rfl hy_X2_commonDivisor_V ⟨Nat.le_of_ble_eq_true rfl, Nat.le_of_ble_eq_true rfl⟩ 0 rfl rfl [0, 9, 10, 11, 12, 13, 14, 15, 16, 1, 2, 3, 4] rfl (by decide) rfl rfl (Nat.le_of_ble_eq_true rfl) ⟨Nat.le_of_ble_eq_true rfl, Nat.le_of_ble_eq_true rfl⟩ ?_
  rintro rv9 ⟨u_1, u_2, u_3, u_4⟩ hcd
  rcases hcd with ⟨rfl, hg9⟩ | ⟨rfl, hg9⟩
  · skip
    dsimp only at hg9
    change J p l e rm_X2_reduce s m args below meth c Q G A 2 0 0 4 [(0, .ref o)] [.ref le] [(o, .inr (2, [.ref ab, .ref be, .ref na, .ref nb, .ref le, .ref ri, .ref qu, .ref sh, va_rf (me), va_rf (mw)])), (ab, .inr (8, [.ref aab])), (aab, aJ G 8 (dg a)), (be, .inr (8, [.ref abe])), (abe, aJ G 8 (dg b)), (na, .inr (8, [.ref ana])), (ana, aJ G 8 fna), (nb, .inr (8, [.ref anb])), (anb, aJ G 8 fnb), (le, .inr (8, [.ref ale])), (ale, aJ G 8 (dg u_1)), (ri, .inr (8, [.ref ari])), (ari, aJ G 8 (dg u_2)), (qu, .inr (8, [.ref aqu])), (aqu, aJ G 8 u_3), (sh, .inr (8, [.ref ash])), (ash, aJ G 8 u_4)]
    refine j_astore_n (L' := [(1, .ref le), (0, .ref o)]) X dX2_reduce_4 rfl (by decide) rfl ?_
    refine j_aload_n X dX2_reduce_5 rfl 1 rfl ?_
    refine j_get (v := .ref na) X dX2_reduce_6 0 rfl 2 rfl in_X2_reduce_X2 (by decide) fl_X2_reduce_19 rfl ?_
    refine j_aload_n X dX2_reduce_9 rfl 1 rfl ?_
    refine j_get (v := .ref ab) X dX2_reduce_10 0 rfl 0 rfl in_X2_reduce_X2 (by decide) fl_X2_reduce_10 rfl ?_
    refine j_callV X dX2_reduce_13 (c_X9_setTo_ l G na ana ab aab fna a) gX2_reduce_X9_setTo_ rfl hy_X9_setTo__V ⟨Nat.le_of_ble_eq_true rfl, Nat.le_of_ble_eq_true rfl⟩ 0 rfl rfl [5, 6, 1, 2] rfl (by decide) rfl rfl (Nat.le_of_ble_eq_true rfl) ⟨Nat.le_of_ble_eq_true rfl, Nat.le_of_ble_eq_true rfl⟩ ?_
    rintro _ ⟨⟩ rfl
    change J p l e rm_X2_reduce s m args below meth c Q G A 2 0 0 16 [(1, .ref le), (0, .ref o)] [] [(o, .inr (2, [.ref ab, .ref be, .ref na, .ref nb, .ref le, .ref ri, .ref qu, .ref sh, va_rf (me), va_rf (mw)])), (ab, .inr (8, [.ref aab])), (aab, aJ G 8 (dg a)), (be, .inr (8, [.ref abe])), (abe, aJ G 8 (dg b)), (na, .inr (8, [.ref ana])), (ana, aJ G 8 (dg a)), (nb, .inr (8, [.ref anb])), (anb, aJ G 8 fnb), (le, .inr (8, [.ref ale])), (ale, aJ G 8 (dg u_1)), (ri, .inr (8, [.ref ari])), (ari, aJ G 8 (dg u_2)), (qu, .inr (8, [.ref aqu])), (aqu, aJ G 8 u_3), (sh, .inr (8, [.ref ash])), (ash, aJ G 8 u_4)]
    refine j_aload_n X dX2_reduce_16 rfl 1 rfl ?_
    refine j_aload_n X dX2_reduce_17 rfl 1 rfl ?_
    refine j_get (v := .ref na) X dX2_reduce_18 0 rfl 2 rfl in_X2_reduce_X2 (by decide) fl_X2_reduce_19 rfl ?_
    refine j_aload_n X dX2_reduce_21 rfl 0 rfl ?_
    refine j_callV X dX2_reduce_22 (c_X2_divide l G o ab be na nb le ri qu sh aab abe ana anb ale ari aqu ash me mw na ana le ale u_3 u_4 a u_1 ⟨by omega, by omega⟩ (by rw [hg9]; exact hgp) (by rw [hg9]; omega)) gX2_reduce_X2_divide rfl hy_X2_divide_V ⟨Nat.le_of_ble_eq_true rfl, Nat.le_of_ble_eq_true rfl⟩ 0 rfl rfl [0, 5, 6, 9, 10, 13, 14, 15, 16] rfl (by decide) rfl rfl (Nat.le_of_ble_eq_true rfl) ⟨Nat.le_of_ble_eq_true rfl, Nat.le_of_ble_eq_true rfl⟩ ?_
    rintro _ g_5 rfl
    change J p l e rm_X2_reduce s m args below meth c Q G A 2 0 0 25 [(1, .ref le), (0, .ref o)] [] [(o, .inr (2, [.ref ab, .ref be, .ref na, .ref nb, .ref le, .ref ri, .ref qu, .ref sh, va_rf (me), va_rf (mw)])), (ab, .inr (8, [.ref aab])), (aab, aJ G 8 (dg a)), (be, .inr (8, [.ref abe])), (abe, aJ G 8 (dg b)), (na, .inr (8, [.ref ana])), (ana, aJ G 8 (dg (a % u_1))), (nb, .inr (8, [.ref anb])), (anb, aJ G 8 fnb), (le, .inr (8, [.ref ale])), (ale, aJ G 8 (dg u_1)), (ri, .inr (8, [.ref ari])), (ari, aJ G 8 (dg u_2)), (qu, .inr (8, [.ref aqu])), (aqu, aJ G 8 (dg (a / u_1))), (sh, .inr (8, [.ref ash])), (ash, aJ G 8 g_5)]
    refine j_aload_n X dX2_reduce_25 rfl 1 rfl ?_
    refine j_get (v := .ref ab) X dX2_reduce_26 0 rfl 0 rfl in_X2_reduce_X2 (by decide) fl_X2_reduce_10 rfl ?_
    refine j_aload_n X dX2_reduce_29 rfl 1 rfl ?_
    refine j_get (v := .ref qu) X dX2_reduce_30 0 rfl 6 rfl in_X2_reduce_X2 (by decide) fl_X2_reduce_31 rfl ?_
    refine j_callV X dX2_reduce_33 (c_X9_setTo_ l G ab aab qu aqu (dg a) (a / u_1)) gX2_reduce_X9_setTo_ rfl hy_X9_setTo__V ⟨Nat.le_of_ble_eq_true rfl, Nat.le_of_ble_eq_true rfl⟩ 0 rfl rfl [1, 2, 13, 14] rfl (by decide) rfl rfl (Nat.le_of_ble_eq_true rfl) ⟨Nat.le_of_ble_eq_true rfl, Nat.le_of_ble_eq_true rfl⟩ ?_
    rintro _ ⟨⟩ rfl
    change J p l e rm_X2_reduce s m args below meth c Q G A 2 0 0 36 [(1, .ref le), (0, .ref o)] [] [(o, .inr (2, [.ref ab, .ref be, .ref na, .ref nb, .ref le, .ref ri, .ref qu, .ref sh, va_rf (me), va_rf (mw)])), (ab, .inr (8, [.ref aab])), (aab, aJ G 8 (dg (a / u_1))), (be, .inr (8, [.ref abe])), (abe, aJ G 8 (dg b)), (na, .inr (8, [.ref ana])), (ana, aJ G 8 (dg (a % u_1))), (nb, .inr (8, [.ref anb])), (anb, aJ G 8 fnb), (le, .inr (8, [.ref ale])), (ale, aJ G 8 (dg u_1)), (ri, .inr (8, [.ref ari])), (ari, aJ G 8 (dg u_2)), (qu, .inr (8, [.ref aqu])), (aqu, aJ G 8 (dg (a / u_1))), (sh, .inr (8, [.ref ash])), (ash, aJ G 8 g_5)]
    refine j_aload_n X dX2_reduce_36 rfl 1 rfl ?_
    refine j_get (v := .ref nb) X dX2_reduce_37 0 rfl 3 rfl in_X2_reduce_X2 (by decide) fl_X2_reduce_22 rfl ?_
    refine j_aload_n X dX2_reduce_40 rfl 1 rfl ?_
    refine j_get (v := .ref be) X dX2_reduce_41 0 rfl 1 rfl in_X2_reduce_X2 (by decide) fl_X2_reduce_16 rfl ?_
    refine j_callV X dX2_reduce_44 (c_X9_setTo_ l G nb anb be abe fnb b) gX2_reduce_X9_setTo_ rfl hy_X9_setTo__V ⟨Nat.le_of_ble_eq_true rfl, Nat.le_of_ble_eq_true rfl⟩ 0 rfl rfl [7, 8, 3, 4] rfl (by decide) rfl rfl (Nat.le_of_ble_eq_true rfl) ⟨Nat.le_of_ble_eq_true rfl, Nat.le_of_ble_eq_true rfl⟩ ?_
    rintro _ ⟨⟩ rfl
    change J p l e rm_X2_reduce s m args below meth c Q G A 2 0 0 47 [(1, .ref le), (0, .ref o)] [] [(o, .inr (2, [.ref ab, .ref be, .ref na, .ref nb, .ref le, .ref ri, .ref qu, .ref sh, va_rf (me), va_rf (mw)])), (ab, .inr (8, [.ref aab])), (aab, aJ G 8 (dg (a / u_1))), (be, .inr (8, [.ref abe])), (abe, aJ G 8 (dg b)), (na, .inr (8, [.ref ana])), (ana, aJ G 8 (dg (a % u_1))), (nb, .inr (8, [.ref anb])), (anb, aJ G 8 (dg b)), (le, .inr (8, [.ref ale])), (ale, aJ G 8 (dg u_1)), (ri, .inr (8, [.ref ari])), (ari, aJ G 8 (dg u_2)), (qu, .inr (8, [.ref aqu])), (aqu, aJ G 8 (dg (a / u_1))), (sh, .inr (8, [.ref ash])), (ash, aJ G 8 g_5)]
    refine j_aload_n X dX2_reduce_47 rfl 1 rfl ?_
    refine j_aload_n X dX2_reduce_48 rfl 1 rfl ?_
    refine j_get (v := .ref nb) X dX2_reduce_49 0 rfl 3 rfl in_X2_reduce_X2 (by decide) fl_X2_reduce_22 rfl ?_
    refine j_aload_n X dX2_reduce_52 rfl 0 rfl ?_
    refine j_callV X dX2_reduce_53 (c_X2_divide l G o ab be na nb le ri qu sh aab abe ana anb ale ari aqu ash me mw nb anb le ale (dg (a / u_1)) g_5 b u_1 ⟨by omega, by omega⟩ (by rw [hg9]; exact hgp) (by rw [hg9]; omega)) gX2_reduce_X2_divide rfl hy_X2_divide_V ⟨Nat.le_of_ble_eq_true rfl, Nat.le_of_ble_eq_true rfl⟩ 0 rfl rfl [0, 7, 8, 9, 10, 13, 14, 15, 16] rfl (by decide) rfl rfl (Nat.le_of_ble_eq_true rfl) ⟨Nat.le_of_ble_eq_true rfl, Nat.le_of_ble_eq_true rfl⟩ ?_
    rintro _ g_6 rfl
    change J p l e rm_X2_reduce s m args below meth c Q G A 2 0 0 56 [(1, .ref le), (0, .ref o)] [] [(o, .inr (2, [.ref ab, .ref be, .ref na, .ref nb, .ref le, .ref ri, .ref qu, .ref sh, va_rf (me), va_rf (mw)])), (ab, .inr (8, [.ref aab])), (aab, aJ G 8 (dg (a / u_1))), (be, .inr (8, [.ref abe])), (abe, aJ G 8 (dg b)), (na, .inr (8, [.ref ana])), (ana, aJ G 8 (dg (a % u_1))), (nb, .inr (8, [.ref anb])), (anb, aJ G 8 (dg (b % u_1))), (le, .inr (8, [.ref ale])), (ale, aJ G 8 (dg u_1)), (ri, .inr (8, [.ref ari])), (ari, aJ G 8 (dg u_2)), (qu, .inr (8, [.ref aqu])), (aqu, aJ G 8 (dg (b / u_1))), (sh, .inr (8, [.ref ash])), (ash, aJ G 8 g_6)]
    refine j_aload_n X dX2_reduce_56 rfl 1 rfl ?_
    refine j_get (v := .ref be) X dX2_reduce_57 0 rfl 1 rfl in_X2_reduce_X2 (by decide) fl_X2_reduce_16 rfl ?_
    refine j_aload_n X dX2_reduce_60 rfl 1 rfl ?_
    refine j_get (v := .ref qu) X dX2_reduce_61 0 rfl 6 rfl in_X2_reduce_X2 (by decide) fl_X2_reduce_31 rfl ?_
    refine j_callV X dX2_reduce_64 (c_X9_setTo_ l G be abe qu aqu (dg b) (b / u_1)) gX2_reduce_X9_setTo_ rfl hy_X9_setTo__V ⟨Nat.le_of_ble_eq_true rfl, Nat.le_of_ble_eq_true rfl⟩ 0 rfl rfl [3, 4, 13, 14] rfl (by decide) rfl rfl (Nat.le_of_ble_eq_true rfl) ⟨Nat.le_of_ble_eq_true rfl, Nat.le_of_ble_eq_true rfl⟩ ?_
    rintro _ ⟨⟩ rfl
    change J p l e rm_X2_reduce s m args below meth c Q G A 2 0 0 67 [(1, .ref le), (0, .ref o)] [] [(o, .inr (2, [.ref ab, .ref be, .ref na, .ref nb, .ref le, .ref ri, .ref qu, .ref sh, va_rf (me), va_rf (mw)])), (ab, .inr (8, [.ref aab])), (aab, aJ G 8 (dg (a / u_1))), (be, .inr (8, [.ref abe])), (abe, aJ G 8 (dg (b / u_1))), (na, .inr (8, [.ref ana])), (ana, aJ G 8 (dg (a % u_1))), (nb, .inr (8, [.ref anb])), (anb, aJ G 8 (dg (b % u_1))), (le, .inr (8, [.ref ale])), (ale, aJ G 8 (dg u_1)), (ri, .inr (8, [.ref ari])), (ari, aJ G 8 (dg u_2)), (qu, .inr (8, [.ref aqu])), (aqu, aJ G 8 (dg (b / u_1))), (sh, .inr (8, [.ref ash])), (ash, aJ G 8 g_6)]
    rw [hg9]
    exact E.1 67 _ (dg (a % (gc a b)), dg (b % (gc a b)), dg (gc a b), dg u_2, dg (b / (gc a b)), g_6) dX2_reduce_67 rfl hr
  · skip
    dsimp only at hg9
    change J p l e rm_X2_reduce s m args below meth c Q G A 2 0 0 4 [(0, .ref o)] [.ref ri] [(o, .inr (2, [.ref ab, .ref be, .ref na, .ref nb, .ref le, .ref ri, .ref qu, .ref sh, va_rf (me), va_rf (mw)])), (ab, .inr (8, [.ref aab])), (aab, aJ G 8 (dg a)), (be, .inr (8, [.ref abe])), (abe, aJ G 8 (dg b)), (na, .inr (8, [.ref ana])), (ana, aJ G 8 fna), (nb, .inr (8, [.ref anb])), (anb, aJ G 8 fnb), (le, .inr (8, [.ref ale])), (ale, aJ G 8 (dg u_1)), (ri, .inr (8, [.ref ari])), (ari, aJ G 8 (dg u_2)), (qu, .inr (8, [.ref aqu])), (aqu, aJ G 8 u_3), (sh, .inr (8, [.ref ash])), (ash, aJ G 8 u_4)]
    refine j_astore_n (L' := [(1, .ref ri), (0, .ref o)]) X dX2_reduce_4 rfl (by decide) rfl ?_
    refine j_aload_n X dX2_reduce_5 rfl 1 rfl ?_
    refine j_get (v := .ref na) X dX2_reduce_6 0 rfl 2 rfl in_X2_reduce_X2 (by decide) fl_X2_reduce_19 rfl ?_
    refine j_aload_n X dX2_reduce_9 rfl 1 rfl ?_
    refine j_get (v := .ref ab) X dX2_reduce_10 0 rfl 0 rfl in_X2_reduce_X2 (by decide) fl_X2_reduce_10 rfl ?_
    refine j_callV X dX2_reduce_13 (c_X9_setTo_ l G na ana ab aab fna a) gX2_reduce_X9_setTo_ rfl hy_X9_setTo__V ⟨Nat.le_of_ble_eq_true rfl, Nat.le_of_ble_eq_true rfl⟩ 0 rfl rfl [5, 6, 1, 2] rfl (by decide) rfl rfl (Nat.le_of_ble_eq_true rfl) ⟨Nat.le_of_ble_eq_true rfl, Nat.le_of_ble_eq_true rfl⟩ ?_
    rintro _ ⟨⟩ rfl
    change J p l e rm_X2_reduce s m args below meth c Q G A 2 0 0 16 [(1, .ref ri), (0, .ref o)] [] [(o, .inr (2, [.ref ab, .ref be, .ref na, .ref nb, .ref le, .ref ri, .ref qu, .ref sh, va_rf (me), va_rf (mw)])), (ab, .inr (8, [.ref aab])), (aab, aJ G 8 (dg a)), (be, .inr (8, [.ref abe])), (abe, aJ G 8 (dg b)), (na, .inr (8, [.ref ana])), (ana, aJ G 8 (dg a)), (nb, .inr (8, [.ref anb])), (anb, aJ G 8 fnb), (le, .inr (8, [.ref ale])), (ale, aJ G 8 (dg u_1)), (ri, .inr (8, [.ref ari])), (ari, aJ G 8 (dg u_2)), (qu, .inr (8, [.ref aqu])), (aqu, aJ G 8 u_3), (sh, .inr (8, [.ref ash])), (ash, aJ G 8 u_4)]
    refine j_aload_n X dX2_reduce_16 rfl 1 rfl ?_
    refine j_aload_n X dX2_reduce_17 rfl 1 rfl ?_
    refine j_get (v := .ref na) X dX2_reduce_18 0 rfl 2 rfl in_X2_reduce_X2 (by decide) fl_X2_reduce_19 rfl ?_
    refine j_aload_n X dX2_reduce_21 rfl 0 rfl ?_
    refine j_callV X dX2_reduce_22 (c_X2_divide l G o ab be na nb le ri qu sh aab abe ana anb ale ari aqu ash me mw na ana ri ari u_3 u_4 a u_2 ⟨by omega, by omega⟩ (by rw [hg9]; exact hgp) (by rw [hg9]; omega)) gX2_reduce_X2_divide rfl hy_X2_divide_V ⟨Nat.le_of_ble_eq_true rfl, Nat.le_of_ble_eq_true rfl⟩ 0 rfl rfl [0, 5, 6, 11, 12, 13, 14, 15, 16] rfl (by decide) rfl rfl (Nat.le_of_ble_eq_true rfl) ⟨Nat.le_of_ble_eq_true rfl, Nat.le_of_ble_eq_true rfl⟩ ?_
    rintro _ g_7 rfl
    change J p l e rm_X2_reduce s m args below meth c Q G A 2 0 0 25 [(1, .ref ri), (0, .ref o)] [] [(o, .inr (2, [.ref ab, .ref be, .ref na, .ref nb, .ref le, .ref ri, .ref qu, .ref sh, va_rf (me), va_rf (mw)])), (ab, .inr (8, [.ref aab])), (aab, aJ G 8 (dg a)), (be, .inr (8, [.ref abe])), (abe, aJ G 8 (dg b)), (na, .inr (8, [.ref ana])), (ana, aJ G 8 (dg (a % u_2))), (nb, .inr (8, [.ref anb])), (anb, aJ G 8 fnb), (le, .inr (8, [.ref ale])), (ale, aJ G 8 (dg u_1)), (ri, .inr (8, [.ref ari])), (ari, aJ G 8 (dg u_2)), (qu, .inr (8, [.ref aqu])), (aqu, aJ G 8 (dg (a / u_2))), (sh, .inr (8, [.ref ash])), (ash, aJ G 8 g_7)]
    refine j_aload_n X dX2_reduce_25 rfl 1 rfl ?_
    refine j_get (v := .ref ab) X dX2_reduce_26 0 rfl 0 rfl in_X2_reduce_X2 (by decide) fl_X2_reduce_10 rfl ?_
    refine j_aload_n X dX2_reduce_29 rfl 1 rfl ?_
    refine j_get (v := .ref qu) X dX2_reduce_30 0 rfl 6 rfl in_X2_reduce_X2 (by decide) fl_X2_reduce_31 rfl ?_
    refine j_callV X dX2_reduce_33 (c_X9_setTo_ l G ab aab qu aqu (dg a) (a / u_2)) gX2_reduce_X9_setTo_ rfl hy_X9_setTo__V ⟨Nat.le_of_ble_eq_true rfl, Nat.le_of_ble_eq_true rfl⟩ 0 rfl rfl [1, 2, 13, 14] rfl (by decide) rfl rfl (Nat.le_of_ble_eq_true rfl) ⟨Nat.le_of_ble_eq_true rfl, Nat.le_of_ble_eq_true rfl⟩ ?_
    rintro _ ⟨⟩ rfl
    change J p l e rm_X2_reduce s m args below meth c Q G A 2 0 0 36 [(1, .ref ri), (0, .ref o)] [] [(o, .inr (2, [.ref ab, .ref be, .ref na, .ref nb, .ref le, .ref ri, .ref qu, .ref sh, va_rf (me), va_rf (mw)])), (ab, .inr (8, [.ref aab])), (aab, aJ G 8 (dg (a / u_2))), (be, .inr (8, [.ref abe])), (abe, aJ G 8 (dg b)), (na, .inr (8, [.ref ana])), (ana, aJ G 8 (dg (a % u_2))), (nb, .inr (8, [.ref anb])), (anb, aJ G 8 fnb), (le, .inr (8, [.ref ale])), (ale, aJ G 8 (dg u_1)), (ri, .inr (8, [.ref ari])), (ari, aJ G 8 (dg u_2)), (qu, .inr (8, [.ref aqu])), (aqu, aJ G 8 (dg (a / u_2))), (sh, .inr (8, [.ref ash])), (ash, aJ G 8 g_7)]
    refine j_aload_n X dX2_reduce_36 rfl 1 rfl ?_
    refine j_get (v := .ref nb) X dX2_reduce_37 0 rfl 3 rfl in_X2_reduce_X2 (by decide) fl_X2_reduce_22 rfl ?_
    refine j_aload_n X dX2_reduce_40 rfl 1 rfl ?_
    refine j_get (v := .ref be) X dX2_reduce_41 0 rfl 1 rfl in_X2_reduce_X2 (by decide) fl_X2_reduce_16 rfl ?_
    refine j_callV X dX2_reduce_44 (c_X9_setTo_ l G nb anb be abe fnb b) gX2_reduce_X9_setTo_ rfl hy_X9_setTo__V ⟨Nat.le_of_ble_eq_true rfl, Nat.le_of_ble_eq_true rfl⟩ 0 rfl rfl [7, 8, 3, 4] rfl (by decide) rfl rfl (Nat.le_of_ble_eq_true rfl) ⟨Nat.le_of_ble_eq_true rfl, Nat.le_of_ble_eq_true rfl⟩ ?_
    rintro _ ⟨⟩ rfl
    change J p l e rm_X2_reduce s m args below meth c Q G A 2 0 0 47 [(1, .ref ri), (0, .ref o)] [] [(o, .inr (2, [.ref ab, .ref be, .ref na, .ref nb, .ref le, .ref ri, .ref qu, .ref sh, va_rf (me), va_rf (mw)])), (ab, .inr (8, [.ref aab])), (aab, aJ G 8 (dg (a / u_2))), (be, .inr (8, [.ref abe])), (abe, aJ G 8 (dg b)), (na, .inr (8, [.ref ana])), (ana, aJ G 8 (dg (a % u_2))), (nb, .inr (8, [.ref anb])), (anb, aJ G 8 (dg b)), (le, .inr (8, [.ref ale])), (ale, aJ G 8 (dg u_1)), (ri, .inr (8, [.ref ari])), (ari, aJ G 8 (dg u_2)), (qu, .inr (8, [.ref aqu])), (aqu, aJ G 8 (dg (a / u_2))), (sh, .inr (8, [.ref ash])), (ash, aJ G 8 g_7)]
    refine j_aload_n X dX2_reduce_47 rfl 1 rfl ?_
    refine j_aload_n X dX2_reduce_48 rfl 1 rfl ?_
    refine j_get (v := .ref nb) X dX2_reduce_49 0 rfl 3 rfl in_X2_reduce_X2 (by decide) fl_X2_reduce_22 rfl ?_
    refine j_aload_n X dX2_reduce_52 rfl 0 rfl ?_
    refine j_callV X dX2_reduce_53 (c_X2_divide l G o ab be na nb le ri qu sh aab abe ana anb ale ari aqu ash me mw nb anb ri ari (dg (a / u_2)) g_7 b u_2 ⟨by omega, by omega⟩ (by rw [hg9]; exact hgp) (by rw [hg9]; omega)) gX2_reduce_X2_divide rfl hy_X2_divide_V ⟨Nat.le_of_ble_eq_true rfl, Nat.le_of_ble_eq_true rfl⟩ 0 rfl rfl [0, 7, 8, 11, 12, 13, 14, 15, 16] rfl (by decide) rfl rfl (Nat.le_of_ble_eq_true rfl) ⟨Nat.le_of_ble_eq_true rfl, Nat.le_of_ble_eq_true rfl⟩ ?_
    rintro _ g_8 rfl
    change J p l e rm_X2_reduce s m args below meth c Q G A 2 0 0 56 [(1, .ref ri), (0, .ref o)] [] [(o, .inr (2, [.ref ab, .ref be, .ref na, .ref nb, .ref le, .ref ri, .ref qu, .ref sh, va_rf (me), va_rf (mw)])), (ab, .inr (8, [.ref aab])), (aab, aJ G 8 (dg (a / u_2))), (be, .inr (8, [.ref abe])), (abe, aJ G 8 (dg b)), (na, .inr (8, [.ref ana])), (ana, aJ G 8 (dg (a % u_2))), (nb, .inr (8, [.ref anb])), (anb, aJ G 8 (dg (b % u_2))), (le, .inr (8, [.ref ale])), (ale, aJ G 8 (dg u_1)), (ri, .inr (8, [.ref ari])), (ari, aJ G 8 (dg u_2)), (qu, .inr (8, [.ref aqu])), (aqu, aJ G 8 (dg (b / u_2))), (sh, .inr (8, [.ref ash])), (ash, aJ G 8 g_8)]
    refine j_aload_n X dX2_reduce_56 rfl 1 rfl ?_
    refine j_get (v := .ref be) X dX2_reduce_57 0 rfl 1 rfl in_X2_reduce_X2 (by decide) fl_X2_reduce_16 rfl ?_
    refine j_aload_n X dX2_reduce_60 rfl 1 rfl ?_
    refine j_get (v := .ref qu) X dX2_reduce_61 0 rfl 6 rfl in_X2_reduce_X2 (by decide) fl_X2_reduce_31 rfl ?_
    refine j_callV X dX2_reduce_64 (c_X9_setTo_ l G be abe qu aqu (dg b) (b / u_2)) gX2_reduce_X9_setTo_ rfl hy_X9_setTo__V ⟨Nat.le_of_ble_eq_true rfl, Nat.le_of_ble_eq_true rfl⟩ 0 rfl rfl [3, 4, 13, 14] rfl (by decide) rfl rfl (Nat.le_of_ble_eq_true rfl) ⟨Nat.le_of_ble_eq_true rfl, Nat.le_of_ble_eq_true rfl⟩ ?_
    rintro _ ⟨⟩ rfl
    change J p l e rm_X2_reduce s m args below meth c Q G A 2 0 0 67 [(1, .ref ri), (0, .ref o)] [] [(o, .inr (2, [.ref ab, .ref be, .ref na, .ref nb, .ref le, .ref ri, .ref qu, .ref sh, va_rf (me), va_rf (mw)])), (ab, .inr (8, [.ref aab])), (aab, aJ G 8 (dg (a / u_2))), (be, .inr (8, [.ref abe])), (abe, aJ G 8 (dg (b / u_2))), (na, .inr (8, [.ref ana])), (ana, aJ G 8 (dg (a % u_2))), (nb, .inr (8, [.ref anb])), (anb, aJ G 8 (dg (b % u_2))), (le, .inr (8, [.ref ale])), (ale, aJ G 8 (dg u_1)), (ri, .inr (8, [.ref ari])), (ari, aJ G 8 (dg u_2)), (qu, .inr (8, [.ref aqu])), (aqu, aJ G 8 (dg (b / u_2))), (sh, .inr (8, [.ref ash])), (ash, aJ G 8 g_8)]
    rw [hg9]
    exact E.1 67 _ (dg (a % (gc a b)), dg (b % (gc a b)), dg u_1, dg (gc a b), dg (b / (gc a b)), g_8) dX2_reduce_67 rfl hr

theorem hy_X2_reduce_V : yX2_reduce.cls = RX2 ∧ yX2_reduce.cls ≠ "java/lang/invoke/MethodHandle" ∧ yX2_reduce.cls ≠ "java/lang/invoke/VarHandle" ∧ (parseMethodDescriptor yX2_reduce.desc).map (fun d => d.parameters.length) = some 0 := by decide +kernel
