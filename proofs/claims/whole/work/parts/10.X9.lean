abbrev rm_X9_limb : Room := { frames := 0, cells := 0, slots := 0, locals := 0 }
theorem in_X9_limb_X9 : ∀ w ∈ u_ws RX9 TX9 1, w ∈ wsX9_limb := by decide +kernel
theorem fl_X9_limb_9 : Cond.fieldLink RX9 9 (TX9 0).1 (TX9 0).2.1 (TX9 0).2.2.1 ∈ wsX9_limb := by decide +kernel
set_option maxHeartbeats 4000000 in
set_option maxRecDepth 100000 in
theorem c_X9_limb (l : Launch) (G : jG) (w a : Nat) (f : Nat → Int64) (x : Int32) : Ct l yX9_limb wsX9_limb rm_X9_limb G [.ref w, .int x] [(w, .inr (8, [.ref a])), (a, aJ G 8 f)] (S := Unit) (fun r _ => r = some (.long (if 0 ≤ x.toInt ∧ x.toInt < 8 then f x.toInt.toNat else 0))) (fun _ => [(w, .inr (8, [.ref a])), (a, aJ G 8 f)]) (fun _ => []) := by
  refine c_intro (cc := cX9_limb) (maxL := 2) (ret := (some .long)) (by decide) rfl (Nat.le_of_ble_eq_true rfl) (fun _ => rfl) ?_
  intro p e s m args below meth c Q A X hr hin E
  change J p l e rm_X9_limb s m args below meth c Q G A 2 0 0 0 [(0, .ref w), (1, .int x)] [] [(w, .inr (8, [.ref a])), (a, aJ G 8 f)]
  refine j_iload_n X dX9_limb_0 rfl 1 rfl ?_
  refine j_if_lt (tgt := 19) X dX9_limb_1 (by decide) (fun c_1 => ?_) (fun c_1 => ?_)
  · skip
    simp only [cmp_eq, cmp_lt, cmp_ge, cmp_gt, cmp_le, Int32.le_iff_toInt_le, Int32.lt_iff_toInt_lt, ← Int32.toInt_inj, lT0, lT1, iT0, iT1, iT2, iT3, iT4, iT5, iT6, iT7, iT8, iT9, iT10, iT11, iT12, iT13, iT14, iT15, iT16, iT19, iT20, iT31, iT32, iT42, iT64, iT200, iT318, iT319, iT1000, iTm1, iTm2] at c_1
    refine j_lconst (v := 0) X dX9_limb_19 rfl ?_
    exact E.2.2 20 _ 0 () dX9_limb_20 (by rw [if_neg (by omega)]) hr
  · skip
    simp only [cmp_eq, cmp_lt, cmp_ge, cmp_gt, cmp_le, Int32.le_iff_toInt_le, Int32.lt_iff_toInt_lt, ← Int32.toInt_inj, lT0, lT1, iT0, iT1, iT2, iT3, iT4, iT5, iT6, iT7, iT8, iT9, iT10, iT11, iT12, iT13, iT14, iT15, iT16, iT19, iT20, iT31, iT32, iT42, iT64, iT200, iT318, iT319, iT1000, iTm1, iTm2] at c_1
    refine j_iload_n X dX9_limb_4 rfl 1 rfl ?_
    refine j_bipush (v := 8) X dX9_limb_5 (by decide) ?_
    refine j_icmp_ge (tgt := 19) X dX9_limb_7 (by decide) (fun c_7 => ?_) (fun c_7 => ?_)
    · skip
      simp only [cmp_eq, cmp_lt, cmp_ge, cmp_gt, cmp_le, Int32.le_iff_toInt_le, Int32.lt_iff_toInt_lt, ← Int32.toInt_inj, lT0, lT1, iT0, iT1, iT2, iT3, iT4, iT5, iT6, iT7, iT8, iT9, iT10, iT11, iT12, iT13, iT14, iT15, iT16, iT19, iT20, iT31, iT32, iT42, iT64, iT200, iT318, iT319, iT1000, iTm1, iTm2] at c_7
      refine j_lconst (v := 0) X dX9_limb_19 rfl ?_
      exact E.2.2 20 _ 0 () dX9_limb_20 (by rw [if_neg (by omega)]) hr
    · skip
      simp only [cmp_eq, cmp_lt, cmp_ge, cmp_gt, cmp_le, Int32.le_iff_toInt_le, Int32.lt_iff_toInt_lt, ← Int32.toInt_inj, lT0, lT1, iT0, iT1, iT2, iT3, iT4, iT5, iT6, iT7, iT8, iT9, iT10, iT11, iT12, iT13, iT14, iT15, iT16, iT19, iT20, iT31, iT32, iT42, iT64, iT200, iT318, iT319, iT1000, iTm1, iTm2] at c_7
      refine j_aload_n X dX9_limb_10 rfl 0 rfl ?_
      refine j_get (v := .ref a) X dX9_limb_11 0 rfl 0 rfl in_X9_limb_X9 (by decide) fl_X9_limb_9 rfl ?_
      refine j_iload_n X dX9_limb_14 rfl 1 rfl ?_
      refine j_lald X dX9_limb_15 1 rfl x.toInt.toNat (i_nI (by omega) (by omega)) (by omega) (by decide) ?_
      refine j_goto (tgt := 20) X dX9_limb_16 (by decide) ?_
      exact E.2.2 20 _ (f x.toInt.toNat) () dX9_limb_20 (by rw [if_pos (by omega)]) hr

abbrev rm_X9_setTo : Room := { frames := 0, cells := 0, slots := 0, locals := 0 }
theorem in_X9_setTo_X9 : ∀ w ∈ u_ws RX9 TX9 1, w ∈ wsX9_setTo := by decide +kernel
theorem fl_X9_setTo_9 : Cond.fieldLink RX9 9 (TX9 0).1 (TX9 0).2.1 (TX9 0).2.2.1 ∈ wsX9_setTo := by decide +kernel
theorem k_X9_setTo_19 : Cond.constantLong RX9 19 (4294967295) ∈ wsX9_setTo := by decide +kernel
set_option maxHeartbeats 4000000 in
set_option maxRecDepth 100000 in
theorem c_X9_setTo (l : Launch) (G : jG) (w a : Nat) (f : Nat → Int64) (v : Int64) : Ct l yX9_setTo wsX9_setTo rm_X9_setTo G [.ref w, .long v] [(w, .inr (8, [.ref a])), (a, aJ G 8 f)] (S := Unit) (fun r _ => r = none) (fun _ => [(w, .inr (8, [.ref a])), (a, aJ G 8 (dg v.toInt))]) (fun _ => []) := by
  refine c_intro (cc := cX9_setTo) (maxL := 6) (ret := none) (by decide) rfl (Nat.le_of_ble_eq_true rfl) (fun _ => rfl) ?_
  intro p e s m args below meth c Q A X hr hin E
  change J p l e rm_X9_setTo s m args below meth c Q G A 6 0 0 0 [(0, .ref w), (1, .long v)] [] [(w, .inr (8, [.ref a])), (a, aJ G 8 f)]
  refine j_lload_n X dX9_setTo_0 rfl 1 rfl ?_
  refine j_lstore_n (L' := [(3, .long v), (0, .ref w), (1, .long v)]) X dX9_setTo_1 rfl (by decide) rfl ?_
  refine j_iconst (v := 0) X dX9_setTo_2 rfl ?_
  refine j_istore (L' := [(5, .int 0), (3, .long v), (0, .ref w), (1, .long v)]) X dX9_setTo_3 (by decide) rfl ?_
  have loop : ∀ (d : Nat) (i : Nat) (x : Int32) (r : Int64) (g : Nat → Int64) (hi : i ≤ 8) (hx : x.toInt = i) (hr1 : r.toInt = v.toInt / dP i) (hg : ∀ j, j < i → g j = dg v.toInt j), 8 - i < d → J p l e rm_X9_setTo s m args below meth c Q G A 6 0 0 5 [(0, .ref w), (3, .long r), (5, .int x)] [] [(w, .inr (8, [.ref a])), (a, aJ G 8 g)] := by
    intro d
    induction d with
    | zero => intro i x r g hi hx hr1 hg hd0; exact absurd hd0 (Nat.not_lt_zero _)
    | succ d ih =>
      intro i x r g hi hx hr1 hg hd0
      refine j_iload X dX9_setTo_5 2 rfl ?_
      refine j_bipush (v := 8) X dX9_setTo_7 (by decide) ?_
      refine j_icmp_ge (tgt := 35) X dX9_setTo_9 (by decide) (fun c_9 => ?_) (fun c_9 => ?_)
      · skip
        simp only [cmp_eq, cmp_lt, cmp_ge, cmp_gt, cmp_le, Int32.le_iff_toInt_le, Int32.lt_iff_toInt_lt, ← Int32.toInt_inj, lT0, lT1, iT0, iT1, iT2, iT3, iT4, iT5, iT6, iT7, iT8, iT9, iT10, iT11, iT12, iT13, iT14, iT15, iT16, iT19, iT20, iT31, iT32, iT42, iT64, iT200, iT318, iT319, iT1000, iTm1, iTm2] at c_9
        refine j_setJ (g := dg v.toInt) 1 rfl (fun j hj => hg j (by omega)) rfl ?_
        exact E.1 35 _ () dX9_setTo_35 rfl hr
      · skip
        simp only [cmp_eq, cmp_lt, cmp_ge, cmp_gt, cmp_le, Int32.le_iff_toInt_le, Int32.lt_iff_toInt_lt, ← Int32.toInt_inj, lT0, lT1, iT0, iT1, iT2, iT3, iT4, iT5, iT6, iT7, iT8, iT9, iT10, iT11, iT12, iT13, iT14, iT15, iT16, iT19, iT20, iT31, iT32, iT42, iT64, iT200, iT318, iT319, iT1000, iTm1, iTm2] at c_9
        refine j_aload_n X dX9_setTo_12 rfl 0 rfl ?_
        refine j_get (v := .ref a) X dX9_setTo_13 0 rfl 0 rfl in_X9_setTo_X9 (by decide) fl_X9_setTo_9 rfl ?_
        refine j_iload X dX9_setTo_16 2 rfl ?_
        refine j_lload_n X dX9_setTo_18 rfl 1 rfl ?_
        refine j_ldc2 (v := 4294967295) X dX9_setTo_19 k_X9_setTo_19 ?_
        refine j_land X dX9_setTo_22 ?_
        refine j_topl (fun x_1 ex_1 => ?_)
        refine j_last (ws' := [(w, .inr (8, [.ref a])), (a, aJ G 8 (vp_updL g i x_1))]) X dX9_setTo_23 1 rfl i (i_nI hx (by omega)) (by omega) (by decide) rfl ?_
        refine j_lload_n X dX9_setTo_24 rfl 1 rfl ?_
        refine j_bipush (v := 32) X dX9_setTo_25 (by decide) ?_
        obtain ⟨x_2, ex_2⟩ : ∃ z : Int64, r >>> ((32 : Int32).toInt64 &&& 63) = z := ⟨_, rfl⟩
        refine j_lshr (v := x_2) X dX9_setTo_27 ex_2 ?_
        refine j_lstore_n (L' := [(3, .long x_2), (0, .ref w), (5, .int x)]) X dX9_setTo_28 rfl (by decide) rfl ?_
        obtain ⟨x_3, ex_3⟩ : ∃ y : Int32, y = x + 1 := ⟨_, rfl⟩
        refine j_iinc (v := x_3) (L' := [(5, .int x_3), (3, .long x_2), (0, .ref w)]) X dX9_setTo_29 2 rfl (by rw [ex_3]; rfl) (by decide) rfl ?_
        refine j_goto (tgt := 5) X dX9_setTo_32 (by decide) ?_
        refine j_sub [2, 1, 0] rfl ?_
        exact ih (i + 1) x_3 x_2 (vp_updL g i x_1) (by omega) (by rw [ex_3, i_add] <;> simp <;> omega) (s_next hr1 (l_ss32 ex_2)) (s_step hg (ex_1.trans (s_dig hr1))) (by omega)
  refine j_sub [2, 1, 0] rfl ?_
  exact loop 9 0 0 v f (by omega) rfl (by rw [dP_0]; omega) (fun j hj => absurd hj (Nat.not_lt_zero j)) (by omega)
