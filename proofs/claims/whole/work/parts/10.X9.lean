abbrev rm_X9_limb : Room := { frames := 0, cells := 0, slots := 0, locals := 0 }
theorem in_X9_limb_X9 : ∀ w ∈ u_ws RX9 TX9 1, w ∈ wsX9_limb := by decide +kernel
theorem fl_X9_limb_9 : Cond.fieldLink RX9 9 (TX9 0).1 (TX9 0).2.1 (TX9 0).2.2.1 ∈ wsX9_limb := by decide +kernel
set_option maxHeartbeats 4000000 in
set_option maxRecDepth 100000 in
theorem c_X9_limb (l : Launch) (G : jG) (w a : Nat) (f : Nat → Int64) (x : Int32) : Ct l yX9_limb wsX9_limb rm_X9_limb G [.ref w, .int x] [(w, .inr (8, [.ref a])), (a, aJ G 8 f)] (S := Unit) (fun r _ => r = some (.long (if 0 ≤ x.toInt ∧ x.toInt < 8 then f x.toInt.toNat else 0))) (fun _ => [(w, .inr (8, [.ref a])), (a, aJ G 8 f)]) (fun _ => []) := by
  refine c_intro (cc := cX9_limb) (maxL := 2) (ret := (some .long)) (by decide) rfl (Nat.le_of_ble_eq_true rfl) (fun _ => by simp only [List.map_cons, List.map_nil]) ?_
  intro p e s m args below meth c Q A X hr hin E
  change J p l e rm_X9_limb s m args below meth c Q G A 2 0 0 0 [(0, .ref w), (1, .int x)] [] [(w, .inr (8, [.ref a])), (a, aJ G 8 f)]
  refine j_iload_n X dX9_limb_0 rfl 1 rfl ?_
  refine j_if_lt (tgt := 19) X dX9_limb_1 (by decide) (fun c_1 => ?_) (fun c_1 => ?_)
  · skip
    first | simp only [cmp_eq, cmp_lt, cmp_ge, cmp_gt, cmp_le, lT0, lT1] at c_1 | simp only [Int32.le_iff_toInt_le, Int32.lt_iff_toInt_lt, ← Int32.toInt_inj, iT0, iT1, iT2, iT3, iT4, iT5, iT6, iT7, iT8, iT9, iT10, iT11, iT12, iT13, iT14, iT15, iT16, iT19, iT20, iT31, iT32, iT42, iT64, iT200, iT318, iT319, iT1000, iTm1, iTm2] at c_1
    refine j_lconst (v := 0) X dX9_limb_19 rfl ?_
    exact E.2.2 20 _ 0 () dX9_limb_20 (by rw [if_neg (by omega)]) hr
  · skip
    first | simp only [cmp_eq, cmp_lt, cmp_ge, cmp_gt, cmp_le, lT0, lT1] at c_1 | simp only [Int32.le_iff_toInt_le, Int32.lt_iff_toInt_lt, ← Int32.toInt_inj, iT0, iT1, iT2, iT3, iT4, iT5, iT6, iT7, iT8, iT9, iT10, iT11, iT12, iT13, iT14, iT15, iT16, iT19, iT20, iT31, iT32, iT42, iT64, iT200, iT318, iT319, iT1000, iTm1, iTm2] at c_1
    refine j_iload_n X dX9_limb_4 rfl 1 rfl ?_
    refine j_bipush (v := 8) X dX9_limb_5 (by decide) ?_
    refine j_icmp_ge (tgt := 19) X dX9_limb_7 (by decide) (fun c_7 => ?_) (fun c_7 => ?_)
    · skip
      first | simp only [cmp_eq, cmp_lt, cmp_ge, cmp_gt, cmp_le, lT0, lT1] at c_7 | simp only [Int32.le_iff_toInt_le, Int32.lt_iff_toInt_lt, ← Int32.toInt_inj, iT0, iT1, iT2, iT3, iT4, iT5, iT6, iT7, iT8, iT9, iT10, iT11, iT12, iT13, iT14, iT15, iT16, iT19, iT20, iT31, iT32, iT42, iT64, iT200, iT318, iT319, iT1000, iTm1, iTm2] at c_7
      refine j_lconst (v := 0) X dX9_limb_19 rfl ?_
      exact E.2.2 20 _ 0 () dX9_limb_20 (by rw [if_neg (by omega)]) hr
    · skip
      first | simp only [cmp_eq, cmp_lt, cmp_ge, cmp_gt, cmp_le, lT0, lT1] at c_7 | simp only [Int32.le_iff_toInt_le, Int32.lt_iff_toInt_lt, ← Int32.toInt_inj, iT0, iT1, iT2, iT3, iT4, iT5, iT6, iT7, iT8, iT9, iT10, iT11, iT12, iT13, iT14, iT15, iT16, iT19, iT20, iT31, iT32, iT42, iT64, iT200, iT318, iT319, iT1000, iTm1, iTm2] at c_7
      refine j_aload_n X dX9_limb_10 rfl 0 rfl ?_
      refine j_get (v := .ref a) X dX9_limb_11 0 rfl 0 rfl in_X9_limb_X9 (by decide) fl_X9_limb_9 rfl ?_
      refine j_iload_n X dX9_limb_14 rfl 1 rfl ?_
      refine j_lald X dX9_limb_15 1 rfl x.toInt.toNat (i_nI (by omega) (by omega)) (by omega) (by decide) ?_
      refine j_goto (tgt := 20) X dX9_limb_16 (by decide) ?_
      exact E.2.2 20 _ (f x.toInt.toNat) () dX9_limb_20 (by rw [if_pos (by omega)]) hr

theorem hy_X9_limb_V : yX9_limb.cls = RX9 ∧ yX9_limb.cls ≠ "java/lang/invoke/MethodHandle" ∧ yX9_limb.cls ≠ "java/lang/invoke/VarHandle" ∧ (parseMethodDescriptor yX9_limb.desc).map (fun d => d.parameters.length) = some 1 := by decide +kernel
abbrev rm_X9_setTo : Room := { frames := 0, cells := 0, slots := 0, locals := 0 }
theorem in_X9_setTo_X9 : ∀ w ∈ u_ws RX9 TX9 1, w ∈ wsX9_setTo := by decide +kernel
theorem fl_X9_setTo_9 : Cond.fieldLink RX9 9 (TX9 0).1 (TX9 0).2.1 (TX9 0).2.2.1 ∈ wsX9_setTo := by decide +kernel
theorem k_X9_setTo_19 : Cond.constantLong RX9 19 (4294967295) ∈ wsX9_setTo := by decide +kernel
set_option maxHeartbeats 4000000 in
set_option maxRecDepth 100000 in
theorem c_X9_setTo (l : Launch) (G : jG) (w a : Nat) (f : Nat → Int64) (v : Int64) : Ct l yX9_setTo wsX9_setTo rm_X9_setTo G [.ref w, .long v] [(w, .inr (8, [.ref a])), (a, aJ G 8 f)] (S := Unit) (fun r _ => r = none) (fun _ => [(w, .inr (8, [.ref a])), (a, aJ G 8 (dg v.toInt))]) (fun _ => []) := by
  refine c_intro (cc := cX9_setTo) (maxL := 6) (ret := none) (by decide) rfl (Nat.le_of_ble_eq_true rfl) (fun _ => by simp only [List.map_cons, List.map_nil]) ?_
  intro p e s m args below meth c Q A X hr hin E
  change J p l e rm_X9_setTo s m args below meth c Q G A 6 0 0 0 [(0, .ref w), (1, .long v)] [] [(w, .inr (8, [.ref a])), (a, aJ G 8 f)]
  refine j_lload_n X dX9_setTo_0 rfl 1 rfl ?_
  refine j_lstore_n (L' := [(3, .long v), (0, .ref w), (1, .long v)]) X dX9_setTo_1 rfl (by decide) rfl ?_
  refine j_iconst (v := 0) X dX9_setTo_2 rfl ?_
  refine j_istore (L' := [(5, .int 0), (3, .long v), (0, .ref w), (1, .long v)]) X dX9_setTo_3 (by decide) rfl ?_
  have loop : ∀ (d : Nat) (i : Nat) (x : Int32) (r : Int64) (g : Nat → Int64) (hi : i ≤ 8) (hx : x.toInt = i) (hr1 : r.toInt = v.toInt / dP i) (hg : ∀ j, j < i → g j = dg v.toInt j), 8 - i < d → J p l e rm_X9_setTo s m args below meth c Q G A 6 0 0 5 [(0, .ref w), (3, .long r), (5, .int x)] [] [(w, .inr (8, [.ref a])), (a, aJ G 8 g)] := by
    intro d
    induction d with
    | zero => intro i x r g hi hx hr1 hg hd0; exact absurd hd0 (Nat.not_lt_zero _)
    | succ d ih =>
      intro i x r g hi hx hr1 hg hd0
      refine j_iload X dX9_setTo_5 2 rfl ?_
      refine j_bipush (v := 8) X dX9_setTo_7 (by decide) ?_
      refine j_icmp_ge (tgt := 35) X dX9_setTo_9 (by decide) (fun c_9 => ?_) (fun c_9 => ?_)
      · skip
        first | simp only [cmp_eq, cmp_lt, cmp_ge, cmp_gt, cmp_le, lT0, lT1] at c_9 | simp only [Int32.le_iff_toInt_le, Int32.lt_iff_toInt_lt, ← Int32.toInt_inj, iT0, iT1, iT2, iT3, iT4, iT5, iT6, iT7, iT8, iT9, iT10, iT11, iT12, iT13, iT14, iT15, iT16, iT19, iT20, iT31, iT32, iT42, iT64, iT200, iT318, iT319, iT1000, iTm1, iTm2] at c_9
        refine j_setJ (g := dg v.toInt) 1 rfl (fun j hj => hg j (by omega)) rfl ?_
        exact E.1 35 _ () dX9_setTo_35 rfl hr
      · skip
        first | simp only [cmp_eq, cmp_lt, cmp_ge, cmp_gt, cmp_le, lT0, lT1] at c_9 | simp only [Int32.le_iff_toInt_le, Int32.lt_iff_toInt_lt, ← Int32.toInt_inj, iT0, iT1, iT2, iT3, iT4, iT5, iT6, iT7, iT8, iT9, iT10, iT11, iT12, iT13, iT14, iT15, iT16, iT19, iT20, iT31, iT32, iT42, iT64, iT200, iT318, iT319, iT1000, iTm1, iTm2] at c_9
        refine j_aload_n X dX9_setTo_12 rfl 0 rfl ?_
        refine j_get (v := .ref a) X dX9_setTo_13 0 rfl 0 rfl in_X9_setTo_X9 (by decide) fl_X9_setTo_9 rfl ?_
        refine j_iload X dX9_setTo_16 2 rfl ?_
        refine j_lload_n X dX9_setTo_18 rfl 1 rfl ?_
        refine j_ldc2 (v := 4294967295) X dX9_setTo_19 k_X9_setTo_19 ?_
        refine j_land X dX9_setTo_22 ?_
        refine j_topl (fun x_1 ex_1 => ?_)
        refine j_last (ws' := [(w, .inr (8, [.ref a])), (a, aJ G 8 (vp_updL g i x_1))]) X dX9_setTo_23 1 rfl i (i_nI hx (by omega)) (by omega) (by decide) rfl ?_
        refine j_lload_n X dX9_setTo_24 rfl 1 rfl ?_
        refine j_bipush (v := 32) X dX9_setTo_25 (by decide) ?_
        obtain ⟨x_2, ex_2⟩ : ∃ z9 : Int64, r >>> ((32 : Int32).toInt64 &&& 63) = z9 := ⟨_, rfl⟩
        refine j_lshr (v := x_2) X dX9_setTo_27 ex_2 ?_
        refine j_lstore_n (L' := [(3, .long x_2), (0, .ref w), (5, .int x)]) X dX9_setTo_28 rfl (by decide) rfl ?_
        obtain ⟨x_3, ex_3⟩ : ∃ y9 : Int32, y9 = x + 1 := ⟨_, rfl⟩
        refine j_iinc (v := x_3) (L' := [(5, .int x_3), (3, .long x_2), (0, .ref w)]) X dX9_setTo_29 2 rfl (by rw [ex_3]; rfl) (by decide) rfl ?_
        refine j_goto (tgt := 5) X dX9_setTo_32 (by decide) ?_
        refine j_sub [2, 1, 0] rfl ?_
        exact ih (i + 1) x_3 x_2 (vp_updL g i x_1) (by omega) (x_s hx (by omega) ex_3) (s_next hr1 (l_ss32 ex_2)) (s_step hg (ex_1.trans (s_dig hr1))) (by omega)
  refine j_sub [2, 1, 0] rfl ?_
  exact loop 9 0 0 v f (by omega) rfl (by rw [dP_0]; omega) (fun j hj => absurd hj (Nat.not_lt_zero j)) (by omega)

theorem hy_X9_setTo_V : yX9_setTo.cls = RX9 ∧ yX9_setTo.cls ≠ "java/lang/invoke/MethodHandle" ∧ yX9_setTo.cls ≠ "java/lang/invoke/VarHandle" ∧ (parseMethodDescriptor yX9_setTo.desc).map (fun d => d.parameters.length) = some 1 := by decide +kernel
abbrev rm_X9_add : Room := { frames := 0, cells := 0, slots := 0, locals := 0 }
theorem in_X9_add_X9 : ∀ w ∈ u_ws RX9 TX9 1, w ∈ wsX9_add := by decide +kernel
theorem fl_X9_add_9 : Cond.fieldLink RX9 9 (TX9 0).1 (TX9 0).2.1 (TX9 0).2.2.1 ∈ wsX9_add := by decide +kernel
theorem k_X9_add_19 : Cond.constantLong RX9 19 (4294967295) ∈ wsX9_add := by decide +kernel
set_option maxHeartbeats 4000000 in
set_option maxRecDepth 100000 in
theorem c_X9_add (l : Launch) (G : jG) (w a o b : Nat) (x y : Int) : Ct l yX9_add wsX9_add rm_X9_add G [.ref w, .ref o] [(w, .inr (8, [.ref a])), (a, aJ G 8 (dg x)), (o, .inr (8, [.ref b])), (b, aJ G 8 (dg y))] (S := Unit) (fun r _ => r = none) (fun _ => [(w, .inr (8, [.ref a])), (a, aJ G 8 (dg (x + y))), (o, .inr (8, [.ref b])), (b, aJ G 8 (dg y))]) (fun _ => []) := by
  refine c_intro (cc := cX9_add) (maxL := 7) (ret := none) (by decide) rfl (Nat.le_of_ble_eq_true rfl) (fun _ => by simp only [List.map_cons, List.map_nil]) ?_
  intro p e s m args below meth c Q A X hr hin E
  change J p l e rm_X9_add s m args below meth c Q G A 7 0 0 0 [(0, .ref w), (1, .ref o)] [] [(w, .inr (8, [.ref a])), (a, aJ G 8 (dg x)), (o, .inr (8, [.ref b])), (b, aJ G 8 (dg y))]
  refine j_lconst (v := 0) X dX9_add_0 rfl ?_
  refine j_lstore_n (L' := [(2, .long 0), (0, .ref w), (1, .ref o)]) X dX9_add_1 rfl (by decide) rfl ?_
  refine j_iconst (v := 0) X dX9_add_2 rfl ?_
  refine j_istore (L' := [(4, .int 0), (2, .long 0), (0, .ref w), (1, .ref o)]) X dX9_add_3 (by decide) rfl ?_
  have loop : ∀ (d : Nat) (i : Nat) (t : Int32) (r : Int64) (g : Nat → Int64) (hi : i ≤ 8) (hx : t.toInt = i) (hr1 : r.toInt = (x % dP i + y % dP i) / dP i) (hg1 : ∀ j, j < i → g j = dg (x + y) j) (hg2 : ∀ j, i ≤ j → g j = dg x j), 8 - i < d → J p l e rm_X9_add s m args below meth c Q G A 7 0 0 5 [(0, .ref w), (1, .ref o), (2, .long r), (4, .int t)] [] [(w, .inr (8, [.ref a])), (a, aJ G 8 g), (o, .inr (8, [.ref b])), (b, aJ G 8 (dg y))] := by
    intro d
    induction d with
    | zero => intro i t r g hi hx hr1 hg1 hg2 hd0; exact absurd hd0 (Nat.not_lt_zero _)
    | succ d ih =>
      intro i t r g hi hx hr1 hg1 hg2 hd0
      refine j_iload X dX9_add_5 3 rfl ?_
      refine j_bipush (v := 8) X dX9_add_7 (by decide) ?_
      refine j_icmp_ge (tgt := 56) X dX9_add_9 (by decide) (fun c_9 => ?_) (fun c_9 => ?_)
      · skip
        first | simp only [cmp_eq, cmp_lt, cmp_ge, cmp_gt, cmp_le, lT0, lT1] at c_9 | simp only [Int32.le_iff_toInt_le, Int32.lt_iff_toInt_lt, ← Int32.toInt_inj, iT0, iT1, iT2, iT3, iT4, iT5, iT6, iT7, iT8, iT9, iT10, iT11, iT12, iT13, iT14, iT15, iT16, iT19, iT20, iT31, iT32, iT42, iT64, iT200, iT318, iT319, iT1000, iTm1, iTm2] at c_9
        refine j_setJ (g := dg (x + y)) 1 rfl (fun j hj => hg1 j (by omega)) rfl ?_
        exact E.1 56 _ () dX9_add_56 rfl hr
      · skip
        first | simp only [cmp_eq, cmp_lt, cmp_ge, cmp_gt, cmp_le, lT0, lT1] at c_9 | simp only [Int32.le_iff_toInt_le, Int32.lt_iff_toInt_lt, ← Int32.toInt_inj, iT0, iT1, iT2, iT3, iT4, iT5, iT6, iT7, iT8, iT9, iT10, iT11, iT12, iT13, iT14, iT15, iT16, iT19, iT20, iT31, iT32, iT42, iT64, iT200, iT318, iT319, iT1000, iTm1, iTm2] at c_9
        refine j_aload_n X dX9_add_12 rfl 0 rfl ?_
        refine j_get (v := .ref a) X dX9_add_13 0 rfl 0 rfl in_X9_add_X9 (by decide) fl_X9_add_9 rfl ?_
        refine j_iload X dX9_add_16 3 rfl ?_
        refine j_lald X dX9_add_18 1 rfl i (i_nI hx (by omega)) (by omega) (by decide) ?_
        refine j_aload_n X dX9_add_19 rfl 1 rfl ?_
        refine j_get (v := .ref b) X dX9_add_20 2 rfl 0 rfl in_X9_add_X9 (by decide) fl_X9_add_9 rfl ?_
        refine j_iload X dX9_add_23 3 rfl ?_
        refine j_lald X dX9_add_25 3 rfl i (i_nI hx (by omega)) (by omega) (by decide) ?_
        refine j_ladd X dX9_add_26 ?_
        refine j_lload_n X dX9_add_27 rfl 2 rfl ?_
        refine j_ladd X dX9_add_28 ?_
        refine j_topl (fun x_1 ex_1 => ?_)
        refine j_lstore (L' := [(5, .long x_1), (0, .ref w), (1, .ref o), (2, .long r), (4, .int t)]) X dX9_add_29 (by decide) rfl ?_
        refine j_aload_n X dX9_add_31 rfl 1 rfl ?_
        refine j_get (v := .ref a) X dX9_add_32 0 rfl 0 rfl in_X9_add_X9 (by decide) fl_X9_add_9 rfl ?_
        refine j_iload X dX9_add_35 4 rfl ?_
        refine j_lload X dX9_add_37 0 rfl ?_
        refine j_ldc2 (v := 4294967295) X dX9_add_39 k_X9_add_19 ?_
        refine j_land X dX9_add_42 ?_
        refine j_topl (fun x_2 ex_2 => ?_)
        refine j_last (ws' := [(w, .inr (8, [.ref a])), (a, aJ G 8 (vp_updL g i x_2)), (o, .inr (8, [.ref b])), (b, aJ G 8 (dg y))]) X dX9_add_43 1 rfl i (i_nI hx (by omega)) (by omega) (by decide) rfl ?_
        refine j_lload X dX9_add_44 0 rfl ?_
        refine j_bipush (v := 32) X dX9_add_46 (by decide) ?_
        obtain ⟨x_3, ex_3⟩ : ∃ z9 : Int64, (x_1.toUInt64 >>> ((32 : Int32).toInt64.toUInt64 &&& Int64.toUInt64 63)).toInt64 = z9 := ⟨_, rfl⟩
        refine j_lushr (v := x_3) X dX9_add_48 ex_3 ?_
        refine j_lstore_n (L' := [(2, .long x_3), (5, .long x_1), (0, .ref w), (1, .ref o), (4, .int t)]) X dX9_add_49 rfl (by decide) rfl ?_
        obtain ⟨x_4, ex_4⟩ : ∃ y9 : Int32, y9 = t + 1 := ⟨_, rfl⟩
        refine j_iinc (v := x_4) (L' := [(4, .int x_4), (2, .long x_3), (5, .long x_1), (0, .ref w), (1, .ref o)]) X dX9_add_50 4 rfl (by rw [ex_4]; rfl) (by decide) rfl ?_
        refine j_goto (tgt := 5) X dX9_add_53 (by decide) ?_
        refine j_sub [3, 4, 1, 0] rfl ?_
        exact ih (i + 1) x_4 x_3 (vp_updL g i x_2) (by omega) (x_s hx (by omega) ex_4) (add_c (hg2 i (Nat.le_refl i)) rfl hr1 ex_1 ex_3) (f_step (o := g) hg1 (ex_2.trans (add_d (hg2 i (Nat.le_refl i)) rfl hr1 ex_1))) (f_rest hg2) (by omega)
  refine j_sub [2, 3, 1, 0] rfl ?_
  exact loop 9 0 0 0 (dg x) (by omega) rfl (by rw [dP_0, lT0]; omega) (fun j hj => absurd hj (Nat.not_lt_zero j)) (fun j _ => rfl) (by omega)

theorem hy_X9_add_V : yX9_add.cls = RX9 ∧ yX9_add.cls ≠ "java/lang/invoke/MethodHandle" ∧ yX9_add.cls ≠ "java/lang/invoke/VarHandle" ∧ (parseMethodDescriptor yX9_add.desc).map (fun d => d.parameters.length) = some 1 := by decide +kernel
abbrev rm_X9_subtract : Room := { frames := 0, cells := 0, slots := 0, locals := 0 }
theorem in_X9_subtract_X9 : ∀ w ∈ u_ws RX9 TX9 1, w ∈ wsX9_subtract := by decide +kernel
theorem fl_X9_subtract_9 : Cond.fieldLink RX9 9 (TX9 0).1 (TX9 0).2.1 (TX9 0).2.2.1 ∈ wsX9_subtract := by decide +kernel
theorem k_X9_subtract_19 : Cond.constantLong RX9 19 (4294967295) ∈ wsX9_subtract := by decide +kernel
set_option maxHeartbeats 4000000 in
set_option maxRecDepth 100000 in
theorem c_X9_subtract (l : Launch) (G : jG) (w a o b : Nat) (x y : Int) : Ct l yX9_subtract wsX9_subtract rm_X9_subtract G [.ref w, .ref o] [(w, .inr (8, [.ref a])), (a, aJ G 8 (dg x)), (o, .inr (8, [.ref b])), (b, aJ G 8 (dg y))] (S := Unit) (fun r _ => r = none) (fun _ => [(w, .inr (8, [.ref a])), (a, aJ G 8 (dg (x - y))), (o, .inr (8, [.ref b])), (b, aJ G 8 (dg y))]) (fun _ => []) := by
  refine c_intro (cc := cX9_subtract) (maxL := 7) (ret := none) (by decide) rfl (Nat.le_of_ble_eq_true rfl) (fun _ => by simp only [List.map_cons, List.map_nil]) ?_
  intro p e s m args below meth c Q A X hr hin E
  change J p l e rm_X9_subtract s m args below meth c Q G A 7 0 0 0 [(0, .ref w), (1, .ref o)] [] [(w, .inr (8, [.ref a])), (a, aJ G 8 (dg x)), (o, .inr (8, [.ref b])), (b, aJ G 8 (dg y))]
  refine j_lconst (v := 0) X dX9_subtract_0 rfl ?_
  refine j_lstore_n (L' := [(2, .long 0), (0, .ref w), (1, .ref o)]) X dX9_subtract_1 rfl (by decide) rfl ?_
  refine j_iconst (v := 0) X dX9_subtract_2 rfl ?_
  refine j_istore (L' := [(4, .int 0), (2, .long 0), (0, .ref w), (1, .ref o)]) X dX9_subtract_3 (by decide) rfl ?_
  have loop : ∀ (d : Nat) (i : Nat) (t : Int32) (r : Int64) (g : Nat → Int64) (hi : i ≤ 8) (hx : t.toInt = i) (hr1 : r.toInt = (x % dP i - y % dP i) / dP i) (hg1 : ∀ j, j < i → g j = dg (x - y) j) (hg2 : ∀ j, i ≤ j → g j = dg x j), 8 - i < d → J p l e rm_X9_subtract s m args below meth c Q G A 7 0 0 5 [(0, .ref w), (1, .ref o), (2, .long r), (4, .int t)] [] [(w, .inr (8, [.ref a])), (a, aJ G 8 g), (o, .inr (8, [.ref b])), (b, aJ G 8 (dg y))] := by
    intro d
    induction d with
    | zero => intro i t r g hi hx hr1 hg1 hg2 hd0; exact absurd hd0 (Nat.not_lt_zero _)
    | succ d ih =>
      intro i t r g hi hx hr1 hg1 hg2 hd0
      refine j_iload X dX9_subtract_5 3 rfl ?_
      refine j_bipush (v := 8) X dX9_subtract_7 (by decide) ?_
      refine j_icmp_ge (tgt := 56) X dX9_subtract_9 (by decide) (fun c_9 => ?_) (fun c_9 => ?_)
      · skip
        first | simp only [cmp_eq, cmp_lt, cmp_ge, cmp_gt, cmp_le, lT0, lT1] at c_9 | simp only [Int32.le_iff_toInt_le, Int32.lt_iff_toInt_lt, ← Int32.toInt_inj, iT0, iT1, iT2, iT3, iT4, iT5, iT6, iT7, iT8, iT9, iT10, iT11, iT12, iT13, iT14, iT15, iT16, iT19, iT20, iT31, iT32, iT42, iT64, iT200, iT318, iT319, iT1000, iTm1, iTm2] at c_9
        refine j_setJ (g := dg (x - y)) 1 rfl (fun j hj => hg1 j (by omega)) rfl ?_
        exact E.1 56 _ () dX9_subtract_56 rfl hr
      · skip
        first | simp only [cmp_eq, cmp_lt, cmp_ge, cmp_gt, cmp_le, lT0, lT1] at c_9 | simp only [Int32.le_iff_toInt_le, Int32.lt_iff_toInt_lt, ← Int32.toInt_inj, iT0, iT1, iT2, iT3, iT4, iT5, iT6, iT7, iT8, iT9, iT10, iT11, iT12, iT13, iT14, iT15, iT16, iT19, iT20, iT31, iT32, iT42, iT64, iT200, iT318, iT319, iT1000, iTm1, iTm2] at c_9
        refine j_aload_n X dX9_subtract_12 rfl 0 rfl ?_
        refine j_get (v := .ref a) X dX9_subtract_13 0 rfl 0 rfl in_X9_subtract_X9 (by decide) fl_X9_subtract_9 rfl ?_
        refine j_iload X dX9_subtract_16 3 rfl ?_
        refine j_lald X dX9_subtract_18 1 rfl i (i_nI hx (by omega)) (by omega) (by decide) ?_
        refine j_aload_n X dX9_subtract_19 rfl 1 rfl ?_
        refine j_get (v := .ref b) X dX9_subtract_20 2 rfl 0 rfl in_X9_subtract_X9 (by decide) fl_X9_subtract_9 rfl ?_
        refine j_iload X dX9_subtract_23 3 rfl ?_
        refine j_lald X dX9_subtract_25 3 rfl i (i_nI hx (by omega)) (by omega) (by decide) ?_
        refine j_lsub X dX9_subtract_26 ?_
        refine j_lload_n X dX9_subtract_27 rfl 2 rfl ?_
        refine j_ladd X dX9_subtract_28 ?_
        refine j_topl (fun x_1 ex_1 => ?_)
        refine j_lstore (L' := [(5, .long x_1), (0, .ref w), (1, .ref o), (2, .long r), (4, .int t)]) X dX9_subtract_29 (by decide) rfl ?_
        refine j_aload_n X dX9_subtract_31 rfl 1 rfl ?_
        refine j_get (v := .ref a) X dX9_subtract_32 0 rfl 0 rfl in_X9_subtract_X9 (by decide) fl_X9_subtract_9 rfl ?_
        refine j_iload X dX9_subtract_35 4 rfl ?_
        refine j_lload X dX9_subtract_37 0 rfl ?_
        refine j_ldc2 (v := 4294967295) X dX9_subtract_39 k_X9_subtract_19 ?_
        refine j_land X dX9_subtract_42 ?_
        refine j_topl (fun x_2 ex_2 => ?_)
        refine j_last (ws' := [(w, .inr (8, [.ref a])), (a, aJ G 8 (vp_updL g i x_2)), (o, .inr (8, [.ref b])), (b, aJ G 8 (dg y))]) X dX9_subtract_43 1 rfl i (i_nI hx (by omega)) (by omega) (by decide) rfl ?_
        refine j_lload X dX9_subtract_44 0 rfl ?_
        refine j_bipush (v := 32) X dX9_subtract_46 (by decide) ?_
        obtain ⟨x_3, ex_3⟩ : ∃ z9 : Int64, x_1 >>> ((32 : Int32).toInt64 &&& 63) = z9 := ⟨_, rfl⟩
        refine j_lshr (v := x_3) X dX9_subtract_48 ex_3 ?_
        refine j_lstore_n (L' := [(2, .long x_3), (5, .long x_1), (0, .ref w), (1, .ref o), (4, .int t)]) X dX9_subtract_49 rfl (by decide) rfl ?_
        obtain ⟨x_4, ex_4⟩ : ∃ y9 : Int32, y9 = t + 1 := ⟨_, rfl⟩
        refine j_iinc (v := x_4) (L' := [(4, .int x_4), (2, .long x_3), (5, .long x_1), (0, .ref w), (1, .ref o)]) X dX9_subtract_50 4 rfl (by rw [ex_4]; rfl) (by decide) rfl ?_
        refine j_goto (tgt := 5) X dX9_subtract_53 (by decide) ?_
        refine j_sub [3, 4, 1, 0] rfl ?_
        exact ih (i + 1) x_4 x_3 (vp_updL g i x_2) (by omega) (x_s hx (by omega) ex_4) (sub_c (hg2 i (Nat.le_refl i)) rfl hr1 ex_1 ex_3) (f_step (o := g) hg1 (ex_2.trans (sub_d (hg2 i (Nat.le_refl i)) rfl hr1 ex_1))) (f_rest hg2) (by omega)
  refine j_sub [2, 3, 1, 0] rfl ?_
  exact loop 9 0 0 0 (dg x) (by omega) rfl (by rw [dP_0, lT0]; omega) (fun j hj => absurd hj (Nat.not_lt_zero j)) (fun j _ => rfl) (by omega)

theorem hy_X9_subtract_V : yX9_subtract.cls = RX9 ∧ yX9_subtract.cls ≠ "java/lang/invoke/MethodHandle" ∧ yX9_subtract.cls ≠ "java/lang/invoke/VarHandle" ∧ (parseMethodDescriptor yX9_subtract.desc).map (fun d => d.parameters.length) = some 1 := by decide +kernel
abbrev rm_X9_negate : Room := { frames := 0, cells := 0, slots := 0, locals := 0 }
theorem in_X9_negate_X9 : ∀ w ∈ u_ws RX9 TX9 1, w ∈ wsX9_negate := by decide +kernel
theorem fl_X9_negate_9 : Cond.fieldLink RX9 9 (TX9 0).1 (TX9 0).2.1 (TX9 0).2.2.1 ∈ wsX9_negate := by decide +kernel
theorem k_X9_negate_19 : Cond.constantLong RX9 19 (4294967295) ∈ wsX9_negate := by decide +kernel
set_option maxHeartbeats 4000000 in
set_option maxRecDepth 100000 in
theorem c_X9_negate (l : Launch) (G : jG) (w a : Nat) (x : Int) : Ct l yX9_negate wsX9_negate rm_X9_negate G [.ref w] [(w, .inr (8, [.ref a])), (a, aJ G 8 (dg x))] (S := Unit) (fun r _ => r = none) (fun _ => [(w, .inr (8, [.ref a])), (a, aJ G 8 (dg (-x)))]) (fun _ => []) := by
  refine c_intro (cc := cX9_negate) (maxL := 6) (ret := none) (by decide) rfl (Nat.le_of_ble_eq_true rfl) (fun _ => by simp only [List.map_cons, List.map_nil]) ?_
  intro p e s m args below meth c Q A X hr hin E
  change J p l e rm_X9_negate s m args below meth c Q G A 6 0 0 0 [(0, .ref w)] [] [(w, .inr (8, [.ref a])), (a, aJ G 8 (dg x))]
  refine j_lconst (v := 1) X dX9_negate_0 rfl ?_
  refine j_lstore_n (L' := [(1, .long 1), (0, .ref w)]) X dX9_negate_1 rfl (by decide) rfl ?_
  refine j_iconst (v := 0) X dX9_negate_2 rfl ?_
  refine j_istore_n (L' := [(3, .int 0), (1, .long 1), (0, .ref w)]) X dX9_negate_3 rfl (by decide) rfl ?_
  have loop : ∀ (d : Nat) (i : Nat) (t : Int32) (r : Int64) (g : Nat → Int64) (hi : i ≤ 8) (hx : t.toInt = i) (hr1 : r.toInt = (dP i - x % dP i) / dP i) (hg1 : ∀ j, j < i → g j = dg (-x) j) (hg2 : ∀ j, i ≤ j → g j = dg x j), 8 - i < d → J p l e rm_X9_negate s m args below meth c Q G A 6 0 0 4 [(0, .ref w), (1, .long r), (3, .int t)] [] [(w, .inr (8, [.ref a])), (a, aJ G 8 g)] := by
    intro d
    induction d with
    | zero => intro i t r g hi hx hr1 hg1 hg2 hd0; exact absurd hd0 (Nat.not_lt_zero _)
    | succ d ih =>
      intro i t r g hi hx hr1 hg1 hg2 hd0
      refine j_iload_n X dX9_negate_4 rfl 2 rfl ?_
      refine j_bipush (v := 8) X dX9_negate_5 (by decide) ?_
      refine j_icmp_ge (tgt := 48) X dX9_negate_7 (by decide) (fun c_7 => ?_) (fun c_7 => ?_)
      · skip
        first | simp only [cmp_eq, cmp_lt, cmp_ge, cmp_gt, cmp_le, lT0, lT1] at c_7 | simp only [Int32.le_iff_toInt_le, Int32.lt_iff_toInt_lt, ← Int32.toInt_inj, iT0, iT1, iT2, iT3, iT4, iT5, iT6, iT7, iT8, iT9, iT10, iT11, iT12, iT13, iT14, iT15, iT16, iT19, iT20, iT31, iT32, iT42, iT64, iT200, iT318, iT319, iT1000, iTm1, iTm2] at c_7
        refine j_setJ (g := dg (-x)) 1 rfl (fun j hj => hg1 j (by omega)) rfl ?_
        exact E.1 48 _ () dX9_negate_48 rfl hr
      · skip
        first | simp only [cmp_eq, cmp_lt, cmp_ge, cmp_gt, cmp_le, lT0, lT1] at c_7 | simp only [Int32.le_iff_toInt_le, Int32.lt_iff_toInt_lt, ← Int32.toInt_inj, iT0, iT1, iT2, iT3, iT4, iT5, iT6, iT7, iT8, iT9, iT10, iT11, iT12, iT13, iT14, iT15, iT16, iT19, iT20, iT31, iT32, iT42, iT64, iT200, iT318, iT319, iT1000, iTm1, iTm2] at c_7
        refine j_aload_n X dX9_negate_10 rfl 0 rfl ?_
        refine j_get (v := .ref a) X dX9_negate_11 0 rfl 0 rfl in_X9_negate_X9 (by decide) fl_X9_negate_9 rfl ?_
        refine j_iload_n X dX9_negate_14 rfl 2 rfl ?_
        refine j_lald X dX9_negate_15 1 rfl i (i_nI hx (by omega)) (by omega) (by decide) ?_
        refine j_ldc2 (v := 4294967295) X dX9_negate_16 k_X9_negate_19 ?_
        refine j_lxor X dX9_negate_19 ?_
        refine j_lload_n X dX9_negate_20 rfl 1 rfl ?_
        refine j_ladd X dX9_negate_21 ?_
        refine j_topl (fun x_1 ex_1 => ?_)
        refine j_lstore (L' := [(4, .long x_1), (0, .ref w), (1, .long r), (3, .int t)]) X dX9_negate_22 (by decide) rfl ?_
        refine j_aload_n X dX9_negate_24 rfl 1 rfl ?_
        refine j_get (v := .ref a) X dX9_negate_25 0 rfl 0 rfl in_X9_negate_X9 (by decide) fl_X9_negate_9 rfl ?_
        refine j_iload_n X dX9_negate_28 rfl 3 rfl ?_
        refine j_lload X dX9_negate_29 0 rfl ?_
        refine j_ldc2 (v := 4294967295) X dX9_negate_31 k_X9_negate_19 ?_
        refine j_land X dX9_negate_34 ?_
        refine j_topl (fun x_2 ex_2 => ?_)
        refine j_last (ws' := [(w, .inr (8, [.ref a])), (a, aJ G 8 (vp_updL g i x_2))]) X dX9_negate_35 1 rfl i (i_nI hx (by omega)) (by omega) (by decide) rfl ?_
        refine j_lload X dX9_negate_36 0 rfl ?_
        refine j_bipush (v := 32) X dX9_negate_38 (by decide) ?_
        obtain ⟨x_3, ex_3⟩ : ∃ z9 : Int64, (x_1.toUInt64 >>> ((32 : Int32).toInt64.toUInt64 &&& Int64.toUInt64 63)).toInt64 = z9 := ⟨_, rfl⟩
        refine j_lushr (v := x_3) X dX9_negate_40 ex_3 ?_
        refine j_lstore_n (L' := [(1, .long x_3), (4, .long x_1), (0, .ref w), (3, .int t)]) X dX9_negate_41 rfl (by decide) rfl ?_
        obtain ⟨x_4, ex_4⟩ : ∃ y9 : Int32, y9 = t + 1 := ⟨_, rfl⟩
        refine j_iinc (v := x_4) (L' := [(3, .int x_4), (1, .long x_3), (4, .long x_1), (0, .ref w)]) X dX9_negate_42 3 rfl (by rw [ex_4]; rfl) (by decide) rfl ?_
        refine j_goto (tgt := 4) X dX9_negate_45 (by decide) ?_
        refine j_sub [3, 1, 0] rfl ?_
        exact ih (i + 1) x_4 x_3 (vp_updL g i x_2) (by omega) (x_s hx (by omega) ex_4) (neg_c (hg2 i (Nat.le_refl i)) hr1 ex_1 ex_3) (f_step (o := g) hg1 (ex_2.trans (neg_d (hg2 i (Nat.le_refl i)) hr1 ex_1))) (f_rest hg2) (by omega)
  refine j_sub [2, 1, 0] rfl ?_
  exact loop 9 0 0 1 (dg x) (by omega) rfl (by rw [dP_0, lT1]; omega) (fun j hj => absurd hj (Nat.not_lt_zero j)) (fun j _ => rfl) (by omega)

theorem hy_X9_negate_V : yX9_negate.cls = RX9 ∧ yX9_negate.cls ≠ "java/lang/invoke/MethodHandle" ∧ yX9_negate.cls ≠ "java/lang/invoke/VarHandle" ∧ (parseMethodDescriptor yX9_negate.desc).map (fun d => d.parameters.length) = some 0 := by decide +kernel
abbrev rm_X9_highOfProduct : Room := { frames := 0, cells := 0, slots := 0, locals := 0 }
theorem k_X9_highOfProduct_19 : Cond.constantLong RX9 19 (4294967295) ∈ wsX9_highOfProduct := by decide +kernel
set_option maxHeartbeats 4000000 in
set_option maxRecDepth 100000 in
theorem c_X9_highOfProduct (l : Launch) (G : jG) (a b : Int64) : Ct l yX9_highOfProduct wsX9_highOfProduct rm_X9_highOfProduct G [.long a, .long b] [] (S := Int64) (fun r (h : Int64) => r = some (.long h) ∧ h.toInt = a.toInt * b.toInt / 18446744073709551616) (fun _ => []) (fun _ => []) := by
  refine c_intro (cc := cX9_highOfProduct) (maxL := 16) (ret := (some .long)) (by decide) rfl (Nat.le_of_ble_eq_true rfl) (fun _ => by simp only [List.map_cons, List.map_nil]) ?_
  intro p e s m args below meth c Q A X hr hin E
  change J p l e rm_X9_highOfProduct s m args below meth c Q G A 16 0 0 0 [(0, .long a), (2, .long b)] [] []
  refine j_lload_n X dX9_highOfProduct_0 rfl 0 rfl ?_
  refine j_bipush (v := 32) X dX9_highOfProduct_1 (by decide) ?_
  obtain ⟨x_1, ex_1⟩ : ∃ z9 : Int64, a >>> ((32 : Int32).toInt64 &&& 63) = z9 := ⟨_, rfl⟩
  refine j_lshr (v := x_1) X dX9_highOfProduct_3 ex_1 ?_
  refine j_lstore (L' := [(4, .long x_1), (0, .long a), (2, .long b)]) X dX9_highOfProduct_4 (by decide) rfl ?_
  refine j_lload_n X dX9_highOfProduct_6 rfl 1 rfl ?_
  refine j_ldc2 (v := 4294967295) X dX9_highOfProduct_7 k_X9_highOfProduct_19 ?_
  refine j_land X dX9_highOfProduct_10 ?_
  refine j_topl (fun x_2 ex_2 => ?_)
  refine j_lstore (L' := [(6, .long x_2), (4, .long x_1), (0, .long a), (2, .long b)]) X dX9_highOfProduct_11 (by decide) rfl ?_
  refine j_lload_n X dX9_highOfProduct_13 rfl 3 rfl ?_
  refine j_bipush (v := 32) X dX9_highOfProduct_14 (by decide) ?_
  obtain ⟨x_3, ex_3⟩ : ∃ z9 : Int64, b >>> ((32 : Int32).toInt64 &&& 63) = z9 := ⟨_, rfl⟩
  refine j_lshr (v := x_3) X dX9_highOfProduct_16 ex_3 ?_
  refine j_lstore (L' := [(8, .long x_3), (6, .long x_2), (4, .long x_1), (0, .long a), (2, .long b)]) X dX9_highOfProduct_17 (by decide) rfl ?_
  refine j_lload_n X dX9_highOfProduct_19 rfl 4 rfl ?_
  refine j_ldc2 (v := 4294967295) X dX9_highOfProduct_20 k_X9_highOfProduct_19 ?_
  refine j_land X dX9_highOfProduct_23 ?_
  refine j_topl (fun x_4 ex_4 => ?_)
  refine j_lstore (L' := [(10, .long x_4), (8, .long x_3), (6, .long x_2), (4, .long x_1), (0, .long a), (2, .long b)]) X dX9_highOfProduct_24 (by decide) rfl ?_
  refine j_lload X dX9_highOfProduct_26 3 rfl ?_
  refine j_lload X dX9_highOfProduct_28 0 rfl ?_
  refine j_lmul X dX9_highOfProduct_30 ?_
  refine j_lload X dX9_highOfProduct_31 2 rfl ?_
  refine j_lload X dX9_highOfProduct_33 0 rfl ?_
  refine j_lmul X dX9_highOfProduct_35 ?_
  refine j_bipush (v := 32) X dX9_highOfProduct_36 (by decide) ?_
  obtain ⟨x_5, ex_5⟩ : ∃ z9 : Int64, ((x_2 * x_4).toUInt64 >>> ((32 : Int32).toInt64.toUInt64 &&& Int64.toUInt64 63)).toInt64 = z9 := ⟨_, rfl⟩
  refine j_lushr (v := x_5) X dX9_highOfProduct_38 ex_5 ?_
  refine j_ladd X dX9_highOfProduct_39 ?_
  refine j_topl (fun x_6 ex_6 => ?_)
  refine j_lstore (L' := [(12, .long x_6), (10, .long x_4), (8, .long x_3), (6, .long x_2), (4, .long x_1), (0, .long a), (2, .long b)]) X dX9_highOfProduct_40 (by decide) rfl ?_
  refine j_lload X dX9_highOfProduct_42 3 rfl ?_
  refine j_lload X dX9_highOfProduct_44 2 rfl ?_
  refine j_lmul X dX9_highOfProduct_46 ?_
  refine j_lload X dX9_highOfProduct_47 0 rfl ?_
  refine j_ldc2 (v := 4294967295) X dX9_highOfProduct_49 k_X9_highOfProduct_19 ?_
  refine j_land X dX9_highOfProduct_52 ?_
  refine j_ladd X dX9_highOfProduct_53 ?_
  refine j_topl (fun x_7 ex_7 => ?_)
  refine j_lstore (L' := [(14, .long x_7), (12, .long x_6), (10, .long x_4), (8, .long x_3), (6, .long x_2), (4, .long x_1), (0, .long a), (2, .long b)]) X dX9_highOfProduct_54 (by decide) rfl ?_
  refine j_lload X dX9_highOfProduct_56 5 rfl ?_
  refine j_lload X dX9_highOfProduct_58 3 rfl ?_
  refine j_lmul X dX9_highOfProduct_60 ?_
  refine j_lload X dX9_highOfProduct_61 1 rfl ?_
  refine j_bipush (v := 32) X dX9_highOfProduct_63 (by decide) ?_
  obtain ⟨x_8, ex_8⟩ : ∃ z9 : Int64, x_6 >>> ((32 : Int32).toInt64 &&& 63) = z9 := ⟨_, rfl⟩
  refine j_lshr (v := x_8) X dX9_highOfProduct_65 ex_8 ?_
  refine j_ladd X dX9_highOfProduct_66 ?_
  refine j_lload X dX9_highOfProduct_67 0 rfl ?_
  refine j_bipush (v := 32) X dX9_highOfProduct_69 (by decide) ?_
  obtain ⟨x_9, ex_9⟩ : ∃ z9 : Int64, x_7 >>> ((32 : Int32).toInt64 &&& 63) = z9 := ⟨_, rfl⟩
  refine j_lshr (v := x_9) X dX9_highOfProduct_71 ex_9 ?_
  refine j_ladd X dX9_highOfProduct_72 ?_
  exact E.2.2 73 _ (((x_1 * x_3) + x_8) + x_9) _ dX9_highOfProduct_73 (⟨rfl, hp_main ex_1 ex_2 ex_3 ex_4 ex_5 ex_6 ex_7 ex_8 ex_9⟩) hr

theorem hy_X9_highOfProduct_S : yX9_highOfProduct.cls ≠ "java/lang/invoke/MethodHandle" ∧ yX9_highOfProduct.cls ≠ "java/lang/invoke/VarHandle" ∧ (parseMethodDescriptor yX9_highOfProduct.desc).map (fun d => d.parameters.length) = some 2 := by decide +kernel
abbrev rm_X9_addProduct : Room := { frames := 1, cells := 0, slots := 0, locals := 35 }
theorem in_X9_addProduct_X9 : ∀ w ∈ u_ws RX9 TX9 1, w ∈ wsX9_addProduct := by decide +kernel
theorem fl_X9_addProduct_9 : Cond.fieldLink RX9 9 (TX9 0).1 (TX9 0).2.1 (TX9 0).2.2.1 ∈ wsX9_addProduct := by decide +kernel
theorem k_X9_addProduct_19 : Cond.constantLong RX9 19 (4294967295) ∈ wsX9_addProduct := by decide +kernel
set_option maxHeartbeats 4000000 in
set_option maxRecDepth 100000 in
theorem c_X9_addProduct (l : Launch) (G : jG) (w a : Nat) (z : Int) (u v : Int64) : Ct l yX9_addProduct wsX9_addProduct rm_X9_addProduct G [.ref w, .long u, .long v] [(w, .inr (8, [.ref a])), (a, aJ G 8 (dg z))] (S := Unit) (fun r _ => r = none) (fun _ => [(w, .inr (8, [.ref a])), (a, aJ G 8 (dg (z + u.toInt * v.toInt)))]) (fun _ => []) := by
  refine c_intro (cc := cX9_addProduct) (maxL := 14) (ret := none) (by decide) rfl (Nat.le_of_ble_eq_true rfl) (fun _ => by simp only [List.map_cons, List.map_nil]) ?_
  intro p e s m args below meth c Q A X hr hin E
  change J p l e rm_X9_addProduct s m args below meth c Q G A 14 0 0 0 [(0, .ref w), (1, .long u), (3, .long v)] [] [(w, .inr (8, [.ref a])), (a, aJ G 8 (dg z))]
  refine j_lload_n X dX9_addProduct_0 rfl 1 rfl ?_
  refine j_lload_n X dX9_addProduct_1 rfl 2 rfl ?_
  refine j_lmul X dX9_addProduct_2 ?_
  refine j_topl (fun x_1 ex_1 => ?_)
  refine j_lstore (L' := [(5, .long x_1), (0, .ref w), (1, .long u), (3, .long v)]) X dX9_addProduct_3 (by decide) rfl ?_
  refine j_lload_n X dX9_addProduct_5 rfl 2 rfl ?_
  refine j_lload_n X dX9_addProduct_6 rfl 3 rfl ?_
  refine j_callS X dX9_addProduct_7 (c_X9_highOfProduct l G u v) gX9_addProduct_X9_highOfProduct rfl hy_X9_highOfProduct_S ⟨Nat.le_of_ble_eq_true rfl, Nat.le_of_ble_eq_true rfl⟩ [] rfl (by decide) rfl rfl (Nat.le_of_ble_eq_true rfl) ⟨Nat.le_of_ble_eq_true rfl, Nat.le_of_ble_eq_true rfl⟩ ?_
  rintro _ h_2 ⟨rfl, hh_2⟩
  change J p l e rm_X9_addProduct s m args below meth c Q G A 14 0 0 10 [(5, .long x_1), (0, .ref w), (1, .long u), (3, .long v)] [.long h_2] [(w, .inr (8, [.ref a])), (a, aJ G 8 (dg z))]
  refine j_lstore (L' := [(7, .long h_2), (5, .long x_1), (0, .ref w), (1, .long u), (3, .long v)]) X dX9_addProduct_10 (by decide) rfl ?_
  refine j_lconst (v := 0) X dX9_addProduct_12 rfl ?_
  refine j_lstore (L' := [(9, .long 0), (7, .long h_2), (5, .long x_1), (0, .ref w), (1, .long u), (3, .long v)]) X dX9_addProduct_13 (by decide) rfl ?_
  refine j_iconst (v := 0) X dX9_addProduct_15 rfl ?_
  refine j_istore (L' := [(11, .int 0), (9, .long 0), (7, .long h_2), (5, .long x_1), (0, .ref w), (1, .long u), (3, .long v)]) X dX9_addProduct_16 (by decide) rfl ?_
  have loop : ∀ (d : Nat) (i : Nat) (t : Int32) (lo hi r : Int64) (g : Nat → Int64) (hi8 : i ≤ 8) (hx : t.toInt = i) (hlo : lo.toInt % 18446744073709551616 = u.toInt * v.toInt / dP i % 18446744073709551616) (hhi : hi.toInt = u.toInt * v.toInt / dP i / 18446744073709551616) (hr1 : r.toInt = (z % dP i + u.toInt * v.toInt % dP i) / dP i) (hg1 : ∀ j, j < i → g j = dg (z + u.toInt * v.toInt) j) (hg2 : ∀ j, i ≤ j → g j = dg z j), 8 - i < d → J p l e rm_X9_addProduct s m args below meth c Q G A 14 0 0 18 [(0, .ref w), (5, .long lo), (7, .long hi), (9, .long r), (11, .int t)] [] [(w, .inr (8, [.ref a])), (a, aJ G 8 g)] := by
    intro d
    induction d with
    | zero => intro i t lo hi r g hi8 hx hlo hhi hr1 hg1 hg2 hd0; exact absurd hd0 (Nat.not_lt_zero _)
    | succ d ih =>
      intro i t lo hi r g hi8 hx hlo hhi hr1 hg1 hg2 hd0
      refine j_iload X dX9_addProduct_18 4 rfl ?_
      refine j_bipush (v := 8) X dX9_addProduct_20 (by decide) ?_
      refine j_icmp_ge (tgt := 90) X dX9_addProduct_22 (by decide) (fun c_22 => ?_) (fun c_22 => ?_)
      · skip
        first | simp only [cmp_eq, cmp_lt, cmp_ge, cmp_gt, cmp_le, lT0, lT1] at c_22 | simp only [Int32.le_iff_toInt_le, Int32.lt_iff_toInt_lt, ← Int32.toInt_inj, iT0, iT1, iT2, iT3, iT4, iT5, iT6, iT7, iT8, iT9, iT10, iT11, iT12, iT13, iT14, iT15, iT16, iT19, iT20, iT31, iT32, iT42, iT64, iT200, iT318, iT319, iT1000, iTm1, iTm2] at c_22
        refine j_setJ (g := dg (z + u.toInt * v.toInt)) 1 rfl (fun j hj => hg1 j (by omega)) rfl ?_
        exact E.1 90 _ () dX9_addProduct_90 rfl hr
      · skip
        first | simp only [cmp_eq, cmp_lt, cmp_ge, cmp_gt, cmp_le, lT0, lT1] at c_22 | simp only [Int32.le_iff_toInt_le, Int32.lt_iff_toInt_lt, ← Int32.toInt_inj, iT0, iT1, iT2, iT3, iT4, iT5, iT6, iT7, iT8, iT9, iT10, iT11, iT12, iT13, iT14, iT15, iT16, iT19, iT20, iT31, iT32, iT42, iT64, iT200, iT318, iT319, iT1000, iTm1, iTm2] at c_22
        refine j_aload_n X dX9_addProduct_25 rfl 0 rfl ?_
        refine j_get (v := .ref a) X dX9_addProduct_26 0 rfl 0 rfl in_X9_addProduct_X9 (by decide) fl_X9_addProduct_9 rfl ?_
        refine j_iload X dX9_addProduct_29 4 rfl ?_
        refine j_lald X dX9_addProduct_31 1 rfl i (i_nI hx (by omega)) (by omega) (by decide) ?_
        refine j_lload X dX9_addProduct_32 1 rfl ?_
        refine j_ldc2 (v := 4294967295) X dX9_addProduct_34 k_X9_addProduct_19 ?_
        refine j_land X dX9_addProduct_37 ?_
        refine j_ladd X dX9_addProduct_38 ?_
        refine j_lload X dX9_addProduct_39 3 rfl ?_
        refine j_ladd X dX9_addProduct_41 ?_
        refine j_topl (fun x_3 ex_3 => ?_)
        refine j_lstore (L' := [(12, .long x_3), (0, .ref w), (5, .long lo), (7, .long hi), (9, .long r), (11, .int t)]) X dX9_addProduct_42 (by decide) rfl ?_
        refine j_aload_n X dX9_addProduct_44 rfl 1 rfl ?_
        refine j_get (v := .ref a) X dX9_addProduct_45 0 rfl 0 rfl in_X9_addProduct_X9 (by decide) fl_X9_addProduct_9 rfl ?_
        refine j_iload X dX9_addProduct_48 5 rfl ?_
        refine j_lload X dX9_addProduct_50 0 rfl ?_
        refine j_ldc2 (v := 4294967295) X dX9_addProduct_52 k_X9_addProduct_19 ?_
        refine j_land X dX9_addProduct_55 ?_
        refine j_topl (fun x_4 ex_4 => ?_)
        refine j_last (ws' := [(w, .inr (8, [.ref a])), (a, aJ G 8 (vp_updL g i x_4))]) X dX9_addProduct_56 1 rfl i (i_nI hx (by omega)) (by omega) (by decide) rfl ?_
        refine j_lload X dX9_addProduct_57 0 rfl ?_
        refine j_bipush (v := 32) X dX9_addProduct_59 (by decide) ?_
        obtain ⟨x_5, ex_5⟩ : ∃ z9 : Int64, (x_3.toUInt64 >>> ((32 : Int32).toInt64.toUInt64 &&& Int64.toUInt64 63)).toInt64 = z9 := ⟨_, rfl⟩
        refine j_lushr (v := x_5) X dX9_addProduct_61 ex_5 ?_
        refine j_lstore (L' := [(9, .long x_5), (12, .long x_3), (0, .ref w), (5, .long lo), (7, .long hi), (11, .int t)]) X dX9_addProduct_62 (by decide) rfl ?_
        refine j_lload X dX9_addProduct_64 3 rfl ?_
        refine j_bipush (v := 32) X dX9_addProduct_66 (by decide) ?_
        obtain ⟨x_6, ex_6⟩ : ∃ z9 : Int64, (lo.toUInt64 >>> ((32 : Int32).toInt64.toUInt64 &&& Int64.toUInt64 63)).toInt64 = z9 := ⟨_, rfl⟩
        refine j_lushr (v := x_6) X dX9_addProduct_68 ex_6 ?_
        refine j_lload X dX9_addProduct_69 4 rfl ?_
        refine j_bipush (v := 32) X dX9_addProduct_71 (by decide) ?_
        obtain ⟨x_7, ex_7⟩ : ∃ z9 : Int64, hi <<< ((32 : Int32).toInt64 &&& 63) = z9 := ⟨_, rfl⟩
        refine j_lshl (v := x_7) X dX9_addProduct_73 ex_7 ?_
        refine j_lor X dX9_addProduct_74 ?_
        refine j_topl (fun x_8 ex_8 => ?_)
        refine j_lstore (L' := [(5, .long x_8), (9, .long x_5), (12, .long x_3), (0, .ref w), (7, .long hi), (11, .int t)]) X dX9_addProduct_75 (by decide) rfl ?_
        refine j_lload X dX9_addProduct_77 4 rfl ?_
        refine j_bipush (v := 32) X dX9_addProduct_79 (by decide) ?_
        obtain ⟨x_9, ex_9⟩ : ∃ z9 : Int64, hi >>> ((32 : Int32).toInt64 &&& 63) = z9 := ⟨_, rfl⟩
        refine j_lshr (v := x_9) X dX9_addProduct_81 ex_9 ?_
        refine j_lstore (L' := [(7, .long x_9), (5, .long x_8), (9, .long x_5), (12, .long x_3), (0, .ref w), (11, .int t)]) X dX9_addProduct_82 (by decide) rfl ?_
        obtain ⟨x_10, ex_10⟩ : ∃ y9 : Int32, y9 = t + 1 := ⟨_, rfl⟩
        refine j_iinc (v := x_10) (L' := [(11, .int x_10), (7, .long x_9), (5, .long x_8), (9, .long x_5), (12, .long x_3), (0, .ref w)]) X dX9_addProduct_84 5 rfl (by rw [ex_10]; rfl) (by decide) rfl ?_
        refine j_goto (tgt := 18) X dX9_addProduct_87 (by decide) ?_
        refine j_sub [5, 2, 1, 3, 0] rfl ?_
        exact ih (i + 1) x_10 x_8 x_9 x_5 (vp_updL g i x_4) (by omega) (x_s hx (by omega) ex_10) (by rw [← dP_div]; exact ap_low hlo hhi ex_6 ex_7 ex_8) (by rw [← dP_div]; exact ap_high hhi ex_9) (add_c (hg2 i (Nat.le_refl i)) (ap_dig hlo) hr1 ex_3 ex_5) (f_step (o := g) hg1 (ex_4.trans (add_d (hg2 i (Nat.le_refl i)) (ap_dig hlo) hr1 ex_3))) (f_rest hg2) (by omega)
  refine j_sub [4, 3, 2, 1, 0] rfl ?_
  exact loop 9 0 0 x_1 h_2 0 (dg z) (by omega) rfl (by rw [ex_1, Int64.toInt_mul, dP_0, Int.ediv_one, Int.bmod_def]; split <;> omega) (by rw [dP_0, Int.ediv_one]; exact hh_2) (by rw [dP_0, lT0]; omega) (fun j hj => absurd hj (Nat.not_lt_zero j)) (fun j _ => rfl) (by omega)

theorem hy_X9_addProduct_V : yX9_addProduct.cls = RX9 ∧ yX9_addProduct.cls ≠ "java/lang/invoke/MethodHandle" ∧ yX9_addProduct.cls ≠ "java/lang/invoke/VarHandle" ∧ (parseMethodDescriptor yX9_addProduct.desc).map (fun d => d.parameters.length) = some 2 := by decide +kernel
abbrev rm_X9_setToDot : Room := { frames := 2, cells := 0, slots := 0, locals := 68 }
set_option maxHeartbeats 4000000 in
set_option maxRecDepth 100000 in
theorem c_X9_setToDot (l : Launch) (G : jG) (w a : Nat) (f : Nat → Int64) (u v x y : Int64) : Ct l yX9_setToDot wsX9_setToDot rm_X9_setToDot G [.ref w, .long u, .long v, .long x, .long y] [(w, .inr (8, [.ref a])), (a, aJ G 8 f)] (S := Unit) (fun r _ => r = none) (fun _ => [(w, .inr (8, [.ref a])), (a, aJ G 8 (dg (u.toInt * x.toInt + v.toInt * y.toInt)))]) (fun _ => []) := by
  refine c_intro (cc := cX9_setToDot) (maxL := 9) (ret := none) (by decide) rfl (Nat.le_of_ble_eq_true rfl) (fun _ => by simp only [List.map_cons, List.map_nil]) ?_
  intro p e s m args below meth c Q A X hr hin E
  change J p l e rm_X9_setToDot s m args below meth c Q G A 9 0 0 0 [(0, .ref w), (1, .long u), (3, .long v), (5, .long x), (7, .long y)] [] [(w, .inr (8, [.ref a])), (a, aJ G 8 f)]
  refine j_aload_n X dX9_setToDot_0 rfl 0 rfl ?_
  refine j_lconst (v := 0) X dX9_setToDot_1 rfl ?_
  refine j_callV X dX9_setToDot_2 (c_X9_setTo l G w a f 0) gX9_setToDot_X9_setTo rfl hy_X9_setTo_V ⟨Nat.le_of_ble_eq_true rfl, Nat.le_of_ble_eq_true rfl⟩ 0 rfl rfl [0, 1] rfl (by decide) rfl rfl (Nat.le_of_ble_eq_true rfl) ⟨Nat.le_of_ble_eq_true rfl, Nat.le_of_ble_eq_true rfl⟩ ?_
  rintro _ ⟨⟩ rfl
  change J p l e rm_X9_setToDot s m args below meth c Q G A 9 0 0 5 [(0, .ref w), (1, .long u), (3, .long v), (5, .long x), (7, .long y)] [] [(w, .inr (8, [.ref a])), (a, aJ G 8 (dg 0))]
  refine j_aload_n X dX9_setToDot_5 rfl 0 rfl ?_
  refine j_lload_n X dX9_setToDot_6 rfl 1 rfl ?_
  refine j_lload X dX9_setToDot_7 3 rfl ?_
  refine j_callV X dX9_setToDot_9 (c_X9_addProduct l G w a 0 u x) gX9_setToDot_X9_addProduct rfl hy_X9_addProduct_V ⟨Nat.le_of_ble_eq_true rfl, Nat.le_of_ble_eq_true rfl⟩ 0 rfl rfl [0, 1] rfl (by decide) rfl rfl (Nat.le_of_ble_eq_true rfl) ⟨Nat.le_of_ble_eq_true rfl, Nat.le_of_ble_eq_true rfl⟩ ?_
  rintro _ ⟨⟩ rfl
  change J p l e rm_X9_setToDot s m args below meth c Q G A 9 0 0 12 [(0, .ref w), (1, .long u), (3, .long v), (5, .long x), (7, .long y)] [] [(w, .inr (8, [.ref a])), (a, aJ G 8 (dg (0 + u.toInt * x.toInt)))]
  refine j_aload_n X dX9_setToDot_12 rfl 0 rfl ?_
  refine j_lload_n X dX9_setToDot_13 rfl 2 rfl ?_
  refine j_lload X dX9_setToDot_14 4 rfl ?_
  refine j_callV X dX9_setToDot_16 (c_X9_addProduct l G w a (0 + u.toInt * x.toInt) v y) gX9_setToDot_X9_addProduct rfl hy_X9_addProduct_V ⟨Nat.le_of_ble_eq_true rfl, Nat.le_of_ble_eq_true rfl⟩ 0 rfl rfl [0, 1] rfl (by decide) rfl rfl (Nat.le_of_ble_eq_true rfl) ⟨Nat.le_of_ble_eq_true rfl, Nat.le_of_ble_eq_true rfl⟩ ?_
  rintro _ ⟨⟩ rfl
  change J p l e rm_X9_setToDot s m args below meth c Q G A 9 0 0 19 [(0, .ref w), (1, .long u), (3, .long v), (5, .long x), (7, .long y)] [] [(w, .inr (8, [.ref a])), (a, aJ G 8 (dg ((0 + u.toInt * x.toInt) + v.toInt * y.toInt)))]
  rw [Int.zero_add]
  exact E.1 19 _ () dX9_setToDot_19 rfl hr

theorem hy_X9_setToDot_V : yX9_setToDot.cls = RX9 ∧ yX9_setToDot.cls ≠ "java/lang/invoke/MethodHandle" ∧ yX9_setToDot.cls ≠ "java/lang/invoke/VarHandle" ∧ (parseMethodDescriptor yX9_setToDot.desc).map (fun d => d.parameters.length) = some 4 := by decide +kernel
abbrev rm_X9_addCross : Room := { frames := 2, cells := 0, slots := 0, locals := 68 }
set_option maxHeartbeats 4000000 in
set_option maxRecDepth 100000 in
theorem c_X9_addCross (l : Launch) (G : jG) (w a : Nat) (z : Int) (u v x y : Int64) (hv : -9223372036854775808 < v.toInt) : Ct l yX9_addCross wsX9_addCross rm_X9_addCross G [.ref w, .long u, .long v, .long x, .long y] [(w, .inr (8, [.ref a])), (a, aJ G 8 (dg z))] (S := Unit) (fun r _ => r = none) (fun _ => [(w, .inr (8, [.ref a])), (a, aJ G 8 (dg (z + (u.toInt * y.toInt - v.toInt * x.toInt))))]) (fun _ => []) := by
  refine c_intro (cc := cX9_addCross) (maxL := 9) (ret := none) (by decide) rfl (Nat.le_of_ble_eq_true rfl) (fun _ => by simp only [List.map_cons, List.map_nil]) ?_
  intro p e s m args below meth c Q A X hr hin E
  change J p l e rm_X9_addCross s m args below meth c Q G A 9 0 0 0 [(0, .ref w), (1, .long u), (3, .long v), (5, .long x), (7, .long y)] [] [(w, .inr (8, [.ref a])), (a, aJ G 8 (dg z))]
  refine j_aload_n X dX9_addCross_0 rfl 0 rfl ?_
  refine j_lload_n X dX9_addCross_1 rfl 1 rfl ?_
  refine j_lload X dX9_addCross_2 4 rfl ?_
  refine j_callV X dX9_addCross_4 (c_X9_addProduct l G w a z u y) gX9_addCross_X9_addProduct rfl hy_X9_addProduct_V ⟨Nat.le_of_ble_eq_true rfl, Nat.le_of_ble_eq_true rfl⟩ 0 rfl rfl [0, 1] rfl (by decide) rfl rfl (Nat.le_of_ble_eq_true rfl) ⟨Nat.le_of_ble_eq_true rfl, Nat.le_of_ble_eq_true rfl⟩ ?_
  rintro _ ⟨⟩ rfl
  change J p l e rm_X9_addCross s m args below meth c Q G A 9 0 0 7 [(0, .ref w), (1, .long u), (3, .long v), (5, .long x), (7, .long y)] [] [(w, .inr (8, [.ref a])), (a, aJ G 8 (dg (z + u.toInt * y.toInt)))]
  refine j_aload_n X dX9_addCross_7 rfl 0 rfl ?_
  refine j_lload_n X dX9_addCross_8 rfl 2 rfl ?_
  refine j_lneg X dX9_addCross_9 ?_
  refine j_lload X dX9_addCross_10 3 rfl ?_
  refine j_callV X dX9_addCross_12 (c_X9_addProduct l G w a (z + u.toInt * y.toInt) (-v) x) gX9_addCross_X9_addProduct rfl hy_X9_addProduct_V ⟨Nat.le_of_ble_eq_true rfl, Nat.le_of_ble_eq_true rfl⟩ 0 rfl rfl [0, 1] rfl (by decide) rfl rfl (Nat.le_of_ble_eq_true rfl) ⟨Nat.le_of_ble_eq_true rfl, Nat.le_of_ble_eq_true rfl⟩ ?_
  rintro _ ⟨⟩ rfl
  change J p l e rm_X9_addCross s m args below meth c Q G A 9 0 0 15 [(0, .ref w), (1, .long u), (3, .long v), (5, .long x), (7, .long y)] [] [(w, .inr (8, [.ref a])), (a, aJ G 8 (dg ((z + u.toInt * y.toInt) + (-v).toInt * x.toInt)))]
  rw [l_neg hv, Int.neg_mul, ← Int.sub_eq_add_neg, Int.add_sub_assoc]
  exact E.1 15 _ () dX9_addCross_15 rfl hr

theorem hy_X9_addCross_V : yX9_addCross.cls = RX9 ∧ yX9_addCross.cls ≠ "java/lang/invoke/MethodHandle" ∧ yX9_addCross.cls ≠ "java/lang/invoke/VarHandle" ∧ (parseMethodDescriptor yX9_addCross.desc).map (fun d => d.parameters.length) = some 4 := by decide +kernel
abbrev rm_X9_setToCross : Room := { frames := 2, cells := 0, slots := 0, locals := 68 }
set_option maxHeartbeats 4000000 in
set_option maxRecDepth 100000 in
theorem c_X9_setToCross (l : Launch) (G : jG) (w a : Nat) (f : Nat → Int64) (u v x y : Int64) (hv : -9223372036854775808 < v.toInt) : Ct l yX9_setToCross wsX9_setToCross rm_X9_setToCross G [.ref w, .long u, .long v, .long x, .long y] [(w, .inr (8, [.ref a])), (a, aJ G 8 f)] (S := Unit) (fun r _ => r = none) (fun _ => [(w, .inr (8, [.ref a])), (a, aJ G 8 (dg (u.toInt * y.toInt - v.toInt * x.toInt)))]) (fun _ => []) := by
  refine c_intro (cc := cX9_setToCross) (maxL := 9) (ret := none) (by decide) rfl (Nat.le_of_ble_eq_true rfl) (fun _ => by simp only [List.map_cons, List.map_nil]) ?_
  intro p e s m args below meth c Q A X hr hin E
  change J p l e rm_X9_setToCross s m args below meth c Q G A 9 0 0 0 [(0, .ref w), (1, .long u), (3, .long v), (5, .long x), (7, .long y)] [] [(w, .inr (8, [.ref a])), (a, aJ G 8 f)]
  refine j_aload_n X dX9_setToCross_0 rfl 0 rfl ?_
  refine j_lconst (v := 0) X dX9_setToCross_1 rfl ?_
  refine j_callV X dX9_setToCross_2 (c_X9_setTo l G w a f 0) gX9_setToCross_X9_setTo rfl hy_X9_setTo_V ⟨Nat.le_of_ble_eq_true rfl, Nat.le_of_ble_eq_true rfl⟩ 0 rfl rfl [0, 1] rfl (by decide) rfl rfl (Nat.le_of_ble_eq_true rfl) ⟨Nat.le_of_ble_eq_true rfl, Nat.le_of_ble_eq_true rfl⟩ ?_
  rintro _ ⟨⟩ rfl
  change J p l e rm_X9_setToCross s m args below meth c Q G A 9 0 0 5 [(0, .ref w), (1, .long u), (3, .long v), (5, .long x), (7, .long y)] [] [(w, .inr (8, [.ref a])), (a, aJ G 8 (dg 0))]
  refine j_aload_n X dX9_setToCross_5 rfl 0 rfl ?_
  refine j_lload_n X dX9_setToCross_6 rfl 1 rfl ?_
  refine j_lload X dX9_setToCross_7 4 rfl ?_
  refine j_callV X dX9_setToCross_9 (c_X9_addProduct l G w a 0 u y) gX9_setToCross_X9_addProduct rfl hy_X9_addProduct_V ⟨Nat.le_of_ble_eq_true rfl, Nat.le_of_ble_eq_true rfl⟩ 0 rfl rfl [0, 1] rfl (by decide) rfl rfl (Nat.le_of_ble_eq_true rfl) ⟨Nat.le_of_ble_eq_true rfl, Nat.le_of_ble_eq_true rfl⟩ ?_
  rintro _ ⟨⟩ rfl
  change J p l e rm_X9_setToCross s m args below meth c Q G A 9 0 0 12 [(0, .ref w), (1, .long u), (3, .long v), (5, .long x), (7, .long y)] [] [(w, .inr (8, [.ref a])), (a, aJ G 8 (dg (0 + u.toInt * y.toInt)))]
  refine j_aload_n X dX9_setToCross_12 rfl 0 rfl ?_
  refine j_lload_n X dX9_setToCross_13 rfl 2 rfl ?_
  refine j_lneg X dX9_setToCross_14 ?_
  refine j_lload X dX9_setToCross_15 3 rfl ?_
  refine j_callV X dX9_setToCross_17 (c_X9_addProduct l G w a (0 + u.toInt * y.toInt) (-v) x) gX9_setToCross_X9_addProduct rfl hy_X9_addProduct_V ⟨Nat.le_of_ble_eq_true rfl, Nat.le_of_ble_eq_true rfl⟩ 0 rfl rfl [0, 1] rfl (by decide) rfl rfl (Nat.le_of_ble_eq_true rfl) ⟨Nat.le_of_ble_eq_true rfl, Nat.le_of_ble_eq_true rfl⟩ ?_
  rintro _ ⟨⟩ rfl
  change J p l e rm_X9_setToCross s m args below meth c Q G A 9 0 0 20 [(0, .ref w), (1, .long u), (3, .long v), (5, .long x), (7, .long y)] [] [(w, .inr (8, [.ref a])), (a, aJ G 8 (dg ((0 + u.toInt * y.toInt) + (-v).toInt * x.toInt)))]
  rw [l_neg hv, Int.neg_mul, ← Int.sub_eq_add_neg, Int.zero_add]
  exact E.1 20 _ () dX9_setToCross_20 rfl hr

theorem hy_X9_setToCross_V : yX9_setToCross.cls = RX9 ∧ yX9_setToCross.cls ≠ "java/lang/invoke/MethodHandle" ∧ yX9_setToCross.cls ≠ "java/lang/invoke/VarHandle" ∧ (parseMethodDescriptor yX9_setToCross.desc).map (fun d => d.parameters.length) = some 4 := by decide +kernel
