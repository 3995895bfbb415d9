abbrev rm_X9_setTo_ : Room := { frames := 1, cells := 0, slots := 0, locals := 18 }
theorem in_X9_setTo__X9 : ∀ w ∈ u_ws RX9 TX9 1, w ∈ wsX9_setTo_ := by decide +kernel
theorem fl_X9_setTo__9 : Cond.fieldLink RX9 9 (TX9 0).1 (TX9 0).2.1 (TX9 0).2.2.1 ∈ wsX9_setTo_ := by decide +kernel
theorem ac_X9_setTo_ : (Cond.methodLink RX9 21 arraycopyName ∈ wsX9_setTo_) ∧ (Cond.native arraycopyName ∈ wsX9_setTo_) ∧ (Cond.static arraycopyName ∈ wsX9_setTo_) ∧ (Cond.initialized "java/lang/System" ∈ wsX9_setTo_) := by decide +kernel
set_option maxHeartbeats 4000000 in
set_option maxRecDepth 100000 in
theorem c_X9_setTo_ (l : Launch) (G : jG) (w a o b : Nat) (f : Nat → Int64) (x : Int) : Ct l yX9_setTo_ wsX9_setTo_ rm_X9_setTo_ G [.ref w, .ref o] [(w, .inr (8, [.ref a])), (a, aJ G 8 f), (o, .inr (8, [.ref b])), (b, aJ G 8 (dg x))] (S := Unit) (fun r _ => r = none) (fun _ => [(w, .inr (8, [.ref a])), (a, aJ G 8 (dg x)), (o, .inr (8, [.ref b])), (b, aJ G 8 (dg x))]) (fun _ => []) := by
  refine c_intro (cc := cX9_setTo_) (maxL := 2) (ret := none) (by decide) rfl (Nat.le_of_ble_eq_true rfl) (fun _ => by simp only [List.map_cons, List.map_nil]) ?_
  intro p e s m args below meth c Q A X hr hin E
  change J p l e rm_X9_setTo_ s m args below meth c Q G A 2 0 0 0 [(0, .ref w), (1, .ref o)] [] [(w, .inr (8, [.ref a])), (a, aJ G 8 f), (o, .inr (8, [.ref b])), (b, aJ G 8 (dg x))]
  refine j_aload_n X dX9_setTo__0 rfl 1 rfl ?_
  refine j_get (v := .ref b) X dX9_setTo__1 2 rfl 0 rfl in_X9_setTo__X9 (by decide) fl_X9_setTo__9 rfl ?_
  refine j_iconst (v := 0) X dX9_setTo__4 rfl ?_
  refine j_aload_n X dX9_setTo__5 rfl 0 rfl ?_
  refine j_get (v := .ref a) X dX9_setTo__6 0 rfl 0 rfl in_X9_setTo__X9 (by decide) fl_X9_setTo__9 rfl ?_
  refine j_iconst (v := 0) X dX9_setTo__9 rfl ?_
  refine j_bipush (v := 8) X dX9_setTo__10 (by decide) ?_
  refine j_copy8 (ws' := [(w, .inr (8, [.ref a])), (a, aJ G 8 (dg x)), (o, .inr (8, [.ref b])), (b, aJ G 8 (dg x))]) X dX9_setTo__12 ac_X9_setTo_.1 ac_X9_setTo_.2.1 ac_X9_setTo_.2.2.1 ac_X9_setTo_.2.2.2 3 1 rfl rfl (by decide) (by decide) rfl ?_
  exact E.1 15 _ () dX9_setTo__15 rfl hr

theorem hy_X9_setTo__V : yX9_setTo_.cls = RX9 ∧ yX9_setTo_.cls ≠ "java/lang/invoke/MethodHandle" ∧ yX9_setTo_.cls ≠ "java/lang/invoke/VarHandle" ∧ (parseMethodDescriptor yX9_setTo_.desc).map (fun d => d.parameters.length) = some 1 := by decide +kernel
abbrev rm_X9_shiftLeft : Room := { frames := 1, cells := 0, slots := 0, locals := 21 }
theorem in_X9_shiftLeft_X9 : ∀ w ∈ u_ws RX9 TX9 1, w ∈ wsX9_shiftLeft := by decide +kernel
theorem fl_X9_shiftLeft_9 : Cond.fieldLink RX9 9 (TX9 0).1 (TX9 0).2.1 (TX9 0).2.2.1 ∈ wsX9_shiftLeft := by decide +kernel
theorem k_X9_shiftLeft_19 : Cond.constantLong RX9 19 (4294967295) ∈ wsX9_shiftLeft := by decide +kernel
set_option maxHeartbeats 4000000 in
set_option maxRecDepth 100000 in
theorem c_X9_shiftLeft (l : Launch) (G : jG) (w a : Nat) (z : Int) (x : Int32) (sh : Nat) (hx : x.toInt = sh) (hs : sh < 256) : Ct l yX9_shiftLeft wsX9_shiftLeft rm_X9_shiftLeft G [.ref w, .int x] [(w, .inr (8, [.ref a])), (a, aJ G 8 (dg z))] (S := Unit) (fun r _ => r = none) (fun _ => [(w, .inr (8, [.ref a])), (a, aJ G 8 (dg (z * 2 ^ sh)))]) (fun _ => []) := by
  refine c_intro (cc := cX9_shiftLeft) (maxL := 9) (ret := none) (by decide) rfl (Nat.le_of_ble_eq_true rfl) (fun _ => by simp only [List.map_cons, List.map_nil]) ?_
  intro p e s m args below meth c Q A X hr hin E
  change J p l e rm_X9_shiftLeft s m args below meth c Q G A 9 0 0 0 [(0, .ref w), (1, .int x)] [] [(w, .inr (8, [.ref a])), (a, aJ G 8 (dg z))]
  refine j_iload_n X dX9_shiftLeft_0 rfl 1 rfl ?_
  refine j_bipush (v := 32) X dX9_shiftLeft_1 (by decide) ?_
  refine j_idiv X dX9_shiftLeft_3 (by decide) ?_
  refine j_topi (fun x_1 ex_1 => ?_)
  refine j_istore_n (L' := [(2, .int x_1), (0, .ref w), (1, .int x)]) X dX9_shiftLeft_4 rfl (by decide) rfl ?_
  refine j_iload_n X dX9_shiftLeft_5 rfl 2 rfl ?_
  refine j_bipush (v := 32) X dX9_shiftLeft_6 (by decide) ?_
  refine j_irem X dX9_shiftLeft_8 (by decide) ?_
  refine j_topi (fun x_2 ex_2 => ?_)
  refine j_istore_n (L' := [(3, .int x_2), (2, .int x_1), (0, .ref w), (1, .int x)]) X dX9_shiftLeft_9 rfl (by decide) rfl ?_
  refine j_bipush (v := 7) X dX9_shiftLeft_10 (by decide) ?_
  refine j_istore (L' := [(4, .int 7), (3, .int x_2), (2, .int x_1), (0, .ref w), (1, .int x)]) X dX9_shiftLeft_12 (by decide) rfl ?_
  have hx1 : x_1.toInt = ((sh / 32 : Nat) : Int) := i_dv hx (by omega) (by decide) (by decide) ex_1
  have hx2 : x_2.toInt = ((sh % 32 : Nat) : Int) := i_rm hx (by omega) (by decide) (by decide) ex_2
  have loop : ∀ (d : Nat) (k : Nat) (t : Int32) (g : Nat → Int64) (hk : k ≤ 8) (ht : t.toInt = (k : Int) - 1) (hg1 : ∀ j, k ≤ j → j < 8 → g j = dg (z * 2 ^ sh) j) (hg2 : ∀ j, j < k → g j = dg z j), k < d → J p l e rm_X9_shiftLeft s m args below meth c Q G A 9 0 0 14 [(0, .ref w), (2, .int x_1), (3, .int x_2), (4, .int t)] [] [(w, .inr (8, [.ref a])), (a, aJ G 8 g)] := by
    intro d
    induction d with
    | zero => intro k t g hk ht hg1 hg2 hd0; exact absurd hd0 (Nat.not_lt_zero _)
    | succ d ih =>
      intro k t g hk ht hg1 hg2 hd0
      refine j_iload X dX9_shiftLeft_14 3 rfl ?_
      refine j_if_lt (tgt := 70) X dX9_shiftLeft_16 (by decide) (fun c_16 => ?_) (fun c_16 => ?_)
      · skip
        first | simp only [cmp_eq, cmp_lt, cmp_ge, cmp_gt, cmp_le, lT0, lT1] at c_16 | simp only [Int32.le_iff_toInt_le, Int32.lt_iff_toInt_lt, ← Int32.toInt_inj, iT0, iT1, iT2, iT3, iT4, iT5, iT6, iT7, iT8, iT9, iT10, iT11, iT12, iT13, iT14, iT15, iT16, iT19, iT20, iT31, iT32, iT42, iT64, iT200, iT318, iT319, iT1000, iTm1, iTm2] at c_16
        refine j_setJ (g := dg (z * 2 ^ sh)) 1 rfl (fun j hj => hg1 j (by omega) hj) rfl ?_
        exact E.1 70 _ () dX9_shiftLeft_70 rfl hr
      · skip
        first | simp only [cmp_eq, cmp_lt, cmp_ge, cmp_gt, cmp_le, lT0, lT1] at c_16 | simp only [Int32.le_iff_toInt_le, Int32.lt_iff_toInt_lt, ← Int32.toInt_inj, iT0, iT1, iT2, iT3, iT4, iT5, iT6, iT7, iT8, iT9, iT10, iT11, iT12, iT13, iT14, iT15, iT16, iT19, iT20, iT31, iT32, iT42, iT64, iT200, iT318, iT319, iT1000, iTm1, iTm2] at c_16
        obtain ⟨k, rfl⟩ : ∃ k1, k = k1 + 1 := ⟨k - 1, by omega⟩
        refine j_aload_n X dX9_shiftLeft_19 rfl 0 rfl ?_
        refine j_iload X dX9_shiftLeft_20 3 rfl ?_
        refine j_iload_n X dX9_shiftLeft_22 rfl 1 rfl ?_
        refine j_isub X dX9_shiftLeft_23 ?_
        refine j_callV X dX9_shiftLeft_24 (c_X9_limb l G w a g (t - x_1)) gX9_shiftLeft_X9_limb rfl hy_X9_limb_V ⟨Nat.le_of_ble_eq_true rfl, Nat.le_of_ble_eq_true rfl⟩ 0 rfl rfl [0, 1] rfl (by decide) rfl rfl (Nat.le_of_ble_eq_true rfl) ⟨Nat.le_of_ble_eq_true rfl, Nat.le_of_ble_eq_true rfl⟩ ?_
        rintro _ ⟨⟩ rfl
        change J p l e rm_X9_shiftLeft s m args below meth c Q G A 9 0 0 27 [(0, .ref w), (2, .int x_1), (3, .int x_2), (4, .int t)] [.long (if 0 ≤ (t - x_1).toInt ∧ (t - x_1).toInt < 8 then g (t - x_1).toInt.toNat else 0)] [(w, .inr (8, [.ref a])), (a, aJ G 8 g)]
        refine j_topl (fun r_3 er_3 => ?_)
        refine j_iload_n X dX9_shiftLeft_27 rfl 2 rfl ?_
        obtain ⟨x_4, ex_4⟩ : ∃ z9 : Int64, r_3 <<< (x_2.toInt64 &&& 63) = z9 := ⟨_, rfl⟩
        refine j_lshl (v := x_4) X dX9_shiftLeft_28 ex_4 ?_
        refine j_lstore (L' := [(5, .long x_4), (0, .ref w), (2, .int x_1), (3, .int x_2), (4, .int t)]) X dX9_shiftLeft_29 (by decide) rfl ?_
        refine j_aload_n X dX9_shiftLeft_31 rfl 1 rfl ?_
        refine j_iload X dX9_shiftLeft_32 4 rfl ?_
        refine j_iload_n X dX9_shiftLeft_34 rfl 2 rfl ?_
        refine j_isub X dX9_shiftLeft_35 ?_
        refine j_iconst (v := 1) X dX9_shiftLeft_36 rfl ?_
        refine j_isub X dX9_shiftLeft_37 ?_
        refine j_callV X dX9_shiftLeft_38 (c_X9_limb l G w a g ((t - x_1) - 1)) gX9_shiftLeft_X9_limb rfl hy_X9_limb_V ⟨Nat.le_of_ble_eq_true rfl, Nat.le_of_ble_eq_true rfl⟩ 0 rfl rfl [0, 1] rfl (by decide) rfl rfl (Nat.le_of_ble_eq_true rfl) ⟨Nat.le_of_ble_eq_true rfl, Nat.le_of_ble_eq_true rfl⟩ ?_
        rintro _ ⟨⟩ rfl
        change J p l e rm_X9_shiftLeft s m args below meth c Q G A 9 0 0 41 [(5, .long x_4), (0, .ref w), (2, .int x_1), (3, .int x_2), (4, .int t)] [.long (if 0 ≤ ((t - x_1) - 1).toInt ∧ ((t - x_1) - 1).toInt < 8 then g ((t - x_1) - 1).toInt.toNat else 0)] [(w, .inr (8, [.ref a])), (a, aJ G 8 g)]
        refine j_topl (fun r_5 er_5 => ?_)
        refine j_bipush (v := 32) X dX9_shiftLeft_41 (by decide) ?_
        refine j_iload_n X dX9_shiftLeft_43 rfl 3 rfl ?_
        refine j_isub X dX9_shiftLeft_44 ?_
        obtain ⟨x_6, ex_6⟩ : ∃ z9 : Int64, (r_5.toUInt64 >>> ((32 - x_2).toInt64.toUInt64 &&& Int64.toUInt64 63)).toInt64 = z9 := ⟨_, rfl⟩
        refine j_lushr (v := x_6) X dX9_shiftLeft_45 ex_6 ?_
        refine j_lstore (L' := [(7, .long x_6), (5, .long x_4), (0, .ref w), (2, .int x_1), (3, .int x_2), (4, .int t)]) X dX9_shiftLeft_46 (by decide) rfl ?_
        refine j_aload_n X dX9_shiftLeft_48 rfl 2 rfl ?_
        refine j_get (v := .ref a) X dX9_shiftLeft_49 0 rfl 0 rfl in_X9_shiftLeft_X9 (by decide) fl_X9_shiftLeft_9 rfl ?_
        refine j_iload X dX9_shiftLeft_52 5 rfl ?_
        refine j_lload X dX9_shiftLeft_54 1 rfl ?_
        refine j_lload X dX9_shiftLeft_56 0 rfl ?_
        refine j_lor X dX9_shiftLeft_58 ?_
        refine j_ldc2 (v := 4294967295) X dX9_shiftLeft_59 k_X9_shiftLeft_19 ?_
        refine j_land X dX9_shiftLeft_62 ?_
        refine j_topl (fun x_7 ex_7 => ?_)
        refine j_last (ws' := [(w, .inr (8, [.ref a])), (a, aJ G 8 (vp_updL g k x_7))]) X dX9_shiftLeft_63 1 rfl k (i_nI (by omega) (by omega)) (by omega) (by decide) rfl ?_
        obtain ⟨x_8, ex_8⟩ : ∃ y9 : Int32, y9 = t + (-1) := ⟨_, rfl⟩
        refine j_iinc (v := x_8) (L' := [(4, .int x_8), (7, .long x_6), (5, .long x_4), (0, .ref w), (2, .int x_1), (3, .int x_2)]) X dX9_shiftLeft_64 5 rfl (by rw [ex_8]; rfl) (by decide) rfl ?_
        refine j_goto (tgt := 14) X dX9_shiftLeft_67 (by decide) ?_
        refine j_sub [3, 4, 5, 0] rfl ?_
        exact ih k x_8 (vp_updL g k x_7) (by omega) (by rw [x_dec ht (by omega) ex_8]; omega) (t_step hg1 (ex_7.trans (sl_new (w := sh / 32) (p := sh % 32) (by omega) (by omega) (sl_limb (i_sb ht hx1 (by omega) (by omega)) (by omega) (by omega) hg2 er_3 |>.trans (by congr 1; omega)) (sl_limb (i_sb (i_sb ht hx1 (by omega) (by omega)) iT1 (by omega) (by omega)) (by omega) (by omega) hg2 er_5 |>.trans (by congr 1; omega)) (i_nI hx2 (by omega)) (i_nI (by rw [i_sb iT32 hx2 (by omega) (by omega)]; omega) (by omega)) ex_4 ex_6))) (t_rest hg2) (by omega)
  refine j_sub [3, 2, 1, 0] rfl ?_
  exact loop 9 8 7 (dg z) (by omega) rfl (fun j h1 h2 => absurd h1 (by omega)) (fun j _ => rfl) (by omega)

theorem hy_X9_shiftLeft_V : yX9_shiftLeft.cls = RX9 ∧ yX9_shiftLeft.cls ≠ "java/lang/invoke/MethodHandle" ∧ yX9_shiftLeft.cls ≠ "java/lang/invoke/VarHandle" ∧ (parseMethodDescriptor yX9_shiftLeft.desc).map (fun d => d.parameters.length) = some 1 := by decide +kernel
abbrev rm_X9_setBit : Room := { frames := 0, cells := 0, slots := 0, locals := 0 }
theorem in_X9_setBit_X9 : ∀ w ∈ u_ws RX9 TX9 1, w ∈ wsX9_setBit := by decide +kernel
theorem fl_X9_setBit_9 : Cond.fieldLink RX9 9 (TX9 0).1 (TX9 0).2.1 (TX9 0).2.2.1 ∈ wsX9_setBit := by decide +kernel
set_option maxHeartbeats 4000000 in
set_option maxRecDepth 100000 in
theorem c_X9_setBit (l : Launch) (G : jG) (w a : Nat) (z : Int) (x : Int32) (sh : Nat) (hx : x.toInt = sh) (hs : sh < 256) (hz : z % 2 ^ (sh + 1) = 0) : Ct l yX9_setBit wsX9_setBit rm_X9_setBit G [.ref w, .int x] [(w, .inr (8, [.ref a])), (a, aJ G 8 (dg z))] (S := Unit) (fun r _ => r = none) (fun _ => [(w, .inr (8, [.ref a])), (a, aJ G 8 (dg (z + 2 ^ sh)))]) (fun _ => []) := by
  refine c_intro (cc := cX9_setBit) (maxL := 3) (ret := none) (by decide) rfl (Nat.le_of_ble_eq_true rfl) (fun _ => by simp only [List.map_cons, List.map_nil]) ?_
  intro p e s m args below meth c Q A X hr hin E
  change J p l e rm_X9_setBit s m args below meth c Q G A 3 0 0 0 [(0, .ref w), (1, .int x)] [] [(w, .inr (8, [.ref a])), (a, aJ G 8 (dg z))]
  refine j_iload_n X dX9_setBit_0 rfl 1 rfl ?_
  refine j_bipush (v := 32) X dX9_setBit_1 (by decide) ?_
  refine j_idiv X dX9_setBit_3 (by decide) ?_
  refine j_topi (fun x_1 ex_1 => ?_)
  refine j_istore_n (L' := [(2, .int x_1), (0, .ref w), (1, .int x)]) X dX9_setBit_4 rfl (by decide) rfl ?_
  have hx1 : x_1.toInt = ((sh / 32 : Nat) : Int) := i_dv hx (by omega) (by decide) (by decide) ex_1
  refine j_iload_n X dX9_setBit_5 rfl 2 rfl ?_
  refine j_if_lt (tgt := 30) X dX9_setBit_6 (by decide) (fun c_6 => ?_) (fun c_6 => ?_)
  · skip
    first | simp only [cmp_eq, cmp_lt, cmp_ge, cmp_gt, cmp_le, lT0, lT1] at c_6 | simp only [Int32.le_iff_toInt_le, Int32.lt_iff_toInt_lt, ← Int32.toInt_inj, iT0, iT1, iT2, iT3, iT4, iT5, iT6, iT7, iT8, iT9, iT10, iT11, iT12, iT13, iT14, iT15, iT16, iT19, iT20, iT31, iT32, iT42, iT64, iT200, iT318, iT319, iT1000, iTm1, iTm2] at c_6
    exact absurd c_6 (by omega)
  · skip
    first | simp only [cmp_eq, cmp_lt, cmp_ge, cmp_gt, cmp_le, lT0, lT1] at c_6 | simp only [Int32.le_iff_toInt_le, Int32.lt_iff_toInt_lt, ← Int32.toInt_inj, iT0, iT1, iT2, iT3, iT4, iT5, iT6, iT7, iT8, iT9, iT10, iT11, iT12, iT13, iT14, iT15, iT16, iT19, iT20, iT31, iT32, iT42, iT64, iT200, iT318, iT319, iT1000, iTm1, iTm2] at c_6
    refine j_iload_n X dX9_setBit_9 rfl 0 rfl ?_
    refine j_bipush (v := 8) X dX9_setBit_10 (by decide) ?_
    refine j_icmp_ge (tgt := 30) X dX9_setBit_12 (by decide) (fun c_12 => ?_) (fun c_12 => ?_)
    · skip
      first | simp only [cmp_eq, cmp_lt, cmp_ge, cmp_gt, cmp_le, lT0, lT1] at c_12 | simp only [Int32.le_iff_toInt_le, Int32.lt_iff_toInt_lt, ← Int32.toInt_inj, iT0, iT1, iT2, iT3, iT4, iT5, iT6, iT7, iT8, iT9, iT10, iT11, iT12, iT13, iT14, iT15, iT16, iT19, iT20, iT31, iT32, iT42, iT64, iT200, iT318, iT319, iT1000, iTm1, iTm2] at c_12
      exact absurd c_12 (by omega)
    · skip
      first | simp only [cmp_eq, cmp_lt, cmp_ge, cmp_gt, cmp_le, lT0, lT1] at c_12 | simp only [Int32.le_iff_toInt_le, Int32.lt_iff_toInt_lt, ← Int32.toInt_inj, iT0, iT1, iT2, iT3, iT4, iT5, iT6, iT7, iT8, iT9, iT10, iT11, iT12, iT13, iT14, iT15, iT16, iT19, iT20, iT31, iT32, iT42, iT64, iT200, iT318, iT319, iT1000, iTm1, iTm2] at c_12
      refine j_aload_n X dX9_setBit_15 rfl 1 rfl ?_
      refine j_get (v := .ref a) X dX9_setBit_16 0 rfl 0 rfl in_X9_setBit_X9 (by decide) fl_X9_setBit_9 rfl ?_
      refine j_iload_n X dX9_setBit_19 rfl 0 rfl ?_
      refine j_dup2_11 X dX9_setBit_20 rfl rfl ?_
      refine j_lald X dX9_setBit_21 1 rfl (sh / 32) (i_nI hx1 (by omega)) (by omega) (by decide) ?_
      refine j_lconst (v := 1) X dX9_setBit_22 rfl ?_
      refine j_iload_n X dX9_setBit_23 rfl 2 rfl ?_
      refine j_bipush (v := 32) X dX9_setBit_24 (by decide) ?_
      refine j_irem X dX9_setBit_26 (by decide) ?_
      obtain ⟨x_2, ex_2⟩ : ∃ z9 : Int64, 1 <<< ((x - x / 32 * 32).toInt64 &&& 63) = z9 := ⟨_, rfl⟩
      refine j_lshl (v := x_2) X dX9_setBit_27 ex_2 ?_
      refine j_lor X dX9_setBit_28 ?_
      refine j_topl (fun x_3 ex_3 => ?_)
      refine j_last (ws' := [(w, .inr (8, [.ref a])), (a, aJ G 8 (vp_updL (dg z) (sh / 32) x_3))]) X dX9_setBit_29 1 rfl (sh / 32) (i_nI hx1 (by omega)) (by omega) (by decide) rfl ?_
      refine j_setJ (g := dg (z + 2 ^ sh)) 1 rfl (fun j hj => ?_) rfl ?_
      · by_cases ej : j = sh / 32
        · rw [ej, pk_uLs, ex_3]; exact sb_new (w := sh / 32) (p := sh % 32) (by omega) (by omega) hz rfl (i_nI (i_rm hx (by omega) (by decide) (by decide) rfl) (by omega)) ex_2
        · rw [pk_uLn ej]; exact (sb_oth (w := sh / 32) (p := sh % 32) (by omega) (by omega) hz ej).symm
      exact E.1 30 _ () dX9_setBit_30 rfl hr

theorem hy_X9_setBit_V : yX9_setBit.cls = RX9 ∧ yX9_setBit.cls ≠ "java/lang/invoke/MethodHandle" ∧ yX9_setBit.cls ≠ "java/lang/invoke/VarHandle" ∧ (parseMethodDescriptor yX9_setBit.desc).map (fun d => d.parameters.length) = some 1 := by decide +kernel
