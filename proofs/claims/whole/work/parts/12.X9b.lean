abbrev rm_X9_setToProduct : Room := { frames := 1, cells := 0, slots := 0, locals := 25 }
theorem in_X9_setToProduct_X9 : ∀ w ∈ u_ws RX9 TX9 1, w ∈ wsX9_setToProduct := by decide +kernel
theorem fl_X9_setToProduct_9 : Cond.fieldLink RX9 9 (TX9 0).1 (TX9 0).2.1 (TX9 0).2.2.1 ∈ wsX9_setToProduct := by decide +kernel
theorem k_X9_setToProduct_19 : Cond.constantLong RX9 19 (4294967295) ∈ wsX9_setToProduct := by decide +kernel
set_option maxHeartbeats 4000000 in
set_option maxRecDepth 100000 in
theorem c_X9_setToProduct (l : Launch) (G : jG) (w a o b q c2 : Nat) (f : Nat → Int64) (x y : Int) : Ct l yX9_setToProduct wsX9_setToProduct rm_X9_setToProduct G [.ref w, .ref o, .ref q] [(w, .inr (8, [.ref a])), (a, aJ G 8 f), (o, .inr (8, [.ref b])), (b, aJ G 8 (dg x)), (q, .inr (8, [.ref c2])), (c2, aJ G 8 (dg y))] (S := Unit) (fun r _ => r = none) (fun _ => [(w, .inr (8, [.ref a])), (a, aJ G 8 (dg (x * y))), (o, .inr (8, [.ref b])), (b, aJ G 8 (dg x)), (q, .inr (8, [.ref c2])), (c2, aJ G 8 (dg y))]) (fun _ => []) := by
  refine c_intro (cc := cX9_setToProduct) (maxL := 11) (ret := none) (by decide) rfl (Nat.le_of_ble_eq_true rfl) (fun _ => by simp only [List.map_cons, List.map_nil]) ?_
  intro p e s m args below meth c Q A X hr hin E
  change J p l e rm_X9_setToProduct s m args below meth c Q G A 11 0 0 0 [(0, .ref w), (1, .ref o), (2, .ref q)] [] [(w, .inr (8, [.ref a])), (a, aJ G 8 f), (o, .inr (8, [.ref b])), (b, aJ G 8 (dg x)), (q, .inr (8, [.ref c2])), (c2, aJ G 8 (dg y))]
  refine j_aload_n X dX9_setToProduct_0 rfl 0 rfl ?_
  refine j_lconst (v := 0) X dX9_setToProduct_1 rfl ?_
  refine j_callV X dX9_setToProduct_2 (c_X9_setTo l G w a f 0) gX9_setToProduct_X9_setTo rfl hy_X9_setTo_V ⟨Nat.le_of_ble_eq_true rfl, Nat.le_of_ble_eq_true rfl⟩ 0 rfl rfl [0, 1] rfl (by decide) rfl rfl (Nat.le_of_ble_eq_true rfl) ⟨Nat.le_of_ble_eq_true rfl, Nat.le_of_ble_eq_true rfl⟩ ?_
  rintro _ ⟨⟩ rfl
  change J p l e rm_X9_setToProduct s m args below meth c Q G A 11 0 0 5 [(0, .ref w), (1, .ref o), (2, .ref q)] [] [(w, .inr (8, [.ref a])), (a, aJ G 8 (dg 0)), (o, .inr (8, [.ref b])), (b, aJ G 8 (dg x)), (q, .inr (8, [.ref c2])), (c2, aJ G 8 (dg y))]
  refine j_iconst (v := 0) X dX9_setToProduct_5 rfl ?_
  refine j_istore_n (L' := [(3, .int 0), (0, .ref w), (1, .ref o), (2, .ref q)]) X dX9_setToProduct_6 rfl (by decide) rfl ?_
  have loop : ∀ (d : Nat) (i : Nat) (t : Int32) (g : Nat → Int64) (hi : i ≤ 8) (hx : t.toInt = i) (hg : ∀ k, k < 8 → g k = dg (x % dP i * y) k), 8 - i < d → J p l e rm_X9_setToProduct s m args below meth c Q G A 11 0 0 7 [(0, .ref w), (1, .ref o), (2, .ref q), (3, .int t)] [] [(w, .inr (8, [.ref a])), (a, aJ G 8 g), (o, .inr (8, [.ref b])), (b, aJ G 8 (dg x)), (q, .inr (8, [.ref c2])), (c2, aJ G 8 (dg y))] := by
    intro d
    induction d with
    | zero => intro i t g hi hx hg hd0; exact absurd hd0 (Nat.not_lt_zero _)
    | succ d ih =>
      intro i t g hi hx hg hd0
      refine j_iload_n X dX9_setToProduct_7 rfl 3 rfl ?_
      refine j_bipush (v := 8) X dX9_setToProduct_8 (by decide) ?_
      refine j_icmp_ge (tgt := 102) X dX9_setToProduct_10 (by decide) (fun c_10 => ?_) (fun c_10 => ?_)
      · skip
        first | simp only [cmp_eq, cmp_lt, cmp_ge, cmp_gt, cmp_le, lT0, lT1] at c_10 | simp only [Int32.le_iff_toInt_le, Int32.lt_iff_toInt_lt, ← Int32.toInt_inj, iT0, iT1, iT2, iT3, iT4, iT5, iT6, iT7, iT8, iT9, iT10, iT11, iT12, iT13, iT14, iT15, iT16, iT19, iT20, iT31, iT32, iT42, iT64, iT200, iT318, iT319, iT1000, iTm1, iTm2] at c_10
        have h8 : i = 8 := by omega
        subst h8
        refine j_setJ (g := dg (x * y)) 1 rfl (fun k hk => (hg k hk).trans (m_fin (Nat.le_refl 0) k hk)) rfl ?_
        exact E.1 102 _ () dX9_setToProduct_102 rfl hr
      · skip
        first | simp only [cmp_eq, cmp_lt, cmp_ge, cmp_gt, cmp_le, lT0, lT1] at c_10 | simp only [Int32.le_iff_toInt_le, Int32.lt_iff_toInt_lt, ← Int32.toInt_inj, iT0, iT1, iT2, iT3, iT4, iT5, iT6, iT7, iT8, iT9, iT10, iT11, iT12, iT13, iT14, iT15, iT16, iT19, iT20, iT31, iT32, iT42, iT64, iT200, iT318, iT319, iT1000, iTm1, iTm2] at c_10
        refine j_aload_n X dX9_setToProduct_13 rfl 1 rfl ?_
        refine j_get (v := .ref b) X dX9_setToProduct_14 2 rfl 0 rfl in_X9_setToProduct_X9 (by decide) fl_X9_setToProduct_9 rfl ?_
        refine j_iload_n X dX9_setToProduct_17 rfl 3 rfl ?_
        refine j_lald X dX9_setToProduct_18 3 rfl i (i_nI hx (by omega)) (by omega) (by decide) ?_
        refine j_topl (fun x_1 ex_1 => ?_)
        refine j_lstore (L' := [(4, .long x_1), (0, .ref w), (1, .ref o), (2, .ref q), (3, .int t)]) X dX9_setToProduct_19 (by decide) rfl ?_
        refine j_lconst (v := 0) X dX9_setToProduct_21 rfl ?_
        refine j_lstore (L' := [(6, .long 0), (4, .long x_1), (0, .ref w), (1, .ref o), (2, .ref q), (3, .int t)]) X dX9_setToProduct_22 (by decide) rfl ?_
        refine j_iconst (v := 0) X dX9_setToProduct_24 rfl ?_
        refine j_istore (L' := [(8, .int 0), (6, .long 0), (4, .long x_1), (0, .ref w), (1, .ref o), (2, .ref q), (3, .int t)]) X dX9_setToProduct_25 (by decide) rfl ?_
        have loop2 : ∀ (d2 : Nat) (j : Nat) (u : Int32) (r : Int64) (g2 : Nat → Int64) (hj : i + j ≤ 8) (hu : u.toInt = j) (hr1 : r.toInt = (x % dP i * y / dP i % dP j + x / dP i % 4294967296 * (y % dP j)) / dP j) (hg1 : ∀ k, k < i + j → g2 k = dg (x % dP (i + 1) * y) k) (hg2 : ∀ k, i + j ≤ k → k < 8 → g2 k = dg (x % dP i * y) k), 8 - j < d2 → J p l e rm_X9_setToProduct s m args below meth c Q G A 11 0 0 27 [(0, .ref w), (1, .ref o), (2, .ref q), (3, .int t), (4, .long x_1), (6, .long r), (8, .int u)] [] [(w, .inr (8, [.ref a])), (a, aJ G 8 g2), (o, .inr (8, [.ref b])), (b, aJ G 8 (dg x)), (q, .inr (8, [.ref c2])), (c2, aJ G 8 (dg y))] := by
          intro d2
          induction d2 with
          | zero => intro j u r g2 hj hu hr1 hg1 hg2 hd02; exact absurd hd02 (Nat.not_lt_zero _)
          | succ d2 ih2 =>
            intro j u r g2 hj hu hr1 hg1 hg2 hd02
            refine j_lload X dX9_setToProduct_27 4 rfl ?_
            refine j_lconst (v := 0) X dX9_setToProduct_29 rfl ?_
            refine j_lcmp X dX9_setToProduct_30 ?_
            refine j_if_eq (tgt := 96) X dX9_setToProduct_31 (by decide) (fun c_31 => ?_) (fun c_31 => ?_)
            · skip
              first | simp only [cmp_eq, cmp_lt, cmp_ge, cmp_gt, cmp_le, lT0, lT1] at c_31 | simp only [Int32.le_iff_toInt_le, Int32.lt_iff_toInt_lt, ← Int32.toInt_inj, iT0, iT1, iT2, iT3, iT4, iT5, iT6, iT7, iT8, iT9, iT10, iT11, iT12, iT13, iT14, iT15, iT16, iT19, iT20, iT31, iT32, iT42, iT64, iT200, iT318, iT319, iT1000, iTm1, iTm2] at c_31
              have hz : x / dP i % 4294967296 = 0 ∨ 8 ≤ i + j := Or.inl (by rw [← m_c ex_1]; exact c_31)
              obtain ⟨x_2, ex_2⟩ : ∃ y9 : Int32, y9 = t + 1 := ⟨_, rfl⟩
              refine j_iinc (v := x_2) (L' := [(3, .int x_2), (0, .ref w), (1, .ref o), (2, .ref q), (4, .long x_1), (6, .long r), (8, .int u)]) X dX9_setToProduct_96 3 rfl (by rw [ex_2]; rfl) (by decide) rfl ?_
              refine j_goto (tgt := 7) X dX9_setToProduct_99 (by decide) ?_
              refine j_sub [1, 2, 3, 0] rfl ?_
              exact ih (i + 1) x_2 (g2) (by omega) (x_s hx (by omega) ex_2) (m_end hg1 hg2 hz) (by omega)
            · skip
              first | simp only [cmp_eq, cmp_lt, cmp_ge, cmp_gt, cmp_le, lT0, lT1] at c_31 | simp only [Int32.le_iff_toInt_le, Int32.lt_iff_toInt_lt, ← Int32.toInt_inj, iT0, iT1, iT2, iT3, iT4, iT5, iT6, iT7, iT8, iT9, iT10, iT11, iT12, iT13, iT14, iT15, iT16, iT19, iT20, iT31, iT32, iT42, iT64, iT200, iT318, iT319, iT1000, iTm1, iTm2] at c_31
              refine j_iload_n X dX9_setToProduct_34 rfl 3 rfl ?_
              refine j_iload X dX9_setToProduct_35 6 rfl ?_
              refine j_iadd X dX9_setToProduct_37 ?_
              refine j_bipush (v := 8) X dX9_setToProduct_38 (by decide) ?_
              refine j_icmp_ge (tgt := 96) X dX9_setToProduct_40 (by decide) (fun c_40 => ?_) (fun c_40 => ?_)
              · skip
                first | simp only [cmp_eq, cmp_lt, cmp_ge, cmp_gt, cmp_le, lT0, lT1] at c_40 | simp only [Int32.le_iff_toInt_le, Int32.lt_iff_toInt_lt, ← Int32.toInt_inj, iT0, iT1, iT2, iT3, iT4, iT5, iT6, iT7, iT8, iT9, iT10, iT11, iT12, iT13, iT14, iT15, iT16, iT19, iT20, iT31, iT32, iT42, iT64, iT200, iT318, iT319, iT1000, iTm1, iTm2] at c_40
                rw [x_add hx hu (by omega)] at c_40
                have hz : x / dP i % 4294967296 = 0 ∨ 8 ≤ i + j := Or.inr (by omega)
                obtain ⟨x_3, ex_3⟩ : ∃ y9 : Int32, y9 = t + 1 := ⟨_, rfl⟩
                refine j_iinc (v := x_3) (L' := [(3, .int x_3), (0, .ref w), (1, .ref o), (2, .ref q), (4, .long x_1), (6, .long r), (8, .int u)]) X dX9_setToProduct_96 3 rfl (by rw [ex_3]; rfl) (by decide) rfl ?_
                refine j_goto (tgt := 7) X dX9_setToProduct_99 (by decide) ?_
                refine j_sub [1, 2, 3, 0] rfl ?_
                exact ih (i + 1) x_3 (g2) (by omega) (x_s hx (by omega) ex_3) (m_end hg1 hg2 hz) (by omega)
              · skip
                first | simp only [cmp_eq, cmp_lt, cmp_ge, cmp_gt, cmp_le, lT0, lT1] at c_40 | simp only [Int32.le_iff_toInt_le, Int32.lt_iff_toInt_lt, ← Int32.toInt_inj, iT0, iT1, iT2, iT3, iT4, iT5, iT6, iT7, iT8, iT9, iT10, iT11, iT12, iT13, iT14, iT15, iT16, iT19, iT20, iT31, iT32, iT42, iT64, iT200, iT318, iT319, iT1000, iTm1, iTm2] at c_40
                rw [x_add hx hu (by omega)] at c_40
                refine j_lload X dX9_setToProduct_43 4 rfl ?_
                refine j_aload_n X dX9_setToProduct_45 rfl 2 rfl ?_
                refine j_get (v := .ref c2) X dX9_setToProduct_46 4 rfl 0 rfl in_X9_setToProduct_X9 (by decide) fl_X9_setToProduct_9 rfl ?_
                refine j_iload X dX9_setToProduct_49 6 rfl ?_
                refine j_lald X dX9_setToProduct_51 5 rfl j (i_nI hu (by omega)) (by omega) (by decide) ?_
                refine j_lmul X dX9_setToProduct_52 ?_
                refine j_aload_n X dX9_setToProduct_53 rfl 0 rfl ?_
                refine j_get (v := .ref a) X dX9_setToProduct_54 0 rfl 0 rfl in_X9_setToProduct_X9 (by decide) fl_X9_setToProduct_9 rfl ?_
                refine j_iload_n X dX9_setToProduct_57 rfl 3 rfl ?_
                refine j_iload X dX9_setToProduct_58 6 rfl ?_
                refine j_iadd X dX9_setToProduct_60 ?_
                refine j_lald X dX9_setToProduct_61 1 rfl (i + j) (i_nI (x_add hx hu (by omega)) (by omega)) (by omega) (by decide) ?_
                refine j_ladd X dX9_setToProduct_62 ?_
                refine j_lload X dX9_setToProduct_63 5 rfl ?_
                refine j_ladd X dX9_setToProduct_65 ?_
                refine j_topl (fun x_4 ex_4 => ?_)
                refine j_lstore (L' := [(9, .long x_4), (0, .ref w), (1, .ref o), (2, .ref q), (3, .int t), (4, .long x_1), (6, .long r), (8, .int u)]) X dX9_setToProduct_66 (by decide) rfl ?_
                refine j_aload_n X dX9_setToProduct_68 rfl 1 rfl ?_
                refine j_get (v := .ref a) X dX9_setToProduct_69 0 rfl 0 rfl in_X9_setToProduct_X9 (by decide) fl_X9_setToProduct_9 rfl ?_
                refine j_iload_n X dX9_setToProduct_72 rfl 4 rfl ?_
                refine j_iload X dX9_setToProduct_73 7 rfl ?_
                refine j_iadd X dX9_setToProduct_75 ?_
                refine j_lload X dX9_setToProduct_76 0 rfl ?_
                refine j_ldc2 (v := 4294967295) X dX9_setToProduct_78 k_X9_setToProduct_19 ?_
                refine j_land X dX9_setToProduct_81 ?_
                refine j_topl (fun x_5 ex_5 => ?_)
                refine j_last (ws' := [(w, .inr (8, [.ref a])), (a, aJ G 8 (vp_updL g2 (i + j) x_5)), (o, .inr (8, [.ref b])), (b, aJ G 8 (dg x)), (q, .inr (8, [.ref c2])), (c2, aJ G 8 (dg y))]) X dX9_setToProduct_82 1 rfl (i + j) (i_nI (x_add hx hu (by omega)) (by omega)) (by omega) (by decide) rfl ?_
                refine j_lload X dX9_setToProduct_83 0 rfl ?_
                refine j_bipush (v := 32) X dX9_setToProduct_85 (by decide) ?_
                obtain ⟨x_6, ex_6⟩ : ∃ z9 : Int64, (x_4.toUInt64 >>> ((32 : Int32).toInt64.toUInt64 &&& Int64.toUInt64 63)).toInt64 = z9 := ⟨_, rfl⟩
                refine j_lushr (v := x_6) X dX9_setToProduct_87 ex_6 ?_
                refine j_lstore (L' := [(6, .long x_6), (9, .long x_4), (0, .ref w), (1, .ref o), (2, .ref q), (3, .int t), (4, .long x_1), (8, .int u)]) X dX9_setToProduct_88 (by decide) rfl ?_
                obtain ⟨x_7, ex_7⟩ : ∃ y9 : Int32, y9 = u + 1 := ⟨_, rfl⟩
                refine j_iinc (v := x_7) (L' := [(8, .int x_7), (6, .long x_6), (9, .long x_4), (0, .ref w), (1, .ref o), (2, .ref q), (3, .int t), (4, .long x_1)]) X dX9_setToProduct_90 7 rfl (by rw [ex_7]; rfl) (by decide) rfl ?_
                refine j_goto (tgt := 27) X dX9_setToProduct_93 (by decide) ?_
                refine j_sub [3, 4, 5, 6, 7, 1, 0] rfl ?_
                exact ih2 (j + 1) x_7 x_6 (vp_updL g2 (i + j) x_5) (by omega) (x_s hu (by omega) ex_7) (m_car ex_1 rfl (hg2 (i + j) (Nat.le_refl _) (by omega)) hr1 ex_4 ex_6) (m_st1 hg1 (ex_5.trans (m_dig ex_1 rfl (hg2 (i + j) (Nat.le_refl _) (by omega)) hr1 ex_4))) (m_st2 hg2) (by omega)
        refine j_sub [3, 4, 5, 6, 2, 1, 0] rfl ?_
        exact loop2 9 0 0 0 g (by omega) rfl m_r0 (m_beg hg (by omega)) (fun k _ h8 => hg k h8) (by omega)
  refine j_sub [1, 2, 3, 0] rfl ?_
  exact loop 9 0 0 (dg 0) (by omega) rfl (fun k _ => by rw [dP_0, Int.emod_one, Int.zero_mul]) (by omega)

theorem hy_X9_setToProduct_V : yX9_setToProduct.cls = RX9 ∧ yX9_setToProduct.cls ≠ "java/lang/invoke/MethodHandle" ∧ yX9_setToProduct.cls ≠ "java/lang/invoke/VarHandle" ∧ (parseMethodDescriptor yX9_setToProduct.desc).map (fun d => d.parameters.length) = some 2 := by decide +kernel
set_option maxHeartbeats 4000000 in
set_option maxRecDepth 100000 in
theorem c_X9_setToProduct_s (l : Launch) (G : jG) (w a o b  : Nat) (f : Nat → Int64) (x  : Int) : Ct l yX9_setToProduct wsX9_setToProduct rm_X9_setToProduct G [.ref w, .ref o, .ref o] [(w, .inr (8, [.ref a])), (a, aJ G 8 f), (o, .inr (8, [.ref b])), (b, aJ G 8 (dg x))] (S := Unit) (fun r _ => r = none) (fun _ => [(w, .inr (8, [.ref a])), (a, aJ G 8 (dg (x * x))), (o, .inr (8, [.ref b])), (b, aJ G 8 (dg x))]) (fun _ => []) := by
  refine c_intro (cc := cX9_setToProduct) (maxL := 11) (ret := none) (by decide) rfl (Nat.le_of_ble_eq_true rfl) (fun _ => by simp only [List.map_cons, List.map_nil]) ?_
  intro p e s m args below meth c Q A X hr hin E
  change J p l e rm_X9_setToProduct s m args below meth c Q G A 11 0 0 0 [(0, .ref w), (1, .ref o), (2, .ref o)] [] [(w, .inr (8, [.ref a])), (a, aJ G 8 f), (o, .inr (8, [.ref b])), (b, aJ G 8 (dg x))]
  refine j_aload_n X dX9_setToProduct_0 rfl 0 rfl ?_
  refine j_lconst (v := 0) X dX9_setToProduct_1 rfl ?_
  refine j_callV X dX9_setToProduct_2 (c_X9_setTo l G w a f 0) gX9_setToProduct_X9_setTo rfl hy_X9_setTo_V ⟨Nat.le_of_ble_eq_true rfl, Nat.le_of_ble_eq_true rfl⟩ 0 rfl rfl [0, 1] rfl (by decide) rfl rfl (Nat.le_of_ble_eq_true rfl) ⟨Nat.le_of_ble_eq_true rfl, Nat.le_of_ble_eq_true rfl⟩ ?_
  rintro _ ⟨⟩ rfl
  change J p l e rm_X9_setToProduct s m args below meth c Q G A 11 0 0 5 [(0, .ref w), (1, .ref o), (2, .ref o)] [] [(w, .inr (8, [.ref a])), (a, aJ G 8 (dg 0)), (o, .inr (8, [.ref b])), (b, aJ G 8 (dg x))]
  refine j_iconst (v := 0) X dX9_setToProduct_5 rfl ?_
  refine j_istore_n (L' := [(3, .int 0), (0, .ref w), (1, .ref o), (2, .ref o)]) X dX9_setToProduct_6 rfl (by decide) rfl ?_
  have loop : ∀ (d : Nat) (i : Nat) (t : Int32) (g : Nat → Int64) (hi : i ≤ 8) (hx : t.toInt = i) (hg : ∀ k, k < 8 → g k = dg (x % dP i * x) k), 8 - i < d → J p l e rm_X9_setToProduct s m args below meth c Q G A 11 0 0 7 [(0, .ref w), (1, .ref o), (2, .ref o), (3, .int t)] [] [(w, .inr (8, [.ref a])), (a, aJ G 8 g), (o, .inr (8, [.ref b])), (b, aJ G 8 (dg x))] := by
    intro d
    induction d with
    | zero => intro i t g hi hx hg hd0; exact absurd hd0 (Nat.not_lt_zero _)
    | succ d ih =>
      intro i t g hi hx hg hd0
      refine j_iload_n X dX9_setToProduct_7 rfl 3 rfl ?_
      refine j_bipush (v := 8) X dX9_setToProduct_8 (by decide) ?_
      refine j_icmp_ge (tgt := 102) X dX9_setToProduct_10 (by decide) (fun c_10 => ?_) (fun c_10 => ?_)
      · skip
        first | simp only [cmp_eq, cmp_lt, cmp_ge, cmp_gt, cmp_le, lT0, lT1] at c_10 | simp only [Int32.le_iff_toInt_le, Int32.lt_iff_toInt_lt, ← Int32.toInt_inj, iT0, iT1, iT2, iT3, iT4, iT5, iT6, iT7, iT8, iT9, iT10, iT11, iT12, iT13, iT14, iT15, iT16, iT19, iT20, iT31, iT32, iT42, iT64, iT200, iT318, iT319, iT1000, iTm1, iTm2] at c_10
        have h8 : i = 8 := by omega
        subst h8
        refine j_setJ (g := dg (x * x)) 1 rfl (fun k hk => (hg k hk).trans (m_fin (Nat.le_refl 0) k hk)) rfl ?_
        exact E.1 102 _ () dX9_setToProduct_102 rfl hr
      · skip
        first | simp only [cmp_eq, cmp_lt, cmp_ge, cmp_gt, cmp_le, lT0, lT1] at c_10 | simp only [Int32.le_iff_toInt_le, Int32.lt_iff_toInt_lt, ← Int32.toInt_inj, iT0, iT1, iT2, iT3, iT4, iT5, iT6, iT7, iT8, iT9, iT10, iT11, iT12, iT13, iT14, iT15, iT16, iT19, iT20, iT31, iT32, iT42, iT64, iT200, iT318, iT319, iT1000, iTm1, iTm2] at c_10
        refine j_aload_n X dX9_setToProduct_13 rfl 1 rfl ?_
        refine j_get (v := .ref b) X dX9_setToProduct_14 2 rfl 0 rfl in_X9_setToProduct_X9 (by decide) fl_X9_setToProduct_9 rfl ?_
        refine j_iload_n X dX9_setToProduct_17 rfl 3 rfl ?_
        refine j_lald X dX9_setToProduct_18 3 rfl i (i_nI hx (by omega)) (by omega) (by decide) ?_
        refine j_topl (fun x_1 ex_1 => ?_)
        refine j_lstore (L' := [(4, .long x_1), (0, .ref w), (1, .ref o), (2, .ref o), (3, .int t)]) X dX9_setToProduct_19 (by decide) rfl ?_
        refine j_lconst (v := 0) X dX9_setToProduct_21 rfl ?_
        refine j_lstore (L' := [(6, .long 0), (4, .long x_1), (0, .ref w), (1, .ref o), (2, .ref o), (3, .int t)]) X dX9_setToProduct_22 (by decide) rfl ?_
        refine j_iconst (v := 0) X dX9_setToProduct_24 rfl ?_
        refine j_istore (L' := [(8, .int 0), (6, .long 0), (4, .long x_1), (0, .ref w), (1, .ref o), (2, .ref o), (3, .int t)]) X dX9_setToProduct_25 (by decide) rfl ?_
        have loop2 : ∀ (d2 : Nat) (j : Nat) (u : Int32) (r : Int64) (g2 : Nat → Int64) (hj : i + j ≤ 8) (hu : u.toInt = j) (hr1 : r.toInt = (x % dP i * x / dP i % dP j + x / dP i % 4294967296 * (x % dP j)) / dP j) (hg1 : ∀ k, k < i + j → g2 k = dg (x % dP (i + 1) * x) k) (hg2 : ∀ k, i + j ≤ k → k < 8 → g2 k = dg (x % dP i * x) k), 8 - j < d2 → J p l e rm_X9_setToProduct s m args below meth c Q G A 11 0 0 27 [(0, .ref w), (1, .ref o), (2, .ref o), (3, .int t), (4, .long x_1), (6, .long r), (8, .int u)] [] [(w, .inr (8, [.ref a])), (a, aJ G 8 g2), (o, .inr (8, [.ref b])), (b, aJ G 8 (dg x))] := by
          intro d2
          induction d2 with
          | zero => intro j u r g2 hj hu hr1 hg1 hg2 hd02; exact absurd hd02 (Nat.not_lt_zero _)
          | succ d2 ih2 =>
            intro j u r g2 hj hu hr1 hg1 hg2 hd02
            refine j_lload X dX9_setToProduct_27 4 rfl ?_
            refine j_lconst (v := 0) X dX9_setToProduct_29 rfl ?_
            refine j_lcmp X dX9_setToProduct_30 ?_
            refine j_if_eq (tgt := 96) X dX9_setToProduct_31 (by decide) (fun c_31 => ?_) (fun c_31 => ?_)
            · skip
              first | simp only [cmp_eq, cmp_lt, cmp_ge, cmp_gt, cmp_le, lT0, lT1] at c_31 | simp only [Int32.le_iff_toInt_le, Int32.lt_iff_toInt_lt, ← Int32.toInt_inj, iT0, iT1, iT2, iT3, iT4, iT5, iT6, iT7, iT8, iT9, iT10, iT11, iT12, iT13, iT14, iT15, iT16, iT19, iT20, iT31, iT32, iT42, iT64, iT200, iT318, iT319, iT1000, iTm1, iTm2] at c_31
              have hz : x / dP i % 4294967296 = 0 ∨ 8 ≤ i + j := Or.inl (by rw [← m_c ex_1]; exact c_31)
              obtain ⟨x_2, ex_2⟩ : ∃ y9 : Int32, y9 = t + 1 := ⟨_, rfl⟩
              refine j_iinc (v := x_2) (L' := [(3, .int x_2), (0, .ref w), (1, .ref o), (2, .ref o), (4, .long x_1), (6, .long r), (8, .int u)]) X dX9_setToProduct_96 3 rfl (by rw [ex_2]; rfl) (by decide) rfl ?_
              refine j_goto (tgt := 7) X dX9_setToProduct_99 (by decide) ?_
              refine j_sub [1, 2, 3, 0] rfl ?_
              exact ih (i + 1) x_2 (g2) (by omega) (x_s hx (by omega) ex_2) (m_end hg1 hg2 hz) (by omega)
            · skip
              first | simp only [cmp_eq, cmp_lt, cmp_ge, cmp_gt, cmp_le, lT0, lT1] at c_31 | simp only [Int32.le_iff_toInt_le, Int32.lt_iff_toInt_lt, ← Int32.toInt_inj, iT0, iT1, iT2, iT3, iT4, iT5, iT6, iT7, iT8, iT9, iT10, iT11, iT12, iT13, iT14, iT15, iT16, iT19, iT20, iT31, iT32, iT42, iT64, iT200, iT318, iT319, iT1000, iTm1, iTm2] at c_31
              refine j_iload_n X dX9_setToProduct_34 rfl 3 rfl ?_
              refine j_iload X dX9_setToProduct_35 6 rfl ?_
              refine j_iadd X dX9_setToProduct_37 ?_
              refine j_bipush (v := 8) X dX9_setToProduct_38 (by decide) ?_
              refine j_icmp_ge (tgt := 96) X dX9_setToProduct_40 (by decide) (fun c_40 => ?_) (fun c_40 => ?_)
              · skip
                first | simp only [cmp_eq, cmp_lt, cmp_ge, cmp_gt, cmp_le, lT0, lT1] at c_40 | simp only [Int32.le_iff_toInt_le, Int32.lt_iff_toInt_lt, ← Int32.toInt_inj, iT0, iT1, iT2, iT3, iT4, iT5, iT6, iT7, iT8, iT9, iT10, iT11, iT12, iT13, iT14, iT15, iT16, iT19, iT20, iT31, iT32, iT42, iT64, iT200, iT318, iT319, iT1000, iTm1, iTm2] at c_40
                rw [x_add hx hu (by omega)] at c_40
                have hz : x / dP i % 4294967296 = 0 ∨ 8 ≤ i + j := Or.inr (by omega)
                obtain ⟨x_3, ex_3⟩ : ∃ y9 : Int32, y9 = t + 1 := ⟨_, rfl⟩
                refine j_iinc (v := x_3) (L' := [(3, .int x_3), (0, .ref w), (1, .ref o), (2, .ref o), (4, .long x_1), (6, .long r), (8, .int u)]) X dX9_setToProduct_96 3 rfl (by rw [ex_3]; rfl) (by decide) rfl ?_
                refine j_goto (tgt := 7) X dX9_setToProduct_99 (by decide) ?_
                refine j_sub [1, 2, 3, 0] rfl ?_
                exact ih (i + 1) x_3 (g2) (by omega) (x_s hx (by omega) ex_3) (m_end hg1 hg2 hz) (by omega)
              · skip
                first | simp only [cmp_eq, cmp_lt, cmp_ge, cmp_gt, cmp_le, lT0, lT1] at c_40 | simp only [Int32.le_iff_toInt_le, Int32.lt_iff_toInt_lt, ← Int32.toInt_inj, iT0, iT1, iT2, iT3, iT4, iT5, iT6, iT7, iT8, iT9, iT10, iT11, iT12, iT13, iT14, iT15, iT16, iT19, iT20, iT31, iT32, iT42, iT64, iT200, iT318, iT319, iT1000, iTm1, iTm2] at c_40
                rw [x_add hx hu (by omega)] at c_40
                refine j_lload X dX9_setToProduct_43 4 rfl ?_
                refine j_aload_n X dX9_setToProduct_45 rfl 2 rfl ?_
                refine j_get (v := .ref b) X dX9_setToProduct_46 2 rfl 0 rfl in_X9_setToProduct_X9 (by decide) fl_X9_setToProduct_9 rfl ?_
                refine j_iload X dX9_setToProduct_49 6 rfl ?_
                refine j_lald X dX9_setToProduct_51 3 rfl j (i_nI hu (by omega)) (by omega) (by decide) ?_
                refine j_lmul X dX9_setToProduct_52 ?_
                refine j_aload_n X dX9_setToProduct_53 rfl 0 rfl ?_
                refine j_get (v := .ref a) X dX9_setToProduct_54 0 rfl 0 rfl in_X9_setToProduct_X9 (by decide) fl_X9_setToProduct_9 rfl ?_
                refine j_iload_n X dX9_setToProduct_57 rfl 3 rfl ?_
                refine j_iload X dX9_setToProduct_58 6 rfl ?_
                refine j_iadd X dX9_setToProduct_60 ?_
                refine j_lald X dX9_setToProduct_61 1 rfl (i + j) (i_nI (x_add hx hu (by omega)) (by omega)) (by omega) (by decide) ?_
                refine j_ladd X dX9_setToProduct_62 ?_
                refine j_lload X dX9_setToProduct_63 5 rfl ?_
                refine j_ladd X dX9_setToProduct_65 ?_
                refine j_topl (fun x_4 ex_4 => ?_)
                refine j_lstore (L' := [(9, .long x_4), (0, .ref w), (1, .ref o), (2, .ref o), (3, .int t), (4, .long x_1), (6, .long r), (8, .int u)]) X dX9_setToProduct_66 (by decide) rfl ?_
                refine j_aload_n X dX9_setToProduct_68 rfl 1 rfl ?_
                refine j_get (v := .ref a) X dX9_setToProduct_69 0 rfl 0 rfl in_X9_setToProduct_X9 (by decide) fl_X9_setToProduct_9 rfl ?_
                refine j_iload_n X dX9_setToProduct_72 rfl 4 rfl ?_
                refine j_iload X dX9_setToProduct_73 7 rfl ?_
                refine j_iadd X dX9_setToProduct_75 ?_
                refine j_lload X dX9_setToProduct_76 0 rfl ?_
                refine j_ldc2 (v := 4294967295) X dX9_setToProduct_78 k_X9_setToProduct_19 ?_
                refine j_land X dX9_setToProduct_81 ?_
                refine j_topl (fun x_5 ex_5 => ?_)
                refine j_last (ws' := [(w, .inr (8, [.ref a])), (a, aJ G 8 (vp_updL g2 (i + j) x_5)), (o, .inr (8, [.ref b])), (b, aJ G 8 (dg x))]) X dX9_setToProduct_82 1 rfl (i + j) (i_nI (x_add hx hu (by omega)) (by omega)) (by omega) (by decide) rfl ?_
                refine j_lload X dX9_setToProduct_83 0 rfl ?_
                refine j_bipush (v := 32) X dX9_setToProduct_85 (by decide) ?_
                obtain ⟨x_6, ex_6⟩ : ∃ z9 : Int64, (x_4.toUInt64 >>> ((32 : Int32).toInt64.toUInt64 &&& Int64.toUInt64 63)).toInt64 = z9 := ⟨_, rfl⟩
                refine j_lushr (v := x_6) X dX9_setToProduct_87 ex_6 ?_
                refine j_lstore (L' := [(6, .long x_6), (9, .long x_4), (0, .ref w), (1, .ref o), (2, .ref o), (3, .int t), (4, .long x_1), (8, .int u)]) X dX9_setToProduct_88 (by decide) rfl ?_
                obtain ⟨x_7, ex_7⟩ : ∃ y9 : Int32, y9 = u + 1 := ⟨_, rfl⟩
                refine j_iinc (v := x_7) (L' := [(8, .int x_7), (6, .long x_6), (9, .long x_4), (0, .ref w), (1, .ref o), (2, .ref o), (3, .int t), (4, .long x_1)]) X dX9_setToProduct_90 7 rfl (by rw [ex_7]; rfl) (by decide) rfl ?_
                refine j_goto (tgt := 27) X dX9_setToProduct_93 (by decide) ?_
                refine j_sub [3, 4, 5, 6, 7, 1, 0] rfl ?_
                exact ih2 (j + 1) x_7 x_6 (vp_updL g2 (i + j) x_5) (by omega) (x_s hu (by omega) ex_7) (m_car ex_1 rfl (hg2 (i + j) (Nat.le_refl _) (by omega)) hr1 ex_4 ex_6) (m_st1 hg1 (ex_5.trans (m_dig ex_1 rfl (hg2 (i + j) (Nat.le_refl _) (by omega)) hr1 ex_4))) (m_st2 hg2) (by omega)
        refine j_sub [3, 4, 5, 6, 2, 1, 0] rfl ?_
        exact loop2 9 0 0 0 g (by omega) rfl m_r0 (m_beg hg (by omega)) (fun k _ h8 => hg k h8) (by omega)
  refine j_sub [1, 2, 3, 0] rfl ?_
  exact loop 9 0 0 (dg 0) (by omega) rfl (fun k _ => by rw [dP_0, Int.emod_one, Int.zero_mul]) (by omega)

abbrev rm_X9_against : Room := { frames := 0, cells := 0, slots := 0, locals := 0 }
theorem in_X9_against_X9 : ∀ w ∈ u_ws RX9 TX9 1, w ∈ wsX9_against := by decide +kernel
theorem fl_X9_against_9 : Cond.fieldLink RX9 9 (TX9 0).1 (TX9 0).2.1 (TX9 0).2.2.1 ∈ wsX9_against := by decide +kernel
set_option maxHeartbeats 4000000 in
set_option maxRecDepth 100000 in
theorem c_X9_against (l : Launch) (G : jG) (w a o b : Nat) (x y : Int) (hx : 0 ≤ x ∧ x < 115792089237316195423570985008687907853269984665640564039457584007913129639936) (hy : 0 ≤ y ∧ y < 115792089237316195423570985008687907853269984665640564039457584007913129639936) : Ct l yX9_against wsX9_against rm_X9_against G [.ref w, .ref o] [(w, .inr (8, [.ref a])), (a, aJ G 8 (dg x)), (o, .inr (8, [.ref b])), (b, aJ G 8 (dg y))] (S := Unit) (fun r _ => r = some (.int (sg (x - y)))) (fun _ => [(w, .inr (8, [.ref a])), (a, aJ G 8 (dg x)), (o, .inr (8, [.ref b])), (b, aJ G 8 (dg y))]) (fun _ => []) := by
  refine c_intro (cc := cX9_against) (maxL := 3) (ret := (some .int)) (by decide) rfl (Nat.le_of_ble_eq_true rfl) (fun _ => by simp only [List.map_cons, List.map_nil]) ?_
  intro p e s m args below meth c Q A X hr hin E
  change J p l e rm_X9_against s m args below meth c Q G A 3 0 0 0 [(0, .ref w), (1, .ref o)] [] [(w, .inr (8, [.ref a])), (a, aJ G 8 (dg x)), (o, .inr (8, [.ref b])), (b, aJ G 8 (dg y))]
  refine j_bipush (v := 7) X dX9_against_0 (by decide) ?_
  refine j_istore_n (L' := [(2, .int 7), (0, .ref w), (1, .ref o)]) X dX9_against_2 rfl (by decide) rfl ?_
  have loop : ∀ (d : Nat) (k : Nat) (t : Int32) (hk : k ≤ 8) (ht : t.toInt = (k : Int) - 1) (he : x / dP k = y / dP k), k < d → J p l e rm_X9_against s m args below meth c Q G A 3 0 0 3 [(0, .ref w), (1, .ref o), (2, .int t)] [] [(w, .inr (8, [.ref a])), (a, aJ G 8 (dg x)), (o, .inr (8, [.ref b])), (b, aJ G 8 (dg y))] := by
    intro d
    induction d with
    | zero => intro k t hk ht he hd0; exact absurd hd0 (Nat.not_lt_zero _)
    | succ d ih =>
      intro k t hk ht he hd0
      refine j_iload_n X dX9_against_3 rfl 2 rfl ?_
      refine j_if_lt (tgt := 51) X dX9_against_4 (by decide) (fun c_4 => ?_) (fun c_4 => ?_)
      · skip
        first | simp only [cmp_eq, cmp_lt, cmp_ge, cmp_gt, cmp_le, lT0, lT1] at c_4 | simp only [Int32.le_iff_toInt_le, Int32.lt_iff_toInt_lt, ← Int32.toInt_inj, iT0, iT1, iT2, iT3, iT4, iT5, iT6, iT7, iT8, iT9, iT10, iT11, iT12, iT13, iT14, iT15, iT16, iT19, iT20, iT31, iT32, iT42, iT64, iT200, iT318, iT319, iT1000, iTm1, iTm2] at c_4
        have hk0 : k = 0 := by omega
        subst hk0
        rw [dP_0, Int.ediv_one, Int.ediv_one] at he
        refine j_iconst (v := 0) X dX9_against_51 rfl ?_
        exact E.2.1 52 _ 0 () _ dX9_against_52 (by rw [sg_zero (by omega)]) hr rfl
      · skip
        first | simp only [cmp_eq, cmp_lt, cmp_ge, cmp_gt, cmp_le, lT0, lT1] at c_4 | simp only [Int32.le_iff_toInt_le, Int32.lt_iff_toInt_lt, ← Int32.toInt_inj, iT0, iT1, iT2, iT3, iT4, iT5, iT6, iT7, iT8, iT9, iT10, iT11, iT12, iT13, iT14, iT15, iT16, iT19, iT20, iT31, iT32, iT42, iT64, iT200, iT318, iT319, iT1000, iTm1, iTm2] at c_4
        obtain ⟨k, rfl⟩ : ∃ k1, k = k1 + 1 := ⟨k - 1, by omega⟩
        refine j_aload_n X dX9_against_7 rfl 0 rfl ?_
        refine j_get (v := .ref a) X dX9_against_8 0 rfl 0 rfl in_X9_against_X9 (by decide) fl_X9_against_9 rfl ?_
        refine j_iload_n X dX9_against_11 rfl 2 rfl ?_
        refine j_lald X dX9_against_12 1 rfl k (i_nI (by omega) (by omega)) (by omega) (by decide) ?_
        refine j_aload_n X dX9_against_13 rfl 1 rfl ?_
        refine j_get (v := .ref b) X dX9_against_14 2 rfl 0 rfl in_X9_against_X9 (by decide) fl_X9_against_9 rfl ?_
        refine j_iload_n X dX9_against_17 rfl 2 rfl ?_
        refine j_lald X dX9_against_18 3 rfl k (i_nI (by omega) (by omega)) (by omega) (by decide) ?_
        refine j_lcmp X dX9_against_19 ?_
        refine j_if_eq (tgt := 45) X dX9_against_20 (by decide) (fun c_20 => ?_) (fun c_20 => ?_)
        · skip
          first | simp only [cmp_eq, cmp_lt, cmp_ge, cmp_gt, cmp_le, lT0, lT1] at c_20 | simp only [Int32.le_iff_toInt_le, Int32.lt_iff_toInt_lt, ← Int32.toInt_inj, iT0, iT1, iT2, iT3, iT4, iT5, iT6, iT7, iT8, iT9, iT10, iT11, iT12, iT13, iT14, iT15, iT16, iT19, iT20, iT31, iT32, iT42, iT64, iT200, iT318, iT319, iT1000, iTm1, iTm2] at c_20
          obtain ⟨x_1, ex_1⟩ : ∃ y9 : Int32, y9 = t + (-1) := ⟨_, rfl⟩
          refine j_iinc (v := x_1) (L' := [(2, .int x_1), (0, .ref w), (1, .ref o)]) X dX9_against_45 2 rfl (by rw [ex_1]; rfl) (by decide) rfl ?_
          refine j_goto (tgt := 3) X dX9_against_48 (by decide) ?_
          refine j_sub [1, 2, 0] rfl ?_
          exact ih k x_1 (by omega) (by rw [x_dec ht (by omega) ex_1]; omega) (ag_eq he rfl rfl c_20) (by omega)
        · skip
          first | simp only [cmp_eq, cmp_lt, cmp_ge, cmp_gt, cmp_le, lT0, lT1] at c_20 | simp only [Int32.le_iff_toInt_le, Int32.lt_iff_toInt_lt, ← Int32.toInt_inj, iT0, iT1, iT2, iT3, iT4, iT5, iT6, iT7, iT8, iT9, iT10, iT11, iT12, iT13, iT14, iT15, iT16, iT19, iT20, iT31, iT32, iT42, iT64, iT200, iT318, iT319, iT1000, iTm1, iTm2] at c_20
          refine j_aload_n X dX9_against_23 rfl 0 rfl ?_
          refine j_get (v := .ref a) X dX9_against_24 0 rfl 0 rfl in_X9_against_X9 (by decide) fl_X9_against_9 rfl ?_
          refine j_iload_n X dX9_against_27 rfl 2 rfl ?_
          refine j_lald X dX9_against_28 1 rfl k (i_nI (by omega) (by omega)) (by omega) (by decide) ?_
          refine j_aload_n X dX9_against_29 rfl 1 rfl ?_
          refine j_get (v := .ref b) X dX9_against_30 2 rfl 0 rfl in_X9_against_X9 (by decide) fl_X9_against_9 rfl ?_
          refine j_iload_n X dX9_against_33 rfl 2 rfl ?_
          refine j_lald X dX9_against_34 3 rfl k (i_nI (by omega) (by omega)) (by omega) (by decide) ?_
          refine j_lcmp X dX9_against_35 ?_
          refine j_if_ge (tgt := 43) X dX9_against_36 (by decide) (fun c_36 => ?_) (fun c_36 => ?_)
          · skip
            first | simp only [cmp_eq, cmp_lt, cmp_ge, cmp_gt, cmp_le, lT0, lT1] at c_36 | simp only [Int32.le_iff_toInt_le, Int32.lt_iff_toInt_lt, ← Int32.toInt_inj, iT0, iT1, iT2, iT3, iT4, iT5, iT6, iT7, iT8, iT9, iT10, iT11, iT12, iT13, iT14, iT15, iT16, iT19, iT20, iT31, iT32, iT42, iT64, iT200, iT318, iT319, iT1000, iTm1, iTm2] at c_36
            have hlt := ag_lt he.symm rfl rfl (show ((dg y) k).toInt < ((dg x) k).toInt by omega)
            refine j_iconst (v := 1) X dX9_against_43 rfl ?_
            exact E.2.1 44 _ 1 () _ dX9_against_44 (by rw [sg_pos (by omega)]) hr rfl
          · skip
            first | simp only [cmp_eq, cmp_lt, cmp_ge, cmp_gt, cmp_le, lT0, lT1] at c_36 | simp only [Int32.le_iff_toInt_le, Int32.lt_iff_toInt_lt, ← Int32.toInt_inj, iT0, iT1, iT2, iT3, iT4, iT5, iT6, iT7, iT8, iT9, iT10, iT11, iT12, iT13, iT14, iT15, iT16, iT19, iT20, iT31, iT32, iT42, iT64, iT200, iT318, iT319, iT1000, iTm1, iTm2] at c_36
            have hlt := ag_lt he rfl rfl (show ((dg x) k).toInt < ((dg y) k).toInt by omega)
            refine j_iconst (v := (-1)) X dX9_against_39 rfl ?_
            refine j_goto (tgt := 44) X dX9_against_40 (by decide) ?_
            exact E.2.1 44 _ (-1) () _ dX9_against_44 (by rw [sg_neg (by omega)]) hr rfl
  refine j_sub [1, 2, 0] rfl ?_
  exact loop 9 8 7 (by omega) rfl (by rw [dP_8]; omega) (by omega)

theorem hy_X9_against_V : yX9_against.cls = RX9 ∧ yX9_against.cls ≠ "java/lang/invoke/MethodHandle" ∧ yX9_against.cls ≠ "java/lang/invoke/VarHandle" ∧ (parseMethodDescriptor yX9_against.desc).map (fun d => d.parameters.length) = some 1 := by decide +kernel
abbrev rm_X9_sign : Room := { frames := 0, cells := 0, slots := 0, locals := 0 }
theorem in_X9_sign_X9 : ∀ w ∈ u_ws RX9 TX9 1, w ∈ wsX9_sign := by decide +kernel
theorem fl_X9_sign_9 : Cond.fieldLink RX9 9 (TX9 0).1 (TX9 0).2.1 (TX9 0).2.2.1 ∈ wsX9_sign := by decide +kernel
set_option maxHeartbeats 4000000 in
set_option maxRecDepth 100000 in
theorem c_X9_sign (l : Launch) (G : jG) (w a : Nat) (z : Int) (hz : -57896044618658097711785492504343953926634992332820282019728792003956564819968 ≤ z ∧ z < 57896044618658097711785492504343953926634992332820282019728792003956564819968) : Ct l yX9_sign wsX9_sign rm_X9_sign G [.ref w] [(w, .inr (8, [.ref a])), (a, aJ G 8 (dg z))] (S := Unit) (fun r _ => r = some (.int (sg z))) (fun _ => [(w, .inr (8, [.ref a])), (a, aJ G 8 (dg z))]) (fun _ => []) := by
  refine c_intro (cc := cX9_sign) (maxL := 2) (ret := (some .int)) (by decide) rfl (Nat.le_of_ble_eq_true rfl) (fun _ => by simp only [List.map_cons, List.map_nil]) ?_
  intro p e s m args below meth c Q A X hr hin E
  change J p l e rm_X9_sign s m args below meth c Q G A 2 0 0 0 [(0, .ref w)] [] [(w, .inr (8, [.ref a])), (a, aJ G 8 (dg z))]
  refine j_aload_n X dX9_sign_0 rfl 0 rfl ?_
  refine j_get (v := .ref a) X dX9_sign_1 0 rfl 0 rfl in_X9_sign_X9 (by decide) fl_X9_sign_9 rfl ?_
  refine j_bipush (v := 7) X dX9_sign_4 (by decide) ?_
  refine j_lald X dX9_sign_6 1 rfl 7 rfl (by decide) (by decide) ?_
  refine j_bipush (v := 31) X dX9_sign_7 (by decide) ?_
  obtain ⟨x_1, ex_1⟩ : ∃ z9 : Int64, (((dg z) 7).toUInt64 >>> ((31 : Int32).toInt64.toUInt64 &&& Int64.toUInt64 63)).toInt64 = z9 := ⟨_, rfl⟩
  refine j_lushr (v := x_1) X dX9_sign_9 ex_1 ?_
  refine j_lconst (v := 0) X dX9_sign_10 rfl ?_
  refine j_lcmp X dX9_sign_11 ?_
  refine j_if_eq (tgt := 17) X dX9_sign_12 (by decide) (fun c_12 => ?_) (fun c_12 => ?_)
  · skip
    first | simp only [cmp_eq, cmp_lt, cmp_ge, cmp_gt, cmp_le, lT0, lT1] at c_12 | simp only [Int32.le_iff_toInt_le, Int32.lt_iff_toInt_lt, ← Int32.toInt_inj, iT0, iT1, iT2, iT3, iT4, iT5, iT6, iT7, iT8, iT9, iT10, iT11, iT12, iT13, iT14, iT15, iT16, iT19, iT20, iT31, iT32, iT42, iT64, iT200, iT318, iT319, iT1000, iTm1, iTm2] at c_12
    have h0 : 0 ≤ z := (sn_top hz.1 hz.2 ex_1).mp c_12
    refine j_iconst (v := 0) X dX9_sign_17 rfl ?_
    refine j_istore_n (L' := [(1, .int 0), (0, .ref w)]) X dX9_sign_18 rfl (by decide) rfl ?_
    have loop : ∀ (d : Nat) (i : Nat) (t : Int32) (hi : i ≤ 8) (hx : t.toInt = i) (hm : z % dP i = 0), 8 - i < d → J p l e rm_X9_sign s m args below meth c Q G A 2 0 0 19 [(0, .ref w), (1, .int t)] [] [(w, .inr (8, [.ref a])), (a, aJ G 8 (dg z))] := by
      intro d
      induction d with
      | zero => intro i t hi hx hm hd0; exact absurd hd0 (Nat.not_lt_zero _)
      | succ d ih =>
        intro i t hi hx hm hd0
        refine j_iload_n X dX9_sign_19 rfl 1 rfl ?_
        refine j_bipush (v := 8) X dX9_sign_20 (by decide) ?_
        refine j_icmp_ge (tgt := 44) X dX9_sign_22 (by decide) (fun c_22 => ?_) (fun c_22 => ?_)
        · skip
          first | simp only [cmp_eq, cmp_lt, cmp_ge, cmp_gt, cmp_le, lT0, lT1] at c_22 | simp only [Int32.le_iff_toInt_le, Int32.lt_iff_toInt_lt, ← Int32.toInt_inj, iT0, iT1, iT2, iT3, iT4, iT5, iT6, iT7, iT8, iT9, iT10, iT11, iT12, iT13, iT14, iT15, iT16, iT19, iT20, iT31, iT32, iT42, iT64, iT200, iT318, iT319, iT1000, iTm1, iTm2] at c_22
          have h8 : i = 8 := by omega
          subst h8
          rw [dP_8] at hm
          refine j_iconst (v := 0) X dX9_sign_44 rfl ?_
          exact E.2.1 45 _ 0 () _ dX9_sign_45 (by rw [sg_zero (by omega)]) hr rfl
        · skip
          first | simp only [cmp_eq, cmp_lt, cmp_ge, cmp_gt, cmp_le, lT0, lT1] at c_22 | simp only [Int32.le_iff_toInt_le, Int32.lt_iff_toInt_lt, ← Int32.toInt_inj, iT0, iT1, iT2, iT3, iT4, iT5, iT6, iT7, iT8, iT9, iT10, iT11, iT12, iT13, iT14, iT15, iT16, iT19, iT20, iT31, iT32, iT42, iT64, iT200, iT318, iT319, iT1000, iTm1, iTm2] at c_22
          refine j_aload_n X dX9_sign_25 rfl 0 rfl ?_
          refine j_get (v := .ref a) X dX9_sign_26 0 rfl 0 rfl in_X9_sign_X9 (by decide) fl_X9_sign_9 rfl ?_
          refine j_iload_n X dX9_sign_29 rfl 1 rfl ?_
          refine j_lald X dX9_sign_30 1 rfl i (i_nI hx (by omega)) (by omega) (by decide) ?_
          refine j_lconst (v := 0) X dX9_sign_31 rfl ?_
          refine j_lcmp X dX9_sign_32 ?_
          refine j_if_eq (tgt := 38) X dX9_sign_33 (by decide) (fun c_33 => ?_) (fun c_33 => ?_)
          · skip
            first | simp only [cmp_eq, cmp_lt, cmp_ge, cmp_gt, cmp_le, lT0, lT1] at c_33 | simp only [Int32.le_iff_toInt_le, Int32.lt_iff_toInt_lt, ← Int32.toInt_inj, iT0, iT1, iT2, iT3, iT4, iT5, iT6, iT7, iT8, iT9, iT10, iT11, iT12, iT13, iT14, iT15, iT16, iT19, iT20, iT31, iT32, iT42, iT64, iT200, iT318, iT319, iT1000, iTm1, iTm2] at c_33
            obtain ⟨x_2, ex_2⟩ : ∃ y9 : Int32, y9 = t + 1 := ⟨_, rfl⟩
            refine j_iinc (v := x_2) (L' := [(1, .int x_2), (0, .ref w)]) X dX9_sign_38 1 rfl (by rw [ex_2]; rfl) (by decide) rfl ?_
            refine j_goto (tgt := 19) X dX9_sign_41 (by decide) ?_
            refine j_sub [1, 0] rfl ?_
            exact ih (i + 1) x_2 (by omega) (x_s hx (by omega) ex_2) (sn_next hm rfl c_33) (by omega)
          · skip
            first | simp only [cmp_eq, cmp_lt, cmp_ge, cmp_gt, cmp_le, lT0, lT1] at c_33 | simp only [Int32.le_iff_toInt_le, Int32.lt_iff_toInt_lt, ← Int32.toInt_inj, iT0, iT1, iT2, iT3, iT4, iT5, iT6, iT7, iT8, iT9, iT10, iT11, iT12, iT13, iT14, iT15, iT16, iT19, iT20, iT31, iT32, iT42, iT64, iT200, iT318, iT319, iT1000, iTm1, iTm2] at c_33
            have hn := sn_nz rfl c_33
            refine j_iconst (v := 1) X dX9_sign_36 rfl ?_
            exact E.2.1 37 _ 1 () _ dX9_sign_37 (by rw [sg_pos (by omega)]) hr rfl
    refine j_sub [1, 0] rfl ?_
    exact loop 9 0 0 (by omega) rfl (by rw [dP_0, Int.emod_one]) (by omega)
  · skip
    first | simp only [cmp_eq, cmp_lt, cmp_ge, cmp_gt, cmp_le, lT0, lT1] at c_12 | simp only [Int32.le_iff_toInt_le, Int32.lt_iff_toInt_lt, ← Int32.toInt_inj, iT0, iT1, iT2, iT3, iT4, iT5, iT6, iT7, iT8, iT9, iT10, iT11, iT12, iT13, iT14, iT15, iT16, iT19, iT20, iT31, iT32, iT42, iT64, iT200, iT318, iT319, iT1000, iTm1, iTm2] at c_12
    have h0 : ¬ 0 ≤ z := fun h => c_12 ((sn_top hz.1 hz.2 ex_1).mpr h)
    refine j_iconst (v := (-1)) X dX9_sign_15 rfl ?_
    exact E.2.1 16 _ (-1) () _ dX9_sign_16 (by rw [sg_neg (by omega)]) hr rfl

theorem hy_X9_sign_V : yX9_sign.cls = RX9 ∧ yX9_sign.cls ≠ "java/lang/invoke/MethodHandle" ∧ yX9_sign.cls ≠ "java/lang/invoke/VarHandle" ∧ (parseMethodDescriptor yX9_sign.desc).map (fun d => d.parameters.length) = some 0 := by decide +kernel
abbrev rm_X9_halve : Room := { frames := 0, cells := 0, slots := 0, locals := 0 }
theorem in_X9_halve_X9 : ∀ w ∈ u_ws RX9 TX9 1, w ∈ wsX9_halve := by decide +kernel
theorem fl_X9_halve_9 : Cond.fieldLink RX9 9 (TX9 0).1 (TX9 0).2.1 (TX9 0).2.2.1 ∈ wsX9_halve := by decide +kernel
set_option maxHeartbeats 4000000 in
set_option maxRecDepth 100000 in
theorem c_X9_halve (l : Launch) (G : jG) (w a : Nat) (z : Int) (hz : 0 ≤ z ∧ z < 115792089237316195423570985008687907853269984665640564039457584007913129639936) : Ct l yX9_halve wsX9_halve rm_X9_halve G [.ref w] [(w, .inr (8, [.ref a])), (a, aJ G 8 (dg z))] (S := Unit) (fun r _ => r = none) (fun _ => [(w, .inr (8, [.ref a])), (a, aJ G 8 (dg (z / 2)))]) (fun _ => []) := by
  refine c_intro (cc := cX9_halve) (maxL := 6) (ret := none) (by decide) rfl (Nat.le_of_ble_eq_true rfl) (fun _ => by simp only [List.map_cons, List.map_nil]) ?_
  intro p e s m args below meth c Q A X hr hin E
  change J p l e rm_X9_halve s m args below meth c Q G A 6 0 0 0 [(0, .ref w)] [] [(w, .inr (8, [.ref a])), (a, aJ G 8 (dg z))]
  refine j_lconst (v := 0) X dX9_halve_0 rfl ?_
  refine j_lstore_n (L' := [(1, .long 0), (0, .ref w)]) X dX9_halve_1 rfl (by decide) rfl ?_
  refine j_bipush (v := 7) X dX9_halve_2 (by decide) ?_
  refine j_istore_n (L' := [(3, .int 7), (1, .long 0), (0, .ref w)]) X dX9_halve_4 rfl (by decide) rfl ?_
  have loop : ∀ (d : Nat) (k : Nat) (t : Int32) (r : Int64) (g : Nat → Int64) (hk : k ≤ 8) (ht : t.toInt = (k : Int) - 1) (hr1 : r.toInt = z / dP k % 2) (hg1 : ∀ j, k ≤ j → j < 8 → g j = dg (z / 2) j) (hg2 : ∀ j, j < k → g j = dg z j), k < d → J p l e rm_X9_halve s m args below meth c Q G A 6 0 0 5 [(0, .ref w), (1, .long r), (3, .int t)] [] [(w, .inr (8, [.ref a])), (a, aJ G 8 g)] := by
    intro d
    induction d with
    | zero => intro k t r g hk ht hr1 hg1 hg2 hd0; exact absurd hd0 (Nat.not_lt_zero _)
    | succ d ih =>
      intro k t r g hk ht hr1 hg1 hg2 hd0
      refine j_iload_n X dX9_halve_5 rfl 2 rfl ?_
      refine j_if_lt (tgt := 43) X dX9_halve_6 (by decide) (fun c_6 => ?_) (fun c_6 => ?_)
      · skip
        first | simp only [cmp_eq, cmp_lt, cmp_ge, cmp_gt, cmp_le, lT0, lT1] at c_6 | simp only [Int32.le_iff_toInt_le, Int32.lt_iff_toInt_lt, ← Int32.toInt_inj, iT0, iT1, iT2, iT3, iT4, iT5, iT6, iT7, iT8, iT9, iT10, iT11, iT12, iT13, iT14, iT15, iT16, iT19, iT20, iT31, iT32, iT42, iT64, iT200, iT318, iT319, iT1000, iTm1, iTm2] at c_6
        refine j_setJ (g := dg (z / 2)) 1 rfl (fun j hj => hg1 j (by omega) hj) rfl ?_
        exact E.1 43 _ () dX9_halve_43 rfl hr
      · skip
        first | simp only [cmp_eq, cmp_lt, cmp_ge, cmp_gt, cmp_le, lT0, lT1] at c_6 | simp only [Int32.le_iff_toInt_le, Int32.lt_iff_toInt_lt, ← Int32.toInt_inj, iT0, iT1, iT2, iT3, iT4, iT5, iT6, iT7, iT8, iT9, iT10, iT11, iT12, iT13, iT14, iT15, iT16, iT19, iT20, iT31, iT32, iT42, iT64, iT200, iT318, iT319, iT1000, iTm1, iTm2] at c_6
        obtain ⟨k, rfl⟩ : ∃ k1, k = k1 + 1 := ⟨k - 1, by omega⟩
        refine j_aload_n X dX9_halve_9 rfl 0 rfl ?_
        refine j_get (v := .ref a) X dX9_halve_10 0 rfl 0 rfl in_X9_halve_X9 (by decide) fl_X9_halve_9 rfl ?_
        refine j_iload_n X dX9_halve_13 rfl 2 rfl ?_
        refine j_lald X dX9_halve_14 1 rfl k (i_nI (by omega) (by omega)) (by omega) (by decide) ?_
        refine j_topl (fun x_1 ex_1 => ?_)
        refine j_lstore (L' := [(4, .long x_1), (0, .ref w), (1, .long r), (3, .int t)]) X dX9_halve_15 (by decide) rfl ?_
        refine j_aload_n X dX9_halve_17 rfl 1 rfl ?_
        refine j_get (v := .ref a) X dX9_halve_18 0 rfl 0 rfl in_X9_halve_X9 (by decide) fl_X9_halve_9 rfl ?_
        refine j_iload_n X dX9_halve_21 rfl 3 rfl ?_
        refine j_lload X dX9_halve_22 0 rfl ?_
        refine j_iconst (v := 1) X dX9_halve_24 rfl ?_
        obtain ⟨x_2, ex_2⟩ : ∃ z9 : Int64, (x_1.toUInt64 >>> ((1 : Int32).toInt64.toUInt64 &&& Int64.toUInt64 63)).toInt64 = z9 := ⟨_, rfl⟩
        refine j_lushr (v := x_2) X dX9_halve_25 ex_2 ?_
        refine j_lload_n X dX9_halve_26 rfl 2 rfl ?_
        refine j_bipush (v := 31) X dX9_halve_27 (by decide) ?_
        obtain ⟨x_3, ex_3⟩ : ∃ z9 : Int64, r <<< ((31 : Int32).toInt64 &&& 63) = z9 := ⟨_, rfl⟩
        refine j_lshl (v := x_3) X dX9_halve_29 ex_3 ?_
        refine j_lor X dX9_halve_30 ?_
        refine j_topl (fun x_4 ex_4 => ?_)
        refine j_last (ws' := [(w, .inr (8, [.ref a])), (a, aJ G 8 (vp_updL g k x_4))]) X dX9_halve_31 1 rfl k (i_nI (by omega) (by omega)) (by omega) (by decide) rfl ?_
        refine j_lload X dX9_halve_32 0 rfl ?_
        refine j_lconst (v := 1) X dX9_halve_34 rfl ?_
        refine j_land X dX9_halve_35 ?_
        refine j_topl (fun x_5 ex_5 => ?_)
        refine j_lstore_n (L' := [(1, .long x_5), (4, .long x_1), (0, .ref w), (3, .int t)]) X dX9_halve_36 rfl (by decide) rfl ?_
        obtain ⟨x_6, ex_6⟩ : ∃ y9 : Int32, y9 = t + (-1) := ⟨_, rfl⟩
        refine j_iinc (v := x_6) (L' := [(3, .int x_6), (1, .long x_5), (4, .long x_1), (0, .ref w)]) X dX9_halve_37 3 rfl (by rw [ex_6]; rfl) (by decide) rfl ?_
        refine j_goto (tgt := 5) X dX9_halve_40 (by decide) ?_
        refine j_sub [3, 1, 0] rfl ?_
        exact ih k x_6 x_5 (vp_updL g k x_4) (by omega) (by rw [x_dec ht (by omega) ex_6]; omega) (hv_fall (ex_1.trans (hg2 k (by omega))) ex_5) (t_step hg1 (ex_4.trans (hv_dig (ex_1.trans (hg2 k (by omega))) hr1 ex_2 ex_3))) (t_rest hg2) (by omega)
  refine j_sub [2, 1, 0] rfl ?_
  exact loop 9 8 7 0 (dg z) (by omega) rfl (by rw [dP_8, lT0]; omega) (fun j h1 h2 => absurd h1 (by omega)) (fun j _ => rfl) (by omega)

theorem hy_X9_halve_V : yX9_halve.cls = RX9 ∧ yX9_halve.cls ≠ "java/lang/invoke/MethodHandle" ∧ yX9_halve.cls ≠ "java/lang/invoke/VarHandle" ∧ (parseMethodDescriptor yX9_halve.desc).map (fun d => d.parameters.length) = some 0 := by decide +kernel
