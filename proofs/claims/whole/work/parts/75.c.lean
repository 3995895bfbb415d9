abbrev rm_J9_floorDiv_f86c9 : Room := { frames := 0, cells := 0, slots := 0, locals := 0 }
set_option maxHeartbeats 4000000 in
set_option maxRecDepth 100000 in
theorem c_J9_floorDiv_f86c9 (l : Launch) (G : jG) (a b : Int64) (hb0 : ¬ b.toInt = 0) (hb1 : ¬ b.toInt = -1) : Ct l yJ9_floorDiv_f86c9 wsJ9_floorDiv_f86c9 rm_J9_floorDiv_f86c9 G [.long a, .long b] [] (S := Int64) (fun r (u : Int64) => r = some (.long u) ∧ ∃ z : Int, ovR a.toInt b.toInt u.toInt z) (fun _ => []) (fun _ => []) := by
  refine c_introF (cc := cJ9_floorDiv_f86c9) (maxL := 6) (ret := (some .long)) (by decide +kernel) rfl (Nat.le_of_ble_eq_true rfl) (fun _ => by simp only [List.map_cons, List.map_nil]) ?_
  intro p e s m args below meth c Q A X hr hin E
  change J p l e rm_J9_floorDiv_f86c9 s m args below meth c Q G A 6 0 0 0 [(0, .long a), (2, .long b)] [] []
  refine j_lload_n X dJ9_floorDiv_f86c9_0 rfl 0 rfl ?_
  refine j_lload_n X dJ9_floorDiv_f86c9_1 rfl 1 rfl ?_
  refine j_ldiv X dJ9_floorDiv_f86c9_2 (fun h => hb0 (by rw [h]; rfl)) ?_
  refine j_topl (fun x_1 ex_1 => ?_)
  refine j_lstore (L' := [(4, .long x_1), (0, .long a), (2, .long b)]) X dJ9_floorDiv_f86c9_3 (by decide) rfl ?_
  obtain ⟨z, z1, z2, z3, z4, z5, z6⟩ := fd_main hb0 hb1 ex_1
  have zm := fd_mul z1 z3 z4 z5
  have hx := fd_x a b
  refine j_lload_n X dJ9_floorDiv_f86c9_5 rfl 1 rfl ?_
  refine j_lload_n X dJ9_floorDiv_f86c9_6 rfl 2 rfl ?_
  refine j_lxor X dJ9_floorDiv_f86c9_7 ?_
  refine j_lconst (v := 0) X dJ9_floorDiv_f86c9_8 rfl ?_
  refine j_lcmp X dJ9_floorDiv_f86c9_9 ?_
  refine j_if_ge (tgt := 27) X dJ9_floorDiv_f86c9_10 (by decide) (fun c_10 => ?_) (fun c_10 => ?_)
  · skip
    first | simp only [cmp_eq, cmp_lt, cmp_ge, cmp_gt, cmp_le, lT0, lT1] at c_10 | simp only [Int32.le_iff_toInt_le, Int32.lt_iff_toInt_lt, ← Int32.toInt_inj, iT0, iT1, iT2, iT3, iT4, iT5, iT6, iT7, iT8, iT9, iT10, iT11, iT12, iT13, iT14, iT15, iT16, iT19, iT20, iT31, iT32, iT42, iT64, iT200, iT318, iT319, iT1000, iTm1, iTm2] at c_10
    refine j_lload X dJ9_floorDiv_f86c9_27 0 rfl ?_
    exact E.2.2 29 _ x_1 x_1 dJ9_floorDiv_f86c9_29 (⟨rfl, z, z1, fun _ => by omega, fun _ => by omega⟩) hr
  · skip
    first | simp only [cmp_eq, cmp_lt, cmp_ge, cmp_gt, cmp_le, lT0, lT1] at c_10 | simp only [Int32.le_iff_toInt_le, Int32.lt_iff_toInt_lt, ← Int32.toInt_inj, iT0, iT1, iT2, iT3, iT4, iT5, iT6, iT7, iT8, iT9, iT10, iT11, iT12, iT13, iT14, iT15, iT16, iT19, iT20, iT31, iT32, iT42, iT64, iT200, iT318, iT319, iT1000, iTm1, iTm2] at c_10
    refine j_lload X dJ9_floorDiv_f86c9_13 0 rfl ?_
    refine j_lload_n X dJ9_floorDiv_f86c9_15 rfl 2 rfl ?_
    refine j_lmul X dJ9_floorDiv_f86c9_16 ?_
    refine j_lload_n X dJ9_floorDiv_f86c9_17 rfl 1 rfl ?_
    refine j_lcmp X dJ9_floorDiv_f86c9_18 ?_
    refine j_if_eq (tgt := 27) X dJ9_floorDiv_f86c9_19 (by decide) (fun c_19 => ?_) (fun c_19 => ?_)
    · skip
      first | simp only [cmp_eq, cmp_lt, cmp_ge, cmp_gt, cmp_le, lT0, lT1] at c_19 | simp only [Int32.le_iff_toInt_le, Int32.lt_iff_toInt_lt, ← Int32.toInt_inj, iT0, iT1, iT2, iT3, iT4, iT5, iT6, iT7, iT8, iT9, iT10, iT11, iT12, iT13, iT14, iT15, iT16, iT19, iT20, iT31, iT32, iT42, iT64, iT200, iT318, iT319, iT1000, iTm1, iTm2] at c_19
      rw [zm] at c_19
      refine j_lload X dJ9_floorDiv_f86c9_27 0 rfl ?_
      exact E.2.2 29 _ x_1 x_1 dJ9_floorDiv_f86c9_29 (⟨rfl, z, ov_0 z1 (by omega)⟩) hr
    · skip
      first | simp only [cmp_eq, cmp_lt, cmp_ge, cmp_gt, cmp_le, lT0, lT1] at c_19 | simp only [Int32.le_iff_toInt_le, Int32.lt_iff_toInt_lt, ← Int32.toInt_inj, iT0, iT1, iT2, iT3, iT4, iT5, iT6, iT7, iT8, iT9, iT10, iT11, iT12, iT13, iT14, iT15, iT16, iT19, iT20, iT31, iT32, iT42, iT64, iT200, iT318, iT319, iT1000, iTm1, iTm2] at c_19
      rw [zm] at c_19
      refine j_lload X dJ9_floorDiv_f86c9_22 0 rfl ?_
      refine j_lconst (v := 1) X dJ9_floorDiv_f86c9_24 rfl ?_
      refine j_lsub X dJ9_floorDiv_f86c9_25 ?_
      exact E.2.2 26 _ (x_1 - 1) _ dJ9_floorDiv_f86c9_26 (⟨rfl, _, ov_a z1 z2 (by omega) (by rw [l_sub] <;> rw [lT1] <;> omega) rfl⟩) hr

theorem hy_J9_floorDiv_f86c9_S : yJ9_floorDiv_f86c9.cls ≠ "java/lang/invoke/MethodHandle" ∧ yJ9_floorDiv_f86c9.cls ≠ "java/lang/invoke/VarHandle" ∧ (parseMethodDescriptor yJ9_floorDiv_f86c9.desc).map (fun d => d.parameters.length) = some 2 := by decide +kernel
abbrev rm_X10_over : Room := { frames := 1, cells := 0, slots := 0, locals := 25 }
theorem k_X10_over_141 : Cond.constantLong RX10 141 (-1) ∈ wsX10_over := by decide +kernel
set_option maxHeartbeats 4000000 in
set_option maxRecDepth 100000 in
theorem c_X10_over_0 (l : Launch) (G : jG) (x0 xs po ro cr gp nu wk : Nat) (cn : Int32) (a b : Int64) (how : Int32) (hb0 : ¬ b.toInt = 0) (hb1 : ¬ b.toInt = -1) (hP : 0 ≤ how.toInt ∧ how.toInt ≤ 2) : Ct l yX10_over wsX10_over rm_X10_over G [.ref x0, .long a, .long b, .int how] [(x0, .inr (9, [.ref xs, .int cn, .ref po, .ref ro, .ref cr, .ref gp, .ref nu, .ref wk]))] (S := Int64 × Int × Int) (fun r u => r = some (.long u.1) ∧ ovR a.toInt b.toInt u.2.1 u.2.2 ∧ u.1.toInt = ovV u.2.1 u.2.2 b.toInt how.toInt) (fun _ => [(x0, .inr (9, [.ref xs, .int cn, .ref po, .ref ro, .ref cr, .ref gp, .ref nu, .ref wk]))]) (fun _ => []) := by
  refine c_intro (cc := cX10_over) (maxL := 11) (ret := (some .long)) (by decide) rfl (Nat.le_of_ble_eq_true rfl) (fun _ => by simp only [List.map_cons, List.map_nil]) ?_
  intro p e s m args below meth c Q A X hr hin E
  change J p l e rm_X10_over s m args below meth c Q G A 11 0 0 0 [(0, .ref x0), (1, .long a), (3, .long b), (5, .int how)] [] [(x0, .inr (9, [.ref xs, .int cn, .ref po, .ref ro, .ref cr, .ref gp, .ref nu, .ref wk]))]
  refine j_lload_n X dX10_over_0 rfl 2 rfl ?_
  refine j_lconst (v := 0) X dX10_over_1 rfl ?_
  refine j_lcmp X dX10_over_2 ?_
  refine j_if_ne (tgt := 16) X dX10_over_3 (by decide) (fun c_3 => ?_) (fun c_3 => ?_)
  · skip
    first | simp only [cmp_eq, cmp_lt, cmp_ge, cmp_gt, cmp_le, lT0, lT1] at c_3 | simp only [Int32.le_iff_toInt_le, Int32.lt_iff_toInt_lt, ← Int32.toInt_inj, iT0, iT1, iT2, iT3, iT4, iT5, iT6, iT7, iT8, iT9, iT10, iT11, iT12, iT13, iT14, iT15, iT16, iT19, iT20, iT31, iT32, iT42, iT64, iT200, iT318, iT319, iT1000, iTm1, iTm2] at c_3
    refine j_iload X dX10_over_16 3 rfl ?_
    refine j_callS X dX10_over_18 (c_X10_isRounding l G how) gX10_over_X10_isRounding rfl hy_X10_isRounding_S ⟨Nat.le_of_ble_eq_true rfl, Nat.le_of_ble_eq_true rfl⟩ [] rfl (by decide) rfl rfl (Nat.le_of_ble_eq_true rfl) ⟨Nat.le_of_ble_eq_true rfl, Nat.le_of_ble_eq_true rfl⟩ ?_
    rintro _ ⟨⟩ rfl
    change J p l e rm_X10_over s m args below meth c Q G A 11 0 0 21 [(0, .ref x0), (1, .long a), (3, .long b), (5, .int how)] [.int (bI (0 ≤ how.toInt ∧ how.toInt ≤ 2))] [(x0, .inr (9, [.ref xs, .int cn, .ref po, .ref ro, .ref cr, .ref gp, .ref nu, .ref wk]))]
    refine j_if_ne (tgt := 34) X dX10_over_21 (by decide) (fun c_21 => ?_) (fun c_21 => ?_)
    · skip
      rw [bI_0, Classical.not_not] at c_21
      refine j_lload_n X dX10_over_34 rfl 2 rfl ?_
      refine j_ldc2 (v := (-1)) X dX10_over_35 k_X10_over_141 ?_
      refine j_lcmp X dX10_over_38 ?_
      refine j_if_ne (tgt := 45) X dX10_over_39 (by decide) (fun c_39 => ?_) (fun c_39 => ?_)
      · skip
        first | simp only [cmp_eq, cmp_lt, cmp_ge, cmp_gt, cmp_le, lT0, lT1] at c_39 | simp only [Int32.le_iff_toInt_le, Int32.lt_iff_toInt_lt, ← Int32.toInt_inj, iT0, iT1, iT2, iT3, iT4, iT5, iT6, iT7, iT8, iT9, iT10, iT11, iT12, iT13, iT14, iT15, iT16, iT19, iT20, iT31, iT32, iT42, iT64, iT200, iT318, iT319, iT1000, iTm1, iTm2] at c_39
        rw [show (-1 : Int64).toInt = -1 from rfl] at c_39
        refine j_lload_n X dX10_over_45 rfl 1 rfl ?_
        refine j_lload_n X dX10_over_46 rfl 2 rfl ?_
        refine j_callS X dX10_over_47 (c_J9_floorDiv_f86c9 l G a b hb0 hb1) gX10_over_J9_floorDiv_f86c9 rfl hy_J9_floorDiv_f86c9_S ⟨Nat.le_of_ble_eq_true rfl, Nat.le_of_ble_eq_true rfl⟩ [] rfl (by decide) rfl rfl (Nat.le_of_ble_eq_true rfl) ⟨Nat.le_of_ble_eq_true rfl, Nat.le_of_ble_eq_true rfl⟩ ?_
        rintro _ q9 ⟨rfl, z9, hz9⟩
        change J p l e rm_X10_over s m args below meth c Q G A 11 0 0 50 [(0, .ref x0), (1, .long a), (3, .long b), (5, .int how)] [.long q9] [(x0, .inr (9, [.ref xs, .int cn, .ref po, .ref ro, .ref cr, .ref gp, .ref nu, .ref wk]))]
        refine j_lstore (L' := [(6, .long q9), (0, .ref x0), (1, .long a), (3, .long b), (5, .int how)]) X dX10_over_50 (by decide) rfl ?_
        refine j_lload_n X dX10_over_52 rfl 2 rfl ?_
        refine j_lload X dX10_over_53 0 rfl ?_
        refine j_lload_n X dX10_over_55 rfl 3 rfl ?_
        refine j_lmul X dX10_over_56 ?_
        refine j_lsub X dX10_over_57 ?_
        refine j_topl (fun x_1 ex_1 => ?_)
        refine j_lstore (L' := [(8, .long x_1), (6, .long q9), (0, .ref x0), (1, .long a), (3, .long b), (5, .int how)]) X dX10_over_58 (by decide) rfl ?_
        have hr9 : x_1.toInt = z9 := fd_rest hz9.1 (ov_rng (l_rng b) hb0 hz9) ex_1
        have hq9 := l_rng q9
        have hb9 := l_rng b
        have hz1 := hz9.2.1
        have hz2 := hz9.2.2
        have hq1 : ¬ z9 = 0 → q9.toInt < 9223372036854775807 := fun h => ov_q hz9 (l_rng a) hb0 h
        refine j_lload X dX10_over_60 0 rfl ?_
        refine j_lconst (v := 0) X dX10_over_62 rfl ?_
        refine j_lcmp X dX10_over_63 ?_
        refine j_if_eq (tgt := 72) X dX10_over_64 (by decide) (fun c_64 => ?_) (fun c_64 => ?_)
        · skip
          first | simp only [cmp_eq, cmp_lt, cmp_ge, cmp_gt, cmp_le, lT0, lT1] at c_64 | simp only [Int32.le_iff_toInt_le, Int32.lt_iff_toInt_lt, ← Int32.toInt_inj, iT0, iT1, iT2, iT3, iT4, iT5, iT6, iT7, iT8, iT9, iT10, iT11, iT12, iT13, iT14, iT15, iT16, iT19, iT20, iT31, iT32, iT42, iT64, iT200, iT318, iT319, iT1000, iTm1, iTm2] at c_64
          refine j_lload X dX10_over_72 1 rfl ?_
          exact E.2.2 74 _ q9 (q9, q9.toInt, z9) dX10_over_74 (⟨rfl, hz9, by unfold ovV; (try dsimp only); (repeat' split) <;> omega⟩) hr
        · skip
          first | simp only [cmp_eq, cmp_lt, cmp_ge, cmp_gt, cmp_le, lT0, lT1] at c_64 | simp only [Int32.le_iff_toInt_le, Int32.lt_iff_toInt_lt, ← Int32.toInt_inj, iT0, iT1, iT2, iT3, iT4, iT5, iT6, iT7, iT8, iT9, iT10, iT11, iT12, iT13, iT14, iT15, iT16, iT19, iT20, iT31, iT32, iT42, iT64, iT200, iT318, iT319, iT1000, iTm1, iTm2] at c_64
          refine j_iload X dX10_over_67 5 rfl ?_
          refine j_if_ne (tgt := 75) X dX10_over_69 (by decide) (fun c_69 => ?_) (fun c_69 => ?_)
          · skip
            first | simp only [cmp_eq, cmp_lt, cmp_ge, cmp_gt, cmp_le, lT0, lT1] at c_69 | simp only [Int32.le_iff_toInt_le, Int32.lt_iff_toInt_lt, ← Int32.toInt_inj, iT0, iT1, iT2, iT3, iT4, iT5, iT6, iT7, iT8, iT9, iT10, iT11, iT12, iT13, iT14, iT15, iT16, iT19, iT20, iT31, iT32, iT42, iT64, iT200, iT318, iT319, iT1000, iTm1, iTm2] at c_69
            refine j_lload_n X dX10_over_75 rfl 4 rfl ?_
            refine j_lconst (v := 0) X dX10_over_76 rfl ?_
            refine j_lcmp X dX10_over_77 ?_
            refine j_if_le (tgt := 99) X dX10_over_78 (by decide) (fun c_78 => ?_) (fun c_78 => ?_)
            · skip
              first | simp only [cmp_eq, cmp_lt, cmp_ge, cmp_gt, cmp_le, lT0, lT1] at c_78 | simp only [Int32.le_iff_toInt_le, Int32.lt_iff_toInt_lt, ← Int32.toInt_inj, iT0, iT1, iT2, iT3, iT4, iT5, iT6, iT7, iT8, iT9, iT10, iT11, iT12, iT13, iT14, iT15, iT16, iT19, iT20, iT31, iT32, iT42, iT64, iT200, iT318, iT319, iT1000, iTm1, iTm2] at c_78
              refine j_lload X dX10_over_99 0 rfl ?_
              refine j_lload_n X dX10_over_101 rfl 4 rfl ?_
              refine j_lload X dX10_over_102 0 rfl ?_
              refine j_lsub X dX10_over_104 ?_
              refine j_lcmp X dX10_over_105 ?_
              refine j_if_gt (tgt := 113) X dX10_over_106 (by decide) (fun c_106 => ?_) (fun c_106 => ?_)
              · skip
                first | simp only [cmp_eq, cmp_lt, cmp_ge, cmp_gt, cmp_le, lT0, lT1] at c_106 | simp only [Int32.le_iff_toInt_le, Int32.lt_iff_toInt_lt, ← Int32.toInt_inj, iT0, iT1, iT2, iT3, iT4, iT5, iT6, iT7, iT8, iT9, iT10, iT11, iT12, iT13, iT14, iT15, iT16, iT19, iT20, iT31, iT32, iT42, iT64, iT200, iT318, iT319, iT1000, iTm1, iTm2] at c_106
                rw [show (b - x_1).toInt = b.toInt - z9 from by rw [l_sub] <;> rw [hr9] <;> omega] at c_106
                refine j_iconst (v := 0) X dX10_over_113 rfl ?_
                refine j_istore (L' := [(10, .int 0), (8, .long x_1), (6, .long q9), (0, .ref x0), (1, .long a), (3, .long b), (5, .int how)]) X dX10_over_114 (by decide) rfl ?_
                refine j_iload X dX10_over_116 6 rfl ?_
                refine j_iconst (v := 1) X dX10_over_118 rfl ?_
                refine j_icmp_eq (tgt := 127) X dX10_over_119 (by decide) (fun c_119 => ?_) (fun c_119 => ?_)
                · skip
                  first | simp only [cmp_eq, cmp_lt, cmp_ge, cmp_gt, cmp_le, lT0, lT1] at c_119 | simp only [Int32.le_iff_toInt_le, Int32.lt_iff_toInt_lt, ← Int32.toInt_inj, iT0, iT1, iT2, iT3, iT4, iT5, iT6, iT7, iT8, iT9, iT10, iT11, iT12, iT13, iT14, iT15, iT16, iT19, iT20, iT31, iT32, iT42, iT64, iT200, iT318, iT319, iT1000, iTm1, iTm2] at c_119
                  refine j_lload X dX10_over_127 2 rfl ?_
                  refine j_lconst (v := 1) X dX10_over_129 rfl ?_
                  refine j_ladd X dX10_over_130 ?_
                  refine j_goto (tgt := 136) X dX10_over_131 (by decide) ?_
                  exact E.2.2 136 _ (q9 + 1) (q9 + 1, q9.toInt, z9) dX10_over_136 (⟨rfl, hz9, by dsimp only; rw [l_add] <;> rw [lT1] <;> first | (have := hq1 (by omega); unfold ovV; (try dsimp only); (repeat' split) <;> omega) | (have := hq1 (by omega); omega)⟩) hr
                · skip
                  first | simp only [cmp_eq, cmp_lt, cmp_ge, cmp_gt, cmp_le, lT0, lT1] at c_119 | simp only [Int32.le_iff_toInt_le, Int32.lt_iff_toInt_lt, ← Int32.toInt_inj, iT0, iT1, iT2, iT3, iT4, iT5, iT6, iT7, iT8, iT9, iT10, iT11, iT12, iT13, iT14, iT15, iT16, iT19, iT20, iT31, iT32, iT42, iT64, iT200, iT318, iT319, iT1000, iTm1, iTm2] at c_119
                  refine j_iload X dX10_over_122 0 rfl ?_
                  refine j_if_eq (tgt := 134) X dX10_over_124 (by decide) (fun _ => ?_) (fun c9 => absurd c9 (by decide))
                  refine j_lload X dX10_over_134 2 rfl ?_
                  exact E.2.2 136 _ q9 (q9, q9.toInt, z9) dX10_over_136 (⟨rfl, hz9, by unfold ovV; (try dsimp only); (repeat' split) <;> omega⟩) hr
              · skip
                first | simp only [cmp_eq, cmp_lt, cmp_ge, cmp_gt, cmp_le, lT0, lT1] at c_106 | simp only [Int32.le_iff_toInt_le, Int32.lt_iff_toInt_lt, ← Int32.toInt_inj, iT0, iT1, iT2, iT3, iT4, iT5, iT6, iT7, iT8, iT9, iT10, iT11, iT12, iT13, iT14, iT15, iT16, iT19, iT20, iT31, iT32, iT42, iT64, iT200, iT318, iT319, iT1000, iTm1, iTm2] at c_106
                rw [show (b - x_1).toInt = b.toInt - z9 from by rw [l_sub] <;> rw [hr9] <;> omega] at c_106
                refine j_iconst (v := 1) X dX10_over_109 rfl ?_
                refine j_goto (tgt := 114) X dX10_over_110 (by decide) ?_
                refine j_istore (L' := [(10, .int 1), (8, .long x_1), (6, .long q9), (0, .ref x0), (1, .long a), (3, .long b), (5, .int how)]) X dX10_over_114 (by decide) rfl ?_
                refine j_iload X dX10_over_116 6 rfl ?_
                refine j_iconst (v := 1) X dX10_over_118 rfl ?_
                refine j_icmp_eq (tgt := 127) X dX10_over_119 (by decide) (fun c_119 => ?_) (fun c_119 => ?_)
                · skip
                  first | simp only [cmp_eq, cmp_lt, cmp_ge, cmp_gt, cmp_le, lT0, lT1] at c_119 | simp only [Int32.le_iff_toInt_le, Int32.lt_iff_toInt_lt, ← Int32.toInt_inj, iT0, iT1, iT2, iT3, iT4, iT5, iT6, iT7, iT8, iT9, iT10, iT11, iT12, iT13, iT14, iT15, iT16, iT19, iT20, iT31, iT32, iT42, iT64, iT200, iT318, iT319, iT1000, iTm1, iTm2] at c_119
                  refine j_lload X dX10_over_127 2 rfl ?_
                  refine j_lconst (v := 1) X dX10_over_129 rfl ?_
                  refine j_ladd X dX10_over_130 ?_
                  refine j_goto (tgt := 136) X dX10_over_131 (by decide) ?_
                  exact E.2.2 136 _ (q9 + 1) (q9 + 1, q9.toInt, z9) dX10_over_136 (⟨rfl, hz9, by dsimp only; rw [l_add] <;> rw [lT1] <;> first | (have := hq1 (by omega); unfold ovV; (try dsimp only); (repeat' split) <;> omega) | (have := hq1 (by omega); omega)⟩) hr
                · skip
                  first | simp only [cmp_eq, cmp_lt, cmp_ge, cmp_gt, cmp_le, lT0, lT1] at c_119 | simp only [Int32.le_iff_toInt_le, Int32.lt_iff_toInt_lt, ← Int32.toInt_inj, iT0, iT1, iT2, iT3, iT4, iT5, iT6, iT7, iT8, iT9, iT10, iT11, iT12, iT13, iT14, iT15, iT16, iT19, iT20, iT31, iT32, iT42, iT64, iT200, iT318, iT319, iT1000, iTm1, iTm2] at c_119
                  refine j_iload X dX10_over_122 0 rfl ?_
                  refine j_if_eq (tgt := 134) X dX10_over_124 (by decide) (fun c9 => absurd c9 (by decide)) (fun _ => ?_)
                  refine j_lload X dX10_over_127 2 rfl ?_
                  refine j_lconst (v := 1) X dX10_over_129 rfl ?_
                  refine j_ladd X dX10_over_130 ?_
                  refine j_goto (tgt := 136) X dX10_over_131 (by decide) ?_
                  exact E.2.2 136 _ (q9 + 1) (q9 + 1, q9.toInt, z9) dX10_over_136 (⟨rfl, hz9, by dsimp only; rw [l_add] <;> rw [lT1] <;> first | (have := hq1 (by omega); unfold ovV; (try dsimp only); (repeat' split) <;> omega) | (have := hq1 (by omega); omega)⟩) hr
            · skip
              first | simp only [cmp_eq, cmp_lt, cmp_ge, cmp_gt, cmp_le, lT0, lT1] at c_78 | simp only [Int32.le_iff_toInt_le, Int32.lt_iff_toInt_lt, ← Int32.toInt_inj, iT0, iT1, iT2, iT3, iT4, iT5, iT6, iT7, iT8, iT9, iT10, iT11, iT12, iT13, iT14, iT15, iT16, iT19, iT20, iT31, iT32, iT42, iT64, iT200, iT318, iT319, iT1000, iTm1, iTm2] at c_78
              refine j_lload X dX10_over_81 0 rfl ?_
              refine j_lload_n X dX10_over_83 rfl 4 rfl ?_
              refine j_lload X dX10_over_84 0 rfl ?_
              refine j_lsub X dX10_over_86 ?_
              refine j_lcmp X dX10_over_87 ?_
              refine j_if_lt (tgt := 95) X dX10_over_88 (by decide) (fun c_88 => ?_) (fun c_88 => ?_)
              · skip
                first | simp only [cmp_eq, cmp_lt, cmp_ge, cmp_gt, cmp_le, lT0, lT1] at c_88 | simp only [Int32.le_iff_toInt_le, Int32.lt_iff_toInt_lt, ← Int32.toInt_inj, iT0, iT1, iT2, iT3, iT4, iT5, iT6, iT7, iT8, iT9, iT10, iT11, iT12, iT13, iT14, iT15, iT16, iT19, iT20, iT31, iT32, iT42, iT64, iT200, iT318, iT319, iT1000, iTm1, iTm2] at c_88
                rw [show (b - x_1).toInt = b.toInt - z9 from by rw [l_sub] <;> rw [hr9] <;> omega] at c_88
                refine j_iconst (v := 0) X dX10_over_95 rfl ?_
                refine j_goto (tgt := 114) X dX10_over_96 (by decide) ?_
                refine j_istore (L' := [(10, .int 0), (8, .long x_1), (6, .long q9), (0, .ref x0), (1, .long a), (3, .long b), (5, .int how)]) X dX10_over_114 (by decide) rfl ?_
                refine j_iload X dX10_over_116 6 rfl ?_
                refine j_iconst (v := 1) X dX10_over_118 rfl ?_
                refine j_icmp_eq (tgt := 127) X dX10_over_119 (by decide) (fun c_119 => ?_) (fun c_119 => ?_)
                · skip
                  first | simp only [cmp_eq, cmp_lt, cmp_ge, cmp_gt, cmp_le, lT0, lT1] at c_119 | simp only [Int32.le_iff_toInt_le, Int32.lt_iff_toInt_lt, ← Int32.toInt_inj, iT0, iT1, iT2, iT3, iT4, iT5, iT6, iT7, iT8, iT9, iT10, iT11, iT12, iT13, iT14, iT15, iT16, iT19, iT20, iT31, iT32, iT42, iT64, iT200, iT318, iT319, iT1000, iTm1, iTm2] at c_119
                  refine j_lload X dX10_over_127 2 rfl ?_
                  refine j_lconst (v := 1) X dX10_over_129 rfl ?_
                  refine j_ladd X dX10_over_130 ?_
                  refine j_goto (tgt := 136) X dX10_over_131 (by decide) ?_
                  exact E.2.2 136 _ (q9 + 1) (q9 + 1, q9.toInt, z9) dX10_over_136 (⟨rfl, hz9, by dsimp only; rw [l_add] <;> rw [lT1] <;> first | (have := hq1 (by omega); unfold ovV; (try dsimp only); (repeat' split) <;> omega) | (have := hq1 (by omega); omega)⟩) hr
                · skip
                  first | simp only [cmp_eq, cmp_lt, cmp_ge, cmp_gt, cmp_le, lT0, lT1] at c_119 | simp only [Int32.le_iff_toInt_le, Int32.lt_iff_toInt_lt, ← Int32.toInt_inj, iT0, iT1, iT2, iT3, iT4, iT5, iT6, iT7, iT8, iT9, iT10, iT11, iT12, iT13, iT14, iT15, iT16, iT19, iT20, iT31, iT32, iT42, iT64, iT200, iT318, iT319, iT1000, iTm1, iTm2] at c_119
                  refine j_iload X dX10_over_122 0 rfl ?_
                  refine j_if_eq (tgt := 134) X dX10_over_124 (by decide) (fun _ => ?_) (fun c9 => absurd c9 (by decide))
                  refine j_lload X dX10_over_134 2 rfl ?_
                  exact E.2.2 136 _ q9 (q9, q9.toInt, z9) dX10_over_136 (⟨rfl, hz9, by unfold ovV; (try dsimp only); (repeat' split) <;> omega⟩) hr
              · skip
                first | simp only [cmp_eq, cmp_lt, cmp_ge, cmp_gt, cmp_le, lT0, lT1] at c_88 | simp only [Int32.le_iff_toInt_le, Int32.lt_iff_toInt_lt, ← Int32.toInt_inj, iT0, iT1, iT2, iT3, iT4, iT5, iT6, iT7, iT8, iT9, iT10, iT11, iT12, iT13, iT14, iT15, iT16, iT19, iT20, iT31, iT32, iT42, iT64, iT200, iT318, iT319, iT1000, iTm1, iTm2] at c_88
                rw [show (b - x_1).toInt = b.toInt - z9 from by rw [l_sub] <;> rw [hr9] <;> omega] at c_88
                refine j_iconst (v := 1) X dX10_over_91 rfl ?_
                refine j_goto (tgt := 114) X dX10_over_92 (by decide) ?_
                refine j_istore (L' := [(10, .int 1), (8, .long x_1), (6, .long q9), (0, .ref x0), (1, .long a), (3, .long b), (5, .int how)]) X dX10_over_114 (by decide) rfl ?_
                refine j_iload X dX10_over_116 6 rfl ?_
                refine j_iconst (v := 1) X dX10_over_118 rfl ?_
                refine j_icmp_eq (tgt := 127) X dX10_over_119 (by decide) (fun c_119 => ?_) (fun c_119 => ?_)
                · skip
                  first | simp only [cmp_eq, cmp_lt, cmp_ge, cmp_gt, cmp_le, lT0, lT1] at c_119 | simp only [Int32.le_iff_toInt_le, Int32.lt_iff_toInt_lt, ← Int32.toInt_inj, iT0, iT1, iT2, iT3, iT4, iT5, iT6, iT7, iT8, iT9, iT10, iT11, iT12, iT13, iT14, iT15, iT16, iT19, iT20, iT31, iT32, iT42, iT64, iT200, iT318, iT319, iT1000, iTm1, iTm2] at c_119
                  refine j_lload X dX10_over_127 2 rfl ?_
                  refine j_lconst (v := 1) X dX10_over_129 rfl ?_
                  refine j_ladd X dX10_over_130 ?_
                  refine j_goto (tgt := 136) X dX10_over_131 (by decide) ?_
                  exact E.2.2 136 _ (q9 + 1) (q9 + 1, q9.toInt, z9) dX10_over_136 (⟨rfl, hz9, by dsimp only; rw [l_add] <;> rw [lT1] <;> first | (have := hq1 (by omega); unfold ovV; (try dsimp only); (repeat' split) <;> omega) | (have := hq1 (by omega); omega)⟩) hr
                · skip
                  first | simp only [cmp_eq, cmp_lt, cmp_ge, cmp_gt, cmp_le, lT0, lT1] at c_119 | simp only [Int32.le_iff_toInt_le, Int32.lt_iff_toInt_lt, ← Int32.toInt_inj, iT0, iT1, iT2, iT3, iT4, iT5, iT6, iT7, iT8, iT9, iT10, iT11, iT12, iT13, iT14, iT15, iT16, iT19, iT20, iT31, iT32, iT42, iT64, iT200, iT318, iT319, iT1000, iTm1, iTm2] at c_119
                  refine j_iload X dX10_over_122 0 rfl ?_
                  refine j_if_eq (tgt := 134) X dX10_over_124 (by decide) (fun c9 => absurd c9 (by decide)) (fun _ => ?_)
                  refine j_lload X dX10_over_127 2 rfl ?_
                  refine j_lconst (v := 1) X dX10_over_129 rfl ?_
                  refine j_ladd X dX10_over_130 ?_
                  refine j_goto (tgt := 136) X dX10_over_131 (by decide) ?_
                  exact E.2.2 136 _ (q9 + 1) (q9 + 1, q9.toInt, z9) dX10_over_136 (⟨rfl, hz9, by dsimp only; rw [l_add] <;> rw [lT1] <;> first | (have := hq1 (by omega); unfold ovV; (try dsimp only); (repeat' split) <;> omega) | (have := hq1 (by omega); omega)⟩) hr
          · skip
            first | simp only [cmp_eq, cmp_lt, cmp_ge, cmp_gt, cmp_le, lT0, lT1] at c_69 | simp only [Int32.le_iff_toInt_le, Int32.lt_iff_toInt_lt, ← Int32.toInt_inj, iT0, iT1, iT2, iT3, iT4, iT5, iT6, iT7, iT8, iT9, iT10, iT11, iT12, iT13, iT14, iT15, iT16, iT19, iT20, iT31, iT32, iT42, iT64, iT200, iT318, iT319, iT1000, iTm1, iTm2] at c_69
            refine j_lload X dX10_over_72 1 rfl ?_
            exact E.2.2 74 _ q9 (q9, q9.toInt, z9) dX10_over_74 (⟨rfl, hz9, by unfold ovV; (try dsimp only); (repeat' split) <;> omega⟩) hr
      · skip
        first | simp only [cmp_eq, cmp_lt, cmp_ge, cmp_gt, cmp_le, lT0, lT1] at c_39 | simp only [Int32.le_iff_toInt_le, Int32.lt_iff_toInt_lt, ← Int32.toInt_inj, iT0, iT1, iT2, iT3, iT4, iT5, iT6, iT7, iT8, iT9, iT10, iT11, iT12, iT13, iT14, iT15, iT16, iT19, iT20, iT31, iT32, iT42, iT64, iT200, iT318, iT319, iT1000, iTm1, iTm2] at c_39
        rw [show (-1 : Int64).toInt = -1 from rfl] at c_39
        exfalso; omega
    · skip
      rw [bI_0] at c_21
      exfalso; omega
  · skip
    first | simp only [cmp_eq, cmp_lt, cmp_ge, cmp_gt, cmp_le, lT0, lT1] at c_3 | simp only [Int32.le_iff_toInt_le, Int32.lt_iff_toInt_lt, ← Int32.toInt_inj, iT0, iT1, iT2, iT3, iT4, iT5, iT6, iT7, iT8, iT9, iT10, iT11, iT12, iT13, iT14, iT15, iT16, iT19, iT20, iT31, iT32, iT42, iT64, iT200, iT318, iT319, iT1000, iTm1, iTm2] at c_3
    exfalso; omega

theorem hy_X10_over_V : yX10_over.cls = RX10 ∧ yX10_over.cls ≠ "java/lang/invoke/MethodHandle" ∧ yX10_over.cls ≠ "java/lang/invoke/VarHandle" ∧ (parseMethodDescriptor yX10_over.desc).map (fun d => d.parameters.length) = some 3 := by decide +kernel
set_option maxHeartbeats 4000000 in
set_option maxRecDepth 100000 in
theorem c_X10_over_m (l : Launch) (G : jG) (x0 xs po ro cr gp nu wk : Nat) (cn : Int32) (a b : Int64) (how : Int32) (hb1 : b.toInt = -1) (hP : 0 ≤ how.toInt ∧ how.toInt ≤ 2) : Ct l yX10_over wsX10_over rm_X10_over G [.ref x0, .long a, .long b, .int how] [(x0, .inr (9, [.ref xs, .int cn, .ref po, .ref ro, .ref cr, .ref gp, .ref nu, .ref wk]))] (S := Unit) (fun r _ => r = some (.long (-a))) (fun _ => [(x0, .inr (9, [.ref xs, .int cn, .ref po, .ref ro, .ref cr, .ref gp, .ref nu, .ref wk]))]) (fun _ => []) := by
  refine c_intro (cc := cX10_over) (maxL := 11) (ret := (some .long)) (by decide) rfl (Nat.le_of_ble_eq_true rfl) (fun _ => by simp only [List.map_cons, List.map_nil]) ?_
  intro p e s m args below meth c Q A X hr hin E
  change J p l e rm_X10_over s m args below meth c Q G A 11 0 0 0 [(0, .ref x0), (1, .long a), (3, .long b), (5, .int how)] [] [(x0, .inr (9, [.ref xs, .int cn, .ref po, .ref ro, .ref cr, .ref gp, .ref nu, .ref wk]))]
  refine j_lload_n X dX10_over_0 rfl 2 rfl ?_
  refine j_lconst (v := 0) X dX10_over_1 rfl ?_
  refine j_lcmp X dX10_over_2 ?_
  refine j_if_ne (tgt := 16) X dX10_over_3 (by decide) (fun c_3 => ?_) (fun c_3 => ?_)
  · skip
    first | simp only [cmp_eq, cmp_lt, cmp_ge, cmp_gt, cmp_le, lT0, lT1] at c_3 | simp only [Int32.le_iff_toInt_le, Int32.lt_iff_toInt_lt, ← Int32.toInt_inj, iT0, iT1, iT2, iT3, iT4, iT5, iT6, iT7, iT8, iT9, iT10, iT11, iT12, iT13, iT14, iT15, iT16, iT19, iT20, iT31, iT32, iT42, iT64, iT200, iT318, iT319, iT1000, iTm1, iTm2] at c_3
    refine j_iload X dX10_over_16 3 rfl ?_
    refine j_callS X dX10_over_18 (c_X10_isRounding l G how) gX10_over_X10_isRounding rfl hy_X10_isRounding_S ⟨Nat.le_of_ble_eq_true rfl, Nat.le_of_ble_eq_true rfl⟩ [] rfl (by decide) rfl rfl (Nat.le_of_ble_eq_true rfl) ⟨Nat.le_of_ble_eq_true rfl, Nat.le_of_ble_eq_true rfl⟩ ?_
    rintro _ ⟨⟩ rfl
    change J p l e rm_X10_over s m args below meth c Q G A 11 0 0 21 [(0, .ref x0), (1, .long a), (3, .long b), (5, .int how)] [.int (bI (0 ≤ how.toInt ∧ how.toInt ≤ 2))] [(x0, .inr (9, [.ref xs, .int cn, .ref po, .ref ro, .ref cr, .ref gp, .ref nu, .ref wk]))]
    refine j_if_ne (tgt := 34) X dX10_over_21 (by decide) (fun c_21 => ?_) (fun c_21 => ?_)
    · skip
      rw [bI_0, Classical.not_not] at c_21
      refine j_lload_n X dX10_over_34 rfl 2 rfl ?_
      refine j_ldc2 (v := (-1)) X dX10_over_35 k_X10_over_141 ?_
      refine j_lcmp X dX10_over_38 ?_
      refine j_if_ne (tgt := 45) X dX10_over_39 (by decide) (fun c_39 => ?_) (fun c_39 => ?_)
      · skip
        first | simp only [cmp_eq, cmp_lt, cmp_ge, cmp_gt, cmp_le, lT0, lT1] at c_39 | simp only [Int32.le_iff_toInt_le, Int32.lt_iff_toInt_lt, ← Int32.toInt_inj, iT0, iT1, iT2, iT3, iT4, iT5, iT6, iT7, iT8, iT9, iT10, iT11, iT12, iT13, iT14, iT15, iT16, iT19, iT20, iT31, iT32, iT42, iT64, iT200, iT318, iT319, iT1000, iTm1, iTm2] at c_39
        rw [show (-1 : Int64).toInt = -1 from rfl] at c_39
        exfalso; omega
      · skip
        first | simp only [cmp_eq, cmp_lt, cmp_ge, cmp_gt, cmp_le, lT0, lT1] at c_39 | simp only [Int32.le_iff_toInt_le, Int32.lt_iff_toInt_lt, ← Int32.toInt_inj, iT0, iT1, iT2, iT3, iT4, iT5, iT6, iT7, iT8, iT9, iT10, iT11, iT12, iT13, iT14, iT15, iT16, iT19, iT20, iT31, iT32, iT42, iT64, iT200, iT318, iT319, iT1000, iTm1, iTm2] at c_39
        rw [show (-1 : Int64).toInt = -1 from rfl] at c_39
        refine j_lload_n X dX10_over_42 rfl 1 rfl ?_
        refine j_lneg X dX10_over_43 ?_
        exact E.2.2 44 _ (-a) () dX10_over_44 rfl hr
    · skip
      rw [bI_0] at c_21
      exfalso; omega
  · skip
    first | simp only [cmp_eq, cmp_lt, cmp_ge, cmp_gt, cmp_le, lT0, lT1] at c_3 | simp only [Int32.le_iff_toInt_le, Int32.lt_iff_toInt_lt, ← Int32.toInt_inj, iT0, iT1, iT2, iT3, iT4, iT5, iT6, iT7, iT8, iT9, iT10, iT11, iT12, iT13, iT14, iT15, iT16, iT19, iT20, iT31, iT32, iT42, iT64, iT200, iT318, iT319, iT1000, iTm1, iTm2] at c_3
    exfalso; omega

abbrev rm_X10_over_1 : Room := { frames := 6, cells := 1, slots := 6, locals := 90 }
theorem ta_X10_over_197 : (Cond.classLink RX10 197 eD ∈ wsX10_over) ∧ (Cond.initialized eD ∈ wsX10_over) := by decide +kernel
theorem tb_X10_over_201 : ∀ w ∈ (vx_atS RX10 201 eD ["java/lang/RuntimeException", "java/lang/Exception"]).filter goodWord, w ∈ wsX10_over := fun w h => List.mem_cons_of_mem _ (List.mem_append_left _ (List.mem_append_right _ h))
theorem tc_201 : ∀ w ∈ (vx_atS RX10 201 eD ["java/lang/RuntimeException", "java/lang/Exception"]).filter (fun w => !goodWord w), w ∈ Cond.castable eD eD :: exD.map Cond.declares := by decide +kernel
theorem td_201 : ∀ w ∈ Cond.classLink RX10 197 eD :: Cond.initialized eD :: vx_atS RX10 201 eD ["java/lang/RuntimeException", "java/lang/Exception"], vx_ot w = true := by decide +kernel
set_option maxHeartbeats 4000000 in
set_option maxRecDepth 100000 in
theorem c_X10_over_1 (l : Launch) (G : jG) (hst : l.stackTraces = false) (x0 xs po ro cr gp nu wk : Nat) (cn : Int32) (a b : Int64) (how : Int32) (hP : b.toInt = 0) : CtX l yX10_over wsX10_over rm_X10_over_1 G [.ref x0, .long a, .long b, .int how] [(x0, .inr (9, [.ref xs, .int cn, .ref po, .ref ro, .ref cr, .ref gp, .ref nu, .ref wk]))] eD (S := Unit) (fun _ => True) (fun _ => [(x0, .inr (9, [.ref xs, .int cn, .ref po, .ref ro, .ref cr, .ref gp, .ref nu, .ref wk]))]) := by
  refine c_introX (cc := cX10_over) (maxL := 11) (ret := (some .long)) (by decide) rfl (Nat.le_of_ble_eq_true rfl) (fun _ => by simp only [List.map_cons, List.map_nil]) ?_
  intro p e s m args below meth c Q A hQ X XF hlk htb
  change J p l e rm_X10_over_1 s m args below meth c Q G A 11 0 0 0 [(0, .ref x0), (1, .long a), (3, .long b), (5, .int how)] [] [(x0, .inr (9, [.ref xs, .int cn, .ref po, .ref ro, .ref cr, .ref gp, .ref nu, .ref wk]))]
  refine j_lload_n X dX10_over_0 rfl 2 rfl ?_
  refine j_lconst (v := 0) X dX10_over_1 rfl ?_
  refine j_lcmp X dX10_over_2 ?_
  refine j_if_ne (tgt := 16) X dX10_over_3 (by decide) (fun c_3 => ?_) (fun c_3 => ?_)
  · skip
    first | simp only [cmp_eq, cmp_lt, cmp_ge, cmp_gt, cmp_le, lT0, lT1] at c_3 | simp only [Int32.le_iff_toInt_le, Int32.lt_iff_toInt_lt, ← Int32.toInt_inj, iT0, iT1, iT2, iT3, iT4, iT5, iT6, iT7, iT8, iT9, iT10, iT11, iT12, iT13, iT14, iT15, iT16, iT19, iT20, iT31, iT32, iT42, iT64, iT200, iT318, iT319, iT1000, iTm1, iTm2] at c_3
    exfalso; omega
  · skip
    first | simp only [cmp_eq, cmp_lt, cmp_ge, cmp_gt, cmp_le, lT0, lT1] at c_3 | simp only [Int32.le_iff_toInt_le, Int32.lt_iff_toInt_lt, ← Int32.toInt_inj, iT0, iT1, iT2, iT3, iT4, iT5, iT6, iT7, iT8, iT9, iT10, iT11, iT12, iT13, iT14, iT15, iT16, iT19, iT20, iT31, iT32, iT42, iT64, iT200, iT318, iT319, iT1000, iTm1, iTm2] at c_3
    subst hQ
    exact j_throwS (cls := eD) (text := "divided by 0") (names := ["java/lang/RuntimeException", "java/lang/Exception"]) X rfl hst XF hlk htb dX10_over_6 dX10_over_9 dX10_over_10 dX10_over_12 dX10_over_15 (by decide +kernel) (by decide +kernel) ta_X10_over_197.1 ta_X10_over_197.2 (by decide +kernel) (by decide +kernel) tb_X10_over_201 tc_201 td_201 (Nat.le_of_ble_eq_true rfl) (Nat.le_of_ble_eq_true rfl) (Nat.le_of_ble_eq_true rfl) (Nat.le_of_ble_eq_true rfl) () trivial rfl

abbrev rm_X10_over_2 : Room := { frames := 6, cells := 1, slots := 6, locals := 90 }
theorem ta_X10_over_109 : (Cond.classLink RX10 109 eB ∈ wsX10_over) ∧ (Cond.initialized eB ∈ wsX10_over) := by decide +kernel
theorem tb_X10_over_113 : ∀ w ∈ (vx_atS RX10 113 eB ["java/lang/RuntimeException", "java/lang/Exception"]).filter goodWord, w ∈ wsX10_over := fun w h => List.mem_cons_of_mem _ (List.mem_append_right _ h)
theorem tc_113 : ∀ w ∈ (vx_atS RX10 113 eB ["java/lang/RuntimeException", "java/lang/Exception"]).filter (fun w => !goodWord w), w ∈ Cond.castable eB eB :: exD.map Cond.declares := by decide +kernel
theorem td_113 : ∀ w ∈ Cond.classLink RX10 109 eB :: Cond.initialized eB :: vx_atS RX10 113 eB ["java/lang/RuntimeException", "java/lang/Exception"], vx_ot w = true := by decide +kernel
set_option maxHeartbeats 4000000 in
set_option maxRecDepth 100000 in
theorem c_X10_over_2 (l : Launch) (G : jG) (hst : l.stackTraces = false) (x0 xs po ro cr gp nu wk : Nat) (cn : Int32) (a b : Int64) (how : Int32) (hb : ¬ b.toInt = 0) (hP : ¬ (0 ≤ how.toInt ∧ how.toInt ≤ 2)) : CtX l yX10_over wsX10_over rm_X10_over_2 G [.ref x0, .long a, .long b, .int how] [(x0, .inr (9, [.ref xs, .int cn, .ref po, .ref ro, .ref cr, .ref gp, .ref nu, .ref wk]))] eB (S := Unit) (fun _ => True) (fun _ => [(x0, .inr (9, [.ref xs, .int cn, .ref po, .ref ro, .ref cr, .ref gp, .ref nu, .ref wk]))]) := by
  refine c_introX (cc := cX10_over) (maxL := 11) (ret := (some .long)) (by decide) rfl (Nat.le_of_ble_eq_true rfl) (fun _ => by simp only [List.map_cons, List.map_nil]) ?_
  intro p e s m args below meth c Q A hQ X XF hlk htb
  change J p l e rm_X10_over_2 s m args below meth c Q G A 11 0 0 0 [(0, .ref x0), (1, .long a), (3, .long b), (5, .int how)] [] [(x0, .inr (9, [.ref xs, .int cn, .ref po, .ref ro, .ref cr, .ref gp, .ref nu, .ref wk]))]
  refine j_lload_n X dX10_over_0 rfl 2 rfl ?_
  refine j_lconst (v := 0) X dX10_over_1 rfl ?_
  refine j_lcmp X dX10_over_2 ?_
  refine j_if_ne (tgt := 16) X dX10_over_3 (by decide) (fun c_3 => ?_) (fun c_3 => ?_)
  · skip
    first | simp only [cmp_eq, cmp_lt, cmp_ge, cmp_gt, cmp_le, lT0, lT1] at c_3 | simp only [Int32.le_iff_toInt_le, Int32.lt_iff_toInt_lt, ← Int32.toInt_inj, iT0, iT1, iT2, iT3, iT4, iT5, iT6, iT7, iT8, iT9, iT10, iT11, iT12, iT13, iT14, iT15, iT16, iT19, iT20, iT31, iT32, iT42, iT64, iT200, iT318, iT319, iT1000, iTm1, iTm2] at c_3
    refine j_iload X dX10_over_16 3 rfl ?_
    refine j_callS X dX10_over_18 (c_X10_isRounding l G how) gX10_over_X10_isRounding rfl hy_X10_isRounding_S ⟨Nat.le_of_ble_eq_true rfl, Nat.le_of_ble_eq_true rfl⟩ [] rfl (by decide) rfl rfl (Nat.le_of_ble_eq_true rfl) ⟨Nat.le_of_ble_eq_true rfl, Nat.le_of_ble_eq_true rfl⟩ ?_
    rintro _ ⟨⟩ rfl
    change J p l e rm_X10_over_2 s m args below meth c Q G A 11 0 0 21 [(0, .ref x0), (1, .long a), (3, .long b), (5, .int how)] [.int (bI (0 ≤ how.toInt ∧ how.toInt ≤ 2))] [(x0, .inr (9, [.ref xs, .int cn, .ref po, .ref ro, .ref cr, .ref gp, .ref nu, .ref wk]))]
    refine j_if_ne (tgt := 34) X dX10_over_21 (by decide) (fun c_21 => ?_) (fun c_21 => ?_)
    · skip
      rw [bI_0, Classical.not_not] at c_21
      exfalso; omega
    · skip
      rw [bI_0] at c_21
      subst hQ
      exact j_throwS (cls := eB) (text := "no such way of rounding") (names := ["java/lang/RuntimeException", "java/lang/Exception"]) X rfl hst XF hlk htb dX10_over_24 dX10_over_27 dX10_over_28 dX10_over_30 dX10_over_33 (by decide +kernel) (by decide +kernel) ta_X10_over_109.1 ta_X10_over_109.2 (by decide +kernel) (by decide +kernel) tb_X10_over_113 tc_113 td_113 (Nat.le_of_ble_eq_true rfl) (Nat.le_of_ble_eq_true rfl) (Nat.le_of_ble_eq_true rfl) (Nat.le_of_ble_eq_true rfl) () trivial rfl
  · skip
    first | simp only [cmp_eq, cmp_lt, cmp_ge, cmp_gt, cmp_le, lT0, lT1] at c_3 | simp only [Int32.le_iff_toInt_le, Int32.lt_iff_toInt_lt, ← Int32.toInt_inj, iT0, iT1, iT2, iT3, iT4, iT5, iT6, iT7, iT8, iT9, iT10, iT11, iT12, iT13, iT14, iT15, iT16, iT19, iT20, iT31, iT32, iT42, iT64, iT200, iT318, iT319, iT1000, iTm1, iTm2] at c_3
    exfalso; omega

abbrev rm_X10_root : Room := { frames := 1, cells := 0, slots := 0, locals := 26 }
set_option maxHeartbeats 4000000 in
set_option maxRecDepth 100000 in
theorem c_X10_root_0 (l : Launch) (G : jG) (x0 xs po ro cr gp nu wk : Nat) (cn : Int32) (v : Int64) (how : Int32) (hP : 0 ≤ how.toInt ∧ how.toInt ≤ 2) (hv : 0 ≤ v.toInt) : Ct l yX10_root wsX10_root rm_X10_root G [.ref x0, .long v, .int how] [(x0, .inr (9, [.ref xs, .int cn, .ref po, .ref ro, .ref cr, .ref gp, .ref nu, .ref wk]))] (S := Int64 × Int) (fun r u => r = some (.long u.1) ∧ rtR v.toInt u.2 ∧ u.1.toInt = rtV v.toInt u.2 how.toInt) (fun _ => [(x0, .inr (9, [.ref xs, .int cn, .ref po, .ref ro, .ref cr, .ref gp, .ref nu, .ref wk]))]) (fun _ => []) := by
  refine c_intro (cc := cX10_root) (maxL := 8) (ret := (some .long)) (by decide) rfl (Nat.le_of_ble_eq_true rfl) (fun _ => by simp only [List.map_cons, List.map_nil]) ?_
  intro p e s m args below meth c Q A X hr hin E
  change J p l e rm_X10_root s m args below meth c Q G A 8 0 0 0 [(0, .ref x0), (1, .long v), (3, .int how)] [] [(x0, .inr (9, [.ref xs, .int cn, .ref po, .ref ro, .ref cr, .ref gp, .ref nu, .ref wk]))]
  refine j_iload_n X dX10_root_0 rfl 2 rfl ?_
  refine j_callS X dX10_root_1 (c_X10_isRounding l G how) gX10_root_X10_isRounding rfl hy_X10_isRounding_S ⟨Nat.le_of_ble_eq_true rfl, Nat.le_of_ble_eq_true rfl⟩ [] rfl (by decide) rfl rfl (Nat.le_of_ble_eq_true rfl) ⟨Nat.le_of_ble_eq_true rfl, Nat.le_of_ble_eq_true rfl⟩ ?_
  rintro _ ⟨⟩ rfl
  change J p l e rm_X10_root s m args below meth c Q G A 8 0 0 4 [(0, .ref x0), (1, .long v), (3, .int how)] [.int (bI (0 ≤ how.toInt ∧ how.toInt ≤ 2))] [(x0, .inr (9, [.ref xs, .int cn, .ref po, .ref ro, .ref cr, .ref gp, .ref nu, .ref wk]))]
  refine j_if_ne (tgt := 17) X dX10_root_4 (by decide) (fun c_4 => ?_) (fun c_4 => ?_)
  · skip
    rw [bI_0, Classical.not_not] at c_4
    refine j_lload_n X dX10_root_17 rfl 1 rfl ?_
    refine j_lconst (v := 0) X dX10_root_18 rfl ?_
    refine j_lcmp X dX10_root_19 ?_
    refine j_if_ge (tgt := 33) X dX10_root_20 (by decide) (fun c_20 => ?_) (fun c_20 => ?_)
    · skip
      first | simp only [cmp_eq, cmp_lt, cmp_ge, cmp_gt, cmp_le, lT0, lT1] at c_20 | simp only [Int32.le_iff_toInt_le, Int32.lt_iff_toInt_lt, ← Int32.toInt_inj, iT0, iT1, iT2, iT3, iT4, iT5, iT6, iT7, iT8, iT9, iT10, iT11, iT12, iT13, iT14, iT15, iT16, iT19, iT20, iT31, iT32, iT42, iT64, iT200, iT318, iT319, iT1000, iTm1, iTm2] at c_20
      refine j_lload_n X dX10_root_33 rfl 1 rfl ?_
      refine j_callS X dX10_root_34 (c_X10_wholeRoot l G v hv) gX10_root_X10_wholeRoot rfl hy_X10_wholeRoot_S ⟨Nat.le_of_ble_eq_true rfl, Nat.le_of_ble_eq_true rfl⟩ [] rfl (by decide) rfl rfl (Nat.le_of_ble_eq_true rfl) ⟨Nat.le_of_ble_eq_true rfl, Nat.le_of_ble_eq_true rfl⟩ ?_
      rintro _ h_1 ⟨rfl, hrh_1, hbh_1⟩
      change J p l e rm_X10_root s m args below meth c Q G A 8 0 0 37 [(0, .ref x0), (1, .long v), (3, .int how)] [.long h_1] [(x0, .inr (9, [.ref xs, .int cn, .ref po, .ref ro, .ref cr, .ref gp, .ref nu, .ref wk]))]
      refine j_lstore (L' := [(4, .long h_1), (0, .ref x0), (1, .long v), (3, .int how)]) X dX10_root_37 (by decide) rfl ?_
      refine j_lload_n X dX10_root_39 rfl 2 rfl ?_
      refine j_lload X dX10_root_40 0 rfl ?_
      refine j_lload X dX10_root_42 0 rfl ?_
      refine j_lmul X dX10_root_44 ?_
      refine j_lsub X dX10_root_45 ?_
      refine j_topl (fun x_2 ex_2 => ?_)
      refine j_lstore (L' := [(6, .long x_2), (4, .long h_1), (0, .ref x0), (1, .long v), (3, .int how)]) X dX10_root_46 (by decide) rfl ?_
      have hm9 : (h_1 * h_1).toInt = h_1.toInt * h_1.toInt := wr_m ⟨hrh_1.1, hbh_1⟩ rfl
      have hv9 := l_rng v
      have hs9 := sq_nn h_1.toInt
      have hl9 := hrh_1.2.1
      have hn9 := hrh_1.1
      have hr9 : x_2.toInt = v.toInt - h_1.toInt * h_1.toInt := by rw [ex_2, l_sub] <;> rw [hm9] <;> omega
      refine j_lload X dX10_root_48 0 rfl ?_
      refine j_lconst (v := 0) X dX10_root_50 rfl ?_
      refine j_lcmp X dX10_root_51 ?_
      refine j_if_eq (tgt := 59) X dX10_root_52 (by decide) (fun c_52 => ?_) (fun c_52 => ?_)
      · skip
        first | simp only [cmp_eq, cmp_lt, cmp_ge, cmp_gt, cmp_le, lT0, lT1] at c_52 | simp only [Int32.le_iff_toInt_le, Int32.lt_iff_toInt_lt, ← Int32.toInt_inj, iT0, iT1, iT2, iT3, iT4, iT5, iT6, iT7, iT8, iT9, iT10, iT11, iT12, iT13, iT14, iT15, iT16, iT19, iT20, iT31, iT32, iT42, iT64, iT200, iT318, iT319, iT1000, iTm1, iTm2] at c_52
        rw [hr9] at c_52
        refine j_lload X dX10_root_59 1 rfl ?_
        exact E.2.2 61 _ h_1 (h_1, h_1.toInt) dX10_root_61 (⟨rfl, hrh_1, by unfold rtV; (try dsimp only); (repeat' split) <;> omega⟩) hr
      · skip
        first | simp only [cmp_eq, cmp_lt, cmp_ge, cmp_gt, cmp_le, lT0, lT1] at c_52 | simp only [Int32.le_iff_toInt_le, Int32.lt_iff_toInt_lt, ← Int32.toInt_inj, iT0, iT1, iT2, iT3, iT4, iT5, iT6, iT7, iT8, iT9, iT10, iT11, iT12, iT13, iT14, iT15, iT16, iT19, iT20, iT31, iT32, iT42, iT64, iT200, iT318, iT319, iT1000, iTm1, iTm2] at c_52
        rw [hr9] at c_52
        refine j_iload_n X dX10_root_55 rfl 4 rfl ?_
        refine j_if_ne (tgt := 62) X dX10_root_56 (by decide) (fun c_56 => ?_) (fun c_56 => ?_)
        · skip
          first | simp only [cmp_eq, cmp_lt, cmp_ge, cmp_gt, cmp_le, lT0, lT1] at c_56 | simp only [Int32.le_iff_toInt_le, Int32.lt_iff_toInt_lt, ← Int32.toInt_inj, iT0, iT1, iT2, iT3, iT4, iT5, iT6, iT7, iT8, iT9, iT10, iT11, iT12, iT13, iT14, iT15, iT16, iT19, iT20, iT31, iT32, iT42, iT64, iT200, iT318, iT319, iT1000, iTm1, iTm2] at c_56
          refine j_iload_n X dX10_root_62 rfl 4 rfl ?_
          refine j_iconst (v := 1) X dX10_root_63 rfl ?_
          refine j_icmp_eq (tgt := 75) X dX10_root_64 (by decide) (fun c_64 => ?_) (fun c_64 => ?_)
          · skip
            first | simp only [cmp_eq, cmp_lt, cmp_ge, cmp_gt, cmp_le, lT0, lT1] at c_64 | simp only [Int32.le_iff_toInt_le, Int32.lt_iff_toInt_lt, ← Int32.toInt_inj, iT0, iT1, iT2, iT3, iT4, iT5, iT6, iT7, iT8, iT9, iT10, iT11, iT12, iT13, iT14, iT15, iT16, iT19, iT20, iT31, iT32, iT42, iT64, iT200, iT318, iT319, iT1000, iTm1, iTm2] at c_64
            refine j_lload X dX10_root_75 1 rfl ?_
            refine j_lconst (v := 1) X dX10_root_77 rfl ?_
            refine j_ladd X dX10_root_78 ?_
            refine j_goto (tgt := 84) X dX10_root_79 (by decide) ?_
            exact E.2.2 84 _ (h_1 + 1) (h_1 + 1, h_1.toInt) dX10_root_84 (⟨rfl, hrh_1, by dsimp only; rw [l_add] <;> rw [lT1] <;> first | (unfold rtV; (try dsimp only); (repeat' split) <;> omega) | omega⟩) hr
          · skip
            first | simp only [cmp_eq, cmp_lt, cmp_ge, cmp_gt, cmp_le, lT0, lT1] at c_64 | simp only [Int32.le_iff_toInt_le, Int32.lt_iff_toInt_lt, ← Int32.toInt_inj, iT0, iT1, iT2, iT3, iT4, iT5, iT6, iT7, iT8, iT9, iT10, iT11, iT12, iT13, iT14, iT15, iT16, iT19, iT20, iT31, iT32, iT42, iT64, iT200, iT318, iT319, iT1000, iTm1, iTm2] at c_64
            refine j_lload X dX10_root_67 0 rfl ?_
            refine j_lload X dX10_root_69 1 rfl ?_
            refine j_lcmp X dX10_root_71 ?_
            refine j_if_le (tgt := 82) X dX10_root_72 (by decide) (fun c_72 => ?_) (fun c_72 => ?_)
            · skip
              first | simp only [cmp_eq, cmp_lt, cmp_ge, cmp_gt, cmp_le, lT0, lT1] at c_72 | simp only [Int32.le_iff_toInt_le, Int32.lt_iff_toInt_lt, ← Int32.toInt_inj, iT0, iT1, iT2, iT3, iT4, iT5, iT6, iT7, iT8, iT9, iT10, iT11, iT12, iT13, iT14, iT15, iT16, iT19, iT20, iT31, iT32, iT42, iT64, iT200, iT318, iT319, iT1000, iTm1, iTm2] at c_72
              rw [hr9] at c_72
              refine j_lload X dX10_root_82 1 rfl ?_
              exact E.2.2 84 _ h_1 (h_1, h_1.toInt) dX10_root_84 (⟨rfl, hrh_1, by unfold rtV; (try dsimp only); (repeat' split) <;> omega⟩) hr
            · skip
              first | simp only [cmp_eq, cmp_lt, cmp_ge, cmp_gt, cmp_le, lT0, lT1] at c_72 | simp only [Int32.le_iff_toInt_le, Int32.lt_iff_toInt_lt, ← Int32.toInt_inj, iT0, iT1, iT2, iT3, iT4, iT5, iT6, iT7, iT8, iT9, iT10, iT11, iT12, iT13, iT14, iT15, iT16, iT19, iT20, iT31, iT32, iT42, iT64, iT200, iT318, iT319, iT1000, iTm1, iTm2] at c_72
              rw [hr9] at c_72
              refine j_lload X dX10_root_75 1 rfl ?_
              refine j_lconst (v := 1) X dX10_root_77 rfl ?_
              refine j_ladd X dX10_root_78 ?_
              refine j_goto (tgt := 84) X dX10_root_79 (by decide) ?_
              exact E.2.2 84 _ (h_1 + 1) (h_1 + 1, h_1.toInt) dX10_root_84 (⟨rfl, hrh_1, by dsimp only; rw [l_add] <;> rw [lT1] <;> first | (unfold rtV; (try dsimp only); (repeat' split) <;> omega) | omega⟩) hr
        · skip
          first | simp only [cmp_eq, cmp_lt, cmp_ge, cmp_gt, cmp_le, lT0, lT1] at c_56 | simp only [Int32.le_iff_toInt_le, Int32.lt_iff_toInt_lt, ← Int32.toInt_inj, iT0, iT1, iT2, iT3, iT4, iT5, iT6, iT7, iT8, iT9, iT10, iT11, iT12, iT13, iT14, iT15, iT16, iT19, iT20, iT31, iT32, iT42, iT64, iT200, iT318, iT319, iT1000, iTm1, iTm2] at c_56
          refine j_lload X dX10_root_59 1 rfl ?_
          exact E.2.2 61 _ h_1 (h_1, h_1.toInt) dX10_root_61 (⟨rfl, hrh_1, by unfold rtV; (try dsimp only); (repeat' split) <;> omega⟩) hr
    · skip
      first | simp only [cmp_eq, cmp_lt, cmp_ge, cmp_gt, cmp_le, lT0, lT1] at c_20 | simp only [Int32.le_iff_toInt_le, Int32.lt_iff_toInt_lt, ← Int32.toInt_inj, iT0, iT1, iT2, iT3, iT4, iT5, iT6, iT7, iT8, iT9, iT10, iT11, iT12, iT13, iT14, iT15, iT16, iT19, iT20, iT31, iT32, iT42, iT64, iT200, iT318, iT319, iT1000, iTm1, iTm2] at c_20
      exfalso; omega
  · skip
    rw [bI_0] at c_4
    exfalso; omega

theorem hy_X10_root_V : yX10_root.cls = RX10 ∧ yX10_root.cls ≠ "java/lang/invoke/MethodHandle" ∧ yX10_root.cls ≠ "java/lang/invoke/VarHandle" ∧ (parseMethodDescriptor yX10_root.desc).map (fun d => d.parameters.length) = some 2 := by decide +kernel
abbrev rm_X10_root_1 : Room := { frames := 6, cells := 1, slots := 6, locals := 90 }
theorem ta_X10_root_109 : (Cond.classLink RX10 109 eB ∈ wsX10_root) ∧ (Cond.initialized eB ∈ wsX10_root) := by decide +kernel
theorem tb_X10_root_113 : ∀ w ∈ (vx_atS RX10 113 eB ["java/lang/RuntimeException", "java/lang/Exception"]).filter goodWord, w ∈ wsX10_root := fun w h => List.mem_cons_of_mem _ (List.mem_append_left _ (List.mem_append_right _ h))
set_option maxHeartbeats 4000000 in
set_option maxRecDepth 100000 in
theorem c_X10_root_1 (l : Launch) (G : jG) (hst : l.stackTraces = false) (x0 xs po ro cr gp nu wk : Nat) (cn : Int32) (v : Int64) (how : Int32) (hP : ¬ (0 ≤ how.toInt ∧ how.toInt ≤ 2)) : CtX l yX10_root wsX10_root rm_X10_root_1 G [.ref x0, .long v, .int how] [(x0, .inr (9, [.ref xs, .int cn, .ref po, .ref ro, .ref cr, .ref gp, .ref nu, .ref wk]))] eB (S := Unit) (fun _ => True) (fun _ => [(x0, .inr (9, [.ref xs, .int cn, .ref po, .ref ro, .ref cr, .ref gp, .ref nu, .ref wk]))]) := by
  refine c_introX (cc := cX10_root) (maxL := 8) (ret := (some .long)) (by decide) rfl (Nat.le_of_ble_eq_true rfl) (fun _ => by simp only [List.map_cons, List.map_nil]) ?_
  intro p e s m args below meth c Q A hQ X XF hlk htb
  change J p l e rm_X10_root_1 s m args below meth c Q G A 8 0 0 0 [(0, .ref x0), (1, .long v), (3, .int how)] [] [(x0, .inr (9, [.ref xs, .int cn, .ref po, .ref ro, .ref cr, .ref gp, .ref nu, .ref wk]))]
  refine j_iload_n X dX10_root_0 rfl 2 rfl ?_
  refine j_callS X dX10_root_1 (c_X10_isRounding l G how) gX10_root_X10_isRounding rfl hy_X10_isRounding_S ⟨Nat.le_of_ble_eq_true rfl, Nat.le_of_ble_eq_true rfl⟩ [] rfl (by decide) rfl rfl (Nat.le_of_ble_eq_true rfl) ⟨Nat.le_of_ble_eq_true rfl, Nat.le_of_ble_eq_true rfl⟩ ?_
  rintro _ ⟨⟩ rfl
  change J p l e rm_X10_root_1 s m args below meth c Q G A 8 0 0 4 [(0, .ref x0), (1, .long v), (3, .int how)] [.int (bI (0 ≤ how.toInt ∧ how.toInt ≤ 2))] [(x0, .inr (9, [.ref xs, .int cn, .ref po, .ref ro, .ref cr, .ref gp, .ref nu, .ref wk]))]
  refine j_if_ne (tgt := 17) X dX10_root_4 (by decide) (fun c_4 => ?_) (fun c_4 => ?_)
  · skip
    rw [bI_0, Classical.not_not] at c_4
    exfalso; omega
  · skip
    rw [bI_0] at c_4
    subst hQ
    exact j_throwS (cls := eB) (text := "no such way of rounding") (names := ["java/lang/RuntimeException", "java/lang/Exception"]) X rfl hst XF hlk htb dX10_root_7 dX10_root_10 dX10_root_11 dX10_root_13 dX10_root_16 (by decide +kernel) (by decide +kernel) ta_X10_root_109.1 ta_X10_root_109.2 (by decide +kernel) (by decide +kernel) tb_X10_root_113 tc_113 td_113 (Nat.le_of_ble_eq_true rfl) (Nat.le_of_ble_eq_true rfl) (Nat.le_of_ble_eq_true rfl) (Nat.le_of_ble_eq_true rfl) () trivial rfl

abbrev rm_X10_root_2 : Room := { frames := 6, cells := 1, slots := 6, locals := 90 }
theorem ta_X10_root_65 : (Cond.classLink RX10 65 eA ∈ wsX10_root) ∧ (Cond.initialized eA ∈ wsX10_root) := by decide +kernel
theorem tb_X10_root_69 : ∀ w ∈ (vx_atS RX10 69 eA ["java/lang/RuntimeException", "java/lang/Exception"]).filter goodWord, w ∈ wsX10_root := fun w h => List.mem_cons_of_mem _ (List.mem_append_right _ h)
set_option maxHeartbeats 4000000 in
set_option maxRecDepth 100000 in
theorem c_X10_root_2 (l : Launch) (G : jG) (hst : l.stackTraces = false) (x0 xs po ro cr gp nu wk : Nat) (cn : Int32) (v : Int64) (how : Int32) (hP : 0 ≤ how.toInt ∧ how.toInt ≤ 2) (hv : v.toInt < 0) : CtX l yX10_root wsX10_root rm_X10_root_2 G [.ref x0, .long v, .int how] [(x0, .inr (9, [.ref xs, .int cn, .ref po, .ref ro, .ref cr, .ref gp, .ref nu, .ref wk]))] eA (S := Unit) (fun _ => True) (fun _ => [(x0, .inr (9, [.ref xs, .int cn, .ref po, .ref ro, .ref cr, .ref gp, .ref nu, .ref wk]))]) := by
  refine c_introX (cc := cX10_root) (maxL := 8) (ret := (some .long)) (by decide) rfl (Nat.le_of_ble_eq_true rfl) (fun _ => by simp only [List.map_cons, List.map_nil]) ?_
  intro p e s m args below meth c Q A hQ X XF hlk htb
  change J p l e rm_X10_root_2 s m args below meth c Q G A 8 0 0 0 [(0, .ref x0), (1, .long v), (3, .int how)] [] [(x0, .inr (9, [.ref xs, .int cn, .ref po, .ref ro, .ref cr, .ref gp, .ref nu, .ref wk]))]
  refine j_iload_n X dX10_root_0 rfl 2 rfl ?_
  refine j_callS X dX10_root_1 (c_X10_isRounding l G how) gX10_root_X10_isRounding rfl hy_X10_isRounding_S ⟨Nat.le_of_ble_eq_true rfl, Nat.le_of_ble_eq_true rfl⟩ [] rfl (by decide) rfl rfl (Nat.le_of_ble_eq_true rfl) ⟨Nat.le_of_ble_eq_true rfl, Nat.le_of_ble_eq_true rfl⟩ ?_
  rintro _ ⟨⟩ rfl
  change J p l e rm_X10_root_2 s m args below meth c Q G A 8 0 0 4 [(0, .ref x0), (1, .long v), (3, .int how)] [.int (bI (0 ≤ how.toInt ∧ how.toInt ≤ 2))] [(x0, .inr (9, [.ref xs, .int cn, .ref po, .ref ro, .ref cr, .ref gp, .ref nu, .ref wk]))]
  refine j_if_ne (tgt := 17) X dX10_root_4 (by decide) (fun c_4 => ?_) (fun c_4 => ?_)
  · skip
    rw [bI_0, Classical.not_not] at c_4
    refine j_lload_n X dX10_root_17 rfl 1 rfl ?_
    refine j_lconst (v := 0) X dX10_root_18 rfl ?_
    refine j_lcmp X dX10_root_19 ?_
    refine j_if_ge (tgt := 33) X dX10_root_20 (by decide) (fun c_20 => ?_) (fun c_20 => ?_)
    · skip
      first | simp only [cmp_eq, cmp_lt, cmp_ge, cmp_gt, cmp_le, lT0, lT1] at c_20 | simp only [Int32.le_iff_toInt_le, Int32.lt_iff_toInt_lt, ← Int32.toInt_inj, iT0, iT1, iT2, iT3, iT4, iT5, iT6, iT7, iT8, iT9, iT10, iT11, iT12, iT13, iT14, iT15, iT16, iT19, iT20, iT31, iT32, iT42, iT64, iT200, iT318, iT319, iT1000, iTm1, iTm2] at c_20
      exfalso; omega
    · skip
      first | simp only [cmp_eq, cmp_lt, cmp_ge, cmp_gt, cmp_le, lT0, lT1] at c_20 | simp only [Int32.le_iff_toInt_le, Int32.lt_iff_toInt_lt, ← Int32.toInt_inj, iT0, iT1, iT2, iT3, iT4, iT5, iT6, iT7, iT8, iT9, iT10, iT11, iT12, iT13, iT14, iT15, iT16, iT19, iT20, iT31, iT32, iT42, iT64, iT200, iT318, iT319, iT1000, iTm1, iTm2] at c_20
      subst hQ
      exact j_throwS (cls := eA) (text := "no root of what is below 0") (names := ["java/lang/RuntimeException", "java/lang/Exception"]) X rfl hst XF hlk htb dX10_root_23 dX10_root_26 dX10_root_27 dX10_root_29 dX10_root_32 (by decide +kernel) (by decide +kernel) ta_X10_root_65.1 ta_X10_root_65.2 (by decide +kernel) (by decide +kernel) tb_X10_root_69 tc_69 td_69 (Nat.le_of_ble_eq_true rfl) (Nat.le_of_ble_eq_true rfl) (Nat.le_of_ble_eq_true rfl) (Nat.le_of_ble_eq_true rfl) () trivial rfl
  · skip
    rw [bI_0] at c_4
    exfalso; omega

