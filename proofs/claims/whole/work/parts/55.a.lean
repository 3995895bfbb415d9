abbrev rm_J6_numberOfLeadingZeros_0f7a4 : Room := { frames := 0, cells := 0, slots := 0, locals := 0 }
theorem k_J6_numberOfLeadingZeros_0f7a4_264 : Cond.constant RJ6 264 (65536) ∈ wsJ6_numberOfLeadingZeros_0f7a4 := by decide +kernel
set_option maxHeartbeats 4000000 in
set_option maxRecDepth 100000 in
theorem c_J6_numberOfLeadingZeros_0f7a4 (l : Launch) (G : jG) (i : Int32) : Ct l yJ6_numberOfLeadingZeros_0f7a4 wsJ6_numberOfLeadingZeros_0f7a4 rm_J6_numberOfLeadingZeros_0f7a4 G [.int i] [] (S := Int32) (fun r (u : Int32) => r = some (.int u) ∧ (i.toInt < 0 → u.toInt = 0) ∧ (0 < i.toInt → nlR i.toInt u.toInt)) (fun _ => []) (fun _ => []) := by
  refine c_intro (cc := cJ6_numberOfLeadingZeros_0f7a4) (maxL := 2) (ret := (some .int)) (by decide) rfl (Nat.le_of_ble_eq_true rfl) (fun _ => by simp only [List.map_cons, List.map_nil]) ?_
  intro p e s m args below meth c Q A X hr hin E
  change J p l e rm_J6_numberOfLeadingZeros_0f7a4 s m args below meth c Q G A 2 0 0 0 [(0, .int i)] [] []
  have hir := i_rng i
  refine j_iload_n X dJ6_numberOfLeadingZeros_0f7a4_0 rfl 0 rfl ?_
  refine j_if_gt (tgt := 15) X dJ6_numberOfLeadingZeros_0f7a4_1 (by decide) (fun c_1 => ?_) (fun c_1 => ?_)
  · skip
    first | simp only [cmp_eq, cmp_lt, cmp_ge, cmp_gt, cmp_le, lT0, lT1] at c_1 | simp only [Int32.le_iff_toInt_le, Int32.lt_iff_toInt_lt, ← Int32.toInt_inj, iT0, iT1, iT2, iT3, iT4, iT5, iT6, iT7, iT8, iT9, iT10, iT11, iT12, iT13, iT14, iT15, iT16, iT19, iT20, iT31, iT32, iT42, iT64, iT200, iT318, iT319, iT1000, iTm1, iTm2] at c_1
    refine j_bipush (v := 31) X dJ6_numberOfLeadingZeros_0f7a4_15 (by decide) ?_
    refine j_istore_n (L' := [(1, .int 31), (0, .int i)]) X dJ6_numberOfLeadingZeros_0f7a4_17 rfl (by decide) rfl ?_
    refine j_iload_n X dJ6_numberOfLeadingZeros_0f7a4_18 rfl 1 rfl ?_
    refine j_ldcw (v := 65536) X dJ6_numberOfLeadingZeros_0f7a4_19 k_J6_numberOfLeadingZeros_0f7a4_264 ?_
    refine j_icmp_lt (tgt := 33) X dJ6_numberOfLeadingZeros_0f7a4_22 (by decide) (fun c_22 => ?_) (fun c_22 => ?_)
    · skip
      rw [Int32.lt_iff_toInt_lt, iT65536] at c_22
      refine j_iload_n X dJ6_numberOfLeadingZeros_0f7a4_33 rfl 1 rfl ?_
      refine j_sipush (v := 256) X dJ6_numberOfLeadingZeros_0f7a4_34 (by decide) ?_
      refine j_icmp_lt (tgt := 48) X dJ6_numberOfLeadingZeros_0f7a4_37 (by decide) (fun c_37 => ?_) (fun c_37 => ?_)
      · skip
        rw [Int32.lt_iff_toInt_lt, iT256] at c_37
        refine j_iload_n X dJ6_numberOfLeadingZeros_0f7a4_48 rfl 1 rfl ?_
        refine j_bipush (v := 16) X dJ6_numberOfLeadingZeros_0f7a4_49 (by decide) ?_
        refine j_icmp_lt (tgt := 61) X dJ6_numberOfLeadingZeros_0f7a4_51 (by decide) (fun c_51 => ?_) (fun c_51 => ?_)
        · skip
          rw [Int32.lt_iff_toInt_lt, iT16] at c_51
          refine j_iload_n X dJ6_numberOfLeadingZeros_0f7a4_61 rfl 1 rfl ?_
          refine j_iconst (v := 4) X dJ6_numberOfLeadingZeros_0f7a4_62 rfl ?_
          refine j_icmp_lt (tgt := 73) X dJ6_numberOfLeadingZeros_0f7a4_63 (by decide) (fun c_63 => ?_) (fun c_63 => ?_)
          · skip
            rw [Int32.lt_iff_toInt_lt, iT4] at c_63
            refine j_iload_n X dJ6_numberOfLeadingZeros_0f7a4_73 rfl 0 rfl ?_
            refine j_iload_n X dJ6_numberOfLeadingZeros_0f7a4_74 rfl 1 rfl ?_
            refine j_iconst (v := 1) X dJ6_numberOfLeadingZeros_0f7a4_75 rfl ?_
            obtain ⟨x_1, ex_1⟩ : ∃ z9 : Int32, (i.toUInt32 >>> ((1 : Int32).toUInt32 &&& Int32.toUInt32 31)).toInt32 = z9 := ⟨_, rfl⟩
            refine j_iushr (v := x_1) X dJ6_numberOfLeadingZeros_0f7a4_76 ex_1 ?_
            refine j_isub X dJ6_numberOfLeadingZeros_0f7a4_77 ?_
            have hv9 : x_1.toInt = i.toInt / 2 := i_us 1 rfl (by omega) ex_1
            refine j_topi (fun w9 ew9 => ?_)
            have hw9 : w9.toInt = 31 - i.toInt / 2 := by rw [ew9, i_sub] <;> rw [show (31 : Int32).toInt = 31 from rfl, hv9] <;> omega
            exact E.2.1 78 _ w9 w9 _ dJ6_numberOfLeadingZeros_0f7a4_78 ⟨rfl, fun h => absurd h (by omega), fun _ => by rcases (show i.toInt / 2 = 0 ∨ i.toInt / 2 = 1 by omega) with h | h; exact ⟨0, by omega, by decide, by show (1 : Int) ≤ _; omega, by show _ < (2 : Int); omega⟩; exact ⟨1, by omega, by decide, by show (2 : Int) ≤ _; omega, by show _ < (4 : Int); omega⟩⟩ hr rfl
          · skip
            rw [Int32.lt_iff_toInt_lt, iT4] at c_63
            refine j_iinc (v := 29) (L' := [(1, .int 29), (0, .int i)]) X dJ6_numberOfLeadingZeros_0f7a4_66 0 rfl (by decide) (by decide) rfl ?_
            refine j_iload_n X dJ6_numberOfLeadingZeros_0f7a4_69 rfl 1 rfl ?_
            refine j_iconst (v := 2) X dJ6_numberOfLeadingZeros_0f7a4_70 rfl ?_
            obtain ⟨x_2, ex_2⟩ : ∃ z9 : Int32, (i.toUInt32 >>> ((2 : Int32).toUInt32 &&& Int32.toUInt32 31)).toInt32 = z9 := ⟨_, rfl⟩
            refine j_iushr (v := x_2) X dJ6_numberOfLeadingZeros_0f7a4_71 ex_2 ?_
            have hx_2 : x_2.toInt = i.toInt / 4 := i_us 2 rfl (by omega) ex_2
            refine j_istore_n (L' := [(0, .int x_2), (1, .int 29)]) X dJ6_numberOfLeadingZeros_0f7a4_72 rfl (by decide) rfl ?_
            refine j_iload_n X dJ6_numberOfLeadingZeros_0f7a4_73 rfl 1 rfl ?_
            refine j_iload_n X dJ6_numberOfLeadingZeros_0f7a4_74 rfl 0 rfl ?_
            refine j_iconst (v := 1) X dJ6_numberOfLeadingZeros_0f7a4_75 rfl ?_
            obtain ⟨x_3, ex_3⟩ : ∃ z9 : Int32, (x_2.toUInt32 >>> ((1 : Int32).toUInt32 &&& Int32.toUInt32 31)).toInt32 = z9 := ⟨_, rfl⟩
            refine j_iushr (v := x_3) X dJ6_numberOfLeadingZeros_0f7a4_76 ex_3 ?_
            refine j_isub X dJ6_numberOfLeadingZeros_0f7a4_77 ?_
            have hv9 : x_3.toInt = x_2.toInt / 2 := i_us 1 rfl (by omega) ex_3
            refine j_topi (fun w9 ew9 => ?_)
            have hw9 : w9.toInt = 29 - x_2.toInt / 2 := by rw [ew9, i_sub] <;> rw [show (29 : Int32).toInt = 29 from rfl, hv9] <;> omega
            exact E.2.1 78 _ w9 w9 _ dJ6_numberOfLeadingZeros_0f7a4_78 ⟨rfl, fun h => absurd h (by omega), fun _ => by rcases (show x_2.toInt / 2 = 0 ∨ x_2.toInt / 2 = 1 by omega) with h | h; exact ⟨2, by omega, by decide, by show (4 : Int) ≤ _; omega, by show _ < (8 : Int); omega⟩; exact ⟨3, by omega, by decide, by show (8 : Int) ≤ _; omega, by show _ < (16 : Int); omega⟩⟩ hr rfl
        · skip
          rw [Int32.lt_iff_toInt_lt, iT16] at c_51
          refine j_iinc (v := 27) (L' := [(1, .int 27), (0, .int i)]) X dJ6_numberOfLeadingZeros_0f7a4_54 0 rfl (by decide) (by decide) rfl ?_
          refine j_iload_n X dJ6_numberOfLeadingZeros_0f7a4_57 rfl 1 rfl ?_
          refine j_iconst (v := 4) X dJ6_numberOfLeadingZeros_0f7a4_58 rfl ?_
          obtain ⟨x_4, ex_4⟩ : ∃ z9 : Int32, (i.toUInt32 >>> ((4 : Int32).toUInt32 &&& Int32.toUInt32 31)).toInt32 = z9 := ⟨_, rfl⟩
          refine j_iushr (v := x_4) X dJ6_numberOfLeadingZeros_0f7a4_59 ex_4 ?_
          have hx_4 : x_4.toInt = i.toInt / 16 := i_us 4 rfl (by omega) ex_4
          refine j_istore_n (L' := [(0, .int x_4), (1, .int 27)]) X dJ6_numberOfLeadingZeros_0f7a4_60 rfl (by decide) rfl ?_
          refine j_iload_n X dJ6_numberOfLeadingZeros_0f7a4_61 rfl 0 rfl ?_
          refine j_iconst (v := 4) X dJ6_numberOfLeadingZeros_0f7a4_62 rfl ?_
          refine j_icmp_lt (tgt := 73) X dJ6_numberOfLeadingZeros_0f7a4_63 (by decide) (fun c_63 => ?_) (fun c_63 => ?_)
          · skip
            rw [Int32.lt_iff_toInt_lt, iT4] at c_63
            refine j_iload_n X dJ6_numberOfLeadingZeros_0f7a4_73 rfl 1 rfl ?_
            refine j_iload_n X dJ6_numberOfLeadingZeros_0f7a4_74 rfl 0 rfl ?_
            refine j_iconst (v := 1) X dJ6_numberOfLeadingZeros_0f7a4_75 rfl ?_
            obtain ⟨x_5, ex_5⟩ : ∃ z9 : Int32, (x_4.toUInt32 >>> ((1 : Int32).toUInt32 &&& Int32.toUInt32 31)).toInt32 = z9 := ⟨_, rfl⟩
            refine j_iushr (v := x_5) X dJ6_numberOfLeadingZeros_0f7a4_76 ex_5 ?_
            refine j_isub X dJ6_numberOfLeadingZeros_0f7a4_77 ?_
            have hv9 : x_5.toInt = x_4.toInt / 2 := i_us 1 rfl (by omega) ex_5
            refine j_topi (fun w9 ew9 => ?_)
            have hw9 : w9.toInt = 27 - x_4.toInt / 2 := by rw [ew9, i_sub] <;> rw [show (27 : Int32).toInt = 27 from rfl, hv9] <;> omega
            exact E.2.1 78 _ w9 w9 _ dJ6_numberOfLeadingZeros_0f7a4_78 ⟨rfl, fun h => absurd h (by omega), fun _ => by rcases (show x_4.toInt / 2 = 0 ∨ x_4.toInt / 2 = 1 by omega) with h | h; exact ⟨4, by omega, by decide, by show (16 : Int) ≤ _; omega, by show _ < (32 : Int); omega⟩; exact ⟨5, by omega, by decide, by show (32 : Int) ≤ _; omega, by show _ < (64 : Int); omega⟩⟩ hr rfl
          · skip
            rw [Int32.lt_iff_toInt_lt, iT4] at c_63
            refine j_iinc (v := 25) (L' := [(1, .int 25), (0, .int x_4)]) X dJ6_numberOfLeadingZeros_0f7a4_66 1 rfl (by decide) (by decide) rfl ?_
            refine j_iload_n X dJ6_numberOfLeadingZeros_0f7a4_69 rfl 1 rfl ?_
            refine j_iconst (v := 2) X dJ6_numberOfLeadingZeros_0f7a4_70 rfl ?_
            obtain ⟨x_6, ex_6⟩ : ∃ z9 : Int32, (x_4.toUInt32 >>> ((2 : Int32).toUInt32 &&& Int32.toUInt32 31)).toInt32 = z9 := ⟨_, rfl⟩
            refine j_iushr (v := x_6) X dJ6_numberOfLeadingZeros_0f7a4_71 ex_6 ?_
            have hx_6 : x_6.toInt = x_4.toInt / 4 := i_us 2 rfl (by omega) ex_6
            refine j_istore_n (L' := [(0, .int x_6), (1, .int 25)]) X dJ6_numberOfLeadingZeros_0f7a4_72 rfl (by decide) rfl ?_
            refine j_iload_n X dJ6_numberOfLeadingZeros_0f7a4_73 rfl 1 rfl ?_
            refine j_iload_n X dJ6_numberOfLeadingZeros_0f7a4_74 rfl 0 rfl ?_
            refine j_iconst (v := 1) X dJ6_numberOfLeadingZeros_0f7a4_75 rfl ?_
            obtain ⟨x_7, ex_7⟩ : ∃ z9 : Int32, (x_6.toUInt32 >>> ((1 : Int32).toUInt32 &&& Int32.toUInt32 31)).toInt32 = z9 := ⟨_, rfl⟩
            refine j_iushr (v := x_7) X dJ6_numberOfLeadingZeros_0f7a4_76 ex_7 ?_
            refine j_isub X dJ6_numberOfLeadingZeros_0f7a4_77 ?_
            have hv9 : x_7.toInt = x_6.toInt / 2 := i_us 1 rfl (by omega) ex_7
            refine j_topi (fun w9 ew9 => ?_)
            have hw9 : w9.toInt = 25 - x_6.toInt / 2 := by rw [ew9, i_sub] <;> rw [show (25 : Int32).toInt = 25 from rfl, hv9] <;> omega
            exact E.2.1 78 _ w9 w9 _ dJ6_numberOfLeadingZeros_0f7a4_78 ⟨rfl, fun h => absurd h (by omega), fun _ => by rcases (show x_6.toInt / 2 = 0 ∨ x_6.toInt / 2 = 1 by omega) with h | h; exact ⟨6, by omega, by decide, by show (64 : Int) ≤ _; omega, by show _ < (128 : Int); omega⟩; exact ⟨7, by omega, by decide, by show (128 : Int) ≤ _; omega, by show _ < (256 : Int); omega⟩⟩ hr rfl
      · skip
        rw [Int32.lt_iff_toInt_lt, iT256] at c_37
        refine j_iinc (v := 23) (L' := [(1, .int 23), (0, .int i)]) X dJ6_numberOfLeadingZeros_0f7a4_40 0 rfl (by decide) (by decide) rfl ?_
        refine j_iload_n X dJ6_numberOfLeadingZeros_0f7a4_43 rfl 1 rfl ?_
        refine j_bipush (v := 8) X dJ6_numberOfLeadingZeros_0f7a4_44 (by decide) ?_
        obtain ⟨x_8, ex_8⟩ : ∃ z9 : Int32, (i.toUInt32 >>> ((8 : Int32).toUInt32 &&& Int32.toUInt32 31)).toInt32 = z9 := ⟨_, rfl⟩
        refine j_iushr (v := x_8) X dJ6_numberOfLeadingZeros_0f7a4_46 ex_8 ?_
        have hx_8 : x_8.toInt = i.toInt / 256 := i_us 8 rfl (by omega) ex_8
        refine j_istore_n (L' := [(0, .int x_8), (1, .int 23)]) X dJ6_numberOfLeadingZeros_0f7a4_47 rfl (by decide) rfl ?_
        refine j_iload_n X dJ6_numberOfLeadingZeros_0f7a4_48 rfl 0 rfl ?_
        refine j_bipush (v := 16) X dJ6_numberOfLeadingZeros_0f7a4_49 (by decide) ?_
        refine j_icmp_lt (tgt := 61) X dJ6_numberOfLeadingZeros_0f7a4_51 (by decide) (fun c_51 => ?_) (fun c_51 => ?_)
        · skip
          rw [Int32.lt_iff_toInt_lt, iT16] at c_51
          refine j_iload_n X dJ6_numberOfLeadingZeros_0f7a4_61 rfl 0 rfl ?_
          refine j_iconst (v := 4) X dJ6_numberOfLeadingZeros_0f7a4_62 rfl ?_
          refine j_icmp_lt (tgt := 73) X dJ6_numberOfLeadingZeros_0f7a4_63 (by decide) (fun c_63 => ?_) (fun c_63 => ?_)
          · skip
            rw [Int32.lt_iff_toInt_lt, iT4] at c_63
            refine j_iload_n X dJ6_numberOfLeadingZeros_0f7a4_73 rfl 1 rfl ?_
            refine j_iload_n X dJ6_numberOfLeadingZeros_0f7a4_74 rfl 0 rfl ?_
            refine j_iconst (v := 1) X dJ6_numberOfLeadingZeros_0f7a4_75 rfl ?_
            obtain ⟨x_9, ex_9⟩ : ∃ z9 : Int32, (x_8.toUInt32 >>> ((1 : Int32).toUInt32 &&& Int32.toUInt32 31)).toInt32 = z9 := ⟨_, rfl⟩
            refine j_iushr (v := x_9) X dJ6_numberOfLeadingZeros_0f7a4_76 ex_9 ?_
            refine j_isub X dJ6_numberOfLeadingZeros_0f7a4_77 ?_
            have hv9 : x_9.toInt = x_8.toInt / 2 := i_us 1 rfl (by omega) ex_9
            refine j_topi (fun w9 ew9 => ?_)
            have hw9 : w9.toInt = 23 - x_8.toInt / 2 := by rw [ew9, i_sub] <;> rw [show (23 : Int32).toInt = 23 from rfl, hv9] <;> omega
            exact E.2.1 78 _ w9 w9 _ dJ6_numberOfLeadingZeros_0f7a4_78 ⟨rfl, fun h => absurd h (by omega), fun _ => by rcases (show x_8.toInt / 2 = 0 ∨ x_8.toInt / 2 = 1 by omega) with h | h; exact ⟨8, by omega, by decide, by show (256 : Int) ≤ _; omega, by show _ < (512 : Int); omega⟩; exact ⟨9, by omega, by decide, by show (512 : Int) ≤ _; omega, by show _ < (1024 : Int); omega⟩⟩ hr rfl
          · skip
            rw [Int32.lt_iff_toInt_lt, iT4] at c_63
            refine j_iinc (v := 21) (L' := [(1, .int 21), (0, .int x_8)]) X dJ6_numberOfLeadingZeros_0f7a4_66 1 rfl (by decide) (by decide) rfl ?_
            refine j_iload_n X dJ6_numberOfLeadingZeros_0f7a4_69 rfl 1 rfl ?_
            refine j_iconst (v := 2) X dJ6_numberOfLeadingZeros_0f7a4_70 rfl ?_
            obtain ⟨x_10, ex_10⟩ : ∃ z9 : Int32, (x_8.toUInt32 >>> ((2 : Int32).toUInt32 &&& Int32.toUInt32 31)).toInt32 = z9 := ⟨_, rfl⟩
            refine j_iushr (v := x_10) X dJ6_numberOfLeadingZeros_0f7a4_71 ex_10 ?_
            have hx_10 : x_10.toInt = x_8.toInt / 4 := i_us 2 rfl (by omega) ex_10
            refine j_istore_n (L' := [(0, .int x_10), (1, .int 21)]) X dJ6_numberOfLeadingZeros_0f7a4_72 rfl (by decide) rfl ?_
            refine j_iload_n X dJ6_numberOfLeadingZeros_0f7a4_73 rfl 1 rfl ?_
            refine j_iload_n X dJ6_numberOfLeadingZeros_0f7a4_74 rfl 0 rfl ?_
            refine j_iconst (v := 1) X dJ6_numberOfLeadingZeros_0f7a4_75 rfl ?_
            obtain ⟨x_11, ex_11⟩ : ∃ z9 : Int32, (x_10.toUInt32 >>> ((1 : Int32).toUInt32 &&& Int32.toUInt32 31)).toInt32 = z9 := ⟨_, rfl⟩
            refine j_iushr (v := x_11) X dJ6_numberOfLeadingZeros_0f7a4_76 ex_11 ?_
            refine j_isub X dJ6_numberOfLeadingZeros_0f7a4_77 ?_
            have hv9 : x_11.toInt = x_10.toInt / 2 := i_us 1 rfl (by omega) ex_11
            refine j_topi (fun w9 ew9 => ?_)
            have hw9 : w9.toInt = 21 - x_10.toInt / 2 := by rw [ew9, i_sub] <;> rw [show (21 : Int32).toInt = 21 from rfl, hv9] <;> omega
            exact E.2.1 78 _ w9 w9 _ dJ6_numberOfLeadingZeros_0f7a4_78 ⟨rfl, fun h => absurd h (by omega), fun _ => by rcases (show x_10.toInt / 2 = 0 ∨ x_10.toInt / 2 = 1 by omega) with h | h; exact ⟨10, by omega, by decide, by show (1024 : Int) ≤ _; omega, by show _ < (2048 : Int); omega⟩; exact ⟨11, by omega, by decide, by show (2048 : Int) ≤ _; omega, by show _ < (4096 : Int); omega⟩⟩ hr rfl
        · skip
          rw [Int32.lt_iff_toInt_lt, iT16] at c_51
          refine j_iinc (v := 19) (L' := [(1, .int 19), (0, .int x_8)]) X dJ6_numberOfLeadingZeros_0f7a4_54 1 rfl (by decide) (by decide) rfl ?_
          refine j_iload_n X dJ6_numberOfLeadingZeros_0f7a4_57 rfl 1 rfl ?_
          refine j_iconst (v := 4) X dJ6_numberOfLeadingZeros_0f7a4_58 rfl ?_
          obtain ⟨x_12, ex_12⟩ : ∃ z9 : Int32, (x_8.toUInt32 >>> ((4 : Int32).toUInt32 &&& Int32.toUInt32 31)).toInt32 = z9 := ⟨_, rfl⟩
          refine j_iushr (v := x_12) X dJ6_numberOfLeadingZeros_0f7a4_59 ex_12 ?_
          have hx_12 : x_12.toInt = x_8.toInt / 16 := i_us 4 rfl (by omega) ex_12
          refine j_istore_n (L' := [(0, .int x_12), (1, .int 19)]) X dJ6_numberOfLeadingZeros_0f7a4_60 rfl (by decide) rfl ?_
          refine j_iload_n X dJ6_numberOfLeadingZeros_0f7a4_61 rfl 0 rfl ?_
          refine j_iconst (v := 4) X dJ6_numberOfLeadingZeros_0f7a4_62 rfl ?_
          refine j_icmp_lt (tgt := 73) X dJ6_numberOfLeadingZeros_0f7a4_63 (by decide) (fun c_63 => ?_) (fun c_63 => ?_)
          · skip
            rw [Int32.lt_iff_toInt_lt, iT4] at c_63
            refine j_iload_n X dJ6_numberOfLeadingZeros_0f7a4_73 rfl 1 rfl ?_
            refine j_iload_n X dJ6_numberOfLeadingZeros_0f7a4_74 rfl 0 rfl ?_
            refine j_iconst (v := 1) X dJ6_numberOfLeadingZeros_0f7a4_75 rfl ?_
            obtain ⟨x_13, ex_13⟩ : ∃ z9 : Int32, (x_12.toUInt32 >>> ((1 : Int32).toUInt32 &&& Int32.toUInt32 31)).toInt32 = z9 := ⟨_, rfl⟩
            refine j_iushr (v := x_13) X dJ6_numberOfLeadingZeros_0f7a4_76 ex_13 ?_
            refine j_isub X dJ6_numberOfLeadingZeros_0f7a4_77 ?_
            have hv9 : x_13.toInt = x_12.toInt / 2 := i_us 1 rfl (by omega) ex_13
            refine j_topi (fun w9 ew9 => ?_)
            have hw9 : w9.toInt = 19 - x_12.toInt / 2 := by rw [ew9, i_sub] <;> rw [show (19 : Int32).toInt = 19 from rfl, hv9] <;> omega
            exact E.2.1 78 _ w9 w9 _ dJ6_numberOfLeadingZeros_0f7a4_78 ⟨rfl, fun h => absurd h (by omega), fun _ => by rcases (show x_12.toInt / 2 = 0 ∨ x_12.toInt / 2 = 1 by omega) with h | h; exact ⟨12, by omega, by decide, by show (4096 : Int) ≤ _; omega, by show _ < (8192 : Int); omega⟩; exact ⟨13, by omega, by decide, by show (8192 : Int) ≤ _; omega, by show _ < (16384 : Int); omega⟩⟩ hr rfl
          · skip
            rw [Int32.lt_iff_toInt_lt, iT4] at c_63
            refine j_iinc (v := 17) (L' := [(1, .int 17), (0, .int x_12)]) X dJ6_numberOfLeadingZeros_0f7a4_66 1 rfl (by decide) (by decide) rfl ?_
            refine j_iload_n X dJ6_numberOfLeadingZeros_0f7a4_69 rfl 1 rfl ?_
            refine j_iconst (v := 2) X dJ6_numberOfLeadingZeros_0f7a4_70 rfl ?_
            obtain ⟨x_14, ex_14⟩ : ∃ z9 : Int32, (x_12.toUInt32 >>> ((2 : Int32).toUInt32 &&& Int32.toUInt32 31)).toInt32 = z9 := ⟨_, rfl⟩
            refine j_iushr (v := x_14) X dJ6_numberOfLeadingZeros_0f7a4_71 ex_14 ?_
            have hx_14 : x_14.toInt = x_12.toInt / 4 := i_us 2 rfl (by omega) ex_14
            refine j_istore_n (L' := [(0, .int x_14), (1, .int 17)]) X dJ6_numberOfLeadingZeros_0f7a4_72 rfl (by decide) rfl ?_
            refine j_iload_n X dJ6_numberOfLeadingZeros_0f7a4_73 rfl 1 rfl ?_
            refine j_iload_n X dJ6_numberOfLeadingZeros_0f7a4_74 rfl 0 rfl ?_
            refine j_iconst (v := 1) X dJ6_numberOfLeadingZeros_0f7a4_75 rfl ?_
            obtain ⟨x_15, ex_15⟩ : ∃ z9 : Int32, (x_14.toUInt32 >>> ((1 : Int32).toUInt32 &&& Int32.toUInt32 31)).toInt32 = z9 := ⟨_, rfl⟩
            refine j_iushr (v := x_15) X dJ6_numberOfLeadingZeros_0f7a4_76 ex_15 ?_
            refine j_isub X dJ6_numberOfLeadingZeros_0f7a4_77 ?_
            have hv9 : x_15.toInt = x_14.toInt / 2 := i_us 1 rfl (by omega) ex_15
            refine j_topi (fun w9 ew9 => ?_)
            have hw9 : w9.toInt = 17 - x_14.toInt / 2 := by rw [ew9, i_sub] <;> rw [show (17 : Int32).toInt = 17 from rfl, hv9] <;> omega
            exact E.2.1 78 _ w9 w9 _ dJ6_numberOfLeadingZeros_0f7a4_78 ⟨rfl, fun h => absurd h (by omega), fun _ => by rcases (show x_14.toInt / 2 = 0 ∨ x_14.toInt / 2 = 1 by omega) with h | h; exact ⟨14, by omega, by decide, by show (16384 : Int) ≤ _; omega, by show _ < (32768 : Int); omega⟩; exact ⟨15, by omega, by decide, by show (32768 : Int) ≤ _; omega, by show _ < (65536 : Int); omega⟩⟩ hr rfl
    · skip
      rw [Int32.lt_iff_toInt_lt, iT65536] at c_22
      refine j_iinc (v := 15) (L' := [(1, .int 15), (0, .int i)]) X dJ6_numberOfLeadingZeros_0f7a4_25 0 rfl (by decide) (by decide) rfl ?_
      refine j_iload_n X dJ6_numberOfLeadingZeros_0f7a4_28 rfl 1 rfl ?_
      refine j_bipush (v := 16) X dJ6_numberOfLeadingZeros_0f7a4_29 (by decide) ?_
      obtain ⟨x_16, ex_16⟩ : ∃ z9 : Int32, (i.toUInt32 >>> ((16 : Int32).toUInt32 &&& Int32.toUInt32 31)).toInt32 = z9 := ⟨_, rfl⟩
      refine j_iushr (v := x_16) X dJ6_numberOfLeadingZeros_0f7a4_31 ex_16 ?_
      have hx_16 : x_16.toInt = i.toInt / 65536 := i_us 16 rfl (by omega) ex_16
      refine j_istore_n (L' := [(0, .int x_16), (1, .int 15)]) X dJ6_numberOfLeadingZeros_0f7a4_32 rfl (by decide) rfl ?_
      refine j_iload_n X dJ6_numberOfLeadingZeros_0f7a4_33 rfl 0 rfl ?_
      refine j_sipush (v := 256) X dJ6_numberOfLeadingZeros_0f7a4_34 (by decide) ?_
      refine j_icmp_lt (tgt := 48) X dJ6_numberOfLeadingZeros_0f7a4_37 (by decide) (fun c_37 => ?_) (fun c_37 => ?_)
      · skip
        rw [Int32.lt_iff_toInt_lt, iT256] at c_37
        refine j_iload_n X dJ6_numberOfLeadingZeros_0f7a4_48 rfl 0 rfl ?_
        refine j_bipush (v := 16) X dJ6_numberOfLeadingZeros_0f7a4_49 (by decide) ?_
        refine j_icmp_lt (tgt := 61) X dJ6_numberOfLeadingZeros_0f7a4_51 (by decide) (fun c_51 => ?_) (fun c_51 => ?_)
        · skip
          rw [Int32.lt_iff_toInt_lt, iT16] at c_51
          refine j_iload_n X dJ6_numberOfLeadingZeros_0f7a4_61 rfl 0 rfl ?_
          refine j_iconst (v := 4) X dJ6_numberOfLeadingZeros_0f7a4_62 rfl ?_
          refine j_icmp_lt (tgt := 73) X dJ6_numberOfLeadingZeros_0f7a4_63 (by decide) (fun c_63 => ?_) (fun c_63 => ?_)
          · skip
            rw [Int32.lt_iff_toInt_lt, iT4] at c_63
            refine j_iload_n X dJ6_numberOfLeadingZeros_0f7a4_73 rfl 1 rfl ?_
            refine j_iload_n X dJ6_numberOfLeadingZeros_0f7a4_74 rfl 0 rfl ?_
            refine j_iconst (v := 1) X dJ6_numberOfLeadingZeros_0f7a4_75 rfl ?_
            obtain ⟨x_17, ex_17⟩ : ∃ z9 : Int32, (x_16.toUInt32 >>> ((1 : Int32).toUInt32 &&& Int32.toUInt32 31)).toInt32 = z9 := ⟨_, rfl⟩
            refine j_iushr (v := x_17) X dJ6_numberOfLeadingZeros_0f7a4_76 ex_17 ?_
            refine j_isub X dJ6_numberOfLeadingZeros_0f7a4_77 ?_
            have hv9 : x_17.toInt = x_16.toInt / 2 := i_us 1 rfl (by omega) ex_17
            refine j_topi (fun w9 ew9 => ?_)
            have hw9 : w9.toInt = 15 - x_16.toInt / 2 := by rw [ew9, i_sub] <;> rw [show (15 : Int32).toInt = 15 from rfl, hv9] <;> omega
            exact E.2.1 78 _ w9 w9 _ dJ6_numberOfLeadingZeros_0f7a4_78 ⟨rfl, fun h => absurd h (by omega), fun _ => by rcases (show x_16.toInt / 2 = 0 ∨ x_16.toInt / 2 = 1 by omega) with h | h; exact ⟨16, by omega, by decide, by show (65536 : Int) ≤ _; omega, by show _ < (131072 : Int); omega⟩; exact ⟨17, by omega, by decide, by show (131072 : Int) ≤ _; omega, by show _ < (262144 : Int); omega⟩⟩ hr rfl
          · skip
            rw [Int32.lt_iff_toInt_lt, iT4] at c_63
            refine j_iinc (v := 13) (L' := [(1, .int 13), (0, .int x_16)]) X dJ6_numberOfLeadingZeros_0f7a4_66 1 rfl (by decide) (by decide) rfl ?_
            refine j_iload_n X dJ6_numberOfLeadingZeros_0f7a4_69 rfl 1 rfl ?_
            refine j_iconst (v := 2) X dJ6_numberOfLeadingZeros_0f7a4_70 rfl ?_
            obtain ⟨x_18, ex_18⟩ : ∃ z9 : Int32, (x_16.toUInt32 >>> ((2 : Int32).toUInt32 &&& Int32.toUInt32 31)).toInt32 = z9 := ⟨_, rfl⟩
            refine j_iushr (v := x_18) X dJ6_numberOfLeadingZeros_0f7a4_71 ex_18 ?_
            have hx_18 : x_18.toInt = x_16.toInt / 4 := i_us 2 rfl (by omega) ex_18
            refine j_istore_n (L' := [(0, .int x_18), (1, .int 13)]) X dJ6_numberOfLeadingZeros_0f7a4_72 rfl (by decide) rfl ?_
            refine j_iload_n X dJ6_numberOfLeadingZeros_0f7a4_73 rfl 1 rfl ?_
            refine j_iload_n X dJ6_numberOfLeadingZeros_0f7a4_74 rfl 0 rfl ?_
            refine j_iconst (v := 1) X dJ6_numberOfLeadingZeros_0f7a4_75 rfl ?_
            obtain ⟨x_19, ex_19⟩ : ∃ z9 : Int32, (x_18.toUInt32 >>> ((1 : Int32).toUInt32 &&& Int32.toUInt32 31)).toInt32 = z9 := ⟨_, rfl⟩
            refine j_iushr (v := x_19) X dJ6_numberOfLeadingZeros_0f7a4_76 ex_19 ?_
            refine j_isub X dJ6_numberOfLeadingZeros_0f7a4_77 ?_
            have hv9 : x_19.toInt = x_18.toInt / 2 := i_us 1 rfl (by omega) ex_19
            refine j_topi (fun w9 ew9 => ?_)
            have hw9 : w9.toInt = 13 - x_18.toInt / 2 := by rw [ew9, i_sub] <;> rw [show (13 : Int32).toInt = 13 from rfl, hv9] <;> omega
            exact E.2.1 78 _ w9 w9 _ dJ6_numberOfLeadingZeros_0f7a4_78 ⟨rfl, fun h => absurd h (by omega), fun _ => by rcases (show x_18.toInt / 2 = 0 ∨ x_18.toInt / 2 = 1 by omega) with h | h; exact ⟨18, by omega, by decide, by show (262144 : Int) ≤ _; omega, by show _ < (524288 : Int); omega⟩; exact ⟨19, by omega, by decide, by show (524288 : Int) ≤ _; omega, by show _ < (1048576 : Int); omega⟩⟩ hr rfl
        · skip
          rw [Int32.lt_iff_toInt_lt, iT16] at c_51
          refine j_iinc (v := 11) (L' := [(1, .int 11), (0, .int x_16)]) X dJ6_numberOfLeadingZeros_0f7a4_54 1 rfl (by decide) (by decide) rfl ?_
          refine j_iload_n X dJ6_numberOfLeadingZeros_0f7a4_57 rfl 1 rfl ?_
          refine j_iconst (v := 4) X dJ6_numberOfLeadingZeros_0f7a4_58 rfl ?_
          obtain ⟨x_20, ex_20⟩ : ∃ z9 : Int32, (x_16.toUInt32 >>> ((4 : Int32).toUInt32 &&& Int32.toUInt32 31)).toInt32 = z9 := ⟨_, rfl⟩
          refine j_iushr (v := x_20) X dJ6_numberOfLeadingZeros_0f7a4_59 ex_20 ?_
          have hx_20 : x_20.toInt = x_16.toInt / 16 := i_us 4 rfl (by omega) ex_20
          refine j_istore_n (L' := [(0, .int x_20), (1, .int 11)]) X dJ6_numberOfLeadingZeros_0f7a4_60 rfl (by decide) rfl ?_
          refine j_iload_n X dJ6_numberOfLeadingZeros_0f7a4_61 rfl 0 rfl ?_
          refine j_iconst (v := 4) X dJ6_numberOfLeadingZeros_0f7a4_62 rfl ?_
          refine j_icmp_lt (tgt := 73) X dJ6_numberOfLeadingZeros_0f7a4_63 (by decide) (fun c_63 => ?_) (fun c_63 => ?_)
          · skip
            rw [Int32.lt_iff_toInt_lt, iT4] at c_63
            refine j_iload_n X dJ6_numberOfLeadingZeros_0f7a4_73 rfl 1 rfl ?_
            refine j_iload_n X dJ6_numberOfLeadingZeros_0f7a4_74 rfl 0 rfl ?_
            refine j_iconst (v := 1) X dJ6_numberOfLeadingZeros_0f7a4_75 rfl ?_
            obtain ⟨x_21, ex_21⟩ : ∃ z9 : Int32, (x_20.toUInt32 >>> ((1 : Int32).toUInt32 &&& Int32.toUInt32 31)).toInt32 = z9 := ⟨_, rfl⟩
            refine j_iushr (v := x_21) X dJ6_numberOfLeadingZeros_0f7a4_76 ex_21 ?_
            refine j_isub X dJ6_numberOfLeadingZeros_0f7a4_77 ?_
            have hv9 : x_21.toInt = x_20.toInt / 2 := i_us 1 rfl (by omega) ex_21
            refine j_topi (fun w9 ew9 => ?_)
            have hw9 : w9.toInt = 11 - x_20.toInt / 2 := by rw [ew9, i_sub] <;> rw [show (11 : Int32).toInt = 11 from rfl, hv9] <;> omega
            exact E.2.1 78 _ w9 w9 _ dJ6_numberOfLeadingZeros_0f7a4_78 ⟨rfl, fun h => absurd h (by omega), fun _ => by rcases (show x_20.toInt / 2 = 0 ∨ x_20.toInt / 2 = 1 by omega) with h | h; exact ⟨20, by omega, by decide, by show (1048576 : Int) ≤ _; omega, by show _ < (2097152 : Int); omega⟩; exact ⟨21, by omega, by decide, by show (2097152 : Int) ≤ _; omega, by show _ < (4194304 : Int); omega⟩⟩ hr rfl
          · skip
            rw [Int32.lt_iff_toInt_lt, iT4] at c_63
            refine j_iinc (v := 9) (L' := [(1, .int 9), (0, .int x_20)]) X dJ6_numberOfLeadingZeros_0f7a4_66 1 rfl (by decide) (by decide) rfl ?_
            refine j_iload_n X dJ6_numberOfLeadingZeros_0f7a4_69 rfl 1 rfl ?_
            refine j_iconst (v := 2) X dJ6_numberOfLeadingZeros_0f7a4_70 rfl ?_
            obtain ⟨x_22, ex_22⟩ : ∃ z9 : Int32, (x_20.toUInt32 >>> ((2 : Int32).toUInt32 &&& Int32.toUInt32 31)).toInt32 = z9 := ⟨_, rfl⟩
            refine j_iushr (v := x_22) X dJ6_numberOfLeadingZeros_0f7a4_71 ex_22 ?_
            have hx_22 : x_22.toInt = x_20.toInt / 4 := i_us 2 rfl (by omega) ex_22
            refine j_istore_n (L' := [(0, .int x_22), (1, .int 9)]) X dJ6_numberOfLeadingZeros_0f7a4_72 rfl (by decide) rfl ?_
            refine j_iload_n X dJ6_numberOfLeadingZeros_0f7a4_73 rfl 1 rfl ?_
            refine j_iload_n X dJ6_numberOfLeadingZeros_0f7a4_74 rfl 0 rfl ?_
            refine j_iconst (v := 1) X dJ6_numberOfLeadingZeros_0f7a4_75 rfl ?_
            obtain ⟨x_23, ex_23⟩ : ∃ z9 : Int32, (x_22.toUInt32 >>> ((1 : Int32).toUInt32 &&& Int32.toUInt32 31)).toInt32 = z9 := ⟨_, rfl⟩
            refine j_iushr (v := x_23) X dJ6_numberOfLeadingZeros_0f7a4_76 ex_23 ?_
            refine j_isub X dJ6_numberOfLeadingZeros_0f7a4_77 ?_
            have hv9 : x_23.toInt = x_22.toInt / 2 := i_us 1 rfl (by omega) ex_23
            refine j_topi (fun w9 ew9 => ?_)
            have hw9 : w9.toInt = 9 - x_22.toInt / 2 := by rw [ew9, i_sub] <;> rw [show (9 : Int32).toInt = 9 from rfl, hv9] <;> omega
            exact E.2.1 78 _ w9 w9 _ dJ6_numberOfLeadingZeros_0f7a4_78 ⟨rfl, fun h => absurd h (by omega), fun _ => by rcases (show x_22.toInt / 2 = 0 ∨ x_22.toInt / 2 = 1 by omega) with h | h; exact ⟨22, by omega, by decide, by show (4194304 : Int) ≤ _; omega, by show _ < (8388608 : Int); omega⟩; exact ⟨23, by omega, by decide, by show (8388608 : Int) ≤ _; omega, by show _ < (16777216 : Int); omega⟩⟩ hr rfl
      · skip
        rw [Int32.lt_iff_toInt_lt, iT256] at c_37
        refine j_iinc (v := 7) (L' := [(1, .int 7), (0, .int x_16)]) X dJ6_numberOfLeadingZeros_0f7a4_40 1 rfl (by decide) (by decide) rfl ?_
        refine j_iload_n X dJ6_numberOfLeadingZeros_0f7a4_43 rfl 1 rfl ?_
        refine j_bipush (v := 8) X dJ6_numberOfLeadingZeros_0f7a4_44 (by decide) ?_
        obtain ⟨x_24, ex_24⟩ : ∃ z9 : Int32, (x_16.toUInt32 >>> ((8 : Int32).toUInt32 &&& Int32.toUInt32 31)).toInt32 = z9 := ⟨_, rfl⟩
        refine j_iushr (v := x_24) X dJ6_numberOfLeadingZeros_0f7a4_46 ex_24 ?_
        have hx_24 : x_24.toInt = x_16.toInt / 256 := i_us 8 rfl (by omega) ex_24
        refine j_istore_n (L' := [(0, .int x_24), (1, .int 7)]) X dJ6_numberOfLeadingZeros_0f7a4_47 rfl (by decide) rfl ?_
        refine j_iload_n X dJ6_numberOfLeadingZeros_0f7a4_48 rfl 0 rfl ?_
        refine j_bipush (v := 16) X dJ6_numberOfLeadingZeros_0f7a4_49 (by decide) ?_
        refine j_icmp_lt (tgt := 61) X dJ6_numberOfLeadingZeros_0f7a4_51 (by decide) (fun c_51 => ?_) (fun c_51 => ?_)
        · skip
          rw [Int32.lt_iff_toInt_lt, iT16] at c_51
          refine j_iload_n X dJ6_numberOfLeadingZeros_0f7a4_61 rfl 0 rfl ?_
          refine j_iconst (v := 4) X dJ6_numberOfLeadingZeros_0f7a4_62 rfl ?_
          refine j_icmp_lt (tgt := 73) X dJ6_numberOfLeadingZeros_0f7a4_63 (by decide) (fun c_63 => ?_) (fun c_63 => ?_)
          · skip
            rw [Int32.lt_iff_toInt_lt, iT4] at c_63
            refine j_iload_n X dJ6_numberOfLeadingZeros_0f7a4_73 rfl 1 rfl ?_
            refine j_iload_n X dJ6_numberOfLeadingZeros_0f7a4_74 rfl 0 rfl ?_
            refine j_iconst (v := 1) X dJ6_numberOfLeadingZeros_0f7a4_75 rfl ?_
            obtain ⟨x_25, ex_25⟩ : ∃ z9 : Int32, (x_24.toUInt32 >>> ((1 : Int32).toUInt32 &&& Int32.toUInt32 31)).toInt32 = z9 := ⟨_, rfl⟩
            refine j_iushr (v := x_25) X dJ6_numberOfLeadingZeros_0f7a4_76 ex_25 ?_
            refine j_isub X dJ6_numberOfLeadingZeros_0f7a4_77 ?_
            have hv9 : x_25.toInt = x_24.toInt / 2 := i_us 1 rfl (by omega) ex_25
            refine j_topi (fun w9 ew9 => ?_)
            have hw9 : w9.toInt = 7 - x_24.toInt / 2 := by rw [ew9, i_sub] <;> rw [show (7 : Int32).toInt = 7 from rfl, hv9] <;> omega
            exact E.2.1 78 _ w9 w9 _ dJ6_numberOfLeadingZeros_0f7a4_78 ⟨rfl, fun h => absurd h (by omega), fun _ => by rcases (show x_24.toInt / 2 = 0 ∨ x_24.toInt / 2 = 1 by omega) with h | h; exact ⟨24, by omega, by decide, by show (16777216 : Int) ≤ _; omega, by show _ < (33554432 : Int); omega⟩; exact ⟨25, by omega, by decide, by show (33554432 : Int) ≤ _; omega, by show _ < (67108864 : Int); omega⟩⟩ hr rfl
          · skip
            rw [Int32.lt_iff_toInt_lt, iT4] at c_63
            refine j_iinc (v := 5) (L' := [(1, .int 5), (0, .int x_24)]) X dJ6_numberOfLeadingZeros_0f7a4_66 1 rfl (by decide) (by decide) rfl ?_
            refine j_iload_n X dJ6_numberOfLeadingZeros_0f7a4_69 rfl 1 rfl ?_
            refine j_iconst (v := 2) X dJ6_numberOfLeadingZeros_0f7a4_70 rfl ?_
            obtain ⟨x_26, ex_26⟩ : ∃ z9 : Int32, (x_24.toUInt32 >>> ((2 : Int32).toUInt32 &&& Int32.toUInt32 31)).toInt32 = z9 := ⟨_, rfl⟩
            refine j_iushr (v := x_26) X dJ6_numberOfLeadingZeros_0f7a4_71 ex_26 ?_
            have hx_26 : x_26.toInt = x_24.toInt / 4 := i_us 2 rfl (by omega) ex_26
            refine j_istore_n (L' := [(0, .int x_26), (1, .int 5)]) X dJ6_numberOfLeadingZeros_0f7a4_72 rfl (by decide) rfl ?_
            refine j_iload_n X dJ6_numberOfLeadingZeros_0f7a4_73 rfl 1 rfl ?_
            refine j_iload_n X dJ6_numberOfLeadingZeros_0f7a4_74 rfl 0 rfl ?_
            refine j_iconst (v := 1) X dJ6_numberOfLeadingZeros_0f7a4_75 rfl ?_
            obtain ⟨x_27, ex_27⟩ : ∃ z9 : Int32, (x_26.toUInt32 >>> ((1 : Int32).toUInt32 &&& Int32.toUInt32 31)).toInt32 = z9 := ⟨_, rfl⟩
            refine j_iushr (v := x_27) X dJ6_numberOfLeadingZeros_0f7a4_76 ex_27 ?_
            refine j_isub X dJ6_numberOfLeadingZeros_0f7a4_77 ?_
            have hv9 : x_27.toInt = x_26.toInt / 2 := i_us 1 rfl (by omega) ex_27
            refine j_topi (fun w9 ew9 => ?_)
            have hw9 : w9.toInt = 5 - x_26.toInt / 2 := by rw [ew9, i_sub] <;> rw [show (5 : Int32).toInt = 5 from rfl, hv9] <;> omega
            exact E.2.1 78 _ w9 w9 _ dJ6_numberOfLeadingZeros_0f7a4_78 ⟨rfl, fun h => absurd h (by omega), fun _ => by rcases (show x_26.toInt / 2 = 0 ∨ x_26.toInt / 2 = 1 by omega) with h | h; exact ⟨26, by omega, by decide, by show (67108864 : Int) ≤ _; omega, by show _ < (134217728 : Int); omega⟩; exact ⟨27, by omega, by decide, by show (134217728 : Int) ≤ _; omega, by show _ < (268435456 : Int); omega⟩⟩ hr rfl
        · skip
          rw [Int32.lt_iff_toInt_lt, iT16] at c_51
          refine j_iinc (v := 3) (L' := [(1, .int 3), (0, .int x_24)]) X dJ6_numberOfLeadingZeros_0f7a4_54 1 rfl (by decide) (by decide) rfl ?_
          refine j_iload_n X dJ6_numberOfLeadingZeros_0f7a4_57 rfl 1 rfl ?_
          refine j_iconst (v := 4) X dJ6_numberOfLeadingZeros_0f7a4_58 rfl ?_
          obtain ⟨x_28, ex_28⟩ : ∃ z9 : Int32, (x_24.toUInt32 >>> ((4 : Int32).toUInt32 &&& Int32.toUInt32 31)).toInt32 = z9 := ⟨_, rfl⟩
          refine j_iushr (v := x_28) X dJ6_numberOfLeadingZeros_0f7a4_59 ex_28 ?_
          have hx_28 : x_28.toInt = x_24.toInt / 16 := i_us 4 rfl (by omega) ex_28
          refine j_istore_n (L' := [(0, .int x_28), (1, .int 3)]) X dJ6_numberOfLeadingZeros_0f7a4_60 rfl (by decide) rfl ?_
          refine j_iload_n X dJ6_numberOfLeadingZeros_0f7a4_61 rfl 0 rfl ?_
          refine j_iconst (v := 4) X dJ6_numberOfLeadingZeros_0f7a4_62 rfl ?_
          refine j_icmp_lt (tgt := 73) X dJ6_numberOfLeadingZeros_0f7a4_63 (by decide) (fun c_63 => ?_) (fun c_63 => ?_)
          · skip
            rw [Int32.lt_iff_toInt_lt, iT4] at c_63
            refine j_iload_n X dJ6_numberOfLeadingZeros_0f7a4_73 rfl 1 rfl ?_
            refine j_iload_n X dJ6_numberOfLeadingZeros_0f7a4_74 rfl 0 rfl ?_
            refine j_iconst (v := 1) X dJ6_numberOfLeadingZeros_0f7a4_75 rfl ?_
            obtain ⟨x_29, ex_29⟩ : ∃ z9 : Int32, (x_28.toUInt32 >>> ((1 : Int32).toUInt32 &&& Int32.toUInt32 31)).toInt32 = z9 := ⟨_, rfl⟩
            refine j_iushr (v := x_29) X dJ6_numberOfLeadingZeros_0f7a4_76 ex_29 ?_
            refine j_isub X dJ6_numberOfLeadingZeros_0f7a4_77 ?_
            have hv9 : x_29.toInt = x_28.toInt / 2 := i_us 1 rfl (by omega) ex_29
            refine j_topi (fun w9 ew9 => ?_)
            have hw9 : w9.toInt = 3 - x_28.toInt / 2 := by rw [ew9, i_sub] <;> rw [show (3 : Int32).toInt = 3 from rfl, hv9] <;> omega
            exact E.2.1 78 _ w9 w9 _ dJ6_numberOfLeadingZeros_0f7a4_78 ⟨rfl, fun h => absurd h (by omega), fun _ => by rcases (show x_28.toInt / 2 = 0 ∨ x_28.toInt / 2 = 1 by omega) with h | h; exact ⟨28, by omega, by decide, by show (268435456 : Int) ≤ _; omega, by show _ < (536870912 : Int); omega⟩; exact ⟨29, by omega, by decide, by show (536870912 : Int) ≤ _; omega, by show _ < (1073741824 : Int); omega⟩⟩ hr rfl
          · skip
            rw [Int32.lt_iff_toInt_lt, iT4] at c_63
            refine j_iinc (v := 1) (L' := [(1, .int 1), (0, .int x_28)]) X dJ6_numberOfLeadingZeros_0f7a4_66 1 rfl (by decide) (by decide) rfl ?_
            refine j_iload_n X dJ6_numberOfLeadingZeros_0f7a4_69 rfl 1 rfl ?_
            refine j_iconst (v := 2) X dJ6_numberOfLeadingZeros_0f7a4_70 rfl ?_
            obtain ⟨x_30, ex_30⟩ : ∃ z9 : Int32, (x_28.toUInt32 >>> ((2 : Int32).toUInt32 &&& Int32.toUInt32 31)).toInt32 = z9 := ⟨_, rfl⟩
            refine j_iushr (v := x_30) X dJ6_numberOfLeadingZeros_0f7a4_71 ex_30 ?_
            have hx_30 : x_30.toInt = x_28.toInt / 4 := i_us 2 rfl (by omega) ex_30
            refine j_istore_n (L' := [(0, .int x_30), (1, .int 1)]) X dJ6_numberOfLeadingZeros_0f7a4_72 rfl (by decide) rfl ?_
            refine j_iload_n X dJ6_numberOfLeadingZeros_0f7a4_73 rfl 1 rfl ?_
            refine j_iload_n X dJ6_numberOfLeadingZeros_0f7a4_74 rfl 0 rfl ?_
            refine j_iconst (v := 1) X dJ6_numberOfLeadingZeros_0f7a4_75 rfl ?_
            obtain ⟨x_31, ex_31⟩ : ∃ z9 : Int32, (x_30.toUInt32 >>> ((1 : Int32).toUInt32 &&& Int32.toUInt32 31)).toInt32 = z9 := ⟨_, rfl⟩
            refine j_iushr (v := x_31) X dJ6_numberOfLeadingZeros_0f7a4_76 ex_31 ?_
            refine j_isub X dJ6_numberOfLeadingZeros_0f7a4_77 ?_
            have hv9 : x_31.toInt = x_30.toInt / 2 := i_us 1 rfl (by omega) ex_31
            refine j_topi (fun w9 ew9 => ?_)
            have hw9 : w9.toInt = 1 - x_30.toInt / 2 := by rw [ew9, i_sub] <;> rw [show (1 : Int32).toInt = 1 from rfl, hv9] <;> omega
            exact E.2.1 78 _ w9 w9 _ dJ6_numberOfLeadingZeros_0f7a4_78 ⟨rfl, fun h => absurd h (by omega), fun _ => by rcases (show x_30.toInt / 2 = 0 ∨ x_30.toInt / 2 = 1 by omega) with h | h; exact ⟨30, by omega, by decide, by show (1073741824 : Int) ≤ _; omega, by show _ < (2147483648 : Int); omega⟩; exact ⟨31, by omega, by decide, by show (2147483648 : Int) ≤ _; omega, by show _ < (4294967296 : Int); omega⟩⟩ hr rfl
  · skip
    first | simp only [cmp_eq, cmp_lt, cmp_ge, cmp_gt, cmp_le, lT0, lT1] at c_1 | simp only [Int32.le_iff_toInt_le, Int32.lt_iff_toInt_lt, ← Int32.toInt_inj, iT0, iT1, iT2, iT3, iT4, iT5, iT6, iT7, iT8, iT9, iT10, iT11, iT12, iT13, iT14, iT15, iT16, iT19, iT20, iT31, iT32, iT42, iT64, iT200, iT318, iT319, iT1000, iTm1, iTm2] at c_1
    refine j_iload_n X dJ6_numberOfLeadingZeros_0f7a4_4 rfl 0 rfl ?_
    refine j_if_ne (tgt := 13) X dJ6_numberOfLeadingZeros_0f7a4_5 (by decide) (fun c_5 => ?_) (fun c_5 => ?_)
    · skip
      first | simp only [cmp_eq, cmp_lt, cmp_ge, cmp_gt, cmp_le, lT0, lT1] at c_5 | simp only [Int32.le_iff_toInt_le, Int32.lt_iff_toInt_lt, ← Int32.toInt_inj, iT0, iT1, iT2, iT3, iT4, iT5, iT6, iT7, iT8, iT9, iT10, iT11, iT12, iT13, iT14, iT15, iT16, iT19, iT20, iT31, iT32, iT42, iT64, iT200, iT318, iT319, iT1000, iTm1, iTm2] at c_5
      refine j_iconst (v := 0) X dJ6_numberOfLeadingZeros_0f7a4_13 rfl ?_
      exact E.2.1 14 _ 0 (0 : Int32) _ dJ6_numberOfLeadingZeros_0f7a4_14 (⟨rfl, fun _ => rfl, fun h => absurd h (by omega)⟩) hr rfl
    · skip
      first | simp only [cmp_eq, cmp_lt, cmp_ge, cmp_gt, cmp_le, lT0, lT1] at c_5 | simp only [Int32.le_iff_toInt_le, Int32.lt_iff_toInt_lt, ← Int32.toInt_inj, iT0, iT1, iT2, iT3, iT4, iT5, iT6, iT7, iT8, iT9, iT10, iT11, iT12, iT13, iT14, iT15, iT16, iT19, iT20, iT31, iT32, iT42, iT64, iT200, iT318, iT319, iT1000, iTm1, iTm2] at c_5
      refine j_bipush (v := 32) X dJ6_numberOfLeadingZeros_0f7a4_8 (by decide) ?_
      refine j_goto (tgt := 14) X dJ6_numberOfLeadingZeros_0f7a4_10 (by decide) ?_
      exact E.2.1 14 _ 32 (32 : Int32) _ dJ6_numberOfLeadingZeros_0f7a4_14 (⟨rfl, fun h => absurd h (by omega), fun h => absurd h (by omega)⟩) hr rfl

theorem hy_J6_numberOfLeadingZeros_0f7a4_S : yJ6_numberOfLeadingZeros_0f7a4.cls ≠ "java/lang/invoke/MethodHandle" ∧ yJ6_numberOfLeadingZeros_0f7a4.cls ≠ "java/lang/invoke/VarHandle" ∧ (parseMethodDescriptor yJ6_numberOfLeadingZeros_0f7a4.desc).map (fun d => d.parameters.length) = some 1 := by decide +kernel
theorem nl_32 {v : Int} {z : Int32} (h : nlR v z.toInt) : ∃ b : Nat, (32 + z).toInt = 32 + (31 - (b : Int)) ∧ b ≤ 31 ∧ (2 : Int) ^ b ≤ v ∧ v < 2 ^ (b + 1) := by
  obtain ⟨b, h1, h2, h3, h4⟩ := h
  exact ⟨b, by rw [i_add] <;> rw [iT32, h1] <;> omega, h2, h3, h4⟩
abbrev rm_J13_numberOfLeadingZeros_95d88 : Room := { frames := 1, cells := 0, slots := 0, locals := 21 }
set_option maxHeartbeats 4000000 in
set_option maxRecDepth 100000 in
theorem c_J13_numberOfLeadingZeros_95d88 (l : Launch) (G : jG) (v : Int64) (hv : 0 < v.toInt ∧ v.toInt < 4294967296) : Ct l yJ13_numberOfLeadingZeros_95d88 wsJ13_numberOfLeadingZeros_95d88 rm_J13_numberOfLeadingZeros_95d88 G [.long v] [] (S := Int32) (fun r (u : Int32) => r = some (.int u) ∧ ∃ b : Nat, u.toInt = 32 + (31 - (b : Int)) ∧ b ≤ 31 ∧ (2 : Int) ^ b ≤ v.toInt ∧ v.toInt < 2 ^ (b + 1)) (fun _ => []) (fun _ => []) := by
  refine c_intro (cc := cJ13_numberOfLeadingZeros_95d88) (maxL := 3) (ret := (some .int)) (by decide) rfl (Nat.le_of_ble_eq_true rfl) (fun _ => by simp only [List.map_cons, List.map_nil]) ?_
  intro p e s m args below meth c Q A X hr hin E
  change J p l e rm_J13_numberOfLeadingZeros_95d88 s m args below meth c Q G A 3 0 0 0 [(0, .long v)] [] []
  refine j_lload_n X dJ13_numberOfLeadingZeros_95d88_0 rfl 0 rfl ?_
  refine j_bipush (v := 32) X dJ13_numberOfLeadingZeros_95d88_1 (by decide) ?_
  obtain ⟨x_1, ex_1⟩ : ∃ z9 : Int64, (v.toUInt64 >>> ((32 : Int32).toInt64.toUInt64 &&& Int64.toUInt64 63)).toInt64 = z9 := ⟨_, rfl⟩
  refine j_lushr (v := x_1) X dJ13_numberOfLeadingZeros_95d88_3 ex_1 ?_
  have hx0 := l_u32 ⟨by omega, hv.2⟩ ex_1
  subst hx0
  change J p l e rm_J13_numberOfLeadingZeros_95d88 s m args below meth c Q G A 3 0 0 4 [(0, .long v)] [.long 0] []
  refine j_l2i X dJ13_numberOfLeadingZeros_95d88_4 rfl ?_
  rw [show (0 : Int64).toInt32 = 0 from rfl]
  refine j_istore_n (L' := [(2, .int 0), (0, .long v)]) X dJ13_numberOfLeadingZeros_95d88_5 rfl (by decide) rfl ?_
  refine j_iload_n X dJ13_numberOfLeadingZeros_95d88_6 rfl 0 rfl ?_
  refine j_if_ne (tgt := 21) X dJ13_numberOfLeadingZeros_95d88_7 (by decide) (fun c9 => absurd c9 (by decide)) (fun _ => ?_)
  refine j_bipush (v := 32) X dJ13_numberOfLeadingZeros_95d88_10 (by decide) ?_
  refine j_lload_n X dJ13_numberOfLeadingZeros_95d88_12 rfl 1 rfl ?_
  refine j_l2i X dJ13_numberOfLeadingZeros_95d88_13 rfl ?_
  refine j_callS X dJ13_numberOfLeadingZeros_95d88_14 (c_J6_numberOfLeadingZeros_0f7a4 l G v.toInt32) gJ13_numberOfLeadingZeros_95d88_J6_numberOfLeadingZeros_0f7a4 rfl hy_J6_numberOfLeadingZeros_0f7a4_S ⟨Nat.le_of_ble_eq_true rfl, Nat.le_of_ble_eq_true rfl⟩ [] rfl (by decide) rfl rfl (Nat.le_of_ble_eq_true rfl) ⟨Nat.le_of_ble_eq_true rfl, Nat.le_of_ble_eq_true rfl⟩ ?_
  rintro _ w_2 ⟨rfl, hnw_2, hpw_2⟩
  change J p l e rm_J13_numberOfLeadingZeros_95d88 s m args below meth c Q G A 3 0 0 17 [(2, .int 0), (0, .long v)] [.int w_2, .int 32] []
  refine j_iadd X dJ13_numberOfLeadingZeros_95d88_17 ?_
  refine j_goto (tgt := 25) X dJ13_numberOfLeadingZeros_95d88_18 (by decide) ?_
  exact E.2.1 25 _ (32 + w_2) (32 + w_2) _ dJ13_numberOfLeadingZeros_95d88_25 (⟨rfl, nl_32 (nl_n hv rfl hnw_2 hpw_2)⟩) hr rfl

theorem hy_J13_numberOfLeadingZeros_95d88_S : yJ13_numberOfLeadingZeros_95d88.cls ≠ "java/lang/invoke/MethodHandle" ∧ yJ13_numberOfLeadingZeros_95d88.cls ≠ "java/lang/invoke/VarHandle" ∧ (parseMethodDescriptor yJ13_numberOfLeadingZeros_95d88.desc).map (fun d => d.parameters.length) = some 1 := by decide +kernel
abbrev rm_X9_bits : Room := { frames := 2, cells := 0, slots := 0, locals := 43 }
theorem in_X9_bits_X9 : ∀ w ∈ u_ws RX9 TX9 1, w ∈ wsX9_bits := by decide +kernel
theorem fl_X9_bits_9 : Cond.fieldLink RX9 9 (TX9 0).1 (TX9 0).2.1 (TX9 0).2.2.1 ∈ wsX9_bits := by decide +kernel
set_option maxHeartbeats 4000000 in
set_option maxRecDepth 100000 in
theorem c_X9_bits (l : Launch) (G : jG) (w a : Nat) (z : Int) (hz : 0 ≤ z ∧ z < 115792089237316195423570985008687907853269984665640564039457584007913129639936) : Ct l yX9_bits wsX9_bits rm_X9_bits G [.ref w] [(w, .inr (8, [.ref a])), (a, aJ G 8 (dg z))] (S := Nat) (fun r u => r = some (.int (nI u)) ∧ btR z u ∧ u ≤ 256) (fun _ => [(w, .inr (8, [.ref a])), (a, aJ G 8 (dg z))]) (fun _ => []) := by
  refine c_intro (cc := cX9_bits) (maxL := 2) (ret := (some .int)) (by decide) rfl (Nat.le_of_ble_eq_true rfl) (fun _ => by simp only [List.map_cons, List.map_nil]) ?_
  intro p e s m args below meth c Q A X hr hin E
  change J p l e rm_X9_bits s m args below meth c Q G A 2 0 0 0 [(0, .ref w)] [] [(w, .inr (8, [.ref a])), (a, aJ G 8 (dg z))]
  refine j_bipush (v := 7) X dX9_bits_0 (by decide) ?_
  refine j_istore_n (L' := [(1, .int 7), (0, .ref w)]) X dX9_bits_2 rfl (by decide) rfl ?_
  have loop : ∀ (d : Nat) (k : Nat) (t : Int32) (hk : k ≤ 8) (ht : t.toInt = (k : Int) - 1) (he : z / dP k = 0), k < d → J p l e rm_X9_bits s m args below meth c Q G A 2 0 0 3 [(0, .ref w), (1, .int t)] [] [(w, .inr (8, [.ref a])), (a, aJ G 8 (dg z))] := by
    intro d
    induction d with
    | zero => intro k t hk ht he hd0; exact absurd hd0 (Nat.not_lt_zero _)
    | succ d ih =>
      intro k t hk ht he hd0
      refine j_iload_n X dX9_bits_3 rfl 1 rfl ?_
      refine j_if_lt (tgt := 42) X dX9_bits_4 (by decide) (fun c_4 => ?_) (fun c_4 => ?_)
      · skip
        first | simp only [cmp_eq, cmp_lt, cmp_ge, cmp_gt, cmp_le, lT0, lT1] at c_4 | simp only [Int32.le_iff_toInt_le, Int32.lt_iff_toInt_lt, ← Int32.toInt_inj, iT0, iT1, iT2, iT3, iT4, iT5, iT6, iT7, iT8, iT9, iT10, iT11, iT12, iT13, iT14, iT15, iT16, iT19, iT20, iT31, iT32, iT42, iT64, iT200, iT318, iT319, iT1000, iTm1, iTm2] at c_4
        have hk0 : k = 0 := by omega
        subst hk0
        refine j_iconst (v := 0) X dX9_bits_42 rfl ?_
        exact E.2.1 43 _ 0 0 _ dX9_bits_43 (⟨rfl, bt_0 (by rw [dP_0, Int.ediv_one] at he; exact he), by omega⟩) hr rfl
      · skip
        first | simp only [cmp_eq, cmp_lt, cmp_ge, cmp_gt, cmp_le, lT0, lT1] at c_4 | simp only [Int32.le_iff_toInt_le, Int32.lt_iff_toInt_lt, ← Int32.toInt_inj, iT0, iT1, iT2, iT3, iT4, iT5, iT6, iT7, iT8, iT9, iT10, iT11, iT12, iT13, iT14, iT15, iT16, iT19, iT20, iT31, iT32, iT42, iT64, iT200, iT318, iT319, iT1000, iTm1, iTm2] at c_4
        obtain ⟨k, rfl⟩ : ∃ k1, k = k1 + 1 := ⟨k - 1, by omega⟩
        have htp := bt_top hz.1 he
        refine j_aload_n X dX9_bits_7 rfl 0 rfl ?_
        refine j_get (v := .ref a) X dX9_bits_8 0 rfl 0 rfl in_X9_bits_X9 (by decide) fl_X9_bits_9 rfl ?_
        refine j_iload_n X dX9_bits_11 rfl 1 rfl ?_
        refine j_lald X dX9_bits_12 1 rfl k (i_nI (by omega) (by omega)) (by omega) (by decide) ?_
        refine j_lconst (v := 0) X dX9_bits_13 rfl ?_
        refine j_lcmp X dX9_bits_14 ?_
        refine j_if_eq (tgt := 36) X dX9_bits_15 (by decide) (fun c_15 => ?_) (fun c_15 => ?_)
        · skip
          first | simp only [cmp_eq, cmp_lt, cmp_ge, cmp_gt, cmp_le, lT0, lT1] at c_15 | simp only [Int32.le_iff_toInt_le, Int32.lt_iff_toInt_lt, ← Int32.toInt_inj, iT0, iT1, iT2, iT3, iT4, iT5, iT6, iT7, iT8, iT9, iT10, iT11, iT12, iT13, iT14, iT15, iT16, iT19, iT20, iT31, iT32, iT42, iT64, iT200, iT318, iT319, iT1000, iTm1, iTm2] at c_15
          obtain ⟨x_1, ex_1⟩ : ∃ y9 : Int32, y9 = t + (-1) := ⟨_, rfl⟩
          refine j_iinc (v := x_1) (L' := [(1, .int x_1), (0, .ref w)]) X dX9_bits_36 1 rfl (by rw [ex_1]; rfl) (by decide) rfl ?_
          refine j_goto (tgt := 3) X dX9_bits_39 (by decide) ?_
          refine j_sub [1, 0] rfl ?_
          exact ih k x_1 (by omega) (by rw [x_dec ht (by omega) ex_1]; omega) (bt_nx hz.1 he c_15) (by omega)
        · skip
          first | simp only [cmp_eq, cmp_lt, cmp_ge, cmp_gt, cmp_le, lT0, lT1] at c_15 | simp only [Int32.le_iff_toInt_le, Int32.lt_iff_toInt_lt, ← Int32.toInt_inj, iT0, iT1, iT2, iT3, iT4, iT5, iT6, iT7, iT8, iT9, iT10, iT11, iT12, iT13, iT14, iT15, iT16, iT19, iT20, iT31, iT32, iT42, iT64, iT200, iT318, iT319, iT1000, iTm1, iTm2] at c_15
          refine j_bipush (v := 32) X dX9_bits_18 (by decide) ?_
          refine j_iload_n X dX9_bits_20 rfl 1 rfl ?_
          refine j_imul X dX9_bits_21 ?_
          refine j_bipush (v := 64) X dX9_bits_22 (by decide) ?_
          refine j_iadd X dX9_bits_24 ?_
          refine j_aload_n X dX9_bits_25 rfl 0 rfl ?_
          refine j_get (v := .ref a) X dX9_bits_26 0 rfl 0 rfl in_X9_bits_X9 (by decide) fl_X9_bits_9 rfl ?_
          refine j_iload_n X dX9_bits_29 rfl 1 rfl ?_
          refine j_lald X dX9_bits_30 1 rfl k (i_nI (by omega) (by omega)) (by omega) (by decide) ?_
          refine j_callS X dX9_bits_31 (c_J13_numberOfLeadingZeros_95d88 l G ((dg z) k) ⟨by omega, by omega⟩) gX9_bits_J13_numberOfLeadingZeros_95d88 rfl hy_J13_numberOfLeadingZeros_95d88_S ⟨Nat.le_of_ble_eq_true rfl, Nat.le_of_ble_eq_true rfl⟩ [] rfl (by decide) rfl rfl (Nat.le_of_ble_eq_true rfl) ⟨Nat.le_of_ble_eq_true rfl, Nat.le_of_ble_eq_true rfl⟩ ?_
          rintro _ w_2 ⟨rfl, bw_2, hvw_2, hbw_2, h1w_2, h2w_2⟩
          change J p l e rm_X9_bits s m args below meth c Q G A 2 0 0 34 [(0, .ref w), (1, .int t)] [.int w_2, .int ((32 * t) + 64)] [(w, .inr (8, [.ref a])), (a, aJ G 8 (dg z))]
          refine j_isub X dX9_bits_34 ?_
          exact E.2.1 35 _ (((32 * t) + 64) - w_2) (32 * k + bw_2 + 1) _ dX9_bits_35 (⟨congrArg (fun q => some (Value.int q)) (bt_v (by omega) (by omega) hbw_2 hvw_2 rfl), bt_k (bt_top hz.1 he).1 h1w_2 h2w_2, by omega⟩) hr rfl
  refine j_sub [1, 0] rfl ?_
  exact loop 9 8 7 (by omega) rfl (by rw [dP_8]; omega) (by omega)

theorem hy_X9_bits_V : yX9_bits.cls = RX9 ∧ yX9_bits.cls ≠ "java/lang/invoke/MethodHandle" ∧ yX9_bits.cls ≠ "java/lang/invoke/VarHandle" ∧ (parseMethodDescriptor yX9_bits.desc).map (fun d => d.parameters.length) = some 0 := by decide +kernel
