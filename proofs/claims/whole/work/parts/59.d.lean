abbrev rm_X0_reaches : Room := { frames := 0, cells := 0, slots := 0, locals := 0 }
theorem in_X0_reaches_X0 : ∀ w ∈ u_ws RX0 TX0 5, w ∈ wsX0_reaches := by decide +kernel
theorem fl_X0_reaches_19 : Cond.fieldLink RX0 19 (TX0 3).1 (TX0 3).2.1 (TX0 3).2.2.1 ∈ wsX0_reaches := by decide +kernel
theorem fl_X0_reaches_23 : Cond.fieldLink RX0 23 (TX0 4).1 (TX0 4).2.1 (TX0 4).2.2.1 ∈ wsX0_reaches := by decide +kernel
set_option maxHeartbeats 4000000 in
set_option maxRecDepth 100000 in
theorem c_X0_reaches (l : Launch) (G : jG) (p0 : Nat) (pcx pcy pr : Int64) (pf pt : Int32) (hp : arH pcx pcy pr pf pt) (x y d sm : Int32) (hc : rcC x y d sm) : Ct l yX0_reaches wsX0_reaches rm_X0_reaches G [.ref p0, .int x, .int y, .int d, .int sm] [(p0, .inr (0, [.long pcx, .long pcy, .long pr, .int pf, .int pt]))] (S := Unit) (fun r _ => r = some (.int (bI (trn pf.toInt pt.toInt (posn x y d sm).toInt)))) (fun _ => [(p0, .inr (0, [.long pcx, .long pcy, .long pr, .int pf, .int pt]))]) (fun _ => []) := by
  refine c_intro (cc := cX0_reaches) (maxL := 8) (ret := (some .boolean)) (by decide) rfl (Nat.le_of_ble_eq_true rfl) (fun _ => by simp only [List.map_cons, List.map_nil]) ?_
  intro p e s m args below meth c Q A X hr hin E
  change J p l e rm_X0_reaches s m args below meth c Q G A 8 0 0 0 [(0, .ref p0), (1, .int x), (2, .int y), (3, .int d), (4, .int sm)] [] [(p0, .inr (0, [.long pcx, .long pcy, .long pr, .int pf, .int pt]))]
  refine j_aload_n X dX0_reaches_0 rfl 0 rfl ?_
  refine j_get (v := .int pf) X dX0_reaches_1 0 rfl 3 rfl in_X0_reaches_X0 (by decide) fl_X0_reaches_19 rfl ?_
  refine j_aload_n X dX0_reaches_4 rfl 0 rfl ?_
  refine j_get (v := .int pt) X dX0_reaches_5 0 rfl 4 rfl in_X0_reaches_X0 (by decide) fl_X0_reaches_23 rfl ?_
  refine j_icmp_ne (tgt := 13) X dX0_reaches_8 (by decide) (fun c_8 => ?_) (fun c_8 => ?_)
  · skip
    refine j_iload_n X dX0_reaches_13 rfl 2 rfl ?_
    refine j_if_lt (tgt := 25) X dX0_reaches_14 (by decide) (fun c_14 => ?_) (fun c_14 => ?_)
    · skip
      refine j_iconst (v := 1) X dX0_reaches_25 rfl ?_
      refine j_goto (tgt := 30) X dX0_reaches_26 (by decide) ?_
      refine j_istore (L' := [(5, .int 1), (0, .ref p0), (1, .int x), (2, .int y), (3, .int d), (4, .int sm)]) X dX0_reaches_30 (by decide) rfl ?_
      refine j_iload X dX0_reaches_32 0 rfl ?_
      refine j_if_eq (tgt := 41) X dX0_reaches_34 (by decide) (fun c9 => absurd c9 (by decide)) (fun _ => ?_)
      refine j_iconst (v := (-1)) X dX0_reaches_37 rfl ?_
      refine j_goto (tgt := 42) X dX0_reaches_38 (by decide) ?_
      refine j_istore (L' := [(6, .int (-1)), (5, .int 1), (0, .ref p0), (1, .int x), (2, .int y), (3, .int d), (4, .int sm)]) X dX0_reaches_42 (by decide) rfl ?_
      refine j_iload X dX0_reaches_44 1 rfl ?_
      refine j_if_eq (tgt := 54) X dX0_reaches_46 (by decide) (fun c9 => absurd c9 (by decide)) (fun _ => ?_)
      refine j_bipush (v := 8) X dX0_reaches_49 (by decide) ?_
      refine j_goto (tgt := 55) X dX0_reaches_51 (by decide) ?_
      refine j_iload_n X dX0_reaches_55 rfl 4 rfl ?_
      refine j_if_ne (tgt := 63) X dX0_reaches_56 (by decide) (fun c_56 => ?_) (fun c_56 => ?_)
      · skip
        refine j_iconst (v := 1) X dX0_reaches_63 rfl ?_
        refine j_iadd X dX0_reaches_64 ?_
        rw [show (8 : Int32) + 1 = 9 from by decide]
        refine j_iconst (v := 3) X dX0_reaches_65 rfl ?_
        refine j_iadd X dX0_reaches_66 ?_
        rw [show (9 : Int32) + 3 = 12 from by decide]
        refine j_iload X dX0_reaches_67 0 rfl ?_
        refine j_iload_n X dX0_reaches_69 rfl 5 rfl ?_
        refine j_iload_n X dX0_reaches_70 rfl 3 rfl ?_
        refine j_iadd X dX0_reaches_71 ?_
        refine j_iload X dX0_reaches_72 6 rfl ?_
        refine j_iadd X dX0_reaches_74 ?_
        refine j_imul X dX0_reaches_75 ?_
        refine j_isub X dX0_reaches_76 ?_
        rw [show 12 - ((-1) * ((d + x) + sm)) = posn x y d sm from rc_1 hc c_14 rfl]
        refine j_topi (fun x_1 ex_1 => ?_)
        refine j_istore (L' := [(7, .int x_1), (6, .int (-1)), (5, .int 1), (0, .ref p0), (1, .int x), (2, .int y), (3, .int d), (4, .int sm)]) X dX0_reaches_77 (by decide) rfl ?_
        refine j_iload X dX0_reaches_79 0 rfl ?_
        refine j_iconst (v := 2) X dX0_reaches_81 rfl ?_
        refine j_aload_n X dX0_reaches_82 rfl 3 rfl ?_
        refine j_get (v := .int pf) X dX0_reaches_83 0 rfl 3 rfl in_X0_reaches_X0 (by decide) fl_X0_reaches_19 rfl ?_
        refine j_imul X dX0_reaches_86 ?_
        refine j_isub X dX0_reaches_87 ?_
        refine j_bipush (v := 15) X dX0_reaches_88 (by decide) ?_
        refine j_iand X dX0_reaches_90 ?_
        refine j_iconst (v := 2) X dX0_reaches_91 rfl ?_
        refine j_aload_n X dX0_reaches_92 rfl 3 rfl ?_
        refine j_get (v := .int pt) X dX0_reaches_93 0 rfl 4 rfl in_X0_reaches_X0 (by decide) fl_X0_reaches_23 rfl ?_
        refine j_imul X dX0_reaches_96 ?_
        refine j_iconst (v := 2) X dX0_reaches_97 rfl ?_
        refine j_aload_n X dX0_reaches_98 rfl 3 rfl ?_
        refine j_get (v := .int pf) X dX0_reaches_99 0 rfl 3 rfl in_X0_reaches_X0 (by decide) fl_X0_reaches_19 rfl ?_
        refine j_imul X dX0_reaches_102 ?_
        refine j_isub X dX0_reaches_103 ?_
        refine j_bipush (v := 15) X dX0_reaches_104 (by decide) ?_
        refine j_iand X dX0_reaches_106 ?_
        refine j_icmp_gt (tgt := 114) X dX0_reaches_107 (by decide) (fun c_107 => ?_) (fun c_107 => ?_)
        · skip
          have hpp : x_1 = posn x y d sm := ex_1
          obtain ⟨q1, q2⟩ := rc_e (rc_r hc) hp.2.2.1 hp.2.2.2
          rw [hpp, Int32.lt_iff_toInt_lt, q1, q2] at c_107
          refine j_iconst (v := 0) X dX0_reaches_114 rfl ?_
          exact E.2.1 115 _ 0 () _ dX0_reaches_115 (by rw [bI_f (fun h => h.elim (fun h => c_8 (Int32.toInt_inj.mp h)) (fun h => by omega))]) hr rfl
        · skip
          have hpp : x_1 = posn x y d sm := ex_1
          obtain ⟨q1, q2⟩ := rc_e (rc_r hc) hp.2.2.1 hp.2.2.2
          rw [hpp, Int32.lt_iff_toInt_lt, q1, q2] at c_107
          refine j_iconst (v := 1) X dX0_reaches_110 rfl ?_
          refine j_goto (tgt := 115) X dX0_reaches_111 (by decide) ?_
          exact E.2.1 115 _ 1 () _ dX0_reaches_115 (by rw [bI_t (Or.inr (by omega))]) hr rfl
      · skip
        exact absurd c_14 (by rw [c_56]; decide)
    · skip
      refine j_iload_n X dX0_reaches_17 rfl 2 rfl ?_
      refine j_if_ne (tgt := 29) X dX0_reaches_18 (by decide) (fun c_18 => ?_) (fun c_18 => ?_)
      · skip
        refine j_iconst (v := 0) X dX0_reaches_29 rfl ?_
        refine j_istore (L' := [(5, .int 0), (0, .ref p0), (1, .int x), (2, .int y), (3, .int d), (4, .int sm)]) X dX0_reaches_30 (by decide) rfl ?_
        refine j_iload X dX0_reaches_32 0 rfl ?_
        refine j_if_eq (tgt := 41) X dX0_reaches_34 (by decide) (fun _ => ?_) (fun c9 => absurd c9 (by decide))
        refine j_iconst (v := 1) X dX0_reaches_41 rfl ?_
        refine j_istore (L' := [(6, .int 1), (5, .int 0), (0, .ref p0), (1, .int x), (2, .int y), (3, .int d), (4, .int sm)]) X dX0_reaches_42 (by decide) rfl ?_
        refine j_iload X dX0_reaches_44 1 rfl ?_
        refine j_if_eq (tgt := 54) X dX0_reaches_46 (by decide) (fun _ => ?_) (fun c9 => absurd c9 (by decide))
        refine j_iconst (v := 0) X dX0_reaches_54 rfl ?_
        refine j_iload_n X dX0_reaches_55 rfl 4 rfl ?_
        refine j_if_ne (tgt := 63) X dX0_reaches_56 (by decide) (fun c_56 => ?_) (fun c_56 => ?_)
        · skip
          refine j_iconst (v := 1) X dX0_reaches_63 rfl ?_
          refine j_iadd X dX0_reaches_64 ?_
          rw [show (0 : Int32) + 1 = 1 from by decide]
          refine j_iconst (v := 3) X dX0_reaches_65 rfl ?_
          refine j_iadd X dX0_reaches_66 ?_
          rw [show (1 : Int32) + 3 = 4 from by decide]
          refine j_iload X dX0_reaches_67 0 rfl ?_
          refine j_iload_n X dX0_reaches_69 rfl 5 rfl ?_
          refine j_iload_n X dX0_reaches_70 rfl 3 rfl ?_
          refine j_iadd X dX0_reaches_71 ?_
          refine j_iload X dX0_reaches_72 6 rfl ?_
          refine j_iadd X dX0_reaches_74 ?_
          refine j_imul X dX0_reaches_75 ?_
          refine j_isub X dX0_reaches_76 ?_
          rw [show 4 - (1 * ((d + x) + sm)) = posn x y d sm from rc_4 hc c_14 c_18 rfl]
          refine j_topi (fun x_2 ex_2 => ?_)
          refine j_istore (L' := [(7, .int x_2), (6, .int 1), (5, .int 0), (0, .ref p0), (1, .int x), (2, .int y), (3, .int d), (4, .int sm)]) X dX0_reaches_77 (by decide) rfl ?_
          refine j_iload X dX0_reaches_79 0 rfl ?_
          refine j_iconst (v := 2) X dX0_reaches_81 rfl ?_
          refine j_aload_n X dX0_reaches_82 rfl 3 rfl ?_
          refine j_get (v := .int pf) X dX0_reaches_83 0 rfl 3 rfl in_X0_reaches_X0 (by decide) fl_X0_reaches_19 rfl ?_
          refine j_imul X dX0_reaches_86 ?_
          refine j_isub X dX0_reaches_87 ?_
          refine j_bipush (v := 15) X dX0_reaches_88 (by decide) ?_
          refine j_iand X dX0_reaches_90 ?_
          refine j_iconst (v := 2) X dX0_reaches_91 rfl ?_
          refine j_aload_n X dX0_reaches_92 rfl 3 rfl ?_
          refine j_get (v := .int pt) X dX0_reaches_93 0 rfl 4 rfl in_X0_reaches_X0 (by decide) fl_X0_reaches_23 rfl ?_
          refine j_imul X dX0_reaches_96 ?_
          refine j_iconst (v := 2) X dX0_reaches_97 rfl ?_
          refine j_aload_n X dX0_reaches_98 rfl 3 rfl ?_
          refine j_get (v := .int pf) X dX0_reaches_99 0 rfl 3 rfl in_X0_reaches_X0 (by decide) fl_X0_reaches_19 rfl ?_
          refine j_imul X dX0_reaches_102 ?_
          refine j_isub X dX0_reaches_103 ?_
          refine j_bipush (v := 15) X dX0_reaches_104 (by decide) ?_
          refine j_iand X dX0_reaches_106 ?_
          refine j_icmp_gt (tgt := 114) X dX0_reaches_107 (by decide) (fun c_107 => ?_) (fun c_107 => ?_)
          · skip
            have hpp : x_2 = posn x y d sm := ex_2
            obtain ⟨q1, q2⟩ := rc_e (rc_r hc) hp.2.2.1 hp.2.2.2
            rw [hpp, Int32.lt_iff_toInt_lt, q1, q2] at c_107
            refine j_iconst (v := 0) X dX0_reaches_114 rfl ?_
            exact E.2.1 115 _ 0 () _ dX0_reaches_115 (by rw [bI_f (fun h => h.elim (fun h => c_8 (Int32.toInt_inj.mp h)) (fun h => by omega))]) hr rfl
          · skip
            have hpp : x_2 = posn x y d sm := ex_2
            obtain ⟨q1, q2⟩ := rc_e (rc_r hc) hp.2.2.1 hp.2.2.2
            rw [hpp, Int32.lt_iff_toInt_lt, q1, q2] at c_107
            refine j_iconst (v := 1) X dX0_reaches_110 rfl ?_
            refine j_goto (tgt := 115) X dX0_reaches_111 (by decide) ?_
            exact E.2.1 115 _ 1 () _ dX0_reaches_115 (by rw [bI_t (Or.inr (by omega))]) hr rfl
        · skip
          exact absurd c_56 c_18
      · skip
        refine j_iload_n X dX0_reaches_21 rfl 1 rfl ?_
        refine j_if_ge (tgt := 29) X dX0_reaches_22 (by decide) (fun c_22 => ?_) (fun c_22 => ?_)
        · skip
          refine j_iconst (v := 0) X dX0_reaches_29 rfl ?_
          refine j_istore (L' := [(5, .int 0), (0, .ref p0), (1, .int x), (2, .int y), (3, .int d), (4, .int sm)]) X dX0_reaches_30 (by decide) rfl ?_
          refine j_iload X dX0_reaches_32 0 rfl ?_
          refine j_if_eq (tgt := 41) X dX0_reaches_34 (by decide) (fun _ => ?_) (fun c9 => absurd c9 (by decide))
          refine j_iconst (v := 1) X dX0_reaches_41 rfl ?_
          refine j_istore (L' := [(6, .int 1), (5, .int 0), (0, .ref p0), (1, .int x), (2, .int y), (3, .int d), (4, .int sm)]) X dX0_reaches_42 (by decide) rfl ?_
          refine j_iload X dX0_reaches_44 1 rfl ?_
          refine j_if_eq (tgt := 54) X dX0_reaches_46 (by decide) (fun _ => ?_) (fun c9 => absurd c9 (by decide))
          refine j_iconst (v := 0) X dX0_reaches_54 rfl ?_
          refine j_iload_n X dX0_reaches_55 rfl 4 rfl ?_
          refine j_if_ne (tgt := 63) X dX0_reaches_56 (by decide) (fun c_56 => ?_) (fun c_56 => ?_)
          · skip
            exact absurd c_18 c_56
          · skip
            refine j_iconst (v := 0) X dX0_reaches_59 rfl ?_
            refine j_goto (tgt := 64) X dX0_reaches_60 (by decide) ?_
            refine j_iadd X dX0_reaches_64 ?_
            rw [show (0 : Int32) + 0 = 0 from by decide]
            refine j_iconst (v := 3) X dX0_reaches_65 rfl ?_
            refine j_iadd X dX0_reaches_66 ?_
            rw [show (0 : Int32) + 3 = 3 from by decide]
            refine j_iload X dX0_reaches_67 0 rfl ?_
            refine j_iload_n X dX0_reaches_69 rfl 5 rfl ?_
            refine j_iload_n X dX0_reaches_70 rfl 3 rfl ?_
            refine j_iadd X dX0_reaches_71 ?_
            refine j_iload X dX0_reaches_72 6 rfl ?_
            refine j_iadd X dX0_reaches_74 ?_
            refine j_imul X dX0_reaches_75 ?_
            refine j_isub X dX0_reaches_76 ?_
            rw [show 3 - (1 * ((d + x) + sm)) = posn x y d sm from rc_3 hc c_18 c_22 rfl]
            refine j_topi (fun x_3 ex_3 => ?_)
            refine j_istore (L' := [(7, .int x_3), (6, .int 1), (5, .int 0), (0, .ref p0), (1, .int x), (2, .int y), (3, .int d), (4, .int sm)]) X dX0_reaches_77 (by decide) rfl ?_
            refine j_iload X dX0_reaches_79 0 rfl ?_
            refine j_iconst (v := 2) X dX0_reaches_81 rfl ?_
            refine j_aload_n X dX0_reaches_82 rfl 3 rfl ?_
            refine j_get (v := .int pf) X dX0_reaches_83 0 rfl 3 rfl in_X0_reaches_X0 (by decide) fl_X0_reaches_19 rfl ?_
            refine j_imul X dX0_reaches_86 ?_
            refine j_isub X dX0_reaches_87 ?_
            refine j_bipush (v := 15) X dX0_reaches_88 (by decide) ?_
            refine j_iand X dX0_reaches_90 ?_
            refine j_iconst (v := 2) X dX0_reaches_91 rfl ?_
            refine j_aload_n X dX0_reaches_92 rfl 3 rfl ?_
            refine j_get (v := .int pt) X dX0_reaches_93 0 rfl 4 rfl in_X0_reaches_X0 (by decide) fl_X0_reaches_23 rfl ?_
            refine j_imul X dX0_reaches_96 ?_
            refine j_iconst (v := 2) X dX0_reaches_97 rfl ?_
            refine j_aload_n X dX0_reaches_98 rfl 3 rfl ?_
            refine j_get (v := .int pf) X dX0_reaches_99 0 rfl 3 rfl in_X0_reaches_X0 (by decide) fl_X0_reaches_19 rfl ?_
            refine j_imul X dX0_reaches_102 ?_
            refine j_isub X dX0_reaches_103 ?_
            refine j_bipush (v := 15) X dX0_reaches_104 (by decide) ?_
            refine j_iand X dX0_reaches_106 ?_
            refine j_icmp_gt (tgt := 114) X dX0_reaches_107 (by decide) (fun c_107 => ?_) (fun c_107 => ?_)
            · skip
              have hpp : x_3 = posn x y d sm := ex_3
              obtain ⟨q1, q2⟩ := rc_e (rc_r hc) hp.2.2.1 hp.2.2.2
              rw [hpp, Int32.lt_iff_toInt_lt, q1, q2] at c_107
              refine j_iconst (v := 0) X dX0_reaches_114 rfl ?_
              exact E.2.1 115 _ 0 () _ dX0_reaches_115 (by rw [bI_f (fun h => h.elim (fun h => c_8 (Int32.toInt_inj.mp h)) (fun h => by omega))]) hr rfl
            · skip
              have hpp : x_3 = posn x y d sm := ex_3
              obtain ⟨q1, q2⟩ := rc_e (rc_r hc) hp.2.2.1 hp.2.2.2
              rw [hpp, Int32.lt_iff_toInt_lt, q1, q2] at c_107
              refine j_iconst (v := 1) X dX0_reaches_110 rfl ?_
              refine j_goto (tgt := 115) X dX0_reaches_111 (by decide) ?_
              exact E.2.1 115 _ 1 () _ dX0_reaches_115 (by rw [bI_t (Or.inr (by omega))]) hr rfl
        · skip
          rw [Int32.not_le] at c_22
          refine j_iconst (v := 1) X dX0_reaches_25 rfl ?_
          refine j_goto (tgt := 30) X dX0_reaches_26 (by decide) ?_
          refine j_istore (L' := [(5, .int 1), (0, .ref p0), (1, .int x), (2, .int y), (3, .int d), (4, .int sm)]) X dX0_reaches_30 (by decide) rfl ?_
          refine j_iload X dX0_reaches_32 0 rfl ?_
          refine j_if_eq (tgt := 41) X dX0_reaches_34 (by decide) (fun c9 => absurd c9 (by decide)) (fun _ => ?_)
          refine j_iconst (v := (-1)) X dX0_reaches_37 rfl ?_
          refine j_goto (tgt := 42) X dX0_reaches_38 (by decide) ?_
          refine j_istore (L' := [(6, .int (-1)), (5, .int 1), (0, .ref p0), (1, .int x), (2, .int y), (3, .int d), (4, .int sm)]) X dX0_reaches_42 (by decide) rfl ?_
          refine j_iload X dX0_reaches_44 1 rfl ?_
          refine j_if_eq (tgt := 54) X dX0_reaches_46 (by decide) (fun c9 => absurd c9 (by decide)) (fun _ => ?_)
          refine j_bipush (v := 8) X dX0_reaches_49 (by decide) ?_
          refine j_goto (tgt := 55) X dX0_reaches_51 (by decide) ?_
          refine j_iload_n X dX0_reaches_55 rfl 4 rfl ?_
          refine j_if_ne (tgt := 63) X dX0_reaches_56 (by decide) (fun c_56 => ?_) (fun c_56 => ?_)
          · skip
            exact absurd c_18 c_56
          · skip
            refine j_iconst (v := 0) X dX0_reaches_59 rfl ?_
            refine j_goto (tgt := 64) X dX0_reaches_60 (by decide) ?_
            refine j_iadd X dX0_reaches_64 ?_
            rw [show (8 : Int32) + 0 = 8 from by decide]
            refine j_iconst (v := 3) X dX0_reaches_65 rfl ?_
            refine j_iadd X dX0_reaches_66 ?_
            rw [show (8 : Int32) + 3 = 11 from by decide]
            refine j_iload X dX0_reaches_67 0 rfl ?_
            refine j_iload_n X dX0_reaches_69 rfl 5 rfl ?_
            refine j_iload_n X dX0_reaches_70 rfl 3 rfl ?_
            refine j_iadd X dX0_reaches_71 ?_
            refine j_iload X dX0_reaches_72 6 rfl ?_
            refine j_iadd X dX0_reaches_74 ?_
            refine j_imul X dX0_reaches_75 ?_
            refine j_isub X dX0_reaches_76 ?_
            rw [show 11 - ((-1) * ((d + x) + sm)) = posn x y d sm from rc_2 hc c_18 c_22 rfl]
            refine j_topi (fun x_4 ex_4 => ?_)
            refine j_istore (L' := [(7, .int x_4), (6, .int (-1)), (5, .int 1), (0, .ref p0), (1, .int x), (2, .int y), (3, .int d), (4, .int sm)]) X dX0_reaches_77 (by decide) rfl ?_
            refine j_iload X dX0_reaches_79 0 rfl ?_
            refine j_iconst (v := 2) X dX0_reaches_81 rfl ?_
            refine j_aload_n X dX0_reaches_82 rfl 3 rfl ?_
            refine j_get (v := .int pf) X dX0_reaches_83 0 rfl 3 rfl in_X0_reaches_X0 (by decide) fl_X0_reaches_19 rfl ?_
            refine j_imul X dX0_reaches_86 ?_
            refine j_isub X dX0_reaches_87 ?_
            refine j_bipush (v := 15) X dX0_reaches_88 (by decide) ?_
            refine j_iand X dX0_reaches_90 ?_
            refine j_iconst (v := 2) X dX0_reaches_91 rfl ?_
            refine j_aload_n X dX0_reaches_92 rfl 3 rfl ?_
            refine j_get (v := .int pt) X dX0_reaches_93 0 rfl 4 rfl in_X0_reaches_X0 (by decide) fl_X0_reaches_23 rfl ?_
            refine j_imul X dX0_reaches_96 ?_
            refine j_iconst (v := 2) X dX0_reaches_97 rfl ?_
            refine j_aload_n X dX0_reaches_98 rfl 3 rfl ?_
            refine j_get (v := .int pf) X dX0_reaches_99 0 rfl 3 rfl in_X0_reaches_X0 (by decide) fl_X0_reaches_19 rfl ?_
            refine j_imul X dX0_reaches_102 ?_
            refine j_isub X dX0_reaches_103 ?_
            refine j_bipush (v := 15) X dX0_reaches_104 (by decide) ?_
            refine j_iand X dX0_reaches_106 ?_
            refine j_icmp_gt (tgt := 114) X dX0_reaches_107 (by decide) (fun c_107 => ?_) (fun c_107 => ?_)
            · skip
              have hpp : x_4 = posn x y d sm := ex_4
              obtain ⟨q1, q2⟩ := rc_e (rc_r hc) hp.2.2.1 hp.2.2.2
              rw [hpp, Int32.lt_iff_toInt_lt, q1, q2] at c_107
              refine j_iconst (v := 0) X dX0_reaches_114 rfl ?_
              exact E.2.1 115 _ 0 () _ dX0_reaches_115 (by rw [bI_f (fun h => h.elim (fun h => c_8 (Int32.toInt_inj.mp h)) (fun h => by omega))]) hr rfl
            · skip
              have hpp : x_4 = posn x y d sm := ex_4
              obtain ⟨q1, q2⟩ := rc_e (rc_r hc) hp.2.2.1 hp.2.2.2
              rw [hpp, Int32.lt_iff_toInt_lt, q1, q2] at c_107
              refine j_iconst (v := 1) X dX0_reaches_110 rfl ?_
              refine j_goto (tgt := 115) X dX0_reaches_111 (by decide) ?_
              exact E.2.1 115 _ 1 () _ dX0_reaches_115 (by rw [bI_t (Or.inr (by omega))]) hr rfl
  · skip
    refine j_iconst (v := 1) X dX0_reaches_11 rfl ?_
    exact E.2.1 12 _ 1 () _ dX0_reaches_12 (by rw [bI_t (Or.inl (by rw [c_8]))]) hr rfl

theorem hy_X0_reaches_V : yX0_reaches.cls = RX0 ∧ yX0_reaches.cls ≠ "java/lang/invoke/MethodHandle" ∧ yX0_reaches.cls ≠ "java/lang/invoke/VarHandle" ∧ (parseMethodDescriptor yX0_reaches.desc).map (fun d => d.parameters.length) = some 4 := by decide +kernel
