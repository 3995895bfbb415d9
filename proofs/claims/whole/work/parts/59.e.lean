abbrev rm_X0_holds : Room := { frames := 3, cells := 0, slots := 0, locals := 96 }
theorem in_X0_holds_X0 : ∀ w ∈ u_ws RX0 TX0 5, w ∈ wsX0_holds := by decide +kernel
theorem fl_X0_holds_7 : Cond.fieldLink RX0 7 (TX0 0).1 (TX0 0).2.1 (TX0 0).2.2.1 ∈ wsX0_holds := by decide +kernel
theorem fl_X0_holds_13 : Cond.fieldLink RX0 13 (TX0 1).1 (TX0 1).2.1 (TX0 1).2.2.1 ∈ wsX0_holds := by decide +kernel
theorem fl_X0_holds_16 : Cond.fieldLink RX0 16 (TX0 2).1 (TX0 2).2.1 (TX0 2).2.2.1 ∈ wsX0_holds := by decide +kernel
theorem k_X0_holds_32 : Cond.constantLong RX0 32 (-1) ∈ wsX0_holds := by decide +kernel
set_option maxHeartbeats 4000000 in
set_option maxRecDepth 100000 in
theorem c_X0_holds (l : Launch) (G : jG) (p0 : Nat) (pcx pcy pr : Int64) (pf pt : Int32) (hp : arH pcx pcy pr pf pt) (w aw : Nat) (f : Nat → Int64) (x y : Int64) (hx : inC x.toInt) (hy : inC y.toInt) : Ct l yX0_holds wsX0_holds rm_X0_holds G [.ref p0, .long x, .long y, .ref w] [(p0, .inr (0, [.long pcx, .long pcy, .long pr, .int pf, .int pt])), (w, .inr (8, [.ref aw])), (aw, aJ G 8 f)] (S := Nat → Int64) (fun r _ => r = some (.int (bI (onA pcx.toInt pcy.toInt pr.toInt pf.toInt pt.toInt x.toInt y.toInt)))) (fun u => [(p0, .inr (0, [.long pcx, .long pcy, .long pr, .int pf, .int pt])), (w, .inr (8, [.ref aw])), (aw, aJ G 8 u)]) (fun _ => []) := by
  refine c_intro (cc := cX0_holds) (maxL := 10) (ret := (some .boolean)) (by decide) rfl (Nat.le_of_ble_eq_true rfl) (fun _ => by simp only [List.map_cons, List.map_nil]) ?_
  intro p e s m args below meth c Q A X hr hin E
  change J p l e rm_X0_holds s m args below meth c Q G A 10 0 0 0 [(0, .ref p0), (1, .long x), (3, .long y), (5, .ref w)] [] [(p0, .inr (0, [.long pcx, .long pcy, .long pr, .int pf, .int pt])), (w, .inr (8, [.ref aw])), (aw, aJ G 8 f)]
  refine j_lload_n X dX0_holds_0 rfl 1 rfl ?_
  refine j_aload_n X dX0_holds_1 rfl 0 rfl ?_
  refine j_get (v := .long pcx) X dX0_holds_2 0 rfl 0 rfl in_X0_holds_X0 (by decide) fl_X0_holds_7 rfl ?_
  refine j_lsub X dX0_holds_5 ?_
  refine j_topl (fun x_1 ex_1 => ?_)
  refine j_lstore (L' := [(6, .long x_1), (0, .ref p0), (1, .long x), (3, .long y), (5, .ref w)]) X dX0_holds_6 (by decide) rfl ?_
  refine j_lload_n X dX0_holds_8 rfl 3 rfl ?_
  refine j_aload_n X dX0_holds_9 rfl 1 rfl ?_
  refine j_get (v := .long pcy) X dX0_holds_10 0 rfl 1 rfl in_X0_holds_X0 (by decide) fl_X0_holds_13 rfl ?_
  refine j_lsub X dX0_holds_13 ?_
  refine j_topl (fun x_2 ex_2 => ?_)
  refine j_lstore (L' := [(8, .long x_2), (6, .long x_1), (0, .ref p0), (1, .long x), (3, .long y), (5, .ref w)]) X dX0_holds_14 (by decide) rfl ?_
  have hu : x_1.toInt = x.toInt - pcx.toInt := by rw [ex_1]; exact l_sC hx hp.1.1
  have hv : x_2.toInt = y.toInt - pcy.toInt := by rw [ex_2]; exact l_sC hy hp.1.2
  refine j_aload X dX0_holds_16 5 rfl ?_
  refine j_lload X dX0_holds_18 1 rfl ?_
  refine j_lload X dX0_holds_20 0 rfl ?_
  refine j_lload X dX0_holds_22 1 rfl ?_
  refine j_lload X dX0_holds_24 0 rfl ?_
  refine j_callV X dX0_holds_26 (c_X9_setToDot l G w aw f x_1 x_2 x_1 x_2) gX0_holds_X9_setToDot rfl hy_X9_setToDot_V ⟨Nat.le_of_ble_eq_true rfl, Nat.le_of_ble_eq_true rfl⟩ 0 rfl rfl [1, 2] rfl (by decide) rfl rfl (Nat.le_of_ble_eq_true rfl) ⟨Nat.le_of_ble_eq_true rfl, Nat.le_of_ble_eq_true rfl⟩ ?_
  rintro _ ⟨⟩ rfl
  change J p l e rm_X0_holds s m args below meth c Q G A 10 0 0 29 [(8, .long x_2), (6, .long x_1), (0, .ref p0), (1, .long x), (3, .long y), (5, .ref w)] [] [(p0, .inr (0, [.long pcx, .long pcy, .long pr, .int pf, .int pt])), (w, .inr (8, [.ref aw])), (aw, aJ G 8 (dg (x_1.toInt * x_1.toInt + x_2.toInt * x_2.toInt)))]
  refine j_aload X dX0_holds_29 5 rfl ?_
  refine j_aload_n X dX0_holds_31 rfl 2 rfl ?_
  refine j_get (v := .long pr) X dX0_holds_32 0 rfl 2 rfl in_X0_holds_X0 (by decide) fl_X0_holds_16 rfl ?_
  refine j_ldc2 (v := (-1)) X dX0_holds_35 k_X0_holds_32 ?_
  refine j_callV X dX0_holds_38 (c_X9_addProduct l G w aw (x_1.toInt * x_1.toInt + x_2.toInt * x_2.toInt) pr (-1)) gX0_holds_X9_addProduct rfl hy_X9_addProduct_V ⟨Nat.le_of_ble_eq_true rfl, Nat.le_of_ble_eq_true rfl⟩ 0 rfl rfl [1, 2] rfl (by decide) rfl rfl (Nat.le_of_ble_eq_true rfl) ⟨Nat.le_of_ble_eq_true rfl, Nat.le_of_ble_eq_true rfl⟩ ?_
  rintro _ ⟨⟩ rfl
  change J p l e rm_X0_holds s m args below meth c Q G A 10 0 0 41 [(8, .long x_2), (6, .long x_1), (0, .ref p0), (1, .long x), (3, .long y), (5, .ref w)] [] [(p0, .inr (0, [.long pcx, .long pcy, .long pr, .int pf, .int pt])), (w, .inr (8, [.ref aw])), (aw, aJ G 8 (dg ((x_1.toInt * x_1.toInt + x_2.toInt * x_2.toInt) + pr.toInt * (-1 : Int64).toInt)))]
  rw [show (-1 : Int64).toInt = -1 from rfl]
  rw [show ((x_1.toInt * x_1.toInt + x_2.toInt * x_2.toInt) + pr.toInt * (-1)) = (x.toInt - pcx.toInt) * (x.toInt - pcx.toInt) + (y.toInt - pcy.toInt) * (y.toInt - pcy.toInt) + pr.toInt * -1 from (by rw [hu, hv])]
  refine j_aload X dX0_holds_41 5 rfl ?_
  refine j_callV X dX0_holds_43 (c_X9_sign l G w aw ((x.toInt - pcx.toInt) * (x.toInt - pcx.toInt) + (y.toInt - pcy.toInt) * (y.toInt - pcy.toInt) + pr.toInt * -1) (sgnB (ar_S hx hy hp.1.1 hp.1.2 hp.2.1) (by decide))) gX0_holds_X9_sign rfl hy_X9_sign_V ⟨Nat.le_of_ble_eq_true rfl, Nat.le_of_ble_eq_true rfl⟩ 0 rfl rfl [1, 2] rfl (by decide) rfl rfl (Nat.le_of_ble_eq_true rfl) ⟨Nat.le_of_ble_eq_true rfl, Nat.le_of_ble_eq_true rfl⟩ ?_
  rintro _ ⟨⟩ rfl
  change J p l e rm_X0_holds s m args below meth c Q G A 10 0 0 46 [(8, .long x_2), (6, .long x_1), (0, .ref p0), (1, .long x), (3, .long y), (5, .ref w)] [.int (sg ((x.toInt - pcx.toInt) * (x.toInt - pcx.toInt) + (y.toInt - pcy.toInt) * (y.toInt - pcy.toInt) + pr.toInt * -1))] [(p0, .inr (0, [.long pcx, .long pcy, .long pr, .int pf, .int pt])), (w, .inr (8, [.ref aw])), (aw, aJ G 8 (dg ((x.toInt - pcx.toInt) * (x.toInt - pcx.toInt) + (y.toInt - pcy.toInt) * (y.toInt - pcy.toInt) + pr.toInt * -1)))]
  refine j_if_ne (tgt := 86) X dX0_holds_46 (by decide) (fun c_46 => ?_) (fun c_46 => ?_)
  · skip
    rw [sg_e0] at c_46
    refine j_iconst (v := 0) X dX0_holds_86 rfl ?_
    exact E.2.1 87 _ 0 (dg ((x.toInt - pcx.toInt) * (x.toInt - pcx.toInt) + (y.toInt - pcy.toInt) * (y.toInt - pcy.toInt) + pr.toInt * -1)) _ dX0_holds_87 (by rw [bI_f (fun h => c_46 (by have := h.1; omega))]) hr rfl
  · skip
    rw [sg_e0] at c_46
    refine j_aload_n X dX0_holds_49 rfl 2 rfl ?_
    refine j_lload X dX0_holds_50 1 rfl ?_
    refine j_callS X dX0_holds_52 (c_J13_signum_95d88 l G x_1) gX0_holds_J13_signum_95d88 rfl hy_J13_signum_95d88_S ⟨Nat.le_of_ble_eq_true rfl, Nat.le_of_ble_eq_true rfl⟩ [] rfl (by decide) rfl rfl (Nat.le_of_ble_eq_true rfl) ⟨Nat.le_of_ble_eq_true rfl, Nat.le_of_ble_eq_true rfl⟩ ?_
    rintro _ ⟨⟩ rfl
    change J p l e rm_X0_holds s m args below meth c Q G A 10 0 0 55 [(8, .long x_2), (6, .long x_1), (0, .ref p0), (1, .long x), (3, .long y), (5, .ref w)] [.int (sg x_1.toInt), .ref p0] [(p0, .inr (0, [.long pcx, .long pcy, .long pr, .int pf, .int pt])), (w, .inr (8, [.ref aw])), (aw, aJ G 8 (dg ((x.toInt - pcx.toInt) * (x.toInt - pcx.toInt) + (y.toInt - pcy.toInt) * (y.toInt - pcy.toInt) + pr.toInt * -1)))]
    refine j_lload X dX0_holds_55 0 rfl ?_
    refine j_callS X dX0_holds_57 (c_J13_signum_95d88 l G x_2) gX0_holds_J13_signum_95d88 rfl hy_J13_signum_95d88_S ⟨Nat.le_of_ble_eq_true rfl, Nat.le_of_ble_eq_true rfl⟩ [] rfl (by decide) rfl rfl (Nat.le_of_ble_eq_true rfl) ⟨Nat.le_of_ble_eq_true rfl, Nat.le_of_ble_eq_true rfl⟩ ?_
    rintro _ ⟨⟩ rfl
    change J p l e rm_X0_holds s m args below meth c Q G A 10 0 0 60 [(8, .long x_2), (6, .long x_1), (0, .ref p0), (1, .long x), (3, .long y), (5, .ref w)] [.int (sg x_2.toInt), .int (sg x_1.toInt), .ref p0] [(p0, .inr (0, [.long pcx, .long pcy, .long pr, .int pf, .int pt])), (w, .inr (8, [.ref aw])), (aw, aJ G 8 (dg ((x.toInt - pcx.toInt) * (x.toInt - pcx.toInt) + (y.toInt - pcy.toInt) * (y.toInt - pcy.toInt) + pr.toInt * -1)))]
    refine j_lload X dX0_holds_60 1 rfl ?_
    refine j_lload X dX0_holds_62 0 rfl ?_
    refine j_lsub X dX0_holds_64 ?_
    refine j_callS X dX0_holds_65 (c_J13_signum_95d88 l G (x_1 - x_2)) gX0_holds_J13_signum_95d88 rfl hy_J13_signum_95d88_S ⟨Nat.le_of_ble_eq_true rfl, Nat.le_of_ble_eq_true rfl⟩ [] rfl (by decide) rfl rfl (Nat.le_of_ble_eq_true rfl) ⟨Nat.le_of_ble_eq_true rfl, Nat.le_of_ble_eq_true rfl⟩ ?_
    rintro _ ⟨⟩ rfl
    change J p l e rm_X0_holds s m args below meth c Q G A 10 0 0 68 [(8, .long x_2), (6, .long x_1), (0, .ref p0), (1, .long x), (3, .long y), (5, .ref w)] [.int (sg (x_1 - x_2).toInt), .int (sg x_2.toInt), .int (sg x_1.toInt), .ref p0] [(p0, .inr (0, [.long pcx, .long pcy, .long pr, .int pf, .int pt])), (w, .inr (8, [.ref aw])), (aw, aJ G 8 (dg ((x.toInt - pcx.toInt) * (x.toInt - pcx.toInt) + (y.toInt - pcy.toInt) * (y.toInt - pcy.toInt) + pr.toInt * -1)))]
    refine j_lload X dX0_holds_68 1 rfl ?_
    refine j_lload X dX0_holds_70 0 rfl ?_
    refine j_ladd X dX0_holds_72 ?_
    refine j_callS X dX0_holds_73 (c_J13_signum_95d88 l G (x_1 + x_2)) gX0_holds_J13_signum_95d88 rfl hy_J13_signum_95d88_S ⟨Nat.le_of_ble_eq_true rfl, Nat.le_of_ble_eq_true rfl⟩ [] rfl (by decide) rfl rfl (Nat.le_of_ble_eq_true rfl) ⟨Nat.le_of_ble_eq_true rfl, Nat.le_of_ble_eq_true rfl⟩ ?_
    rintro _ ⟨⟩ rfl
    change J p l e rm_X0_holds s m args below meth c Q G A 10 0 0 76 [(8, .long x_2), (6, .long x_1), (0, .ref p0), (1, .long x), (3, .long y), (5, .ref w)] [.int (sg (x_1 + x_2).toInt), .int (sg (x_1 - x_2).toInt), .int (sg x_2.toInt), .int (sg x_1.toInt), .ref p0] [(p0, .inr (0, [.long pcx, .long pcy, .long pr, .int pf, .int pt])), (w, .inr (8, [.ref aw])), (aw, aJ G 8 (dg ((x.toInt - pcx.toInt) * (x.toInt - pcx.toInt) + (y.toInt - pcy.toInt) * (y.toInt - pcy.toInt) + pr.toInt * -1)))]
    have h12 : (x_1 - x_2).toInt = (x.toInt - pcx.toInt) - (y.toInt - pcy.toInt) := by rw [l_sub] <;> rw [hu, hv] <;> omega
    have h13 : (x_1 + x_2).toInt = (x.toInt - pcx.toInt) + (y.toInt - pcy.toInt) := by rw [l_add] <;> rw [hu, hv] <;> omega
    rw [hu, hv, h12, h13]
    refine j_callV X dX0_holds_76 (c_X0_reaches l G p0 pcx pcy pr pf pt hp (sg (x.toInt - pcx.toInt)) (sg (y.toInt - pcy.toInt)) (sg ((x.toInt - pcx.toInt) - (y.toInt - pcy.toInt))) (sg ((x.toInt - pcx.toInt) + (y.toInt - pcy.toInt))) (rc_sg (fun q => by rw [q.1, q.2] at c_46; omega))) gX0_holds_X0_reaches rfl hy_X0_reaches_V ⟨Nat.le_of_ble_eq_true rfl, Nat.le_of_ble_eq_true rfl⟩ 0 rfl rfl [0] rfl (by decide) rfl rfl (Nat.le_of_ble_eq_true rfl) ⟨Nat.le_of_ble_eq_true rfl, Nat.le_of_ble_eq_true rfl⟩ ?_
    rintro _ ⟨⟩ rfl
    change J p l e rm_X0_holds s m args below meth c Q G A 10 0 0 79 [(8, .long x_2), (6, .long x_1), (0, .ref p0), (1, .long x), (3, .long y), (5, .ref w)] [.int (bI (trn pf.toInt pt.toInt (posn (sg (x.toInt - pcx.toInt)) (sg (y.toInt - pcy.toInt)) (sg ((x.toInt - pcx.toInt) - (y.toInt - pcy.toInt))) (sg ((x.toInt - pcx.toInt) + (y.toInt - pcy.toInt)))).toInt))] [(p0, .inr (0, [.long pcx, .long pcy, .long pr, .int pf, .int pt])), (w, .inr (8, [.ref aw])), (aw, aJ G 8 (dg ((x.toInt - pcx.toInt) * (x.toInt - pcx.toInt) + (y.toInt - pcy.toInt) * (y.toInt - pcy.toInt) + pr.toInt * -1)))]
    refine j_if_eq (tgt := 86) X dX0_holds_79 (by decide) (fun c_79 => ?_) (fun c_79 => ?_)
    · skip
      rw [bI_0] at c_79
      refine j_iconst (v := 0) X dX0_holds_86 rfl ?_
      exact E.2.1 87 _ 0 (dg ((x.toInt - pcx.toInt) * (x.toInt - pcx.toInt) + (y.toInt - pcy.toInt) * (y.toInt - pcy.toInt) + pr.toInt * -1)) _ dX0_holds_87 (by rw [bI_f (fun h => c_79 h.2)]) hr rfl
    · skip
      rw [bI_0, Decidable.not_not] at c_79
      refine j_iconst (v := 1) X dX0_holds_82 rfl ?_
      refine j_goto (tgt := 87) X dX0_holds_83 (by decide) ?_
      exact E.2.1 87 _ 1 (dg ((x.toInt - pcx.toInt) * (x.toInt - pcx.toInt) + (y.toInt - pcy.toInt) * (y.toInt - pcy.toInt) + pr.toInt * -1)) _ dX0_holds_87 (by rw [bI_t ⟨by omega, c_79⟩]) hr rfl

theorem hy_X0_holds_V : yX0_holds.cls = RX0 ∧ yX0_holds.cls ≠ "java/lang/invoke/MethodHandle" ∧ yX0_holds.cls ≠ "java/lang/invoke/VarHandle" ∧ (parseMethodDescriptor yX0_holds.desc).map (fun d => d.parameters.length) = some 3 := by decide +kernel
