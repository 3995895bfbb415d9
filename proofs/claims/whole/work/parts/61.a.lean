abbrev rm_X1_forget : Room := { frames := 0, cells := 0, slots := 0, locals := 0 }
theorem in_X1_forget_X1 : ∀ w ∈ u_ws RX1 TX1 14, w ∈ wsX1_forget := by decide +kernel
theorem fl_X1_forget_55 : Cond.fieldLink RX1 55 (TX1 1).1 (TX1 1).2.1 (TX1 1).2.2.1 ∈ wsX1_forget := by decide +kernel
theorem fl_X1_forget_59 : Cond.fieldLink RX1 59 (TX1 2).1 (TX1 2).2.1 (TX1 2).2.2.1 ∈ wsX1_forget := by decide +kernel
set_option maxHeartbeats 4000000 in
set_option maxRecDepth 100000 in
theorem c_X1_forget (l : Launch) (G : jG) (o ro bl p1 p2 p3 en ra al asd wk : Nat) (md ct : Int32) (bsx bsy : Int64) : Ct l yX1_forget wsX1_forget rm_X1_forget G [.ref o] [(o, .inr (1, [.ref ro, .int md, .int ct, .long bsx, .long bsy, .ref bl, .ref p1, .ref p2, .ref p3, .ref en, .ref ra, .ref al, .ref asd, .ref wk]))] (S := Unit) (fun r _ => r = none) (fun _ => [(o, .inr (1, [.ref ro, .int 0, .int 0, .long bsx, .long bsy, .ref bl, .ref p1, .ref p2, .ref p3, .ref en, .ref ra, .ref al, .ref asd, .ref wk]))]) (fun _ => []) := by
  refine c_intro (cc := cX1_forget) (maxL := 1) (ret := none) (by decide) rfl (Nat.le_of_ble_eq_true rfl) (fun _ => by simp only [List.map_cons, List.map_nil]) ?_
  intro p e s m args below meth c Q A X hr hin E
  change J p l e rm_X1_forget s m args below meth c Q G A 1 0 0 0 [(0, .ref o)] [] [(o, .inr (1, [.ref ro, .int md, .int ct, .long bsx, .long bsy, .ref bl, .ref p1, .ref p2, .ref p3, .ref en, .ref ra, .ref al, .ref asd, .ref wk]))]
  refine j_aload_n X dX1_forget_0 rfl 0 rfl ?_
  refine j_iconst (v := 0) X dX1_forget_1 rfl ?_
  refine j_put (ws' := [(o, .inr (1, [.ref ro, .int 0, .int ct, .long bsx, .long bsy, .ref bl, .ref p1, .ref p2, .ref p3, .ref en, .ref ra, .ref al, .ref asd, .ref wk]))]) X dX1_forget_2 0 rfl 1 rfl in_X1_forget_X1 tyX1 tyX1_ok nmX1 (by decide) fl_X1_forget_55 rfl rfl rfl rfl (Nat.le_of_ble_eq_true rfl) rfl ?_
  refine j_aload_n X dX1_forget_5 rfl 0 rfl ?_
  refine j_iconst (v := 0) X dX1_forget_6 rfl ?_
  refine j_put (ws' := [(o, .inr (1, [.ref ro, .int 0, .int 0, .long bsx, .long bsy, .ref bl, .ref p1, .ref p2, .ref p3, .ref en, .ref ra, .ref al, .ref asd, .ref wk]))]) X dX1_forget_7 0 rfl 2 rfl in_X1_forget_X1 tyX1 tyX1_ok nmX1 (by decide) fl_X1_forget_59 rfl rfl rfl rfl (Nat.le_of_ble_eq_true rfl) rfl ?_
  exact E.1 10 _ () dX1_forget_10 rfl hr

theorem hy_X1_forget_V : yX1_forget.cls = RX1 ∧ yX1_forget.cls ≠ "java/lang/invoke/MethodHandle" ∧ yX1_forget.cls ≠ "java/lang/invoke/VarHandle" ∧ (parseMethodDescriptor yX1_forget.desc).map (fun d => d.parameters.length) = some 0 := by decide +kernel
abbrev rm_X1_startFrom : Room := { frames := 0, cells := 0, slots := 0, locals := 0 }
theorem in_X1_startFrom_X1 : ∀ w ∈ u_ws RX1 TX1 14, w ∈ wsX1_startFrom := by decide +kernel
theorem fl_X1_startFrom_63 : Cond.fieldLink RX1 63 (TX1 3).1 (TX1 3).2.1 (TX1 3).2.2.1 ∈ wsX1_startFrom := by decide +kernel
theorem fl_X1_startFrom_74 : Cond.fieldLink RX1 74 (TX1 4).1 (TX1 4).2.1 (TX1 4).2.2.1 ∈ wsX1_startFrom := by decide +kernel
set_option maxHeartbeats 4000000 in
set_option maxRecDepth 100000 in
theorem c_X1_startFrom (l : Launch) (G : jG) (o ro bl p1 p2 p3 en ra al asd wk : Nat) (md ct : Int32) (bsx bsy : Int64) (x y : Int64) : Ct l yX1_startFrom wsX1_startFrom rm_X1_startFrom G [.ref o, .long x, .long y] [(o, .inr (1, [.ref ro, .int md, .int ct, .long bsx, .long bsy, .ref bl, .ref p1, .ref p2, .ref p3, .ref en, .ref ra, .ref al, .ref asd, .ref wk]))] (S := Unit) (fun r _ => r = none) (fun _ => [(o, .inr (1, [.ref ro, .int md, .int ct, .long x, .long y, .ref bl, .ref p1, .ref p2, .ref p3, .ref en, .ref ra, .ref al, .ref asd, .ref wk]))]) (fun _ => []) := by
  refine c_intro (cc := cX1_startFrom) (maxL := 5) (ret := none) (by decide) rfl (Nat.le_of_ble_eq_true rfl) (fun _ => by simp only [List.map_cons, List.map_nil]) ?_
  intro p e s m args below meth c Q A X hr hin E
  change J p l e rm_X1_startFrom s m args below meth c Q G A 5 0 0 0 [(0, .ref o), (1, .long x), (3, .long y)] [] [(o, .inr (1, [.ref ro, .int md, .int ct, .long bsx, .long bsy, .ref bl, .ref p1, .ref p2, .ref p3, .ref en, .ref ra, .ref al, .ref asd, .ref wk]))]
  refine j_aload_n X dX1_startFrom_0 rfl 0 rfl ?_
  refine j_lload_n X dX1_startFrom_1 rfl 1 rfl ?_
  refine j_put (ws' := [(o, .inr (1, [.ref ro, .int md, .int ct, .long x, .long bsy, .ref bl, .ref p1, .ref p2, .ref p3, .ref en, .ref ra, .ref al, .ref asd, .ref wk]))]) X dX1_startFrom_2 0 rfl 3 rfl in_X1_startFrom_X1 tyX1 tyX1_ok nmX1 (by decide) fl_X1_startFrom_63 rfl rfl rfl rfl (Nat.le_of_ble_eq_true rfl) rfl ?_
  refine j_aload_n X dX1_startFrom_5 rfl 0 rfl ?_
  refine j_lload_n X dX1_startFrom_6 rfl 2 rfl ?_
  refine j_put (ws' := [(o, .inr (1, [.ref ro, .int md, .int ct, .long x, .long y, .ref bl, .ref p1, .ref p2, .ref p3, .ref en, .ref ra, .ref al, .ref asd, .ref wk]))]) X dX1_startFrom_7 0 rfl 4 rfl in_X1_startFrom_X1 tyX1 tyX1_ok nmX1 (by decide) fl_X1_startFrom_74 rfl rfl rfl rfl (Nat.le_of_ble_eq_true rfl) rfl ?_
  exact E.1 10 _ () dX1_startFrom_10 rfl hr

theorem hy_X1_startFrom_V : yX1_startFrom.cls = RX1 ∧ yX1_startFrom.cls ≠ "java/lang/invoke/MethodHandle" ∧ yX1_startFrom.cls ≠ "java/lang/invoke/VarHandle" ∧ (parseMethodDescriptor yX1_startFrom.desc).map (fun d => d.parameters.length) = some 2 := by decide +kernel
abbrev rm_X1_isPartOfBelow : Room := { frames := 1, cells := 0, slots := 0, locals := 22 }
theorem in_X1_isPartOfBelow_X1 : ∀ w ∈ u_ws RX1 TX1 14, w ∈ wsX1_isPartOfBelow := by decide +kernel
theorem fl_X1_isPartOfBelow_19 : Cond.fieldLink RX1 19 (TX1 5).1 (TX1 5).2.1 (TX1 5).2.2.1 ∈ wsX1_isPartOfBelow := by decide +kernel
set_option maxHeartbeats 4000000 in
set_option maxRecDepth 100000 in
theorem c_X1_isPartOfBelow (l : Launch) (G : jG) (o ro bl p1 p2 p3 en ra al asd wk : Nat) (md ct : Int32) (bsx bsy : Int64) (abl w aw : Nat) (z B : Int) (hz : bd 200 z) (hB : 0 ≤ B ∧ bd 200 B) : Ct l yX1_isPartOfBelow wsX1_isPartOfBelow rm_X1_isPartOfBelow G [.ref o, .ref w] [(o, .inr (1, [.ref ro, .int md, .int ct, .long bsx, .long bsy, .ref bl, .ref p1, .ref p2, .ref p3, .ref en, .ref ra, .ref al, .ref asd, .ref wk])), (bl, .inr (8, [.ref abl])), (abl, aJ G 8 (dg B)), (w, .inr (8, [.ref aw])), (aw, aJ G 8 (dg z))] (S := Unit) (fun r _ => r = some (.int (bI (0 ≤ z ∧ z ≤ B)))) (fun _ => [(o, .inr (1, [.ref ro, .int md, .int ct, .long bsx, .long bsy, .ref bl, .ref p1, .ref p2, .ref p3, .ref en, .ref ra, .ref al, .ref asd, .ref wk])), (bl, .inr (8, [.ref abl])), (abl, aJ G 8 (dg B)), (w, .inr (8, [.ref aw])), (aw, aJ G 8 (dg z))]) (fun _ => []) := by
  refine c_intro (cc := cX1_isPartOfBelow) (maxL := 2) (ret := (some .boolean)) (by decide) rfl (Nat.le_of_ble_eq_true rfl) (fun _ => by simp only [List.map_cons, List.map_nil]) ?_
  intro p e s m args below meth c Q A X hr hin E
  change J p l e rm_X1_isPartOfBelow s m args below meth c Q G A 2 0 0 0 [(0, .ref o), (1, .ref w)] [] [(o, .inr (1, [.ref ro, .int md, .int ct, .long bsx, .long bsy, .ref bl, .ref p1, .ref p2, .ref p3, .ref en, .ref ra, .ref al, .ref asd, .ref wk])), (bl, .inr (8, [.ref abl])), (abl, aJ G 8 (dg B)), (w, .inr (8, [.ref aw])), (aw, aJ G 8 (dg z))]
  refine j_aload_n X dX1_isPartOfBelow_0 rfl 1 rfl ?_
  refine j_callV X dX1_isPartOfBelow_1 (c_X9_sign l G w aw z (sgnB hz (by decide))) gX1_isPartOfBelow_X9_sign rfl hy_X9_sign_V ⟨Nat.le_of_ble_eq_true rfl, Nat.le_of_ble_eq_true rfl⟩ 0 rfl rfl [3, 4] rfl (by decide) rfl rfl (Nat.le_of_ble_eq_true rfl) ⟨Nat.le_of_ble_eq_true rfl, Nat.le_of_ble_eq_true rfl⟩ ?_
  rintro _ ⟨⟩ rfl
  change J p l e rm_X1_isPartOfBelow s m args below meth c Q G A 2 0 0 4 [(0, .ref o), (1, .ref w)] [.int (sg z)] [(o, .inr (1, [.ref ro, .int md, .int ct, .long bsx, .long bsy, .ref bl, .ref p1, .ref p2, .ref p3, .ref en, .ref ra, .ref al, .ref asd, .ref wk])), (bl, .inr (8, [.ref abl])), (abl, aJ G 8 (dg B)), (w, .inr (8, [.ref aw])), (aw, aJ G 8 (dg z))]
  refine j_if_lt (tgt := 22) X dX1_isPartOfBelow_4 (by decide) (fun c_4 => ?_) (fun c_4 => ?_)
  · skip
    rw [sg_l0] at c_4
    refine j_iconst (v := 0) X dX1_isPartOfBelow_22 rfl ?_
    exact E.2.1 23 _ 0 () _ dX1_isPartOfBelow_23 (by rw [bI_f (by omega)]) hr rfl
  · skip
    rw [sg_l0] at c_4
    refine j_aload_n X dX1_isPartOfBelow_7 rfl 1 rfl ?_
    refine j_aload_n X dX1_isPartOfBelow_8 rfl 0 rfl ?_
    refine j_get (v := .ref bl) X dX1_isPartOfBelow_9 0 rfl 5 rfl in_X1_isPartOfBelow_X1 (by decide) fl_X1_isPartOfBelow_19 rfl ?_
    refine j_callV X dX1_isPartOfBelow_12 (c_X9_against l G w aw bl abl z B (nnB hz (by omega) (by decide)) (nnB hB.2 hB.1 (by decide))) gX1_isPartOfBelow_X9_against rfl hy_X9_against_V ⟨Nat.le_of_ble_eq_true rfl, Nat.le_of_ble_eq_true rfl⟩ 0 rfl rfl [3, 4, 1, 2] rfl (by decide) rfl rfl (Nat.le_of_ble_eq_true rfl) ⟨Nat.le_of_ble_eq_true rfl, Nat.le_of_ble_eq_true rfl⟩ ?_
    rintro _ ⟨⟩ rfl
    change J p l e rm_X1_isPartOfBelow s m args below meth c Q G A 2 0 0 15 [(0, .ref o), (1, .ref w)] [.int (sg (z - B))] [(o, .inr (1, [.ref ro, .int md, .int ct, .long bsx, .long bsy, .ref bl, .ref p1, .ref p2, .ref p3, .ref en, .ref ra, .ref al, .ref asd, .ref wk])), (bl, .inr (8, [.ref abl])), (abl, aJ G 8 (dg B)), (w, .inr (8, [.ref aw])), (aw, aJ G 8 (dg z))]
    refine j_if_gt (tgt := 22) X dX1_isPartOfBelow_15 (by decide) (fun c_15 => ?_) (fun c_15 => ?_)
    · skip
      rw [sg_g0] at c_15
      refine j_iconst (v := 0) X dX1_isPartOfBelow_22 rfl ?_
      exact E.2.1 23 _ 0 () _ dX1_isPartOfBelow_23 (by rw [bI_f (by omega)]) hr rfl
    · skip
      rw [sg_g0] at c_15
      refine j_iconst (v := 1) X dX1_isPartOfBelow_18 rfl ?_
      refine j_goto (tgt := 23) X dX1_isPartOfBelow_19 (by decide) ?_
      exact E.2.1 23 _ 1 () _ dX1_isPartOfBelow_23 (by rw [bI_t (by omega)]) hr rfl

theorem hy_X1_isPartOfBelow_V : yX1_isPartOfBelow.cls = RX1 ∧ yX1_isPartOfBelow.cls ≠ "java/lang/invoke/MethodHandle" ∧ yX1_isPartOfBelow.cls ≠ "java/lang/invoke/VarHandle" ∧ (parseMethodDescriptor yX1_isPartOfBelow.desc).map (fun d => d.parameters.length) = some 1 := by decide +kernel
