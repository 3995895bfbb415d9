abbrev rm_X10_on_1 : Room := { frames := 6, cells := 1, slots := 6, locals := 90 }
theorem ta_X10_on_109 : (Cond.classLink RX10 109 eB ∈ wsX10_on) ∧ (Cond.initialized eB ∈ wsX10_on) := by decide +kernel
theorem tb_X10_on_113 : ∀ w ∈ (vx_atS RX10 113 eB ["java/lang/RuntimeException", "java/lang/Exception"]).filter goodWord, w ∈ wsX10_on := fun w h => List.mem_cons_of_mem _ (List.mem_append_left _ (List.mem_append_right _ h))
set_option maxHeartbeats 4000000 in
set_option maxRecDepth 100000 in
theorem c_X10_on_1 (l : Launch) (G : jG) (hst : l.stackTraces = false) (x0 xs po ro cr gp nu wk : Nat) (f : Nat → Option Nat) (N : Nat) (gN : N ≤ 200) (x1 : Int32) (x y : Int64) (hP : ¬ (0 ≤ x1.toInt ∧ x1.toInt < N)) : CtX l yX10_on wsX10_on rm_X10_on_1 G [.ref x0, .int x1, .long x, .long y] [(x0, .inr (9, [.ref xs, .int (nI N), .ref po, .ref ro, .ref cr, .ref gp, .ref nu, .ref wk])), (xs, aS G 200 f)] eB (S := Unit) (fun _ => True) (fun _ => [(x0, .inr (9, [.ref xs, .int (nI N), .ref po, .ref ro, .ref cr, .ref gp, .ref nu, .ref wk])), (xs, aS G 200 f)]) := by
  refine c_introX (cc := cX10_on) (maxL := 7) (ret := (some .boolean)) (by decide) rfl (Nat.le_of_ble_eq_true rfl) (fun _ => by simp only [List.map_cons, List.map_nil]) ?_
  intro p e s m args below meth c Q A hQ X XF hlk htb
  change J p l e rm_X10_on_1 s m args below meth c Q G A 7 0 0 0 [(0, .ref x0), (1, .int x1), (2, .long x), (4, .long y)] [] [(x0, .inr (9, [.ref xs, .int (nI N), .ref po, .ref ro, .ref cr, .ref gp, .ref nu, .ref wk])), (xs, aS G 200 f)]
  refine j_aload_n X dX10_on_0 rfl 0 rfl ?_
  refine j_iload_n X dX10_on_1 rfl 1 rfl ?_
  refine j_callV X dX10_on_2 (c_X10_shapeOf l G x0 xs po ro cr gp nu wk f N gN x1 none (shO_n hP)) gX10_on_X10_shapeOf rfl hy_X10_shapeOf_V ⟨Nat.le_of_ble_eq_true rfl, Nat.le_of_ble_eq_true rfl⟩ 0 rfl rfl [0, 1] rfl (by decide) rfl rfl (Nat.le_of_ble_eq_true rfl) ⟨Nat.le_of_ble_eq_true rfl, Nat.le_of_ble_eq_true rfl⟩ ?_
  rintro _ ⟨⟩ rfl
  change J p l e rm_X10_on_1 s m args below meth c Q G A 7 0 0 5 [(0, .ref x0), (1, .int x1), (2, .long x), (4, .long y)] [.null] [(x0, .inr (9, [.ref xs, .int (nI N), .ref po, .ref ro, .ref cr, .ref gp, .ref nu, .ref wk])), (xs, aS G 200 f)]
  refine j_astoreN (L' := [(6, .null), (0, .ref x0), (1, .int x1), (2, .long x), (4, .long y)]) X dX10_on_5 (by decide) rfl ?_
  refine j_aloadN X dX10_on_7 0 rfl ?_
  refine j_ifnonnullN X dX10_on_9 ?_
  subst hQ
  exact j_throwS (cls := eB) (text := "no such shape") (names := ["java/lang/RuntimeException", "java/lang/Exception"]) X rfl hst XF hlk htb dX10_on_12 dX10_on_15 dX10_on_16 dX10_on_18 dX10_on_21 (by decide +kernel) (by decide +kernel) ta_X10_on_109.1 ta_X10_on_109.2 (by decide +kernel) (by decide +kernel) tb_X10_on_113 tc_113 td_113 (Nat.le_of_ble_eq_true rfl) (Nat.le_of_ble_eq_true rfl) (Nat.le_of_ble_eq_true rfl) (Nat.le_of_ble_eq_true rfl) () trivial rfl

abbrev rm_X10_on_2 : Room := { frames := 6, cells := 1, slots := 6, locals := 90 }
theorem ta_X10_on_65 : (Cond.classLink RX10 65 eA ∈ wsX10_on) ∧ (Cond.initialized eA ∈ wsX10_on) := by decide +kernel
theorem tb_X10_on_69 : ∀ w ∈ (vx_atS RX10 69 eA ["java/lang/RuntimeException", "java/lang/Exception"]).filter goodWord, w ∈ wsX10_on := fun w h => List.mem_cons_of_mem _ (List.mem_append_right _ h)
set_option maxHeartbeats 4000000 in
set_option maxRecDepth 100000 in
theorem c_X10_on_2 (l : Launch) (G : jG) (hst : l.stackTraces = false) (x0 xs po ro cr gp nu wk : Nat) (f : Nat → Option Nat) (N : Nat) (gN : N ≤ 200) (x1 : Int32) (x y : Int64) (q1 : Nat) (hf : shO f N x1 = some q1) (hP : ¬ (inC x.toInt ∧ inC y.toInt)) : CtX l yX10_on wsX10_on rm_X10_on_2 G [.ref x0, .int x1, .long x, .long y] [(x0, .inr (9, [.ref xs, .int (nI N), .ref po, .ref ro, .ref cr, .ref gp, .ref nu, .ref wk])), (xs, aS G 200 f)] eA (S := Unit) (fun _ => True) (fun _ => [(x0, .inr (9, [.ref xs, .int (nI N), .ref po, .ref ro, .ref cr, .ref gp, .ref nu, .ref wk])), (xs, aS G 200 f)]) := by
  refine c_introX (cc := cX10_on) (maxL := 7) (ret := (some .boolean)) (by decide) rfl (Nat.le_of_ble_eq_true rfl) (fun _ => by simp only [List.map_cons, List.map_nil]) ?_
  intro p e s m args below meth c Q A hQ X XF hlk htb
  change J p l e rm_X10_on_2 s m args below meth c Q G A 7 0 0 0 [(0, .ref x0), (1, .int x1), (2, .long x), (4, .long y)] [] [(x0, .inr (9, [.ref xs, .int (nI N), .ref po, .ref ro, .ref cr, .ref gp, .ref nu, .ref wk])), (xs, aS G 200 f)]
  refine j_aload_n X dX10_on_0 rfl 0 rfl ?_
  refine j_iload_n X dX10_on_1 rfl 1 rfl ?_
  refine j_callV X dX10_on_2 (c_X10_shapeOf l G x0 xs po ro cr gp nu wk f N gN x1 (some q1) hf) gX10_on_X10_shapeOf rfl hy_X10_shapeOf_V ⟨Nat.le_of_ble_eq_true rfl, Nat.le_of_ble_eq_true rfl⟩ 0 rfl rfl [0, 1] rfl (by decide) rfl rfl (Nat.le_of_ble_eq_true rfl) ⟨Nat.le_of_ble_eq_true rfl, Nat.le_of_ble_eq_true rfl⟩ ?_
  rintro _ ⟨⟩ rfl
  change J p l e rm_X10_on_2 s m args below meth c Q G A 7 0 0 5 [(0, .ref x0), (1, .int x1), (2, .long x), (4, .long y)] [.ref q1] [(x0, .inr (9, [.ref xs, .int (nI N), .ref po, .ref ro, .ref cr, .ref gp, .ref nu, .ref wk])), (xs, aS G 200 f)]
  refine j_astore (L' := [(6, .ref q1), (0, .ref x0), (1, .int x1), (2, .long x), (4, .long y)]) X dX10_on_5 (by decide) rfl ?_
  refine j_aload X dX10_on_7 0 rfl ?_
  refine j_ifnonnull (tgt := 22) X dX10_on_9 (by decide) ?_
  refine j_lload_n X dX10_on_22 rfl 3 rfl ?_
  refine j_lload X dX10_on_23 4 rfl ?_
  refine j_callS X dX10_on_25 (c_X10_isPlace l G x y) gX10_on_X10_isPlace rfl hy_X10_isPlace_S ⟨Nat.le_of_ble_eq_true rfl, Nat.le_of_ble_eq_true rfl⟩ [] rfl (by decide) rfl rfl (Nat.le_of_ble_eq_true rfl) ⟨Nat.le_of_ble_eq_true rfl, Nat.le_of_ble_eq_true rfl⟩ ?_
  rintro _ ⟨⟩ rfl
  change J p l e rm_X10_on_2 s m args below meth c Q G A 7 0 0 28 [(6, .ref q1), (0, .ref x0), (1, .int x1), (2, .long x), (4, .long y)] [.int (bI (inC x.toInt ∧ inC y.toInt))] [(x0, .inr (9, [.ref xs, .int (nI N), .ref po, .ref ro, .ref cr, .ref gp, .ref nu, .ref wk])), (xs, aS G 200 f)]
  refine j_if_ne (tgt := 41) X dX10_on_28 (by decide) (fun c_28 => ?_) (fun c_28 => ?_)
  · skip
    rw [bI_0, Classical.not_not] at c_28
    exfalso; omega
  · skip
    rw [bI_0] at c_28
    subst hQ
    exact j_throwS (cls := eA) (text := "no place") (names := ["java/lang/RuntimeException", "java/lang/Exception"]) X rfl hst XF hlk htb dX10_on_31 dX10_on_34 dX10_on_35 dX10_on_37 dX10_on_40 (by decide +kernel) (by decide +kernel) ta_X10_on_65.1 ta_X10_on_65.2 (by decide +kernel) (by decide +kernel) tb_X10_on_69 tc_69 td_69 (Nat.le_of_ble_eq_true rfl) (Nat.le_of_ble_eq_true rfl) (Nat.le_of_ble_eq_true rfl) (Nat.le_of_ble_eq_true rfl) () trivial rfl

abbrev rm_X10_on : Room := { frames := 4, cells := 0, slots := 0, locals := 125 }
theorem in_X10_on_X10 : ∀ w ∈ u_ws RX10 TX10 8, w ∈ wsX10_on := by decide +kernel
theorem fl_X10_on_53 : Cond.fieldLink RX10 53 (TX10 7).1 (TX10 7).2.1 (TX10 7).2.2.1 ∈ wsX10_on := by decide +kernel
set_option maxHeartbeats 4000000 in
set_option maxRecDepth 100000 in
theorem c_X10_on_s (l : Launch) (G : jG) (x0 xs po ro cr gp nu wk : Nat) (f : Nat → Option Nat) (N : Nat) (gN : N ≤ 200) (x1 : Int32) (x y : Int64) (s0 : Nat) (sax say sbx sby sdx sdy : Int64) (hs : sgH sax say sbx sby sdx sdy) (awk : Nat) (fw : Nat → Int64) (hf : shO f N x1 = some s0) (hP : inC x.toInt ∧ inC y.toInt) : Cf l yX10_on wsX10_on rm_X10_on G [.ref x0, .int x1, .long x, .long y] [(x0, .inr (9, [.ref xs, .int (nI N), .ref po, .ref ro, .ref cr, .ref gp, .ref nu, .ref wk])), (xs, aS G 200 f), (s0, .inr (7, [.long sax, .long say, .long sbx, .long sby, .long sdx, .long sdy])), (wk, .inr (8, [.ref awk])), (awk, aJ G 8 fw)] (S := Nat → Int64) (fun r _ => r = some (.int (bI (onS sax.toInt say.toInt sbx.toInt sby.toInt x.toInt y.toInt)))) (fun u => [(x0, .inr (9, [.ref xs, .int (nI N), .ref po, .ref ro, .ref cr, .ref gp, .ref nu, .ref wk])), (xs, aS G 200 f), (s0, .inr (7, [.long sax, .long say, .long sbx, .long sby, .long sdx, .long sdy])), (wk, .inr (8, [.ref awk])), (awk, aJ G 8 u)]) (fun _ => []) := by
  refine cf_intro (cc := cX10_on) (maxL := 7) (ret := (some .boolean)) (by decide) rfl (Nat.le_of_ble_eq_true rfl) (fun _ => by simp only [List.map_cons, List.map_nil]) ?_
  intro p e s m args below meth c Q A X XF hr hin E
  change J p l e rm_X10_on s m args below meth c Q G A 7 0 0 0 [(0, .ref x0), (1, .int x1), (2, .long x), (4, .long y)] [] [(x0, .inr (9, [.ref xs, .int (nI N), .ref po, .ref ro, .ref cr, .ref gp, .ref nu, .ref wk])), (xs, aS G 200 f), (s0, .inr (7, [.long sax, .long say, .long sbx, .long sby, .long sdx, .long sdy])), (wk, .inr (8, [.ref awk])), (awk, aJ G 8 fw)]
  refine j_aload_n X dX10_on_0 rfl 0 rfl ?_
  refine j_iload_n X dX10_on_1 rfl 1 rfl ?_
  refine j_callV X dX10_on_2 (c_X10_shapeOf l G x0 xs po ro cr gp nu wk f N gN x1 (some s0) hf) gX10_on_X10_shapeOf rfl hy_X10_shapeOf_V ⟨Nat.le_of_ble_eq_true rfl, Nat.le_of_ble_eq_true rfl⟩ 0 rfl rfl [0, 1] rfl (by decide) rfl rfl (Nat.le_of_ble_eq_true rfl) ⟨Nat.le_of_ble_eq_true rfl, Nat.le_of_ble_eq_true rfl⟩ ?_
  rintro _ ⟨⟩ rfl
  change J p l e rm_X10_on s m args below meth c Q G A 7 0 0 5 [(0, .ref x0), (1, .int x1), (2, .long x), (4, .long y)] [.ref s0] [(x0, .inr (9, [.ref xs, .int (nI N), .ref po, .ref ro, .ref cr, .ref gp, .ref nu, .ref wk])), (xs, aS G 200 f), (s0, .inr (7, [.long sax, .long say, .long sbx, .long sby, .long sdx, .long sdy])), (wk, .inr (8, [.ref awk])), (awk, aJ G 8 fw)]
  refine j_astore (L' := [(6, .ref s0), (0, .ref x0), (1, .int x1), (2, .long x), (4, .long y)]) X dX10_on_5 (by decide) rfl ?_
  refine j_aload X dX10_on_7 0 rfl ?_
  refine j_ifnonnull (tgt := 22) X dX10_on_9 (by decide) ?_
  refine j_lload_n X dX10_on_22 rfl 3 rfl ?_
  refine j_lload X dX10_on_23 4 rfl ?_
  refine j_callS X dX10_on_25 (c_X10_isPlace l G x y) gX10_on_X10_isPlace rfl hy_X10_isPlace_S ⟨Nat.le_of_ble_eq_true rfl, Nat.le_of_ble_eq_true rfl⟩ [] rfl (by decide) rfl rfl (Nat.le_of_ble_eq_true rfl) ⟨Nat.le_of_ble_eq_true rfl, Nat.le_of_ble_eq_true rfl⟩ ?_
  rintro _ ⟨⟩ rfl
  change J p l e rm_X10_on s m args below meth c Q G A 7 0 0 28 [(6, .ref s0), (0, .ref x0), (1, .int x1), (2, .long x), (4, .long y)] [.int (bI (inC x.toInt ∧ inC y.toInt))] [(x0, .inr (9, [.ref xs, .int (nI N), .ref po, .ref ro, .ref cr, .ref gp, .ref nu, .ref wk])), (xs, aS G 200 f), (s0, .inr (7, [.long sax, .long say, .long sbx, .long sby, .long sdx, .long sdy])), (wk, .inr (8, [.ref awk])), (awk, aJ G 8 fw)]
  refine j_if_ne (tgt := 41) X dX10_on_28 (by decide) (fun c_28 => ?_) (fun c_28 => ?_)
  · skip
    rw [bI_0, Classical.not_not] at c_28
    refine j_aload X dX10_on_41 0 rfl ?_
    refine j_lload_n X dX10_on_43 rfl 3 rfl ?_
    refine j_lload X dX10_on_44 4 rfl ?_
    refine j_aload_n X dX10_on_46 rfl 1 rfl ?_
    refine j_get (v := .ref wk) X dX10_on_47 0 rfl 7 rfl in_X10_on_X10 (by decide) fl_X10_on_53 rfl ?_
    refine j_callU (nA := 3) X dX10_on_50 (c_X7_holds l G s0 sax say sbx sby sdx sdy hs wk awk fw x y hP.1 hP.2) gX10_on_X7_holds_u193X7 rfl (XF.2.2.2.2.2.2 _ (by decide +kernel)) (by decide +kernel) ⟨Nat.le_of_ble_eq_true rfl, Nat.le_of_ble_eq_true rfl⟩ 0 rfl rfl [2, 3, 4] rfl (by decide) rfl rfl (Nat.le_of_ble_eq_true rfl) ⟨Nat.le_of_ble_eq_true rfl, Nat.le_of_ble_eq_true rfl⟩ ?_
    rintro _ u_1 rfl
    change J p l e rm_X10_on s m args below meth c Q G A 7 0 0 53 [(6, .ref s0), (0, .ref x0), (1, .int x1), (2, .long x), (4, .long y)] [.int (bI (onS sax.toInt say.toInt sbx.toInt sby.toInt x.toInt y.toInt))] [(x0, .inr (9, [.ref xs, .int (nI N), .ref po, .ref ro, .ref cr, .ref gp, .ref nu, .ref wk])), (xs, aS G 200 f), (s0, .inr (7, [.long sax, .long say, .long sbx, .long sby, .long sdx, .long sdy])), (wk, .inr (8, [.ref awk])), (awk, aJ G 8 u_1)]
    exact E.2.1 53 _ (bI (onS sax.toInt say.toInt sbx.toInt sby.toInt x.toInt y.toInt)) u_1 _ dX10_on_53 rfl hr (nar_I _)
  · skip
    rw [bI_0] at c_28
    exfalso; omega

theorem hy_X10_on_V : yX10_on.cls = RX10 ∧ yX10_on.cls ≠ "java/lang/invoke/MethodHandle" ∧ yX10_on.cls ≠ "java/lang/invoke/VarHandle" ∧ (parseMethodDescriptor yX10_on.desc).map (fun d => d.parameters.length) = some 3 := by decide +kernel
set_option maxHeartbeats 4000000 in
set_option maxRecDepth 100000 in
theorem c_X10_on_a (l : Launch) (G : jG) (x0 xs po ro cr gp nu wk : Nat) (f : Nat → Option Nat) (N : Nat) (gN : N ≤ 200) (x1 : Int32) (x y : Int64) (p0 : Nat) (pcx pcy pr : Int64) (pf pt : Int32) (hp : arH pcx pcy pr pf pt) (awk : Nat) (fw : Nat → Int64) (hf : shO f N x1 = some p0) (hP : inC x.toInt ∧ inC y.toInt) : Cf l yX10_on wsX10_on rm_X10_on G [.ref x0, .int x1, .long x, .long y] [(x0, .inr (9, [.ref xs, .int (nI N), .ref po, .ref ro, .ref cr, .ref gp, .ref nu, .ref wk])), (xs, aS G 200 f), (p0, .inr (0, [.long pcx, .long pcy, .long pr, .int pf, .int pt])), (wk, .inr (8, [.ref awk])), (awk, aJ G 8 fw)] (S := Nat → Int64) (fun r _ => r = some (.int (bI (onA pcx.toInt pcy.toInt pr.toInt pf.toInt pt.toInt x.toInt y.toInt)))) (fun u => [(x0, .inr (9, [.ref xs, .int (nI N), .ref po, .ref ro, .ref cr, .ref gp, .ref nu, .ref wk])), (xs, aS G 200 f), (p0, .inr (0, [.long pcx, .long pcy, .long pr, .int pf, .int pt])), (wk, .inr (8, [.ref awk])), (awk, aJ G 8 u)]) (fun _ => []) := by
  refine cf_intro (cc := cX10_on) (maxL := 7) (ret := (some .boolean)) (by decide) rfl (Nat.le_of_ble_eq_true rfl) (fun _ => by simp only [List.map_cons, List.map_nil]) ?_
  intro p e s m args below meth c Q A X XF hr hin E
  change J p l e rm_X10_on s m args below meth c Q G A 7 0 0 0 [(0, .ref x0), (1, .int x1), (2, .long x), (4, .long y)] [] [(x0, .inr (9, [.ref xs, .int (nI N), .ref po, .ref ro, .ref cr, .ref gp, .ref nu, .ref wk])), (xs, aS G 200 f), (p0, .inr (0, [.long pcx, .long pcy, .long pr, .int pf, .int pt])), (wk, .inr (8, [.ref awk])), (awk, aJ G 8 fw)]
  refine j_aload_n X dX10_on_0 rfl 0 rfl ?_
  refine j_iload_n X dX10_on_1 rfl 1 rfl ?_
  refine j_callV X dX10_on_2 (c_X10_shapeOf l G x0 xs po ro cr gp nu wk f N gN x1 (some p0) hf) gX10_on_X10_shapeOf rfl hy_X10_shapeOf_V ⟨Nat.le_of_ble_eq_true rfl, Nat.le_of_ble_eq_true rfl⟩ 0 rfl rfl [0, 1] rfl (by decide) rfl rfl (Nat.le_of_ble_eq_true rfl) ⟨Nat.le_of_ble_eq_true rfl, Nat.le_of_ble_eq_true rfl⟩ ?_
  rintro _ ⟨⟩ rfl
  change J p l e rm_X10_on s m args below meth c Q G A 7 0 0 5 [(0, .ref x0), (1, .int x1), (2, .long x), (4, .long y)] [.ref p0] [(x0, .inr (9, [.ref xs, .int (nI N), .ref po, .ref ro, .ref cr, .ref gp, .ref nu, .ref wk])), (xs, aS G 200 f), (p0, .inr (0, [.long pcx, .long pcy, .long pr, .int pf, .int pt])), (wk, .inr (8, [.ref awk])), (awk, aJ G 8 fw)]
  refine j_astore (L' := [(6, .ref p0), (0, .ref x0), (1, .int x1), (2, .long x), (4, .long y)]) X dX10_on_5 (by decide) rfl ?_
  refine j_aload X dX10_on_7 0 rfl ?_
  refine j_ifnonnull (tgt := 22) X dX10_on_9 (by decide) ?_
  refine j_lload_n X dX10_on_22 rfl 3 rfl ?_
  refine j_lload X dX10_on_23 4 rfl ?_
  refine j_callS X dX10_on_25 (c_X10_isPlace l G x y) gX10_on_X10_isPlace rfl hy_X10_isPlace_S ⟨Nat.le_of_ble_eq_true rfl, Nat.le_of_ble_eq_true rfl⟩ [] rfl (by decide) rfl rfl (Nat.le_of_ble_eq_true rfl) ⟨Nat.le_of_ble_eq_true rfl, Nat.le_of_ble_eq_true rfl⟩ ?_
  rintro _ ⟨⟩ rfl
  change J p l e rm_X10_on s m args below meth c Q G A 7 0 0 28 [(6, .ref p0), (0, .ref x0), (1, .int x1), (2, .long x), (4, .long y)] [.int (bI (inC x.toInt ∧ inC y.toInt))] [(x0, .inr (9, [.ref xs, .int (nI N), .ref po, .ref ro, .ref cr, .ref gp, .ref nu, .ref wk])), (xs, aS G 200 f), (p0, .inr (0, [.long pcx, .long pcy, .long pr, .int pf, .int pt])), (wk, .inr (8, [.ref awk])), (awk, aJ G 8 fw)]
  refine j_if_ne (tgt := 41) X dX10_on_28 (by decide) (fun c_28 => ?_) (fun c_28 => ?_)
  · skip
    rw [bI_0, Classical.not_not] at c_28
    refine j_aload X dX10_on_41 0 rfl ?_
    refine j_lload_n X dX10_on_43 rfl 3 rfl ?_
    refine j_lload X dX10_on_44 4 rfl ?_
    refine j_aload_n X dX10_on_46 rfl 1 rfl ?_
    refine j_get (v := .ref wk) X dX10_on_47 0 rfl 7 rfl in_X10_on_X10 (by decide) fl_X10_on_53 rfl ?_
    refine j_callU (nA := 3) X dX10_on_50 (c_X0_holds l G p0 pcx pcy pr pf pt hp wk awk fw x y hP.1 hP.2) gX10_on_X0_holds_u193X0 rfl (XF.2.2.2.2.2.2 _ (by decide +kernel)) (by decide +kernel) ⟨Nat.le_of_ble_eq_true rfl, Nat.le_of_ble_eq_true rfl⟩ 0 rfl rfl [2, 3, 4] rfl (by decide) rfl rfl (Nat.le_of_ble_eq_true rfl) ⟨Nat.le_of_ble_eq_true rfl, Nat.le_of_ble_eq_true rfl⟩ ?_
    rintro _ u_1 rfl
    change J p l e rm_X10_on s m args below meth c Q G A 7 0 0 53 [(6, .ref p0), (0, .ref x0), (1, .int x1), (2, .long x), (4, .long y)] [.int (bI (onA pcx.toInt pcy.toInt pr.toInt pf.toInt pt.toInt x.toInt y.toInt))] [(x0, .inr (9, [.ref xs, .int (nI N), .ref po, .ref ro, .ref cr, .ref gp, .ref nu, .ref wk])), (xs, aS G 200 f), (p0, .inr (0, [.long pcx, .long pcy, .long pr, .int pf, .int pt])), (wk, .inr (8, [.ref awk])), (awk, aJ G 8 u_1)]
    exact E.2.1 53 _ (bI (onA pcx.toInt pcy.toInt pr.toInt pf.toInt pt.toInt x.toInt y.toInt)) u_1 _ dX10_on_53 rfl hr (nar_I _)
  · skip
    rw [bI_0] at c_28
    exfalso; omega

