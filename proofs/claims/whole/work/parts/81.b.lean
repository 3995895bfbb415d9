abbrev rm_L_turn_ok : Room := { frames := 4, cells := 0, slots := 0, locals := 128 }
set_option maxHeartbeats 4000000 in
set_option maxRecDepth 100000 in
theorem c_L_turn_ok (l : Launch) (G : jG) (x0 xs po ro cr gp nu wk : Nat) (cn : Int32) (awk : Nat) (fw : Nat → Int64) (ax ay bx by1 cx cy : Int64) (hP : (inC ax.toInt ∧ inC ay.toInt) ∧ (inC bx.toInt ∧ inC by1.toInt) ∧ (inC cx.toInt ∧ inC cy.toInt)) (ot : Nat) (ofn : Nat → Int64) : Cf l yL_turn wsL_turn rm_L_turn_ok G [.ref x0, .long ax, .long ay, .long bx, .long by1, .long cx, .long cy, .ref ot] [(x0, .inr (9, [.ref xs, .int cn, .ref po, .ref ro, .ref cr, .ref gp, .ref nu, .ref wk])), (wk, .inr (8, [.ref awk])), (awk, aJ G 8 fw), (ot, aJ G 1 ofn)] (S := Int64 × (Nat → Int64)) (fun r u => r = some (.int 0) ∧ ∃ xx9 : Int32, ((fun r _ => r = some (.int (sg (tn ax.toInt ay.toInt bx.toInt by1.toInt cx.toInt cy.toInt)))) : Option Value → (Nat → Int64) → Prop) (some (.int xx9)) u.2 ∧ u.1 = xx9.toInt64) (fun u => [(x0, .inr (9, [.ref xs, .int cn, .ref po, .ref ro, .ref cr, .ref gp, .ref nu, .ref wk])), (wk, .inr (8, [.ref awk])), (awk, aJ G 8 u.2), (ot, aJ G 1 (vp_updL ofn 0 u.1))]) (fun _ => []) := by
  refine cf_introW (cc := cL_turn) (maxL := 15) (ret := (some .int)) (hh := [(0, 19, 22, 13)]) (by decide) rfl (Nat.le_of_ble_eq_true rfl) (fun _ => by simp only [List.map_cons, List.map_nil]) ?_
  intro p e s m args below meth c Q A X XF htab hr E
  change J p l e rm_L_turn_ok s m args below meth c Q G A 15 0 0 0 [(0, .ref x0), (1, .long ax), (3, .long ay), (5, .long bx), (7, .long by1), (9, .long cx), (11, .long cy), (13, .ref ot)] [] [(x0, .inr (9, [.ref xs, .int cn, .ref po, .ref ro, .ref cr, .ref gp, .ref nu, .ref wk])), (wk, .inr (8, [.ref awk])), (awk, aJ G 8 fw), (ot, aJ G 1 ofn)]
  refine j_aload X dL_turn_0 7 rfl ?_
  refine j_iconst (v := 0) X dL_turn_2 rfl ?_
  refine j_aload_n X dL_turn_3 rfl 0 rfl ?_
  refine j_lload_n X dL_turn_4 rfl 1 rfl ?_
  refine j_lload_n X dL_turn_5 rfl 2 rfl ?_
  refine j_lload X dL_turn_6 3 rfl ?_
  refine j_lload X dL_turn_8 4 rfl ?_
  refine j_lload X dL_turn_10 5 rfl ?_
  refine j_lload X dL_turn_12 6 rfl ?_
  refine j_callVFP X XF dL_turn_14 (Ct.cf (c_X10_turn_ok l G x0 xs po ro cr gp nu wk cn awk fw ax ay bx by1 cx cy hP)) gL_turn_X10_turn rfl hy_X10_turn_V ⟨Nat.le_of_ble_eq_true rfl, Nat.le_of_ble_eq_true rfl⟩ 0 rfl rfl [(ot, aJ G 1 ofn)] rfl rfl rfl (Nat.le_of_ble_eq_true rfl) ⟨Nat.le_of_ble_eq_true rfl, Nat.le_of_ble_eq_true rfl⟩ ?_
  rintro v9 u9 hp9
  obtain ⟨x9, hx9⟩ : ∃ x : Int32, v9 = some (.int x) := ⟨_, hp9⟩
  subst hx9
  change J p l e rm_L_turn_ok s m args below meth c Q G A 15 0 0 17 [(0, .ref x0), (1, .long ax), (3, .long ay), (5, .long bx), (7, .long by1), (9, .long cx), (11, .long cy), (13, .ref ot)] [.int x9, .int 0, .ref ot] [(x0, .inr (9, [.ref xs, .int cn, .ref po, .ref ro, .ref cr, .ref gp, .ref nu, .ref wk])), (wk, .inr (8, [.ref awk])), (awk, aJ G 8 u9), (ot, aJ G 1 ofn)]
  refine j_i2l X dL_turn_17 rfl ?_
  refine j_last (ws' := [(x0, .inr (9, [.ref xs, .int cn, .ref po, .ref ro, .ref cr, .ref gp, .ref nu, .ref wk])), (wk, .inr (8, [.ref awk])), (awk, aJ G 8 u9), (ot, aJ G 1 (vp_updL ofn 0 x9.toInt64))]) X dL_turn_18 3 rfl 0 rfl (by decide) (by decide) rfl ?_
  refine j_goto (tgt := 26) X dL_turn_19 (by decide) ?_
  refine j_iconst (v := 0) X dL_turn_26 rfl ?_
  exact E.2.1 27 _ 0 (x9.toInt64, u9) _ dL_turn_27 ⟨rfl, x9, hp9, rfl⟩ hr rfl

theorem hs_L_turn : yL_turn.cls ≠ "java/lang/invoke/MethodHandle" ∧ yL_turn.cls ≠ "java/lang/invoke/VarHandle" ∧ (parseMethodDescriptor yL_turn.desc).map (fun d => d.parameters.length) = some 8 := by decide +kernel
abbrev rm_L_turn_no : Room := { frames := 7, cells := 1, slots := 6, locals := 122 }
theorem lk_L_turn_13 : Cond.classLink RL 13 eA ∈ wsL_turn := by decide +kernel
set_option maxHeartbeats 4000000 in
set_option maxRecDepth 100000 in
theorem c_L_turn_no (l : Launch) (G : jG) (hst : l.stackTraces = false) (x0 xs po ro cr gp nu wk : Nat) (cn : Int32) (ax ay bx by1 cx cy : Int64) (hP : ¬ ((inC ax.toInt ∧ inC ay.toInt) ∧ (inC bx.toInt ∧ inC by1.toInt) ∧ (inC cx.toInt ∧ inC cy.toInt))) (ot : Nat) (ofn : Nat → Int64) : Cf l yL_turn wsL_turn rm_L_turn_no G [.ref x0, .long ax, .long ay, .long bx, .long by1, .long cx, .long cy, .ref ot] [(x0, .inr (9, [.ref xs, .int cn, .ref po, .ref ro, .ref cr, .ref gp, .ref nu, .ref wk])), (ot, aJ G 1 ofn)] (S := Unit) (fun r u => r = some (.int 1) ∧ ((fun _ => True) : (Unit) → Prop) u) (fun u => [(x0, .inr (9, [.ref xs, .int cn, .ref po, .ref ro, .ref cr, .ref gp, .ref nu, .ref wk])), (ot, aJ G 1 ofn)]) (fun _ => []) := by
  refine cf_introW (cc := cL_turn) (maxL := 15) (ret := (some .int)) (hh := [(0, 19, 22, 13)]) (by decide) rfl (Nat.le_of_ble_eq_true rfl) (fun _ => by simp only [List.map_cons, List.map_nil]) ?_
  intro p e s m args below meth c Q A X XF htab hr E
  change J p l e rm_L_turn_no s m args below meth c Q G A 15 0 0 0 [(0, .ref x0), (1, .long ax), (3, .long ay), (5, .long bx), (7, .long by1), (9, .long cx), (11, .long cy), (13, .ref ot)] [] [(x0, .inr (9, [.ref xs, .int cn, .ref po, .ref ro, .ref cr, .ref gp, .ref nu, .ref wk])), (ot, aJ G 1 ofn)]
  refine j_aload X dL_turn_0 7 rfl ?_
  refine j_iconst (v := 0) X dL_turn_2 rfl ?_
  refine j_aload_n X dL_turn_3 rfl 0 rfl ?_
  refine j_lload_n X dL_turn_4 rfl 1 rfl ?_
  refine j_lload_n X dL_turn_5 rfl 2 rfl ?_
  refine j_lload X dL_turn_6 3 rfl ?_
  refine j_lload X dL_turn_8 4 rfl ?_
  refine j_lload X dL_turn_10 5 rfl ?_
  refine j_lload X dL_turn_12 6 rfl ?_
  refine j_callVXP X XF dL_turn_14 (c_X10_turn_no l G hst x0 xs po ro cr gp nu wk cn ax ay bx by1 cx cy hP) gL_turn_X10_turn rfl hy_X10_turn_V ⟨Nat.le_of_ble_eq_true rfl, Nat.le_of_ble_eq_true rfl⟩ 0 rfl rfl [(ot, aJ G 1 ofn)] rfl rfl rfl (Nat.le_of_ble_eq_true rfl) ⟨Nat.le_of_ble_eq_true rfl, Nat.le_of_ble_eq_true rfl⟩ [] ⟨0, 19, 22, 13⟩ [] (htab.trans rfl) (fun z hz => absurd hz List.not_mem_nil) (by decide) (by decide) lk_L_turn_13 (by decide +kernel) ?_
  rintro q9 u9 hp9
  change J p l e rm_L_turn_no s m args below meth c Q G A 15 1 6 22 [(0, .ref x0), (1, .long ax), (3, .long ay), (5, .long bx), (7, .long by1), (9, .long cx), (11, .long cy), (13, .ref ot)] [.ref q9] [(x0, .inr (9, [.ref xs, .int cn, .ref po, .ref ro, .ref cr, .ref gp, .ref nu, .ref wk])), (ot, aJ G 1 ofn)]
  refine j_astore (L' := [(14, .ref q9), (0, .ref x0), (1, .long ax), (3, .long ay), (5, .long bx), (7, .long by1), (9, .long cx), (11, .long cy), (13, .ref ot)]) X dL_turn_22 (by decide) rfl ?_
  refine j_iconst (v := 1) X dL_turn_24 rfl ?_
  exact E.2.1 25 _ 1 u9 _ dL_turn_25 ⟨rfl, hp9⟩ hr rfl

abbrev rm_L_segment_ok : Room := { frames := 4, cells := 1, slots := 6, locals := 108 }
set_option maxHeartbeats 4000000 in
set_option maxRecDepth 100000 in
theorem c_L_segment_ok (l : Launch) (G : jG) (x0 xs po ro cr gp nu wk : Nat) (f : Nat → Option Nat) (N : Nat) (gN : N < 200) (ax ay bx by1 : Int64) (hP : ((inC ax.toInt ∧ inC ay.toInt) ∧ (inC bx.toInt ∧ inC by1.toInt)) ∧ ¬ (ax.toInt = bx.toInt ∧ ay.toInt = by1.toInt)) (ot : Nat) (ofn : Nat → Int64) : Cf l yL_segment wsL_segment rm_L_segment_ok G [.ref x0, .long ax, .long ay, .long bx, .long by1, .ref ot] [(x0, .inr (9, [.ref xs, .int (nI N), .ref po, .ref ro, .ref cr, .ref gp, .ref nu, .ref wk])), (xs, aS G 200 f), (ot, aJ G 1 ofn)] (S := Int64 × (Nat)) (fun r u => r = some (.int 0) ∧ ∃ xx9 : Int32, ((fun r _ => r = some (.int (nI N))) : Option Value → (Nat) → Prop) (some (.int xx9)) u.2 ∧ u.1 = xx9.toInt64) (fun u => [(x0, .inr (9, [.ref xs, .int (nI (N + 1)), .ref po, .ref ro, .ref cr, .ref gp, .ref nu, .ref wk])), (xs, aS G 200 (va_up f N (some u.2))), (ot, aJ G 1 (vp_updL ofn 0 u.1))]) (fun u => [(u.2, .inr (7, [.long ax, .long ay, .long bx, .long by1, .long (bx - ax), .long (by1 - ay)]))]) := by
  refine cf_introW (cc := cL_segment) (maxL := 11) (ret := (some .int)) (hh := [(0, 15, 18, 13)]) (by decide) rfl (Nat.le_of_ble_eq_true rfl) (fun _ => by simp only [List.map_cons, List.map_nil]) ?_
  intro p e s m args below meth c Q A X XF htab hr E
  change J p l e rm_L_segment_ok s m args below meth c Q G A 11 0 0 0 [(0, .ref x0), (1, .long ax), (3, .long ay), (5, .long bx), (7, .long by1), (9, .ref ot)] [] [(x0, .inr (9, [.ref xs, .int (nI N), .ref po, .ref ro, .ref cr, .ref gp, .ref nu, .ref wk])), (xs, aS G 200 f), (ot, aJ G 1 ofn)]
  refine j_aload X dL_segment_0 5 rfl ?_
  refine j_iconst (v := 0) X dL_segment_2 rfl ?_
  refine j_aload_n X dL_segment_3 rfl 0 rfl ?_
  refine j_lload_n X dL_segment_4 rfl 1 rfl ?_
  refine j_lload_n X dL_segment_5 rfl 2 rfl ?_
  refine j_lload X dL_segment_6 3 rfl ?_
  refine j_lload X dL_segment_8 4 rfl ?_
  refine j_callVFP X XF dL_segment_10 (c_X10_segment_ok l G x0 xs po ro cr gp nu wk f N gN ax ay bx by1 hP) gL_segment_X10_segment rfl hy_X10_segment_V ⟨Nat.le_of_ble_eq_true rfl, Nat.le_of_ble_eq_true rfl⟩ 0 rfl rfl [(ot, aJ G 1 ofn)] rfl rfl rfl (Nat.le_of_ble_eq_true rfl) ⟨Nat.le_of_ble_eq_true rfl, Nat.le_of_ble_eq_true rfl⟩ ?_
  rintro v9 u9 hp9
  obtain ⟨x9, hx9⟩ : ∃ x : Int32, v9 = some (.int x) := ⟨_, hp9⟩
  subst hx9
  change J p l e rm_L_segment_ok s m args below meth c Q G A 11 1 6 13 [(0, .ref x0), (1, .long ax), (3, .long ay), (5, .long bx), (7, .long by1), (9, .ref ot)] [.int x9, .int 0, .ref ot] [(x0, .inr (9, [.ref xs, .int (nI (N + 1)), .ref po, .ref ro, .ref cr, .ref gp, .ref nu, .ref wk])), (xs, aS G 200 (va_up f N (some u9))), (ot, aJ G 1 ofn), (u9, .inr (7, [.long ax, .long ay, .long bx, .long by1, .long (bx - ax), .long (by1 - ay)]))]
  refine j_i2l X dL_segment_13 rfl ?_
  refine j_last (ws' := [(x0, .inr (9, [.ref xs, .int (nI (N + 1)), .ref po, .ref ro, .ref cr, .ref gp, .ref nu, .ref wk])), (xs, aS G 200 (va_up f N (some u9))), (ot, aJ G 1 (vp_updL ofn 0 x9.toInt64)), (u9, .inr (7, [.long ax, .long ay, .long bx, .long by1, .long (bx - ax), .long (by1 - ay)]))]) X dL_segment_14 2 rfl 0 rfl (by decide) (by decide) rfl ?_
  refine j_goto (tgt := 22) X dL_segment_15 (by decide) ?_
  refine j_iconst (v := 0) X dL_segment_22 rfl ?_
  exact E.2.1 23 _ 0 (x9.toInt64, u9) _ dL_segment_23 ⟨rfl, x9, hp9, rfl⟩ hr rfl

theorem hs_L_segment : yL_segment.cls ≠ "java/lang/invoke/MethodHandle" ∧ yL_segment.cls ≠ "java/lang/invoke/VarHandle" ∧ (parseMethodDescriptor yL_segment.desc).map (fun d => d.parameters.length) = some 6 := by decide +kernel
abbrev rm_L_segment_no : Room := { frames := 7, cells := 1, slots := 6, locals := 118 }
theorem lk_L_segment_13 : Cond.classLink RL 13 eA ∈ wsL_segment := by decide +kernel
set_option maxHeartbeats 4000000 in
set_option maxRecDepth 100000 in
theorem c_L_segment_no (l : Launch) (G : jG) (hst : l.stackTraces = false) (x0 xs po ro cr gp nu wk : Nat) (cn : Int32) (ax ay bx by1 : Int64) (hP : ¬ (((inC ax.toInt ∧ inC ay.toInt) ∧ (inC bx.toInt ∧ inC by1.toInt)) ∧ ¬ (ax.toInt = bx.toInt ∧ ay.toInt = by1.toInt))) (ot : Nat) (ofn : Nat → Int64) : Cf l yL_segment wsL_segment rm_L_segment_no G [.ref x0, .long ax, .long ay, .long bx, .long by1, .ref ot] [(x0, .inr (9, [.ref xs, .int cn, .ref po, .ref ro, .ref cr, .ref gp, .ref nu, .ref wk])), (ot, aJ G 1 ofn)] (S := Unit) (fun r u => r = some (.int 1) ∧ ((fun _ => True) : (Unit) → Prop) u) (fun u => [(x0, .inr (9, [.ref xs, .int cn, .ref po, .ref ro, .ref cr, .ref gp, .ref nu, .ref wk])), (ot, aJ G 1 ofn)]) (fun _ => []) := by
  refine cf_introW (cc := cL_segment) (maxL := 11) (ret := (some .int)) (hh := [(0, 15, 18, 13)]) (by decide) rfl (Nat.le_of_ble_eq_true rfl) (fun _ => by simp only [List.map_cons, List.map_nil]) ?_
  intro p e s m args below meth c Q A X XF htab hr E
  change J p l e rm_L_segment_no s m args below meth c Q G A 11 0 0 0 [(0, .ref x0), (1, .long ax), (3, .long ay), (5, .long bx), (7, .long by1), (9, .ref ot)] [] [(x0, .inr (9, [.ref xs, .int cn, .ref po, .ref ro, .ref cr, .ref gp, .ref nu, .ref wk])), (ot, aJ G 1 ofn)]
  refine j_aload X dL_segment_0 5 rfl ?_
  refine j_iconst (v := 0) X dL_segment_2 rfl ?_
  refine j_aload_n X dL_segment_3 rfl 0 rfl ?_
  refine j_lload_n X dL_segment_4 rfl 1 rfl ?_
  refine j_lload_n X dL_segment_5 rfl 2 rfl ?_
  refine j_lload X dL_segment_6 3 rfl ?_
  refine j_lload X dL_segment_8 4 rfl ?_
  refine j_callVXP X XF dL_segment_10 (c_X10_segment_no l G hst x0 xs po ro cr gp nu wk cn ax ay bx by1 hP) gL_segment_X10_segment rfl hy_X10_segment_V ⟨Nat.le_of_ble_eq_true rfl, Nat.le_of_ble_eq_true rfl⟩ 0 rfl rfl [(ot, aJ G 1 ofn)] rfl rfl rfl (Nat.le_of_ble_eq_true rfl) ⟨Nat.le_of_ble_eq_true rfl, Nat.le_of_ble_eq_true rfl⟩ [] ⟨0, 15, 18, 13⟩ [] (htab.trans rfl) (fun z hz => absurd hz List.not_mem_nil) (by decide) (by decide) lk_L_segment_13 (by decide +kernel) ?_
  rintro q9 u9 hp9
  change J p l e rm_L_segment_no s m args below meth c Q G A 11 1 6 18 [(0, .ref x0), (1, .long ax), (3, .long ay), (5, .long bx), (7, .long by1), (9, .ref ot)] [.ref q9] [(x0, .inr (9, [.ref xs, .int cn, .ref po, .ref ro, .ref cr, .ref gp, .ref nu, .ref wk])), (ot, aJ G 1 ofn)]
  refine j_astore (L' := [(10, .ref q9), (0, .ref x0), (1, .long ax), (3, .long ay), (5, .long bx), (7, .long by1), (9, .ref ot)]) X dL_segment_18 (by decide) rfl ?_
  refine j_iconst (v := 1) X dL_segment_20 rfl ?_
  exact E.2.1 21 _ 1 u9 _ dL_segment_21 ⟨rfl, hp9⟩ hr rfl

abbrev rm_L_arc_ok : Room := { frames := 4, cells := 1, slots := 6, locals := 108 }
set_option maxHeartbeats 4000000 in
set_option maxRecDepth 100000 in
theorem c_L_arc_ok (l : Launch) (G : jG) (x0 xs po ro cr gp nu wk : Nat) (f : Nat → Option Nat) (N : Nat) (gN : N < 200) (cx cy r : Int64) (fo tw : Int32) (hP : (inC cx.toInt ∧ inC cy.toInt) ∧ (1 ≤ r.toInt ∧ r.toInt ≤ 4611686018427387904) ∧ (0 ≤ fo.toInt ∧ fo.toInt < 8) ∧ (0 ≤ tw.toInt ∧ tw.toInt < 8)) (ot : Nat) (ofn : Nat → Int64) : Cf l yL_arc wsL_arc rm_L_arc_ok G [.ref x0, .long cx, .long cy, .long r, .int fo, .int tw, .ref ot] [(x0, .inr (9, [.ref xs, .int (nI N), .ref po, .ref ro, .ref cr, .ref gp, .ref nu, .ref wk])), (xs, aS G 200 f), (ot, aJ G 1 ofn)] (S := Int64 × (Nat)) (fun r u => r = some (.int 0) ∧ ∃ xx9 : Int32, ((fun r _ => r = some (.int (nI N))) : Option Value → (Nat) → Prop) (some (.int xx9)) u.2 ∧ u.1 = xx9.toInt64) (fun u => [(x0, .inr (9, [.ref xs, .int (nI (N + 1)), .ref po, .ref ro, .ref cr, .ref gp, .ref nu, .ref wk])), (xs, aS G 200 (va_up f N (some u.2))), (ot, aJ G 1 (vp_updL ofn 0 u.1))]) (fun u => [(u.2, .inr (0, [.long cx, .long cy, .long r, .int fo, .int tw]))]) := by
  refine cf_introW (cc := cL_arc) (maxL := 11) (ret := (some .int)) (hh := [(0, 17, 20, 13)]) (by decide) rfl (Nat.le_of_ble_eq_true rfl) (fun _ => by simp only [List.map_cons, List.map_nil]) ?_
  intro p e s m args below meth c Q A X XF htab hr E
  change J p l e rm_L_arc_ok s m args below meth c Q G A 11 0 0 0 [(0, .ref x0), (1, .long cx), (3, .long cy), (5, .long r), (7, .int fo), (8, .int tw), (9, .ref ot)] [] [(x0, .inr (9, [.ref xs, .int (nI N), .ref po, .ref ro, .ref cr, .ref gp, .ref nu, .ref wk])), (xs, aS G 200 f), (ot, aJ G 1 ofn)]
  refine j_aload X dL_arc_0 6 rfl ?_
  refine j_iconst (v := 0) X dL_arc_2 rfl ?_
  refine j_aload_n X dL_arc_3 rfl 0 rfl ?_
  refine j_lload_n X dL_arc_4 rfl 1 rfl ?_
  refine j_lload_n X dL_arc_5 rfl 2 rfl ?_
  refine j_lload X dL_arc_6 3 rfl ?_
  refine j_iload X dL_arc_8 4 rfl ?_
  refine j_iload X dL_arc_10 5 rfl ?_
  refine j_callVFP X XF dL_arc_12 (c_X10_arc_ok l G x0 xs po ro cr gp nu wk f N gN cx cy r fo tw hP) gL_arc_X10_arc rfl hy_X10_arc_V ⟨Nat.le_of_ble_eq_true rfl, Nat.le_of_ble_eq_true rfl⟩ 0 rfl rfl [(ot, aJ G 1 ofn)] rfl rfl rfl (Nat.le_of_ble_eq_true rfl) ⟨Nat.le_of_ble_eq_true rfl, Nat.le_of_ble_eq_true rfl⟩ ?_
  rintro v9 u9 hp9
  obtain ⟨x9, hx9⟩ : ∃ x : Int32, v9 = some (.int x) := ⟨_, hp9⟩
  subst hx9
  change J p l e rm_L_arc_ok s m args below meth c Q G A 11 1 6 15 [(0, .ref x0), (1, .long cx), (3, .long cy), (5, .long r), (7, .int fo), (8, .int tw), (9, .ref ot)] [.int x9, .int 0, .ref ot] [(x0, .inr (9, [.ref xs, .int (nI (N + 1)), .ref po, .ref ro, .ref cr, .ref gp, .ref nu, .ref wk])), (xs, aS G 200 (va_up f N (some u9))), (ot, aJ G 1 ofn), (u9, .inr (0, [.long cx, .long cy, .long r, .int fo, .int tw]))]
  refine j_i2l X dL_arc_15 rfl ?_
  refine j_last (ws' := [(x0, .inr (9, [.ref xs, .int (nI (N + 1)), .ref po, .ref ro, .ref cr, .ref gp, .ref nu, .ref wk])), (xs, aS G 200 (va_up f N (some u9))), (ot, aJ G 1 (vp_updL ofn 0 x9.toInt64)), (u9, .inr (0, [.long cx, .long cy, .long r, .int fo, .int tw]))]) X dL_arc_16 2 rfl 0 rfl (by decide) (by decide) rfl ?_
  refine j_goto (tgt := 24) X dL_arc_17 (by decide) ?_
  refine j_iconst (v := 0) X dL_arc_24 rfl ?_
  exact E.2.1 25 _ 0 (x9.toInt64, u9) _ dL_arc_25 ⟨rfl, x9, hp9, rfl⟩ hr rfl

theorem hs_L_arc : yL_arc.cls ≠ "java/lang/invoke/MethodHandle" ∧ yL_arc.cls ≠ "java/lang/invoke/VarHandle" ∧ (parseMethodDescriptor yL_arc.desc).map (fun d => d.parameters.length) = some 7 := by decide +kernel
abbrev rm_L_arc_no : Room := { frames := 7, cells := 1, slots := 6, locals := 118 }
theorem lk_L_arc_13 : Cond.classLink RL 13 eA ∈ wsL_arc := by decide +kernel
set_option maxHeartbeats 4000000 in
set_option maxRecDepth 100000 in
theorem c_L_arc_no (l : Launch) (G : jG) (hst : l.stackTraces = false) (x0 xs po ro cr gp nu wk : Nat) (cn : Int32) (cx cy r : Int64) (fo tw : Int32) (hP : ¬ ((inC cx.toInt ∧ inC cy.toInt) ∧ (1 ≤ r.toInt ∧ r.toInt ≤ 4611686018427387904) ∧ (0 ≤ fo.toInt ∧ fo.toInt < 8) ∧ (0 ≤ tw.toInt ∧ tw.toInt < 8))) (ot : Nat) (ofn : Nat → Int64) : Cf l yL_arc wsL_arc rm_L_arc_no G [.ref x0, .long cx, .long cy, .long r, .int fo, .int tw, .ref ot] [(x0, .inr (9, [.ref xs, .int cn, .ref po, .ref ro, .ref cr, .ref gp, .ref nu, .ref wk])), (ot, aJ G 1 ofn)] (S := Unit) (fun r u => r = some (.int 1) ∧ ((fun _ => True) : (Unit) → Prop) u) (fun u => [(x0, .inr (9, [.ref xs, .int cn, .ref po, .ref ro, .ref cr, .ref gp, .ref nu, .ref wk])), (ot, aJ G 1 ofn)]) (fun _ => []) := by
  refine cf_introW (cc := cL_arc) (maxL := 11) (ret := (some .int)) (hh := [(0, 17, 20, 13)]) (by decide) rfl (Nat.le_of_ble_eq_true rfl) (fun _ => by simp only [List.map_cons, List.map_nil]) ?_
  intro p e s m args below meth c Q A X XF htab hr E
  change J p l e rm_L_arc_no s m args below meth c Q G A 11 0 0 0 [(0, .ref x0), (1, .long cx), (3, .long cy), (5, .long r), (7, .int fo), (8, .int tw), (9, .ref ot)] [] [(x0, .inr (9, [.ref xs, .int cn, .ref po, .ref ro, .ref cr, .ref gp, .ref nu, .ref wk])), (ot, aJ G 1 ofn)]
  refine j_aload X dL_arc_0 6 rfl ?_
  refine j_iconst (v := 0) X dL_arc_2 rfl ?_
  refine j_aload_n X dL_arc_3 rfl 0 rfl ?_
  refine j_lload_n X dL_arc_4 rfl 1 rfl ?_
  refine j_lload_n X dL_arc_5 rfl 2 rfl ?_
  refine j_lload X dL_arc_6 3 rfl ?_
  refine j_iload X dL_arc_8 4 rfl ?_
  refine j_iload X dL_arc_10 5 rfl ?_
  refine j_callVXP X XF dL_arc_12 (c_X10_arc_no l G hst x0 xs po ro cr gp nu wk cn cx cy r fo tw hP) gL_arc_X10_arc rfl hy_X10_arc_V ⟨Nat.le_of_ble_eq_true rfl, Nat.le_of_ble_eq_true rfl⟩ 0 rfl rfl [(ot, aJ G 1 ofn)] rfl rfl rfl (Nat.le_of_ble_eq_true rfl) ⟨Nat.le_of_ble_eq_true rfl, Nat.le_of_ble_eq_true rfl⟩ [] ⟨0, 17, 20, 13⟩ [] (htab.trans rfl) (fun z hz => absurd hz List.not_mem_nil) (by decide) (by decide) lk_L_arc_13 (by decide +kernel) ?_
  rintro q9 u9 hp9
  change J p l e rm_L_arc_no s m args below meth c Q G A 11 1 6 20 [(0, .ref x0), (1, .long cx), (3, .long cy), (5, .long r), (7, .int fo), (8, .int tw), (9, .ref ot)] [.ref q9] [(x0, .inr (9, [.ref xs, .int cn, .ref po, .ref ro, .ref cr, .ref gp, .ref nu, .ref wk])), (ot, aJ G 1 ofn)]
  refine j_astore (L' := [(10, .ref q9), (0, .ref x0), (1, .long cx), (3, .long cy), (5, .long r), (7, .int fo), (8, .int tw), (9, .ref ot)]) X dL_arc_20 (by decide) rfl ?_
  refine j_iconst (v := 1) X dL_arc_22 rfl ?_
  exact E.2.1 23 _ 1 u9 _ dL_arc_23 ⟨rfl, hp9⟩ hr rfl

abbrev rm_L_compare_ok : Room := { frames := 4, cells := 0, slots := 0, locals := 119 }
set_option maxHeartbeats 4000000 in
set_option maxRecDepth 100000 in
theorem c_L_compare_ok (l : Launch) (G : jG) (x0 xs po ro cr gp nu wk : Nat) (cn : Int32) (s1 b1 s2 b2 rr stp n1 m1 n2 m2 n3 m3 awk : Nat) (f1 f2 g1 g2 g3 fw : Nat → Int64) (sd0 : Int32) (fc0 : Int64) (xa xb xc xd : Int64) (hP : 0 ≤ xc.toInt) (ot : Nat) (ofn : Nat → Int64) : Cf l yL_compare wsL_compare rm_L_compare_ok G [.ref x0, .long xa, .long xb, .long xc, .long xd, .ref ot] [(x0, .inr (9, [.ref xs, .int cn, .ref po, .ref ro, .ref cr, .ref gp, .ref nu, .ref wk])), (ro, .inr (6, [.ref s1, .ref s2, .ref rr, .ref stp])), (s1, .inr (8, [.ref b1])), (b1, aJ G 8 f1), (s2, .inr (8, [.ref b2])), (b2, aJ G 8 f2), (nu, .inr (5, [.ref n1, .ref n2, .int sd0, .long fc0, .ref n3])), (n1, .inr (8, [.ref m1])), (m1, aJ G 8 g1), (n2, .inr (8, [.ref m2])), (m2, aJ G 8 g2), (n3, .inr (8, [.ref m3])), (m3, aJ G 8 g3), (wk, .inr (8, [.ref awk])), (awk, aJ G 8 fw), (ot, aJ G 1 ofn)] (S := Int64 × ((Nat → Int64) × (Nat → Int64) × (Nat → Int64) × (Nat → Int64) × (Nat → Int64) × Int32 × Int64 × (Nat → Int64))) (fun r u => r = some (.int 0) ∧ ∃ xx9 : Int32, ((fun r _ => r = some (.int (rn (xa.toInt - xd.toInt) xb.toInt xc.toInt))) : Option Value → ((Nat → Int64) × (Nat → Int64) × (Nat → Int64) × (Nat → Int64) × (Nat → Int64) × Int32 × Int64 × (Nat → Int64)) → Prop) (some (.int xx9)) u.2 ∧ u.1 = xx9.toInt64) (fun u => [(x0, .inr (9, [.ref xs, .int cn, .ref po, .ref ro, .ref cr, .ref gp, .ref nu, .ref wk])), (ro, .inr (6, [.ref s1, .ref s2, .ref rr, .ref stp])), (s1, .inr (8, [.ref b1])), (b1, aJ G 8 u.2.1), (s2, .inr (8, [.ref b2])), (b2, aJ G 8 u.2.2.1), (nu, .inr (5, [.ref n1, .ref n2, .int u.2.2.2.2.2.2.1, .long u.2.2.2.2.2.2.2.1, .ref n3])), (n1, .inr (8, [.ref m1])), (m1, aJ G 8 u.2.2.2.1), (n2, .inr (8, [.ref m2])), (m2, aJ G 8 u.2.2.2.2.1), (n3, .inr (8, [.ref m3])), (m3, aJ G 8 u.2.2.2.2.2.1), (wk, .inr (8, [.ref awk])), (awk, aJ G 8 u.2.2.2.2.2.2.2.2), (ot, aJ G 1 (vp_updL ofn 0 u.1))]) (fun _ => []) := by
  refine cf_introW (cc := cL_compare) (maxL := 11) (ret := (some .int)) (hh := [(0, 15, 18, 13)]) (by decide) rfl (Nat.le_of_ble_eq_true rfl) (fun _ => by simp only [List.map_cons, List.map_nil]) ?_
  intro p e s m args below meth c Q A X XF htab hr E
  change J p l e rm_L_compare_ok s m args below meth c Q G A 11 0 0 0 [(0, .ref x0), (1, .long xa), (3, .long xb), (5, .long xc), (7, .long xd), (9, .ref ot)] [] [(x0, .inr (9, [.ref xs, .int cn, .ref po, .ref ro, .ref cr, .ref gp, .ref nu, .ref wk])), (ro, .inr (6, [.ref s1, .ref s2, .ref rr, .ref stp])), (s1, .inr (8, [.ref b1])), (b1, aJ G 8 f1), (s2, .inr (8, [.ref b2])), (b2, aJ G 8 f2), (nu, .inr (5, [.ref n1, .ref n2, .int sd0, .long fc0, .ref n3])), (n1, .inr (8, [.ref m1])), (m1, aJ G 8 g1), (n2, .inr (8, [.ref m2])), (m2, aJ G 8 g2), (n3, .inr (8, [.ref m3])), (m3, aJ G 8 g3), (wk, .inr (8, [.ref awk])), (awk, aJ G 8 fw), (ot, aJ G 1 ofn)]
  refine j_aload X dL_compare_0 5 rfl ?_
  refine j_iconst (v := 0) X dL_compare_2 rfl ?_
  refine j_aload_n X dL_compare_3 rfl 0 rfl ?_
  refine j_lload_n X dL_compare_4 rfl 1 rfl ?_
  refine j_lload_n X dL_compare_5 rfl 2 rfl ?_
  refine j_lload X dL_compare_6 3 rfl ?_
  refine j_lload X dL_compare_8 4 rfl ?_
  refine j_callVFP X XF dL_compare_10 (Ct.cf (c_X10_compare_ok l G x0 xs po ro cr gp nu wk cn s1 b1 s2 b2 rr stp n1 m1 n2 m2 n3 m3 awk f1 f2 g1 g2 g3 fw sd0 fc0 xa xb xc xd hP)) gL_compare_X10_compare rfl hy_X10_compare_V ⟨Nat.le_of_ble_eq_true rfl, Nat.le_of_ble_eq_true rfl⟩ 0 rfl rfl [(ot, aJ G 1 ofn)] rfl rfl rfl (Nat.le_of_ble_eq_true rfl) ⟨Nat.le_of_ble_eq_true rfl, Nat.le_of_ble_eq_true rfl⟩ ?_
  rintro v9 u9 hp9
  obtain ⟨x9, hx9⟩ : ∃ x : Int32, v9 = some (.int x) := ⟨_, hp9⟩
  subst hx9
  change J p l e rm_L_compare_ok s m args below meth c Q G A 11 0 0 13 [(0, .ref x0), (1, .long xa), (3, .long xb), (5, .long xc), (7, .long xd), (9, .ref ot)] [.int x9, .int 0, .ref ot] [(x0, .inr (9, [.ref xs, .int cn, .ref po, .ref ro, .ref cr, .ref gp, .ref nu, .ref wk])), (ro, .inr (6, [.ref s1, .ref s2, .ref rr, .ref stp])), (s1, .inr (8, [.ref b1])), (b1, aJ G 8 u9.1), (s2, .inr (8, [.ref b2])), (b2, aJ G 8 u9.2.1), (nu, .inr (5, [.ref n1, .ref n2, .int u9.2.2.2.2.2.1, .long u9.2.2.2.2.2.2.1, .ref n3])), (n1, .inr (8, [.ref m1])), (m1, aJ G 8 u9.2.2.1), (n2, .inr (8, [.ref m2])), (m2, aJ G 8 u9.2.2.2.1), (n3, .inr (8, [.ref m3])), (m3, aJ G 8 u9.2.2.2.2.1), (wk, .inr (8, [.ref awk])), (awk, aJ G 8 u9.2.2.2.2.2.2.2), (ot, aJ G 1 ofn)]
  refine j_i2l X dL_compare_13 rfl ?_
  refine j_last (ws' := [(x0, .inr (9, [.ref xs, .int cn, .ref po, .ref ro, .ref cr, .ref gp, .ref nu, .ref wk])), (ro, .inr (6, [.ref s1, .ref s2, .ref rr, .ref stp])), (s1, .inr (8, [.ref b1])), (b1, aJ G 8 u9.1), (s2, .inr (8, [.ref b2])), (b2, aJ G 8 u9.2.1), (nu, .inr (5, [.ref n1, .ref n2, .int u9.2.2.2.2.2.1, .long u9.2.2.2.2.2.2.1, .ref n3])), (n1, .inr (8, [.ref m1])), (m1, aJ G 8 u9.2.2.1), (n2, .inr (8, [.ref m2])), (m2, aJ G 8 u9.2.2.2.1), (n3, .inr (8, [.ref m3])), (m3, aJ G 8 u9.2.2.2.2.1), (wk, .inr (8, [.ref awk])), (awk, aJ G 8 u9.2.2.2.2.2.2.2), (ot, aJ G 1 (vp_updL ofn 0 x9.toInt64))]) X dL_compare_14 15 rfl 0 rfl (by decide) (by decide) rfl ?_
  refine j_goto (tgt := 22) X dL_compare_15 (by decide) ?_
  refine j_iconst (v := 0) X dL_compare_22 rfl ?_
  exact E.2.1 23 _ 0 (x9.toInt64, u9) _ dL_compare_23 ⟨rfl, x9, hp9, rfl⟩ hr rfl

theorem hs_L_compare : yL_compare.cls ≠ "java/lang/invoke/MethodHandle" ∧ yL_compare.cls ≠ "java/lang/invoke/VarHandle" ∧ (parseMethodDescriptor yL_compare.desc).map (fun d => d.parameters.length) = some 6 := by decide +kernel
abbrev rm_L_compare_no : Room := { frames := 7, cells := 1, slots := 6, locals := 118 }
theorem lk_L_compare_13 : Cond.classLink RL 13 eA ∈ wsL_compare := by decide +kernel
set_option maxHeartbeats 4000000 in
set_option maxRecDepth 100000 in
theorem c_L_compare_no (l : Launch) (G : jG) (hst : l.stackTraces = false) (x0 xs po ro cr gp nu wk : Nat) (cn : Int32) (xa xb xc xd : Int64) (hP : xc.toInt < 0) (ot : Nat) (ofn : Nat → Int64) : Cf l yL_compare wsL_compare rm_L_compare_no G [.ref x0, .long xa, .long xb, .long xc, .long xd, .ref ot] [(x0, .inr (9, [.ref xs, .int cn, .ref po, .ref ro, .ref cr, .ref gp, .ref nu, .ref wk])), (ot, aJ G 1 ofn)] (S := Unit) (fun r u => r = some (.int 1) ∧ ((fun _ => True) : (Unit) → Prop) u) (fun u => [(x0, .inr (9, [.ref xs, .int cn, .ref po, .ref ro, .ref cr, .ref gp, .ref nu, .ref wk])), (ot, aJ G 1 ofn)]) (fun _ => []) := by
  refine cf_introW (cc := cL_compare) (maxL := 11) (ret := (some .int)) (hh := [(0, 15, 18, 13)]) (by decide) rfl (Nat.le_of_ble_eq_true rfl) (fun _ => by simp only [List.map_cons, List.map_nil]) ?_
  intro p e s m args below meth c Q A X XF htab hr E
  change J p l e rm_L_compare_no s m args below meth c Q G A 11 0 0 0 [(0, .ref x0), (1, .long xa), (3, .long xb), (5, .long xc), (7, .long xd), (9, .ref ot)] [] [(x0, .inr (9, [.ref xs, .int cn, .ref po, .ref ro, .ref cr, .ref gp, .ref nu, .ref wk])), (ot, aJ G 1 ofn)]
  refine j_aload X dL_compare_0 5 rfl ?_
  refine j_iconst (v := 0) X dL_compare_2 rfl ?_
  refine j_aload_n X dL_compare_3 rfl 0 rfl ?_
  refine j_lload_n X dL_compare_4 rfl 1 rfl ?_
  refine j_lload_n X dL_compare_5 rfl 2 rfl ?_
  refine j_lload X dL_compare_6 3 rfl ?_
  refine j_lload X dL_compare_8 4 rfl ?_
  refine j_callVXP X XF dL_compare_10 (c_X10_compare_no l G hst x0 xs po ro cr gp nu wk cn xa xb xc xd hP) gL_compare_X10_compare rfl hy_X10_compare_V ⟨Nat.le_of_ble_eq_true rfl, Nat.le_of_ble_eq_true rfl⟩ 0 rfl rfl [(ot, aJ G 1 ofn)] rfl rfl rfl (Nat.le_of_ble_eq_true rfl) ⟨Nat.le_of_ble_eq_true rfl, Nat.le_of_ble_eq_true rfl⟩ [] ⟨0, 15, 18, 13⟩ [] (htab.trans rfl) (fun z hz => absurd hz List.not_mem_nil) (by decide) (by decide) lk_L_compare_13 (by decide +kernel) ?_
  rintro q9 u9 hp9
  change J p l e rm_L_compare_no s m args below meth c Q G A 11 1 6 18 [(0, .ref x0), (1, .long xa), (3, .long xb), (5, .long xc), (7, .long xd), (9, .ref ot)] [.ref q9] [(x0, .inr (9, [.ref xs, .int cn, .ref po, .ref ro, .ref cr, .ref gp, .ref nu, .ref wk])), (ot, aJ G 1 ofn)]
  refine j_astore (L' := [(10, .ref q9), (0, .ref x0), (1, .long xa), (3, .long xb), (5, .long xc), (7, .long xd), (9, .ref ot)]) X dL_compare_18 (by decide) rfl ?_
  refine j_iconst (v := 1) X dL_compare_20 rfl ?_
  exact E.2.1 21 _ 1 u9 _ dL_compare_21 ⟨rfl, hp9⟩ hr rfl

abbrev rm_L_over_0 : Room := { frames := 2, cells := 0, slots := 0, locals := 55 }
set_option maxHeartbeats 4000000 in
set_option maxRecDepth 100000 in
theorem c_L_over_0 (l : Launch) (G : jG) (x0 xs po ro cr gp nu wk : Nat) (cn : Int32) (a b : Int64) (how : Int32) (hb0 : ¬ b.toInt = 0) (hb1 : ¬ b.toInt = -1) (hP : 0 ≤ how.toInt ∧ how.toInt ≤ 2) (ot : Nat) (ofn : Nat → Int64) : Cf l yL_over wsL_over rm_L_over_0 G [.ref x0, .long a, .long b, .int how, .ref ot] [(x0, .inr (9, [.ref xs, .int cn, .ref po, .ref ro, .ref cr, .ref gp, .ref nu, .ref wk])), (ot, aJ G 1 ofn)] (S := Int64 × (Int64 × Int × Int)) (fun r u => r = some (.int 0) ∧ ∃ xx9 : Int64, ((fun r u => r = some (.long u.1) ∧ ovR a.toInt b.toInt u.2.1 u.2.2 ∧ u.1.toInt = ovV u.2.1 u.2.2 b.toInt how.toInt) : Option Value → (Int64 × Int × Int) → Prop) (some (.long xx9)) u.2 ∧ u.1 = xx9) (fun u => [(x0, .inr (9, [.ref xs, .int cn, .ref po, .ref ro, .ref cr, .ref gp, .ref nu, .ref wk])), (ot, aJ G 1 (vp_updL ofn 0 u.1))]) (fun _ => []) := by
  refine cf_introW (cc := cL_over) (maxL := 8) (ret := (some .int)) (hh := [(0, 12, 15, 50), (0, 12, 19, 27)]) (by decide) rfl (Nat.le_of_ble_eq_true rfl) (fun _ => by simp only [List.map_cons, List.map_nil]) ?_
  intro p e s m args below meth c Q A X XF htab hr E
  change J p l e rm_L_over_0 s m args below meth c Q G A 8 0 0 0 [(0, .ref x0), (1, .long a), (3, .long b), (5, .int how), (6, .ref ot)] [] [(x0, .inr (9, [.ref xs, .int cn, .ref po, .ref ro, .ref cr, .ref gp, .ref nu, .ref wk])), (ot, aJ G 1 ofn)]
  refine j_aload X dL_over_0 4 rfl ?_
  refine j_iconst (v := 0) X dL_over_2 rfl ?_
  refine j_aload_n X dL_over_3 rfl 0 rfl ?_
  refine j_lload_n X dL_over_4 rfl 1 rfl ?_
  refine j_lload_n X dL_over_5 rfl 2 rfl ?_
  refine j_iload X dL_over_6 3 rfl ?_
  refine j_callVFP X XF dL_over_8 (Ct.cf (c_X10_over_0 l G x0 xs po ro cr gp nu wk cn a b how hb0 hb1 hP)) gL_over_X10_over rfl hy_X10_over_V ⟨Nat.le_of_ble_eq_true rfl, Nat.le_of_ble_eq_true rfl⟩ 0 rfl rfl [(ot, aJ G 1 ofn)] rfl rfl rfl (Nat.le_of_ble_eq_true rfl) ⟨Nat.le_of_ble_eq_true rfl, Nat.le_of_ble_eq_true rfl⟩ ?_
  rintro v9 u9 hp9
  obtain ⟨x9, hx9⟩ : ∃ x : Int64, v9 = some (.long x) := ⟨_, hp9.1⟩
  subst hx9
  change J p l e rm_L_over_0 s m args below meth c Q G A 8 0 0 11 [(0, .ref x0), (1, .long a), (3, .long b), (5, .int how), (6, .ref ot)] [.long x9, .int 0, .ref ot] [(x0, .inr (9, [.ref xs, .int cn, .ref po, .ref ro, .ref cr, .ref gp, .ref nu, .ref wk])), (ot, aJ G 1 ofn)]
  refine j_last (ws' := [(x0, .inr (9, [.ref xs, .int cn, .ref po, .ref ro, .ref cr, .ref gp, .ref nu, .ref wk])), (ot, aJ G 1 (vp_updL ofn 0 x9))]) X dL_over_11 1 rfl 0 rfl (by decide) (by decide) rfl ?_
  refine j_goto (tgt := 23) X dL_over_12 (by decide) ?_
  refine j_iconst (v := 0) X dL_over_23 rfl ?_
  exact E.2.1 24 _ 0 (x9, u9) _ dL_over_24 ⟨rfl, x9, hp9, rfl⟩ hr rfl

theorem hs_L_over : yL_over.cls ≠ "java/lang/invoke/MethodHandle" ∧ yL_over.cls ≠ "java/lang/invoke/VarHandle" ∧ (parseMethodDescriptor yL_over.desc).map (fun d => d.parameters.length) = some 5 := by decide +kernel
abbrev rm_L_over_m : Room := { frames := 2, cells := 0, slots := 0, locals := 55 }
set_option maxHeartbeats 4000000 in
set_option maxRecDepth 100000 in
theorem c_L_over_m (l : Launch) (G : jG) (x0 xs po ro cr gp nu wk : Nat) (cn : Int32) (a b : Int64) (how : Int32) (hb1 : b.toInt = -1) (hP : 0 ≤ how.toInt ∧ how.toInt ≤ 2) (ot : Nat) (ofn : Nat → Int64) : Cf l yL_over wsL_over rm_L_over_m G [.ref x0, .long a, .long b, .int how, .ref ot] [(x0, .inr (9, [.ref xs, .int cn, .ref po, .ref ro, .ref cr, .ref gp, .ref nu, .ref wk])), (ot, aJ G 1 ofn)] (S := Int64 × (Unit)) (fun r u => r = some (.int 0) ∧ ∃ xx9 : Int64, ((fun r _ => r = some (.long (-a))) : Option Value → (Unit) → Prop) (some (.long xx9)) u.2 ∧ u.1 = xx9) (fun u => [(x0, .inr (9, [.ref xs, .int cn, .ref po, .ref ro, .ref cr, .ref gp, .ref nu, .ref wk])), (ot, aJ G 1 (vp_updL ofn 0 u.1))]) (fun _ => []) := by
  refine cf_introW (cc := cL_over) (maxL := 8) (ret := (some .int)) (hh := [(0, 12, 15, 50), (0, 12, 19, 27)]) (by decide) rfl (Nat.le_of_ble_eq_true rfl) (fun _ => by simp only [List.map_cons, List.map_nil]) ?_
  intro p e s m args below meth c Q A X XF htab hr E
  change J p l e rm_L_over_m s m args below meth c Q G A 8 0 0 0 [(0, .ref x0), (1, .long a), (3, .long b), (5, .int how), (6, .ref ot)] [] [(x0, .inr (9, [.ref xs, .int cn, .ref po, .ref ro, .ref cr, .ref gp, .ref nu, .ref wk])), (ot, aJ G 1 ofn)]
  refine j_aload X dL_over_0 4 rfl ?_
  refine j_iconst (v := 0) X dL_over_2 rfl ?_
  refine j_aload_n X dL_over_3 rfl 0 rfl ?_
  refine j_lload_n X dL_over_4 rfl 1 rfl ?_
  refine j_lload_n X dL_over_5 rfl 2 rfl ?_
  refine j_iload X dL_over_6 3 rfl ?_
  refine j_callVFP X XF dL_over_8 (Ct.cf (c_X10_over_m l G x0 xs po ro cr gp nu wk cn a b how hb1 hP)) gL_over_X10_over rfl hy_X10_over_V ⟨Nat.le_of_ble_eq_true rfl, Nat.le_of_ble_eq_true rfl⟩ 0 rfl rfl [(ot, aJ G 1 ofn)] rfl rfl rfl (Nat.le_of_ble_eq_true rfl) ⟨Nat.le_of_ble_eq_true rfl, Nat.le_of_ble_eq_true rfl⟩ ?_
  rintro v9 u9 hp9
  obtain ⟨x9, hx9⟩ : ∃ x : Int64, v9 = some (.long x) := ⟨_, hp9⟩
  subst hx9
  change J p l e rm_L_over_m s m args below meth c Q G A 8 0 0 11 [(0, .ref x0), (1, .long a), (3, .long b), (5, .int how), (6, .ref ot)] [.long x9, .int 0, .ref ot] [(x0, .inr (9, [.ref xs, .int cn, .ref po, .ref ro, .ref cr, .ref gp, .ref nu, .ref wk])), (ot, aJ G 1 ofn)]
  refine j_last (ws' := [(x0, .inr (9, [.ref xs, .int cn, .ref po, .ref ro, .ref cr, .ref gp, .ref nu, .ref wk])), (ot, aJ G 1 (vp_updL ofn 0 x9))]) X dL_over_11 1 rfl 0 rfl (by decide) (by decide) rfl ?_
  refine j_goto (tgt := 23) X dL_over_12 (by decide) ?_
  refine j_iconst (v := 0) X dL_over_23 rfl ?_
  exact E.2.1 24 _ 0 (x9, u9) _ dL_over_24 ⟨rfl, x9, hp9, rfl⟩ hr rfl

abbrev rm_L_over_1 : Room := { frames := 7, cells := 1, slots := 6, locals := 120 }
theorem lk_L_over_50 : Cond.classLink RL 50 eD ∈ wsL_over := by decide +kernel
set_option maxHeartbeats 4000000 in
set_option maxRecDepth 100000 in
theorem c_L_over_1 (l : Launch) (G : jG) (hst : l.stackTraces = false) (x0 xs po ro cr gp nu wk : Nat) (cn : Int32) (a b : Int64) (how : Int32) (hP : b.toInt = 0) (ot : Nat) (ofn : Nat → Int64) : Cf l yL_over wsL_over rm_L_over_1 G [.ref x0, .long a, .long b, .int how, .ref ot] [(x0, .inr (9, [.ref xs, .int cn, .ref po, .ref ro, .ref cr, .ref gp, .ref nu, .ref wk])), (ot, aJ G 1 ofn)] (S := Unit) (fun r u => r = some (.int 1) ∧ ((fun _ => True) : (Unit) → Prop) u) (fun u => [(x0, .inr (9, [.ref xs, .int cn, .ref po, .ref ro, .ref cr, .ref gp, .ref nu, .ref wk])), (ot, aJ G 1 ofn)]) (fun _ => []) := by
  refine cf_introW (cc := cL_over) (maxL := 8) (ret := (some .int)) (hh := [(0, 12, 15, 50), (0, 12, 19, 27)]) (by decide) rfl (Nat.le_of_ble_eq_true rfl) (fun _ => by simp only [List.map_cons, List.map_nil]) ?_
  intro p e s m args below meth c Q A X XF htab hr E
  change J p l e rm_L_over_1 s m args below meth c Q G A 8 0 0 0 [(0, .ref x0), (1, .long a), (3, .long b), (5, .int how), (6, .ref ot)] [] [(x0, .inr (9, [.ref xs, .int cn, .ref po, .ref ro, .ref cr, .ref gp, .ref nu, .ref wk])), (ot, aJ G 1 ofn)]
  refine j_aload X dL_over_0 4 rfl ?_
  refine j_iconst (v := 0) X dL_over_2 rfl ?_
  refine j_aload_n X dL_over_3 rfl 0 rfl ?_
  refine j_lload_n X dL_over_4 rfl 1 rfl ?_
  refine j_lload_n X dL_over_5 rfl 2 rfl ?_
  refine j_iload X dL_over_6 3 rfl ?_
  refine j_callVXP X XF dL_over_8 (c_X10_over_1 l G hst x0 xs po ro cr gp nu wk cn a b how hP) gL_over_X10_over rfl hy_X10_over_V ⟨Nat.le_of_ble_eq_true rfl, Nat.le_of_ble_eq_true rfl⟩ 0 rfl rfl [(ot, aJ G 1 ofn)] rfl rfl rfl (Nat.le_of_ble_eq_true rfl) ⟨Nat.le_of_ble_eq_true rfl, Nat.le_of_ble_eq_true rfl⟩ [] ⟨0, 12, 15, 50⟩ [⟨0, 12, 19, 27⟩] (htab.trans rfl) (fun z hz => absurd hz List.not_mem_nil) (by decide) (by decide) lk_L_over_50 (by decide +kernel) ?_
  rintro q9 u9 hp9
  change J p l e rm_L_over_1 s m args below meth c Q G A 8 1 6 15 [(0, .ref x0), (1, .long a), (3, .long b), (5, .int how), (6, .ref ot)] [.ref q9] [(x0, .inr (9, [.ref xs, .int cn, .ref po, .ref ro, .ref cr, .ref gp, .ref nu, .ref wk])), (ot, aJ G 1 ofn)]
  refine j_astore (L' := [(7, .ref q9), (0, .ref x0), (1, .long a), (3, .long b), (5, .int how), (6, .ref ot)]) X dL_over_15 (by decide) rfl ?_
  refine j_iconst (v := 1) X dL_over_17 rfl ?_
  exact E.2.1 18 _ 1 u9 _ dL_over_18 ⟨rfl, hp9⟩ hr rfl

abbrev rm_L_over_2 : Room := { frames := 7, cells := 1, slots := 6, locals := 120 }
theorem lk_L_over_27 : Cond.classLink RL 27 eB ∈ wsL_over := by decide +kernel
set_option maxHeartbeats 4000000 in
set_option maxRecDepth 100000 in
theorem c_L_over_2 (l : Launch) (G : jG) (hst : l.stackTraces = false) (x0 xs po ro cr gp nu wk : Nat) (cn : Int32) (a b : Int64) (how : Int32) (hb : ¬ b.toInt = 0) (hP : ¬ (0 ≤ how.toInt ∧ how.toInt ≤ 2)) (ot : Nat) (ofn : Nat → Int64) : Cf l yL_over wsL_over rm_L_over_2 G [.ref x0, .long a, .long b, .int how, .ref ot] [(x0, .inr (9, [.ref xs, .int cn, .ref po, .ref ro, .ref cr, .ref gp, .ref nu, .ref wk])), (ot, aJ G 1 ofn)] (S := Unit) (fun r u => r = some (.int 2) ∧ ((fun _ => True) : (Unit) → Prop) u) (fun u => [(x0, .inr (9, [.ref xs, .int cn, .ref po, .ref ro, .ref cr, .ref gp, .ref nu, .ref wk])), (ot, aJ G 1 ofn)]) (fun _ => []) := by
  refine cf_introW (cc := cL_over) (maxL := 8) (ret := (some .int)) (hh := [(0, 12, 15, 50), (0, 12, 19, 27)]) (by decide) rfl (Nat.le_of_ble_eq_true rfl) (fun _ => by simp only [List.map_cons, List.map_nil]) ?_
  intro p e s m args below meth c Q A X XF htab hr E
  change J p l e rm_L_over_2 s m args below meth c Q G A 8 0 0 0 [(0, .ref x0), (1, .long a), (3, .long b), (5, .int how), (6, .ref ot)] [] [(x0, .inr (9, [.ref xs, .int cn, .ref po, .ref ro, .ref cr, .ref gp, .ref nu, .ref wk])), (ot, aJ G 1 ofn)]
  refine j_aload X dL_over_0 4 rfl ?_
  refine j_iconst (v := 0) X dL_over_2 rfl ?_
  refine j_aload_n X dL_over_3 rfl 0 rfl ?_
  refine j_lload_n X dL_over_4 rfl 1 rfl ?_
  refine j_lload_n X dL_over_5 rfl 2 rfl ?_
  refine j_iload X dL_over_6 3 rfl ?_
  refine j_callVXP X XF dL_over_8 (c_X10_over_2 l G hst x0 xs po ro cr gp nu wk cn a b how hb hP) gL_over_X10_over rfl hy_X10_over_V ⟨Nat.le_of_ble_eq_true rfl, Nat.le_of_ble_eq_true rfl⟩ 0 rfl rfl [(ot, aJ G 1 ofn)] rfl rfl rfl (Nat.le_of_ble_eq_true rfl) ⟨Nat.le_of_ble_eq_true rfl, Nat.le_of_ble_eq_true rfl⟩ [⟨0, 12, 15, 50⟩] ⟨0, 12, 19, 27⟩ [] (htab.trans rfl) (fun z hz => by rw [List.mem_singleton] at hz; subst hz; exact ⟨by decide, eD, lk_L_over_50, by decide +kernel⟩) (by decide) (by decide) lk_L_over_27 (by decide +kernel) ?_
  rintro q9 u9 hp9
  change J p l e rm_L_over_2 s m args below meth c Q G A 8 1 6 19 [(0, .ref x0), (1, .long a), (3, .long b), (5, .int how), (6, .ref ot)] [.ref q9] [(x0, .inr (9, [.ref xs, .int cn, .ref po, .ref ro, .ref cr, .ref gp, .ref nu, .ref wk])), (ot, aJ G 1 ofn)]
  refine j_astore (L' := [(7, .ref q9), (0, .ref x0), (1, .long a), (3, .long b), (5, .int how), (6, .ref ot)]) X dL_over_19 (by decide) rfl ?_
  refine j_iconst (v := 2) X dL_over_21 rfl ?_
  exact E.2.1 22 _ 2 u9 _ dL_over_22 ⟨rfl, hp9⟩ hr rfl

abbrev rm_L_root_0 : Room := { frames := 2, cells := 0, slots := 0, locals := 53 }
set_option maxHeartbeats 4000000 in
set_option maxRecDepth 100000 in
theorem c_L_root_0 (l : Launch) (G : jG) (x0 xs po ro cr gp nu wk : Nat) (cn : Int32) (v : Int64) (how : Int32) (hP : 0 ≤ how.toInt ∧ how.toInt ≤ 2) (hv : 0 ≤ v.toInt) (ot : Nat) (ofn : Nat → Int64) : Cf l yL_root wsL_root rm_L_root_0 G [.ref x0, .long v, .int how, .ref ot] [(x0, .inr (9, [.ref xs, .int cn, .ref po, .ref ro, .ref cr, .ref gp, .ref nu, .ref wk])), (ot, aJ G 1 ofn)] (S := Int64 × (Int64 × Int)) (fun r u => r = some (.int 0) ∧ ∃ xx9 : Int64, ((fun r u => r = some (.long u.1) ∧ rtR v.toInt u.2 ∧ u.1.toInt = rtV v.toInt u.2 how.toInt) : Option Value → (Int64 × Int) → Prop) (some (.long xx9)) u.2 ∧ u.1 = xx9) (fun u => [(x0, .inr (9, [.ref xs, .int cn, .ref po, .ref ro, .ref cr, .ref gp, .ref nu, .ref wk])), (ot, aJ G 1 (vp_updL ofn 0 u.1))]) (fun _ => []) := by
  refine cf_introW (cc := cL_root) (maxL := 6) (ret := (some .int)) (hh := [(0, 10, 13, 27), (0, 10, 17, 13)]) (by decide) rfl (Nat.le_of_ble_eq_true rfl) (fun _ => by simp only [List.map_cons, List.map_nil]) ?_
  intro p e s m args below meth c Q A X XF htab hr E
  change J p l e rm_L_root_0 s m args below meth c Q G A 6 0 0 0 [(0, .ref x0), (1, .long v), (3, .int how), (4, .ref ot)] [] [(x0, .inr (9, [.ref xs, .int cn, .ref po, .ref ro, .ref cr, .ref gp, .ref nu, .ref wk])), (ot, aJ G 1 ofn)]
  refine j_aload X dL_root_0 3 rfl ?_
  refine j_iconst (v := 0) X dL_root_2 rfl ?_
  refine j_aload_n X dL_root_3 rfl 0 rfl ?_
  refine j_lload_n X dL_root_4 rfl 1 rfl ?_
  refine j_iload_n X dL_root_5 rfl 2 rfl ?_
  refine j_callVFP X XF dL_root_6 (Ct.cf (c_X10_root_0 l G x0 xs po ro cr gp nu wk cn v how hP hv)) gL_root_X10_root rfl hy_X10_root_V ⟨Nat.le_of_ble_eq_true rfl, Nat.le_of_ble_eq_true rfl⟩ 0 rfl rfl [(ot, aJ G 1 ofn)] rfl rfl rfl (Nat.le_of_ble_eq_true rfl) ⟨Nat.le_of_ble_eq_true rfl, Nat.le_of_ble_eq_true rfl⟩ ?_
  rintro v9 u9 hp9
  obtain ⟨x9, hx9⟩ : ∃ x : Int64, v9 = some (.long x) := ⟨_, hp9.1⟩
  subst hx9
  change J p l e rm_L_root_0 s m args below meth c Q G A 6 0 0 9 [(0, .ref x0), (1, .long v), (3, .int how), (4, .ref ot)] [.long x9, .int 0, .ref ot] [(x0, .inr (9, [.ref xs, .int cn, .ref po, .ref ro, .ref cr, .ref gp, .ref nu, .ref wk])), (ot, aJ G 1 ofn)]
  refine j_last (ws' := [(x0, .inr (9, [.ref xs, .int cn, .ref po, .ref ro, .ref cr, .ref gp, .ref nu, .ref wk])), (ot, aJ G 1 (vp_updL ofn 0 x9))]) X dL_root_9 1 rfl 0 rfl (by decide) (by decide) rfl ?_
  refine j_goto (tgt := 21) X dL_root_10 (by decide) ?_
  refine j_iconst (v := 0) X dL_root_21 rfl ?_
  exact E.2.1 22 _ 0 (x9, u9) _ dL_root_22 ⟨rfl, x9, hp9, rfl⟩ hr rfl

theorem hs_L_root : yL_root.cls ≠ "java/lang/invoke/MethodHandle" ∧ yL_root.cls ≠ "java/lang/invoke/VarHandle" ∧ (parseMethodDescriptor yL_root.desc).map (fun d => d.parameters.length) = some 4 := by decide +kernel
abbrev rm_L_root_1 : Room := { frames := 7, cells := 1, slots := 6, locals := 117 }
theorem lk_L_root_27 : Cond.classLink RL 27 eB ∈ wsL_root := by decide +kernel
set_option maxHeartbeats 4000000 in
set_option maxRecDepth 100000 in
theorem c_L_root_1 (l : Launch) (G : jG) (hst : l.stackTraces = false) (x0 xs po ro cr gp nu wk : Nat) (cn : Int32) (v : Int64) (how : Int32) (hP : ¬ (0 ≤ how.toInt ∧ how.toInt ≤ 2)) (ot : Nat) (ofn : Nat → Int64) : Cf l yL_root wsL_root rm_L_root_1 G [.ref x0, .long v, .int how, .ref ot] [(x0, .inr (9, [.ref xs, .int cn, .ref po, .ref ro, .ref cr, .ref gp, .ref nu, .ref wk])), (ot, aJ G 1 ofn)] (S := Unit) (fun r u => r = some (.int 1) ∧ ((fun _ => True) : (Unit) → Prop) u) (fun u => [(x0, .inr (9, [.ref xs, .int cn, .ref po, .ref ro, .ref cr, .ref gp, .ref nu, .ref wk])), (ot, aJ G 1 ofn)]) (fun _ => []) := by
  refine cf_introW (cc := cL_root) (maxL := 6) (ret := (some .int)) (hh := [(0, 10, 13, 27), (0, 10, 17, 13)]) (by decide) rfl (Nat.le_of_ble_eq_true rfl) (fun _ => by simp only [List.map_cons, List.map_nil]) ?_
  intro p e s m args below meth c Q A X XF htab hr E
  change J p l e rm_L_root_1 s m args below meth c Q G A 6 0 0 0 [(0, .ref x0), (1, .long v), (3, .int how), (4, .ref ot)] [] [(x0, .inr (9, [.ref xs, .int cn, .ref po, .ref ro, .ref cr, .ref gp, .ref nu, .ref wk])), (ot, aJ G 1 ofn)]
  refine j_aload X dL_root_0 3 rfl ?_
  refine j_iconst (v := 0) X dL_root_2 rfl ?_
  refine j_aload_n X dL_root_3 rfl 0 rfl ?_
  refine j_lload_n X dL_root_4 rfl 1 rfl ?_
  refine j_iload_n X dL_root_5 rfl 2 rfl ?_
  refine j_callVXP X XF dL_root_6 (c_X10_root_1 l G hst x0 xs po ro cr gp nu wk cn v how hP) gL_root_X10_root rfl hy_X10_root_V ⟨Nat.le_of_ble_eq_true rfl, Nat.le_of_ble_eq_true rfl⟩ 0 rfl rfl [(ot, aJ G 1 ofn)] rfl rfl rfl (Nat.le_of_ble_eq_true rfl) ⟨Nat.le_of_ble_eq_true rfl, Nat.le_of_ble_eq_true rfl⟩ [] ⟨0, 10, 13, 27⟩ [⟨0, 10, 17, 13⟩] (htab.trans rfl) (fun z hz => absurd hz List.not_mem_nil) (by decide) (by decide) lk_L_root_27 (by decide +kernel) ?_
  rintro q9 u9 hp9
  change J p l e rm_L_root_1 s m args below meth c Q G A 6 1 6 13 [(0, .ref x0), (1, .long v), (3, .int how), (4, .ref ot)] [.ref q9] [(x0, .inr (9, [.ref xs, .int cn, .ref po, .ref ro, .ref cr, .ref gp, .ref nu, .ref wk])), (ot, aJ G 1 ofn)]
  refine j_astore (L' := [(5, .ref q9), (0, .ref x0), (1, .long v), (3, .int how), (4, .ref ot)]) X dL_root_13 (by decide) rfl ?_
  refine j_iconst (v := 1) X dL_root_15 rfl ?_
  exact E.2.1 16 _ 1 u9 _ dL_root_16 ⟨rfl, hp9⟩ hr rfl

abbrev rm_L_root_2 : Room := { frames := 7, cells := 1, slots := 6, locals := 117 }
theorem lk_L_root_13 : Cond.classLink RL 13 eA ∈ wsL_root := by decide +kernel
set_option maxHeartbeats 4000000 in
set_option maxRecDepth 100000 in
theorem c_L_root_2 (l : Launch) (G : jG) (hst : l.stackTraces = false) (x0 xs po ro cr gp nu wk : Nat) (cn : Int32) (v : Int64) (how : Int32) (hP : 0 ≤ how.toInt ∧ how.toInt ≤ 2) (hv : v.toInt < 0) (ot : Nat) (ofn : Nat → Int64) : Cf l yL_root wsL_root rm_L_root_2 G [.ref x0, .long v, .int how, .ref ot] [(x0, .inr (9, [.ref xs, .int cn, .ref po, .ref ro, .ref cr, .ref gp, .ref nu, .ref wk])), (ot, aJ G 1 ofn)] (S := Unit) (fun r u => r = some (.int 2) ∧ ((fun _ => True) : (Unit) → Prop) u) (fun u => [(x0, .inr (9, [.ref xs, .int cn, .ref po, .ref ro, .ref cr, .ref gp, .ref nu, .ref wk])), (ot, aJ G 1 ofn)]) (fun _ => []) := by
  refine cf_introW (cc := cL_root) (maxL := 6) (ret := (some .int)) (hh := [(0, 10, 13, 27), (0, 10, 17, 13)]) (by decide) rfl (Nat.le_of_ble_eq_true rfl) (fun _ => by simp only [List.map_cons, List.map_nil]) ?_
  intro p e s m args below meth c Q A X XF htab hr E
  change J p l e rm_L_root_2 s m args below meth c Q G A 6 0 0 0 [(0, .ref x0), (1, .long v), (3, .int how), (4, .ref ot)] [] [(x0, .inr (9, [.ref xs, .int cn, .ref po, .ref ro, .ref cr, .ref gp, .ref nu, .ref wk])), (ot, aJ G 1 ofn)]
  refine j_aload X dL_root_0 3 rfl ?_
  refine j_iconst (v := 0) X dL_root_2 rfl ?_
  refine j_aload_n X dL_root_3 rfl 0 rfl ?_
  refine j_lload_n X dL_root_4 rfl 1 rfl ?_
  refine j_iload_n X dL_root_5 rfl 2 rfl ?_
  refine j_callVXP X XF dL_root_6 (c_X10_root_2 l G hst x0 xs po ro cr gp nu wk cn v how hP hv) gL_root_X10_root rfl hy_X10_root_V ⟨Nat.le_of_ble_eq_true rfl, Nat.le_of_ble_eq_true rfl⟩ 0 rfl rfl [(ot, aJ G 1 ofn)] rfl rfl rfl (Nat.le_of_ble_eq_true rfl) ⟨Nat.le_of_ble_eq_true rfl, Nat.le_of_ble_eq_true rfl⟩ [⟨0, 10, 13, 27⟩] ⟨0, 10, 17, 13⟩ [] (htab.trans rfl) (fun z hz => by rw [List.mem_singleton] at hz; subst hz; exact ⟨by decide, eB, lk_L_root_27, by decide +kernel⟩) (by decide) (by decide) lk_L_root_13 (by decide +kernel) ?_
  rintro q9 u9 hp9
  change J p l e rm_L_root_2 s m args below meth c Q G A 6 1 6 17 [(0, .ref x0), (1, .long v), (3, .int how), (4, .ref ot)] [.ref q9] [(x0, .inr (9, [.ref xs, .int cn, .ref po, .ref ro, .ref cr, .ref gp, .ref nu, .ref wk])), (ot, aJ G 1 ofn)]
  refine j_astore (L' := [(5, .ref q9), (0, .ref x0), (1, .long v), (3, .int how), (4, .ref ot)]) X dL_root_17 (by decide) rfl ?_
  refine j_iconst (v := 2) X dL_root_19 rfl ?_
  exact E.2.1 20 _ 2 u9 _ dL_root_20 ⟨rfl, hp9⟩ hr rfl

abbrev rm_L_corner_0 : Room := { frames := 5, cells := 0, slots := 0, locals := 144 }
set_option maxHeartbeats 4000000 in
set_option maxRecDepth 100000 in
theorem c_L_corner_0 (l : Launch) (G : jG) (x0 xs po ro cr gp nu wk : Nat) (cn : Int32) (su asu : Nat) (fx fy lx ly : Int64) (S1 : Int) (x y : Int64) (hP : inC x.toInt ∧ inC y.toInt) (ot : Nat) (ofn : Nat → Int64) : Cf l yL_corner wsL_corner rm_L_corner_0 G [.ref x0, .long x, .long y, .ref ot] [(x0, .inr (9, [.ref xs, .int cn, .ref po, .ref ro, .ref cr, .ref gp, .ref nu, .ref wk])), (po, .inr (4, [.int 0, .long fx, .long fy, .long lx, .long ly, .ref su])), (su, .inr (8, [.ref asu])), (asu, aJ G 8 (dg S1)), (ot, aJ G 1 ofn)] (S := Int64 × (Unit)) (fun r u => r = some (.int 0) ∧ ∃ xx9 : Int32, ((fun r _ => r = some (.int 1)) : Option Value → (Unit) → Prop) (some (.int xx9)) u.2 ∧ u.1 = (if xx9 = 0 then 0 else 1)) (fun u => [(x0, .inr (9, [.ref xs, .int cn, .ref po, .ref ro, .ref cr, .ref gp, .ref nu, .ref wk])), (po, .inr (4, [.int 1, .long x, .long y, .long x, .long y, .ref su])), (su, .inr (8, [.ref asu])), (asu, aJ G 8 (dg S1)), (ot, aJ G 1 (vp_updL ofn 0 u.1))]) (fun _ => []) := by
  refine cf_introW (cc := cL_corner) (maxL := 7) (ret := (some .int)) (hh := [(0, 18, 21, 13)]) (by decide) rfl (Nat.le_of_ble_eq_true rfl) (fun _ => by simp only [List.map_cons, List.map_nil]) ?_
  intro p e s m args below meth c Q A X XF htab hr E
  change J p l e rm_L_corner_0 s m args below meth c Q G A 7 0 0 0 [(0, .ref x0), (1, .long x), (3, .long y), (5, .ref ot)] [] [(x0, .inr (9, [.ref xs, .int cn, .ref po, .ref ro, .ref cr, .ref gp, .ref nu, .ref wk])), (po, .inr (4, [.int 0, .long fx, .long fy, .long lx, .long ly, .ref su])), (su, .inr (8, [.ref asu])), (asu, aJ G 8 (dg S1)), (ot, aJ G 1 ofn)]
  refine j_aload X dL_corner_0 3 rfl ?_
  refine j_iconst (v := 0) X dL_corner_2 rfl ?_
  refine j_aload_n X dL_corner_3 rfl 0 rfl ?_
  refine j_lload_n X dL_corner_4 rfl 1 rfl ?_
  refine j_lload_n X dL_corner_5 rfl 2 rfl ?_
  refine j_callVFP X XF dL_corner_6 (Ct.cf (c_X10_corner_0 l G x0 xs po ro cr gp nu wk cn su asu fx fy lx ly S1 x y hP)) gL_corner_X10_corner rfl hy_X10_corner_V ⟨Nat.le_of_ble_eq_true rfl, Nat.le_of_ble_eq_true rfl⟩ 0 rfl rfl [(ot, aJ G 1 ofn)] rfl rfl rfl (Nat.le_of_ble_eq_true rfl) ⟨Nat.le_of_ble_eq_true rfl, Nat.le_of_ble_eq_true rfl⟩ ?_
  rintro v9 u9 hp9
  obtain ⟨x9, hx9⟩ : ∃ x : Int32, v9 = some (.int x) := ⟨_, hp9⟩
  subst hx9
  change J p l e rm_L_corner_0 s m args below meth c Q G A 7 0 0 9 [(0, .ref x0), (1, .long x), (3, .long y), (5, .ref ot)] [.int x9, .int 0, .ref ot] [(x0, .inr (9, [.ref xs, .int cn, .ref po, .ref ro, .ref cr, .ref gp, .ref nu, .ref wk])), (po, .inr (4, [.int 1, .long x, .long y, .long x, .long y, .ref su])), (su, .inr (8, [.ref asu])), (asu, aJ G 8 (dg S1)), (ot, aJ G 1 ofn)]
  refine j_if_eq (tgt := 16) X dL_corner_9 (by decide) (fun c9 => ?_) (fun c9 => ?_)
  · skip
    refine j_lconst (v := 0) X dL_corner_16 rfl ?_
    refine j_last (ws' := [(x0, .inr (9, [.ref xs, .int cn, .ref po, .ref ro, .ref cr, .ref gp, .ref nu, .ref wk])), (po, .inr (4, [.int 1, .long x, .long y, .long x, .long y, .ref su])), (su, .inr (8, [.ref asu])), (asu, aJ G 8 (dg S1)), (ot, aJ G 1 (vp_updL ofn 0 0))]) X dL_corner_17 4 rfl 0 rfl (by decide) (by decide) rfl ?_
    refine j_goto (tgt := 25) X dL_corner_18 (by decide) ?_
    refine j_iconst (v := 0) X dL_corner_25 rfl ?_
    exact E.2.1 26 _ 0 (0, u9) _ dL_corner_26 ⟨rfl, x9, hp9, (if_pos c9).symm⟩ hr rfl
  · skip
    refine j_lconst (v := 1) X dL_corner_12 rfl ?_
    refine j_goto (tgt := 17) X dL_corner_13 (by decide) ?_
    refine j_last (ws' := [(x0, .inr (9, [.ref xs, .int cn, .ref po, .ref ro, .ref cr, .ref gp, .ref nu, .ref wk])), (po, .inr (4, [.int 1, .long x, .long y, .long x, .long y, .ref su])), (su, .inr (8, [.ref asu])), (asu, aJ G 8 (dg S1)), (ot, aJ G 1 (vp_updL ofn 0 1))]) X dL_corner_17 4 rfl 0 rfl (by decide) (by decide) rfl ?_
    refine j_goto (tgt := 25) X dL_corner_18 (by decide) ?_
    refine j_iconst (v := 0) X dL_corner_25 rfl ?_
    exact E.2.1 26 _ 0 (1, u9) _ dL_corner_26 ⟨rfl, x9, hp9, (if_neg c9).symm⟩ hr rfl

theorem hs_L_corner : yL_corner.cls ≠ "java/lang/invoke/MethodHandle" ∧ yL_corner.cls ≠ "java/lang/invoke/VarHandle" ∧ (parseMethodDescriptor yL_corner.desc).map (fun d => d.parameters.length) = some 4 := by decide +kernel
abbrev rm_L_corner_n : Room := { frames := 5, cells := 0, slots := 0, locals := 144 }
set_option maxHeartbeats 4000000 in
set_option maxRecDepth 100000 in
theorem c_L_corner_n (l : Launch) (G : jG) (x0 xs po ro cr gp nu wk : Nat) (cn : Int32) (su asu : Nat) (fx fy lx ly : Int64) (S1 : Int) (x y : Int64) (C : Nat) (hC : 0 < C ∧ C < 200) (hly : inC ly.toInt) (hP : inC x.toInt ∧ inC y.toInt) (ot : Nat) (ofn : Nat → Int64) : Cf l yL_corner wsL_corner rm_L_corner_n G [.ref x0, .long x, .long y, .ref ot] [(x0, .inr (9, [.ref xs, .int cn, .ref po, .ref ro, .ref cr, .ref gp, .ref nu, .ref wk])), (po, .inr (4, [.int (nI C), .long fx, .long fy, .long lx, .long ly, .ref su])), (su, .inr (8, [.ref asu])), (asu, aJ G 8 (dg S1)), (ot, aJ G 1 ofn)] (S := Int64 × (Unit)) (fun r u => r = some (.int 0) ∧ ∃ xx9 : Int32, ((fun r _ => r = some (.int 1)) : Option Value → (Unit) → Prop) (some (.int xx9)) u.2 ∧ u.1 = (if xx9 = 0 then 0 else 1)) (fun u => [(x0, .inr (9, [.ref xs, .int cn, .ref po, .ref ro, .ref cr, .ref gp, .ref nu, .ref wk])), (po, .inr (4, [.int (nI (C + 1)), .long fx, .long fy, .long x, .long y, .ref su])), (su, .inr (8, [.ref asu])), (asu, aJ G 8 (dg (S1 + (lx.toInt * y.toInt - ly.toInt * x.toInt)))), (ot, aJ G 1 (vp_updL ofn 0 u.1))]) (fun _ => []) := by
  refine cf_introW (cc := cL_corner) (maxL := 7) (ret := (some .int)) (hh := [(0, 18, 21, 13)]) (by decide) rfl (Nat.le_of_ble_eq_true rfl) (fun _ => by simp only [List.map_cons, List.map_nil]) ?_
  intro p e s m args below meth c Q A X XF htab hr E
  change J p l e rm_L_corner_n s m args below meth c Q G A 7 0 0 0 [(0, .ref x0), (1, .long x), (3, .long y), (5, .ref ot)] [] [(x0, .inr (9, [.ref xs, .int cn, .ref po, .ref ro, .ref cr, .ref gp, .ref nu, .ref wk])), (po, .inr (4, [.int (nI C), .long fx, .long fy, .long lx, .long ly, .ref su])), (su, .inr (8, [.ref asu])), (asu, aJ G 8 (dg S1)), (ot, aJ G 1 ofn)]
  refine j_aload X dL_corner_0 3 rfl ?_
  refine j_iconst (v := 0) X dL_corner_2 rfl ?_
  refine j_aload_n X dL_corner_3 rfl 0 rfl ?_
  refine j_lload_n X dL_corner_4 rfl 1 rfl ?_
  refine j_lload_n X dL_corner_5 rfl 2 rfl ?_
  refine j_callVFP X XF dL_corner_6 (Ct.cf (c_X10_corner_n l G x0 xs po ro cr gp nu wk cn su asu fx fy lx ly S1 x y C hC hly hP)) gL_corner_X10_corner rfl hy_X10_corner_V ⟨Nat.le_of_ble_eq_true rfl, Nat.le_of_ble_eq_true rfl⟩ 0 rfl rfl [(ot, aJ G 1 ofn)] rfl rfl rfl (Nat.le_of_ble_eq_true rfl) ⟨Nat.le_of_ble_eq_true rfl, Nat.le_of_ble_eq_true rfl⟩ ?_
  rintro v9 u9 hp9
  obtain ⟨x9, hx9⟩ : ∃ x : Int32, v9 = some (.int x) := ⟨_, hp9⟩
  subst hx9
  change J p l e rm_L_corner_n s m args below meth c Q G A 7 0 0 9 [(0, .ref x0), (1, .long x), (3, .long y), (5, .ref ot)] [.int x9, .int 0, .ref ot] [(x0, .inr (9, [.ref xs, .int cn, .ref po, .ref ro, .ref cr, .ref gp, .ref nu, .ref wk])), (po, .inr (4, [.int (nI (C + 1)), .long fx, .long fy, .long x, .long y, .ref su])), (su, .inr (8, [.ref asu])), (asu, aJ G 8 (dg (S1 + (lx.toInt * y.toInt - ly.toInt * x.toInt)))), (ot, aJ G 1 ofn)]
  refine j_if_eq (tgt := 16) X dL_corner_9 (by decide) (fun c9 => ?_) (fun c9 => ?_)
  · skip
    refine j_lconst (v := 0) X dL_corner_16 rfl ?_
    refine j_last (ws' := [(x0, .inr (9, [.ref xs, .int cn, .ref po, .ref ro, .ref cr, .ref gp, .ref nu, .ref wk])), (po, .inr (4, [.int (nI (C + 1)), .long fx, .long fy, .long x, .long y, .ref su])), (su, .inr (8, [.ref asu])), (asu, aJ G 8 (dg (S1 + (lx.toInt * y.toInt - ly.toInt * x.toInt)))), (ot, aJ G 1 (vp_updL ofn 0 0))]) X dL_corner_17 4 rfl 0 rfl (by decide) (by decide) rfl ?_
    refine j_goto (tgt := 25) X dL_corner_18 (by decide) ?_
    refine j_iconst (v := 0) X dL_corner_25 rfl ?_
    exact E.2.1 26 _ 0 (0, u9) _ dL_corner_26 ⟨rfl, x9, hp9, (if_pos c9).symm⟩ hr rfl
  · skip
    refine j_lconst (v := 1) X dL_corner_12 rfl ?_
    refine j_goto (tgt := 17) X dL_corner_13 (by decide) ?_
    refine j_last (ws' := [(x0, .inr (9, [.ref xs, .int cn, .ref po, .ref ro, .ref cr, .ref gp, .ref nu, .ref wk])), (po, .inr (4, [.int (nI (C + 1)), .long fx, .long fy, .long x, .long y, .ref su])), (su, .inr (8, [.ref asu])), (asu, aJ G 8 (dg (S1 + (lx.toInt * y.toInt - ly.toInt * x.toInt)))), (ot, aJ G 1 (vp_updL ofn 0 1))]) X dL_corner_17 4 rfl 0 rfl (by decide) (by decide) rfl ?_
    refine j_goto (tgt := 25) X dL_corner_18 (by decide) ?_
    refine j_iconst (v := 0) X dL_corner_25 rfl ?_
    exact E.2.1 26 _ 0 (1, u9) _ dL_corner_26 ⟨rfl, x9, hp9, (if_neg c9).symm⟩ hr rfl

abbrev rm_L_corner_no : Room := { frames := 7, cells := 1, slots := 6, locals := 114 }
theorem lk_L_corner_13 : Cond.classLink RL 13 eA ∈ wsL_corner := by decide +kernel
set_option maxHeartbeats 4000000 in
set_option maxRecDepth 100000 in
theorem c_L_corner_no (l : Launch) (G : jG) (hst : l.stackTraces = false) (x0 xs po ro cr gp nu wk : Nat) (cn : Int32) (x y : Int64) (hP : ¬ (inC x.toInt ∧ inC y.toInt)) (ot : Nat) (ofn : Nat → Int64) : Cf l yL_corner wsL_corner rm_L_corner_no G [.ref x0, .long x, .long y, .ref ot] [(x0, .inr (9, [.ref xs, .int cn, .ref po, .ref ro, .ref cr, .ref gp, .ref nu, .ref wk])), (ot, aJ G 1 ofn)] (S := Unit) (fun r u => r = some (.int 1) ∧ ((fun _ => True) : (Unit) → Prop) u) (fun u => [(x0, .inr (9, [.ref xs, .int cn, .ref po, .ref ro, .ref cr, .ref gp, .ref nu, .ref wk])), (ot, aJ G 1 ofn)]) (fun _ => []) := by
  refine cf_introW (cc := cL_corner) (maxL := 7) (ret := (some .int)) (hh := [(0, 18, 21, 13)]) (by decide) rfl (Nat.le_of_ble_eq_true rfl) (fun _ => by simp only [List.map_cons, List.map_nil]) ?_
  intro p e s m args below meth c Q A X XF htab hr E
  change J p l e rm_L_corner_no s m args below meth c Q G A 7 0 0 0 [(0, .ref x0), (1, .long x), (3, .long y), (5, .ref ot)] [] [(x0, .inr (9, [.ref xs, .int cn, .ref po, .ref ro, .ref cr, .ref gp, .ref nu, .ref wk])), (ot, aJ G 1 ofn)]
  refine j_aload X dL_corner_0 3 rfl ?_
  refine j_iconst (v := 0) X dL_corner_2 rfl ?_
  refine j_aload_n X dL_corner_3 rfl 0 rfl ?_
  refine j_lload_n X dL_corner_4 rfl 1 rfl ?_
  refine j_lload_n X dL_corner_5 rfl 2 rfl ?_
  refine j_callVXP X XF dL_corner_6 (c_X10_corner_no l G hst x0 xs po ro cr gp nu wk cn x y hP) gL_corner_X10_corner rfl hy_X10_corner_V ⟨Nat.le_of_ble_eq_true rfl, Nat.le_of_ble_eq_true rfl⟩ 0 rfl rfl [(ot, aJ G 1 ofn)] rfl rfl rfl (Nat.le_of_ble_eq_true rfl) ⟨Nat.le_of_ble_eq_true rfl, Nat.le_of_ble_eq_true rfl⟩ [] ⟨0, 18, 21, 13⟩ [] (htab.trans rfl) (fun z hz => absurd hz List.not_mem_nil) (by decide) (by decide) lk_L_corner_13 (by decide +kernel) ?_
  rintro q9 u9 hp9
  change J p l e rm_L_corner_no s m args below meth c Q G A 7 1 6 21 [(0, .ref x0), (1, .long x), (3, .long y), (5, .ref ot)] [.ref q9] [(x0, .inr (9, [.ref xs, .int cn, .ref po, .ref ro, .ref cr, .ref gp, .ref nu, .ref wk])), (ot, aJ G 1 ofn)]
  refine j_astore (L' := [(6, .ref q9), (0, .ref x0), (1, .long x), (3, .long y), (5, .ref ot)]) X dL_corner_21 (by decide) rfl ?_
  refine j_iconst (v := 1) X dL_corner_23 rfl ?_
  exact E.2.1 24 _ 1 u9 _ dL_corner_24 ⟨rfl, hp9⟩ hr rfl

abbrev rm_L_area_0 : Room := { frames := 5, cells := 0, slots := 0, locals := 138 }
set_option maxHeartbeats 4000000 in
set_option maxRecDepth 100000 in
theorem c_L_area_0 (l : Launch) (G : jG) (x0 xs po ro cr gp nu wk : Nat) (cn ct : Int32) (su asu : Nat) (fx fy lx ly : Int64) (S1 : Int) (awk : Nat) (fw : Nat → Int64) (li : Int32) (hly : -9223372036854775808 < ly.toInt) (hP : 0 ≤ li.toInt ∧ li.toInt < 4) (ot : Nat) (ofn : Nat → Int64) : Cf l yL_area wsL_area rm_L_area_0 G [.ref x0, .int li, .ref ot] [(x0, .inr (9, [.ref xs, .int cn, .ref po, .ref ro, .ref cr, .ref gp, .ref nu, .ref wk])), (po, .inr (4, [.int ct, .long fx, .long fy, .long lx, .long ly, .ref su])), (su, .inr (8, [.ref asu])), (asu, aJ G 8 (dg S1)), (wk, .inr (8, [.ref awk])), (awk, aJ G 8 fw), (ot, aJ G 1 ofn)] (S := Int64 × (Unit)) (fun r u => r = some (.int 0) ∧ ∃ xx9 : Int64, ((fun r _ => r = some (.long (dg (S1 + (lx.toInt * fy.toInt - ly.toInt * fx.toInt)) li.toInt.toNat))) : Option Value → (Unit) → Prop) (some (.long xx9)) u.2 ∧ u.1 = xx9) (fun u => [(x0, .inr (9, [.ref xs, .int cn, .ref po, .ref ro, .ref cr, .ref gp, .ref nu, .ref wk])), (po, .inr (4, [.int ct, .long fx, .long fy, .long lx, .long ly, .ref su])), (su, .inr (8, [.ref asu])), (asu, aJ G 8 (dg S1)), (wk, .inr (8, [.ref awk])), (awk, aJ G 8 (dg (S1 + (lx.toInt * fy.toInt - ly.toInt * fx.toInt)))), (ot, aJ G 1 (vp_updL ofn 0 u.1))]) (fun _ => []) := by
  refine cf_introW (cc := cL_area) (maxL := 4) (ret := (some .int)) (hh := [(0, 8, 11, 27)]) (by decide) rfl (Nat.le_of_ble_eq_true rfl) (fun _ => by simp only [List.map_cons, List.map_nil]) ?_
  intro p e s m args below meth c Q A X XF htab hr E
  change J p l e rm_L_area_0 s m args below meth c Q G A 4 0 0 0 [(0, .ref x0), (1, .int li), (2, .ref ot)] [] [(x0, .inr (9, [.ref xs, .int cn, .ref po, .ref ro, .ref cr, .ref gp, .ref nu, .ref wk])), (po, .inr (4, [.int ct, .long fx, .long fy, .long lx, .long ly, .ref su])), (su, .inr (8, [.ref asu])), (asu, aJ G 8 (dg S1)), (wk, .inr (8, [.ref awk])), (awk, aJ G 8 fw), (ot, aJ G 1 ofn)]
  refine j_aload_n X dL_area_0 rfl 2 rfl ?_
  refine j_iconst (v := 0) X dL_area_1 rfl ?_
  refine j_aload_n X dL_area_2 rfl 0 rfl ?_
  refine j_iload_n X dL_area_3 rfl 1 rfl ?_
  refine j_callVFP X XF dL_area_4 (Ct.cf (c_X10_area_0 l G x0 xs po ro cr gp nu wk cn ct su asu fx fy lx ly S1 awk fw li hly hP)) gL_area_X10_area rfl hy_X10_area_V ⟨Nat.le_of_ble_eq_true rfl, Nat.le_of_ble_eq_true rfl⟩ 0 rfl rfl [(ot, aJ G 1 ofn)] rfl rfl rfl (Nat.le_of_ble_eq_true rfl) ⟨Nat.le_of_ble_eq_true rfl, Nat.le_of_ble_eq_true rfl⟩ ?_
  rintro v9 u9 hp9
  obtain ⟨x9, hx9⟩ : ∃ x : Int64, v9 = some (.long x) := ⟨_, hp9⟩
  subst hx9
  change J p l e rm_L_area_0 s m args below meth c Q G A 4 0 0 7 [(0, .ref x0), (1, .int li), (2, .ref ot)] [.long x9, .int 0, .ref ot] [(x0, .inr (9, [.ref xs, .int cn, .ref po, .ref ro, .ref cr, .ref gp, .ref nu, .ref wk])), (po, .inr (4, [.int ct, .long fx, .long fy, .long lx, .long ly, .ref su])), (su, .inr (8, [.ref asu])), (asu, aJ G 8 (dg S1)), (wk, .inr (8, [.ref awk])), (awk, aJ G 8 (dg (S1 + (lx.toInt * fy.toInt - ly.toInt * fx.toInt)))), (ot, aJ G 1 ofn)]
  refine j_last (ws' := [(x0, .inr (9, [.ref xs, .int cn, .ref po, .ref ro, .ref cr, .ref gp, .ref nu, .ref wk])), (po, .inr (4, [.int ct, .long fx, .long fy, .long lx, .long ly, .ref su])), (su, .inr (8, [.ref asu])), (asu, aJ G 8 (dg S1)), (wk, .inr (8, [.ref awk])), (awk, aJ G 8 (dg (S1 + (lx.toInt * fy.toInt - ly.toInt * fx.toInt)))), (ot, aJ G 1 (vp_updL ofn 0 x9))]) X dL_area_7 6 rfl 0 rfl (by decide) (by decide) rfl ?_
  refine j_goto (tgt := 14) X dL_area_8 (by decide) ?_
  refine j_iconst (v := 0) X dL_area_14 rfl ?_
  exact E.2.1 15 _ 0 (x9, u9) _ dL_area_15 ⟨rfl, x9, hp9, rfl⟩ hr rfl

theorem hs_L_area : yL_area.cls ≠ "java/lang/invoke/MethodHandle" ∧ yL_area.cls ≠ "java/lang/invoke/VarHandle" ∧ (parseMethodDescriptor yL_area.desc).map (fun d => d.parameters.length) = some 3 := by decide +kernel
abbrev rm_L_area_1 : Room := { frames := 7, cells := 1, slots := 6, locals := 111 }
theorem lk_L_area_27 : Cond.classLink RL 27 eB ∈ wsL_area := by decide +kernel
set_option maxHeartbeats 4000000 in
set_option maxRecDepth 100000 in
theorem c_L_area_1 (l : Launch) (G : jG) (hst : l.stackTraces = false) (x0 xs po ro cr gp nu wk : Nat) (cn : Int32) (li : Int32) (hP : ¬ (0 ≤ li.toInt ∧ li.toInt < 4)) (ot : Nat) (ofn : Nat → Int64) : Cf l yL_area wsL_area rm_L_area_1 G [.ref x0, .int li, .ref ot] [(x0, .inr (9, [.ref xs, .int cn, .ref po, .ref ro, .ref cr, .ref gp, .ref nu, .ref wk])), (ot, aJ G 1 ofn)] (S := Unit) (fun r u => r = some (.int 1) ∧ ((fun _ => True) : (Unit) → Prop) u) (fun u => [(x0, .inr (9, [.ref xs, .int cn, .ref po, .ref ro, .ref cr, .ref gp, .ref nu, .ref wk])), (ot, aJ G 1 ofn)]) (fun _ => []) := by
  refine cf_introW (cc := cL_area) (maxL := 4) (ret := (some .int)) (hh := [(0, 8, 11, 27)]) (by decide) rfl (Nat.le_of_ble_eq_true rfl) (fun _ => by simp only [List.map_cons, List.map_nil]) ?_
  intro p e s m args below meth c Q A X XF htab hr E
  change J p l e rm_L_area_1 s m args below meth c Q G A 4 0 0 0 [(0, .ref x0), (1, .int li), (2, .ref ot)] [] [(x0, .inr (9, [.ref xs, .int cn, .ref po, .ref ro, .ref cr, .ref gp, .ref nu, .ref wk])), (ot, aJ G 1 ofn)]
  refine j_aload_n X dL_area_0 rfl 2 rfl ?_
  refine j_iconst (v := 0) X dL_area_1 rfl ?_
  refine j_aload_n X dL_area_2 rfl 0 rfl ?_
  refine j_iload_n X dL_area_3 rfl 1 rfl ?_
  refine j_callVXP X XF dL_area_4 (c_X10_area_1 l G hst x0 xs po ro cr gp nu wk cn li hP) gL_area_X10_area rfl hy_X10_area_V ⟨Nat.le_of_ble_eq_true rfl, Nat.le_of_ble_eq_true rfl⟩ 0 rfl rfl [(ot, aJ G 1 ofn)] rfl rfl rfl (Nat.le_of_ble_eq_true rfl) ⟨Nat.le_of_ble_eq_true rfl, Nat.le_of_ble_eq_true rfl⟩ [] ⟨0, 8, 11, 27⟩ [] (htab.trans rfl) (fun z hz => absurd hz List.not_mem_nil) (by decide) (by decide) lk_L_area_27 (by decide +kernel) ?_
  rintro q9 u9 hp9
  change J p l e rm_L_area_1 s m args below meth c Q G A 4 1 6 11 [(0, .ref x0), (1, .int li), (2, .ref ot)] [.ref q9] [(x0, .inr (9, [.ref xs, .int cn, .ref po, .ref ro, .ref cr, .ref gp, .ref nu, .ref wk])), (ot, aJ G 1 ofn)]
  refine j_astore_n (L' := [(3, .ref q9), (0, .ref x0), (1, .int li), (2, .ref ot)]) X dL_area_11 rfl (by decide) rfl ?_
  refine j_iconst (v := 1) X dL_area_12 rfl ?_
  exact E.2.1 13 _ 1 u9 _ dL_area_13 ⟨rfl, hp9⟩ hr rfl

abbrev rm_L_on_1 : Room := { frames := 7, cells := 1, slots := 6, locals := 116 }
theorem lk_L_on_27 : Cond.classLink RL 27 eB ∈ wsL_on := by decide +kernel
set_option maxHeartbeats 4000000 in
set_option maxRecDepth 100000 in
theorem c_L_on_1 (l : Launch) (G : jG) (hst : l.stackTraces = false) (x0 xs po ro cr gp nu wk : Nat) (f : Nat → Option Nat) (N : Nat) (gN : N ≤ 200) (x1 : Int32) (x y : Int64) (hP : ¬ (0 ≤ x1.toInt ∧ x1.toInt < N)) (ot : Nat) (ofn : Nat → Int64) : Cf l yL_on wsL_on rm_L_on_1 G [.ref x0, .int x1, .long x, .long y, .ref ot] [(x0, .inr (9, [.ref xs, .int (nI N), .ref po, .ref ro, .ref cr, .ref gp, .ref nu, .ref wk])), (xs, aS G 200 f), (ot, aJ G 1 ofn)] (S := Unit) (fun r u => r = some (.int 1) ∧ ((fun _ => True) : (Unit) → Prop) u) (fun u => [(x0, .inr (9, [.ref xs, .int (nI N), .ref po, .ref ro, .ref cr, .ref gp, .ref nu, .ref wk])), (xs, aS G 200 f), (ot, aJ G 1 ofn)]) (fun _ => []) := by
  refine cf_introW (cc := cL_on) (maxL := 8) (ret := (some .int)) (hh := [(0, 20, 23, 27), (0, 20, 27, 13)]) (by decide) rfl (Nat.le_of_ble_eq_true rfl) (fun _ => by simp only [List.map_cons, List.map_nil]) ?_
  intro p e s m args below meth c Q A X XF htab hr E
  change J p l e rm_L_on_1 s m args below meth c Q G A 8 0 0 0 [(0, .ref x0), (1, .int x1), (2, .long x), (4, .long y), (6, .ref ot)] [] [(x0, .inr (9, [.ref xs, .int (nI N), .ref po, .ref ro, .ref cr, .ref gp, .ref nu, .ref wk])), (xs, aS G 200 f), (ot, aJ G 1 ofn)]
  refine j_aload X dL_on_0 4 rfl ?_
  refine j_iconst (v := 0) X dL_on_2 rfl ?_
  refine j_aload_n X dL_on_3 rfl 0 rfl ?_
  refine j_iload_n X dL_on_4 rfl 1 rfl ?_
  refine j_lload_n X dL_on_5 rfl 2 rfl ?_
  refine j_lload X dL_on_6 3 rfl ?_
  refine j_callVXP X XF dL_on_8 (c_X10_on_1 l G hst x0 xs po ro cr gp nu wk f N gN x1 x y hP) gL_on_X10_on rfl hy_X10_on_V ⟨Nat.le_of_ble_eq_true rfl, Nat.le_of_ble_eq_true rfl⟩ 0 rfl rfl [(ot, aJ G 1 ofn)] rfl rfl rfl (Nat.le_of_ble_eq_true rfl) ⟨Nat.le_of_ble_eq_true rfl, Nat.le_of_ble_eq_true rfl⟩ [] ⟨0, 20, 23, 27⟩ [⟨0, 20, 27, 13⟩] (htab.trans rfl) (fun z hz => absurd hz List.not_mem_nil) (by decide) (by decide) lk_L_on_27 (by decide +kernel) ?_
  rintro q9 u9 hp9
  change J p l e rm_L_on_1 s m args below meth c Q G A 8 1 6 23 [(0, .ref x0), (1, .int x1), (2, .long x), (4, .long y), (6, .ref ot)] [.ref q9] [(x0, .inr (9, [.ref xs, .int (nI N), .ref po, .ref ro, .ref cr, .ref gp, .ref nu, .ref wk])), (xs, aS G 200 f), (ot, aJ G 1 ofn)]
  refine j_astore (L' := [(7, .ref q9), (0, .ref x0), (1, .int x1), (2, .long x), (4, .long y), (6, .ref ot)]) X dL_on_23 (by decide) rfl ?_
  refine j_iconst (v := 1) X dL_on_25 rfl ?_
  exact E.2.1 26 _ 1 u9 _ dL_on_26 ⟨rfl, hp9⟩ hr rfl

theorem hs_L_on : yL_on.cls ≠ "java/lang/invoke/MethodHandle" ∧ yL_on.cls ≠ "java/lang/invoke/VarHandle" ∧ (parseMethodDescriptor yL_on.desc).map (fun d => d.parameters.length) = some 5 := by decide +kernel
abbrev rm_L_on_2 : Room := { frames := 7, cells := 1, slots := 6, locals := 116 }
theorem lk_L_on_13 : Cond.classLink RL 13 eA ∈ wsL_on := by decide +kernel
set_option maxHeartbeats 4000000 in
set_option maxRecDepth 100000 in
theorem c_L_on_2 (l : Launch) (G : jG) (hst : l.stackTraces = false) (x0 xs po ro cr gp nu wk : Nat) (f : Nat → Option Nat) (N : Nat) (gN : N ≤ 200) (x1 : Int32) (x y : Int64) (q1 : Nat) (hf : shO f N x1 = some q1) (hP : ¬ (inC x.toInt ∧ inC y.toInt)) (ot : Nat) (ofn : Nat → Int64) : Cf l yL_on wsL_on rm_L_on_2 G [.ref x0, .int x1, .long x, .long y, .ref ot] [(x0, .inr (9, [.ref xs, .int (nI N), .ref po, .ref ro, .ref cr, .ref gp, .ref nu, .ref wk])), (xs, aS G 200 f), (ot, aJ G 1 ofn)] (S := Unit) (fun r u => r = some (.int 2) ∧ ((fun _ => True) : (Unit) → Prop) u) (fun u => [(x0, .inr (9, [.ref xs, .int (nI N), .ref po, .ref ro, .ref cr, .ref gp, .ref nu, .ref wk])), (xs, aS G 200 f), (ot, aJ G 1 ofn)]) (fun _ => []) := by
  refine cf_introW (cc := cL_on) (maxL := 8) (ret := (some .int)) (hh := [(0, 20, 23, 27), (0, 20, 27, 13)]) (by decide) rfl (Nat.le_of_ble_eq_true rfl) (fun _ => by simp only [List.map_cons, List.map_nil]) ?_
  intro p e s m args below meth c Q A X XF htab hr E
  change J p l e rm_L_on_2 s m args below meth c Q G A 8 0 0 0 [(0, .ref x0), (1, .int x1), (2, .long x), (4, .long y), (6, .ref ot)] [] [(x0, .inr (9, [.ref xs, .int (nI N), .ref po, .ref ro, .ref cr, .ref gp, .ref nu, .ref wk])), (xs, aS G 200 f), (ot, aJ G 1 ofn)]
  refine j_aload X dL_on_0 4 rfl ?_
  refine j_iconst (v := 0) X dL_on_2 rfl ?_
  refine j_aload_n X dL_on_3 rfl 0 rfl ?_
  refine j_iload_n X dL_on_4 rfl 1 rfl ?_
  refine j_lload_n X dL_on_5 rfl 2 rfl ?_
  refine j_lload X dL_on_6 3 rfl ?_
  refine j_callVXP X XF dL_on_8 (c_X10_on_2 l G hst x0 xs po ro cr gp nu wk f N gN x1 x y q1 hf hP) gL_on_X10_on rfl hy_X10_on_V ⟨Nat.le_of_ble_eq_true rfl, Nat.le_of_ble_eq_true rfl⟩ 0 rfl rfl [(ot, aJ G 1 ofn)] rfl rfl rfl (Nat.le_of_ble_eq_true rfl) ⟨Nat.le_of_ble_eq_true rfl, Nat.le_of_ble_eq_true rfl⟩ [⟨0, 20, 23, 27⟩] ⟨0, 20, 27, 13⟩ [] (htab.trans rfl) (fun z hz => by rw [List.mem_singleton] at hz; subst hz; exact ⟨by decide, eB, lk_L_on_27, by decide +kernel⟩) (by decide) (by decide) lk_L_on_13 (by decide +kernel) ?_
  rintro q9 u9 hp9
  change J p l e rm_L_on_2 s m args below meth c Q G A 8 1 6 27 [(0, .ref x0), (1, .int x1), (2, .long x), (4, .long y), (6, .ref ot)] [.ref q9] [(x0, .inr (9, [.ref xs, .int (nI N), .ref po, .ref ro, .ref cr, .ref gp, .ref nu, .ref wk])), (xs, aS G 200 f), (ot, aJ G 1 ofn)]
  refine j_astore (L' := [(7, .ref q9), (0, .ref x0), (1, .int x1), (2, .long x), (4, .long y), (6, .ref ot)]) X dL_on_27 (by decide) rfl ?_
  refine j_iconst (v := 2) X dL_on_29 rfl ?_
  exact E.2.1 30 _ 2 u9 _ dL_on_30 ⟨rfl, hp9⟩ hr rfl

abbrev rm_L_on_s : Room := { frames := 5, cells := 0, slots := 0, locals := 151 }
set_option maxHeartbeats 4000000 in
set_option maxRecDepth 100000 in
theorem c_L_on_s (l : Launch) (G : jG) (x0 xs po ro cr gp nu wk : Nat) (f : Nat → Option Nat) (N : Nat) (gN : N ≤ 200) (x1 : Int32) (x y : Int64) (s0 : Nat) (sax say sbx sby sdx sdy : Int64) (hs : sgH sax say sbx sby sdx sdy) (awk : Nat) (fw : Nat → Int64) (hf : shO f N x1 = some s0) (hP : inC x.toInt ∧ inC y.toInt) (ot : Nat) (ofn : Nat → Int64) : Cf l yL_on wsL_on rm_L_on_s G [.ref x0, .int x1, .long x, .long y, .ref ot] [(x0, .inr (9, [.ref xs, .int (nI N), .ref po, .ref ro, .ref cr, .ref gp, .ref nu, .ref wk])), (xs, aS G 200 f), (wk, .inr (8, [.ref awk])), (awk, aJ G 8 fw), (ot, aJ G 1 ofn), (s0, .inr (7, [.long sax, .long say, .long sbx, .long sby, .long sdx, .long sdy]))] (S := Int64 × (Nat → Int64)) (fun r u => r = some (.int 0) ∧ ∃ xx9 : Int32, ((fun r _ => r = some (.int (bI (onS sax.toInt say.toInt sbx.toInt sby.toInt x.toInt y.toInt)))) : Option Value → (Nat → Int64) → Prop) (some (.int xx9)) u.2 ∧ u.1 = (if xx9 = 0 then 0 else 1)) (fun u => [(x0, .inr (9, [.ref xs, .int (nI N), .ref po, .ref ro, .ref cr, .ref gp, .ref nu, .ref wk])), (xs, aS G 200 f), (wk, .inr (8, [.ref awk])), (awk, aJ G 8 u.2), (ot, aJ G 1 (vp_updL ofn 0 u.1)), (s0, .inr (7, [.long sax, .long say, .long sbx, .long sby, .long sdx, .long sdy]))]) (fun _ => []) := by
  refine cf_introW (cc := cL_on) (maxL := 8) (ret := (some .int)) (hh := [(0, 20, 23, 27), (0, 20, 27, 13)]) (by decide) rfl (Nat.le_of_ble_eq_true rfl) (fun _ => by simp only [List.map_cons, List.map_nil]) ?_
  intro p e s m args below meth c Q A X XF htab hr E
  change J p l e rm_L_on_s s m args below meth c Q G A 8 0 0 0 [(0, .ref x0), (1, .int x1), (2, .long x), (4, .long y), (6, .ref ot)] [] [(x0, .inr (9, [.ref xs, .int (nI N), .ref po, .ref ro, .ref cr, .ref gp, .ref nu, .ref wk])), (xs, aS G 200 f), (wk, .inr (8, [.ref awk])), (awk, aJ G 8 fw), (ot, aJ G 1 ofn), (s0, .inr (7, [.long sax, .long say, .long sbx, .long sby, .long sdx, .long sdy]))]
  refine j_aload X dL_on_0 4 rfl ?_
  refine j_iconst (v := 0) X dL_on_2 rfl ?_
  refine j_aload_n X dL_on_3 rfl 0 rfl ?_
  refine j_iload_n X dL_on_4 rfl 1 rfl ?_
  refine j_lload_n X dL_on_5 rfl 2 rfl ?_
  refine j_lload X dL_on_6 3 rfl ?_
  refine j_pick (ws' := [(x0, .inr (9, [.ref xs, .int (nI N), .ref po, .ref ro, .ref cr, .ref gp, .ref nu, .ref wk])), (xs, aS G 200 f), (s0, .inr (7, [.long sax, .long say, .long sbx, .long sby, .long sdx, .long sdy])), (wk, .inr (8, [.ref awk])), (awk, aJ G 8 fw), (ot, aJ G 1 ofn)]) [0, 1, 5, 2, 3, 4] rfl (by decide) ?_
  refine j_callVFP X XF dL_on_8 (c_X10_on_s l G x0 xs po ro cr gp nu wk f N gN x1 x y s0 sax say sbx sby sdx sdy hs awk fw hf hP) gL_on_X10_on rfl hy_X10_on_V ⟨Nat.le_of_ble_eq_true rfl, Nat.le_of_ble_eq_true rfl⟩ 0 rfl rfl [(ot, aJ G 1 ofn)] rfl rfl rfl (Nat.le_of_ble_eq_true rfl) ⟨Nat.le_of_ble_eq_true rfl, Nat.le_of_ble_eq_true rfl⟩ ?_
  rintro v9 u9 hp9
  obtain ⟨x9, hx9⟩ : ∃ x : Int32, v9 = some (.int x) := ⟨_, hp9⟩
  subst hx9
  change J p l e rm_L_on_s s m args below meth c Q G A 8 0 0 11 [(0, .ref x0), (1, .int x1), (2, .long x), (4, .long y), (6, .ref ot)] [.int x9, .int 0, .ref ot] [(x0, .inr (9, [.ref xs, .int (nI N), .ref po, .ref ro, .ref cr, .ref gp, .ref nu, .ref wk])), (xs, aS G 200 f), (s0, .inr (7, [.long sax, .long say, .long sbx, .long sby, .long sdx, .long sdy])), (wk, .inr (8, [.ref awk])), (awk, aJ G 8 u9), (ot, aJ G 1 ofn)]
  refine j_if_eq (tgt := 18) X dL_on_11 (by decide) (fun c9 => ?_) (fun c9 => ?_)
  · skip
    refine j_lconst (v := 0) X dL_on_18 rfl ?_
    refine j_last (ws' := [(x0, .inr (9, [.ref xs, .int (nI N), .ref po, .ref ro, .ref cr, .ref gp, .ref nu, .ref wk])), (xs, aS G 200 f), (s0, .inr (7, [.long sax, .long say, .long sbx, .long sby, .long sdx, .long sdy])), (wk, .inr (8, [.ref awk])), (awk, aJ G 8 u9), (ot, aJ G 1 (vp_updL ofn 0 0))]) X dL_on_19 5 rfl 0 rfl (by decide) (by decide) rfl ?_
    refine j_goto (tgt := 31) X dL_on_20 (by decide) ?_
    refine j_iconst (v := 0) X dL_on_31 rfl ?_
    refine j_pick (ws' := [(x0, .inr (9, [.ref xs, .int (nI N), .ref po, .ref ro, .ref cr, .ref gp, .ref nu, .ref wk])), (xs, aS G 200 f), (wk, .inr (8, [.ref awk])), (awk, aJ G 8 u9), (ot, aJ G 1 (vp_updL ofn 0 0)), (s0, .inr (7, [.long sax, .long say, .long sbx, .long sby, .long sdx, .long sdy]))]) [0, 1, 3, 4, 5, 2] rfl (by decide) ?_
    exact E.2.1 32 _ 0 (0, u9) _ dL_on_32 ⟨rfl, x9, hp9, (if_pos c9).symm⟩ hr rfl
  · skip
    refine j_lconst (v := 1) X dL_on_14 rfl ?_
    refine j_goto (tgt := 19) X dL_on_15 (by decide) ?_
    refine j_last (ws' := [(x0, .inr (9, [.ref xs, .int (nI N), .ref po, .ref ro, .ref cr, .ref gp, .ref nu, .ref wk])), (xs, aS G 200 f), (s0, .inr (7, [.long sax, .long say, .long sbx, .long sby, .long sdx, .long sdy])), (wk, .inr (8, [.ref awk])), (awk, aJ G 8 u9), (ot, aJ G 1 (vp_updL ofn 0 1))]) X dL_on_19 5 rfl 0 rfl (by decide) (by decide) rfl ?_
    refine j_goto (tgt := 31) X dL_on_20 (by decide) ?_
    refine j_iconst (v := 0) X dL_on_31 rfl ?_
    refine j_pick (ws' := [(x0, .inr (9, [.ref xs, .int (nI N), .ref po, .ref ro, .ref cr, .ref gp, .ref nu, .ref wk])), (xs, aS G 200 f), (wk, .inr (8, [.ref awk])), (awk, aJ G 8 u9), (ot, aJ G 1 (vp_updL ofn 0 1)), (s0, .inr (7, [.long sax, .long say, .long sbx, .long sby, .long sdx, .long sdy]))]) [0, 1, 3, 4, 5, 2] rfl (by decide) ?_
    exact E.2.1 32 _ 0 (1, u9) _ dL_on_32 ⟨rfl, x9, hp9, (if_neg c9).symm⟩ hr rfl

abbrev rm_L_on_a : Room := { frames := 5, cells := 0, slots := 0, locals := 151 }
set_option maxHeartbeats 4000000 in
set_option maxRecDepth 100000 in
theorem c_L_on_a (l : Launch) (G : jG) (x0 xs po ro cr gp nu wk : Nat) (f : Nat → Option Nat) (N : Nat) (gN : N ≤ 200) (x1 : Int32) (x y : Int64) (p0 : Nat) (pcx pcy pr : Int64) (pf pt : Int32) (hp : arH pcx pcy pr pf pt) (awk : Nat) (fw : Nat → Int64) (hf : shO f N x1 = some p0) (hP : inC x.toInt ∧ inC y.toInt) (ot : Nat) (ofn : Nat → Int64) : Cf l yL_on wsL_on rm_L_on_a G [.ref x0, .int x1, .long x, .long y, .ref ot] [(x0, .inr (9, [.ref xs, .int (nI N), .ref po, .ref ro, .ref cr, .ref gp, .ref nu, .ref wk])), (xs, aS G 200 f), (wk, .inr (8, [.ref awk])), (awk, aJ G 8 fw), (ot, aJ G 1 ofn), (p0, .inr (0, [.long pcx, .long pcy, .long pr, .int pf, .int pt]))] (S := Int64 × (Nat → Int64)) (fun r u => r = some (.int 0) ∧ ∃ xx9 : Int32, ((fun r _ => r = some (.int (bI (onA pcx.toInt pcy.toInt pr.toInt pf.toInt pt.toInt x.toInt y.toInt)))) : Option Value → (Nat → Int64) → Prop) (some (.int xx9)) u.2 ∧ u.1 = (if xx9 = 0 then 0 else 1)) (fun u => [(x0, .inr (9, [.ref xs, .int (nI N), .ref po, .ref ro, .ref cr, .ref gp, .ref nu, .ref wk])), (xs, aS G 200 f), (wk, .inr (8, [.ref awk])), (awk, aJ G 8 u.2), (ot, aJ G 1 (vp_updL ofn 0 u.1)), (p0, .inr (0, [.long pcx, .long pcy, .long pr, .int pf, .int pt]))]) (fun _ => []) := by
  refine cf_introW (cc := cL_on) (maxL := 8) (ret := (some .int)) (hh := [(0, 20, 23, 27), (0, 20, 27, 13)]) (by decide) rfl (Nat.le_of_ble_eq_true rfl) (fun _ => by simp only [List.map_cons, List.map_nil]) ?_
  intro p e s m args below meth c Q A X XF htab hr E
  change J p l e rm_L_on_a s m args below meth c Q G A 8 0 0 0 [(0, .ref x0), (1, .int x1), (2, .long x), (4, .long y), (6, .ref ot)] [] [(x0, .inr (9, [.ref xs, .int (nI N), .ref po, .ref ro, .ref cr, .ref gp, .ref nu, .ref wk])), (xs, aS G 200 f), (wk, .inr (8, [.ref awk])), (awk, aJ G 8 fw), (ot, aJ G 1 ofn), (p0, .inr (0, [.long pcx, .long pcy, .long pr, .int pf, .int pt]))]
  refine j_aload X dL_on_0 4 rfl ?_
  refine j_iconst (v := 0) X dL_on_2 rfl ?_
  refine j_aload_n X dL_on_3 rfl 0 rfl ?_
  refine j_iload_n X dL_on_4 rfl 1 rfl ?_
  refine j_lload_n X dL_on_5 rfl 2 rfl ?_
  refine j_lload X dL_on_6 3 rfl ?_
  refine j_pick (ws' := [(x0, .inr (9, [.ref xs, .int (nI N), .ref po, .ref ro, .ref cr, .ref gp, .ref nu, .ref wk])), (xs, aS G 200 f), (p0, .inr (0, [.long pcx, .long pcy, .long pr, .int pf, .int pt])), (wk, .inr (8, [.ref awk])), (awk, aJ G 8 fw), (ot, aJ G 1 ofn)]) [0, 1, 5, 2, 3, 4] rfl (by decide) ?_
  refine j_callVFP X XF dL_on_8 (c_X10_on_a l G x0 xs po ro cr gp nu wk f N gN x1 x y p0 pcx pcy pr pf pt hp awk fw hf hP) gL_on_X10_on rfl hy_X10_on_V ⟨Nat.le_of_ble_eq_true rfl, Nat.le_of_ble_eq_true rfl⟩ 0 rfl rfl [(ot, aJ G 1 ofn)] rfl rfl rfl (Nat.le_of_ble_eq_true rfl) ⟨Nat.le_of_ble_eq_true rfl, Nat.le_of_ble_eq_true rfl⟩ ?_
  rintro v9 u9 hp9
  obtain ⟨x9, hx9⟩ : ∃ x : Int32, v9 = some (.int x) := ⟨_, hp9⟩
  subst hx9
  change J p l e rm_L_on_a s m args below meth c Q G A 8 0 0 11 [(0, .ref x0), (1, .int x1), (2, .long x), (4, .long y), (6, .ref ot)] [.int x9, .int 0, .ref ot] [(x0, .inr (9, [.ref xs, .int (nI N), .ref po, .ref ro, .ref cr, .ref gp, .ref nu, .ref wk])), (xs, aS G 200 f), (p0, .inr (0, [.long pcx, .long pcy, .long pr, .int pf, .int pt])), (wk, .inr (8, [.ref awk])), (awk, aJ G 8 u9), (ot, aJ G 1 ofn)]
  refine j_if_eq (tgt := 18) X dL_on_11 (by decide) (fun c9 => ?_) (fun c9 => ?_)
  · skip
    refine j_lconst (v := 0) X dL_on_18 rfl ?_
    refine j_last (ws' := [(x0, .inr (9, [.ref xs, .int (nI N), .ref po, .ref ro, .ref cr, .ref gp, .ref nu, .ref wk])), (xs, aS G 200 f), (p0, .inr (0, [.long pcx, .long pcy, .long pr, .int pf, .int pt])), (wk, .inr (8, [.ref awk])), (awk, aJ G 8 u9), (ot, aJ G 1 (vp_updL ofn 0 0))]) X dL_on_19 5 rfl 0 rfl (by decide) (by decide) rfl ?_
    refine j_goto (tgt := 31) X dL_on_20 (by decide) ?_
    refine j_iconst (v := 0) X dL_on_31 rfl ?_
    refine j_pick (ws' := [(x0, .inr (9, [.ref xs, .int (nI N), .ref po, .ref ro, .ref cr, .ref gp, .ref nu, .ref wk])), (xs, aS G 200 f), (wk, .inr (8, [.ref awk])), (awk, aJ G 8 u9), (ot, aJ G 1 (vp_updL ofn 0 0)), (p0, .inr (0, [.long pcx, .long pcy, .long pr, .int pf, .int pt]))]) [0, 1, 3, 4, 5, 2] rfl (by decide) ?_
    exact E.2.1 32 _ 0 (0, u9) _ dL_on_32 ⟨rfl, x9, hp9, (if_pos c9).symm⟩ hr rfl
  · skip
    refine j_lconst (v := 1) X dL_on_14 rfl ?_
    refine j_goto (tgt := 19) X dL_on_15 (by decide) ?_
    refine j_last (ws' := [(x0, .inr (9, [.ref xs, .int (nI N), .ref po, .ref ro, .ref cr, .ref gp, .ref nu, .ref wk])), (xs, aS G 200 f), (p0, .inr (0, [.long pcx, .long pcy, .long pr, .int pf, .int pt])), (wk, .inr (8, [.ref awk])), (awk, aJ G 8 u9), (ot, aJ G 1 (vp_updL ofn 0 1))]) X dL_on_19 5 rfl 0 rfl (by decide) (by decide) rfl ?_
    refine j_goto (tgt := 31) X dL_on_20 (by decide) ?_
    refine j_iconst (v := 0) X dL_on_31 rfl ?_
    refine j_pick (ws' := [(x0, .inr (9, [.ref xs, .int (nI N), .ref po, .ref ro, .ref cr, .ref gp, .ref nu, .ref wk])), (xs, aS G 200 f), (wk, .inr (8, [.ref awk])), (awk, aJ G 8 u9), (ot, aJ G 1 (vp_updL ofn 0 1)), (p0, .inr (0, [.long pcx, .long pcy, .long pr, .int pf, .int pt]))]) [0, 1, 3, 4, 5, 2] rfl (by decide) ?_
    exact E.2.1 32 _ 0 (1, u9) _ dL_on_32 ⟨rfl, x9, hp9, (if_neg c9).symm⟩ hr rfl

