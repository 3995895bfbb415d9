abbrev rm_X7_along : Room := { frames := 0, cells := 0, slots := 0, locals := 0 }
theorem in_X7_along_X7 : ∀ w ∈ u_ws RX7 TX7 6, w ∈ wsX7_along := by decide +kernel
theorem fl_X7_along_22 : Cond.fieldLink RX7 22 (TX7 4).1 (TX7 4).2.1 (TX7 4).2.2.1 ∈ wsX7_along := by decide +kernel
set_option maxHeartbeats 4000000 in
set_option maxRecDepth 100000 in
theorem c_X7_along (l : Launch) (G : jG) (s0 : Nat) (sax say sbx sby sdx sdy : Int64) (hs : sgH sax say sbx sby sdx sdy) (x y : Int64) : Ct l yX7_along wsX7_along rm_X7_along G [.ref s0, .long x, .long y] [(s0, .inr (7, [.long sax, .long say, .long sbx, .long sby, .long sdx, .long sdy]))] (S := Unit) (fun r _ => r = some (.long (if sdx.toInt = 0 then y else x))) (fun _ => [(s0, .inr (7, [.long sax, .long say, .long sbx, .long sby, .long sdx, .long sdy]))]) (fun _ => []) := by
  refine c_intro (cc := cX7_along) (maxL := 5) (ret := (some .long)) (by decide) rfl (Nat.le_of_ble_eq_true rfl) (fun _ => by simp only [List.map_cons, List.map_nil]) ?_
  intro p e s m args below meth c Q A X hr hin E
  change J p l e rm_X7_along s m args below meth c Q G A 5 0 0 0 [(0, .ref s0), (1, .long x), (3, .long y)] [] [(s0, .inr (7, [.long sax, .long say, .long sbx, .long sby, .long sdx, .long sdy]))]
  refine j_aload_n X dX7_along_0 rfl 0 rfl ?_
  refine j_get (v := .long sdx) X dX7_along_1 0 rfl 4 rfl in_X7_along_X7 (by decide) fl_X7_along_22 rfl ?_
  refine j_lconst (v := 0) X dX7_along_4 rfl ?_
  refine j_lcmp X dX7_along_5 ?_
  refine j_if_eq (tgt := 13) X dX7_along_6 (by decide) (fun c_6 => ?_) (fun c_6 => ?_)
  · skip
    first | simp only [cmp_eq, cmp_lt, cmp_ge, cmp_gt, cmp_le, lT0, lT1] at c_6 | simp only [Int32.le_iff_toInt_le, Int32.lt_iff_toInt_lt, ← Int32.toInt_inj, iT0, iT1, iT2, iT3, iT4, iT5, iT6, iT7, iT8, iT9, iT10, iT11, iT12, iT13, iT14, iT15, iT16, iT19, iT20, iT31, iT32, iT42, iT64, iT200, iT318, iT319, iT1000, iTm1, iTm2] at c_6
    refine j_lload_n X dX7_along_13 rfl 2 rfl ?_
    exact E.2.2 14 _ y () dX7_along_14 (by rw [if_pos c_6]) hr
  · skip
    first | simp only [cmp_eq, cmp_lt, cmp_ge, cmp_gt, cmp_le, lT0, lT1] at c_6 | simp only [Int32.le_iff_toInt_le, Int32.lt_iff_toInt_lt, ← Int32.toInt_inj, iT0, iT1, iT2, iT3, iT4, iT5, iT6, iT7, iT8, iT9, iT10, iT11, iT12, iT13, iT14, iT15, iT16, iT19, iT20, iT31, iT32, iT42, iT64, iT200, iT318, iT319, iT1000, iTm1, iTm2] at c_6
    refine j_lload_n X dX7_along_9 rfl 1 rfl ?_
    refine j_goto (tgt := 14) X dX7_along_10 (by decide) ?_
    exact E.2.2 14 _ x () dX7_along_14 (by rw [if_neg c_6]) hr

theorem hy_X7_along_V : yX7_along.cls = RX7 ∧ yX7_along.cls ≠ "java/lang/invoke/MethodHandle" ∧ yX7_along.cls ≠ "java/lang/invoke/VarHandle" ∧ (parseMethodDescriptor yX7_along.desc).map (fun d => d.parameters.length) = some 2 := by decide +kernel
