abbrev rm_X11_limbOf : Room := { frames := 0, cells := 0, slots := 0, locals := 0 }
theorem in_X11_limbOf_X11 : ∀ w ∈ u_ws RX11 TX11 19, w ∈ wsX11_limbOf := by decide +kernel
theorem fl_X11_limbOf_39 : Cond.fieldLink RX11 39 (TX11 12).1 (TX11 12).2.1 (TX11 12).2.2.1 ∈ wsX11_limbOf := by decide +kernel
set_option maxHeartbeats 4000000 in
set_option maxRecDepth 100000 in
theorem c_X11_limbOf (l : Launch) (G : jG) (q : Nat → Nat) (t n co cr po : Int32) (tx ty : Int64) (zs : List Int) (hl : zs.length = 16) (sf : Nat → Int32) (r : Int32) (dd : Nat) (hdd : r.toInt = dd) (gdd : dd < 16) (x : Int32) (kk : Nat) (hkk : x.toInt = kk) (gkk : kk < 10) : Ct l yX11_limbOf wsX11_limbOf rm_X11_limbOf G [.ref (q 0), .int r, .int x] [(q 0, .inr (10, mF t n q co cr po tx ty)), (q 10, aI G 320 (rg zs)), (q 11, aZ G 16 sf)] (S := Int64) (fun r u => r = some (.long u) ∧ u.toInt = zA zs dd / dP kk % 4294967296) (fun _ => [(q 0, .inr (10, mF t n q co cr po tx ty)), (q 10, aI G 320 (rg zs)), (q 11, aZ G 16 sf)]) (fun _ => []) := by
  refine c_intro (cc := cX11_limbOf) (maxL := 3) (ret := (some .long)) (by decide) rfl (Nat.le_of_ble_eq_true rfl) (fun _ => by simp only [List.map_cons, List.map_nil]) ?_
  intro p e s m args below meth c Q A X hr hin E
  change J p l e rm_X11_limbOf s m args below meth c Q G A 3 0 0 0 [(0, .ref (q 0)), (1, .int r), (2, .int x)] [] [(q 0, .inr (10, mF t n q co cr po tx ty)), (q 10, aI G 320 (rg zs)), (q 11, aZ G 16 sf)]
  refine j_aload_n X dX11_limbOf_0 rfl 0 rfl ?_
  refine j_get (v := .ref (q 10)) X dX11_limbOf_1 0 rfl 12 rfl in_X11_limbOf_X11 (by decide) fl_X11_limbOf_39 rfl ?_
  refine j_bipush (v := 20) X dX11_limbOf_4 (by decide) ?_
  refine j_iload_n X dX11_limbOf_6 rfl 1 rfl ?_
  refine j_imul X dX11_limbOf_7 ?_
  refine j_iconst (v := 2) X dX11_limbOf_8 rfl ?_
  refine j_iload_n X dX11_limbOf_9 rfl 2 rfl ?_
  refine j_imul X dX11_limbOf_10 ?_
  refine j_iadd X dX11_limbOf_11 ?_
  refine j_iald X dX11_limbOf_12 1 rfl (20 * dd + 2 * kk) (i_nI (lm_ix hdd hkk gdd gkk) (by omega)) (by omega) (by decide) ?_
  refine j_i2l X dX11_limbOf_13 rfl ?_
  refine j_aload_n X dX11_limbOf_14 rfl 0 rfl ?_
  refine j_get (v := .ref (q 10)) X dX11_limbOf_15 0 rfl 12 rfl in_X11_limbOf_X11 (by decide) fl_X11_limbOf_39 rfl ?_
  refine j_bipush (v := 20) X dX11_limbOf_18 (by decide) ?_
  refine j_iload_n X dX11_limbOf_20 rfl 1 rfl ?_
  refine j_imul X dX11_limbOf_21 ?_
  refine j_iconst (v := 2) X dX11_limbOf_22 rfl ?_
  refine j_iload_n X dX11_limbOf_23 rfl 2 rfl ?_
  refine j_imul X dX11_limbOf_24 ?_
  refine j_iadd X dX11_limbOf_25 ?_
  refine j_iconst (v := 1) X dX11_limbOf_26 rfl ?_
  refine j_iadd X dX11_limbOf_27 ?_
  refine j_iald X dX11_limbOf_28 1 rfl (20 * dd + (2 * kk + 1)) (i_nI (lm_ix1 hdd hkk gdd gkk) (by omega)) (by omega) (by decide) ?_
  refine j_i2l X dX11_limbOf_29 rfl ?_
  refine j_bipush (v := 16) X dX11_limbOf_30 (by decide) ?_
  obtain ⟨x_1, ex_1⟩ : ∃ z9 : Int64, (((rg zs) (20 * dd + (2 * kk + 1))).toInt64) <<< ((16 : Int32).toInt64 &&& 63) = z9 := ⟨_, rfl⟩
  refine j_lshl (v := x_1) X dX11_limbOf_32 ex_1 ?_
  refine j_lor X dX11_limbOf_33 ?_
  exact E.2.2 34 _ ((((rg zs) (20 * dd + 2 * kk)).toInt64) ||| x_1) _ dX11_limbOf_34 (⟨rfl, by rw [lm_or (rg_rng ..) (rg_rng ..) ex_1, rg_at zs (by omega), rg_at zs (by omega), eg_T, eg_T]; exact lm_dig _ _⟩) hr

theorem hy_X11_limbOf_V : yX11_limbOf.cls = RX11 ∧ yX11_limbOf.cls ≠ "java/lang/invoke/MethodHandle" ∧ yX11_limbOf.cls ≠ "java/lang/invoke/VarHandle" ∧ (parseMethodDescriptor yX11_limbOf.desc).map (fun d => d.parameters.length) = some 2 := by decide +kernel
abbrev rm_X11_valueOf : Room := { frames := 1, cells := 0, slots := 0, locals := 22 }
theorem in_X11_valueOf_X11 : ∀ w ∈ u_ws RX11 TX11 19, w ∈ wsX11_valueOf := by decide +kernel
theorem fl_X11_valueOf_42 : Cond.fieldLink RX11 42 (TX11 13).1 (TX11 13).2.1 (TX11 13).2.2.1 ∈ wsX11_valueOf := by decide +kernel
set_option maxHeartbeats 4000000 in
set_option maxRecDepth 100000 in
theorem c_X11_valueOf (l : Launch) (G : jG) (q : Nat → Nat) (t n co cr po : Int32) (tx ty : Int64) (zs : List Int) (hl : zs.length = 16) (sf : Nat → Int32) (r : Int32) (dd : Nat) (hdd : r.toInt = dd) (gdd : dd < 16) (hok : ok1 (sf dd) (zs.getD dd 0)) (hbd : (zs.getD dd 0).natAbs < 9223372036854775808) : Ct l yX11_valueOf wsX11_valueOf rm_X11_valueOf G [.ref (q 0), .int r] [(q 0, .inr (10, mF t n q co cr po tx ty)), (q 10, aI G 320 (rg zs)), (q 11, aZ G 16 sf)] (S := Int64) (fun r u => r = some (.long u) ∧ u.toInt = zs.getD dd 0) (fun _ => [(q 0, .inr (10, mF t n q co cr po tx ty)), (q 10, aI G 320 (rg zs)), (q 11, aZ G 16 sf)]) (fun _ => []) := by
  refine c_intro (cc := cX11_valueOf) (maxL := 4) (ret := (some .long)) (by decide) rfl (Nat.le_of_ble_eq_true rfl) (fun _ => by simp only [List.map_cons, List.map_nil]) ?_
  intro p e s m args below meth c Q A X hr hin E
  change J p l e rm_X11_valueOf s m args below meth c Q G A 4 0 0 0 [(0, .ref (q 0)), (1, .int r)] [] [(q 0, .inr (10, mF t n q co cr po tx ty)), (q 10, aI G 320 (rg zs)), (q 11, aZ G 16 sf)]
  refine j_aload_n X dX11_valueOf_0 rfl 0 rfl ?_
  refine j_iload_n X dX11_valueOf_1 rfl 1 rfl ?_
  refine j_iconst (v := 0) X dX11_valueOf_2 rfl ?_
  refine j_callV X dX11_valueOf_3 (c_X11_limbOf l G q t n co cr po tx ty zs hl sf r dd hdd gdd 0 0 rfl (by decide)) gX11_valueOf_X11_limbOf rfl hy_X11_limbOf_V ⟨Nat.le_of_ble_eq_true rfl, Nat.le_of_ble_eq_true rfl⟩ 0 rfl rfl [0, 1, 2] rfl (by decide) rfl rfl (Nat.le_of_ble_eq_true rfl) ⟨Nat.le_of_ble_eq_true rfl, Nat.le_of_ble_eq_true rfl⟩ ?_
  rintro _ w_1 ⟨rfl, hw_1⟩
  change J p l e rm_X11_valueOf s m args below meth c Q G A 4 0 0 6 [(0, .ref (q 0)), (1, .int r)] [.long w_1] [(q 0, .inr (10, mF t n q co cr po tx ty)), (q 10, aI G 320 (rg zs)), (q 11, aZ G 16 sf)]
  refine j_aload_n X dX11_valueOf_6 rfl 0 rfl ?_
  refine j_iload_n X dX11_valueOf_7 rfl 1 rfl ?_
  refine j_iconst (v := 1) X dX11_valueOf_8 rfl ?_
  refine j_callV X dX11_valueOf_9 (c_X11_limbOf l G q t n co cr po tx ty zs hl sf r dd hdd gdd 1 1 rfl (by decide)) gX11_valueOf_X11_limbOf rfl hy_X11_limbOf_V ⟨Nat.le_of_ble_eq_true rfl, Nat.le_of_ble_eq_true rfl⟩ 0 rfl rfl [0, 1, 2] rfl (by decide) rfl rfl (Nat.le_of_ble_eq_true rfl) ⟨Nat.le_of_ble_eq_true rfl, Nat.le_of_ble_eq_true rfl⟩ ?_
  rintro _ w_2 ⟨rfl, hw_2⟩
  change J p l e rm_X11_valueOf s m args below meth c Q G A 4 0 0 12 [(0, .ref (q 0)), (1, .int r)] [.long w_2, .long w_1] [(q 0, .inr (10, mF t n q co cr po tx ty)), (q 10, aI G 320 (rg zs)), (q 11, aZ G 16 sf)]
  refine j_bipush (v := 32) X dX11_valueOf_12 (by decide) ?_
  obtain ⟨x_3, ex_3⟩ : ∃ z9 : Int64, w_2 <<< ((32 : Int32).toInt64 &&& 63) = z9 := ⟨_, rfl⟩
  refine j_lshl (v := x_3) X dX11_valueOf_14 ex_3 ?_
  refine j_lor X dX11_valueOf_15 ?_
  have hv := vl_or hw_1 hw_2 ex_3 hbd
  refine j_topl (fun x_4 ex_4 => ?_)
  refine j_lstore_n (L' := [(2, .long x_4), (0, .ref (q 0)), (1, .int r)]) X dX11_valueOf_16 rfl (by decide) rfl ?_
  refine j_aload_n X dX11_valueOf_17 rfl 1 rfl ?_
  refine j_get (v := .ref (q 11)) X dX11_valueOf_18 0 rfl 13 rfl in_X11_valueOf_X11 (by decide) fl_X11_valueOf_42 rfl ?_
  refine j_iload_n X dX11_valueOf_21 rfl 2 rfl ?_
  refine j_zald X dX11_valueOf_22 2 rfl dd (i_nI hdd (by omega)) (by omega) (by decide) ?_
  refine j_if_eq (tgt := 32) X dX11_valueOf_23 (by decide) (fun c_23 => ?_) (fun c_23 => ?_)
  · skip
    have hs0 : 0 ≤ zs.getD dd 0 := by rcases hok with h | h; exact h.2; exact absurd (c_23.symm.trans h.1) (by decide)
    refine j_lload_n X dX11_valueOf_32 rfl 0 rfl ?_
    exact E.2.2 33 _ x_4 _ dX11_valueOf_33 (⟨rfl, by rw [ex_4, hv]; omega⟩) hr
  · skip
    have hs1 : zs.getD dd 0 ≤ 0 := by rcases hok with h | h; exact absurd h.1 c_23; exact h.2
    refine j_lconst (v := 0) X dX11_valueOf_26 rfl ?_
    refine j_lload_n X dX11_valueOf_27 rfl 0 rfl ?_
    refine j_lsub X dX11_valueOf_28 ?_
    refine j_goto (tgt := 33) X dX11_valueOf_29 (by decide) ?_
    exact E.2.2 33 _ (0 - x_4) _ dX11_valueOf_33 (⟨rfl, by rw [l_sub] <;> rw [lT0, ex_4, hv] <;> omega⟩) hr

theorem hy_X11_valueOf_V : yX11_valueOf.cls = RX11 ∧ yX11_valueOf.cls ≠ "java/lang/invoke/MethodHandle" ∧ yX11_valueOf.cls ≠ "java/lang/invoke/VarHandle" ∧ (parseMethodDescriptor yX11_valueOf.desc).map (fun d => d.parameters.length) = some 1 := by decide +kernel
